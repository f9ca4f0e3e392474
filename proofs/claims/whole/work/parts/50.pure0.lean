/-! THE PURE LEVEL: numbers, loops, the first relations -/
theorem it_succ {α β : Type} (b : (α → Option β) → α → Option β) (k : Nat) (a : α) : it b (k + 1) a = b (it b k) a := rfl
/-- a loop by a measure: what it gives for every start that is P -/
theorem it_spec {α β : Type} {b : (α → Option β) → α → Option β} (P : α → Prop) (μ : α → Nat) (R : α → β → Prop) (h : ∀ (g : α → Option β) (a : α), P a → (∀ a', P a' → μ a' < μ a → ∃ z, g a' = some z ∧ R a' z) → ∃ z, b g a = some z ∧ R a z) : ∀ (k : Nat) (a : α), P a → μ a < k → ∃ z, it b k a = some z ∧ R a z := by
  intro k
  induction k with
  | zero => intro a _ h1; exact absurd h1 (Nat.not_lt_zero _)
  | succ k ih =>
    intro a hP hk
    rw [it_succ]
    exact h (it b k) a hP (fun a' hP' hlt => ih a' hP' (by omega))
/-- an Int32 by its number -/
theorem i_lt {a b : Int32} : a < b ↔ a.toInt < b.toInt := Int32.lt_iff_toInt_lt
theorem i_le {a b : Int32} : a ≤ b ↔ a.toInt ≤ b.toInt := Int32.le_iff_toInt_le
theorem i_eq {a b : Int32} : a = b ↔ a.toInt = b.toInt := Int32.toInt_inj.symm
theorem i_rng (a : Int32) : -2147483648 ≤ a.toInt ∧ a.toInt ≤ 2147483647 := ⟨Int32.le_toInt a, by have := Int32.toInt_lt a; omega⟩
theorem i_add {a b : Int32} (h1 : -2147483648 ≤ a.toInt + b.toInt) (h2 : a.toInt + b.toInt ≤ 2147483647) : (a + b).toInt = a.toInt + b.toInt := by
  rw [Int32.toInt_add]
  exact Int.bmod_eq_of_le (by omega) (by omega)
theorem i_sub {a b : Int32} (h1 : -2147483648 ≤ a.toInt - b.toInt) (h2 : a.toInt - b.toInt ≤ 2147483647) : (a - b).toInt = a.toInt - b.toInt := by
  rw [Int32.toInt_sub]
  exact Int.bmod_eq_of_le (by omega) (by omega)
theorem i_mul {a b : Int32} (h1 : -2147483648 ≤ a.toInt * b.toInt) (h2 : a.toInt * b.toInt ≤ 2147483647) : (a * b).toInt = a.toInt * b.toInt := by
  rw [Int32.toInt_mul]
  exact Int.bmod_eq_of_le (by omega) (by omega)
theorem i_cl {a : Int32} (h : 0 ≤ a.toInt) : (a.toNatClampNeg : Int) = a.toInt := by
  show ((a.toInt.toNat : Nat) : Int) = a.toInt
  exact Int.toNat_of_nonneg h
theorem i_of {n : Nat} (h : n < 2147483648) : (Int32.ofNat n).toInt = (n : Int) := nI_toInt (by omega)
/-- Promise 8 -/
theorem q_restart (p0 i : Int32) (hi : 0 ≤ i.toInt ∧ i.toInt ≤ 65535) : ∃ z z', f_SC_restart p0 i = some z ∧ f_M_restart p0 i = some z' ∧ z.1 = z'.1 ∧ z.2 = z'.2.2 ∧ 0 ≤ z.2.toInt ∧ z.2.toInt ≤ 65535 := by
  unfold f_SC_restart f_M_restart
  by_cases h1 : p0 < 0
  · rw [if_pos h1, if_pos h1]
    exact ⟨_, _, rfl, rfl, rfl, rfl, hi⟩
  · rw [if_neg h1, if_neg h1]
    by_cases h2 : p0 ≤ 65535
    · rw [if_pos h2, if_pos h2]
      rw [i_lt] at h1
      rw [i_le] at h2
      exact ⟨_, _, rfl, rfl, rfl, rfl, by simpa using h1, by simpa using h2⟩
    · rw [if_neg h2, if_neg h2]
      exact ⟨_, _, rfl, rfl, rfl, rfl, hi⟩
/-- Promise 16 -/
theorem q_cut (p0 n : Int32) (hn : 0 ≤ n.toInt ∧ n.toInt ≤ 16384) : ∃ z z', f_SC_cut p0 n = some z ∧ f_M_cut p0 n = some z' ∧ z.1 = z'.1 ∧ z.2 = z'.2.2 ∧ 0 ≤ z.2.toInt ∧ z.2.toInt ≤ n.toInt := by
  unfold f_SC_cut f_M_cut
  by_cases h1 : p0 < 0
  · rw [if_pos h1, if_pos h1]
    exact ⟨_, _, rfl, rfl, rfl, rfl, hn.1, Int.le_refl _⟩
  · rw [if_neg h1, if_neg h1]
    by_cases h2 : p0 ≤ n
    · rw [if_pos h2, if_pos h2]
      rw [i_lt] at h1
      rw [i_le] at h2
      exact ⟨_, _, rfl, rfl, rfl, rfl, by simpa using h1, h2⟩
    · rw [if_neg h2, if_neg h2]
      exact ⟨_, _, rfl, rfl, rfl, rfl, hn.1, Int.le_refl _⟩
