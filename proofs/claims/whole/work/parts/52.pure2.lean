/-- a small Int32 is one of its numbers -/
theorem i_small {v : Int32} {n : Nat} (h0 : 0 ≤ v.toInt) (h1 : v.toInt < n) (hn : n < 2147483648) : ∃ k : Nat, k < n ∧ v = nI k := by
  refine ⟨v.toInt.toNat, by omega, ?_⟩
  rw [i_eq, nI_toInt (by omega)]
  omega
/-- byte k of a long, by the one shift or the other -/
theorem byte_sh : ∀ (p : Int64) (k : Nat), k < 8 → ((p.toUInt64 >>> (((8 : Int32) * nI k).toInt64.toUInt64 &&& Int64.toUInt64 63)).toInt64 &&& (255 : Int64)) = ((p >>> (((8 : Int32) * nI k).toInt64 &&& 63)) &&& (255 : Int64)) := by
  intro p k hk
  have hs : ∀ k, k < 8 → (((8 : Int32) * nI k).toInt64.toUInt64 &&& Int64.toUInt64 63).toNat % 64 = 8 * k := by decide
  have ht : ∀ k, k < 8 → ((((8 : Int32) * nI k).toInt64 &&& 63).toBitVec.smod 64).toNat = 8 * k := by decide
  apply Int64.toBitVec_inj.mp
  apply BitVec.eq_of_getLsbD_eq
  intro i hi
  rw [Int64.toBitVec_and, Int64.toBitVec_and, BitVec.getLsbD_and, BitVec.getLsbD_and]
  by_cases h8 : i < 8
  · congr 1
    show ((p.toUInt64 >>> (((8 : Int32) * nI k).toInt64.toUInt64 &&& Int64.toUInt64 63)).toBitVec).getLsbD i = _
    have hs2 : ((((8 : Int32) * nI k).toInt64.toUInt64 &&& Int64.toUInt64 63).toBitVec % 64).toNat = 8 * k := by
      have := hs k hk
      rw [BitVec.toNat_umod]
      exact this
    rw [UInt64.toBitVec_shiftRight, Int64.toBitVec_shiftRight, BitVec.ushiftRight_eq', BitVec.getLsbD_ushiftRight, BitVec.sshiftRight_eq', BitVec.getLsbD_sshiftRight, ht k hk, hs2]
    rw [if_pos (by omega)]
    simp [hi]
  · have : (255 : Int64).toBitVec.getLsbD i = false := by
      have : ∀ i, i < 64 → ¬ i < 8 → (255 : Int64).toBitVec.getLsbD i = false := by decide
      exact this i hi h8
    rw [this, Bool.and_false, Bool.and_false]
/-- what is masked to a byte is one -/
theorem byte_rng (x : Int64) : ∃ n : Nat, n < 256 ∧ (x &&& (255 : Int64)).toInt32 = nI n := by
  refine ⟨(x &&& (255 : Int64)).toBitVec.toNat, ?_, ?_⟩
  · rw [Int64.toBitVec_and, BitVec.toNat_and]
    have h255 : (255 : Int64).toBitVec.toNat = 255 := by decide
    rw [h255]
    exact Nat.lt_succ_of_le Nat.and_le_right
  · rw [← lN_i]
    congr 1
    apply Int64.toBitVec_inj.mp
    show (x &&& (255 : Int64)).toBitVec = BitVec.ofNat 64 (x &&& (255 : Int64)).toBitVec.toNat
    rw [BitVec.ofNat_toNat, BitVec.setWidth_eq]
/-- two loops side by side -/
theorem it_two {α β α' β' : Type} {b : (α → Option β) → α → Option β} {b' : (α' → Option β') → α' → Option β'} (P : α → α' → Prop) (μ : α → Nat) (R : β → β' → Prop)
    (h : ∀ (g : α → Option β) (g' : α' → Option β') (a : α) (a' : α'), P a a' → (∀ c c', P c c' → μ c < μ a → ∃ z z', g c = some z ∧ g' c' = some z' ∧ R z z') → ∃ z z', b g a = some z ∧ b' g' a' = some z' ∧ R z z') :
    ∀ (k k' : Nat) (a : α) (a' : α'), P a a' → μ a < k → μ a < k' → ∃ z z', it b k a = some z ∧ it b' k' a' = some z' ∧ R z z' := by
  intro k
  induction k with
  | zero => intro k' a a' _ h1; exact absurd h1 (Nat.not_lt_zero _)
  | succ k ih =>
    intro k' a a' hP hk hk'
    cases k' with
    | zero => exact absurd hk' (Nat.not_lt_zero _)
    | succ k' =>
      rw [it_succ, it_succ]
      exact h (it b k) (it b' k') a a' hP (fun c c' hc hlt => ih k' c c' hc (by omega) (by omega))
/-- the counts of a draft, both sides -/
def rCounts (c c' : Nat → Int32) : Prop := ∀ j, 1 ≤ j → j ≤ 16 → c j = c' j ∧ ∃ n : Nat, n < 256 ∧ c j = nI n
/-- Promise 3 -/
theorem q_counts (N : Nat) (hN : 100 ≤ N) (p0 p1 : Int64) (c c' : Nat → Int32) : ∃ z z', f_SC_counts N p0 p1 c = some z ∧ f_M_counts N p0 p1 c' = some z' ∧ z.1 = 0 ∧ z'.2.1 = 0 ∧ rCounts z.2 z'.2.2 := by
  have hl : ∃ z z', f_Draft_begin_L3 p0 p1 N N ((0 : Int32), c) = some z ∧ f_M_counts_L8 p0 p1 N N ((0 : Int32), c') = some z' ∧ rCounts z z' := by
    refine it_two (P := fun a a' => ∃ k : Nat, k ≤ 8 ∧ a.1 = nI k ∧ a'.1 = nI k ∧ ∀ j, (1 ≤ j ∧ j ≤ k ∨ 9 ≤ j ∧ j < 9 + k) → a.2 j = a'.2 j ∧ ∃ n : Nat, n < 256 ∧ a.2 j = nI n) (μ := fun a => 8 - a.1.toNatClampNeg) (R := rCounts) ?_ N N _ _ ⟨0, by omega, rfl, rfl, fun j hj => absurd hj (by omega)⟩ (by simp; omega) (by simp; omega)
    rintro g g' ⟨v, d⟩ ⟨v', d'⟩ ⟨k, hk, hv, hv', hd⟩ ih
    dsimp only at hv hv' hd
    subst hv
    subst hv'
    unfold f_Draft_begin_L3b f_M_counts_L8b
    have t1 : (nI k).toInt = k := nI_toInt (by omega)
    have k8 : (8 : Int32).toInt = 8 := rfl
    by_cases c1 : (8 : Int32) ≤ nI k
    · rw [if_pos c1, if_pos c1]
      rw [i_le, t1, k8] at c1
      exact ⟨_, _, rfl, rfl, fun j h1 h2 => hd j (by omega)⟩
    · rw [if_neg c1, if_neg c1]
      rw [i_le, t1, k8] at c1
      have e1 : nI k + 1 = nI (k + 1) := nI_1 k
      have e2 : (1 : Int32) + nI k = nI (k + 1) := by rw [Int32.add_comm]; exact e1
      have e9 : nI k + 9 = nI (k + 9) := nI_add k 9
      have e9' : (9 : Int32) + nI k = nI (k + 9) := by rw [Int32.add_comm]; exact e9
      rw [e1, e2, e9, e9']
      have g1 : ¬ (nI (k + 1) < 0 ∨ 17 ≤ (nI (k + 1)).toNatClampNeg) := i_in (by rw [nI_toInt (by omega)]; omega) (by rw [nI_toInt (by omega)]; omega)
      have g9 : ¬ (nI (k + 9) < 0 ∨ 17 ≤ (nI (k + 9)).toNatClampNeg) := i_in (by rw [nI_toInt (by omega)]; omega) (by rw [nI_toInt (by omega)]; omega)
      rw [if_neg g1, if_neg g9, if_neg g1, if_neg g9, byte_sh p0 k (by omega), byte_sh p1 k (by omega), nI_clamp (by omega), nI_clamp (by omega)]
      refine ih _ _ ⟨k + 1, by omega, rfl, rfl, fun j hj => ?_⟩ (by dsimp only; rw [nI_clamp (by omega), nI_clamp (by omega)]; omega)
      dsimp only
      by_cases h9 : j = k + 9
      · subst h9
        rw [pk_us, pk_us]
        exact ⟨rfl, byte_rng _⟩
      · rw [pk_un h9, pk_un h9]
        by_cases h1 : j = k + 1
        · subst h1
          rw [pk_us, pk_us]
          exact ⟨rfl, byte_rng _⟩
        · rw [pk_un h1, pk_un h1]
          exact hd j (by omega)
  obtain ⟨z, z', h1, h2, h3⟩ := hl
  unfold f_SC_counts f_M_counts f_Draft_begin
  rw [h1, h2]
  exact ⟨_, _, rfl, rfl, rfl, rfl, h3⟩
