/-- the symbols of a draft, both sides -/
def rSyms (n : Int32) (s : Nat → Int32) (n' : Int32) (s' : Nat → Int32) : Prop := n' = n ∧ 0 ≤ n.toInt ∧ n.toInt ≤ 256 ∧ ∀ i : Nat, (i : Int) < n.toInt → s i = s' i ∧ ∃ m : Nat, m < 256 ∧ s i = nI m
theorem i_z {v : Int32} : v < 0 ↔ v.toInt < 0 := by
  rw [i_lt]
  have : (0 : Int32).toInt = 0 := rfl
  rw [this]
/-- a boolean answer goes through -/
theorem ob_0 {α : Type} {a : Option α} {b : Option α} : (if (0 : Int32) = 0 ∨ (0 : Int32) = 1 then a else b) = a := if_pos (Or.inl rfl)
theorem ob_1 {α : Type} {a : Option α} {b : Option α} : (if (1 : Int32) = 0 ∨ (1 : Int32) = 1 then a else b) = a := if_pos (Or.inr rfl)
/-- Promise 4 -/
theorem q_symbols (N : Nat) (hN : 100 ≤ N) (p0 : Int64) (p1 : Int32) {n n' : Int32} {s s' : Nat → Int32} (h : rSyms n s n' s') : ∃ z z', f_SC_symbols N p0 p1 n s = some z ∧ f_M_symbols N p0 p1 n' s' = some z' ∧ z.1 = z'.1 ∧ rSyms z.2.1 z.2.2 z'.2.2.1 z'.2.2.2 := by
  have h0 := h
  obtain ⟨rfl, h1, h2, h3⟩ := h
  have k1 : (1 : Int32).toInt = 1 := rfl
  have k8 : (8 : Int32).toInt = 8 := rfl
  have k256 : (256 : Int32).toInt = 256 := rfl
  have hm1 : (-1 : Int32).toInt = -1 := by decide
  unfold f_SC_symbols f_Draft_append f_M_symbols
  by_cases c1 : p1 < (1 : Int32)
  · rw [if_pos c1, if_pos c1, Option.bind_some, ob_0]
    exact ⟨_, _, rfl, rfl, rfl, h0⟩
  rw [if_neg c1, if_neg c1]
  by_cases c2 : (8 : Int32) < p1
  · rw [if_pos c2, if_pos c2, Option.bind_some, ob_0]
    exact ⟨_, _, rfl, rfl, rfl, h0⟩
  rw [if_neg c2, if_neg c2]
  rw [i_lt, k1] at c1
  rw [i_lt, k8] at c2
  have a1 : (n' + p1).toInt = n'.toInt + p1.toInt := i_add (by omega) (by omega)
  by_cases c3 : n' + p1 ≤ (256 : Int32)
  · rw [if_pos c3, if_pos c3]
    rw [i_le, a1, k256] at c3
    have s1 : (p1 - 1).toInt = p1.toInt - 1 := by rw [i_sub (by rw [k1]; omega) (by rw [k1]; omega), k1]
    have hl : ∃ z z', f_Draft_append_L30 p0 N N (p1 - (1 : Int32), n', s) = some z ∧ f_M_symbols_L35 p0 N N (p1 - (1 : Int32), n', s') = some z' ∧ rSyms z.1 z.2 z'.1 z'.2 := by
      refine it_two (P := fun (a a' : Int32 × Int32 × (Nat → Int32)) => -1 ≤ a.1.toInt ∧ a.1.toInt ≤ 7 ∧ a'.1 = a.1 ∧ a.2.1.toInt + (a.1.toInt + 1) ≤ 256 ∧ rSyms a.2.1 a.2.2 a'.2.1 a'.2.2) (μ := fun (a : Int32 × Int32 × (Nat → Int32)) => (a.1.toInt + 1).toNat) (R := fun (z z' : Int32 × (Nat → Int32)) => rSyms z.1 z.2 z'.1 z'.2) ?_ N N _ _ ⟨by dsimp only; rw [s1]; omega, by dsimp only; rw [s1]; omega, rfl, by dsimp only; rw [s1]; omega, h0⟩ (by dsimp only; rw [s1]; omega) (by dsimp only; rw [s1]; omega)
      rintro g g' ⟨v, m, d⟩ ⟨v', m', d'⟩ ⟨q1, q2, q3, q4, q5⟩ ih
      dsimp only at q1 q2 q3 q4 q5
      subst q3
      have q6 := q5
      obtain ⟨rfl, r1, r2, r3⟩ := q5
      unfold f_Draft_append_L30b f_M_symbols_L35b
      by_cases d1 : v' < 0
      · rw [if_pos d1, if_pos d1]
        exact ⟨_, _, rfl, rfl, q6⟩
      · rw [if_neg d1, if_neg d1]
        rw [i_z] at d1
        obtain ⟨k, hk, rfl⟩ := i_small (v := v') (n := 8) (by omega) (by omega) (by omega)
        have t1 : (nI k).toInt = k := nI_toInt (by omega)
        rw [t1] at q4 d1
        have g1 : ¬ (m' < 0 ∨ 256 ≤ m'.toNatClampNeg) := i_in r1 (by omega)
        rw [if_neg g1, if_neg g1, byte_sh p0 k hk]
        obtain ⟨x, hx, hE⟩ := byte_rng (p0 >>> (((8 : Int32) * nI k).toInt64 &&& 63))
        rw [hE]
        have s2 : (nI k + (-1 : Int32)).toInt = (k : Int) - 1 := by
          rw [i_add (by rw [t1, hm1]; omega) (by rw [t1, hm1]; omega), t1, hm1]
          omega
        have s3 : (m' + (1 : Int32)).toInt = m'.toInt + 1 := by rw [i_add (by rw [k1]; omega) (by rw [k1]; omega), k1]
        have s4 := i_cl r1
        clear k1 k8 k256 hm1 s1 a1 c3 c2 c1
        obtain ⟨w, hw⟩ : ∃ w : Int, w = (nI k + (-1 : Int32)).toInt := ⟨_, rfl⟩
        obtain ⟨y, hy⟩ : ∃ y : Int, y = (m' + (1 : Int32)).toInt := ⟨_, rfl⟩
        rw [← hw] at s2
        rw [← hy] at s3
        have hs5 : rSyms (m' + (1 : Int32)) (upd d m'.toNatClampNeg (nI x)) (m' + (1 : Int32)) (upd d' m'.toNatClampNeg (nI x)) := by
          refine ⟨rfl, ?_, ?_, fun i hi => ?_⟩
          · rw [← hy, s3]
            exact Int.le_trans r1 (Int.le_add_of_nonneg_right (by decide))
          · rw [← hy, s3]
            clear hw hy
            omega
          rw [← hy, s3] at hi
          by_cases hi2 : i = m'.toNatClampNeg
          · rw [hi2, pk_us, pk_us]
            exact ⟨rfl, x, hx, rfl⟩
          · rw [pk_un hi2, pk_un hi2]
            refine r3 i ?_
            clear hw hy
            omega
        have b1 : -1 ≤ (nI k + (-1 : Int32)).toInt := by rw [← hw, s2]; clear hw hy hs5; omega
        have b2 : (nI k + (-1 : Int32)).toInt ≤ 7 := by rw [← hw, s2]; clear hw hy hs5; omega
        have b3 : (m' + (1 : Int32)).toInt + ((nI k + (-1 : Int32)).toInt + 1) ≤ 256 := by rw [← hw, ← hy, s2, s3]; clear hw hy hs5; omega
        have b4 : ((nI k + (-1 : Int32)).toInt + 1).toNat < ((nI k).toInt + 1).toNat := by rw [← hw, s2, t1]; clear hw hy hs5; omega
        exact ih (nI k + (-1 : Int32), m' + (1 : Int32), upd d m'.toNatClampNeg (nI x)) (nI k + (-1 : Int32), m' + (1 : Int32), upd d' m'.toNatClampNeg (nI x)) ⟨b1, b2, rfl, b3, hs5⟩ b4
    obtain ⟨z, z', e1, e2, e3⟩ := hl
    rw [e1, e2, Option.bind_some, Option.bind_some, Option.bind_some, ob_1]
    exact ⟨_, _, rfl, rfl, rfl, e3⟩
  · rw [if_neg c3, if_neg c3, Option.bind_some, ob_0]
    exact ⟨_, _, rfl, rfl, rfl, h0⟩
