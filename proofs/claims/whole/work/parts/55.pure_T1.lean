/-- bytes of a long by the one shift or the other -/
theorem byte_i8 {x y : Int64} (h : (x &&& (255 : Int64)) = (y &&& (255 : Int64))) : x.toInt32.toInt8 = y.toInt32.toInt8 := by
  apply Int8.toBitVec_inj.mp
  apply BitVec.eq_of_getLsbD_eq
  intro i hi
  have h2 : ∀ z : Int64, z.toInt32.toInt8.toBitVec.getLsbD i = (z &&& (255 : Int64)).toBitVec.getLsbD i := by
    intro z
    have h255 : ∀ i, i < 8 → (255 : Int64).toBitVec.getLsbD i = true := by decide
    rw [Int64.toBitVec_and, BitVec.getLsbD_and, h255 i hi, Bool.and_true]
    rw [Int32.toBitVec_toInt8, Int64.toBitVec_toInt32]
    rw [BitVec.getLsbD_signExtend, BitVec.getLsbD_signExtend]
    simp [hi, show i < 32 by omega, show i < 64 by omega]
  rw [h2, h2, h]
theorem fits_b8 (z : Int32) : fits .byte (.int z.toInt8.toInt32) = true := by
  have h1 := Int8.le_toInt z.toInt8
  have h2 := Int8.toInt_lt z.toInt8
  have h3 : z.toInt8.toInt32.toInt = z.toInt8.toInt := Int8.toInt_toInt32 _
  have k1 : (-128 : Int32).toInt = -128 := by decide
  have k2 : (127 : Int32).toInt = 127 := by decide
  show (decide ((-128 : Int32) ≤ z.toInt8.toInt32) && decide (z.toInt8.toInt32 ≤ (127 : Int32))) = true
  rw [Bool.and_eq_true, decide_eq_true_iff, decide_eq_true_iff, i_le, i_le, h3, k1, k2]
  exact ⟨h1, by omega⟩
/-- growing -/
def rGrow (n m cap : Nat) : Prop := n < m ∧ m ≤ cap ∧ (2 * n ≤ m ∨ m = cap)
theorem q_reserve {P : Int} {nb : Nat} {sb : Nat → Int32} (h0 : 0 ≤ P) (h1 : P ≤ 16384) (h2 : 64 ≤ nb) (h3 : nb ≤ 16384) (hf : ∀ i, fits .byte (.int (sb i)) = true) :
    (P ≤ nb ∧ ∀ ms, f_Store_reserve ms (zI P) nb sb = some (nb, sb)) ∨
    ((nb : Int) < P ∧ f_Store_reserve 0 (zI P) nb sb = none ∧ ∃ nb' sb', f_Store_reserve 16384 (zI P) nb sb = some (nb', sb') ∧ P ≤ nb' ∧ rGrow nb nb' 16384 ∧ (∀ i, i < nb → sb' i = sb i) ∧ ∀ i, fits .byte (.int (sb' i)) = true) := by
  by_cases c : P ≤ nb
  · refine Or.inl ⟨c, fun ms => ?_⟩
    unfold f_Store_reserve
    simp (disch := omega) only [zI_lit, zI_ofNat, zI_nI, zI_neg, zI_add, zI_sub, zI_mul, zI_lt, zI_le, zI_eq, zI_cl, zI_div, zI_shr, zI_shl, zI_and1, zI_and7, zI_and15, zI_and255, if_pos, if_neg, Option.bind_some, Option.bind_none, if_true, if_false, true_or, or_true, Int.toNat_natCast, pk_us]
  · refine Or.inr ⟨by omega, ?_⟩
    have key : ∃ Q : Int, P ≤ Q ∧ (nb : Int) < Q ∧ Q ≤ 16384 ∧ (2 * (nb : Int) ≤ Q ∨ Q = 16384) ∧ (if zI P < (if (16384 : Int32) < ((2 : Int32) * (Int32.ofNat nb)) then (16384 : Int32) else ((2 : Int32) * (Int32.ofNat nb))) then (if (16384 : Int32) < ((2 : Int32) * (Int32.ofNat nb)) then (16384 : Int32) else ((2 : Int32) * (Int32.ofNat nb))) else zI P) = zI Q := by
      by_cases c2 : (16384 : Int) < 2 * nb
      · refine ⟨16384, by omega, by omega, by omega, by omega, ?_⟩
        simp (disch := omega) only [zI_lit, zI_ofNat, zI_nI, zI_neg, zI_add, zI_sub, zI_mul, zI_lt, zI_le, zI_eq, zI_cl, zI_div, zI_shr, zI_shl, zI_and1, zI_and7, zI_and15, zI_and255, if_pos, if_neg, Option.bind_some, Option.bind_none, if_true, if_false, true_or, or_true, Int.toNat_natCast, pk_us]
        split
        · rfl
        · congr 1; omega
      · by_cases c3 : P < 2 * nb
        · refine ⟨2 * nb, by omega, by omega, by omega, by omega, ?_⟩
          simp (disch := omega) only [zI_lit, zI_ofNat, zI_nI, zI_neg, zI_add, zI_sub, zI_mul, zI_lt, zI_le, zI_eq, zI_cl, zI_div, zI_shr, zI_shl, zI_and1, zI_and7, zI_and15, zI_and255, if_pos, if_neg, Option.bind_some, Option.bind_none, if_true, if_false, true_or, or_true, Int.toNat_natCast, pk_us]
        · refine ⟨P, by omega, by omega, by omega, by omega, ?_⟩
          simp (disch := omega) only [zI_lit, zI_ofNat, zI_nI, zI_neg, zI_add, zI_sub, zI_mul, zI_lt, zI_le, zI_eq, zI_cl, zI_div, zI_shr, zI_shl, zI_and1, zI_and7, zI_and15, zI_and255, if_pos, if_neg, Option.bind_some, Option.bind_none, if_true, if_false, true_or, or_true, Int.toNat_natCast, pk_us]
    obtain ⟨Q, q1, q2, q3, q4, hQ⟩ := key
    unfold f_Store_reserve f_Arrays_copyOf
    rw [hQ]
    simp (disch := omega) only [zI_lit, zI_ofNat, zI_nI, zI_neg, zI_add, zI_sub, zI_mul, zI_lt, zI_le, zI_eq, zI_cl, zI_div, zI_shr, zI_shl, zI_and1, zI_and7, zI_and15, zI_and255, if_pos, if_neg, Option.bind_some, Option.bind_none, if_true, if_false, true_or, or_true, Int.toNat_natCast, pk_us]
    rw [if_pos (fun i _ => hf _)]
    refine ⟨trivial, Q.toNat, _, rfl, by omega, ⟨by omega, by omega, by omega⟩, fun i hi => ?_, fun i => ?_⟩
    · show (if 0 ≤ i ∧ i < 0 + nb then sb (0 + (i - 0)) else _) = _
      rw [if_pos (by omega)]
      congr 1; omega
    · show fits _ (.int (if 0 ≤ i ∧ i < 0 + nb then sb (0 + (i - 0)) else _)) = _
      by_cases c5 : 0 ≤ i ∧ i < 0 + nb
      · rw [if_pos c5]; exact hf _
      · rw [if_neg c5]; decide
/-- what stands in a row below n, both sides -/
theorem q_give (N : Nat) (hN : 100 ≤ N) (p0 : Int64) (p1 : Int32) {n n' : Int32} {nb : Nat} {sb md : Nat → Int32} (h : rData n nb sb n' md) :
    ∃ z z', f_M_give N p0 p1 n' md = some z' ∧ z.1 = z'.1 ∧ rData z.2.1 z.2.2.1 z.2.2.2 z'.2.2.1 z'.2.2.2 ∧
      (f_SC_give 0 N p0 p1 n nb sb = some z ∧ z.2.2.1 = nb ∨ f_SC_give 0 N p0 p1 n nb sb = none ∧ f_SC_give 16384 N p0 p1 n nb sb = some z ∧ rGrow nb z.2.2.1 16384) := by
  have h0 := h
  obtain ⟨rfl, a1, a2, a3, a4, a5, a6, a7, a8⟩ := h
  obtain ⟨n, hn⟩ : ∃ n, n = n'.toInt := ⟨_, rfl⟩
  obtain rfl : n' = zI n := by rw [hn]; exact zI_of _
  rw [← hn] at a1 a2 a3 a6
  obtain ⟨p, hp⟩ : ∃ p, p = p1.toInt := ⟨_, rfl⟩
  have hp1 := i_rng p1
  rw [← hp] at hp1
  obtain rfl : p1 = zI p := by rw [hp]; exact zI_of _
  clear hn hp
  unfold f_SC_give f_Store_append f_M_give
  by_cases c : 1 ≤ p ∧ p ≤ 8 ∧ n + p ≤ 16384
  · have loop : ∀ (nb1 : Nat) (sb1 : Nat → Int32), n + p ≤ nb1 → nb1 ≤ 16384 → (∀ i : Nat, (i : Int) < n → sb1 i = md i) → (∀ i, fits .byte (.int (sb1 i)) = true) →
        ∃ z z', f_Store_append_L40 nb1 p0 N N (zI (p - 1), zI n, sb1) = some z ∧ f_M_give_L35 p0 N N (zI (p - 1), zI n, md) = some z' ∧ z.1 = zI (n + p) ∧ z'.1 = zI (n + p) ∧ (∀ i : Nat, (i : Int) < n + p → z.2 i = z'.2 i) ∧ (∀ i, fits .byte (.int (z.2 i)) = true) ∧ ∀ i, fits .byte (.int (z'.2 i)) = true := by
      intro nb1 sb1 b1 b2 b3 b4
      refine it_two (P := fun (a a' : Int32 × Int32 × (Nat → Int32)) => ∃ v m : Int, a.1 = zI v ∧ a'.1 = zI v ∧ a.2.1 = zI m ∧ a'.2.1 = zI m ∧ -1 ≤ v ∧ v ≤ 7 ∧ 0 ≤ m ∧ m + v + 1 = n + p ∧ (∀ i : Nat, (i : Int) < m → a.2.2 i = a'.2.2 i) ∧ (∀ i, fits .byte (.int (a.2.2 i)) = true) ∧ ∀ i, fits .byte (.int (a'.2.2 i)) = true) (μ := fun (a : Int32 × Int32 × (Nat → Int32)) => (a.1.toInt + 1).toNat) (R := fun (z z' : Int32 × (Nat → Int32)) => z.1 = zI (n + p) ∧ z'.1 = zI (n + p) ∧ (∀ i : Nat, (i : Int) < n + p → z.2 i = z'.2 i) ∧ (∀ i, fits .byte (.int (z.2 i)) = true) ∧ ∀ i, fits .byte (.int (z'.2 i)) = true) ?_ N N _ _ ⟨p - 1, n, rfl, rfl, rfl, rfl, by omega, by omega, by omega, by omega, b3, b4, a8⟩ (by dsimp only; rw [zI_toInt (by omega) (by omega)]; omega) (by dsimp only; rw [zI_toInt (by omega) (by omega)]; omega)
      rintro g g' ⟨v, m, d⟩ ⟨v', m', d'⟩ ⟨w, x, q1, q2, q3, q4, q5, q6, q7, q8, q9, q10, q11⟩ ih
      dsimp only at q1 q2 q3 q4 q9 q10 q11
      subst q1 q2 q3 q4
      unfold f_Store_append_L40b f_M_give_L35b
      by_cases d1 : w < 0
      · simp (disch := omega) only [zI_lit, zI_ofNat, zI_nI, zI_neg, zI_add, zI_sub, zI_mul, zI_lt, zI_le, zI_eq, zI_cl, zI_div, zI_shr, zI_shl, zI_and1, zI_and7, zI_and15, zI_and255, if_pos, if_neg, Option.bind_some, Option.bind_none, if_true, if_false, true_or, or_true, Int.toNat_natCast, pk_us]
        obtain rfl : x = n + p := by omega
        exact ⟨_, _, rfl, rfl, rfl, rfl, q9, q10, q11⟩
      · obtain ⟨k, rfl⟩ : ∃ k : Nat, w = k := ⟨w.toNat, by omega⟩
        have e1 := byte_i8 (byte_sh p0 k (by omega))
        rw [zI_nI] at e1
        rw [e1]
        have e2 := fits_b8 ((p0 >>> (((8 : Int32) * zI k).toInt64 &&& 63)).toInt32)
        have e3 := pk_vb ((p0 >>> (((8 : Int32) * zI k).toInt64 &&& 63)).toInt32)
        rw [e3]
        generalize ((p0 >>> (((8 : Int32) * zI k).toInt64 &&& 63)).toInt32).toInt8.toInt32 = y at e2 ⊢
        simp (disch := omega) only [zI_lit, zI_ofNat, zI_nI, zI_neg, zI_add, zI_sub, zI_mul, zI_lt, zI_le, zI_eq, zI_cl, zI_div, zI_shr, zI_shl, zI_and1, zI_and7, zI_and15, zI_and255, if_pos, if_neg, Option.bind_some, Option.bind_none, if_true, if_false, true_or, or_true, Int.toNat_natCast, pk_us]
        refine ih _ _ ⟨k + -1, x + 1, rfl, rfl, rfl, rfl, by omega, by omega, by omega, by omega, fun i hi => ?_, fun i => ?_, fun i => ?_⟩ ?_
        · dsimp only
          by_cases hi2 : i = x.toNat
          · rw [hi2, pk_us, pk_us]
          · rw [pk_un hi2, pk_un hi2]; exact q9 i (by omega)
        · dsimp only
          by_cases hi2 : i = x.toNat
          · rw [hi2, pk_us]; exact e2
          · rw [pk_un hi2]; exact q10 i
        · dsimp only
          by_cases hi2 : i = x.toNat
          · rw [hi2, pk_us]; exact e2
          · rw [pk_un hi2]; exact q11 i
        · dsimp only
          rw [zI_toInt (by omega) (by omega), zI_toInt (by omega) (by omega)]
          omega
    simp (disch := omega) only [zI_lit, zI_ofNat, zI_nI, zI_neg, zI_add, zI_sub, zI_mul, zI_lt, zI_le, zI_eq, zI_cl, zI_div, zI_shr, zI_shl, zI_and1, zI_and7, zI_and15, zI_and255, if_pos, if_neg, Option.bind_some, Option.bind_none, if_true, if_false, true_or, or_true, Int.toNat_natCast, pk_us]
    rcases q_reserve (P := n + p) (by omega) c.2.2 a4 a5 a7 with ⟨r1, r2⟩ | ⟨r1, r2, nb', sb', r3, r4, r5, r6, r7⟩
    · obtain ⟨z, z', l1, l2, l3, l4, l5, l6, l7⟩ := loop nb sb r1 a5 a6 a7
      refine ⟨(1, z.1, nb, z.2), (1, 0, z'.1, z'.2), ?_, rfl, ?_, Or.inl ⟨?_, rfl⟩⟩
      · rw [l2]; rfl
      · refine ⟨by dsimp only; rw [l3, l4], ?_⟩
        dsimp only
        rw [l3, zI_toInt (by omega) (by omega)]
        exact ⟨by omega, by omega, r1, a4, a5, l5, l6, l7⟩
      · rw [r2 0]
        dsimp only [Option.bind_some]
        rw [l1]
        rfl
    · obtain ⟨z, z', l1, l2, l3, l4, l5, l6, l7⟩ := loop nb' sb' r4 r5.2.1 (fun i hi => by rw [r6 i (by omega)]; exact a6 i hi) r7
      refine ⟨(1, z.1, nb', z.2), (1, 0, z'.1, z'.2), ?_, rfl, ?_, Or.inr ⟨?_, ?_, r5⟩⟩
      · rw [l2]; rfl
      · refine ⟨by dsimp only; rw [l3, l4], ?_⟩
        dsimp only
        rw [l3, zI_toInt (by omega) (by omega)]
        exact ⟨by omega, by omega, r4, by have := r5.1; omega, r5.2.1, l5, l6, l7⟩
      · rw [r2]; rfl
      · rw [r3]
        dsimp only [Option.bind_some]
        rw [l1]
        rfl
  · refine ⟨(0, zI n, nb, sb), (0, 0, zI n, md), ?_, rfl, h0, Or.inl ⟨?_, rfl⟩⟩
    · by_cases c1 : p < 1
      · simp (disch := omega) only [zI_lit, zI_ofNat, zI_nI, zI_neg, zI_add, zI_sub, zI_mul, zI_lt, zI_le, zI_eq, zI_cl, zI_div, zI_shr, zI_shl, zI_and1, zI_and7, zI_and15, zI_and255, if_pos, if_neg, Option.bind_some, Option.bind_none, if_true, if_false, true_or, or_true, Int.toNat_natCast, pk_us]
      · by_cases c2 : 8 < p
        · simp (disch := omega) only [zI_lit, zI_ofNat, zI_nI, zI_neg, zI_add, zI_sub, zI_mul, zI_lt, zI_le, zI_eq, zI_cl, zI_div, zI_shr, zI_shl, zI_and1, zI_and7, zI_and15, zI_and255, if_pos, if_neg, Option.bind_some, Option.bind_none, if_true, if_false, true_or, or_true, Int.toNat_natCast, pk_us]
        · simp (disch := omega) only [zI_lit, zI_ofNat, zI_nI, zI_neg, zI_add, zI_sub, zI_mul, zI_lt, zI_le, zI_eq, zI_cl, zI_div, zI_shr, zI_shl, zI_and1, zI_and7, zI_and15, zI_and255, if_pos, if_neg, Option.bind_some, Option.bind_none, if_true, if_false, true_or, or_true, Int.toNat_natCast, pk_us]
    · by_cases c1 : p < 1
      · simp (disch := omega) only [zI_lit, zI_ofNat, zI_nI, zI_neg, zI_add, zI_sub, zI_mul, zI_lt, zI_le, zI_eq, zI_cl, zI_div, zI_shr, zI_shl, zI_and1, zI_and7, zI_and15, zI_and255, if_pos, if_neg, Option.bind_some, Option.bind_none, if_true, if_false, true_or, or_true, Int.toNat_natCast, pk_us]
      · by_cases c2 : 8 < p
        · simp (disch := omega) only [zI_lit, zI_ofNat, zI_nI, zI_neg, zI_add, zI_sub, zI_mul, zI_lt, zI_le, zI_eq, zI_cl, zI_div, zI_shr, zI_shl, zI_and1, zI_and7, zI_and15, zI_and255, if_pos, if_neg, Option.bind_some, Option.bind_none, if_true, if_false, true_or, or_true, Int.toNat_natCast, pk_us]
        · simp (disch := omega) only [zI_lit, zI_ofNat, zI_nI, zI_neg, zI_add, zI_sub, zI_mul, zI_lt, zI_le, zI_eq, zI_cl, zI_div, zI_shr, zI_shl, zI_and1, zI_and7, zI_and15, zI_and255, if_pos, if_neg, Option.bind_some, Option.bind_none, if_true, if_false, true_or, or_true, Int.toNat_natCast, pk_us]
