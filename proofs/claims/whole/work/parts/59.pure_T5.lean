/-! fills, clear, base -/
theorem q_fillI (N n : Nat) (hN : n < N) (hn : n < 2147483648) (v : Int32) (f : Nat → Int32) : ∃ z, f_Arrays_fillI N v n f = some z ∧ (∀ i, i < n → z i = v) ∧ ∀ i, n ≤ i → z i = f i := by
  have : ∃ z, f_Arrays_fillI_L5 (Int32.ofNat n) n v N N ((0 : Int32), f) = some z ∧ ((∀ i, i < n → z i = v) ∧ ∀ i, n ≤ i → z i = f i) := by
    refine it_cnt (P := fun c (a : Int32 × (Nat → Int32)) => a.1 = zI c ∧ (∀ i, i < c → a.2 i = v) ∧ ∀ i, n ≤ i → a.2 i = f i) (R := fun (z : Nat → Int32) => (∀ i, i < n → z i = v) ∧ ∀ i, n ≤ i → z i = f i) n ?_ ?_ N 0 _ ⟨rfl, fun i hi => absurd hi (by omega), fun i _ => rfl⟩ (by omega) (by omega)
    · rintro g c ⟨a, d⟩ hc ⟨q1, q2, q3⟩ ih
      dsimp only at q1 q2 q3
      subst q1
      unfold f_Arrays_fillI_L5b
      simp (disch := omega) only [zI_lit, zI_ofNat, zI_nI, zI_neg, zI_add, zI_sub, zI_mul, zI_lt, zI_le, zI_eq, zI_cl, zI_div, zI_shr, zI_shl, zI_and1, zI_and7, zI_and15, zI_and255, if_pos, if_neg, Option.bind_some, Option.bind_none, if_true, if_false, true_or, or_true, Int.toNat_natCast, pk_us]
      refine ih _ ⟨rfl, fun i hi => ?_, fun i hi => ?_⟩
      · dsimp only
        by_cases e : i = c
        · rw [e, pk_us]
        · rw [pk_un e]; exact q2 i (by omega)
      · dsimp only
        rw [pk_un (by omega)]; exact q3 i hi
    · rintro g ⟨a, d⟩ ⟨q1, q2, q3⟩
      dsimp only at q1 q2 q3
      subst q1
      unfold f_Arrays_fillI_L5b
      simp (disch := omega) only [zI_lit, zI_ofNat, zI_nI, zI_neg, zI_add, zI_sub, zI_mul, zI_lt, zI_le, zI_eq, zI_cl, zI_div, zI_shr, zI_shl, zI_and1, zI_and7, zI_and15, zI_and255, if_pos, if_neg, Option.bind_some, Option.bind_none, if_true, if_false, true_or, or_true, Int.toNat_natCast, pk_us]
      exact ⟨_, rfl, q2, q3⟩
  obtain ⟨z, h1, h2⟩ := this
  unfold f_Arrays_fillI
  rw [h1]
  exact ⟨_, rfl, h2⟩
theorem q_fillS (N n : Nat) (hN : n < N) (hn : n < 2147483648) (f : Nat → Int32) : ∃ z, f_Arrays_fillS N (0 : Int32) n f = some z ∧ (∀ i, i < n → z i = zI 0) := by
  have : ∃ z, f_Arrays_fillS_L5 (Int32.ofNat n) n (0 : Int32) N N ((0 : Int32), f) = some z ∧ (∀ i, i < n → z i = zI 0) := by
    refine it_cnt (P := fun c (a : Int32 × (Nat → Int32)) => a.1 = zI c ∧ (∀ i, i < c → a.2 i = zI 0)) (R := fun (z : Nat → Int32) => (∀ i, i < n → z i = zI 0)) n ?_ ?_ N 0 _ ⟨rfl, fun i hi => absurd hi (by omega)⟩ (by omega) (by omega)
    · rintro g c ⟨a, d⟩ hc ⟨q1, q2⟩ ih
      dsimp only at q1 q2
      subst q1
      unfold f_Arrays_fillS_L5b
      simp (disch := omega) only [zI_lit, zI_ofNat, zI_nI, zI_neg, zI_add, zI_sub, zI_mul, zI_lt, zI_le, zI_eq, zI_cl, zI_div, zI_shr, zI_shl, zI_and1, zI_and7, zI_and15, zI_and255, if_pos, if_neg, Option.bind_some, Option.bind_none, if_true, if_false, true_or, or_true, Int.toNat_natCast, pk_us]
      refine ih _ ⟨rfl, fun i hi => ?_⟩
      dsimp only
      by_cases e : i = c
      · rw [e, pk_us]; rfl
      · rw [pk_un e]; exact q2 i (by omega)
    · rintro g ⟨a, d⟩ ⟨q1, q2⟩
      dsimp only at q1 q2
      subst q1
      unfold f_Arrays_fillS_L5b
      simp (disch := omega) only [zI_lit, zI_ofNat, zI_nI, zI_neg, zI_add, zI_sub, zI_mul, zI_lt, zI_le, zI_eq, zI_cl, zI_div, zI_shr, zI_shl, zI_and1, zI_and7, zI_and15, zI_and255, if_pos, if_neg, Option.bind_some, Option.bind_none, if_true, if_false, true_or, or_true, Int.toNat_natCast, pk_us]
      exact ⟨_, rfl, q2⟩
  obtain ⟨z, h1, h2⟩ := this
  unfold f_Arrays_fillS
  rw [h1]
  exact ⟨_, rfl, h2⟩
theorem q_fillB (N n : Nat) (hN : n < N) (hn : n < 2147483648) (f : Nat → Int32) : ∃ z, f_Arrays_fillB N (0 : Int32) n f = some z ∧ (∀ i, i < n → z i = zI 0) := by
  have : ∃ z, f_Arrays_fillB_L5 (Int32.ofNat n) n (0 : Int32) N N ((0 : Int32), f) = some z ∧ (∀ i, i < n → z i = zI 0) := by
    refine it_cnt (P := fun c (a : Int32 × (Nat → Int32)) => a.1 = zI c ∧ (∀ i, i < c → a.2 i = zI 0)) (R := fun (z : Nat → Int32) => (∀ i, i < n → z i = zI 0)) n ?_ ?_ N 0 _ ⟨rfl, fun i hi => absurd hi (by omega)⟩ (by omega) (by omega)
    · rintro g c ⟨a, d⟩ hc ⟨q1, q2⟩ ih
      dsimp only at q1 q2
      subst q1
      unfold f_Arrays_fillB_L5b
      simp (disch := omega) only [zI_lit, zI_ofNat, zI_nI, zI_neg, zI_add, zI_sub, zI_mul, zI_lt, zI_le, zI_eq, zI_cl, zI_div, zI_shr, zI_shl, zI_and1, zI_and7, zI_and15, zI_and255, if_pos, if_neg, Option.bind_some, Option.bind_none, if_true, if_false, true_or, or_true, Int.toNat_natCast, pk_us]
      refine ih _ ⟨rfl, fun i hi => ?_⟩
      dsimp only
      by_cases e : i = c
      · rw [e, pk_us]; rfl
      · rw [pk_un e]; exact q2 i (by omega)
    · rintro g ⟨a, d⟩ ⟨q1, q2⟩
      dsimp only at q1 q2
      subst q1
      unfold f_Arrays_fillB_L5b
      simp (disch := omega) only [zI_lit, zI_ofNat, zI_nI, zI_neg, zI_add, zI_sub, zI_mul, zI_lt, zI_le, zI_eq, zI_cl, zI_div, zI_shr, zI_shl, zI_and1, zI_and7, zI_and15, zI_and255, if_pos, if_neg, Option.bind_some, Option.bind_none, if_true, if_false, true_or, or_true, Int.toNat_natCast, pk_us]
      exact ⟨_, rfl, q2⟩
  obtain ⟨z, h1, h2⟩ := this
  unfold f_Arrays_fillB
  rw [h1]
  exact ⟨_, rfl, h2⟩
theorem q_clear (N B nco : Nat) (hN : 20000 ≤ N) (hB : B ≤ 192) (h1 : 64 ≤ nco) (h2 : nco ≤ 12288) (co : Nat → Int32) :
    (64 * B ≤ nco ∧ ∃ z, (∀ ms, f_Picture_clear ms N (zI B) nco co = some (nco, z)) ∧ ∀ i, i < nco → z i = zI 0) ∨
    (f_Picture_clear 0 N (zI B) nco co = none ∧ ∃ nco', f_Picture_clear 16384 N (zI B) nco co = some (nco', fun _ => 0) ∧ 64 * B ≤ nco' ∧ rGrow nco nco' 12288) := by
  unfold f_Picture_clear
  by_cases c : 64 * B ≤ nco
  · obtain ⟨z, z1, z2⟩ := q_fillS N nco (by omega) (by omega) co
    refine Or.inl ⟨c, z, fun ms => ?_, z2⟩
    rw [z1]
    simp (disch := omega) only [zI_lit, zI_ofNat, zI_nI, zI_neg, zI_add, zI_sub, zI_mul, zI_lt, zI_le, zI_eq, zI_cl, zI_div, zI_shr, zI_shl, zI_and1, zI_and7, zI_and15, zI_and255, if_pos, if_neg, Option.bind_some, Option.bind_none, if_true, if_false, true_or, or_true, Int.toNat_natCast, pk_us]
  · refine Or.inr ?_
    have key : ∃ Q : Nat, 64 * B ≤ Q ∧ nco < Q ∧ Q ≤ 12288 ∧ (2 * nco ≤ Q ∨ Q = 12288) ∧ (if zI B * (64 : Int32) < (if (12288 : Int32) < ((2 : Int32) * (Int32.ofNat nco)) then (12288 : Int32) else ((2 : Int32) * (Int32.ofNat nco))) then (if (12288 : Int32) < ((2 : Int32) * (Int32.ofNat nco)) then (12288 : Int32) else ((2 : Int32) * (Int32.ofNat nco))) else zI B * (64 : Int32)) = zI Q := by
      by_cases c2 : 12288 < 2 * nco
      · refine ⟨12288, by omega, by omega, by omega, by omega, ?_⟩
        simp (disch := omega) only [zI_lit, zI_ofNat, zI_nI, zI_neg, zI_add, zI_sub, zI_mul, zI_lt, zI_le, zI_eq, zI_cl, zI_div, zI_shr, zI_shl, zI_and1, zI_and7, zI_and15, zI_and255, if_pos, if_neg, Option.bind_some, Option.bind_none, if_true, if_false, true_or, or_true, Int.toNat_natCast, pk_us]
        split
        · rfl
        · congr 1; omega
      · by_cases c3 : 64 * B < 2 * nco
        · refine ⟨2 * nco, by omega, by omega, by omega, by omega, ?_⟩
          simp (disch := omega) only [zI_lit, zI_ofNat, zI_nI, zI_neg, zI_add, zI_sub, zI_mul, zI_lt, zI_le, zI_eq, zI_cl, zI_div, zI_shr, zI_shl, zI_and1, zI_and7, zI_and15, zI_and255, if_pos, if_neg, Option.bind_some, Option.bind_none, if_true, if_false, true_or, or_true, Int.toNat_natCast, pk_us]
          rfl
        · refine ⟨64 * B, by omega, by omega, by omega, by omega, ?_⟩
          simp (disch := omega) only [zI_lit, zI_ofNat, zI_nI, zI_neg, zI_add, zI_sub, zI_mul, zI_lt, zI_le, zI_eq, zI_cl, zI_div, zI_shr, zI_shl, zI_and1, zI_and7, zI_and15, zI_and255, if_pos, if_neg, Option.bind_some, Option.bind_none, if_true, if_false, true_or, or_true, Int.toNat_natCast, pk_us]
          congr 1; omega
    obtain ⟨Q, q1, q2, q3, q4, hQ⟩ := key
    rw [hQ]
    constructor
    · simp (disch := omega) only [zI_lit, zI_ofNat, zI_nI, zI_neg, zI_add, zI_sub, zI_mul, zI_lt, zI_le, zI_eq, zI_cl, zI_div, zI_shr, zI_shl, zI_and1, zI_and7, zI_and15, zI_and255, if_pos, if_neg, Option.bind_some, Option.bind_none, if_true, if_false, true_or, or_true, Int.toNat_natCast, pk_us]
    · refine ⟨Q, ?_, q1, q2, q3, q4⟩
      simp (disch := omega) only [zI_lit, zI_ofNat, zI_nI, zI_neg, zI_add, zI_sub, zI_mul, zI_lt, zI_le, zI_eq, zI_cl, zI_div, zI_shr, zI_shl, zI_and1, zI_and7, zI_and15, zI_and255, if_pos, if_neg, Option.bind_some, Option.bind_none, if_true, if_false, true_or, or_true, Int.toNat_natCast, pk_us]
theorem q_base (N : Nat) (hN : 20000 ≤ N) (co dt ot : Nat → Int32) : ∃ co' dt' ot', f_M_base N co dt ot = some (zI 1, zI 0, zI 63, zI 0, zI 0, zI 0, co', dt', ot') ∧ (∀ i, i < 12288 → co' i = zI 0) ∧ ∀ c, c < 4 → dt' c = zI 0 ∧ ot' c = zI 4 := by
  have l1 : ∃ z, f_M_base_L2 N N ((0 : Int32), co) = some z ∧ (∀ i, i < 12288 → z i = zI 0) := by
    refine it_cnt (P := fun c (a : Int32 × (Nat → Int32)) => a.1 = zI c ∧ (∀ i, i < c → a.2 i = zI 0)) (R := fun (z : Nat → Int32) => (∀ i, i < 12288 → z i = zI 0)) 12288 ?_ ?_ N 0 _ ⟨rfl, fun i hi => absurd hi (by omega)⟩ (by omega) (by omega)
    · rintro g c ⟨a, d⟩ hc ⟨q1, q2⟩ ih
      dsimp only at q1 q2
      subst q1
      unfold f_M_base_L2b
      simp (disch := omega) only [zI_lit, zI_ofNat, zI_nI, zI_neg, zI_add, zI_sub, zI_mul, zI_lt, zI_le, zI_eq, zI_cl, zI_div, zI_shr, zI_shl, zI_and1, zI_and7, zI_and15, zI_and255, if_pos, if_neg, Option.bind_some, Option.bind_none, if_true, if_false, true_or, or_true, Int.toNat_natCast, pk_us]
      refine ih _ ⟨rfl, fun i hi => ?_⟩
      dsimp only
      by_cases e : i = c
      · rw [e, pk_us]; rfl
      · rw [pk_un e]; exact q2 i (by omega)
    · rintro g ⟨a, d⟩ ⟨q1, q2⟩
      dsimp only at q1 q2
      subst q1
      unfold f_M_base_L2b
      simp (disch := omega) only [zI_lit, zI_ofNat, zI_nI, zI_neg, zI_add, zI_sub, zI_mul, zI_lt, zI_le, zI_eq, zI_cl, zI_div, zI_shr, zI_shl, zI_and1, zI_and7, zI_and15, zI_and255, if_pos, if_neg, Option.bind_some, Option.bind_none, if_true, if_false, true_or, or_true, Int.toNat_natCast, pk_us]
      exact ⟨_, rfl, q2⟩
  have l2 : ∃ z, f_M_base_L55 N N ((0 : Int32), dt, ot) = some z ∧ (∀ i, i < 4 → z.1 i = zI 0 ∧ z.2 i = zI 4) := by
    refine it_cnt (P := fun c (a : Int32 × (Nat → Int32) × (Nat → Int32)) => a.1 = zI c ∧ (∀ i, i < c → a.2.1 i = zI 0 ∧ a.2.2 i = zI 4)) (R := fun (z : (Nat → Int32) × (Nat → Int32)) => (∀ i, i < 4 → z.1 i = zI 0 ∧ z.2 i = zI 4)) 4 ?_ ?_ N 0 _ ⟨rfl, fun i hi => absurd hi (by omega)⟩ (by omega) (by omega)
    · rintro g c ⟨a, d, d'⟩ hc ⟨q1, q2⟩ ih
      dsimp only at q1 q2
      subst q1
      unfold f_M_base_L55b
      simp (disch := omega) only [zI_lit, zI_ofNat, zI_nI, zI_neg, zI_add, zI_sub, zI_mul, zI_lt, zI_le, zI_eq, zI_cl, zI_div, zI_shr, zI_shl, zI_and1, zI_and7, zI_and15, zI_and255, if_pos, if_neg, Option.bind_some, Option.bind_none, if_true, if_false, true_or, or_true, Int.toNat_natCast, pk_us]
      refine ih _ ⟨rfl, fun i hi => ?_⟩
      dsimp only
      by_cases e : i = c
      · rw [e, pk_us, pk_us]; exact ⟨rfl, rfl⟩
      · rw [pk_un e, pk_un e]; exact q2 i (by omega)
    · rintro g ⟨a, d, d'⟩ ⟨q1, q2⟩
      dsimp only at q1 q2
      subst q1
      unfold f_M_base_L55b
      simp (disch := omega) only [zI_lit, zI_ofNat, zI_nI, zI_neg, zI_add, zI_sub, zI_mul, zI_lt, zI_le, zI_eq, zI_cl, zI_div, zI_shr, zI_shl, zI_and1, zI_and7, zI_and15, zI_and255, if_pos, if_neg, Option.bind_some, Option.bind_none, if_true, if_false, true_or, or_true, Int.toNat_natCast, pk_us]
      exact ⟨_, rfl, q2⟩
  obtain ⟨z1, a1, a2⟩ := l1
  obtain ⟨z2, b1, b2⟩ := l2
  unfold f_M_base
  rw [a1, b1]
  exact ⟨_, _, _, rfl, a2, b2⟩
