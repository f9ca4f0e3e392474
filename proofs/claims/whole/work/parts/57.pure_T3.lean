/-! the frame: the one side -/
theorem jzC_c (a b : Nat) (hb : 1 ≤ b) : ((a : Int) + b - 1) / b = ((jzC a b : Nat) : Int) := by
  unfold jzC
  rw [Int.natCast_ediv]
  congr 1
  omega
theorem jzC_le (a b : Nat) (hb : 1 ≤ b) : jzC a b ≤ a := by
  unfold jzC
  rw [Nat.div_le_iff_le_mul_add_pred (by omega)]
  have : a * 1 ≤ b * a := by rw [Nat.mul_comm b a]; exact Nat.mul_le_mul_left a hb
  omega
theorem q_divideUp (a b : Nat) (ha : a ≤ 10000) (hb : 1 ≤ b) (hb2 : b ≤ 10000) : f_Picture_divideUp (zI a) (zI b) = some (zI (jzC a b : Nat)) := by
  unfold f_Picture_divideUp
  simp (disch := omega) only [zI_lit, zI_ofNat, zI_nI, zI_neg, zI_add, zI_sub, zI_mul, zI_lt, zI_le, zI_eq, zI_cl, zI_div, zI_shr, zI_shl, zI_and1, zI_and7, zI_and15, zI_and255, if_pos, if_neg, Option.bind_some, Option.bind_none, if_true, if_false, true_or, or_true, Int.toNat_natCast, pk_us]
  rw [jzC_c a b hb]
theorem q_up (a b : Nat) (ha : a ≤ 10000) (hb : 1 ≤ b) (hb2 : b ≤ 10000) : f_M_up (zI a) (zI b) = some (zI (jzC a b : Nat)) := by
  unfold f_M_up
  simp (disch := omega) only [zI_lit, zI_ofNat, zI_nI, zI_neg, zI_add, zI_sub, zI_mul, zI_lt, zI_le, zI_eq, zI_cl, zI_div, zI_shr, zI_shl, zI_and1, zI_and7, zI_and15, zI_and255, if_pos, if_neg, Option.bind_some, Option.bind_none, if_true, if_false, true_or, or_true, Int.toNat_natCast, pk_us]
  rw [jzC_c a b hb]
theorem zI_ushr {a n : Int} (n0 : 0 ≤ n) (n1 : n < 32) : ((zI a).toUInt32 >>> ((zI n).toUInt32 &&& Int32.toUInt32 (zI 31))).toInt32 = zI ((a % 4294967296) / 2 ^ n.toNat) := by
  obtain ⟨k, rfl⟩ := Int.eq_ofNat_of_zero_le n0
  have hk : ((((zI (k : Int)).toUInt32 &&& Int32.toUInt32 (zI 31))).toBitVec % 32).toNat = k := by
    have h : ∀ k : Nat, k < 32 → ((((zI (k : Int)).toUInt32 &&& Int32.toUInt32 (zI 31))).toBitVec % 32).toNat = k := by decide
    exact h k (by omega)
  apply Int32.toBitVec_inj.mp
  show ((zI a).toUInt32 >>> ((zI (k : Int)).toUInt32 &&& Int32.toUInt32 (zI 31))).toBitVec = _
  rw [UInt32.toBitVec_shiftRight, BitVec.ushiftRight_eq']
  apply BitVec.eq_of_toNat_eq
  rw [BitVec.toNat_ushiftRight, hk, zI_bv, BitVec.toNat_ofInt]
  show (zI a).toBitVec.toNat >>> k = _
  rw [zI_bv, BitVec.toNat_ofInt, Nat.shiftRight_eq_div_pow]
  have h0 : (0 : Int) ≤ a % 4294967296 := Int.emod_nonneg _ (by decide)
  have h1 : a % 4294967296 < 4294967296 := Int.emod_lt_of_pos _ (by decide)
  obtain ⟨m, hm⟩ := Int.eq_ofNat_of_zero_le h0
  show (a % 4294967296).toNat / 2 ^ k = _
  rw [hm]
  show m / 2 ^ k = (((m : Int) / 2 ^ k) % ((2 ^ 32 : Nat) : Int)).toNat
  rw [p_shr]
  have h2 : m / 2 ^ k ≤ m := Nat.div_le_self _ _
  generalize m / 2 ^ k = q at h2 ⊢
  clear hk
  omega
theorem jzS_le (s u c : Nat) : jzS s u c ≤ c * (4 * u) := by
  induction c with
  | zero => exact Nat.zero_le _
  | succ c ih =>
    have h1 := jzH_rng s c
    have h2 := jzH_rng (s / 2) c
    have h3 : jzH s c * jzH (s / 2) c ≤ 2 * 2 := Nat.mul_le_mul h1.2 h2.2
    have h4 : u * (jzH s c * jzH (s / 2) c) ≤ u * (2 * 2) := Nat.mul_le_mul_left u h3
    show jzS s u c + u * (jzH s c * jzH (s / 2) c) ≤ (c + 1) * (4 * u)
    rw [Nat.add_mul]
    omega
theorem jzS_mono (s u : Nat) {c d : Nat} (h : c ≤ d) : jzS s u c ≤ jzS s u d := by
  induction d with
  | zero => obtain rfl : c = 0 := by omega
            exact Nat.le_refl _
  | succ d ih =>
    by_cases e : c = d + 1
    · subst e; exact Nat.le_refl _
    · exact Nat.le_trans (ih (by omega)) (Nat.le_add_right _ _)
def jzU (w s n : Nat) : Nat := jzC w (8 * jzM s n)
theorem jzU_rng (w s n : Nat) (h1 : 1 ≤ w) (h2 : w ≤ 64) : 1 ≤ jzU w s n ∧ jzU w s n ≤ 8 := by
  have hm := jzM_rng s n
  unfold jzU jzC
  rcases (by omega : jzM s n = 1 ∨ jzM s n = 2) with e | e <;> rw [e] <;> omega
theorem jzUV (w hi s n : Nat) (h1 : 1 ≤ w) (h2 : w ≤ 64) (h3 : 1 ≤ hi) (h4 : hi ≤ 64) : 1 ≤ jzU w s n * jzU hi (s / 2) n ∧ jzU w s n * jzU hi (s / 2) n ≤ 64 := by
  have a := jzU_rng w s n h1 h2
  have b := jzU_rng hi (s / 2) n h3 h4
  exact ⟨Nat.mul_le_mul a.1 b.1, Nat.mul_le_mul a.2 b.2⟩
theorem half_c (s : Nat) (hs : s < 256) : zI s >>> ((1 : Int32) &&& 31) = zI ((s / 2 : Nat) : Int) := by
  simp (disch := omega) only [zI_lit, zI_ofNat, zI_nI, zI_neg, zI_add, zI_sub, zI_mul, zI_lt, zI_le, zI_eq, zI_cl, zI_div, zI_shr, zI_shl, zI_and1, zI_and7, zI_and15, zI_and255, if_pos, if_neg, Option.bind_some, Option.bind_none, if_true, if_false, true_or, or_true, Int.toNat_natCast, pk_us]
  rfl
theorem q_fits_L (N : Nat) (hN : 100 ≤ N) (s n u : Nat) (hs : s < 256) (hn : n ≤ 4) : f_Picture_fits_L79 (zI n) (zI s) (zI u) N N ((0 : Int32), (0 : Int32)) = some (zI (jzS s u n : Nat)) := by
  unfold f_Picture_fits_L79
  have := it_cnt1 (b := fun rec a => f_Picture_fits_L79b (zI n) (zI s) (zI u) N rec a.1 a.2) (fun c => (zI (jzS s u c : Nat), zI c)) (zI (jzS s u n : Nat)) n (fun g c hc hg => by
    unfold f_Picture_fits_L79b
    dsimp only
    rw [half_c s hs, q_factor s c hs (by omega), q_factor (s / 2) c (by omega) (by omega)]
    simp (disch := omega) only [zI_lit, zI_ofNat, zI_nI, zI_neg, zI_add, zI_sub, zI_mul, zI_lt, zI_le, zI_eq, zI_cl, zI_div, zI_shr, zI_shl, zI_and1, zI_and7, zI_and15, zI_and255, if_pos, if_neg, Option.bind_some, Option.bind_none, if_true, if_false, true_or, or_true, Int.toNat_natCast, pk_us]
    rw [← hg]
    rw [show jzS s u (c + 1) = jzS s u c + u * (jzH s c * jzH (s / 2) c) from rfl]
    congr 3
    push_cast
    rw [Int.mul_assoc]) (fun g => by
    unfold f_Picture_fits_L79b
    simp (disch := omega) only [zI_lit, zI_ofNat, zI_nI, zI_neg, zI_add, zI_sub, zI_mul, zI_lt, zI_le, zI_eq, zI_cl, zI_div, zI_shr, zI_shl, zI_and1, zI_and7, zI_and15, zI_and255, if_pos, if_neg, Option.bind_some, Option.bind_none, if_true, if_false, true_or, or_true, Int.toNat_natCast, pk_us]) N 0 (by omega) (by omega)
  exact this
/-- whether a frame fits, in numbers -/
def jzFit (w hi n s : Int) : Prop := 1 ≤ w ∧ w ≤ 64 ∧ 1 ≤ hi ∧ hi ≤ 64 ∧ 1 ≤ n ∧ n ≤ 4 ∧ 0 ≤ s ∧ s < 4 ^ n.toNat ∧ jzS s.toNat (jzU w.toNat s.toNat n.toNat * jzU hi.toNat (s.toNat / 2) n.toNat) n.toNat ≤ 192
theorem four_pow (n : Nat) (hn : n ≤ 4) : (4 : Nat) ^ n ≤ 256 := Nat.pow_le_pow_right (by omega) hn (n := 4)
theorem q_fits (N : Nat) (hN : 100 ≤ N) (w hi n s : Int) (rw1 : -2147483648 ≤ w ∧ w ≤ 2147483647) (rh : -2147483648 ≤ hi ∧ hi ≤ 2147483647) (rn : -2147483648 ≤ n ∧ n ≤ 2147483647) (rs : -2147483648 ≤ s ∧ s ≤ 2147483647) :
    jzFit w hi n s ∧ f_Picture_fits N (zI w) (zI hi) (zI n) (zI s) = some (1 : Int32) ∨ ¬ jzFit w hi n s ∧ f_Picture_fits N (zI w) (zI hi) (zI n) (zI s) = some (0 : Int32) := by
  unfold f_Picture_fits
  by_cases c1 : w < 1
  · refine Or.inr ⟨fun h => by unfold jzFit at h; omega, ?_⟩; simp (disch := omega) only [zI_lit, zI_ofNat, zI_nI, zI_neg, zI_add, zI_sub, zI_mul, zI_lt, zI_le, zI_eq, zI_cl, zI_div, zI_shr, zI_shl, zI_and1, zI_and7, zI_and15, zI_and255, if_pos, if_neg, Option.bind_some, Option.bind_none, if_true, if_false, true_or, or_true, Int.toNat_natCast, pk_us]
  by_cases c2 : 64 < w
  · refine Or.inr ⟨fun h => by unfold jzFit at h; omega, ?_⟩; simp (disch := omega) only [zI_lit, zI_ofNat, zI_nI, zI_neg, zI_add, zI_sub, zI_mul, zI_lt, zI_le, zI_eq, zI_cl, zI_div, zI_shr, zI_shl, zI_and1, zI_and7, zI_and15, zI_and255, if_pos, if_neg, Option.bind_some, Option.bind_none, if_true, if_false, true_or, or_true, Int.toNat_natCast, pk_us]
  by_cases c3 : hi < 1
  · refine Or.inr ⟨fun h => by unfold jzFit at h; omega, ?_⟩; simp (disch := omega) only [zI_lit, zI_ofNat, zI_nI, zI_neg, zI_add, zI_sub, zI_mul, zI_lt, zI_le, zI_eq, zI_cl, zI_div, zI_shr, zI_shl, zI_and1, zI_and7, zI_and15, zI_and255, if_pos, if_neg, Option.bind_some, Option.bind_none, if_true, if_false, true_or, or_true, Int.toNat_natCast, pk_us]
  by_cases c4 : 64 < hi
  · refine Or.inr ⟨fun h => by unfold jzFit at h; omega, ?_⟩; simp (disch := omega) only [zI_lit, zI_ofNat, zI_nI, zI_neg, zI_add, zI_sub, zI_mul, zI_lt, zI_le, zI_eq, zI_cl, zI_div, zI_shr, zI_shl, zI_and1, zI_and7, zI_and15, zI_and255, if_pos, if_neg, Option.bind_some, Option.bind_none, if_true, if_false, true_or, or_true, Int.toNat_natCast, pk_us]
  by_cases c5 : n < 1
  · refine Or.inr ⟨fun h => by unfold jzFit at h; omega, ?_⟩; simp (disch := omega) only [zI_lit, zI_ofNat, zI_nI, zI_neg, zI_add, zI_sub, zI_mul, zI_lt, zI_le, zI_eq, zI_cl, zI_div, zI_shr, zI_shl, zI_and1, zI_and7, zI_and15, zI_and255, if_pos, if_neg, Option.bind_some, Option.bind_none, if_true, if_false, true_or, or_true, Int.toNat_natCast, pk_us]
  by_cases c6 : 4 < n
  · refine Or.inr ⟨fun h => by unfold jzFit at h; omega, ?_⟩; simp (disch := omega) only [zI_lit, zI_ofNat, zI_nI, zI_neg, zI_add, zI_sub, zI_mul, zI_lt, zI_le, zI_eq, zI_cl, zI_div, zI_shr, zI_shl, zI_and1, zI_and7, zI_and15, zI_and255, if_pos, if_neg, Option.bind_some, Option.bind_none, if_true, if_false, true_or, or_true, Int.toNat_natCast, pk_us]
  obtain ⟨w, rfl⟩ := Int.eq_ofNat_of_zero_le (show 0 ≤ w by omega)
  obtain ⟨hi, rfl⟩ := Int.eq_ofNat_of_zero_le (show 0 ≤ hi by omega)
  obtain ⟨n, rfl⟩ := Int.eq_ofNat_of_zero_le (show 0 ≤ n by omega)
  have key : ((((zI s).toUInt32 >>> (((2 : Int32) * zI n).toUInt32 &&& Int32.toUInt32 31)).toInt32) = 0) ↔ 0 ≤ s ∧ s < 4 ^ n := by
    rw [zI_lit, zI_lit, zI_lit, zI_mul, zI_ushr (by omega) (by omega)]
    rcases (by omega : n = 1 ∨ n = 2 ∨ n = 3 ∨ n = 4) with rfl | rfl | rfl | rfl
    · rw [show (2 : Int) ^ (OfNat.ofNat 2 * ((1 : Nat) : Int)).toNat = 4 from rfl, zI_eq (by omega) (by omega) (by decide) (by decide), show (4 : Int) ^ 1 = 4 from rfl]
      show _ = (0 : Int) ↔ _
      omega
    · rw [show (2 : Int) ^ (OfNat.ofNat 2 * ((2 : Nat) : Int)).toNat = 16 from rfl, zI_eq (by omega) (by omega) (by decide) (by decide), show (4 : Int) ^ 2 = 16 from rfl]
      show _ = (0 : Int) ↔ _
      omega
    · rw [show (2 : Int) ^ (OfNat.ofNat 2 * ((3 : Nat) : Int)).toNat = 64 from rfl, zI_eq (by omega) (by omega) (by decide) (by decide), show (4 : Int) ^ 3 = 64 from rfl]
      show _ = (0 : Int) ↔ _
      omega
    · rw [show (2 : Int) ^ (OfNat.ofNat 2 * ((4 : Nat) : Int)).toNat = 256 from rfl, zI_eq (by omega) (by omega) (by decide) (by decide), show (4 : Int) ^ 4 = 256 from rfl]
      show _ = (0 : Int) ↔ _
      omega
  have hp := four_pow n (by omega)
  have hpc : ((4 : Int) ^ n) = ((4 ^ n : Nat) : Int) := by rw [Int.natCast_pow]; rfl
  by_cases c7 : 0 ≤ s ∧ s < 4 ^ n
  · rw [if_pos (key.mpr c7)]
    rw [hpc] at c7
    clear key
    obtain ⟨s, rfl⟩ := Int.eq_ofNat_of_zero_le c7.1
    have hs : s < 256 := by omega
    have m1 := jzM_rng s n
    have m2 := jzM_rng (s / 2) n
    have e1 : (8 : Int32) * zI ((jzM s n : Nat) : Int) = zI ((8 * jzM s n : Nat) : Int) := by simp (disch := omega) only [zI_lit, zI_ofNat, zI_nI, zI_neg, zI_add, zI_sub, zI_mul, zI_lt, zI_le, zI_eq, zI_cl, zI_div, zI_shr, zI_shl, zI_and1, zI_and7, zI_and15, zI_and255, if_pos, if_neg, Option.bind_some, Option.bind_none, if_true, if_false, true_or, or_true, Int.toNat_natCast, pk_us]; rfl
    have e2 : (8 : Int32) * zI ((jzM (s / 2) n : Nat) : Int) = zI ((8 * jzM (s / 2) n : Nat) : Int) := by simp (disch := omega) only [zI_lit, zI_ofNat, zI_nI, zI_neg, zI_add, zI_sub, zI_mul, zI_lt, zI_le, zI_eq, zI_cl, zI_div, zI_shr, zI_shl, zI_and1, zI_and7, zI_and15, zI_and255, if_pos, if_neg, Option.bind_some, Option.bind_none, if_true, if_false, true_or, or_true, Int.toNat_natCast, pk_us]; rfl
    have e3 : zI ((jzC w (8 * jzM s n) : Nat) : Int) * zI ((jzC hi (8 * jzM (s / 2) n) : Nat) : Int) = zI ((jzU w s n * jzU hi (s / 2) n : Nat) : Int) := by simp (disch := omega) only [zI_lit, zI_ofNat, zI_nI, zI_neg, zI_add, zI_sub, zI_mul, zI_lt, zI_le, zI_eq, zI_cl, zI_div, zI_shr, zI_shl, zI_and1, zI_and7, zI_and15, zI_and255, if_pos, if_neg, Option.bind_some, Option.bind_none, if_true, if_false, true_or, or_true, Int.toNat_natCast, pk_us]; rfl
    have b1 := jzUV w hi s n (by omega) (by omega) (by omega) (by omega)
    have b2 := jzS_le s (jzU w s n * jzU hi (s / 2) n) n
    have b3 : n * (4 * (jzU w s n * jzU hi (s / 2) n)) ≤ 4 * (4 * 64) := Nat.mul_le_mul (by omega) (by omega)
    rw [half_c s hs, q_greatest N hN s n hs (by omega), q_greatest N hN (s / 2) n (by omega) (by omega)]
    simp only [Option.bind_some]
    rw [e1, e2, q_divideUp w _ (by omega) (by omega) (by omega), q_divideUp hi _ (by omega) (by omega) (by omega)]
    simp only [Option.bind_some]
    rw [e3, q_fits_L N hN s n _ hs (by omega)]
    by_cases c8 : 192 < jzS s (jzU w s n * jzU hi (s / 2) n) n
    · refine Or.inr ⟨fun h => ?_, ?_⟩
      · obtain ⟨_, _, _, _, _, _, _, _, h9⟩ := h
        simp only [Int.toNat_natCast] at h9
        omega
      · simp (disch := omega) only [zI_lit, zI_ofNat, zI_nI, zI_neg, zI_add, zI_sub, zI_mul, zI_lt, zI_le, zI_eq, zI_cl, zI_div, zI_shr, zI_shl, zI_and1, zI_and7, zI_and15, zI_and255, if_pos, if_neg, Option.bind_some, Option.bind_none, if_true, if_false, true_or, or_true, Int.toNat_natCast, pk_us]
    · refine Or.inl ⟨⟨by omega, by omega, by omega, by omega, by omega, by omega, by omega, ?_, ?_⟩, ?_⟩
      · rw [Int.toNat_natCast, hpc]; exact c7.2
      · simp only [Int.toNat_natCast]; omega
      · simp (disch := omega) only [zI_lit, zI_ofNat, zI_nI, zI_neg, zI_add, zI_sub, zI_mul, zI_lt, zI_le, zI_eq, zI_cl, zI_div, zI_shr, zI_shl, zI_and1, zI_and7, zI_and15, zI_and255, if_pos, if_neg, Option.bind_some, Option.bind_none, if_true, if_false, true_or, or_true, Int.toNat_natCast, pk_us]
  · rw [if_neg (fun h => c7 (key.mp h))]
    refine Or.inr ⟨fun h => ?_, ?_⟩
    · obtain ⟨_, _, _, _, _, _, h7, h8, _⟩ := h
      rw [Int.toNat_natCast] at h8
      exact c7 ⟨h7, h8⟩
    · clear key
      simp (disch := omega) only [zI_lit, zI_ofNat, zI_nI, zI_neg, zI_add, zI_sub, zI_mul, zI_lt, zI_le, zI_eq, zI_cl, zI_div, zI_shr, zI_shl, zI_and1, zI_and7, zI_and15, zI_and255, if_pos, if_neg, Option.bind_some, Option.bind_none, if_true, if_false, true_or, or_true, Int.toNat_natCast, pk_us]
