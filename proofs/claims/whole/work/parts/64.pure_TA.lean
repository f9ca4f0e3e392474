/-! Promise 6: scan -/
set_option maxHeartbeats 4000000 in
theorem q_kindOf (f l bf b : Int) (rf : -2147483648 ≤ f ∧ f ≤ 2147483647) (rl : -2147483648 ≤ l ∧ l ≤ 2147483647) (rbf : -2147483648 ≤ bf ∧ bf ≤ 2147483647) (rb : -2147483648 ≤ b ∧ b ≤ 2147483647) :
    ∃ k : Int, f_Course_kindOf (zI f) (zI l) (zI bf) (zI b) = some (zI k) ∧
      ((k = -1 ∧ ¬ ((0 ≤ b ∧ b ≤ 9 ∧ (bf = 0 ∨ bf = b + 1)) ∧ ((f = 0 ∧ l = 63 ∧ bf = 0 ∧ b = 0) ∨ (f = 0 ∧ l = 0) ∨ (1 ≤ f ∧ f ≤ 63 ∧ f ≤ l ∧ l ≤ 63)))) ∨
       ((0 ≤ b ∧ b ≤ 9 ∧ (bf = 0 ∨ bf = b + 1)) ∧ ((k = 0 ∧ f = 0 ∧ l = 63 ∧ bf = 0 ∧ b = 0) ∨ (k = 1 ∧ f = 0 ∧ l = 0 ∧ bf = 0) ∨ (k = 2 ∧ f = 0 ∧ l = 0 ∧ bf = b + 1) ∨ (k = 3 ∧ 1 ≤ f ∧ f ≤ l ∧ l ≤ 63 ∧ bf = 0) ∨ (k = 4 ∧ 1 ≤ f ∧ f ≤ l ∧ l ≤ 63 ∧ bf = b + 1)))) := by
  unfold f_Course_kindOf
  by_cases c1 : b < 0
  · refine ⟨-1, ?_, Or.inl ⟨rfl, fun h => by rcases h with ⟨⟨_, _, h9⟩, h | h | h⟩ <;> rcases h9 with h9 | h9 <;> omega⟩⟩; simp (disch := omega) only [zI_lit, zI_ofNat, zI_nI, zI_neg, zI_add, zI_sub, zI_mul, zI_lt, zI_le, zI_eq, zI_cl, zI_div, zI_shr, zI_shl, zI_and1, zI_and7, zI_and15, zI_and255, if_pos, if_neg, Option.bind_some, Option.bind_none, if_true, if_false, true_or, or_true, Int.toNat_natCast, pk_us]
  by_cases c2 : 9 < b
  · refine ⟨-1, ?_, Or.inl ⟨rfl, fun h => by rcases h with ⟨⟨_, _, h9⟩, h | h | h⟩ <;> rcases h9 with h9 | h9 <;> omega⟩⟩; simp (disch := omega) only [zI_lit, zI_ofNat, zI_nI, zI_neg, zI_add, zI_sub, zI_mul, zI_lt, zI_le, zI_eq, zI_cl, zI_div, zI_shr, zI_shl, zI_and1, zI_and7, zI_and15, zI_and255, if_pos, if_neg, Option.bind_some, Option.bind_none, if_true, if_false, true_or, or_true, Int.toNat_natCast, pk_us]
  by_cases c3 : bf = 0 ∨ bf = b + 1
  · have hj : (if zI bf = 0 then f_Course_kindOf_J23 (zI bf) (zI f) (zI l) (zI b) else if zI bf = (zI b + (1 : Int32)) then f_Course_kindOf_J23 (zI bf) (zI f) (zI l) (zI b) else some (-1 : Int32)) = f_Course_kindOf_J23 (zI bf) (zI f) (zI l) (zI b) := by
      by_cases c4 : bf = 0
      · simp (disch := omega) only [zI_lit, zI_ofNat, zI_nI, zI_neg, zI_add, zI_sub, zI_mul, zI_lt, zI_le, zI_eq, zI_cl, zI_div, zI_shr, zI_shl, zI_and1, zI_and7, zI_and15, zI_and255, if_pos, if_neg, Option.bind_some, Option.bind_none, if_true, if_false, true_or, or_true, Int.toNat_natCast, pk_us]
      · simp (disch := omega) only [zI_lit, zI_ofNat, zI_nI, zI_neg, zI_add, zI_sub, zI_mul, zI_lt, zI_le, zI_eq, zI_cl, zI_div, zI_shr, zI_shl, zI_and1, zI_and7, zI_and15, zI_and255, if_pos, if_neg, Option.bind_some, Option.bind_none, if_true, if_false, true_or, or_true, Int.toNat_natCast, pk_us]
    rw [hj]
    unfold f_Course_kindOf_J23 f_Course_kindOf_J32 f_Course_kindOf_J53
    by_cases c4 : bf = 0
    · by_cases c5 : f = 0
      · by_cases c6 : l = 0
        · refine ⟨1, ?_, Or.inr ⟨⟨by omega, by omega, c3⟩, Or.inr (Or.inl ⟨rfl, c5, c6, c4⟩)⟩⟩; clear c3 hj; simp (disch := omega) only [zI_lit, zI_ofNat, zI_nI, zI_neg, zI_add, zI_sub, zI_mul, zI_lt, zI_le, zI_eq, zI_cl, zI_div, zI_shr, zI_shl, zI_and1, zI_and7, zI_and15, zI_and255, if_pos, if_neg, Option.bind_some, Option.bind_none, if_true, if_false, true_or, or_true, Int.toNat_natCast, pk_us]
        · by_cases c7 : l = 63
          · by_cases c8 : b = 0
            · refine ⟨0, ?_, Or.inr ⟨⟨by omega, by omega, c3⟩, Or.inl ⟨rfl, c5, c7, c4, c8⟩⟩⟩; clear c3 hj; simp (disch := omega) only [zI_lit, zI_ofNat, zI_nI, zI_neg, zI_add, zI_sub, zI_mul, zI_lt, zI_le, zI_eq, zI_cl, zI_div, zI_shr, zI_shl, zI_and1, zI_and7, zI_and15, zI_and255, if_pos, if_neg, Option.bind_some, Option.bind_none, if_true, if_false, true_or, or_true, Int.toNat_natCast, pk_us]
            · refine ⟨-1, ?_, Or.inl ⟨rfl, fun h => by rcases h with ⟨⟨_, _, h9⟩, h | h | h⟩ <;> rcases h9 with h9 | h9 <;> omega⟩⟩; clear c3 hj; simp (disch := omega) only [zI_lit, zI_ofNat, zI_nI, zI_neg, zI_add, zI_sub, zI_mul, zI_lt, zI_le, zI_eq, zI_cl, zI_div, zI_shr, zI_shl, zI_and1, zI_and7, zI_and15, zI_and255, if_pos, if_neg, Option.bind_some, Option.bind_none, if_true, if_false, true_or, or_true, Int.toNat_natCast, pk_us]
          · refine ⟨-1, ?_, Or.inl ⟨rfl, fun h => by rcases h with ⟨⟨_, _, h9⟩, h | h | h⟩ <;> rcases h9 with h9 | h9 <;> omega⟩⟩; clear c3 hj; simp (disch := omega) only [zI_lit, zI_ofNat, zI_nI, zI_neg, zI_add, zI_sub, zI_mul, zI_lt, zI_le, zI_eq, zI_cl, zI_div, zI_shr, zI_shl, zI_and1, zI_and7, zI_and15, zI_and255, if_pos, if_neg, Option.bind_some, Option.bind_none, if_true, if_false, true_or, or_true, Int.toNat_natCast, pk_us]
      · by_cases c6 : f < 0
        · refine ⟨-1, ?_, Or.inl ⟨rfl, fun h => by rcases h with ⟨⟨_, _, h9⟩, h | h | h⟩ <;> rcases h9 with h9 | h9 <;> omega⟩⟩; clear c3 hj; simp (disch := omega) only [zI_lit, zI_ofNat, zI_nI, zI_neg, zI_add, zI_sub, zI_mul, zI_lt, zI_le, zI_eq, zI_cl, zI_div, zI_shr, zI_shl, zI_and1, zI_and7, zI_and15, zI_and255, if_pos, if_neg, Option.bind_some, Option.bind_none, if_true, if_false, true_or, or_true, Int.toNat_natCast, pk_us]
        · by_cases c7 : l < f
          · refine ⟨-1, ?_, Or.inl ⟨rfl, fun h => by rcases h with ⟨⟨_, _, h9⟩, h | h | h⟩ <;> rcases h9 with h9 | h9 <;> omega⟩⟩; clear c3 hj; simp (disch := omega) only [zI_lit, zI_ofNat, zI_nI, zI_neg, zI_add, zI_sub, zI_mul, zI_lt, zI_le, zI_eq, zI_cl, zI_div, zI_shr, zI_shl, zI_and1, zI_and7, zI_and15, zI_and255, if_pos, if_neg, Option.bind_some, Option.bind_none, if_true, if_false, true_or, or_true, Int.toNat_natCast, pk_us]
          · by_cases c8 : l ≤ 63
            · refine ⟨3, ?_, Or.inr ⟨⟨by omega, by omega, c3⟩, Or.inr (Or.inr (Or.inr (Or.inl ⟨rfl, by omega, by omega, c8, c4⟩)))⟩⟩; clear c3 hj; simp (disch := omega) only [zI_lit, zI_ofNat, zI_nI, zI_neg, zI_add, zI_sub, zI_mul, zI_lt, zI_le, zI_eq, zI_cl, zI_div, zI_shr, zI_shl, zI_and1, zI_and7, zI_and15, zI_and255, if_pos, if_neg, Option.bind_some, Option.bind_none, if_true, if_false, true_or, or_true, Int.toNat_natCast, pk_us]
            · refine ⟨-1, ?_, Or.inl ⟨rfl, fun h => by rcases h with ⟨⟨_, _, h9⟩, h | h | h⟩ <;> rcases h9 with h9 | h9 <;> omega⟩⟩; clear c3 hj; simp (disch := omega) only [zI_lit, zI_ofNat, zI_nI, zI_neg, zI_add, zI_sub, zI_mul, zI_lt, zI_le, zI_eq, zI_cl, zI_div, zI_shr, zI_shl, zI_and1, zI_and7, zI_and15, zI_and255, if_pos, if_neg, Option.bind_some, Option.bind_none, if_true, if_false, true_or, or_true, Int.toNat_natCast, pk_us]
    · by_cases c5 : f = 0
      · by_cases c6 : l = 0
        · refine ⟨2, ?_, Or.inr ⟨⟨by omega, by omega, c3⟩, Or.inr (Or.inr (Or.inl ⟨rfl, c5, c6, by rcases c3 with h | h <;> omega⟩))⟩⟩; clear c3 hj; simp (disch := omega) only [zI_lit, zI_ofNat, zI_nI, zI_neg, zI_add, zI_sub, zI_mul, zI_lt, zI_le, zI_eq, zI_cl, zI_div, zI_shr, zI_shl, zI_and1, zI_and7, zI_and15, zI_and255, if_pos, if_neg, Option.bind_some, Option.bind_none, if_true, if_false, true_or, or_true, Int.toNat_natCast, pk_us]
        · by_cases c7 : l = 63
          · by_cases c8 : b = 0
            · refine ⟨-1, ?_, Or.inl ⟨rfl, fun h => by rcases h with ⟨⟨_, _, h9⟩, h | h | h⟩ <;> rcases h9 with h9 | h9 <;> omega⟩⟩; clear c3 hj; simp (disch := omega) only [zI_lit, zI_ofNat, zI_nI, zI_neg, zI_add, zI_sub, zI_mul, zI_lt, zI_le, zI_eq, zI_cl, zI_div, zI_shr, zI_shl, zI_and1, zI_and7, zI_and15, zI_and255, if_pos, if_neg, Option.bind_some, Option.bind_none, if_true, if_false, true_or, or_true, Int.toNat_natCast, pk_us]
            · refine ⟨-1, ?_, Or.inl ⟨rfl, fun h => by rcases h with ⟨⟨_, _, h9⟩, h | h | h⟩ <;> rcases h9 with h9 | h9 <;> omega⟩⟩; clear c3 hj; simp (disch := omega) only [zI_lit, zI_ofNat, zI_nI, zI_neg, zI_add, zI_sub, zI_mul, zI_lt, zI_le, zI_eq, zI_cl, zI_div, zI_shr, zI_shl, zI_and1, zI_and7, zI_and15, zI_and255, if_pos, if_neg, Option.bind_some, Option.bind_none, if_true, if_false, true_or, or_true, Int.toNat_natCast, pk_us]
          · refine ⟨-1, ?_, Or.inl ⟨rfl, fun h => by rcases h with ⟨⟨_, _, h9⟩, h | h | h⟩ <;> rcases h9 with h9 | h9 <;> omega⟩⟩; clear c3 hj; simp (disch := omega) only [zI_lit, zI_ofNat, zI_nI, zI_neg, zI_add, zI_sub, zI_mul, zI_lt, zI_le, zI_eq, zI_cl, zI_div, zI_shr, zI_shl, zI_and1, zI_and7, zI_and15, zI_and255, if_pos, if_neg, Option.bind_some, Option.bind_none, if_true, if_false, true_or, or_true, Int.toNat_natCast, pk_us]
      · by_cases c6 : f < 0
        · refine ⟨-1, ?_, Or.inl ⟨rfl, fun h => by rcases h with ⟨⟨_, _, h9⟩, h | h | h⟩ <;> rcases h9 with h9 | h9 <;> omega⟩⟩; clear c3 hj; simp (disch := omega) only [zI_lit, zI_ofNat, zI_nI, zI_neg, zI_add, zI_sub, zI_mul, zI_lt, zI_le, zI_eq, zI_cl, zI_div, zI_shr, zI_shl, zI_and1, zI_and7, zI_and15, zI_and255, if_pos, if_neg, Option.bind_some, Option.bind_none, if_true, if_false, true_or, or_true, Int.toNat_natCast, pk_us]
        · by_cases c7 : l < f
          · refine ⟨-1, ?_, Or.inl ⟨rfl, fun h => by rcases h with ⟨⟨_, _, h9⟩, h | h | h⟩ <;> rcases h9 with h9 | h9 <;> omega⟩⟩; clear c3 hj; simp (disch := omega) only [zI_lit, zI_ofNat, zI_nI, zI_neg, zI_add, zI_sub, zI_mul, zI_lt, zI_le, zI_eq, zI_cl, zI_div, zI_shr, zI_shl, zI_and1, zI_and7, zI_and15, zI_and255, if_pos, if_neg, Option.bind_some, Option.bind_none, if_true, if_false, true_or, or_true, Int.toNat_natCast, pk_us]
          · by_cases c8 : l ≤ 63
            · refine ⟨4, ?_, Or.inr ⟨⟨by omega, by omega, c3⟩, Or.inr (Or.inr (Or.inr (Or.inr ⟨rfl, by omega, by omega, c8, by rcases c3 with h | h <;> omega⟩)))⟩⟩; clear c3 hj; simp (disch := omega) only [zI_lit, zI_ofNat, zI_nI, zI_neg, zI_add, zI_sub, zI_mul, zI_lt, zI_le, zI_eq, zI_cl, zI_div, zI_shr, zI_shl, zI_and1, zI_and7, zI_and15, zI_and255, if_pos, if_neg, Option.bind_some, Option.bind_none, if_true, if_false, true_or, or_true, Int.toNat_natCast, pk_us]
            · refine ⟨-1, ?_, Or.inl ⟨rfl, fun h => by rcases h with ⟨⟨_, _, h9⟩, h | h | h⟩ <;> rcases h9 with h9 | h9 <;> omega⟩⟩; clear c3 hj; simp (disch := omega) only [zI_lit, zI_ofNat, zI_nI, zI_neg, zI_add, zI_sub, zI_mul, zI_lt, zI_le, zI_eq, zI_cl, zI_div, zI_shr, zI_shl, zI_and1, zI_and7, zI_and15, zI_and255, if_pos, if_neg, Option.bind_some, Option.bind_none, if_true, if_false, true_or, or_true, Int.toNat_natCast, pk_us]
  · refine ⟨-1, ?_, Or.inl ⟨rfl, fun h => c3 h.1.2.2⟩⟩; simp (disch := omega) only [zI_lit, zI_ofNat, zI_nI, zI_neg, zI_add, zI_sub, zI_mul, zI_lt, zI_le, zI_eq, zI_cl, zI_div, zI_shr, zI_shl, zI_and1, zI_and7, zI_and15, zI_and255, if_pos, if_neg, Option.bind_some, Option.bind_none, if_true, if_false, true_or, or_true, Int.toNat_natCast, pk_us]
/-- the mask that is allowed -/
theorem two_pow_c (n : Nat) : (2 : Int) ^ n = ((2 ^ n : Nat) : Int) := by rw [Int.natCast_pow]; rfl
theorem q_maskfree (m : Int) (n : Nat) (rm : -2147483648 ≤ m ∧ m ≤ 2147483647) (hn : 1 ≤ n ∧ n ≤ 4) : ((((zI m).toUInt32 >>> ((zI n).toUInt32 &&& Int32.toUInt32 31)).toInt32) = 0) ↔ 0 ≤ m ∧ m < ((2 ^ n : Nat) : Int) := by
  rw [zI_lit, zI_lit]
  show ((((zI m).toUInt32 >>> ((zI n).toUInt32 &&& Int32.toUInt32 (zI 31))).toInt32) = zI 0) ↔ _
  rw [zI_ushr (by omega) (by omega), Int.toNat_natCast]
  rcases (by omega : n = 1 ∨ n = 2 ∨ n = 3 ∨ n = 4) with rfl | rfl | rfl | rfl
  · rw [show (2 : Int) ^ 1 = 2 from rfl, zI_eq (by omega) (by omega) (by decide) (by decide)]; omega
  · rw [show (2 : Int) ^ 2 = 4 from rfl, zI_eq (by omega) (by omega) (by decide) (by decide)]; omega
  · rw [show (2 : Int) ^ 3 = 8 from rfl, zI_eq (by omega) (by omega) (by decide) (by decide)]; omega
  · rw [show (2 : Int) ^ 4 = 16 from rfl, zI_eq (by omega) (by omega) (by decide) (by decide)]; omega
set_option maxHeartbeats 4000000 in
theorem q_allows (k m : Int) (n : Nat) (rk : 0 ≤ k ∧ k ≤ 4) (rm : -2147483648 ≤ m ∧ m ≤ 2147483647) (hn : 1 ≤ n ∧ n ≤ 4) :
    ((0 < m ∧ m < ((2 ^ n : Nat) : Int) ∧ (3 ≤ k → jzN m.toNat = 1)) ∧ f_Course_allows (zI k) (zI m) (zI n) = some (zI 1)) ∨ (¬ (0 < m ∧ m < ((2 ^ n : Nat) : Int) ∧ (3 ≤ k → jzN m.toNat = 1)) ∧ f_Course_allows (zI k) (zI m) (zI n) = some (zI 0)) := by
  have h16 : (2 ^ n : Nat) ≤ 16 := Nat.pow_le_pow_right (by omega) hn.2 (n := 2)
  unfold f_Course_allows
  by_cases c1 : m = 0
  · refine Or.inr ⟨by omega, ?_⟩; simp (disch := omega) only [zI_lit, zI_ofNat, zI_nI, zI_neg, zI_add, zI_sub, zI_mul, zI_lt, zI_le, zI_eq, zI_cl, zI_div, zI_shr, zI_shl, zI_and1, zI_and7, zI_and15, zI_and255, if_pos, if_neg, Option.bind_some, Option.bind_none, if_true, if_false, true_or, or_true, Int.toNat_natCast, pk_us]
  by_cases c2 : 0 ≤ m ∧ m < ((2 ^ n : Nat) : Int)
  · rw [if_neg (by simp (disch := omega) only [zI_lit, zI_ofNat, zI_nI, zI_neg, zI_add, zI_sub, zI_mul, zI_lt, zI_le, zI_eq, zI_cl, zI_div, zI_shr, zI_shl, zI_and1, zI_and7, zI_and15, zI_and255, if_pos, if_neg, Option.bind_some, Option.bind_none, if_true, if_false, true_or, or_true, Int.toNat_natCast, pk_us]; omega), if_pos ((q_maskfree m n rm hn).mpr c2)]
    obtain ⟨m, rfl⟩ := Int.eq_ofNat_of_zero_le c2.1
    unfold f_Course_allows_J28
    rw [q_bitCount m (by omega), Int.toNat_natCast]
    have hO : jzN m ≤ 4 := by unfold jzN; omega
    by_cases c3 : 3 ≤ k
    · by_cases c4 : jzN m = 1
      · refine Or.inl ⟨⟨by omega, by omega, fun _ => c4⟩, ?_⟩
        by_cases c5 : k = 3
        · simp (disch := omega) only [zI_lit, zI_ofNat, zI_nI, zI_neg, zI_add, zI_sub, zI_mul, zI_lt, zI_le, zI_eq, zI_cl, zI_div, zI_shr, zI_shl, zI_and1, zI_and7, zI_and15, zI_and255, if_pos, if_neg, Option.bind_some, Option.bind_none, if_true, if_false, true_or, or_true, Int.toNat_natCast, pk_us]
        · simp (disch := omega) only [zI_lit, zI_ofNat, zI_nI, zI_neg, zI_add, zI_sub, zI_mul, zI_lt, zI_le, zI_eq, zI_cl, zI_div, zI_shr, zI_shl, zI_and1, zI_and7, zI_and15, zI_and255, if_pos, if_neg, Option.bind_some, Option.bind_none, if_true, if_false, true_or, or_true, Int.toNat_natCast, pk_us]
      · refine Or.inr ⟨fun h => c4 (h.2.2 c3), ?_⟩
        by_cases c5 : k = 3
        · simp (disch := omega) only [zI_lit, zI_ofNat, zI_nI, zI_neg, zI_add, zI_sub, zI_mul, zI_lt, zI_le, zI_eq, zI_cl, zI_div, zI_shr, zI_shl, zI_and1, zI_and7, zI_and15, zI_and255, if_pos, if_neg, Option.bind_some, Option.bind_none, if_true, if_false, true_or, or_true, Int.toNat_natCast, pk_us]
        · simp (disch := omega) only [zI_lit, zI_ofNat, zI_nI, zI_neg, zI_add, zI_sub, zI_mul, zI_lt, zI_le, zI_eq, zI_cl, zI_div, zI_shr, zI_shl, zI_and1, zI_and7, zI_and15, zI_and255, if_pos, if_neg, Option.bind_some, Option.bind_none, if_true, if_false, true_or, or_true, Int.toNat_natCast, pk_us]
    · refine Or.inl ⟨⟨by omega, by omega, fun h => absurd h c3⟩, ?_⟩
      simp (disch := omega) only [zI_lit, zI_ofNat, zI_nI, zI_neg, zI_add, zI_sub, zI_mul, zI_lt, zI_le, zI_eq, zI_cl, zI_div, zI_shr, zI_shl, zI_and1, zI_and7, zI_and15, zI_and255, if_pos, if_neg, Option.bind_some, Option.bind_none, if_true, if_false, true_or, or_true, Int.toNat_natCast, pk_us]
  · rw [if_neg (by simp (disch := omega) only [zI_lit, zI_ofNat, zI_nI, zI_neg, zI_add, zI_sub, zI_mul, zI_lt, zI_le, zI_eq, zI_cl, zI_div, zI_shr, zI_shl, zI_and1, zI_and7, zI_and15, zI_and255, if_pos, if_neg, Option.bind_some, Option.bind_none, if_true, if_false, true_or, or_true, Int.toNat_natCast, pk_us]; omega), if_neg (fun h => c2 ((q_maskfree m n rm hn).mp h))]
    exact Or.inr ⟨by omega, rfl⟩
set_option maxHeartbeats 8000000 in
theorem q_Mscan (N : Nat) (hN : 100 ≤ N) (m f l bf b : Int) (n : Nat) (hn : 1 ≤ n ∧ n ≤ 4) (rm : -2147483648 ≤ m ∧ m ≤ 2147483647) (rf : -2147483648 ≤ f ∧ f ≤ 2147483647) (rl : -2147483648 ≤ l ∧ l ≤ 2147483647) (rbf : -2147483648 ≤ bf ∧ bf ≤ 2147483647) (rb : -2147483648 ≤ b ∧ b ≤ 2147483647) (a0 a1 a2 a3 a4 : Int32) :
    (((0 ≤ b ∧ b ≤ 9 ∧ (bf = 0 ∨ bf = b + 1)) ∧ 0 < m ∧ m < ((2 ^ n : Nat) : Int) ∧ ((f = 0 ∧ l = 63 ∧ bf = 0 ∧ b = 0) ∨ (f = 0 ∧ l = 0) ∨ ((1 ≤ f ∧ f ≤ 63 ∧ f ≤ l ∧ l ≤ 63) ∧ jzN m.toNat = 1))) ∧ f_M_scan N (zI m) (zI f) (zI l) (zI bf) (zI b) (zI n) a0 a1 a2 a3 a4 = some (zI 1, zI 0, zI m, zI f, zI l, zI bf, zI b)) ∨
    (¬ ((0 ≤ b ∧ b ≤ 9 ∧ (bf = 0 ∨ bf = b + 1)) ∧ 0 < m ∧ m < ((2 ^ n : Nat) : Int) ∧ ((f = 0 ∧ l = 63 ∧ bf = 0 ∧ b = 0) ∨ (f = 0 ∧ l = 0) ∨ ((1 ≤ f ∧ f ≤ 63 ∧ f ≤ l ∧ l ≤ 63) ∧ jzN m.toNat = 1))) ∧ f_M_scan N (zI m) (zI f) (zI l) (zI bf) (zI b) (zI n) a0 a1 a2 a3 a4 = some (zI 0, zI 0, a0, a1, a2, a3, a4)) := by
  have h16 : (2 ^ n : Nat) ≤ 16 := Nat.pow_le_pow_right (by omega) hn.2 (n := 2)
  have e1 : (1 : Int32) <<< (zI n &&& 31) = zI ((2 ^ n : Nat) : Int) := by
    simp (disch := omega) only [zI_lit, zI_ofNat, zI_nI, zI_neg, zI_add, zI_sub, zI_mul, zI_lt, zI_le, zI_eq, zI_cl, zI_div, zI_shr, zI_shl, zI_and1, zI_and7, zI_and15, zI_and255, if_pos, if_neg, Option.bind_some, Option.bind_none, if_true, if_false, true_or, or_true, Int.toNat_natCast, pk_us]
    rw [← two_pow_c]
    congr 1
    exact Int.one_mul _
  generalize 2 ^ n = P at h16 e1 ⊢
  have hA : ∃ x : Int, (x = 1 ∧ (0 ≤ b ∧ b ≤ 9 ∧ (bf = 0 ∨ bf = b + 1)) ∧ 0 < m ∧ m < (P : Int) ∨ x = 0 ∧ ¬ ((0 ≤ b ∧ b ≤ 9 ∧ (bf = 0 ∨ bf = b + 1)) ∧ 0 < m ∧ m < (P : Int))) ∧ f_M_scan N (zI m) (zI f) (zI l) (zI bf) (zI b) (zI n) a0 a1 a2 a3 a4 = f_M_scan_J50 N (zI f) (zI l) (zI bf) (zI b) (zI x) (zI 0) a0 a1 a2 a3 a4 (zI m) := by
    unfold f_M_scan f_M_scan_J49 f_M_scan_J45
    rw [e1]
    by_cases c1 : m ≤ 0
    · refine ⟨0, Or.inr ⟨rfl, fun h => by rcases h with ⟨⟨_, _, h9⟩, _, _⟩; rcases h9 with h9 | h9 <;> omega⟩, ?_⟩; simp (disch := omega) only [zI_lit, zI_ofNat, zI_nI, zI_neg, zI_add, zI_sub, zI_mul, zI_lt, zI_le, zI_eq, zI_cl, zI_div, zI_shr, zI_shl, zI_and1, zI_and7, zI_and15, zI_and255, if_pos, if_neg, Option.bind_some, Option.bind_none, if_true, if_false, true_or, or_true, Int.toNat_natCast, pk_us]
    by_cases c2 : (P : Int) ≤ m
    · refine ⟨0, Or.inr ⟨rfl, fun h => by rcases h with ⟨⟨_, _, h9⟩, _, _⟩; rcases h9 with h9 | h9 <;> omega⟩, ?_⟩; simp (disch := omega) only [zI_lit, zI_ofNat, zI_nI, zI_neg, zI_add, zI_sub, zI_mul, zI_lt, zI_le, zI_eq, zI_cl, zI_div, zI_shr, zI_shl, zI_and1, zI_and7, zI_and15, zI_and255, if_pos, if_neg, Option.bind_some, Option.bind_none, if_true, if_false, true_or, or_true, Int.toNat_natCast, pk_us]
    by_cases c3 : b < 0
    · refine ⟨0, Or.inr ⟨rfl, fun h => by rcases h with ⟨⟨_, _, h9⟩, _, _⟩; rcases h9 with h9 | h9 <;> omega⟩, ?_⟩; simp (disch := omega) only [zI_lit, zI_ofNat, zI_nI, zI_neg, zI_add, zI_sub, zI_mul, zI_lt, zI_le, zI_eq, zI_cl, zI_div, zI_shr, zI_shl, zI_and1, zI_and7, zI_and15, zI_and255, if_pos, if_neg, Option.bind_some, Option.bind_none, if_true, if_false, true_or, or_true, Int.toNat_natCast, pk_us]
    by_cases c4 : 9 < b
    · refine ⟨0, Or.inr ⟨rfl, fun h => by rcases h with ⟨⟨_, _, h9⟩, _, _⟩; rcases h9 with h9 | h9 <;> omega⟩, ?_⟩; simp (disch := omega) only [zI_lit, zI_ofNat, zI_nI, zI_neg, zI_add, zI_sub, zI_mul, zI_lt, zI_le, zI_eq, zI_cl, zI_div, zI_shr, zI_shl, zI_and1, zI_and7, zI_and15, zI_and255, if_pos, if_neg, Option.bind_some, Option.bind_none, if_true, if_false, true_or, or_true, Int.toNat_natCast, pk_us]
    by_cases c5 : bf = 0
    · refine ⟨1, Or.inl ⟨rfl, ⟨by omega, by omega, Or.inl c5⟩, by omega, by omega⟩, ?_⟩; simp (disch := omega) only [zI_lit, zI_ofNat, zI_nI, zI_neg, zI_add, zI_sub, zI_mul, zI_lt, zI_le, zI_eq, zI_cl, zI_div, zI_shr, zI_shl, zI_and1, zI_and7, zI_and15, zI_and255, if_pos, if_neg, Option.bind_some, Option.bind_none, if_true, if_false, true_or, or_true, Int.toNat_natCast, pk_us]
    by_cases c6 : bf = b + 1
    · refine ⟨1, Or.inl ⟨rfl, ⟨by omega, by omega, Or.inr c6⟩, by omega, by omega⟩, ?_⟩; simp (disch := omega) only [zI_lit, zI_ofNat, zI_nI, zI_neg, zI_add, zI_sub, zI_mul, zI_lt, zI_le, zI_eq, zI_cl, zI_div, zI_shr, zI_shl, zI_and1, zI_and7, zI_and15, zI_and255, if_pos, if_neg, Option.bind_some, Option.bind_none, if_true, if_false, true_or, or_true, Int.toNat_natCast, pk_us]
    · refine ⟨0, Or.inr ⟨rfl, fun h => by rcases h with ⟨⟨_, _, h9⟩, _, _⟩; rcases h9 with h9 | h9 <;> omega⟩, ?_⟩; simp (disch := omega) only [zI_lit, zI_ofNat, zI_nI, zI_neg, zI_add, zI_sub, zI_mul, zI_lt, zI_le, zI_eq, zI_cl, zI_div, zI_shr, zI_shl, zI_and1, zI_and7, zI_and15, zI_and255, if_pos, if_neg, Option.bind_some, Option.bind_none, if_true, if_false, true_or, or_true, Int.toNat_natCast, pk_us]
  obtain ⟨x, hx, eA⟩ := hA
  have hB : ∃ y : Int, (y = 1 ∧ (f = 0 ∧ l = 63 ∧ bf = 0 ∧ b = 0) ∨ y = 0 ∧ ¬ (f = 0 ∧ l = 63 ∧ bf = 0 ∧ b = 0)) ∧ f_M_scan_J50 N (zI f) (zI l) (zI bf) (zI b) (zI x) (zI 0) a0 a1 a2 a3 a4 (zI m) = f_M_scan_J77 N (zI f) (zI l) (zI x) (zI 0) a0 a1 a2 a3 a4 (zI y) (zI m) (zI bf) (zI b) := by
    unfold f_M_scan_J50 f_M_scan_J76
    by_cases c1 : f = 0
    · by_cases c2 : l = 63
      · by_cases c3 : bf = 0
        · by_cases c4 : b = 0
          · refine ⟨1, by omega, ?_⟩; clear hx eA e1; simp (disch := omega) only [zI_lit, zI_ofNat, zI_nI, zI_neg, zI_add, zI_sub, zI_mul, zI_lt, zI_le, zI_eq, zI_cl, zI_div, zI_shr, zI_shl, zI_and1, zI_and7, zI_and15, zI_and255, if_pos, if_neg, Option.bind_some, Option.bind_none, if_true, if_false, true_or, or_true, Int.toNat_natCast, pk_us]
          · refine ⟨0, by omega, ?_⟩; clear hx eA e1; simp (disch := omega) only [zI_lit, zI_ofNat, zI_nI, zI_neg, zI_add, zI_sub, zI_mul, zI_lt, zI_le, zI_eq, zI_cl, zI_div, zI_shr, zI_shl, zI_and1, zI_and7, zI_and15, zI_and255, if_pos, if_neg, Option.bind_some, Option.bind_none, if_true, if_false, true_or, or_true, Int.toNat_natCast, pk_us]
        · refine ⟨0, by omega, ?_⟩; clear hx eA e1; simp (disch := omega) only [zI_lit, zI_ofNat, zI_nI, zI_neg, zI_add, zI_sub, zI_mul, zI_lt, zI_le, zI_eq, zI_cl, zI_div, zI_shr, zI_shl, zI_and1, zI_and7, zI_and15, zI_and255, if_pos, if_neg, Option.bind_some, Option.bind_none, if_true, if_false, true_or, or_true, Int.toNat_natCast, pk_us]
      · refine ⟨0, by omega, ?_⟩; clear hx eA e1; simp (disch := omega) only [zI_lit, zI_ofNat, zI_nI, zI_neg, zI_add, zI_sub, zI_mul, zI_lt, zI_le, zI_eq, zI_cl, zI_div, zI_shr, zI_shl, zI_and1, zI_and7, zI_and15, zI_and255, if_pos, if_neg, Option.bind_some, Option.bind_none, if_true, if_false, true_or, or_true, Int.toNat_natCast, pk_us]
    · refine ⟨0, by omega, ?_⟩; clear hx eA e1; simp (disch := omega) only [zI_lit, zI_ofNat, zI_nI, zI_neg, zI_add, zI_sub, zI_mul, zI_lt, zI_le, zI_eq, zI_cl, zI_div, zI_shr, zI_shl, zI_and1, zI_and7, zI_and15, zI_and255, if_pos, if_neg, Option.bind_some, Option.bind_none, if_true, if_false, true_or, or_true, Int.toNat_natCast, pk_us]
  obtain ⟨y, hy, eB⟩ := hB
  have hC : ∃ z : Int, (z = 1 ∧ (f = 0 ∧ l = 0) ∨ z = 0 ∧ ¬ (f = 0 ∧ l = 0)) ∧ f_M_scan_J77 N (zI f) (zI l) (zI x) (zI 0) a0 a1 a2 a3 a4 (zI y) (zI m) (zI bf) (zI b) = f_M_scan_J92 N (zI f) (zI x) (zI 0) a0 a1 a2 a3 a4 (zI y) (zI z) (zI m) (zI l) (zI bf) (zI b) := by
    unfold f_M_scan_J77 f_M_scan_J91
    by_cases c1 : f = 0
    · by_cases c2 : l = 0
      · refine ⟨1, by omega, ?_⟩; clear hx hy eA eB e1; simp (disch := omega) only [zI_lit, zI_ofNat, zI_nI, zI_neg, zI_add, zI_sub, zI_mul, zI_lt, zI_le, zI_eq, zI_cl, zI_div, zI_shr, zI_shl, zI_and1, zI_and7, zI_and15, zI_and255, if_pos, if_neg, Option.bind_some, Option.bind_none, if_true, if_false, true_or, or_true, Int.toNat_natCast, pk_us]
      · refine ⟨0, by omega, ?_⟩; clear hx hy eA eB e1; simp (disch := omega) only [zI_lit, zI_ofNat, zI_nI, zI_neg, zI_add, zI_sub, zI_mul, zI_lt, zI_le, zI_eq, zI_cl, zI_div, zI_shr, zI_shl, zI_and1, zI_and7, zI_and15, zI_and255, if_pos, if_neg, Option.bind_some, Option.bind_none, if_true, if_false, true_or, or_true, Int.toNat_natCast, pk_us]
    · refine ⟨0, by omega, ?_⟩; clear hx hy eA eB e1; simp (disch := omega) only [zI_lit, zI_ofNat, zI_nI, zI_neg, zI_add, zI_sub, zI_mul, zI_lt, zI_le, zI_eq, zI_cl, zI_div, zI_shr, zI_shl, zI_and1, zI_and7, zI_and15, zI_and255, if_pos, if_neg, Option.bind_some, Option.bind_none, if_true, if_false, true_or, or_true, Int.toNat_natCast, pk_us]
  obtain ⟨z, hz, eC⟩ := hC
  have hD : ∃ t : Int, (t = 1 ∧ ((1 ≤ f ∧ f ≤ 63 ∧ f ≤ l ∧ l ≤ 63) ∧ jzOn m 4 = 1) ∨ t = 0 ∧ ¬ ((1 ≤ f ∧ f ≤ 63 ∧ f ≤ l ∧ l ≤ 63) ∧ jzOn m 4 = 1)) ∧ f_M_scan_J92 N (zI f) (zI x) (zI 0) a0 a1 a2 a3 a4 (zI y) (zI z) (zI m) (zI l) (zI bf) (zI b) = f_M_scan_J129 N (zI x) (zI 0) a0 a1 a2 a3 a4 (zI y) (zI z) (zI t) (zI m) (zI f) (zI l) (zI bf) (zI b) := by
    unfold f_M_scan_J92 f_M_scan_J128
    rw [q_ones N hN m rm.1 rm.2]
    have hb : 0 ≤ jzOn m 4 ∧ jzOn m 4 ≤ 4 := by
      simp only [jzOn]
      omega
    by_cases c1 : f < 1
    · refine ⟨0, by omega, ?_⟩; clear hx hy hz eA eB eC e1; simp (disch := omega) only [zI_lit, zI_ofNat, zI_nI, zI_neg, zI_add, zI_sub, zI_mul, zI_lt, zI_le, zI_eq, zI_cl, zI_div, zI_shr, zI_shl, zI_and1, zI_and7, zI_and15, zI_and255, if_pos, if_neg, Option.bind_some, Option.bind_none, if_true, if_false, true_or, or_true, Int.toNat_natCast, pk_us]
    by_cases c2 : 63 < f
    · refine ⟨0, by omega, ?_⟩; clear hx hy hz eA eB eC e1; simp (disch := omega) only [zI_lit, zI_ofNat, zI_nI, zI_neg, zI_add, zI_sub, zI_mul, zI_lt, zI_le, zI_eq, zI_cl, zI_div, zI_shr, zI_shl, zI_and1, zI_and7, zI_and15, zI_and255, if_pos, if_neg, Option.bind_some, Option.bind_none, if_true, if_false, true_or, or_true, Int.toNat_natCast, pk_us]
    by_cases c3 : l < f
    · refine ⟨0, by omega, ?_⟩; clear hx hy hz eA eB eC e1; simp (disch := omega) only [zI_lit, zI_ofNat, zI_nI, zI_neg, zI_add, zI_sub, zI_mul, zI_lt, zI_le, zI_eq, zI_cl, zI_div, zI_shr, zI_shl, zI_and1, zI_and7, zI_and15, zI_and255, if_pos, if_neg, Option.bind_some, Option.bind_none, if_true, if_false, true_or, or_true, Int.toNat_natCast, pk_us]
    by_cases c4 : 63 < l
    · refine ⟨0, by omega, ?_⟩; clear hx hy hz eA eB eC e1; simp (disch := omega) only [zI_lit, zI_ofNat, zI_nI, zI_neg, zI_add, zI_sub, zI_mul, zI_lt, zI_le, zI_eq, zI_cl, zI_div, zI_shr, zI_shl, zI_and1, zI_and7, zI_and15, zI_and255, if_pos, if_neg, Option.bind_some, Option.bind_none, if_true, if_false, true_or, or_true, Int.toNat_natCast, pk_us]
    by_cases c5 : jzOn m 4 = 1
    · refine ⟨1, by omega, ?_⟩; clear hx hy hz eA eB eC e1; simp (disch := omega) only [zI_lit, zI_ofNat, zI_nI, zI_neg, zI_add, zI_sub, zI_mul, zI_lt, zI_le, zI_eq, zI_cl, zI_div, zI_shr, zI_shl, zI_and1, zI_and7, zI_and15, zI_and255, if_pos, if_neg, Option.bind_some, Option.bind_none, if_true, if_false, true_or, or_true, Int.toNat_natCast, pk_us]
    · refine ⟨0, by omega, ?_⟩; clear hx hy hz eA eB eC e1; simp (disch := omega) only [zI_lit, zI_ofNat, zI_nI, zI_neg, zI_add, zI_sub, zI_mul, zI_lt, zI_le, zI_eq, zI_cl, zI_div, zI_shr, zI_shl, zI_and1, zI_and7, zI_and15, zI_and255, if_pos, if_neg, Option.bind_some, Option.bind_none, if_true, if_false, true_or, or_true, Int.toNat_natCast, pk_us]
  obtain ⟨t, ht, eD⟩ := hD
  rw [eA, eB, eC, eD]
  unfold f_M_scan_J129 f_M_scan_J153
  have hOn : 0 < m ∧ m < (P : Int) → (jzOn m 4 = 1 ↔ jzN m.toNat = 1) := by
    intro h
    obtain ⟨m, rfl⟩ := Int.eq_ofNat_of_zero_le (show 0 ≤ m by omega)
    rw [jzOn_n, Int.toNat_natCast]
    omega
  have rx : x = 0 ∨ x = 1 := by rcases hx with ⟨h, _⟩ | ⟨h, _⟩ <;> omega
  have ry : y = 0 ∨ y = 1 := by rcases hy with ⟨h, _⟩ | ⟨h, _⟩ <;> omega
  have rz : z = 0 ∨ z = 1 := by rcases hz with ⟨h, _⟩ | ⟨h, _⟩ <;> omega
  have rt : t = 0 ∨ t = 1 := by rcases ht with ⟨h, _⟩ | ⟨h, _⟩ <;> omega
  have px : x = 1 → (0 ≤ b ∧ b ≤ 9 ∧ (bf = 0 ∨ bf = b + 1)) ∧ 0 < m ∧ m < (P : Int) := fun h => by
    rcases hx with ⟨_, h'⟩ | ⟨h', _⟩
    · exact h'
    · omega
  have nx : ¬ x = 1 → ¬ ((0 ≤ b ∧ b ≤ 9 ∧ (bf = 0 ∨ bf = b + 1)) ∧ 0 < m ∧ m < (P : Int)) := fun h => by
    rcases hx with ⟨h', _⟩ | ⟨_, h'⟩
    · exact absurd h' h
    · exact h'
  have py : y = 1 → (f = 0 ∧ l = 63 ∧ bf = 0 ∧ b = 0) := fun h => by
    rcases hy with ⟨_, h'⟩ | ⟨h', _⟩
    · exact h'
    · omega
  have ny : ¬ y = 1 → ¬ (f = 0 ∧ l = 63 ∧ bf = 0 ∧ b = 0) := fun h => by
    rcases hy with ⟨h', _⟩ | ⟨_, h'⟩
    · exact absurd h' h
    · exact h'
  have pz : z = 1 → (f = 0 ∧ l = 0) := fun h => by
    rcases hz with ⟨_, h'⟩ | ⟨h', _⟩
    · exact h'
    · omega
  have nz : ¬ z = 1 → ¬ (f = 0 ∧ l = 0) := fun h => by
    rcases hz with ⟨h', _⟩ | ⟨_, h'⟩
    · exact absurd h' h
    · exact h'
  have pt : t = 1 → ((1 ≤ f ∧ f ≤ 63 ∧ f ≤ l ∧ l ≤ 63) ∧ jzOn m 4 = 1) := fun h => by
    rcases ht with ⟨_, h'⟩ | ⟨h', _⟩
    · exact h'
    · omega
  have nt : ¬ t = 1 → ¬ ((1 ≤ f ∧ f ≤ 63 ∧ f ≤ l ∧ l ≤ 63) ∧ jzOn m 4 = 1) := fun h => by
    rcases ht with ⟨h', _⟩ | ⟨_, h'⟩
    · exact absurd h' h
    · exact h'
  clear hx hy hz ht eA eB eC eD e1
  by_cases x1 : x = 1
  · have hpx := px x1
    by_cases y1 : y = 1
    · refine Or.inl ⟨⟨hpx.1, hpx.2.1, hpx.2.2, Or.inl (py y1)⟩, ?_⟩
      clear hOn px nx py ny pz nz pt nt hpx
      simp (disch := omega) only [zI_lit, zI_ofNat, zI_nI, zI_neg, zI_add, zI_sub, zI_mul, zI_lt, zI_le, zI_eq, zI_cl, zI_div, zI_shr, zI_shl, zI_and1, zI_and7, zI_and15, zI_and255, if_pos, if_neg, Option.bind_some, Option.bind_none, if_true, if_false, true_or, or_true, Int.toNat_natCast, pk_us]
    · by_cases z1 : z = 1
      · refine Or.inl ⟨⟨hpx.1, hpx.2.1, hpx.2.2, Or.inr (Or.inl (pz z1))⟩, ?_⟩
        clear hOn px nx py ny pz nz pt nt hpx
        simp (disch := omega) only [zI_lit, zI_ofNat, zI_nI, zI_neg, zI_add, zI_sub, zI_mul, zI_lt, zI_le, zI_eq, zI_cl, zI_div, zI_shr, zI_shl, zI_and1, zI_and7, zI_and15, zI_and255, if_pos, if_neg, Option.bind_some, Option.bind_none, if_true, if_false, true_or, or_true, Int.toNat_natCast, pk_us]
      · by_cases t1 : t = 1
        · refine Or.inl ⟨⟨hpx.1, hpx.2.1, hpx.2.2, Or.inr (Or.inr ⟨(pt t1).1, (hOn hpx.2).mp (pt t1).2⟩)⟩, ?_⟩
          clear hOn px nx py ny pz nz pt nt hpx
          simp (disch := omega) only [zI_lit, zI_ofNat, zI_nI, zI_neg, zI_add, zI_sub, zI_mul, zI_lt, zI_le, zI_eq, zI_cl, zI_div, zI_shr, zI_shl, zI_and1, zI_and7, zI_and15, zI_and255, if_pos, if_neg, Option.bind_some, Option.bind_none, if_true, if_false, true_or, or_true, Int.toNat_natCast, pk_us]
        · refine Or.inr ⟨fun h => ?_, ?_⟩
          · rcases h.2.2.2 with h' | h' | h'
            · exact ny y1 h'
            · exact nz z1 h'
            · exact nt t1 ⟨h'.1, (hOn hpx.2).mpr h'.2⟩
          · clear hOn px nx py ny pz nz pt nt hpx
            simp (disch := omega) only [zI_lit, zI_ofNat, zI_nI, zI_neg, zI_add, zI_sub, zI_mul, zI_lt, zI_le, zI_eq, zI_cl, zI_div, zI_shr, zI_shl, zI_and1, zI_and7, zI_and15, zI_and255, if_pos, if_neg, Option.bind_some, Option.bind_none, if_true, if_false, true_or, or_true, Int.toNat_natCast, pk_us]
  · refine Or.inr ⟨fun h => nx x1 ⟨h.1, h.2.1, h.2.2.1⟩, ?_⟩
    clear hOn px nx py ny pz nz pt nt
    simp (disch := omega) only [zI_lit, zI_ofNat, zI_nI, zI_neg, zI_add, zI_sub, zI_mul, zI_lt, zI_le, zI_eq, zI_cl, zI_div, zI_shr, zI_shl, zI_and1, zI_and7, zI_and15, zI_and255, if_pos, if_neg, Option.bind_some, Option.bind_none, if_true, if_false, true_or, or_true, Int.toNat_natCast, pk_us]
