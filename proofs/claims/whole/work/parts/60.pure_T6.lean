/-! places of coefficients; get and set -/
def jzA (w n s c : Nat) : Nat := jzH s c * jzU w s n
def jzD (hi n s c : Nat) : Nat := jzH (s / 2) c * jzU hi (s / 2) n
def jzT (w hi n s c : Nat) : Nat := jzS s (jzU w s n * jzU hi (s / 2) n) c
theorem jzT_0 (w hi n s : Nat) : jzT w hi n s 0 = 0 := rfl
theorem jzT_1 (w hi n s c : Nat) : jzT w hi n s (c + 1) = jzT w hi n s c + jzA w n s c * jzD hi n s c := by
  show jzS _ _ c + (jzU w s n * jzU hi (s / 2) n) * (jzH s c * jzH (s / 2) c) = _
  unfold jzT jzA jzD
  congr 1
  ac_rfl
def okF (w hi n s : Nat) : Prop := (1 ≤ w ∧ w ≤ 64) ∧ (1 ≤ hi ∧ hi ≤ 64) ∧ (1 ≤ n ∧ n ≤ 4) ∧ s < 256 ∧ jzT w hi n s n ≤ 192
theorem jzT_le {w hi n s c : Nat} (h : okF w hi n s) (hc : c < n) : jzT w hi n s c + jzA w n s c * jzD hi n s c ≤ jzT w hi n s n := by
  rw [← jzT_1]
  exact jzS_mono _ _ (by omega)
theorem jzT_192 {w hi n s c : Nat} (h : okF w hi n s) (hc : c < n) : jzT w hi n s c + jzA w n s c * jzD hi n s c ≤ 192 := Nat.le_trans (jzT_le h hc) h.2.2.2.2
theorem zI_short {z : Int} (h0 : -32768 ≤ z) (h1 : z ≤ 32767) : (zI z).toInt16.toInt32 = zI z := by
  rw [i_eq, Int16.toInt_toInt32, Int32.toInt_toInt16, zI_toInt (by omega) (by omega)]
  exact Int.bmod_eq_of_le (by omega) (by omega)
theorem zI_shortN {z : Int} (h0 : -32768 ≤ z) (h1 : z ≤ 32767) : vp_nar .short (zI z) = zI z := by
  rw [vp_nar_short, zI_short h0 h1]
theorem zI_byte {z : Int} (h0 : -128 ≤ z) (h1 : z ≤ 127) : (zI z).toInt8.toInt32 = zI z := by
  rw [i_eq, Int8.toInt_toInt32, Int32.toInt_toInt8, zI_toInt (by omega) (by omega)]
  exact Int.bmod_eq_of_le (by omega) (by omega)
theorem zI_byteN {z : Int} (h0 : -128 ≤ z) (h1 : z ≤ 127) : vp_nar .byte (zI z) = zI z := by
  rw [vp_nar_byte, zI_byte h0 h1]
def jzIn (w hi n s : Nat) (c b k : Int) : Prop := 0 ≤ c ∧ c < n ∧ 0 ≤ k ∧ k < 64 ∧ 0 ≤ b ∧ b < (jzA w n s c.toNat * jzD hi n s c.toNat : Nat)
theorem q_place {w hi n s : Nat} {h v ac dn oa od st : Nat → Int32} (hF : okF w hi n s) (hf : isFr w hi n s n h v ac dn oa od st) (c b k : Int) (rc : -2147483648 ≤ c ∧ c ≤ 2147483647) (rb : -2147483648 ≤ b ∧ b ≤ 2147483647) (rk : -2147483648 ≤ k ∧ k ≤ 2147483647) :
    (jzIn w hi n s c b k ∧ f_Picture_placeOf (zI c) (zI b) (zI k) (zI n) ac dn st = some (zI (64 * ((jzT w hi n s c.toNat : Nat) + b) + k))) ∨ (¬ jzIn w hi n s c b k ∧ f_Picture_placeOf (zI c) (zI b) (zI k) (zI n) ac dn st = some (zI (-1))) := by
  have hn := hF.2.2.1
  unfold f_Picture_placeOf
  by_cases c1 : c < 0
  · refine Or.inr ⟨fun h => by unfold jzIn at h; omega, ?_⟩; simp (disch := omega) only [zI_lit, zI_ofNat, zI_nI, zI_neg, zI_add, zI_sub, zI_mul, zI_lt, zI_le, zI_eq, zI_cl, zI_div, zI_shr, zI_shl, zI_and1, zI_and7, zI_and15, zI_and255, if_pos, if_neg, Option.bind_some, Option.bind_none, if_true, if_false, true_or, or_true, Int.toNat_natCast, pk_us]
  by_cases c2 : (n : Int) ≤ c
  · refine Or.inr ⟨fun h => by unfold jzIn at h; omega, ?_⟩; simp (disch := omega) only [zI_lit, zI_ofNat, zI_nI, zI_neg, zI_add, zI_sub, zI_mul, zI_lt, zI_le, zI_eq, zI_cl, zI_div, zI_shr, zI_shl, zI_and1, zI_and7, zI_and15, zI_and255, if_pos, if_neg, Option.bind_some, Option.bind_none, if_true, if_false, true_or, or_true, Int.toNat_natCast, pk_us]
  by_cases c3 : k < 0
  · refine Or.inr ⟨fun h => by unfold jzIn at h; omega, ?_⟩; simp (disch := omega) only [zI_lit, zI_ofNat, zI_nI, zI_neg, zI_add, zI_sub, zI_mul, zI_lt, zI_le, zI_eq, zI_cl, zI_div, zI_shr, zI_shl, zI_and1, zI_and7, zI_and15, zI_and255, if_pos, if_neg, Option.bind_some, Option.bind_none, if_true, if_false, true_or, or_true, Int.toNat_natCast, pk_us]
  by_cases c4 : ¬ k < 64
  · refine Or.inr ⟨fun h => by unfold jzIn at h; omega, ?_⟩; simp (disch := omega) only [zI_lit, zI_ofNat, zI_nI, zI_neg, zI_add, zI_sub, zI_mul, zI_lt, zI_le, zI_eq, zI_cl, zI_div, zI_shr, zI_shl, zI_and1, zI_and7, zI_and15, zI_and255, if_pos, if_neg, Option.bind_some, Option.bind_none, if_true, if_false, true_or, or_true, Int.toNat_natCast, pk_us]
  by_cases c5 : b < 0
  · refine Or.inr ⟨fun h => by unfold jzIn at h; omega, ?_⟩; simp (disch := omega) only [zI_lit, zI_ofNat, zI_nI, zI_neg, zI_add, zI_sub, zI_mul, zI_lt, zI_le, zI_eq, zI_cl, zI_div, zI_shr, zI_shl, zI_and1, zI_and7, zI_and15, zI_and255, if_pos, if_neg, Option.bind_some, Option.bind_none, if_true, if_false, true_or, or_true, Int.toNat_natCast, pk_us]
  obtain ⟨c, rfl⟩ := Int.eq_ofNat_of_zero_le (show 0 ≤ c by omega)
  obtain ⟨f1, f2, f3, f4, f5, f6, f7⟩ := hf c (by omega)
  have hT := jzT_192 hF (c := c) (by omega)
  have f3' : ac c = zI (jzA w n s c : Nat) := f3
  have f4' : dn c = zI (jzD hi n s c : Nat) := f4
  have f7' : st c = zI (jzT w hi n s c : Nat) := f7
  have e : zI (jzA w n s c : Nat) * zI (jzD hi n s c : Nat) = zI (jzA w n s c * jzD hi n s c : Nat) := by rw [zI_mul]; rfl
  by_cases c6 : b < (jzA w n s c * jzD hi n s c : Nat)
  · refine Or.inl ⟨⟨by omega, by omega, by omega, by omega, by omega, by rw [Int.toNat_natCast]; exact c6⟩, ?_⟩
    simp (disch := omega) only [zI_lit, zI_ofNat, zI_nI, zI_neg, zI_add, zI_sub, zI_mul, zI_lt, zI_le, zI_eq, zI_cl, zI_div, zI_shr, zI_shl, zI_and1, zI_and7, zI_and15, zI_and255, if_pos, if_neg, Option.bind_some, Option.bind_none, if_true, if_false, true_or, or_true, Int.toNat_natCast, pk_us, f3', f4', e, f7']
    congr 2
    omega
  · refine Or.inr ⟨fun h => by unfold jzIn at h; rw [Int.toNat_natCast] at h; omega, ?_⟩
    simp (disch := omega) only [zI_lit, zI_ofNat, zI_nI, zI_neg, zI_add, zI_sub, zI_mul, zI_lt, zI_le, zI_eq, zI_cl, zI_div, zI_shr, zI_shl, zI_and1, zI_and7, zI_and15, zI_and255, if_pos, if_neg, Option.bind_some, Option.bind_none, if_true, if_false, true_or, or_true, Int.toNat_natCast, pk_us, f3', f4', e]
theorem q_isBlock {w hi n s : Nat} {h v ac dn oa od st : Nat → Int32} (hF : okF w hi n s) (hf : isFr w hi n s n h v ac dn oa od st) (c b : Int) (rc : -2147483648 ≤ c ∧ c ≤ 2147483647) (rb : -2147483648 ≤ b ∧ b ≤ 2147483647) :
    (jzIn w hi n s c b 0 ∧ f_M_isBlock (zI c) (zI b) (zI n) ac dn = some (zI 1)) ∨ (¬ jzIn w hi n s c b 0 ∧ f_M_isBlock (zI c) (zI b) (zI n) ac dn = some (zI 0)) := by
  have hn := hF.2.2.1
  unfold f_M_isBlock
  by_cases c1 : c < 0
  · refine Or.inr ⟨fun h => by unfold jzIn at h; omega, ?_⟩; simp (disch := omega) only [zI_lit, zI_ofNat, zI_nI, zI_neg, zI_add, zI_sub, zI_mul, zI_lt, zI_le, zI_eq, zI_cl, zI_div, zI_shr, zI_shl, zI_and1, zI_and7, zI_and15, zI_and255, if_pos, if_neg, Option.bind_some, Option.bind_none, if_true, if_false, true_or, or_true, Int.toNat_natCast, pk_us]
  by_cases c2 : (n : Int) ≤ c
  · refine Or.inr ⟨fun h => by unfold jzIn at h; omega, ?_⟩; simp (disch := omega) only [zI_lit, zI_ofNat, zI_nI, zI_neg, zI_add, zI_sub, zI_mul, zI_lt, zI_le, zI_eq, zI_cl, zI_div, zI_shr, zI_shl, zI_and1, zI_and7, zI_and15, zI_and255, if_pos, if_neg, Option.bind_some, Option.bind_none, if_true, if_false, true_or, or_true, Int.toNat_natCast, pk_us]
  by_cases c5 : b < 0
  · refine Or.inr ⟨fun h => by unfold jzIn at h; omega, ?_⟩; simp (disch := omega) only [zI_lit, zI_ofNat, zI_nI, zI_neg, zI_add, zI_sub, zI_mul, zI_lt, zI_le, zI_eq, zI_cl, zI_div, zI_shr, zI_shl, zI_and1, zI_and7, zI_and15, zI_and255, if_pos, if_neg, Option.bind_some, Option.bind_none, if_true, if_false, true_or, or_true, Int.toNat_natCast, pk_us]
  obtain ⟨c, rfl⟩ := Int.eq_ofNat_of_zero_le (show 0 ≤ c by omega)
  obtain ⟨f1, f2, f3, f4, f5, f6, f7⟩ := hf c (by omega)
  have hT := jzT_192 hF (c := c) (by omega)
  have f3' : ac c = zI (jzA w n s c : Nat) := f3
  have f4' : dn c = zI (jzD hi n s c : Nat) := f4
  have e : zI (jzA w n s c : Nat) * zI (jzD hi n s c : Nat) = zI (jzA w n s c * jzD hi n s c : Nat) := by rw [zI_mul]; rfl
  unfold f_M_isBlock_J38 f_M_isBlock_J60
  by_cases c6 : b < (jzA w n s c * jzD hi n s c : Nat)
  · refine Or.inl ⟨⟨by omega, by omega, by omega, by omega, by omega, by rw [Int.toNat_natCast]; exact c6⟩, ?_⟩
    simp (disch := omega) only [zI_lit, zI_ofNat, zI_nI, zI_neg, zI_add, zI_sub, zI_mul, zI_lt, zI_le, zI_eq, zI_cl, zI_div, zI_shr, zI_shl, zI_and1, zI_and7, zI_and15, zI_and255, if_pos, if_neg, Option.bind_some, Option.bind_none, if_true, if_false, true_or, or_true, Int.toNat_natCast, pk_us, f3', f4', e]
  · refine Or.inr ⟨fun h => by unfold jzIn at h; rw [Int.toNat_natCast] at h; omega, ?_⟩
    simp (disch := omega) only [zI_lit, zI_ofNat, zI_nI, zI_neg, zI_add, zI_sub, zI_mul, zI_lt, zI_le, zI_eq, zI_cl, zI_div, zI_shr, zI_shl, zI_and1, zI_and7, zI_and15, zI_and255, if_pos, if_neg, Option.bind_some, Option.bind_none, if_true, if_false, true_or, or_true, Int.toNat_natCast, pk_us, f3', f4', e]
def okC (i : Nat) (z : Int) : Prop := -1024 ≤ z ∧ z ≤ 1023 ∧ (i % 64 ≠ 0 → -1023 ≤ z)
def rCo (B : Nat) (co co' : Nat → Int32) : Prop := ∀ i, i < 64 * B → co i = co' i ∧ ∃ z, co i = zI z ∧ okC i z
theorem q_canBe (k z : Int) (rk : 0 ≤ k ∧ k < 64) (rz : -2147483648 ≤ z ∧ z ≤ 2147483647) :
    ((if k = 0 then -1024 else -1023) ≤ z ∧ z ≤ 1023 ∧ f_Picture_canBe (zI k) (zI z) = some (zI 1) ∧ f_M_canBe (zI k) (zI z) = some (zI 1)) ∨
    (¬ ((if k = 0 then -1024 else -1023) ≤ z ∧ z ≤ 1023) ∧ f_Picture_canBe (zI k) (zI z) = some (zI 0) ∧ f_M_canBe (zI k) (zI z) = some (zI 0)) := by
  unfold f_Picture_canBe f_Picture_canBe_J13 f_Picture_canBe_J27 f_M_canBe f_M_canBe_J14
  by_cases c0 : k = 0
  · subst c0
    by_cases c1 : z < -1024
    · refine Or.inr ⟨by omega, ?_, ?_⟩ <;> simp (disch := omega) only [zI_lit, zI_ofNat, zI_nI, zI_neg, zI_add, zI_sub, zI_mul, zI_lt, zI_le, zI_eq, zI_cl, zI_div, zI_shr, zI_shl, zI_and1, zI_and7, zI_and15, zI_and255, if_pos, if_neg, Option.bind_some, Option.bind_none, if_true, if_false, true_or, or_true, Int.toNat_natCast, pk_us]
    · by_cases c2 : 1023 < z
      · refine Or.inr ⟨by omega, ?_, ?_⟩ <;> simp (disch := omega) only [zI_lit, zI_ofNat, zI_nI, zI_neg, zI_add, zI_sub, zI_mul, zI_lt, zI_le, zI_eq, zI_cl, zI_div, zI_shr, zI_shl, zI_and1, zI_and7, zI_and15, zI_and255, if_pos, if_neg, Option.bind_some, Option.bind_none, if_true, if_false, true_or, or_true, Int.toNat_natCast, pk_us]
      · refine Or.inl ⟨by omega, by omega, ?_, ?_⟩ <;> simp (disch := omega) only [zI_lit, zI_ofNat, zI_nI, zI_neg, zI_add, zI_sub, zI_mul, zI_lt, zI_le, zI_eq, zI_cl, zI_div, zI_shr, zI_shl, zI_and1, zI_and7, zI_and15, zI_and255, if_pos, if_neg, Option.bind_some, Option.bind_none, if_true, if_false, true_or, or_true, Int.toNat_natCast, pk_us]
  · by_cases c1 : z < -1023
    · refine Or.inr ⟨by omega, ?_, ?_⟩ <;> simp (disch := omega) only [zI_lit, zI_ofNat, zI_nI, zI_neg, zI_add, zI_sub, zI_mul, zI_lt, zI_le, zI_eq, zI_cl, zI_div, zI_shr, zI_shl, zI_and1, zI_and7, zI_and15, zI_and255, if_pos, if_neg, Option.bind_some, Option.bind_none, if_true, if_false, true_or, or_true, Int.toNat_natCast, pk_us]
    · by_cases c2 : 1023 < z
      · refine Or.inr ⟨by omega, ?_, ?_⟩ <;> simp (disch := omega) only [zI_lit, zI_ofNat, zI_nI, zI_neg, zI_add, zI_sub, zI_mul, zI_lt, zI_le, zI_eq, zI_cl, zI_div, zI_shr, zI_shl, zI_and1, zI_and7, zI_and15, zI_and255, if_pos, if_neg, Option.bind_some, Option.bind_none, if_true, if_false, true_or, or_true, Int.toNat_natCast, pk_us]
      · refine Or.inl ⟨by omega, by omega, ?_, ?_⟩ <;> simp (disch := omega) only [zI_lit, zI_ofNat, zI_nI, zI_neg, zI_add, zI_sub, zI_mul, zI_lt, zI_le, zI_eq, zI_cl, zI_div, zI_shr, zI_shl, zI_and1, zI_and7, zI_and15, zI_and255, if_pos, if_neg, Option.bind_some, Option.bind_none, if_true, if_false, true_or, or_true, Int.toNat_natCast, pk_us]
theorem jzIn_at {w hi n s : Nat} (hF : okF w hi n s) {c b k : Int} (h : jzIn w hi n s c b k) : 0 ≤ 64 * ((jzT w hi n s c.toNat : Nat) + b) + k ∧ 64 * ((jzT w hi n s c.toNat : Nat) + b) + k < 64 * (jzT w hi n s n : Nat) := by
  obtain ⟨h1, h2, h3, h4, h5, h6⟩ := h
  have hT := jzT_le hF (c := c.toNat) (by omega)
  omega
/-- Promise 10 -/
theorem q_get {w hi n s nco : Nat} {h v ac dn oa od st h' v' ac' dn' oa' od' st' co co' : Nat → Int32} (hF : okF w hi n s) (hf : isFr w hi n s n h v ac dn oa od st) (hf' : isFr w hi n s n h' v' ac' dn' oa' od' st') (hn : 64 * jzT w hi n s n ≤ nco) (hC : rCo (jzT w hi n s n) co co') (p0 p1 p2 : Int32) :
    ∃ z z', f_SC_get p0 p1 p2 (zI n) ac dn st nco co = some z ∧ f_M_get p0 p1 p2 (zI n) ac' dn' st' co' = some z' ∧ z = z'.1 := by
  have hB := hF.2.2.2.2
  have hn4 := hF.2.2.1
  obtain ⟨c, hc⟩ : ∃ c, c = p0.toInt := ⟨_, rfl⟩
  obtain ⟨b, hb⟩ : ∃ c, c = p1.toInt := ⟨_, rfl⟩
  obtain ⟨k, hk⟩ : ∃ c, c = p2.toInt := ⟨_, rfl⟩
  have rc := i_rng p0
  have rb := i_rng p1
  have rk := i_rng p2
  rw [← hc] at rc
  rw [← hb] at rb
  rw [← hk] at rk
  obtain rfl : p0 = zI c := by rw [hc]; exact zI_of _
  obtain rfl : p1 = zI b := by rw [hb]; exact zI_of _
  obtain rfl : p2 = zI k := by rw [hk]; exact zI_of _
  clear hc hb hk
  unfold f_SC_get f_M_get
  rcases q_place hF hf c b k rc rb rk with ⟨a1, a2⟩ | ⟨a1, a2⟩ <;> rcases q_isBlock hF hf' c b rc rb with ⟨b1, b2⟩ | ⟨b1, b2⟩
  · rw [a2, b2]
    have hI := jzIn_at hF a1
    obtain ⟨g1, g2, g3, g4, g5, g6⟩ := a1
    obtain ⟨c, rfl⟩ := Int.eq_ofNat_of_zero_le g1
    rw [Int.toNat_natCast] at hI
    have f7 : st' c = zI (jzT w hi n s c : Nat) := (hf' c (by omega)).2.2.2.2.2.2
    simp (disch := omega) only [zI_lit, zI_ofNat, zI_nI, zI_neg, zI_add, zI_sub, zI_mul, zI_lt, zI_le, zI_eq, zI_cl, zI_div, zI_shr, zI_shl, zI_and1, zI_and7, zI_and15, zI_and255, if_pos, if_neg, Option.bind_some, Option.bind_none, if_true, if_false, true_or, or_true, Int.toNat_natCast, pk_us, f7]
    exact ⟨_, _, rfl, rfl, (hC _ (by omega)).1⟩
  · exact absurd ⟨a1.1, a1.2.1, by omega, by omega, a1.2.2.2.2⟩ b1
  · rw [a2, b2]
    by_cases k0 : k < 0
    · simp (disch := omega) only [zI_lit, zI_ofNat, zI_nI, zI_neg, zI_add, zI_sub, zI_mul, zI_lt, zI_le, zI_eq, zI_cl, zI_div, zI_shr, zI_shl, zI_and1, zI_and7, zI_and15, zI_and255, if_pos, if_neg, Option.bind_some, Option.bind_none, if_true, if_false, true_or, or_true, Int.toNat_natCast, pk_us]
      exact ⟨_, _, rfl, rfl, rfl⟩
    · have : ¬ k < 64 := fun h => a1 ⟨b1.1, b1.2.1, by omega, by omega, b1.2.2.2.2⟩
      simp (disch := omega) only [zI_lit, zI_ofNat, zI_nI, zI_neg, zI_add, zI_sub, zI_mul, zI_lt, zI_le, zI_eq, zI_cl, zI_div, zI_shr, zI_shl, zI_and1, zI_and7, zI_and15, zI_and255, if_pos, if_neg, Option.bind_some, Option.bind_none, if_true, if_false, true_or, or_true, Int.toNat_natCast, pk_us]
      exact ⟨_, _, rfl, rfl, rfl⟩
  · rw [a2, b2]
    simp (disch := omega) only [zI_lit, zI_ofNat, zI_nI, zI_neg, zI_add, zI_sub, zI_mul, zI_lt, zI_le, zI_eq, zI_cl, zI_div, zI_shr, zI_shl, zI_and1, zI_and7, zI_and15, zI_and255, if_pos, if_neg, Option.bind_some, Option.bind_none, if_true, if_false, true_or, or_true, Int.toNat_natCast, pk_us]
    exact ⟨_, _, rfl, rfl, rfl⟩
/-- Promise 9 -/
theorem q_set {w hi n s nco : Nat} {h v ac dn oa od st h' v' ac' dn' oa' od' st' co co' : Nat → Int32} (hF : okF w hi n s) (hf : isFr w hi n s n h v ac dn oa od st) (hf' : isFr w hi n s n h' v' ac' dn' oa' od' st') (hn : 64 * jzT w hi n s n ≤ nco) (hC : rCo (jzT w hi n s n) co co') (p0 p1 p2 p3 : Int32) :
    ∃ z z', f_SC_set p0 p1 p2 p3 (zI n) ac dn st nco co = some z ∧ f_M_set p0 p1 p2 p3 (zI n) ac' dn' st' co' = some z' ∧ z.1 = z'.1 ∧ rCo (jzT w hi n s n) z.2 z'.2.2 := by
  have hB := hF.2.2.2.2
  have hn4 := hF.2.2.1
  obtain ⟨c, hc⟩ : ∃ c, c = p0.toInt := ⟨_, rfl⟩
  obtain ⟨b, hb⟩ : ∃ c, c = p1.toInt := ⟨_, rfl⟩
  obtain ⟨k, hk⟩ : ∃ c, c = p2.toInt := ⟨_, rfl⟩
  obtain ⟨x, hx⟩ : ∃ c, c = p3.toInt := ⟨_, rfl⟩
  have rc := i_rng p0
  have rb := i_rng p1
  have rk := i_rng p2
  have rx := i_rng p3
  rw [← hc] at rc
  rw [← hb] at rb
  rw [← hk] at rk
  rw [← hx] at rx
  obtain rfl : p0 = zI c := by rw [hc]; exact zI_of _
  obtain rfl : p1 = zI b := by rw [hb]; exact zI_of _
  obtain rfl : p2 = zI k := by rw [hk]; exact zI_of _
  obtain rfl : p3 = zI x := by rw [hx]; exact zI_of _
  clear hc hb hk hx
  unfold f_SC_set f_M_set
  rcases q_place hF hf c b k rc rb rk with ⟨a1, a2⟩ | ⟨a1, a2⟩ <;> rcases q_isBlock hF hf' c b rc rb with ⟨b1, b2⟩ | ⟨b1, b2⟩
  · rw [a2, b2]
    have hI := jzIn_at hF a1
    obtain ⟨g1, g2, g3, g4, g5, g6⟩ := a1
    obtain ⟨c, rfl⟩ := Int.eq_ofNat_of_zero_le g1
    rw [Int.toNat_natCast] at hI
    have f7 : st' c = zI (jzT w hi n s c : Nat) := (hf' c (by omega)).2.2.2.2.2.2
    rcases q_canBe k x ⟨g3, g4⟩ rx with ⟨k1, k2, k3, k4⟩ | ⟨k1, k3, k4⟩
    · rw [k3, k4]
      have hs : -1024 ≤ x := by split at k1 <;> omega
      simp (disch := omega) only [zI_lit, zI_ofNat, zI_nI, zI_neg, zI_add, zI_sub, zI_mul, zI_lt, zI_le, zI_eq, zI_cl, zI_div, zI_shr, zI_shl, zI_and1, zI_and7, zI_and15, zI_and255, if_pos, if_neg, Option.bind_some, Option.bind_none, if_true, if_false, true_or, or_true, Int.toNat_natCast, pk_us, f7, zI_short, zI_shortN]
      refine ⟨_, _, rfl, rfl, rfl, fun i hj => ?_⟩
      dsimp only
      by_cases e : i = (64 * ((jzT w hi n s c : Nat) + b) + k).toNat
      · rw [e, pk_us, pk_us]
        refine ⟨rfl, x, rfl, hs, k2, fun h9 => ?_⟩
        rw [if_neg (by intro h10; subst h10; apply h9; omega)] at k1
        exact k1
      · rw [pk_un e, pk_un e]; exact hC i hj
    · rw [k3, k4]
      simp (disch := omega) only [zI_lit, zI_ofNat, zI_nI, zI_neg, zI_add, zI_sub, zI_mul, zI_lt, zI_le, zI_eq, zI_cl, zI_div, zI_shr, zI_shl, zI_and1, zI_and7, zI_and15, zI_and255, if_pos, if_neg, Option.bind_some, Option.bind_none, if_true, if_false, true_or, or_true, Int.toNat_natCast, pk_us]
      exact ⟨_, _, rfl, rfl, rfl, hC⟩
  · exact absurd ⟨a1.1, a1.2.1, by omega, by omega, a1.2.2.2.2⟩ b1
  · rw [a2, b2]
    by_cases k0 : k < 0
    · simp (disch := omega) only [zI_lit, zI_ofNat, zI_nI, zI_neg, zI_add, zI_sub, zI_mul, zI_lt, zI_le, zI_eq, zI_cl, zI_div, zI_shr, zI_shl, zI_and1, zI_and7, zI_and15, zI_and255, if_pos, if_neg, Option.bind_some, Option.bind_none, if_true, if_false, true_or, or_true, Int.toNat_natCast, pk_us]
      exact ⟨_, _, rfl, rfl, rfl, hC⟩
    · have : ¬ k < 64 := fun h => a1 ⟨b1.1, b1.2.1, by omega, by omega, b1.2.2.2.2⟩
      simp (disch := omega) only [zI_lit, zI_ofNat, zI_nI, zI_neg, zI_add, zI_sub, zI_mul, zI_lt, zI_le, zI_eq, zI_cl, zI_div, zI_shr, zI_shl, zI_and1, zI_and7, zI_and15, zI_and255, if_pos, if_neg, Option.bind_some, Option.bind_none, if_true, if_false, true_or, or_true, Int.toNat_natCast, pk_us]
      exact ⟨_, _, rfl, rfl, rfl, hC⟩
  · rw [a2, b2]
    simp (disch := omega) only [zI_lit, zI_ofNat, zI_nI, zI_neg, zI_add, zI_sub, zI_mul, zI_lt, zI_le, zI_eq, zI_cl, zI_div, zI_shr, zI_shl, zI_and1, zI_and7, zI_and15, zI_and255, if_pos, if_neg, Option.bind_some, Option.bind_none, if_true, if_false, true_or, or_true, Int.toNat_natCast, pk_us]
    exact ⟨_, _, rfl, rfl, rfl, hC⟩
