/-! Promise 5: make; Promise 18: look -/
def okB (cn sy : Nat → Nat) (sz : Nat) : Prop := (∀ l, 1 ≤ l → l ≤ 16 → cn l < 256) ∧ sz ≤ 256 ∧ ∀ i, i < sz → sy i < 256
def rTab1 (t : Nat) (w s f x : Nat → Int32) (e z : Int32) (ln cd : Nat → Int32) (wd : Int32) : Prop := ∃ cn sy sz, okT cn sy sz ∧ okB cn sy sz ∧ rTbC cn sy sz w s f x e z ∧ entM cn sy t ln cd sz ∧ wd = zI (sz : Nat)
def rAll (vw vs vf vx : Nat → Nat → Int32) (ve vz : Nat → Int32) (ln cd wd : Nat → Int32) : Prop := ∀ t, t < 8 → rTab1 t (vw t) (vs t) (vf t) (vx t) (ve t) (vz t) ln cd (wd t)
theorem cn_of {c c' : Nat → Int32} (h : rCounts c c') : ∃ cn, rCn cn c ∧ rCn cn c' := by
  refine ⟨fun l => (c l).toNatClampNeg, fun l h1 h2 => ?_, fun l h1 h2 => ?_⟩
  · obtain ⟨-, n, n1, n2⟩ := h l h1 h2
    dsimp only
    rw [n2, zI_nI, zI_cl (by omega) (by omega), Int.toNat_natCast]
    exact ⟨n1, rfl⟩
  · obtain ⟨e, n, n1, n2⟩ := h l h1 h2
    dsimp only
    rw [← e, n2, zI_nI, zI_cl (by omega) (by omega), Int.toNat_natCast]
    exact ⟨n1, rfl⟩
theorem sy_of {n n' : Int32} {s s' : Nat → Int32} (h : rSyms n s n' s') : ∃ sy sz, n = zI (sz : Nat) ∧ n' = zI (sz : Nat) ∧ rSy sy sz s ∧ rSy sy sz s' := by
  obtain ⟨h0, h1, h2, h3⟩ := h
  refine ⟨fun i => (s i).toNatClampNeg, n.toInt.toNat, ?_, ?_, ⟨by omega, fun i hi => ?_⟩, ⟨by omega, fun i hi => ?_⟩⟩
  · rw [Int.toNat_of_nonneg h1]; exact zI_of n
  · rw [h0, Int.toNat_of_nonneg h1]; exact zI_of n
  · obtain ⟨-, m, m1, m2⟩ := h3 i (by omega)
    dsimp only
    rw [m2, zI_nI, zI_cl (by omega) (by omega), Int.toNat_natCast]
    exact ⟨m1, rfl⟩
  · obtain ⟨e, m, m1, m2⟩ := h3 i (by omega)
    dsimp only
    rw [← e, m2, zI_nI, zI_cl (by omega) (by omega), Int.toNat_natCast]
    exact ⟨m1, rfl⟩
/-- Promise 5 -/
theorem q_make (N : Nat) (hN : 1000 ≤ N) (p0 : Int32) {dc dc' ds ds' dz ln cd wd : Nat → Int32} {n n' : Int32} {vw vs vf vx : Nat → Nat → Int32} {ve vz : Nat → Int32} (hc : rCounts dc dc') (hs : rSyms n ds n' ds') (hA : rAll vw vs vf vx ve vz ln cd wd) :
    ∃ z z', f_SC_make N p0 n dc ds dz vw vs vf vx ve vz = some z ∧ f_M_make N p0 n' dc' ds' wd ln cd = some z' ∧ z.1 = z'.1 ∧ rAll z.2.2.1 z.2.2.2.1 z.2.2.2.2.1 z.2.2.2.2.2.1 z.2.2.2.2.2.2.1 z.2.2.2.2.2.2.2 z'.2.2.2.1 z'.2.2.2.2 z'.2.2.1 := by
  obtain ⟨cn, c1, c2⟩ := cn_of hc
  obtain ⟨sy, sz, rfl, rfl, s1, s2⟩ := sy_of hs
  obtain ⟨p, hp⟩ : ∃ p, p = p0.toInt := ⟨_, rfl⟩
  have rp := i_rng p0
  rw [← hp] at rp
  obtain rfl : p0 = zI p := by rw [hp]; exact zI_of _
  clear hp
  have h256 := s1.1
  unfold f_SC_make f_M_make
  by_cases d1 : p < 0
  · simp (disch := omega) only [zI_lit, zI_ofNat, zI_nI, zI_neg, zI_add, zI_sub, zI_mul, zI_lt, zI_le, zI_eq, zI_cl, zI_div, zI_shr, zI_shl, zI_and1, zI_and7, zI_and15, zI_and255, if_pos, if_neg, Option.bind_some, Option.bind_none, if_true, if_false, true_or, or_true, Int.toNat_natCast, pk_us]
    exact ⟨_, _, rfl, rfl, rfl, hA⟩
  by_cases d2 : 7 < p
  · simp (disch := omega) only [zI_lit, zI_ofNat, zI_nI, zI_neg, zI_add, zI_sub, zI_mul, zI_lt, zI_le, zI_eq, zI_cl, zI_div, zI_shr, zI_shl, zI_and1, zI_and7, zI_and15, zI_and255, if_pos, if_neg, Option.bind_some, Option.bind_none, if_true, if_false, true_or, or_true, Int.toNat_natCast, pk_us]
    exact ⟨_, _, rfl, rfl, rfl, hA⟩
  obtain ⟨t, rfl⟩ := Int.eq_ofNat_of_zero_le (show 0 ≤ p by omega)
  obtain ⟨z', hz⟩ := q_isTable N hN c1 s1 (z := dz)
  have hM := q_MisTable N hN c2 s2
  have gt : (zI ((t : Nat) : Int)).toNatClampNeg = t := by rw [zI_cl (by omega) (by omega), Int.toNat_natCast]
  by_cases ok : okT cn sy sz
  · have e1 : f_Draft_isTable N (zI sz) dc ds dz = some (zI 1, z') := by
      rcases hz with h | h
      · exact h.2
      · exact absurd ok h.1
    have e2 : f_M_isTable N (zI sz) dc' ds' = some (zI 1) := by
      rcases hM with h | h
      · exact h.2
      · exact absurd ok h.1
    obtain ⟨b, b1, b2⟩ := q_become N hN c1 s1 ok (w := vw t) (s0 := vs t) (f := vf t) (x := vx t)
    obtain ⟨x2, x4, y1, y2, y3, y4⟩ := q_Mmk N hN c2 s2 ok t (by omega) (ln := ln) (cd := cd)
    have y1' : f_M_make_L26 (zI t) N N (zI 0, ln) = some x2 := y1
    have y2' : f_M_make_L59 dc' (zI t) ds' N N (zI 0, zI 0, zI 1, x2, cd) = some x4 := y2
    rw [e1, e2]
    simp (disch := omega) only [zI_lit, zI_ofNat, zI_nI, zI_neg, zI_add, zI_sub, zI_mul, zI_lt, zI_le, zI_eq, zI_cl, zI_div, zI_shr, zI_shl, zI_and1, zI_and7, zI_and15, zI_and255, if_pos, if_neg, Option.bind_some, Option.bind_none, if_true, if_false, true_or, or_true, Int.toNat_natCast, pk_us, b1, y1', y2']
    refine ⟨_, _, rfl, rfl, rfl, fun t' ht' => ?_⟩
    dsimp only
    by_cases e : t' = t
    · subst e
      simp only [va_up_self, pk_us]
      exact ⟨cn, sy, sz, ok, ⟨fun l h1 h2 => (c1 l h1 h2).1, h256, fun i hi => (s1.2 i hi).1⟩, b2, y3, rfl⟩
    · simp only [va_up_ne _ _ e, pk_un e]
      obtain ⟨cn', sy', sz', o1, o2, o3, o4, o5⟩ := hA t' ht'
      refine ⟨cn', sy', sz', o1, o2, o3, ⟨fun l p a1 a2 a3 a4 => ?_, fun s hs hh => ?_⟩, o5⟩
      · have := o2.2.2 p a4
        have h9 : 256 * t' + sy' p < 256 * t ∨ 256 * t + 256 ≤ 256 * t' + sy' p := by omega
        rw [(y4 _ h9).1, (y4 _ h9).2]
        exact o4.1 l p a1 a2 a3 a4
      · have h9 : 256 * t' + s < 256 * t ∨ 256 * t + 256 ≤ 256 * t' + s := by omega
        rw [(y4 _ h9).1]
        exact o4.2 s hs hh
  · have e1 : f_Draft_isTable N (zI sz) dc ds dz = some (zI 0, z') := by
      rcases hz with h | h
      · exact absurd h.1 ok
      · exact h.2
    have e2 : f_M_isTable N (zI sz) dc' ds' = some (zI 0) := by
      rcases hM with h | h
      · exact absurd h.1 ok
      · exact h.2
    rw [e1, e2]
    simp (disch := omega) only [zI_lit, zI_ofNat, zI_nI, zI_neg, zI_add, zI_sub, zI_mul, zI_lt, zI_le, zI_eq, zI_cl, zI_div, zI_shr, zI_shl, zI_and1, zI_and7, zI_and15, zI_and255, if_pos, if_neg, Option.bind_some, Option.bind_none, if_true, if_false, true_or, or_true, Int.toNat_natCast, pk_us]
    exact ⟨_, _, rfl, rfl, rfl, hA⟩
theorem jzUn_1 {w hi n s : Nat} (hF : okF w hi n s) (c0 : Nat) (hc : c0 < n) (e : jzN (2 ^ c0) = 1) : jzUn w hi n s (2 ^ c0) = jzO hi (jzH (s / 2) c0) (jzM (s / 2) n) * jzO w (jzH s c0) (jzM s n) := by
  have hl : ∀ u, (jzUL w n s (2 ^ c0) u n).length = jzBl n s (2 ^ c0) := fun u => UL_len ..
  have hb := jzBl_1 n s c0 hc hF.2.2.1.2 e
  unfold jzUn
  rw [if_pos e, oneL_eq hF c0 hc e, List.length_flatMap]
  rw [List.map_congr_left (g := fun _ => 1) (fun a _ => by rw [hl, hb])]
  rw [List.map_const', List.sum_replicate_nat, List.length_range, Nat.mul_one]
def jzC0 (m : Nat) : Nat := if m % 2 = 1 then 0 else if m / 2 % 2 = 1 then 1 else if m / 4 % 2 = 1 then 2 else 3
theorem jzC0_p : ∀ c, c < 4 → jzC0 (2 ^ c) = c := by decide
theorem jzC0_K : ∀ m, m < 16 → 0 < m → (∀ c, c < 4 → c < jzC0 m → jzK m c = 0) ∧ jzK m (jzC0 m) = 1 := by decide
theorem q_single (N : Nat) (hN : 100 ≤ N) (m : Nat) (h0 : 0 < m) (h1 : m < 16) : f_M_single N (zI m) = some (zI (jzC0 m : Nat)) := by
  have hk := jzC0_K m h1 h0
  have hc4 : jzC0 m < 4 := by unfold jzC0; split <;> (try split) <;> (try split) <;> omega
  have := it_cnt1 (b := fun rec a => f_M_single_L2b (zI m) N rec a) (fun c => zI c) (zI (jzC0 m : Nat)) (jzC0 m) (fun g c hc hg => by
    unfold f_M_single_L2b
    rw [bit_c m c (by omega) (by omega), hk.1 c (by omega) hc]
    simp (disch := omega) only [zI_lit, zI_ofNat, zI_nI, zI_neg, zI_add, zI_sub, zI_mul, zI_lt, zI_le, zI_eq, zI_cl, zI_div, zI_shr, zI_shl, zI_and1, zI_and7, zI_and15, zI_and255, if_pos, if_neg, Option.bind_some, Option.bind_none, if_true, if_false, true_or, or_true, Int.toNat_natCast, pk_us]
    exact hg) (fun g => by
    unfold f_M_single_L2b
    rw [bit_c m _ (by omega) (by omega), hk.2]
    rfl) N 0 (by omega) (by omega)
  unfold f_M_single f_M_single_L2
  show (it _ N (zI (0 : Nat))).bind _ = _
  rw [this]
  rfl
theorem m_lt16 {n m : Nat} (hn : n ≤ 4) (hm : m < 2 ^ n) : m < 16 := Nat.lt_of_lt_of_le hm (Nat.pow_le_pow_right (by omega) hn (n := 2))
theorem c0_lt {n c0 : Nat} (hm : 2 ^ c0 < 2 ^ n) : c0 < n := by
  rcases Nat.lt_or_ge c0 n with h | h
  · exact h
  · exact absurd hm (by have := Nat.pow_le_pow_right (n := 2) (by omega) h; omega)
theorem q_units (N : Nat) (hN : 100 ≤ N) {w hi n s : Nat} {h v ac dn oa od st : Nat → Int32} (hF : okF w hi n s) (hf : isFr w hi n s n h v ac dn oa od st) (m : Nat) (hm0 : 0 < m) (hm : m < 2 ^ n) : f_M_units N (zI (jzU w s n : Nat)) (zI (jzU hi (s / 2) n : Nat)) (zI m) oa od = some (zI (jzUn w hi n s m : Nat)) := by
  have hn4 := hF.2.2.1
  have h16 := m_lt16 hn4.2 hm
  unfold f_M_units
  rw [q_single N hN m hm0 h16, q_onesN N hN m h16]
  have hO : jzN m ≤ 4 := by unfold jzN; omega
  by_cases e : jzN m = 1
  · obtain ⟨c0, c1, rfl⟩ := jzN_1 m h16 e
    have hc := c0_lt hm
    obtain ⟨-, -, -, -, f5, f6, -⟩ := hf c0 hc
    rw [jzC0_p c0 c1, jzUn_1 hF c0 hc e, e]
    simp (disch := omega) only [zI_lit, zI_ofNat, zI_nI, zI_neg, zI_add, zI_sub, zI_mul, zI_lt, zI_le, zI_eq, zI_cl, zI_div, zI_shr, zI_shl, zI_and1, zI_and7, zI_and15, zI_and255, if_pos, if_neg, Option.bind_some, Option.bind_none, if_true, if_false, true_or, or_true, Int.toNat_natCast, pk_us, f5, f6]
    congr 2
    rw [Nat.mul_comm]; rfl
  · simp (disch := omega) only [zI_lit, zI_ofNat, zI_nI, zI_neg, zI_add, zI_sub, zI_mul, zI_lt, zI_le, zI_eq, zI_cl, zI_div, zI_shr, zI_shl, zI_and1, zI_and7, zI_and15, zI_and255, if_pos, if_neg, Option.bind_some, Option.bind_none, if_true, if_false, true_or, or_true, Int.toNat_natCast, pk_us]
    unfold jzUn
    rw [if_neg e]; rfl
theorem jzUn_rng {w hi n s : Nat} (hF : okF w hi n s) (m : Nat) (hm0 : 0 < m) (hm : m < 2 ^ n) : 1 ≤ jzUn w hi n s m ∧ jzUn w hi n s m * jzBl n s m ≤ 192 ∧ jzUn w hi n s m ≤ 192 := by
  have hn4 := hF.2.2.1
  have h16 := m_lt16 hn4.2 hm
  by_cases e : jzN m = 1
  · obtain ⟨c0, c1, rfl⟩ := jzN_1 m h16 e
    have hc := c0_lt hm
    rw [jzUn_1 hF c0 hc e, jzBl_1 n s c0 hc hn4.2 e]
    have l2 := jzT_192 hF hc
    have l3 := jzOO hF hc
    have l4 := jzOA hF hc
    have l5 := jzOD hF hc
    have := Nat.mul_le_mul l5.1 l4.1
    omega
  · rw [jzBl_W n s m e]
    unfold jzUn
    rw [if_neg e]
    have a3 := jzUV w hi s n hF.1.1 hF.1.2 hF.2.1.1 hF.2.1.2
    have h2 := jzW_gS m s (jzU w s n * jzU hi (s / 2) n) n
    have h3 := hF.2.2.2.2
    unfold jzT at h3
    omega
def smI (f : Nat → Int32) : Nat → Int32
  | 0 => zI 0
  | c + 1 => smI f c + f c
theorem smI_eq {f g : Nat → Int32} : ∀ (n : Nat), (∀ i, i < n → f i = g i) → smI f n = smI g n
  | 0, _ => rfl
  | n + 1, h => by
    show smI f n + f n = smI g n + g n
    rw [smI_eq n (fun i hi => h i (by omega)), h n (by omega)]
theorem q_words (N : Nat) (hN : 100 ≤ N) (f : Nat → Int32) : f_SC_countWords N f = some (smI f 8) ∧ f_M_look_L83 f N N ((0 : Int32), (0 : Int32)) = some (smI f 8) := by
  constructor
  · have := it_cnt1 (b := fun rec a => f_SC_countWords_L4b f N rec a.1 a.2) (fun c => (smI f c, zI c)) (smI f 8) 8 (fun g c hc hg => by
      unfold f_SC_countWords_L4b
      simp (disch := omega) only [zI_lit, zI_ofNat, zI_nI, zI_neg, zI_add, zI_sub, zI_mul, zI_lt, zI_le, zI_eq, zI_cl, zI_div, zI_shr, zI_shl, zI_and1, zI_and7, zI_and15, zI_and255, if_pos, if_neg, Option.bind_some, Option.bind_none, if_true, if_false, true_or, or_true, Int.toNat_natCast, pk_us]
      exact hg) (fun g => by
      unfold f_SC_countWords_L4b
      simp (disch := omega) only [zI_lit, zI_ofNat, zI_nI, zI_neg, zI_add, zI_sub, zI_mul, zI_lt, zI_le, zI_eq, zI_cl, zI_div, zI_shr, zI_shl, zI_and1, zI_and7, zI_and15, zI_and255, if_pos, if_neg, Option.bind_some, Option.bind_none, if_true, if_false, true_or, or_true, Int.toNat_natCast, pk_us]) N 0 (by omega) (by omega)
    unfold f_SC_countWords f_SC_countWords_L4
    show (it _ N (smI f 0, zI (0 : Nat))).bind _ = _
    rw [this]
    rfl
  · have := it_cnt1 (b := fun rec a => f_M_look_L83b f N rec a.1 a.2) (fun c => (smI f c, zI c)) (smI f 8) 8 (fun g c hc hg => by
      unfold f_M_look_L83b
      simp (disch := omega) only [zI_lit, zI_ofNat, zI_nI, zI_neg, zI_add, zI_sub, zI_mul, zI_lt, zI_le, zI_eq, zI_cl, zI_div, zI_shr, zI_shl, zI_and1, zI_and7, zI_and15, zI_and255, if_pos, if_neg, Option.bind_some, Option.bind_none, if_true, if_false, true_or, or_true, Int.toNat_natCast, pk_us]
      exact hg) (fun g => by
      unfold f_M_look_L83b
      simp (disch := omega) only [zI_lit, zI_ofNat, zI_nI, zI_neg, zI_add, zI_sub, zI_mul, zI_lt, zI_le, zI_eq, zI_cl, zI_div, zI_shr, zI_shl, zI_and1, zI_and7, zI_and15, zI_and255, if_pos, if_neg, Option.bind_some, Option.bind_none, if_true, if_false, true_or, or_true, Int.toNat_natCast, pk_us]) N 0 (by omega) (by omega)
    exact this
theorem q_all (N : Nat) (hN : 100 ≤ N) {w hi n s : Nat} {h v ac dn oa od st : Nat → Int32} (hF : okF w hi n s) (hf : isFr w hi n s n h v ac dn oa od st) : f_M_look_L9 (zI n) ac dn N N ((0 : Int32), (0 : Int32)) = some (zI (jzT w hi n s n : Nat)) := by
  have hn4 := hF.2.2.1
  have := it_cnt1 (b := fun rec a => f_M_look_L9b (zI n) ac dn N rec a.1 a.2) (fun c => (zI (jzT w hi n s c : Nat), zI c)) (zI (jzT w hi n s n : Nat)) n (fun g c hc hg => by
    unfold f_M_look_L9b
    have f3 : ac c = zI (jzA w n s c : Nat) := (hf c hc).2.2.1
    have f4 : dn c = zI (jzD hi n s c : Nat) := (hf c hc).2.2.2.1
    simp (disch := omega) only [zI_lit, zI_ofNat, zI_nI, zI_neg, zI_add, zI_sub, zI_mul, zI_lt, zI_le, zI_eq, zI_cl, zI_div, zI_shr, zI_shl, zI_and1, zI_and7, zI_and15, zI_and255, if_pos, if_neg, Option.bind_some, Option.bind_none, if_true, if_false, true_or, or_true, Int.toNat_natCast, pk_us, f3, f4]
    rw [← hg, jzT_1]
    rfl) (fun g => by
    unfold f_M_look_L9b
    simp (disch := omega) only [zI_lit, zI_ofNat, zI_nI, zI_neg, zI_add, zI_sub, zI_mul, zI_lt, zI_le, zI_eq, zI_cl, zI_div, zI_shr, zI_shl, zI_and1, zI_and7, zI_and15, zI_and255, if_pos, if_neg, Option.bind_some, Option.bind_none, if_true, if_false, true_or, or_true, Int.toNat_natCast, pk_us]) N 0 (by omega) (by omega)
  exact this
def nzC (f : Nat → Int32) : Nat → Nat
  | 0 => 0
  | c + 1 => nzC f c + if f c = zI 0 then 0 else 1
theorem nzC_eq {f g : Nat → Int32} : ∀ (n : Nat), (∀ i, i < n → f i = g i) → nzC f n = nzC g n
  | 0, _ => rfl
  | n + 1, h => by
    show nzC f n + (if f n = zI 0 then 0 else 1) = nzC g n + if g n = zI 0 then 0 else 1
    rw [nzC_eq n (fun i hi => h i (by omega)), h n (by omega)]
theorem q_nz (N : Nat) (hN : 20000 ≤ N) (f : Nat → Int32) (B nco : Nat) (hB : B ≤ 192) (hn : 64 * B ≤ nco) : f_Picture_countOthersThanZero N (zI B) nco f = some (zI (nzC f (64 * B) : Nat)) ∧ f_M_look_L44 (zI B) f N N ((0 : Int32), (0 : Int32)) = some (zI (nzC f (64 * B) : Nat)) := by
  constructor
  · have := it_cnt1 (b := fun rec a => f_Picture_countOthersThanZero_L4b (zI B) nco f N rec a.1 a.2) (fun c => (zI (nzC f c : Nat), zI c)) (zI (nzC f (64 * B) : Nat)) (64 * B) (fun g c hc hg => by
      unfold f_Picture_countOthersThanZero_L4b f_Picture_countOthersThanZero_J4_27
      simp (disch := omega) only [zI_lit, zI_ofNat, zI_nI, zI_neg, zI_add, zI_sub, zI_mul, zI_lt, zI_le, zI_eq, zI_cl, zI_div, zI_shr, zI_shl, zI_and1, zI_and7, zI_and15, zI_and255, if_pos, if_neg, Option.bind_some, Option.bind_none, if_true, if_false, true_or, or_true, Int.toNat_natCast, pk_us]
      by_cases e : f c = zI 0
      · rw [if_pos e]
        rw [← hg, show nzC f (c + 1) = nzC f c + if f c = zI 0 then 0 else 1 from rfl, if_pos e]; rfl
      · rw [if_neg e]
        rw [← hg, show nzC f (c + 1) = nzC f c + if f c = zI 0 then 0 else 1 from rfl, if_neg e]; rfl) (fun g => by
      unfold f_Picture_countOthersThanZero_L4b
      simp (disch := omega) only [zI_lit, zI_ofNat, zI_nI, zI_neg, zI_add, zI_sub, zI_mul, zI_lt, zI_le, zI_eq, zI_cl, zI_div, zI_shr, zI_shl, zI_and1, zI_and7, zI_and15, zI_and255, if_pos, if_neg, Option.bind_some, Option.bind_none, if_true, if_false, true_or, or_true, Int.toNat_natCast, pk_us]) N 0 (by omega) (by omega)
    unfold f_Picture_countOthersThanZero f_Picture_countOthersThanZero_L4
    show (it _ N (zI (nzC f 0 : Nat), zI (0 : Nat))).bind _ = _
    rw [this]
    rfl
  · have := it_cnt1 (b := fun rec a => f_M_look_L44b (zI B) f N rec a.1 a.2) (fun c => (zI (nzC f c : Nat), zI c)) (zI (nzC f (64 * B) : Nat)) (64 * B) (fun g c hc hg => by
      unfold f_M_look_L44b f_M_look_J44_69
      simp (disch := omega) only [zI_lit, zI_ofNat, zI_nI, zI_neg, zI_add, zI_sub, zI_mul, zI_lt, zI_le, zI_eq, zI_cl, zI_div, zI_shr, zI_shl, zI_and1, zI_and7, zI_and15, zI_and255, if_pos, if_neg, Option.bind_some, Option.bind_none, if_true, if_false, true_or, or_true, Int.toNat_natCast, pk_us]
      by_cases e : f c = zI 0
      · rw [if_pos e]
        rw [← hg, show nzC f (c + 1) = nzC f c + if f c = zI 0 then 0 else 1 from rfl, if_pos e, Int.add_zero]; rfl
      · rw [if_neg e]
        rw [← hg, show nzC f (c + 1) = nzC f c + if f c = zI 0 then 0 else 1 from rfl, if_neg e]; rfl) (fun g => by
      unfold f_M_look_L44b
      simp (disch := omega) only [zI_lit, zI_ofNat, zI_nI, zI_neg, zI_add, zI_sub, zI_mul, zI_lt, zI_le, zI_eq, zI_cl, zI_div, zI_shr, zI_shl, zI_and1, zI_and7, zI_and15, zI_and255, if_pos, if_neg, Option.bind_some, Option.bind_none, if_true, if_false, true_or, or_true, Int.toNat_natCast, pk_us]) N 0 (by omega) (by omega)
    exact this
set_option maxHeartbeats 2000000 in
/-- Promise 18 -/
theorem q_look (N : Nat) (hN : 20000 ≤ N) {w hi n s m nco : Nat} {h v ac dn oa od st h' v' ac' dn' oa' od' st' co co' ow pl : Nat → Int32} {units bl iv len : Int32} {vz wd : Nat → Int32} (hF : okF w hi n s) (hf : isFr w hi n s n h v ac dn oa od st) (hf' : isFr w hi n s n h' v' ac' dn' oa' od' st') (hn : 64 * jzT w hi n s n ≤ nco) (hC : rCo (jzT w hi n s n) co co') (hm0 : 0 < m) (hm : m < 2 ^ n) (hr : rCrs w hi n s m units bl ow pl) (hw : ∀ t, t < 8 → vz t = wd t) (p0 : Int32) :
    ∃ z z', f_SC_look N p0 (zI n) (zI (jzT w hi n s n : Nat)) ac dn oa od nco co iv units len vz = some z ∧ f_M_look N p0 (zI n) (zI (jzU w s n : Nat)) (zI (jzU hi (s / 2) n : Nat)) (zI m) iv len ac' dn' oa' od' co' wd = some z' ∧ z = z'.1 := by
  have hn4 := hF.2.2.1
  have hB := hF.2.2.2.2
  obtain ⟨p, hp⟩ : ∃ p, p = p0.toInt := ⟨_, rfl⟩
  have rp := i_rng p0
  rw [← hp] at rp
  obtain rfl : p0 = zI p := by rw [hp]; exact zI_of _
  clear hp
  have nz := q_nz N hN co (jzT w hi n s n) nco hB hn
  have nz' := (q_nz N hN co' (jzT w hi n s n) (64 * jzT w hi n s n) hB (Nat.le_refl _)).2
  rw [← nzC_eq (64 * jzT w hi n s n) (fun i hi => (hC i hi).1)] at nz'
  have wo := (q_words N (by omega) vz).1
  have wo' := (q_words N (by omega) wd).2
  rw [← smI_eq 8 hw] at wo'
  have un := q_units N (by omega) hF hf' m hm0 hm
  unfold f_SC_look f_M_look f_M_look_J195
  rw [q_all N (by omega) hF hf']
  simp only [Option.bind_some]
  rw [nz', wo', nz.1, wo, un, hr.1]
  clear nz nz' wo wo' un
  by_cases p0 : p = 0
  · simp (disch := omega) only [zI_lit, zI_ofNat, zI_nI, zI_neg, zI_add, zI_sub, zI_mul, zI_lt, zI_le, zI_eq, zI_cl, zI_div, zI_shr, zI_shl, zI_and1, zI_and7, zI_and15, zI_and255, if_pos, if_neg, Option.bind_some, Option.bind_none, if_true, if_false, true_or, or_true, Int.toNat_natCast, pk_us]
    exact ⟨_, _, rfl, rfl, rfl⟩
  by_cases p1 : p = 1
  · simp (disch := omega) only [zI_lit, zI_ofNat, zI_nI, zI_neg, zI_add, zI_sub, zI_mul, zI_lt, zI_le, zI_eq, zI_cl, zI_div, zI_shr, zI_shl, zI_and1, zI_and7, zI_and15, zI_and255, if_pos, if_neg, Option.bind_some, Option.bind_none, if_true, if_false, true_or, or_true, Int.toNat_natCast, pk_us]
    exact ⟨_, _, rfl, rfl, rfl⟩
  by_cases p2 : p = 2
  · simp (disch := omega) only [zI_lit, zI_ofNat, zI_nI, zI_neg, zI_add, zI_sub, zI_mul, zI_lt, zI_le, zI_eq, zI_cl, zI_div, zI_shr, zI_shl, zI_and1, zI_and7, zI_and15, zI_and255, if_pos, if_neg, Option.bind_some, Option.bind_none, if_true, if_false, true_or, or_true, Int.toNat_natCast, pk_us]
    exact ⟨_, _, rfl, rfl, rfl⟩
  by_cases p3 : p = 3
  · simp (disch := omega) only [zI_lit, zI_ofNat, zI_nI, zI_neg, zI_add, zI_sub, zI_mul, zI_lt, zI_le, zI_eq, zI_cl, zI_div, zI_shr, zI_shl, zI_and1, zI_and7, zI_and15, zI_and255, if_pos, if_neg, Option.bind_some, Option.bind_none, if_true, if_false, true_or, or_true, Int.toNat_natCast, pk_us]
    exact ⟨_, _, rfl, rfl, rfl⟩
  by_cases p4 : p = 4
  · simp (disch := omega) only [zI_lit, zI_ofNat, zI_nI, zI_neg, zI_add, zI_sub, zI_mul, zI_lt, zI_le, zI_eq, zI_cl, zI_div, zI_shr, zI_shl, zI_and1, zI_and7, zI_and15, zI_and255, if_pos, if_neg, Option.bind_some, Option.bind_none, if_true, if_false, true_or, or_true, Int.toNat_natCast, pk_us]
    exact ⟨_, _, rfl, rfl, rfl⟩
  by_cases p5 : p = 5
  · simp (disch := omega) only [zI_lit, zI_ofNat, zI_nI, zI_neg, zI_add, zI_sub, zI_mul, zI_lt, zI_le, zI_eq, zI_cl, zI_div, zI_shr, zI_shl, zI_and1, zI_and7, zI_and15, zI_and255, if_pos, if_neg, Option.bind_some, Option.bind_none, if_true, if_false, true_or, or_true, Int.toNat_natCast, pk_us]
    exact ⟨_, _, rfl, rfl, rfl⟩
  by_cases p8 : p < 8
  · simp (disch := omega) only [zI_lit, zI_ofNat, zI_nI, zI_neg, zI_add, zI_sub, zI_mul, zI_lt, zI_le, zI_eq, zI_cl, zI_div, zI_shr, zI_shl, zI_and1, zI_and7, zI_and15, zI_and255, if_pos, if_neg, Option.bind_some, Option.bind_none, if_true, if_false, true_or, or_true, Int.toNat_natCast, pk_us]
    exact ⟨_, _, rfl, rfl, rfl⟩
  clear p0 p1 p2 p3 p4 p5
  unfold f_Picture_measure
  by_cases pn : 8 + 4 * (n : Int) ≤ p
  · simp (disch := omega) only [zI_lit, zI_ofNat, zI_nI, zI_neg, zI_add, zI_sub, zI_mul, zI_lt, zI_le, zI_eq, zI_cl, zI_div, zI_shr, zI_shl, zI_and1, zI_and7, zI_and15, zI_and255, if_pos, if_neg, Option.bind_some, Option.bind_none, if_true, if_false, true_or, or_true, Int.toNat_natCast, pk_us]
    exact ⟨_, _, rfl, rfl, rfl⟩
  obtain ⟨c, hc⟩ : ∃ c : Nat, (p - 8) / 4 = (c : Int) := ⟨((p - 8) / 4).toNat, by omega⟩
  obtain ⟨r, hr⟩ : ∃ r : Int, p - p / 4 * 4 = r := ⟨_, rfl⟩
  have hcn : c < n := by omega
  have hr4 : 0 ≤ r ∧ r < 4 := by omega
  obtain ⟨-, -, f3, f4, f5, f6, -⟩ := hf c hcn
  obtain ⟨-, -, g3, g4, g5, g6, -⟩ := hf' c hcn
  have e1 : (zI p - (8 : Int32)) / (4 : Int32) = zI (c : Int) := by
    simp (disch := omega) only [zI_lit, zI_ofNat, zI_nI, zI_neg, zI_add, zI_sub, zI_mul, zI_lt, zI_le, zI_eq, zI_cl, zI_div, zI_shr, zI_shl, zI_and1, zI_and7, zI_and15, zI_and255, if_pos, if_neg, Option.bind_some, Option.bind_none, if_true, if_false, true_or, or_true, Int.toNat_natCast, pk_us]
    rw [hc]
  have e2 : zI p - zI p / (4 : Int32) * (4 : Int32) = zI r := by
    simp (disch := omega) only [zI_lit, zI_ofNat, zI_nI, zI_neg, zI_add, zI_sub, zI_mul, zI_lt, zI_le, zI_eq, zI_cl, zI_div, zI_shr, zI_shl, zI_and1, zI_and7, zI_and15, zI_and255, if_pos, if_neg, Option.bind_some, Option.bind_none, if_true, if_false, true_or, or_true, Int.toNat_natCast, pk_us]
    rw [hr]
  rw [e1, e2]
  rcases (by omega : r = 0 ∨ r = 1 ∨ r = 2 ∨ r = 3) with e | e | e | e
  · subst e
    clear e1 e2 hc hr
    simp (disch := omega) only [zI_lit, zI_ofNat, zI_nI, zI_neg, zI_add, zI_sub, zI_mul, zI_lt, zI_le, zI_eq, zI_cl, zI_div, zI_shr, zI_shl, zI_and1, zI_and7, zI_and15, zI_and255, if_pos, if_neg, Option.bind_some, Option.bind_none, if_true, if_false, true_or, or_true, Int.toNat_natCast, pk_us, f3, g3]
    exact ⟨_, _, rfl, rfl, rfl⟩
  · subst e
    clear e1 e2 hc hr
    simp (disch := omega) only [zI_lit, zI_ofNat, zI_nI, zI_neg, zI_add, zI_sub, zI_mul, zI_lt, zI_le, zI_eq, zI_cl, zI_div, zI_shr, zI_shl, zI_and1, zI_and7, zI_and15, zI_and255, if_pos, if_neg, Option.bind_some, Option.bind_none, if_true, if_false, true_or, or_true, Int.toNat_natCast, pk_us, f4, g4]
    exact ⟨_, _, rfl, rfl, rfl⟩
  · subst e
    clear e1 e2 hc hr
    simp (disch := omega) only [zI_lit, zI_ofNat, zI_nI, zI_neg, zI_add, zI_sub, zI_mul, zI_lt, zI_le, zI_eq, zI_cl, zI_div, zI_shr, zI_shl, zI_and1, zI_and7, zI_and15, zI_and255, if_pos, if_neg, Option.bind_some, Option.bind_none, if_true, if_false, true_or, or_true, Int.toNat_natCast, pk_us, f5, g5]
    exact ⟨_, _, rfl, rfl, rfl⟩
  · subst e
    clear e1 e2 hc hr
    simp (disch := omega) only [zI_lit, zI_ofNat, zI_nI, zI_neg, zI_add, zI_sub, zI_mul, zI_lt, zI_le, zI_eq, zI_cl, zI_div, zI_shr, zI_shl, zI_and1, zI_and7, zI_and15, zI_and255, if_pos, if_neg, Option.bind_some, Option.bind_none, if_true, if_false, true_or, or_true, Int.toNat_natCast, pk_us, f6, g6]
    exact ⟨_, _, rfl, rfl, rfl⟩
