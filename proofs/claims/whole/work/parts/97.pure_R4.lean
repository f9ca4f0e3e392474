/-! READING: coefficients over many blocks -/
def rG (K : Int32) (kd B tot : Nat) (pl : Nat → Int32) (pos : Nat) (co0 co mco : Nat → Int32) : Prop :=
  (∀ i, i < 64 * B → ∃ z, mco i = zI z ∧ okC i z) ∧
  ((K = zI 0 ∧ co = co0 ∧ (kd = 4 → ∀ p, pos ≤ p → p < tot → ∀ i, i < 64 → co ((pl p).toNatClampNeg + i) = mco ((pl p).toNatClampNeg + i))) ∨ (K = zI 1 ∧ ∀ i, i < 64 * B → co i = mco i))
theorem rG_0 {K : Int32} {kd B tot : Nat} {pl : Nat → Int32} {pos : Nat} {co0 co mco : Nat → Int32} (h : rG K kd B tot pl pos co0 co mco) (hK : K = zI 0) : co = co0 := by
  rcases h.2 with ⟨_, h, _⟩ | ⟨h, _⟩
  · exact h
  · rw [hK] at h; exact absurd h (by decide)
theorem okC_sh {x i : Nat} (hi : i < 64) {z : Int} : okC (64 * x + i) z ↔ okC i z := by
  unfold okC
  rw [show (64 * x + i) % 64 = i % 64 by omega]
theorem rG_in {K : Int32} {kd B tot : Nat} {pl : Nat → Int32} {pos : Nat} {co0 co mco : Nat → Int32} (h : rG K kd B tot pl pos co0 co mco) {q x : Nat} (hp : pl pos = zI (q : Nat)) (hx : q = 64 * x) (hq : q + 64 ≤ 64 * B) (hB : B ≤ 192) (ht : pos < tot) : rB K q (if kd = 4 then 1 else 64) co mco co mco := by
  obtain ⟨h1, h2⟩ := h
  refine ⟨fun i _ => rfl, fun i i1 i2 => ?_, fun i hi => ?_, ?_⟩
  · by_cases k4 : kd = 4
    · rcases h2 with ⟨_, _, h3⟩ | ⟨_, h3⟩
      · have := h3 k4 pos (by omega) ht i i2
        rw [hp, clN q (by omega)] at this
        exact this
      · exact h3 (q + i) (by omega)
    · rw [if_neg k4] at i1; omega
  · obtain ⟨z, z1, z2⟩ := h1 (q + i) (by omega)
    rw [hx, okC_sh hi] at z2
    exact ⟨z, z1, z2⟩
  · rcases h2 with ⟨h3, _⟩ | ⟨h3, h4⟩
    · exact Or.inl ⟨h3, rfl⟩
    · exact Or.inr ⟨h3, fun i _ => rfl, fun i hi => h4 (q + i) (by omega)⟩
theorem rG_out {K : Int32} {kd B tot : Nat} {pl : Nat → Int32} {pos : Nat} {co0 co mco co3 mco4 : Nat → Int32} (h : rG K kd B tot pl pos co0 co mco) {q x : Nat} (hp : pl pos = zI (q : Nat)) (hx : q = 64 * x) (hq : q + 64 ≤ 64 * B) (hB : B ≤ 192) (hmul : ∀ p, p < tot → ∃ y, pl p = zI (64 * y : Nat) ∧ y < 192) (hdis : kd = 4 → ∀ p p', p < p' → p' < tot → pl p ≠ pl p') (hb : rB K q 64 co mco co3 mco4) : rG K kd B tot pl (pos + 1) co0 co3 mco4 := by
  obtain ⟨h1, h2⟩ := h
  obtain ⟨b1, b2, b3, b4⟩ := hb
  refine ⟨fun i hi => ?_, ?_⟩
  · by_cases c : i < q ∨ q + 64 ≤ i
    · rw [b1 i c]; exact h1 i hi
    · obtain ⟨z, z1, z2⟩ := b3 (i - q) (by omega)
      have z3 := (okC_sh (x := x) (show i - q < 64 by omega)).mpr z2
      rw [show q + (i - q) = i by omega] at z1
      rw [show 64 * x + (i - q) = i by omega] at z3
      exact ⟨z, z1, z3⟩
  · rcases h2 with ⟨h3, h4, h5⟩ | ⟨h3, h4⟩
    · rcases b4 with ⟨b5, b6⟩ | ⟨b5, _⟩
      · refine Or.inl ⟨h3, by rw [b6, h4], fun k4 p p1 p2 i hi => ?_⟩
        obtain ⟨y, y1, y2⟩ := hmul p p2
        have hne := hdis k4 pos p (by omega) p2
        have hyx : y ≠ x := fun e => hne (by rw [hp, y1, hx, e])
        have h6 := h5 k4 p (by omega) p2 i hi
        rw [y1, clN _ (by omega)] at h6 ⊢
        rw [b6, b1 (64 * y + i) (by omega)]
        exact h6
      · rw [h3] at b5; exact absurd b5 (by decide)
    · rcases b4 with ⟨b5, _⟩ | ⟨b5, b6, b7⟩
      · rw [h3] at b5; exact absurd b5 (by decide)
      · refine Or.inr ⟨h3, fun i hi => ?_⟩
        by_cases c : i < q ∨ q + 64 ≤ i
        · rw [b6 i c, b1 i c]; exact h4 i hi
        · have := b7 (i - q) (by omega)
          rw [show q + (i - q) = i by omega] at this
          exact this
/-- where a component's blocks begin in a unit -/
def jzOf (m s c : Nat) : Nat := ((List.range c).map (jzBI m s)).sum
theorem jzOf_1 (m s c : Nat) : jzOf m s (c + 1) = jzOf m s c + jzBI m s c := by
  unfold jzOf
  rw [List.range_succ, List.map_append, List.sum_append]
  simp
theorem jzOf_mono (m s : Nat) {c d : Nat} (h : c ≤ d) : jzOf m s c ≤ jzOf m s d := by
  induction h with
  | refl => exact Nat.le_refl _
  | step _ ih => rw [jzOf_1]; omega
theorem UL_at (w n s m u : Nat) : ∀ (k c j : Nat), c < k → j < jzBI m s c → (jzUL w n s m u k)[jzOf m s c + j]? = some (c, jzBO w n s m c u j)
  | 0, c, j, hc, _ => absurd hc (by omega)
  | k + 1, c, j, hc, hj => by
    have e : jzUL w n s m u (k + 1) = jzUL w n s m u k ++ (List.range (jzBI m s k)).map fun j => (k, jzBO w n s m k u j) := by
      unfold jzUL
      rw [List.range_succ, List.flatMap_append]
      simp
    have hl : (jzUL w n s m u k).length = jzOf m s k := UL_len w n s m u k
    rw [e]
    by_cases ck : c < k
    · have h1 := jzOf_mono m s (show c + 1 ≤ k by omega)
      rw [jzOf_1] at h1
      rw [List.getElem?_append_left (by omega)]
      exact UL_at w n s m u k c j ck hj
    · have ec : c = k := by omega
      subst ec
      rw [List.getElem?_append_right (by omega), hl, show jzOf m s c + j - jzOf m s c = j by omega]
      simp [hj]
theorem jzOf_n (n s m : Nat) : jzOf m s n = jzBl n s m := rfl
/-- a place in the order: unit u, component c, block j of it -/
theorem pos_of {w hi n s : Nat} (hF : okF w hi n s) {m : Nat} (hm0 : 0 < m) (hm : m < 2 ^ n) {units bl : Int32} {ow pl : Nat → Int32} (hC : rCrs w hi n s m units bl ow pl) {u c j : Nat} (hu : u < jzUn w hi n s m) (hc : c < n) (hj : j < jzBI m s c) :
    u * jzBl n s m + (jzOf m s c + j) < jzUn w hi n s m * jzBl n s m ∧ ow (u * jzBl n s m + (jzOf m s c + j)) = zI (c : Nat) ∧ pl (u * jzBl n s m + (jzOf m s c + j)) = zI (64 * (jzT w hi n s c + jzBO w n s m c u j) : Nat) ∧ 64 * (jzT w hi n s c + jzBO w n s m c u j) + 64 ≤ 64 * jzT w hi n s n := by
  have ha := UL_at w n s m u n c j hc hj
  have hq := UL_in hF hm0 hm hu (List.mem_of_getElem? ha)
  have hT := jzT_le hF hc
  have h1 := jzOf_mono m s (show c + 1 ≤ n by omega)
  rw [jzOf_1, jzOf_n n s m] at h1
  have h2 : (u + 1) * jzBl n s m ≤ jzUn w hi n s m * jzBl n s m := Nat.mul_le_mul_right _ hu
  rw [Nat.add_mul, Nat.one_mul] at h2
  have h3 := hC.2.2 u (jzOf m s c + j) _ hu ha
  obtain ⟨_, _, hq3⟩ := hq
  dsimp only at hq3 h3
  exact ⟨by omega, h3.1, h3.2, by omega⟩
/-- every place of the order is one of these -/
theorem pos_ex (m s : Nat) : ∀ (n i : Nat), i < jzOf m s n → ∃ c j, c < n ∧ j < jzBI m s c ∧ i = jzOf m s c + j
  | 0, i, h => absurd h (Nat.not_lt_zero _)
  | n + 1, i, h => by
    rw [jzOf_1] at h
    by_cases c : i < jzOf m s n
    · obtain ⟨c, j, h1, h2, h3⟩ := pos_ex m s n i c
      exact ⟨c, j, by omega, h2, h3⟩
    · exact ⟨n, i - jzOf m s n, by omega, by omega, by omega⟩
theorem pos_un {w hi n s : Nat} {m p : Nat} (h : p < jzUn w hi n s m * jzBl n s m) : ∃ u c j, u < jzUn w hi n s m ∧ c < n ∧ j < jzBI m s c ∧ p = u * jzBl n s m + (jzOf m s c + j) := by
  have hb : 0 < jzBl n s m := by
    rcases Nat.eq_zero_or_pos (jzBl n s m) with e | e
    · rw [e, Nat.mul_zero] at h; exact absurd h (Nat.not_lt_zero _)
    · exact e
  obtain ⟨c, j, h1, h2, h3⟩ := pos_ex m s n (p % jzBl n s m) (by rw [jzOf_n]; exact Nat.mod_lt _ hb)
  refine ⟨p / jzBl n s m, c, j, Nat.div_lt_of_lt_mul (by rw [Nat.mul_comm]; exact h), h1, h2, ?_⟩
  rw [← h3, Nat.mul_comm]
  exact (Nat.div_add_mod p (jzBl n s m)).symm
theorem pos_mul {w hi n s : Nat} (hF : okF w hi n s) {m : Nat} (hm0 : 0 < m) (hm : m < 2 ^ n) {units bl : Int32} {ow pl : Nat → Int32} (hC : rCrs w hi n s m units bl ow pl) : ∀ p, p < jzUn w hi n s m * jzBl n s m → ∃ y, pl p = zI (64 * y : Nat) ∧ y < 192 := by
  intro p hp
  obtain ⟨u, c, j, h1, h2, h3, rfl⟩ := pos_un hp
  obtain ⟨-, -, h4, h5⟩ := pos_of hF hm0 hm hC h1 h2 h3
  have hB := hF.2.2.2.2
  exact ⟨_, h4, by omega⟩
/-- one component alone: its blocks differ -/
theorem pos_dis {w hi n s : Nat} (hF : okF w hi n s) {m : Nat} (hm0 : 0 < m) (hm : m < 2 ^ n) {units bl : Int32} {ow pl : Nat → Int32} (hC : rCrs w hi n s m units bl ow pl) (h1 : jzN m = 1) : ∀ p p', p < p' → p' < jzUn w hi n s m * jzBl n s m → pl p ≠ pl p' := by
  intro p p' hpp hp' he
  have h16 := m_lt16 hF.2.2.1.2 hm
  obtain ⟨c0, c1, rfl⟩ := jzN_1 m h16 h1
  have hc0 := c0_lt hm
  have hB1 := jzBl_1 n s c0 hc0 hF.2.2.1.2 h1
  obtain ⟨u, c, j, u1, u2, u3, u4⟩ := pos_un (show p < jzUn w hi n s (2 ^ c0) * jzBl n s (2 ^ c0) by omega)
  obtain ⟨u', c', j', v1, v2, v3, v4⟩ := pos_un hp'
  have ci : ∀ c j, c < n → j < jzBI (2 ^ c0) s c → c = c0 ∧ j = 0 := by
    intro c j hc hj
    unfold jzBI at hj
    rw [jzK_p c0 c1 c (by have := hF.2.2.1; omega), h1] at hj
    by_cases e : c = c0
    · rw [if_pos e, if_neg (by omega), if_pos rfl] at hj
      exact ⟨e, by omega⟩
    · rw [if_neg e, if_pos rfl] at hj; omega
  obtain ⟨rfl, rfl⟩ := ci c j u2 u3
  obtain ⟨rfl, rfl⟩ := ci c' j' v2 v3
  obtain ⟨-, -, q1, q2⟩ := pos_of hF hm0 hm hC u1 u2 u3
  obtain ⟨-, -, q3, q4⟩ := pos_of hF hm0 hm hC v1 v2 v3
  have hB := hF.2.2.2.2
  rw [u4, v4, q1, q3, eqN (by omega) (by omega)] at he
  have hBO : jzBO w n s (2 ^ c') c' u 0 = jzBO w n s (2 ^ c') c' u' 0 := by omega
  unfold jzBO at hBO
  rw [if_pos h1, if_pos h1] at hBO
  have l4 := jzOA hF u2
  obtain ⟨O, hO⟩ : ∃ O, O = jzO w (jzH s c') (jzM s n) := ⟨_, rfl⟩
  obtain ⟨A, hA⟩ : ∃ A, A = jzA w n s c' := ⟨_, rfl⟩
  rw [← hO, ← hA] at hBO l4
  rw [hB1] at u4 v4
  have hne : u ≠ u' := fun e => by subst e; omega
  have m1 : u % O < A := Nat.lt_of_lt_of_le (Nat.mod_lt _ (by omega)) l4.2
  have m2 : u' % O < A := Nat.lt_of_lt_of_le (Nat.mod_lt _ (by omega)) l4.2
  have d1 : u / O = u' / O := by
    have e1 : (u / O * A + u % O) / A = u / O := by rw [Nat.mul_comm, Nat.mul_add_div (by omega), Nat.div_eq_of_lt m1, Nat.add_zero]
    have e2 : (u' / O * A + u' % O) / A = u' / O := by rw [Nat.mul_comm, Nat.mul_add_div (by omega), Nat.div_eq_of_lt m2, Nat.add_zero]
    rw [← e1, ← e2, hBO]
  have d2 : u % O = u' % O := by rw [d1] at hBO; omega
  exact hne (by rw [← Nat.div_add_mod u O, ← Nat.div_add_mod u' O, d1, d2])
/-! READING: the blocks of a unit -/
theorem l96x (N fuel : Nat) {v3 bl kind bits size K l f pos at1 part left fl run : Int32} {nco nb : Nat} {ow ot pl dt sb co p : Nat → Int32} {vs vf vx : Nat → Nat → Int32} {ve : Nat → Int32} (hr : ¬ fl = 0) : f_Decoder_decode_L96 v3 bl ow ot kind pl nco bits dt size nb sb K vs vf vx ve l f N (fuel + 1) (pos, co, at1, part, left, fl, run, p) = some (co, at1, part, left, fl, run, p) := by
  show f_Decoder_decode_L96b _ _ _ _ _ _ _ _ _ _ _ _ _ _ _ _ _ _ _ N (f_Decoder_decode_L96 _ _ _ _ _ _ _ _ _ _ _ _ _ _ _ _ _ _ _ N fuel) _ _ _ _ _ _ _ _ = _
  unfold f_Decoder_decode_L96b
  by_cases c1 : v3 + bl ≤ pos
  · rw [if_pos c1]
  · rw [if_neg c1, if_neg hr]
theorem m120x (N : Nat) (hN : 20000 ≤ N) {w hi n s : Nat} {h v ac dn oa od st : Nat → Int32} (hF : okF w hi n s) (hf : isFr w hi n s n h v ac dn oa od st) {m c : Nat} (hm : m < 16) (hc : c < n) (fuel : Nat) {u uA f l bf bits size j run at2 tk left fl : Int32} {ac' oa' st' ln cd dt ot md mco p : Nat → Int32} (hr : ¬ fl = 0) : f_M_readAll_L120 (zI c) (zI m) h v u uA ac' oa' f l bf bits size st' ln cd dt ot md N (fuel + 1) (j, run, at2, tk, left, fl, mco, p) = some (run, at2, tk, left, fl, mco, p) := by
  show f_M_readAll_L120b _ _ _ _ _ _ _ _ _ _ _ _ _ _ _ _ _ _ _ N (f_M_readAll_L120 _ _ _ _ _ _ _ _ _ _ _ _ _ _ _ _ _ _ _ N fuel) _ _ _ _ _ _ _ _ = _
  unfold f_M_readAll_L120b
  rw [q_blocksIn N hN hF hf m c hm hc]
  dsimp only [Option.bind_some]
  by_cases c1 : zI (jzBI m s c : Nat) ≤ j
  · rw [if_pos c1]
  · rw [if_neg c1, if_neg hr]
theorem m108x (N : Nat) (hN : 20000 ≤ N) {w hi n s : Nat} {h v ac dn oa od st : Nat → Int32} (hF : okF w hi n s) (hf : isFr w hi n s n h v ac dn oa od st) {m : Nat} (hm : m < 16) {u uA f l bf bits size run at2 tk left fl : Int32} {ac' oa' st' ln cd dt ot md mco p : Nat → Int32} (hr : ¬ fl = 0) : ∀ (k c fuel : Nat), c + k = n → k < fuel → f_M_readAll_L108 (zI n) (zI m) h v u uA ac' oa' f l bf bits size st' ln cd dt ot md N fuel (zI c, run, at2, tk, left, fl, mco, p) = some (run, at2, tk, left, fl, mco, p)
  | 0, c, fuel, hk, hfu => by
    have hn4 := hF.2.2.1
    obtain ⟨fuel, rfl⟩ : ∃ j, fuel = j + 1 := ⟨fuel - 1, by omega⟩
    show f_M_readAll_L108b _ _ _ _ _ _ _ _ _ _ _ _ _ _ _ _ _ _ _ N (f_M_readAll_L108 _ _ _ _ _ _ _ _ _ _ _ _ _ _ _ _ _ _ _ N fuel) _ _ _ _ _ _ _ _ = _
    unfold f_M_readAll_L108b
    rw [if_pos (by rw [leN (by omega) (by omega)]; omega)]
  | k + 1, c, fuel, hk, hfu => by
    have hn4 := hF.2.2.1
    obtain ⟨fuel, rfl⟩ : ∃ j, fuel = j + 1 := ⟨fuel - 1, by omega⟩
    obtain ⟨M, rfl⟩ : ∃ M, N = M + 1 := ⟨N - 1, by omega⟩
    have ih := m108x (M + 1) hN hF hf hm (u := u) (uA := uA) (f := f) (l := l) (bf := bf) (bits := bits) (size := size) (run := run) (at2 := at2) (tk := tk) (left := left) (ac' := ac') (oa' := oa') (st' := st') (ln := ln) (cd := cd) (dt := dt) (ot := ot) (md := md) (mco := mco) (p := p) hr k (c + 1) fuel (by omega) (by omega)
    show f_M_readAll_L108b _ _ _ _ _ _ _ _ _ _ _ _ _ _ _ _ _ _ _ (M + 1) (f_M_readAll_L108 _ _ _ _ _ _ _ _ _ _ _ _ _ _ _ _ _ _ _ (M + 1) fuel) _ _ _ _ _ _ _ _ = _
    unfold f_M_readAll_L108b f_M_readAll_J108_159
    rw [if_neg (by rw [leN (by omega) (by omega)]; omega), m120x (M + 1) hN hF hf hm (by omega) M hr]
    dsimp only [Option.bind_some]
    rw [suN]
    exact ih
theorem q_jsR (N : Nat) (hN : 20000 ≤ N) {D : Nat → Nat} {dz nb : Nat} {sb md : Nat → Int32} (hD : rDt D dz nb sb md) {vw vs vf vx : Nat → Nat → Int32} {ve vz ln cd wd : Nat → Int32} (hA : rAll vw vs vf vx ve vz ln cd wd) {w hi n s m : Nat} {h v ac dn oa od st : Nat → Int32} (hF : okF w hi n s) (hf : isFr w hi n s n h v ac dn oa od st) {kd f l bits bf : Nat} (hK : okKR kd f l bits bf) (hm0 : 0 < m) (hm : m < 2 ^ n) {nco : Nat} (hq : 64 * jzT w hi n s n ≤ nco) (hn : nco ≤ 12288) {dt dt' ot ot' ow pl : Nat → Int32} {Dd Oo : Nat → Nat} (hTb : ∀ c, c < 4 → dt c = zI (Dd c : Nat) ∧ dt' c = zI (Dd c : Nat) ∧ ot c = zI (Oo c : Nat) ∧ ot' c = zI (Oo c : Nat) ∧ Dd c < 8 ∧ Oo c < 8) {units : Int32} (hC : rCrs w hi n s m units (zI (jzBl n s m : Nat)) ow pl) (hdis : kd = 4 → ∀ p p', p < p' → p' < jzUn w hi n s m * jzBl n s m → pl p ≠ pl p') {K : Int32} {co0 : Nat → Int32} {u c : Nat} (hu : u < jzUn w hi n s m) (hc : c < n) : ∀ (k j fuel fuel' : Nat) (co mco p p' : Nat → Int32) (at1 part left fl at2 tk left2 fl2 : Int32) (rn : Nat), j + k = jzBI m s c → k < fuel → k < fuel' → rn ≤ 32767 → (kd < 3 → rn = 0) → rG K kd (jzT w hi n s n) (jzUn w hi n s m * jzBl n s m) pl (u * jzBl n s m + (jzOf m s c + j)) co0 co mco → rPP p p' → rR dz at1 part left fl at2 tk left2 fl2 →
    (∃ co3 at3 part3 left3 fl3 run3 p3 run4 at4 tk4 left4 fl4 mco4 p4, f_Decoder_decode_L96 (zI u * zI (jzBl n s m : Nat)) (zI (jzBl n s m : Nat)) ow ot (zI kd) pl nco (zI bits) dt (zI dz) nb sb K vs vf vx ve (zI l) (zI f) N fuel (zI (u * jzBl n s m + (jzOf m s c + j) : Nat), co, at1, part, left, fl, zI rn, p) = some (co3, at3, part3, left3, fl3, run3, p3) ∧ f_M_readAll_L120 (zI c) (zI m) h v (zI u) (zI (jzU w s n : Nat)) ac oa (zI f) (zI l) (zI bf) (zI bits) (zI dz) st ln cd dt' ot' md N fuel' (zI j, zI rn, at2, tk, left2, fl2, mco, p') = some (run4, at4, tk4, left4, fl4, mco4, p4) ∧ rX fl3 fl4 ∧ (K = zI 0 → co3 = co0)) ∨
    (∃ (co3 : Nat → Int32) (at3 part3 left3 fl3 : Int32) (rn' : Nat) (p3 : Nat → Int32) (at4 tk4 left4 fl4 : Int32) (mco4 p4 : Nat → Int32), rn' ≤ 32767 ∧ (kd < 3 → rn' = 0) ∧ f_Decoder_decode_L96 (zI u * zI (jzBl n s m : Nat)) (zI (jzBl n s m : Nat)) ow ot (zI kd) pl nco (zI bits) dt (zI dz) nb sb K vs vf vx ve (zI l) (zI f) N fuel (zI (u * jzBl n s m + (jzOf m s c + j) : Nat), co, at1, part, left, fl, zI rn, p) = f_Decoder_decode_L96 (zI u * zI (jzBl n s m : Nat)) (zI (jzBl n s m : Nat)) ow ot (zI kd) pl nco (zI bits) dt (zI dz) nb sb K vs vf vx ve (zI l) (zI f) N (fuel - k) (zI (u * jzBl n s m + (jzOf m s c + j) + k : Nat), co3, at3, part3, left3, fl3, zI (rn' : Nat), p3) ∧ f_M_readAll_L120 (zI c) (zI m) h v (zI u) (zI (jzU w s n : Nat)) ac oa (zI f) (zI l) (zI bf) (zI bits) (zI dz) st ln cd dt' ot' md N fuel' (zI j, zI rn, at2, tk, left2, fl2, mco, p') = some (zI (rn' : Nat), at4, tk4, left4, fl4, mco4, p4) ∧ rG K kd (jzT w hi n s n) (jzUn w hi n s m * jzBl n s m) pl (u * jzBl n s m + (jzOf m s c + j) + k) co0 co3 mco4 ∧ rPP p3 p4 ∧ rR dz at3 part3 left3 fl3 at4 tk4 left4 fl4)
  | 0, j, fuel, fuel', co, mco, p, p', at1, part, left, fl, at2, tk, left2, fl2, rn, hj, hfu, hfu', hrn, hlow, hG, hP, hR => by
    obtain ⟨fuel', rfl⟩ : ∃ j, fuel' = j + 1 := ⟨fuel' - 1, by omega⟩
    right
    refine ⟨co, at1, part, left, fl, rn, p, at2, tk, left2, fl2, mco, p', hrn, hlow, by rw [Nat.sub_zero, Nat.add_zero], ?_, by rw [Nat.add_zero]; exact hG, hP, hR⟩
    show f_M_readAll_L120b _ _ _ _ _ _ _ _ _ _ _ _ _ _ _ _ _ _ _ N (f_M_readAll_L120 _ _ _ _ _ _ _ _ _ _ _ _ _ _ _ _ _ _ _ N fuel') _ _ _ _ _ _ _ _ = _
    unfold f_M_readAll_L120b
    rw [q_blocksIn N hN hF hf m c (m_lt16 hF.2.2.1.2 hm) hc]
    dsimp only [Option.bind_some]
    rw [if_pos (by rw [← hj]; exact (by rw [leN (by have : jzBI m s c ≤ 4 := (by unfold jzBI; have r1 := jzH_rng s c; have r2 := jzH_rng (s / 2) c; have : jzH s c * jzH (s / 2) c ≤ 2 * 2 := Nat.mul_le_mul r1.2 r2.2; split; omega; split <;> omega); omega) (by have : jzBI m s c ≤ 4 := (by unfold jzBI; have r1 := jzH_rng s c; have r2 := jzH_rng (s / 2) c; have : jzH s c * jzH (s / 2) c ≤ 2 * 2 := Nat.mul_le_mul r1.2 r2.2; split; omega; split <;> omega); omega)]; omega))]
  | k + 1, j, fuel, fuel', co, mco, p, p', at1, part, left, fl, at2, tk, left2, fl2, rn, hj, hfu, hfu', hrn, hlow, hG, hP, hR => by
    have hBI : jzBI m s c ≤ 4 := by
      unfold jzBI
      have r1 := jzH_rng s c
      have r2 := jzH_rng (s / 2) c
      have : jzH s c * jzH (s / 2) c ≤ 2 * 2 := Nat.mul_le_mul r1.2 r2.2
      split
      · omega
      · split <;> omega
    obtain ⟨fuel, rfl⟩ : ∃ j, fuel = j + 1 := ⟨fuel - 1, by omega⟩
    obtain ⟨fuel', rfl⟩ : ∃ j, fuel' = j + 1 := ⟨fuel' - 1, by omega⟩
    have h16 := m_lt16 hF.2.2.1.2 hm
    have hn4 := hF.2.2.1
    have hB192 := hF.2.2.2.2
    have hUn := jzUn_rng hF m hm0 hm
    obtain ⟨g1, g2, g3, g4⟩ := pos_of hF hm0 hm hC hu hc (j := j) (by omega)
    have hmul := pos_mul hF hm0 hm hC
    have hB := rG_in hG g3 rfl g4 hB192 g1
    obtain ⟨t1, t2, t3, t4, t5, t6⟩ := hTb c (by omega)
    have hst : st c = zI (jzT w hi n s c : Nat) := (hf c hc).2.2.2.2.2.2
    have hz := rR_z hR
    have hbnd : ¬ zI (u : Int) * zI (jzBl n s m : Nat) + zI (jzBl n s m : Nat) ≤ zI (u * jzBl n s m + (jzOf m s c + j) : Nat) := by
      have h1 := jzOf_mono m s (show c + 1 ≤ n by omega)
      rw [jzOf_1, jzOf_n n s m] at h1
      have h2 : (u + 1) * jzBl n s m ≤ jzUn w hi n s m * jzBl n s m := Nat.mul_le_mul_right _ hu
      rw [Nat.add_mul, Nat.one_mul] at h2
      rw [zI_mul, zI_add, show (u : Int) * (jzBl n s m : Nat) + (jzBl n s m : Nat) = ((u * jzBl n s m + jzBl n s m : Nat) : Int) by rw [Int.natCast_add, Int.natCast_mul], leN (by omega) (by omega)]
      omega
    have eM : f_M_readAll_L120 (zI c) (zI m) h v (zI u) (zI (jzU w s n : Nat)) ac oa (zI f) (zI l) (zI bf) (zI bits) (zI dz) st ln cd dt' ot' md N (fuel' + 1) (zI j, zI rn, at2, tk, left2, fl2, mco, p') = (f_M_readBlock N (zI c) (zI (jzBO w n s m c u j : Nat)) (zI f) (zI l) (zI bf) (zI bits) (zI dz) (zI rn) at2 tk left2 fl2 st mco ln cd dt' ot' md p').bind fun z5 => f_M_readAll_L120 (zI c) (zI m) h v (zI u) (zI (jzU w s n : Nat)) ac oa (zI f) (zI l) (zI bf) (zI bits) (zI dz) st ln cd dt' ot' md N fuel' (zI (j + 1 : Nat), z5.1, z5.2.1, z5.2.2.1, z5.2.2.2.1, z5.2.2.2.2.1, z5.2.2.2.2.2.1, z5.2.2.2.2.2.2) := by
      show f_M_readAll_L120b _ _ _ _ _ _ _ _ _ _ _ _ _ _ _ _ _ _ _ N (f_M_readAll_L120 _ _ _ _ _ _ _ _ _ _ _ _ _ _ _ _ _ _ _ N fuel') _ _ _ _ _ _ _ _ = _
      unfold f_M_readAll_L120b
      rw [q_blocksIn N hN hF hf m c h16 hc]
      dsimp only [Option.bind_some]
      rw [if_neg (by rw [leN (by omega) (by omega)]; omega), if_pos hz.2, q_blockOf N hN hF hf m c u j h16 hc (by omega) (by omega)]
      dsimp only [Option.bind_some]
      rw [suN]
    rw [eM]
    rcases q_blkR N (by omega) hD hA hK hB (nco := nco) (by omega) hn (c := c) (T := jzT w hi n s c) (b := jzBO w n s m c u j) (pos := u * jzBl n s m + (jzOf m s c + j)) (by omega) hst rfl t1 t2 t5 t3 t4 t6 (by omega) g2 g3 hrn hlow hP hR hbnd fuel with ⟨co3, a3, p3, l3, f3, run3, pr3, run4, a4, t4', l4, f4, mco4, pr4, h1, h2, hX, hK3⟩ | ⟨co3, a3, p3, l3, f3, rn', pr3, a4, t4', l4, f4, mco4, pr4, r1, r2, h1, h2, hR3, hB3, hP3⟩
    · left
      have hx := rX_nz hX
      obtain ⟨fuel, rfl⟩ : ∃ j, fuel = j + 1 := ⟨fuel - 1, by omega⟩
      obtain ⟨fuel', rfl⟩ : ∃ j, fuel' = j + 1 := ⟨fuel' - 1, by omega⟩
      rw [h1, h2, l96x N fuel hx.1]
      dsimp only [Option.bind_some]
      rw [m120x N hN hF hf h16 hc fuel' hx.2.1]
      exact ⟨_, _, _, _, _, _, _, _, _, _, _, _, _, _, rfl, rfl, hX, fun e => by rw [hK3 e]; exact rG_0 hG e⟩
    · have hG3 := rG_out hG g3 rfl g4 hB192 hmul hdis hB3
      rw [h1, h2]
      dsimp only [Option.bind_some]
      have ih := q_jsR N hN hD hA hF hf hK hm0 hm hq hn hTb hC hdis (K := K) (co0 := co0) hu hc k (j + 1) fuel fuel' co3 mco4 pr3 pr4 a3 p3 l3 f3 a4 t4' l4 f4 rn' (by omega) (by omega) (by omega) r1 r2 hG3 hP3 hR3
      rw [show fuel + 1 - (k + 1) = fuel - k by omega, show u * jzBl n s m + (jzOf m s c + j) + (k + 1) = u * jzBl n s m + (jzOf m s c + (j + 1)) + k by omega]
      exact ih
theorem q_csR (N : Nat) (hN : 20000 ≤ N) {D : Nat → Nat} {dz nb : Nat} {sb md : Nat → Int32} (hD : rDt D dz nb sb md) {vw vs vf vx : Nat → Nat → Int32} {ve vz ln cd wd : Nat → Int32} (hA : rAll vw vs vf vx ve vz ln cd wd) {w hi n s m : Nat} {h v ac dn oa od st : Nat → Int32} (hF : okF w hi n s) (hf : isFr w hi n s n h v ac dn oa od st) {kd f l bits bf : Nat} (hK : okKR kd f l bits bf) (hm0 : 0 < m) (hm : m < 2 ^ n) {nco : Nat} (hq : 64 * jzT w hi n s n ≤ nco) (hn : nco ≤ 12288) {dt dt' ot ot' ow pl : Nat → Int32} {Dd Oo : Nat → Nat} (hTb : ∀ c, c < 4 → dt c = zI (Dd c : Nat) ∧ dt' c = zI (Dd c : Nat) ∧ ot c = zI (Oo c : Nat) ∧ ot' c = zI (Oo c : Nat) ∧ Dd c < 8 ∧ Oo c < 8) {units : Int32} (hC : rCrs w hi n s m units (zI (jzBl n s m : Nat)) ow pl) (hdis : kd = 4 → ∀ p p', p < p' → p' < jzUn w hi n s m * jzBl n s m → pl p ≠ pl p') {K : Int32} {co0 : Nat → Int32} {u : Nat} (hu : u < jzUn w hi n s m) : ∀ (k c fuel fuel' : Nat) (co mco p p' : Nat → Int32) (at1 part left fl at2 tk left2 fl2 : Int32) (rn : Nat), c + k = n → 100 ≤ fuel + 10 * c → k < fuel' → rn ≤ 32767 → (kd < 3 → rn = 0) → rG K kd (jzT w hi n s n) (jzUn w hi n s m * jzBl n s m) pl (u * jzBl n s m + jzOf m s c) co0 co mco → rPP p p' → rR dz at1 part left fl at2 tk left2 fl2 →
    (∃ co3 at3 part3 left3 fl3 run3 p3 run4 at4 tk4 left4 fl4 mco4 p4, f_Decoder_decode_L96 (zI u * zI (jzBl n s m : Nat)) (zI (jzBl n s m : Nat)) ow ot (zI kd) pl nco (zI bits) dt (zI dz) nb sb K vs vf vx ve (zI l) (zI f) N fuel (zI (u * jzBl n s m + jzOf m s c : Nat), co, at1, part, left, fl, zI rn, p) = some (co3, at3, part3, left3, fl3, run3, p3) ∧ f_M_readAll_L108 (zI n) (zI m) h v (zI u) (zI (jzU w s n : Nat)) ac oa (zI f) (zI l) (zI bf) (zI bits) (zI dz) st ln cd dt' ot' md N fuel' (zI c, zI rn, at2, tk, left2, fl2, mco, p') = some (run4, at4, tk4, left4, fl4, mco4, p4) ∧ rX fl3 fl4 ∧ (K = zI 0 → co3 = co0)) ∨
    (∃ (co3 : Nat → Int32) (at3 part3 left3 fl3 : Int32) (rn' : Nat) (p3 : Nat → Int32) (at4 tk4 left4 fl4 : Int32) (mco4 p4 : Nat → Int32), rn' ≤ 32767 ∧ (kd < 3 → rn' = 0) ∧ f_Decoder_decode_L96 (zI u * zI (jzBl n s m : Nat)) (zI (jzBl n s m : Nat)) ow ot (zI kd) pl nco (zI bits) dt (zI dz) nb sb K vs vf vx ve (zI l) (zI f) N fuel (zI (u * jzBl n s m + jzOf m s c : Nat), co, at1, part, left, fl, zI rn, p) = some (co3, at3, part3, left3, fl3, zI (rn' : Nat), p3) ∧ f_M_readAll_L108 (zI n) (zI m) h v (zI u) (zI (jzU w s n : Nat)) ac oa (zI f) (zI l) (zI bf) (zI bits) (zI dz) st ln cd dt' ot' md N fuel' (zI c, zI rn, at2, tk, left2, fl2, mco, p') = some (zI (rn' : Nat), at4, tk4, left4, fl4, mco4, p4) ∧ rG K kd (jzT w hi n s n) (jzUn w hi n s m * jzBl n s m) pl (u * jzBl n s m + jzBl n s m) co0 co3 mco4 ∧ rPP p3 p4 ∧ rR dz at3 part3 left3 fl3 at4 tk4 left4 fl4)
  | 0, c, fuel, fuel', co, mco, p, p', at1, part, left, fl, at2, tk, left2, fl2, rn, hk, hfu, hfu', hrn, hlow, hG, hP, hR => by
    have hn4 := hF.2.2.1
    have hc : c = n := by omega
    subst hc
    obtain ⟨fuel, rfl⟩ : ∃ j, fuel = j + 1 := ⟨fuel - 1, by omega⟩
    obtain ⟨fuel', rfl⟩ : ∃ j, fuel' = j + 1 := ⟨fuel' - 1, by omega⟩
    have hUn := jzUn_rng hF m hm0 hm
    have h2 : (u + 1) * jzBl c s m ≤ jzUn w hi c s m * jzBl c s m := Nat.mul_le_mul_right _ hu
    rw [Nat.add_mul, Nat.one_mul] at h2
    right
    refine ⟨co, at1, part, left, fl, rn, p, at2, tk, left2, fl2, mco, p', hrn, hlow, ?_, ?_, by rw [jzOf_n c s m] at hG; exact hG, hP, hR⟩
    · show f_Decoder_decode_L96b _ _ _ _ _ _ _ _ _ _ _ _ _ _ _ _ _ _ _ N (f_Decoder_decode_L96 _ _ _ _ _ _ _ _ _ _ _ _ _ _ _ _ _ _ _ N fuel) _ _ _ _ _ _ _ _ = _
      unfold f_Decoder_decode_L96b
      rw [if_pos (show zI (u : Int) * zI (jzBl c s m : Nat) + zI (jzBl c s m : Nat) ≤ zI (u * jzBl c s m + jzOf m s c : Nat) by
        rw [jzOf_n c s m, zI_mul, zI_add, show (u : Int) * (jzBl c s m : Nat) + (jzBl c s m : Nat) = ((u * jzBl c s m + jzBl c s m : Nat) : Int) by rw [Int.natCast_add, Int.natCast_mul], leN (by omega) (by omega)]
        omega)]
    · show f_M_readAll_L108b _ _ _ _ _ _ _ _ _ _ _ _ _ _ _ _ _ _ _ N (f_M_readAll_L108 _ _ _ _ _ _ _ _ _ _ _ _ _ _ _ _ _ _ _ N fuel') _ _ _ _ _ _ _ _ = _
      unfold f_M_readAll_L108b
      rw [if_pos (by rw [leN (by omega) (by omega)]; omega)]
  | k + 1, c, fuel, fuel', co, mco, p, p', at1, part, left, fl, at2, tk, left2, fl2, rn, hk, hfu, hfu', hrn, hlow, hG, hP, hR => by
    have hn4 := hF.2.2.1
    have hBI : jzBI m s c ≤ 4 := by
      unfold jzBI
      have r1 := jzH_rng s c
      have r2 := jzH_rng (s / 2) c
      have : jzH s c * jzH (s / 2) c ≤ 2 * 2 := Nat.mul_le_mul r1.2 r2.2
      split
      · omega
      · split <;> omega
    have h16 := m_lt16 hF.2.2.1.2 hm
    obtain ⟨fuel', rfl⟩ : ∃ j, fuel' = j + 1 := ⟨fuel' - 1, by omega⟩
    have eM : f_M_readAll_L108 (zI n) (zI m) h v (zI u) (zI (jzU w s n : Nat)) ac oa (zI f) (zI l) (zI bf) (zI bits) (zI dz) st ln cd dt' ot' md N (fuel' + 1) (zI c, zI rn, at2, tk, left2, fl2, mco, p') = (f_M_readAll_L120 (zI c) (zI m) h v (zI u) (zI (jzU w s n : Nat)) ac oa (zI f) (zI l) (zI bf) (zI bits) (zI dz) st ln cd dt' ot' md N N (zI (0 : Nat), zI rn, at2, tk, left2, fl2, mco, p')).bind fun z6 => f_M_readAll_L108 (zI n) (zI m) h v (zI u) (zI (jzU w s n : Nat)) ac oa (zI f) (zI l) (zI bf) (zI bits) (zI dz) st ln cd dt' ot' md N fuel' (zI (c + 1 : Nat), z6.1, z6.2.1, z6.2.2.1, z6.2.2.2.1, z6.2.2.2.2.1, z6.2.2.2.2.2.1, z6.2.2.2.2.2.2) := by
      show f_M_readAll_L108b _ _ _ _ _ _ _ _ _ _ _ _ _ _ _ _ _ _ _ N (f_M_readAll_L108 _ _ _ _ _ _ _ _ _ _ _ _ _ _ _ _ _ _ _ N fuel') _ _ _ _ _ _ _ _ = _
      unfold f_M_readAll_L108b f_M_readAll_J108_159
      rw [if_neg (by rw [leN (by omega) (by omega)]; omega), suN]
      rfl
    rw [eM]
    have ij := q_jsR N hN hD hA hF hf hK hm0 hm hq hn hTb hC hdis (K := K) (co0 := co0) hu (c := c) (by omega) (jzBI m s c) 0 fuel N co mco p p' at1 part left fl at2 tk left2 fl2 rn (by omega) (by omega) (by omega) hrn hlow (by rw [Nat.add_zero]; exact hG) hP hR
    rw [Nat.add_zero] at ij
    rcases ij with ⟨co3, a3, p3, l3, f3, run3, pr3, run4, a4, t4', l4, f4, mco4, pr4, h1, h2, hX, hK3⟩ | ⟨co3, a3, p3, l3, f3, rn', pr3, a4, t4', l4, f4, mco4, pr4, r1, r2, h1, h2, hG3, hP3, hR3⟩
    · left
      have hx := rX_nz hX
      rw [h1, h2]
      dsimp only [Option.bind_some]
      rw [m108x N hN hF hf h16 hx.2.1 k (c + 1) fuel' (by omega) (by omega)]
      exact ⟨_, _, _, _, _, _, _, _, _, _, _, _, _, _, rfl, rfl, hX, hK3⟩
    · rw [h1, h2]
      dsimp only [Option.bind_some]
      rw [show u * jzBl n s m + jzOf m s c + jzBI m s c = u * jzBl n s m + jzOf m s (c + 1) by rw [jzOf_1]; omega] at hG3 ⊢
      exact q_csR N hN hD hA hF hf hK hm0 hm hq hn hTb hC hdis (K := K) (co0 := co0) hu k (c + 1) (fuel - jzBI m s c) fuel' co3 mco4 pr3 pr4 a3 p3 l3 f3 a4 t4' l4 f4 rn' (by omega) (by omega) (by omega) r1 r2 hG3 hP3 hR3
/-! READING: ends of parts -/
def ones (p l : Nat) : Prop := p % 2 ^ l = 2 ^ l - 1
theorem ones_1 (p l : Nat) : ones p (l + 1) ↔ ones p l ∧ p / 2 ^ l % 2 = 1 := by
  unfold ones
  rw [Nat.pow_succ, Nat.mod_mul]
  have h1 : p % 2 ^ l < 2 ^ l := Nat.mod_lt _ (Nat.two_pow_pos _)
  have h2 : p / 2 ^ l % 2 < 2 := Nat.mod_lt _ (by omega)
  have h3 := Nat.two_pow_pos l
  rcases (show p / 2 ^ l % 2 = 0 ∨ p / 2 ^ l % 2 = 1 by omega) with e | e
  · rw [e, Nat.mul_zero]; omega
  · rw [e, Nat.mul_one]; omega
theorem q_onesL (N : Nat) (p l : Nat) (hp : p < 256) (hl : l ≤ 8) (s0 : Nat) (tk : Int32) (hpt : l = 0 ∨ tk = zI (p : Nat)) : ∀ (j k fuel g : Nat), k + j = l → j < fuel → g ≤ 1 → (g = 1 ↔ s0 = 1 ∧ ones p k) → ∃ g', g' ≤ 1 ∧ (g' = 1 ↔ s0 = 1 ∧ ones p l) ∧ f_M_finish_L15 (zI l) tk N fuel (zI g, zI k) = some (zI (g' : Nat))
  | 0, k, fuel, g, hk, hf, hg, h => by
    obtain ⟨fuel, rfl⟩ : ∃ j, fuel = j + 1 := ⟨fuel - 1, by omega⟩
    refine ⟨g, hg, by rw [← hk]; exact h, ?_⟩
    show f_M_finish_L15b _ _ N (f_M_finish_L15 _ _ N fuel) _ _ = _
    unfold f_M_finish_L15b
    rw [if_pos (by rw [leN (by omega) (by omega)]; omega)]
  | j + 1, k, fuel, g, hk, hf, hg, h => by
    obtain ⟨fuel, rfl⟩ : ∃ j, fuel = j + 1 := ⟨fuel - 1, by omega⟩
    have ht := hpt.resolve_left (by omega)
    have e : f_M_finish_L15 (zI l) tk N (fuel + 1) (zI g, zI k) = f_M_finish_L15b (zI l) tk N (f_M_finish_L15 (zI l) tk N fuel) (zI g) (zI k) := rfl
    rw [e]
    unfold f_M_finish_L15b f_M_finish_J15_43 f_M_finish_J15_44
    rw [if_neg (by rw [leN (by omega) (by omega)]; omega), suN, ht, bit_c p k hp (by omega)]
    by_cases g0 : g = 0
    · rw [if_pos (by rw [g0]; rfl)]
      exact q_onesL N p l hp hl s0 tk hpt j (k + 1) fuel 0 (by omega) (by omega) (by omega) ⟨fun h => by omega, fun ⟨h1, h2⟩ => by have := h.mpr ⟨h1, ((ones_1 p k).mp h2).1⟩; omega⟩ |> fun ⟨g', h1, h2, h3⟩ => ⟨g', h1, h2, by rw [← ht]; exact h3⟩
    · rw [if_neg (nzN (by omega) (by omega))]
      have g1 : g = 1 := by omega
      obtain ⟨hs, ho⟩ := h.mp g1
      by_cases b1 : p / 2 ^ k % 2 = 1
      · rw [if_pos (show zI (jzK p k : Nat) = (1 : Int32) by unfold jzK; rw [b1]; rfl)]
        exact q_onesL N p l hp hl s0 tk hpt j (k + 1) fuel 1 (by omega) (by omega) (by omega) ⟨fun _ => ⟨hs, (ones_1 p k).mpr ⟨ho, b1⟩⟩, fun _ => rfl⟩ |> fun ⟨g', h1, h2, h3⟩ => ⟨g', h1, h2, by rw [← ht]; exact h3⟩
      · have hk2 := jzK_2 p k
        rw [if_neg (show ¬ zI (jzK p k : Nat) = (1 : Int32) by rw [show (1 : Int32) = zI ((1 : Nat) : Int) from rfl, eqN (by omega) (by omega)]; exact b1)]
        exact q_onesL N p l hp hl s0 tk hpt j (k + 1) fuel 0 (by omega) (by omega) (by omega) ⟨fun h => by omega, fun ⟨h1, h2⟩ => absurd ((ones_1 p k).mp h2).2 b1⟩ |> fun ⟨g', h1, h2, h3⟩ => ⟨g', h1, h2, by rw [← ht]; exact h3⟩
/-- the program's end of a byte -/
theorem q_endB {part : Int32} {p l : Nat} (hp : p < 256) (hl : l ≤ 8) (hpt : l = 0 ∨ part = zI (p : Nat)) : (ones p l → f_BitReader_endByte part (zI l) (zI 0) = some (zI 0, zI 0)) ∧ (¬ ones p l → f_BitReader_endByte part (zI l) (zI 0) = some (zI 0, zI (5 : Nat))) := by
  have h8 : 2 ^ l ≤ 256 := Nat.pow_le_pow_right (n := 2) (by omega) hl
  have h1 := Nat.two_pow_pos l
  have e1 : (1 : Int32) <<< (zI (l : Int) &&& 31) - (1 : Int32) = zI (2 ^ l - 1) := by
    rw [shl_b l (by omega), show (1 : Int32) = zI 1 from rfl, zI_sub, Int.natCast_pow]; rfl
  have key : (part &&& zI (2 ^ l - 1) = zI (2 ^ l - 1)) ↔ ones p l := by
    rcases hpt with rfl | rfl
    · have : ones p 0 := by unfold ones; rw [Nat.pow_zero, Nat.mod_one]
      refine ⟨fun _ => this, fun _ => ?_⟩
      show part &&& (0 : Int32) = (0 : Int32)
      exact Int32.and_zero
    · rw [zI_andm l (by omega)]
      unfold ones
      have em : (p : Int) % 2 ^ l = ((p % 2 ^ l : Nat) : Int) := by rw [Int.natCast_emod, Int.natCast_pow]; rfl
      have eo : (2 : Int) ^ l - 1 = ((2 ^ l - 1 : Nat) : Int) := by
        have : ((2 ^ l : Nat) : Int) = (2 : Int) ^ l := by rw [Int.natCast_pow]; rfl
        omega
      have hm : p % 2 ^ l < 2 ^ l := Nat.mod_lt _ h1
      rw [em, eo, eqN (by omega) (by omega)]
  unfold f_BitReader_endByte f_BitReader_endByte_J24
  rw [e1]
  constructor
  · intro h
    rw [if_pos (key.mpr h)]
    rfl
  · intro h
    rw [if_neg (fun h' => h (key.mp h'))]
    rfl
/-- the reference's look for a restart -/
theorem q_atR {D : Nat → Nat} {sz nb : Nat} {sb md : Nat → Int32} (hD : rDt D sz nb sb md) {a : Nat} (ha : a ≤ sz) : (a + 1 < sz ∧ D a = 255 ∧ 208 ≤ D (a + 1) ∧ D (a + 1) ≤ 215 ∧ f_M_atRestart (zI sz) (zI a) md = some (zI 1)) ∨ (¬ (a + 1 < sz ∧ D a = 255 ∧ 208 ≤ D (a + 1) ∧ D (a + 1) ≤ 215) ∧ f_M_atRestart (zI sz) (zI a) md = some (zI 0)) := by
  obtain ⟨d1, d2, d3, d4⟩ := hD
  unfold f_M_atRestart
  rw [suN]
  by_cases e1 : sz ≤ a + 1
  · right
    rw [if_pos (by rw [leN (by omega) (by omega)]; exact e1)]
    exact ⟨by omega, rfl⟩
  · obtain ⟨k1, k2, k3, k4⟩ := d4 a (by omega)
    obtain ⟨n1, n2, n3, n4⟩ := d4 (a + 1) (by omega)
    have ga := inN a 16384 (by omega) (by omega)
    have gb := inN (a + 1) 16384 (by omega) (by omega)
    rw [if_neg (by rw [leN (by omega) (by omega)]; exact e1), clN a (by omega), clN (a + 1) (by omega), if_neg ga, k3, if_neg gb, if_neg gb, n3]
    by_cases e2 : D a = 255
    · rw [if_pos (show zI (D a : Int) = (255 : Int32) by rw [e2]; rfl)]
      by_cases e4 : D (a + 1) < 208
      · right
        rw [if_pos (show zI (D (a + 1) : Int) < (208 : Int32) by rw [show (208 : Int32) = zI ((208 : Nat) : Int) from rfl, ltN (by omega) (by omega)]; exact e4)]
        exact ⟨by omega, rfl⟩
      · rw [if_neg (show ¬ zI (D (a + 1) : Int) < (208 : Int32) by rw [show (208 : Int32) = zI ((208 : Nat) : Int) from rfl, ltN (by omega) (by omega)]; exact e4)]
        by_cases e6 : 215 < D (a + 1)
        · right
          rw [if_pos (show (215 : Int32) < zI (D (a + 1) : Int) by rw [show (215 : Int32) = zI ((215 : Nat) : Int) from rfl, ltN (by omega) (by omega)]; exact e6)]
          exact ⟨by omega, rfl⟩
        · left
          rw [if_neg (show ¬ (215 : Int32) < zI (D (a + 1) : Int) by rw [show (215 : Int32) = zI ((215 : Nat) : Int) from rfl, ltN (by omega) (by omega)]; exact e6)]
          exact ⟨by omega, e2, by omega, by omega, rfl⟩
    · right
      rw [if_neg (show ¬ zI (D a : Int) = (255 : Int32) by rw [show (255 : Int32) = zI ((255 : Nat) : Int) from rfl, eqN (by omega) (by omega)]; exact e2)]
      exact ⟨fun h => e2 h.2.1, rfl⟩
theorem q_byteAt {D : Nat → Nat} {sz nb : Nat} {sb md : Nat → Int32} (hD : rDt D sz nb sb md) {a : Nat} (ha : a ≤ 20000) : f_Store_byteAt (zI a) (zI sz) nb sb = some (if a < sz then zI (D a : Nat) else zI (-1)) := by
  obtain ⟨d1, d2, d3, d4⟩ := hD
  unfold f_Store_byteAt
  rw [if_neg (show ¬ zI (a : Int) < 0 by rw [show (0 : Int32) = zI ((0 : Nat) : Int) from rfl, ltN (by omega) (by omega)]; omega)]
  by_cases e : a < sz
  · rw [if_pos (show zI (a : Int) < zI (sz : Int) by rw [ltN (by omega) (by omega)]; exact e), clN a (by omega), if_neg (inN a nb (by omega) (by omega)), (d4 a e).2.1, if_pos e]
  · rw [if_neg (show ¬ zI (a : Int) < zI (sz : Int) by rw [ltN (by omega) (by omega)]; exact e), if_neg e]
    rfl
/-- a restart -/
theorem q_rst (N : Nat) (hN : 1000 ≤ N) {D : Nat → Nat} {dz nb : Nat} {sb md : Nat → Int32} (hD : rDt D dz nb sb md) {at1 part left fl at2 tk left2 fl2 : Int32} (hR : rR dz at1 part left fl at2 tk left2 fl2) {rn : Nat} (hrn : rn ≤ 32767) {due : Nat} (h1 : 208 ≤ due) (h2 : due ≤ 215) :
    ∃ le3 f3, f_Decoder_endPart part left fl (zI rn) = some (le3, f3) ∧
    ((∃ at4 left4 fl4, ¬ f3 = 0 ∧ f_M_finish N (zI due) (zI dz) (zI rn) at2 tk left2 fl2 md = some (at4, left4, fl4) ∧ rX f3 fl4) ∨
     (f3 = 0 ∧ ∃ at3 fl3 at4 left4 fl4, f_BitReader_takeRestart (zI due) (zI dz) nb sb at1 f3 = some (at3, fl3) ∧ f_M_finish N (zI due) (zI dz) (zI rn) at2 tk left2 fl2 md = some (at4, left4, fl4) ∧ (rX fl3 fl4 ∨ rR dz at3 part le3 fl3 at4 tk left4 fl4 ∧ rn = 0))) := by
  obtain ⟨a, p, l, r1, r2, r3, rfl, rfl, rfl, rfl, r4, rfl, rfl⟩ := hR
  have hdz : dz ≤ 16384 := hD.1
  have z0 : zI 0 = 0 := rfl
  have d0 : ¬ zI (due : Int) = 0 := nzN (by omega) (by omega)
  unfold f_Decoder_endPart f_M_finish f_M_finish_J12
  obtain ⟨g1, o1, o2, o3⟩ := q_onesL N p l r2 r3 1 tk (r4.elim Or.inl fun h => Or.inr h.2) l 0 N 1 (by omega) (by omega) (by omega) ⟨fun _ => ⟨rfl, by unfold ones; rw [Nat.pow_zero, Nat.mod_one]⟩, fun _ => rfl⟩
  obtain ⟨g0, u1, u2, u3⟩ := q_onesL N p l r2 r3 0 tk (r4.elim Or.inl fun h => Or.inr h.2) l 0 N 0 (by omega) (by omega) (by omega) ⟨fun h => by omega, fun h => h.1⟩
  have g00 : g0 = 0 := by
    rcases (show g0 = 0 ∨ g0 = 1 by omega) with h | h
    · exact h
    · exact absurd (u2.mp h).1 (by omega)
  subst g00
  have hX5 : rX (zI (5 : Nat)) (zI (5 : Nat)) := ⟨5, by omega, by omega, rfl, rfl⟩
  have bad : f_M_finish_J103 N (zI 0) (zI due) (zI a) = some (zI a + (2 : Int32), (0 : Int32), zI (5 : Nat)) := by
    unfold f_M_finish_J103 f_M_finish_J104 f_M_wrong f_M_wrong_J16
    rw [if_pos (show (0 : Int32) = 0 from rfl), if_pos z0, if_pos z0]
    dsimp only [Option.bind_some]
    unfold f_M_finish_J122 f_M_finish_J141
    rw [if_neg d0]
    rfl
  have good : f_M_finish_J99 N (zI 0) (zI due) (zI a) = some (zI a + (2 : Int32), (0 : Int32), zI 0) := by
    unfold f_M_finish_J99 f_M_finish_J104
    rw [if_neg (show ¬ (1 : Int32) = 0 by decide)]
    unfold f_M_finish_J122 f_M_finish_J141
    rw [if_neg d0]
  by_cases rz : rn = 0
  · subst rz
    rw [if_pos (show zI ((0 : Nat) : Int) ≤ 0 by decide), if_pos (show zI ((0 : Nat) : Int) = 0 from rfl)]
    obtain ⟨b1, b2⟩ := q_endB (part := part) r2 r3 (r4.elim Or.inl fun h => Or.inr h.1)
    rw [show f_M_finish_L15 (zI l) tk N N ((1 : Int32), (0 : Int32)) = some (zI (g1 : Nat)) from o3]
    by_cases co : ones p l
    · have g11 : g1 = 1 := o2.mpr ⟨rfl, co⟩
      subst g11
      rw [b1 co]
      dsimp only [Option.bind_some]
      rw [if_neg (show ¬ zI ((1 : Nat) : Int) = 0 by decide), if_neg d0]
      refine ⟨zI 0, zI 0, rfl, Or.inr ⟨rfl, ?_⟩⟩
      unfold f_BitReader_takeRestart f_BitReader_takeRestart_J34 f_BitReader_takeRestart_J39
      rw [q_byteAt hD (a := a) (by omega), suN, q_byteAt hD (a := a + 1) (by omega)]
      dsimp only [Option.bind_some]
      rcases q_atR hD r1 with ⟨t1, t2, t3, t4, t5⟩ | ⟨t1, t5⟩
      · rw [t5, if_pos (show a < dz by omega), if_pos (show a + 1 < dz by omega), if_pos (show zI (D a : Int) = (255 : Int32) by rw [t2]; rfl)]
        dsimp only [Option.bind_some]
        obtain ⟨n1, n2, n3, n4⟩ := hD.2.2.2 (a + 1) (by omega)
        rw [if_neg (show ¬ zI 1 = 0 by decide), clN _ (by omega), if_neg (inN (a + 1) 16384 (by omega) (by omega)), n3, good, bad]
        have e2 : zI (a : Int) + (2 : Int32) = zI ((a + 2 : Nat) : Int) := by rw [show (2 : Int32) = zI 2 from rfl, zI_add]; rfl
        by_cases cd : D (a + 1) = due
        · rw [if_pos (by rw [cd]), if_pos (by rw [cd])]
          exact ⟨_, _, _, _, _, rfl, rfl, Or.inr ⟨⟨a + 2, 0, 0, by omega, by omega, by omega, e2, e2, rfl, rfl, Or.inl rfl, rfl, rfl⟩, rfl⟩⟩
        · have nd : ¬ zI (D (a + 1) : Int) = zI (due : Int) := by rw [eqN (by omega) (by omega)]; exact cd
          rw [if_neg nd, if_neg nd]
          exact ⟨_, _, _, _, _, rfl, rfl, Or.inl hX5⟩
      · rw [t5]
        dsimp only [Option.bind_some]
        rw [if_pos z0, bad]
        by_cases e1 : a < dz
        · rw [if_pos e1]
          obtain ⟨n1, n2, n3, n4⟩ := hD.2.2.2 a e1
          by_cases e2 : D a = 255
          · rw [if_pos (show zI (D a : Int) = (255 : Int32) by rw [e2]; rfl)]
            by_cases e3 : a + 1 < dz
            · obtain ⟨m1, m2, m3, m4⟩ := hD.2.2.2 (a + 1) e3
              rw [if_pos e3, if_neg (show ¬ zI (D (a + 1) : Int) = zI (due : Int) by rw [eqN (by omega) (by omega)]; intro e; exact t1 ⟨e3, e2, by omega, by omega⟩)]
              exact ⟨_, _, _, _, _, rfl, rfl, Or.inl hX5⟩
            · rw [if_neg e3, if_neg (show ¬ zI (-1) = zI (due : Int) by rw [zI_eq (by decide) (by decide) (by omega) (by omega)]; omega)]
              exact ⟨_, _, _, _, _, rfl, rfl, Or.inl hX5⟩
          · rw [if_neg (show ¬ zI (D a : Int) = (255 : Int32) by rw [show (255 : Int32) = zI ((255 : Nat) : Int) from rfl, eqN (by omega) (by omega)]; exact e2)]
            exact ⟨_, _, _, _, _, rfl, rfl, Or.inl hX5⟩
        · rw [if_neg e1, if_neg (show ¬ zI (-1) = (255 : Int32) by rw [show (255 : Int32) = zI 255 from rfl, zI_eq (by decide) (by decide) (by decide) (by decide)]; decide)]
          exact ⟨_, _, _, _, _, rfl, rfl, Or.inl hX5⟩
    · have g10 : g1 = 0 := by
        rcases (show g1 = 0 ∨ g1 = 1 by omega) with h | h
        · exact h
        · exact absurd (o2.mp h).2 co
      subst g10
      rw [b2 co]
      dsimp only [Option.bind_some]
      rw [if_pos (show zI ((0 : Nat) : Int) = 0 from rfl), bad]
      exact ⟨_, _, rfl, Or.inl ⟨_, _, _, by decide, rfl, hX5⟩⟩
  · rw [if_neg (show ¬ zI (rn : Int) ≤ 0 by rw [show (0 : Int32) = zI ((0 : Nat) : Int) from rfl, leN (by omega) (by omega)]; omega), if_neg (nzN (b := rn) (by omega) (by omega)), show f_M_finish_L15 (zI l) tk N N ((0 : Int32), (0 : Int32)) = some (zI ((0 : Nat) : Int)) from u3]
    dsimp only [Option.bind_some]
    rw [if_pos (show zI ((0 : Nat) : Int) = 0 from rfl), bad]
    exact ⟨_, _, rfl, Or.inl ⟨_, _, _, by decide, rfl, hX5⟩⟩
/-- the end -/
theorem q_end (N : Nat) (hN : 1000 ≤ N) {D : Nat → Nat} {dz nb : Nat} {sb md : Nat → Int32} (hD : rDt D dz nb sb md) {at1 part left fl at2 tk left2 fl2 : Int32} (hR : rR dz at1 part left fl at2 tk left2 fl2) {rn : Nat} (hrn : rn ≤ 32767) :
    ∃ le3 f3, f_Decoder_endPart part left fl (zI rn) = some (le3, f3) ∧
    ((∃ at4 left4 fl4, ¬ f3 = 0 ∧ f_M_finish N (0 : Int32) (zI dz) (zI rn) at2 tk left2 fl2 md = some (at4, left4, fl4) ∧ rX f3 fl4) ∨
     (f3 = 0 ∧ ∃ fl3 at4 left4 fl4, f_BitReader_takeEnd (zI dz) at1 f3 = some fl3 ∧ f_M_finish N (0 : Int32) (zI dz) (zI rn) at2 tk left2 fl2 md = some (at4, left4, fl4) ∧ (rX fl3 fl4 ∨ fl3 = 0 ∧ fl4 = 0))) := by
  obtain ⟨a, p, l, r1, r2, r3, rfl, rfl, rfl, rfl, r4, rfl, rfl⟩ := hR
  have hdz : dz ≤ 16384 := hD.1
  have z0 : zI 0 = 0 := rfl
  have d0 : (0 : Int32) = 0 := rfl
  unfold f_Decoder_endPart f_M_finish f_M_finish_J12
  obtain ⟨g1, o1, o2, o3⟩ := q_onesL N p l r2 r3 1 tk (r4.elim Or.inl fun h => Or.inr h.2) l 0 N 1 (by omega) (by omega) (by omega) ⟨fun _ => ⟨rfl, by unfold ones; rw [Nat.pow_zero, Nat.mod_one]⟩, fun _ => rfl⟩
  obtain ⟨g0, u1, u2, u3⟩ := q_onesL N p l r2 r3 0 tk (r4.elim Or.inl fun h => Or.inr h.2) l 0 N 0 (by omega) (by omega) (by omega) ⟨fun h => by omega, fun h => h.1⟩
  have g00 : g0 = 0 := by
    rcases (show g0 = 0 ∨ g0 = 1 by omega) with h | h
    · exact h
    · exact absurd (u2.mp h).1 (by omega)
  subst g00
  have hX5 : rX (zI (5 : Nat)) (zI (5 : Nat)) := ⟨5, by omega, by omega, rfl, rfl⟩
  have bad : f_M_finish_J103 N (zI 0) (0 : Int32) (zI a) = some (zI a + (0 : Int32), (0 : Int32), zI (5 : Nat)) := by
    unfold f_M_finish_J103 f_M_finish_J104 f_M_wrong f_M_wrong_J16
    rw [if_pos (show (0 : Int32) = 0 from rfl), if_pos z0, if_pos z0]
    dsimp only [Option.bind_some]
    unfold f_M_finish_J122 f_M_finish_J141
    rw [if_pos d0]
    rfl
  have good : f_M_finish_J99 N (zI 0) (0 : Int32) (zI a) = some (zI a + (0 : Int32), (0 : Int32), zI 0) := by
    unfold f_M_finish_J99 f_M_finish_J104
    rw [if_neg (show ¬ (1 : Int32) = 0 by decide)]
    unfold f_M_finish_J122 f_M_finish_J141
    rw [if_pos d0]
  by_cases rz : rn = 0
  · subst rz
    rw [if_pos (show zI ((0 : Nat) : Int) ≤ 0 by decide), if_pos (show zI ((0 : Nat) : Int) = 0 from rfl)]
    obtain ⟨b1, b2⟩ := q_endB (part := part) r2 r3 (r4.elim Or.inl fun h => Or.inr h.1)
    rw [show f_M_finish_L15 (zI l) tk N N ((1 : Int32), (0 : Int32)) = some (zI (g1 : Nat)) from o3]
    by_cases co : ones p l
    · have g11 : g1 = 1 := o2.mpr ⟨rfl, co⟩
      subst g11
      rw [b1 co]
      dsimp only [Option.bind_some]
      rw [if_neg (show ¬ zI ((1 : Nat) : Int) = 0 by decide), if_pos d0, bad, good]
      refine ⟨zI 0, zI 0, rfl, Or.inr ⟨rfl, ?_⟩⟩
      unfold f_BitReader_takeEnd
      by_cases e : a = dz
      · rw [if_pos (by rw [e]), if_pos (by rw [e])]
        exact ⟨_, _, _, _, rfl, rfl, Or.inr ⟨rfl, rfl⟩⟩
      · have ne : ¬ zI (a : Int) = zI (dz : Int) := by rw [eqN (by omega) (by omega)]; exact e
        rw [if_neg ne, if_neg ne]
        exact ⟨_, _, _, _, rfl, rfl, Or.inl hX5⟩
    · have g10 : g1 = 0 := by
        rcases (show g1 = 0 ∨ g1 = 1 by omega) with h | h
        · exact h
        · exact absurd (o2.mp h).2 co
      subst g10
      rw [b2 co]
      dsimp only [Option.bind_some]
      rw [if_pos (show zI ((0 : Nat) : Int) = 0 from rfl), bad]
      exact ⟨_, _, rfl, Or.inl ⟨_, _, _, by decide, rfl, hX5⟩⟩
  · rw [if_neg (show ¬ zI (rn : Int) ≤ 0 by rw [show (0 : Int32) = zI ((0 : Nat) : Int) from rfl, leN (by omega) (by omega)]; omega), if_neg (nzN (b := rn) (by omega) (by omega)), show f_M_finish_L15 (zI l) tk N N ((0 : Int32), (0 : Int32)) = some (zI ((0 : Nat) : Int)) from u3]
    dsimp only [Option.bind_some]
    rw [if_pos (show zI ((0 : Nat) : Int) = 0 from rfl), bad]
    exact ⟨_, _, rfl, Or.inl ⟨_, _, _, by decide, rfl, hX5⟩⟩
/-! READING: all units -/
theorem q_R67 (N : Nat) (hN : 20000 ≤ N) (u ag : Nat) (hu : u ≤ 192) (hag : ag ≤ 1) {p p' : Nat → Int32} (hp : (u = 0 ∨ ag = 1) ∧ (∀ c, c < 4 → p c = zI 0) ∨ ¬ (u = 0 ∨ ag = 1) ∧ rPP p p') :
    ∃ p1, f_M_readAll_L67 (zI u) (zI ag) N N ((0 : Int32), p') = some p1 ∧ rPP p p1 := by
  have hP : ∀ c, c < 4 → ∃ z, p c = zI z ∧ (if u = 0 ∨ ag = 1 then zI 0 else p' c) = zI z ∧ -1024 ≤ z ∧ z ≤ 1023 := by
    intro c hc
    rcases hp with ⟨h1, h2⟩ | ⟨h1, h2⟩
    · rw [if_pos h1]; exact ⟨0, h2 c hc, rfl, by omega, by omega⟩
    · rw [if_neg h1]; exact h2 c hc
  refine it_cnt (P := fun c (a : Int32 × (Nat → Int32)) => a.1 = zI c ∧ (∀ i, i < 4 → (i < c → a.2 i = if u = 0 ∨ ag = 1 then zI 0 else p' i) ∧ (c ≤ i → a.2 i = p' i))) (R := fun (p1 : Nat → Int32) => rPP p p1) 4 ?_ ?_ N 0 _ ⟨rfl, fun i _ => ⟨fun h => absurd h (by omega), fun _ => rfl⟩⟩ (by omega) (by omega)
  · rintro g c ⟨a, d⟩ hc ⟨q1, q2⟩ ih
    dsimp only at q1 q2
    subst q1
    unfold f_M_readAll_L67b f_M_readAll_J67_87 f_M_readAll_J67_98
    dsimp only
    rw [clN c (by omega), suN c, if_neg (show ¬ (4 : Int32) ≤ zI (c : Int) by rw [show (4 : Int32) = zI ((4 : Nat) : Int) from rfl, leN (by omega) (by omega)]; omega)]
    have gc := inN c 4 hc (by omega)
    simp only [if_neg gc]
    have step : ∀ x : Int32, (x = if u = 0 ∨ ag = 1 then zI 0 else p' c) → ∃ z, g (zI ((c + 1 : Nat) : Int), upd d c x) = some z ∧ rPP p z := by
      intro x hx
      refine ih _ ⟨rfl, fun i hi => ⟨fun h => ?_, fun h => ?_⟩⟩
      · dsimp only
        by_cases e : i = c
        · subst e; rw [upd_at]; exact hx
        · rw [upd_ne e]; exact (q2 i hi).1 (by omega)
      · dsimp only
        rw [upd_ne (by omega)]; exact (q2 i hi).2 (by omega)
    by_cases u0 : u = 0
    · rw [if_pos (by rw [u0]; rfl)]
      exact step _ (by rw [if_pos (Or.inl u0)]; rfl)
    · rw [if_neg (nzN (by omega) (by omega))]
      by_cases a1 : ag = 0
      · rw [if_pos (by rw [a1]; rfl)]
        refine step _ ?_
        rw [if_neg (by omega), (q2 c hc).2 (Nat.le_refl _)]
      · rw [if_neg (nzN (by omega) (by omega))]
        exact step _ (by rw [if_pos (Or.inr (by omega))]; rfl)
  · rintro g ⟨a, d⟩ ⟨q1, q2⟩
    dsimp only at q1 q2
    subst q1
    unfold f_M_readAll_L67b
    dsimp only
    rw [if_pos (by decide)]
    refine ⟨_, rfl, fun c hc => ?_⟩
    rw [(q2 c hc).1 hc]
    exact hP c hc
theorem q_R67x (N : Nat) (hN : 20000 ≤ N) (u ag : Nat) (hu : u ≤ 192) (hag : ag ≤ 1) (p' : Nat → Int32) : ∃ p1, f_M_readAll_L67 (zI u) (zI ag) N N ((0 : Int32), p') = some p1 := by
  refine (it_cnt (P := fun c (a : Int32 × (Nat → Int32)) => a.1 = zI c) (R := fun (p1 : Nat → Int32) => True) 4 ?_ ?_ N 0 _ rfl (by omega) (by omega)).imp fun _ h => h.1
  · rintro g c ⟨a, d⟩ hc q1 ih
    dsimp only at q1
    subst q1
    unfold f_M_readAll_L67b f_M_readAll_J67_87 f_M_readAll_J67_98
    dsimp only
    rw [clN c (by omega), suN c, if_neg (show ¬ (4 : Int32) ≤ zI (c : Int) by rw [show (4 : Int32) = zI ((4 : Nat) : Int) from rfl, leN (by omega) (by omega)]; omega)]
    have gc := inN c 4 hc (by omega)
    simp only [if_neg gc]
    by_cases u0 : zI (u : Int) = 0
    · rw [if_pos u0]; exact ih _ rfl
    · rw [if_neg u0]
      by_cases a1 : zI (ag : Int) = 0
      · rw [if_pos a1]; exact ih _ rfl
      · rw [if_neg a1]; exact ih _ rfl
  · rintro g ⟨a, d⟩ q1
    dsimp only at q1
    subst q1
    unfold f_M_readAll_L67b
    dsimp only
    rw [if_pos (by decide)]
    exact ⟨_, rfl, trivial⟩
theorem q_forg (N : Nat) (hN : 1000 ≤ N) (p : Nat → Int32) : ∃ p1, f_Decoder_forget N p = some (zI 0, p1) ∧ ∀ c, c < 4 → p1 c = zI 0 := by
  obtain ⟨z, h1, h2, -⟩ := q_fillI N 4 (by omega) (by omega) (0 : Int32) p
  unfold f_Decoder_forget
  rw [h1]
  exact ⟨z, rfl, h2⟩
theorem l18x (N fuel : Nat) {units iv bl kind bits size K l f u at1 part left fl run : Int32} {nco nb : Nat} {ow ot pl dt sb co p : Nat → Int32} {vs vf vx : Nat → Nat → Int32} {ve : Nat → Int32} (hr : ¬ fl = 0) : f_Decoder_decode_L18 units iv bl ow ot kind pl nco bits dt size nb sb K vs vf vx ve l f N (fuel + 1) (u, co, at1, part, left, fl, run, p) = some (co, at1, part, left, fl, run, p) := by
  show f_Decoder_decode_L18b _ _ _ _ _ _ _ _ _ _ _ _ _ _ _ _ _ _ _ _ N (f_Decoder_decode_L18 _ _ _ _ _ _ _ _ _ _ _ _ _ _ _ _ _ _ _ _ N fuel) _ _ _ _ _ _ _ _ = _
  unfold f_Decoder_decode_L18b
  by_cases c1 : units ≤ u
  · rw [if_pos c1]
  · rw [if_neg c1, if_neg hr]
theorem m4x (N : Nat) (hN : 20000 ≤ N) {w hi n s : Nat} {h v ac dn oa od st : Nat → Int32} (hF : okF w hi n s) (hf : isFr w hi n s n h v ac dn oa od st) {m : Nat} (hm0 : 0 < m) (hm : m < 2 ^ n) (fuel : Nat) {v1 u iv f l bf bits size nn run at2 tk left fl : Int32} {h' v' ac' st' ln cd dt ot md mco p : Nat → Int32} (hr : ¬ fl = 0) : f_M_readAll_L4 (zI (jzU w s n : Nat)) (zI (jzU hi (s / 2) n : Nat)) (zI m) oa od iv nn h' v' ac' f l bf bits size st' ln cd dt ot md N (fuel + 1) (v1, u, run, at2, tk, left, fl, mco, p) = some (run, at2, tk, left, fl, mco, p) := by
  show f_M_readAll_L4b _ _ _ _ _ _ _ _ _ _ _ _ _ _ _ _ _ _ _ _ _ N (f_M_readAll_L4 _ _ _ _ _ _ _ _ _ _ _ _ _ _ _ _ _ _ _ _ _ N fuel) _ _ _ _ _ _ _ _ _ = _
  unfold f_M_readAll_L4b
  rw [q_units N (by omega) hF hf m hm0 hm]
  dsimp only [Option.bind_some]
  by_cases c1 : zI (jzUn w hi n s m : Nat) ≤ u
  · rw [if_pos c1]
  · rw [if_neg c1, if_neg hr]
theorem div_pre {u iv : Nat} (h : 0 < iv) (hu : 0 < u) : (u % iv = 0 → (u - 1) / iv = u / iv - 1 ∧ 1 ≤ u / iv) ∧ (¬ u % iv = 0 → (u - 1) / iv = u / iv) := by
  have e := Nat.div_add_mod u iv
  constructor
  · intro h0
    rw [h0, Nat.add_zero] at e
    have h1 : 1 ≤ u / iv := by
      rcases Nat.eq_zero_or_pos (u / iv) with z | z
      · rw [z, Nat.mul_zero] at e; omega
      · exact z
    refine ⟨?_, h1⟩
    obtain ⟨k, hk⟩ : ∃ k, u / iv = k + 1 := ⟨u / iv - 1, by omega⟩
    rw [hk] at e ⊢
    have : u - 1 = iv * k + (iv - 1) := by rw [Nat.mul_add, Nat.mul_one] at e; omega
    rw [this, Nat.mul_add_div h, Nat.div_eq_of_lt (by omega)]
    omega
  · intro h0
    have hm : u % iv < iv := Nat.mod_lt _ h
    have : u - 1 = iv * (u / iv) + (u % iv - 1) := by omega
    rw [this, Nat.mul_add_div h, Nat.div_eq_of_lt (show u % iv - 1 < iv by omega), Nat.add_zero]
set_option maxHeartbeats 1000000 in
theorem q_usR (N : Nat) (hN : 20000 ≤ N) {D : Nat → Nat} {dz nb : Nat} {sb md : Nat → Int32} (hD : rDt D dz nb sb md) {vw vs vf vx : Nat → Nat → Int32} {ve vz ln cd wd : Nat → Int32} (hA : rAll vw vs vf vx ve vz ln cd wd) {w hi n s m : Nat} {h v ac dn oa od st : Nat → Int32} (hF : okF w hi n s) (hf : isFr w hi n s n h v ac dn oa od st) {kd f l bits bf : Nat} (hK : okKR kd f l bits bf) (hm0 : 0 < m) (hm : m < 2 ^ n) {nco : Nat} (hq : 64 * jzT w hi n s n ≤ nco) (hn : nco ≤ 12288) {dt dt' ot ot' ow pl : Nat → Int32} {Dd Oo : Nat → Nat} (hTb : ∀ c, c < 4 → dt c = zI (Dd c : Nat) ∧ dt' c = zI (Dd c : Nat) ∧ ot c = zI (Oo c : Nat) ∧ ot' c = zI (Oo c : Nat) ∧ Dd c < 8 ∧ Oo c < 8) {units : Int32} (hC : rCrs w hi n s m units (zI (jzBl n s m : Nat)) ow pl) (hdis : kd = 4 → ∀ p p', p < p' → p' < jzUn w hi n s m * jzBl n s m → pl p ≠ pl p') {K : Int32} {co0 : Nat → Int32} {iv : Nat} (hiv : iv ≤ 65535) : ∀ (j u fuel fuel' : Nat) (co mco p p' : Nat → Int32) (at1 part left fl at2 tk left2 fl2 : Int32) (rn : Nat), u + j = jzUn w hi n s m → j + 1 < fuel → j + 1 < fuel' → rn ≤ 32767 → (kd < 3 → rn = 0) → rG K kd (jzT w hi n s n) (jzUn w hi n s m * jzBl n s m) pl (u * jzBl n s m) co0 co mco → (u = 0 ∧ (∀ c, c < 4 → p c = zI 0) ∨ 0 < u ∧ rPP p p') → rR dz at1 part left fl at2 tk left2 fl2 →
    (∃ co3 at3 part3 left3 fl3 run3 p3 run4 at4 tk4 left4 fl4 mco4 p4, f_Decoder_decode_L18 (zI (jzUn w hi n s m : Nat)) (zI iv) (zI (jzBl n s m : Nat)) ow ot (zI kd) pl nco (zI bits) dt (zI dz) nb sb K vs vf vx ve (zI l) (zI f) N fuel (zI u, co, at1, part, left, fl, zI rn, p) = some (co3, at3, part3, left3, fl3, run3, p3) ∧ f_M_readAll_L4 (zI (jzU w s n : Nat)) (zI (jzU hi (s / 2) n : Nat)) (zI m) oa od (zI iv) (zI n) h v ac (zI f) (zI l) (zI bf) (zI bits) (zI dz) st ln cd dt' ot' md N fuel' (zI ((u - 1) / iv : Nat), zI u, zI rn, at2, tk, left2, fl2, mco, p') = some (run4, at4, tk4, left4, fl4, mco4, p4) ∧ rX fl3 fl4 ∧ (K = zI 0 → co3 = co0)) ∨
    (∃ (co3 : Nat → Int32) (at3 part3 left3 fl3 : Int32) (rn' : Nat) (p3 : Nat → Int32) (at4 tk4 left4 fl4 : Int32) (mco4 p4 : Nat → Int32), rn' ≤ 32767 ∧ (kd < 3 → rn' = 0) ∧ f_Decoder_decode_L18 (zI (jzUn w hi n s m : Nat)) (zI iv) (zI (jzBl n s m : Nat)) ow ot (zI kd) pl nco (zI bits) dt (zI dz) nb sb K vs vf vx ve (zI l) (zI f) N fuel (zI u, co, at1, part, left, fl, zI rn, p) = some (co3, at3, part3, left3, fl3, zI (rn' : Nat), p3) ∧ f_M_readAll_L4 (zI (jzU w s n : Nat)) (zI (jzU hi (s / 2) n : Nat)) (zI m) oa od (zI iv) (zI n) h v ac (zI f) (zI l) (zI bf) (zI bits) (zI dz) st ln cd dt' ot' md N fuel' (zI ((u - 1) / iv : Nat), zI u, zI rn, at2, tk, left2, fl2, mco, p') = some (zI (rn' : Nat), at4, tk4, left4, fl4, mco4, p4) ∧ rG K kd (jzT w hi n s n) (jzUn w hi n s m * jzBl n s m) pl (jzUn w hi n s m * jzBl n s m) co0 co3 mco4 ∧ rR dz at3 part3 left3 fl3 at4 tk4 left4 fl4)
  | 0, u, fuel, fuel', co, mco, p, p', at1, part, left, fl, at2, tk, left2, fl2, rn, hj, hfu, hfu', hrn, hlow, hG, hP, hR => by
    obtain ⟨fuel, rfl⟩ : ∃ j, fuel = j + 1 := ⟨fuel - 1, by omega⟩
    obtain ⟨fuel', rfl⟩ : ∃ j, fuel' = j + 1 := ⟨fuel' - 1, by omega⟩
    have hUn := jzUn_rng hF m hm0 hm
    have i1 : zI (jzUn w hi n s m : Nat) ≤ zI (u : Int) := by rw [leN (by omega) (by omega)]; omega
    right
    refine ⟨co, at1, part, left, fl, rn, p, at2, tk, left2, fl2, mco, p', hrn, hlow, ?_, ?_, by have e : u * jzBl n s m = jzUn w hi n s m * jzBl n s m := (by rw [← hj, Nat.add_zero]); rw [e] at hG; exact hG, hR⟩
    · show f_Decoder_decode_L18b _ _ _ _ _ _ _ _ _ _ _ _ _ _ _ _ _ _ _ _ N (f_Decoder_decode_L18 _ _ _ _ _ _ _ _ _ _ _ _ _ _ _ _ _ _ _ _ N fuel) _ _ _ _ _ _ _ _ = _
      unfold f_Decoder_decode_L18b
      rw [if_pos i1]
    · show f_M_readAll_L4b _ _ _ _ _ _ _ _ _ _ _ _ _ _ _ _ _ _ _ _ _ N (f_M_readAll_L4 _ _ _ _ _ _ _ _ _ _ _ _ _ _ _ _ _ _ _ _ _ N fuel') _ _ _ _ _ _ _ _ _ = _
      unfold f_M_readAll_L4b
      rw [q_units N (by omega) hF hf m hm0 hm]
      dsimp only [Option.bind_some]
      rw [if_pos i1]
  | j + 1, u, fuel, fuel', co, mco, p, p', at1, part, left, fl, at2, tk, left2, fl2, rn, hj, hfu, hfu', hrn, hlow, hG, hP, hR => by
    obtain ⟨fuel, rfl⟩ : ∃ j, fuel = j + 1 := ⟨fuel - 1, by omega⟩
    obtain ⟨fuel', rfl⟩ : ∃ j, fuel' = j + 1 := ⟨fuel' - 1, by omega⟩
    have hUn := jzUn_rng hF m hm0 hm
    have hn4 := hF.2.2.1
    have h16 := m_lt16 hF.2.2.1.2 hm
    have hu : u < jzUn w hi n s m := by omega
    have i1 : ¬ zI (jzUn w hi n s m : Nat) ≤ zI (u : Int) := by rw [leN (by omega) (by omega)]; omega
    have hz := rR_z hR
    have hub : u * jzBl n s m ≤ 192 := Nat.le_trans (Nat.mul_le_mul_right _ (show u ≤ jzUn w hi n s m by omega)) hUn.2.1
    have eU : zI (u : Int) * zI (jzBl n s m : Nat) = zI (u * jzBl n s m : Nat) := by rw [zI_mul, Int.natCast_mul]
    have hsm : (u - 1) / iv ≤ 192 := Nat.le_trans (Nat.div_le_self _ _) (by omega)
    -- the rest of a unit
    have tail : ∀ (ag rn : Nat) (p p' : Nat → Int32) (at1 part left fl at2 tk left2 fl2 : Int32), ag ≤ 1 → rn ≤ 32767 → (kd < 3 → rn = 0) → ((u = 0 ∨ ag = 1) ∧ (∀ c, c < 4 → p c = zI 0) ∨ ¬ (u = 0 ∨ ag = 1) ∧ rPP p p') → rR dz at1 part left fl at2 tk left2 fl2 →
        (∃ co3 at3 part3 left3 fl3 run3 p3 run4 at4 tk4 left4 fl4 mco4 p4, f_Decoder_decode_J18_83 N (f_Decoder_decode_L18 (zI (jzUn w hi n s m : Nat)) (zI iv) (zI (jzBl n s m : Nat)) ow ot (zI kd) pl nco (zI bits) dt (zI dz) nb sb K vs vf vx ve (zI l) (zI f) N fuel) (zI u) (zI (jzBl n s m : Nat)) ow ot (zI kd) pl nco (zI bits) dt (zI dz) nb sb K vs vf vx ve (zI l) (zI f) co at1 part left fl (zI rn) p = some (co3, at3, part3, left3, fl3, run3, p3) ∧ f_M_readAll_J4_64 N (f_M_readAll_L4 (zI (jzU w s n : Nat)) (zI (jzU hi (s / 2) n : Nat)) (zI m) oa od (zI iv) (zI n) h v ac (zI f) (zI l) (zI bf) (zI bits) (zI dz) st ln cd dt' ot' md N fuel') (zI u) (zI ag) p' (zI n) (zI m) h v (zI (jzU w s n : Nat)) ac oa (zI f) (zI l) (zI bf) (zI bits) (zI dz) st ln cd dt' ot' md (zI rn) at2 tk left2 fl2 mco (zI (u / iv : Nat)) = some (run4, at4, tk4, left4, fl4, mco4, p4) ∧ rX fl3 fl4 ∧ (K = zI 0 → co3 = co0)) ∨
        (∃ (co3 : Nat → Int32) (at3 part3 left3 fl3 : Int32) (rn' : Nat) (p3 : Nat → Int32) (at4 tk4 left4 fl4 : Int32) (mco4 p4 : Nat → Int32), rn' ≤ 32767 ∧ (kd < 3 → rn' = 0) ∧ f_Decoder_decode_J18_83 N (f_Decoder_decode_L18 (zI (jzUn w hi n s m : Nat)) (zI iv) (zI (jzBl n s m : Nat)) ow ot (zI kd) pl nco (zI bits) dt (zI dz) nb sb K vs vf vx ve (zI l) (zI f) N fuel) (zI u) (zI (jzBl n s m : Nat)) ow ot (zI kd) pl nco (zI bits) dt (zI dz) nb sb K vs vf vx ve (zI l) (zI f) co at1 part left fl (zI rn) p = some (co3, at3, part3, left3, fl3, zI (rn' : Nat), p3) ∧ f_M_readAll_J4_64 N (f_M_readAll_L4 (zI (jzU w s n : Nat)) (zI (jzU hi (s / 2) n : Nat)) (zI m) oa od (zI iv) (zI n) h v ac (zI f) (zI l) (zI bf) (zI bits) (zI dz) st ln cd dt' ot' md N fuel') (zI u) (zI ag) p' (zI n) (zI m) h v (zI (jzU w s n : Nat)) ac oa (zI f) (zI l) (zI bf) (zI bits) (zI dz) st ln cd dt' ot' md (zI rn) at2 tk left2 fl2 mco (zI (u / iv : Nat)) = some (zI (rn' : Nat), at4, tk4, left4, fl4, mco4, p4) ∧ rG K kd (jzT w hi n s n) (jzUn w hi n s m * jzBl n s m) pl (jzUn w hi n s m * jzBl n s m) co0 co3 mco4 ∧ rR dz at3 part3 left3 fl3 at4 tk4 left4 fl4) := by
      intro ag rn p p' at1 part left fl at2 tk left2 fl2 hag hrn hlow hp hR
      obtain ⟨p1, w1, w2⟩ := q_R67 N hN u ag (by omega) hag hp
      unfold f_Decoder_decode_J18_83 f_Decoder_decode_J18_267 f_M_readAll_J4_64
      rw [w1, eU, suN]
      dsimp only [Option.bind_some]
      have ic := q_csR N hN hD hA hF hf hK hm0 hm hq hn hTb hC hdis (K := K) (co0 := co0) hu n 0 N N co mco p p1 at1 part left fl at2 tk left2 fl2 rn (by omega) (by omega) (by omega) hrn hlow hG w2 hR
      rw [eU, show u * jzBl n s m + jzOf m s 0 = u * jzBl n s m from rfl] at ic
      rcases ic with ⟨co3, a3, p3, l3, f3, run3, pr3, run4, a4, t4', l4, f4, mco4, pr4, h1, h2, hX, hK3⟩ | ⟨co3, a3, p3, l3, f3, rn', pr3, a4, t4', l4, f4, mco4, pr4, r1, r2, h1, h2, hG3, hP3, hR3⟩
      · left
        have hx := rX_nz hX
        obtain ⟨fuel, rfl⟩ : ∃ j, fuel = j + 1 := ⟨fuel - 1, by omega⟩
        obtain ⟨fuel', rfl⟩ : ∃ j, fuel' = j + 1 := ⟨fuel' - 1, by omega⟩
        rw [h1, show f_M_readAll_L108 (zI n) (zI m) h v (zI u) (zI (jzU w s n : Nat)) ac oa (zI f) (zI l) (zI bf) (zI bits) (zI dz) st ln cd dt' ot' md N N ((0 : Int32), zI rn, at2, tk, left2, fl2, mco, p1) = _ from h2]
        dsimp only [Option.bind_some]
        rw [l18x N fuel hx.1, m4x N hN hF hf hm0 hm fuel' hx.2.1]
        exact ⟨_, _, _, _, _, _, _, _, _, _, _, _, _, _, rfl, rfl, hX, hK3⟩
      · rw [h1, show f_M_readAll_L108 (zI n) (zI m) h v (zI u) (zI (jzU w s n : Nat)) ac oa (zI f) (zI l) (zI bf) (zI bits) (zI dz) st ln cd dt' ot' md N N ((0 : Int32), zI rn, at2, tk, left2, fl2, mco, p1) = _ from h2]
        dsimp only [Option.bind_some]
        have ih := q_usR N hN hD hA hF hf hK hm0 hm hq hn hTb hC hdis (K := K) (co0 := co0) hiv j (u + 1) fuel fuel' co3 mco4 pr3 pr4 a3 p3 l3 f3 a4 t4' l4 f4 rn' (by omega) (by omega) (by omega) r1 r2 (by rw [Nat.add_mul, Nat.one_mul]; exact hG3) (Or.inr ⟨by omega, hP3⟩) hR3
        rw [show u + 1 - 1 = u from rfl] at ih
        exact ih
    have eC : f_Decoder_decode_L18 (zI (jzUn w hi n s m : Nat)) (zI iv) (zI (jzBl n s m : Nat)) ow ot (zI kd) pl nco (zI bits) dt (zI dz) nb sb K vs vf vx ve (zI l) (zI f) N (fuel + 1) (zI u, co, at1, part, left, fl, zI rn, p) = f_Decoder_decode_L18b (zI (jzUn w hi n s m : Nat)) (zI iv) (zI (jzBl n s m : Nat)) ow ot (zI kd) pl nco (zI bits) dt (zI dz) nb sb K vs vf vx ve (zI l) (zI f) N (f_Decoder_decode_L18 (zI (jzUn w hi n s m : Nat)) (zI iv) (zI (jzBl n s m : Nat)) ow ot (zI kd) pl nco (zI bits) dt (zI dz) nb sb K vs vf vx ve (zI l) (zI f) N fuel) (zI u) co at1 part left fl (zI rn) p := rfl
    have eM : f_M_readAll_L4 (zI (jzU w s n : Nat)) (zI (jzU hi (s / 2) n : Nat)) (zI m) oa od (zI iv) (zI n) h v ac (zI f) (zI l) (zI bf) (zI bits) (zI dz) st ln cd dt' ot' md N (fuel' + 1) (zI ((u - 1) / iv : Nat), zI u, zI rn, at2, tk, left2, fl2, mco, p') = f_M_readAll_L4b (zI (jzU w s n : Nat)) (zI (jzU hi (s / 2) n : Nat)) (zI m) oa od (zI iv) (zI n) h v ac (zI f) (zI l) (zI bf) (zI bits) (zI dz) st ln cd dt' ot' md N (f_M_readAll_L4 (zI (jzU w s n : Nat)) (zI (jzU hi (s / 2) n : Nat)) (zI m) oa od (zI iv) (zI n) h v ac (zI f) (zI l) (zI bf) (zI bits) (zI dz) st ln cd dt' ot' md N fuel') (zI ((u - 1) / iv : Nat)) (zI u) (zI rn) at2 tk left2 fl2 mco p' := rfl
    rw [eC, eM]
    unfold f_Decoder_decode_L18b f_M_readAll_L4b
    rw [q_units N (by omega) hF hf m hm0 hm]
    dsimp only [Option.bind_some]
    rw [if_neg i1, if_neg i1, if_pos hz.1, if_pos hz.2]
    rcases q_rsA u iv (by omega) hiv with ⟨v1, v2, v3, v4, v5⟩ | ⟨nd, v4⟩
    · -- a restart
      have hdv := (div_pre v1 v2).1 v3
      rw [v4, v5]
      dsimp only [Option.bind_some]
      rw [if_neg (show ¬ zI 1 = 0 by decide), if_neg (show ¬ zI (iv : Int) ≤ 0 by rw [show (0 : Int32) = zI ((0 : Nat) : Int) from rfl, leN (by omega) (by omega)]; omega), if_neg (show ¬ zI (u : Int) ≤ 0 by rw [show (0 : Int32) = zI ((0 : Nat) : Int) from rfl, leN (by omega) (by omega)]; omega), if_neg (nzN (b := iv) (by omega) (by omega)), mdN u iv (by omega) v1 (by omega), v3, if_pos (show zI ((0 : Nat) : Int) = 0 from rfl)]
      unfold f_M_readAll_J4_44 f_Decoder_decode_J18_79
      rw [if_neg (show ¬ (1 : Int32) = 0 by decide), show (8 : Int32) = zI ((8 : Nat) : Int) from rfl, mdN _ 8 (by omega) (by omega) (by omega), show (208 : Int32) = zI ((208 : Nat) : Int) from rfl, addN, suN, hdv.1, show u / iv - 1 + 1 = u / iv by omega]
      obtain ⟨pz, fz1, fz2⟩ := q_forg N (by omega) p
      obtain ⟨le3, f3, e1, e2⟩ := q_rst N (by omega) hD hR hrn (due := 208 + (u / iv - 1) % 8) (by omega) (by omega)
      rw [e1, fz1]
      dsimp only [Option.bind_some]
      have faulty : ∀ (atc lec flc atm lem flm : Int32), rX flc flm → (∃ co3 at3 part3 left3 fl3 run3 p3 run4 at4 tk4 left4 fl4 mco4 p4, f_Decoder_decode_J18_83 N (f_Decoder_decode_L18 (zI (jzUn w hi n s m : Nat)) (zI iv) (zI (jzBl n s m : Nat)) ow ot (zI kd) pl nco (zI bits) dt (zI dz) nb sb K vs vf vx ve (zI l) (zI f) N fuel) (zI u) (zI (jzBl n s m : Nat)) ow ot (zI kd) pl nco (zI bits) dt (zI dz) nb sb K vs vf vx ve (zI l) (zI f) co atc part lec flc (zI 0) pz = some (co3, at3, part3, left3, fl3, run3, p3) ∧ f_M_readAll_J4_64 N (f_M_readAll_L4 (zI (jzU w s n : Nat)) (zI (jzU hi (s / 2) n : Nat)) (zI m) oa od (zI iv) (zI n) h v ac (zI f) (zI l) (zI bf) (zI bits) (zI dz) st ln cd dt' ot' md N fuel') (zI u) (1 : Int32) p' (zI n) (zI m) h v (zI (jzU w s n : Nat)) ac oa (zI f) (zI l) (zI bf) (zI bits) (zI dz) st ln cd dt' ot' md (zI rn) atm tk lem flm mco (zI (u / iv : Nat)) = some (run4, at4, tk4, left4, fl4, mco4, p4) ∧ rX fl3 fl4 ∧ (K = zI 0 → co3 = co0)) := by
        intro atc lec flc atm lem flm hX
        have hx := rX_nz hX
        obtain ⟨fuel, rfl⟩ : ∃ j, fuel = j + 1 := ⟨fuel - 1, by omega⟩
        obtain ⟨fuel', rfl⟩ : ∃ j, fuel' = j + 1 := ⟨fuel' - 1, by omega⟩
        obtain ⟨p1, w1⟩ := q_R67x N hN u 1 (by omega) (by omega) p'
        have m8 := m108x N hN hF hf h16 (u := zI u) (uA := zI (jzU w s n : Nat)) (f := zI f) (l := zI l) (bf := zI bf) (bits := zI bits) (size := zI dz) (run := zI rn) (at2 := atm) (tk := tk) (left := lem) (ac' := ac) (oa' := oa) (st' := st) (ln := ln) (cd := cd) (dt := dt') (ot := ot') (md := md) (mco := mco) (p := p1) hx.2.1 n 0 N (by omega) (by omega)
        obtain ⟨M, rfl⟩ : ∃ M, N = M + 1 := ⟨N - 1, by omega⟩
        unfold f_Decoder_decode_J18_83 f_Decoder_decode_J18_267 f_M_readAll_J4_64
        rw [l96x (M + 1) M hx.1, show f_M_readAll_L67 (zI u) (1 : Int32) (M + 1) (M + 1) ((0 : Int32), p') = some p1 from w1]
        dsimp only [Option.bind_some]
        rw [show f_M_readAll_L108 (zI n) (zI m) h v (zI u) (zI (jzU w s n : Nat)) ac oa (zI f) (zI l) (zI bf) (zI bits) (zI dz) st ln cd dt' ot' md (M + 1) (M + 1) ((0 : Int32), zI rn, atm, tk, lem, flm, mco, p1) = _ from m8]
        dsimp only [Option.bind_some]
        rw [l18x (M + 1) fuel hx.1, m4x (M + 1) hN hF hf hm0 hm fuel' hx.2.1]
        exact ⟨_, _, _, _, _, _, _, _, _, _, _, _, _, _, rfl, rfl, hX, rG_0 hG⟩
      rcases e2 with ⟨atm, lem, flm, nf, e3, hX⟩ | ⟨f0, at3, fl3, atm, lem, flm, e3, e4, e5⟩
      · left
        rw [if_neg nf, e3]
        dsimp only [Option.bind_some]
        exact faulty at1 le3 f3 atm lem flm hX
      · rw [if_pos f0, e3, e4]
        dsimp only [Option.bind_some]
        rcases e5 with hX | ⟨hR3, rz⟩
        · left
          exact faulty at3 le3 fl3 atm lem flm hX
        · rw [rz]
          exact tail 1 0 pz p' at3 part le3 fl3 atm tk lem flm (by omega) (by omega) (fun _ => rfl) (Or.inl ⟨Or.inr rfl, fz2⟩) hR3
    · -- none
      have ediv : (u - 1) / iv = u / iv := by
        rcases Nat.eq_zero_or_pos iv with z | z
        · rw [z, Nat.div_zero, Nat.div_zero]
        · rcases Nat.eq_zero_or_pos u with y | y
          · rw [y]
          · exact (div_pre z y).2 (fun h => nd ⟨z, y, h⟩)
      rw [v4]
      dsimp only [Option.bind_some]
      rw [if_pos (show zI 0 = 0 from rfl)]
      have eM2 : ∀ {α : Type} (X Y : Option α), (if zI (iv : Int) ≤ 0 then X else if zI (u : Int) ≤ 0 then X else if zI (iv : Int) = 0 then none else if (zI (u : Int) - zI (u : Int) / zI (iv : Int) * zI (iv : Int)) = 0 then Y else X) = X := by
        intro α X Y
        rcases Nat.eq_zero_or_pos iv with z | z
        · rw [if_pos (show zI (iv : Int) ≤ 0 by rw [z]; decide)]
        · rw [if_neg (show ¬ zI (iv : Int) ≤ 0 by rw [show (0 : Int32) = zI ((0 : Nat) : Int) from rfl, leN (by omega) (by omega)]; omega)]
          rcases Nat.eq_zero_or_pos u with y | y
          · rw [if_pos (show zI (u : Int) ≤ 0 by rw [y]; decide)]
          · have hmm : u % iv ≠ 0 := fun h => nd ⟨z, y, h⟩
            have hmu : u % iv ≤ u := Nat.mod_le _ _
            rw [if_neg (show ¬ zI (u : Int) ≤ 0 by rw [show (0 : Int32) = zI ((0 : Nat) : Int) from rfl, leN (by omega) (by omega)]; omega), if_neg (nzN (b := iv) (by omega) (by omega)), mdN u iv (by omega) z (by omega), if_neg (nzN (b := u % iv) (by omega) (by omega))]
      rw [eM2]
      unfold f_M_readAll_J4_43 f_M_readAll_J4_44
      rw [if_pos (show (0 : Int32) = 0 from rfl), ediv]
      refine tail 0 rn p p' at1 part left fl at2 tk left2 fl2 (by omega) hrn hlow ?_ hR
      rcases hP with ⟨u0, h0⟩ | ⟨u0, h0⟩
      · exact Or.inl ⟨Or.inl u0, h0⟩
      · exact Or.inr ⟨by omega, h0⟩
/-! READING: whole -/
theorem q_decR (N : Nat) (hN : 20000 ≤ N) {D : Nat → Nat} {dz nb : Nat} {sb md : Nat → Int32} (hD : rDt D dz nb sb md) {vw vs vf vx : Nat → Nat → Int32} {ve vz ln cd wd : Nat → Int32} (hA : rAll vw vs vf vx ve vz ln cd wd) {w hi n s m : Nat} {h v ac dn oa od st : Nat → Int32} (hF : okF w hi n s) (hf : isFr w hi n s n h v ac dn oa od st) {kd f l bits bf : Nat} (hK : okKR kd f l bits bf) (hm0 : 0 < m) (hm : m < 2 ^ n) {nco : Nat} (hq : 64 * jzT w hi n s n ≤ nco) (hn : nco ≤ 12288) {dt dt' ot ot' ow pl : Nat → Int32} {Dd Oo : Nat → Nat} (hTb : ∀ c, c < 4 → dt c = zI (Dd c : Nat) ∧ dt' c = zI (Dd c : Nat) ∧ ot c = zI (Oo c : Nat) ∧ ot' c = zI (Oo c : Nat) ∧ Dd c < 8 ∧ Oo c < 8) {units : Int32} (hC : rCrs w hi n s m units (zI (jzBl n s m : Nat)) ow pl) (hdis : kd = 4 → ∀ p p', p < p' → p' < jzUn w hi n s m * jzBl n s m → pl p ≠ pl p') {K : Int32} {co0 : Nat → Int32} {iv : Nat} (hiv : iv ≤ 65535) (hKK : K = zI 0 ∨ K = zI 1) {mco p p' : Nat → Int32} (hG : rG K kd (jzT w hi n s n) (jzUn w hi n s m * jzBl n s m) pl 0 co0 co0 mco) (tk : Int32) :
    ∃ fl3 co3 at3 part3 left3 run3 p3 run4 at4 tk4 left4 fl4 mco4 p4, f_Decoder_decode N K nco co0 (zI kd) (zI f) (zI l) (zI bits) (zI iv) (zI (jzUn w hi n s m : Nat)) (zI (jzBl n s m : Nat)) ow pl dt ot (zI dz) nb sb p vs vf vx ve = some (fl3, co3, at3, part3, left3, fl3, K, run3, p3) ∧ f_M_readAll N (zI n) (zI (jzU w s n : Nat)) (zI (jzU hi (s / 2) n : Nat)) (zI m) (zI f) (zI l) (zI bf) (zI bits) (zI iv) (zI dz) (0 : Int32) (0 : Int32) tk (0 : Int32) (0 : Int32) h v ac oa od st mco ln cd dt' ot' md p' = some (run4, at4, tk4, left4, fl4, mco4, p4) ∧
    (rX fl3 fl4 ∧ (K = zI 0 → co3 = co0) ∨ fl3 = 0 ∧ fl4 = 0 ∧ rG K kd (jzT w hi n s n) (jzUn w hi n s m * jzBl n s m) pl (jzUn w hi n s m * jzBl n s m) co0 co3 mco4) := by
  have hUn := jzUn_rng hF m hm0 hm
  obtain ⟨pz, fz1, fz2⟩ := q_forg N (by omega) p
  unfold f_Decoder_decode f_BitReader_begin f_M_readAll
  rw [if_pos (show K = 0 ∨ K = 1 from hKK), fz1]
  dsimp only [Option.bind_some]
  have ih := q_usR N hN hD hA hF hf hK hm0 hm hq hn hTb hC hdis (K := K) (co0 := co0) hiv (jzUn w hi n s m) 0 N N co0 mco pz p' (0 : Int32) (0 : Int32) (0 : Int32) (0 : Int32) (0 : Int32) tk (0 : Int32) (0 : Int32) 0 (by omega) (by omega) (by omega) (by omega) (fun _ => rfl) (by rw [Nat.zero_mul]; exact hG) (Or.inl ⟨rfl, fz2⟩) ⟨0, 0, 0, by omega, by omega, by omega, rfl, rfl, rfl, rfl, Or.inl rfl, rfl, rfl⟩
  rw [show (0 - 1) / iv = 0 from Nat.zero_div iv] at ih
  rcases ih with ⟨co3, a3, p3, l3, f3, run3, pr3, run4, a4, t4', l4, f4, mco4, pr4, h1, h2, hX, hK3⟩ | ⟨co3, a3, p3, l3, f3, rn', pr3, a4, t4', l4, f4, mco4, pr4, r1, r2, h1, h2, hG3, hR3⟩
  · have hx := rX_nz hX
    rw [show f_Decoder_decode_L18 (zI (jzUn w hi n s m : Nat)) (zI iv) (zI (jzBl n s m : Nat)) ow ot (zI kd) pl nco (zI bits) dt (zI dz) nb sb K vs vf vx ve (zI l) (zI f) N N ((0 : Int32), co0, (0 : Int32), (0 : Int32), (0 : Int32), (0 : Int32), zI 0, pz) = _ from h1, show f_M_readAll_L4 (zI (jzU w s n : Nat)) (zI (jzU hi (s / 2) n : Nat)) (zI m) oa od (zI iv) (zI n) h v ac (zI f) (zI l) (zI bf) (zI bits) (zI dz) st ln cd dt' ot' md N N ((0 : Int32), (0 : Int32), (0 : Int32), (0 : Int32), tk, (0 : Int32), (0 : Int32), mco, p') = _ from h2]
    dsimp only [Option.bind_some]
    unfold f_Decoder_decode_J273 f_Decoder_decode_J287 f_Decoder_decode_J304 f_M_readAll_J171
    rw [if_neg hx.1, if_neg hx.1, if_neg hx.2.1]
    exact ⟨_, _, _, _, _, _, _, _, _, _, _, _, _, _, rfl, rfl, Or.inl ⟨hX, hK3⟩⟩
  · have hz3 := rR_z hR3
    rw [show f_Decoder_decode_L18 (zI (jzUn w hi n s m : Nat)) (zI iv) (zI (jzBl n s m : Nat)) ow ot (zI kd) pl nco (zI bits) dt (zI dz) nb sb K vs vf vx ve (zI l) (zI f) N N ((0 : Int32), co0, (0 : Int32), (0 : Int32), (0 : Int32), (0 : Int32), zI 0, pz) = _ from h1, show f_M_readAll_L4 (zI (jzU w s n : Nat)) (zI (jzU hi (s / 2) n : Nat)) (zI m) oa od (zI iv) (zI n) h v ac (zI f) (zI l) (zI bf) (zI bits) (zI dz) st ln cd dt' ot' md N N ((0 : Int32), (0 : Int32), (0 : Int32), (0 : Int32), tk, (0 : Int32), (0 : Int32), mco, p') = _ from h2]
    dsimp only [Option.bind_some]
    obtain ⟨le5, f5, e1, e2⟩ := q_end N (by omega) hD hR3 r1
    unfold f_Decoder_decode_J273 f_Decoder_decode_J287 f_Decoder_decode_J304 f_M_readAll_J171
    rw [if_pos hz3.1, if_pos hz3.2, e1]
    dsimp only [Option.bind_some]
    rcases e2 with ⟨atm, lem, flm, nf, e3, hX⟩ | ⟨f0, fl3, atm, lem, flm, e3, e4, e5⟩
    · rw [if_neg nf, e3]
      exact ⟨_, _, _, _, _, _, _, _, _, _, _, _, _, _, rfl, rfl, Or.inl ⟨hX, rG_0 hG3⟩⟩
    · rw [if_pos f0, e3, e4]
      dsimp only [Option.bind_some]
      refine ⟨_, _, _, _, _, _, _, _, _, _, _, _, _, _, rfl, rfl, ?_⟩
      rcases e5 with hX | ⟨z3, z4⟩
      · exact Or.inl ⟨hX, rG_0 hG3⟩
      · exact Or.inr ⟨z3, z4, hG3⟩
theorem q_M7 (N : Nat) (hN : 20000 ≤ N) (mco b0 : Nat → Int32) : ∃ z, f_M_read_L7 mco N N ((0 : Int32), b0) = some z ∧ ∀ i, i < 12288 → z i = vp_nar .short (mco i) := by
  refine it_cnt (P := fun c (a : Int32 × (Nat → Int32)) => a.1 = zI c ∧ ∀ i, i < c → a.2 i = vp_nar .short (mco i)) (R := fun (z : Nat → Int32) => ∀ i, i < 12288 → z i = vp_nar .short (mco i)) 12288 ?_ ?_ N 0 _ ⟨rfl, fun i h => absurd h (by omega)⟩ (by omega) (by omega)
  · rintro g c ⟨a, d⟩ hc ⟨q1, q2⟩ ih
    dsimp only at q1 q2
    subst q1
    have gc := inN c 12288 hc (by omega)
    unfold f_M_read_L7b
    dsimp only
    rw [if_neg (show ¬ (12288 : Int32) ≤ zI (c : Int) by rw [show (12288 : Int32) = zI ((12288 : Nat) : Int) from rfl, leN (by omega) (by omega)]; omega), clN c (by omega), if_neg gc, if_neg gc, suN]
    refine ih _ ⟨rfl, fun i hi => ?_⟩
    dsimp only
    by_cases e : i = c
    · subst e; rw [upd_at]
    · rw [upd_ne e]; exact q2 i (by omega)
  · rintro g ⟨a, d⟩ ⟨q1, q2⟩
    dsimp only at q1 q2
    subst q1
    unfold f_M_read_L7b
    dsimp only
    rw [if_pos (show (12288 : Int32) ≤ zI ((12288 : Nat) : Int) by rw [show (12288 : Int32) = zI ((12288 : Nat) : Int) from rfl, leN (by omega) (by omega)]; omega)]
    exact ⟨_, rfl, q2⟩
theorem q_M58 (N : Nat) (hN : 20000 ≤ N) {fl : Int32} (hx : ¬ fl ≤ 0) (b0 mco : Nat → Int32) : ∃ z, f_M_read_L58 fl b0 N N ((0 : Int32), mco) = some z ∧ ∀ i, i < 12288 → z i = vp_nar .short (b0 i) := by
  refine it_cnt (P := fun c (a : Int32 × (Nat → Int32)) => a.1 = zI c ∧ ∀ i, i < c → a.2 i = vp_nar .short (b0 i)) (R := fun (z : Nat → Int32) => ∀ i, i < 12288 → z i = vp_nar .short (b0 i)) 12288 ?_ ?_ N 0 _ ⟨rfl, fun i h => absurd h (by omega)⟩ (by omega) (by omega)
  · rintro g c ⟨a, d⟩ hc ⟨q1, q2⟩ ih
    dsimp only at q1 q2
    subst q1
    have gc := inN c 12288 hc (by omega)
    unfold f_M_read_L58b
    dsimp only
    rw [if_neg (show ¬ (12288 : Int32) ≤ zI (c : Int) by rw [show (12288 : Int32) = zI ((12288 : Nat) : Int) from rfl, leN (by omega) (by omega)]; omega), if_neg hx, clN c (by omega), if_neg gc, if_neg gc, suN]
    refine ih _ ⟨rfl, fun i hi => ?_⟩
    dsimp only
    by_cases e : i = c
    · subst e; rw [upd_at]
    · rw [upd_ne e]; exact q2 i (by omega)
  · rintro g ⟨a, d⟩ ⟨q1, q2⟩
    dsimp only at q1 q2
    subst q1
    unfold f_M_read_L58b
    dsimp only
    rw [if_pos (show (12288 : Int32) ≤ zI ((12288 : Nat) : Int) by rw [show (12288 : Int32) = zI ((12288 : Nat) : Int) from rfl, leN (by omega) (by omega)]; omega)]
    exact ⟨_, rfl, q2⟩
theorem m58z (N fuel : Nat) {fl : Int32} (hx : fl ≤ 0) (b0 mco : Nat → Int32) (k : Int32) : f_M_read_L58 fl b0 N (fuel + 1) (k, mco) = some mco := by
  unfold f_M_read_L58
  rw [it_succ]
  unfold f_M_read_L58b
  dsimp only
  by_cases c : (12288 : Int32) ≤ k
  · rw [if_pos c]
  · rw [if_neg c, if_pos hx]
set_option maxHeartbeats 1000000 in
theorem q_read (N : Nat) (hN : 20000 ≤ N) {many uA uD bk : Int32} {h v ac dn oa od st : Nat → Int32} {nco : Nat} {co : Nat → Int32} {kind first last bits units bl iv : Int32} {ow pl dt ot : Nat → Int32} {many' uA' uD' mask first' last' before' bits' iv' : Int32} {h' v' ac' dn' oa' od' st' co' dt' ot' ln cd : Nat → Int32} {vw vs vf vx : Nat → Nat → Int32} {ve vz wd : Nat → Int32} {len len' : Int32} {nb : Nat} {sb md : Nat → Int32} (H : rFS many uA uD bk h v ac dn oa od st nco co kind first last bits units bl ow pl many' uA' uD' mask first' last' before' bits' h' v' ac' dn' oa' od' st' co') (hT : rTabs dt ot dt' ot') (hI : rIv iv iv') (hA : rAll vw vs vf vx ve vz ln cd wd) (hd : rData len nb sb len' md) (p p' b0 : Nat → Int32) (tk : Int32) :
    ∃ fl co1 at1 part1 left1 k1 run1 p1 run2 at2 tk2 left2 co2 b2 p2, f_SC_read N nco co kind first last bits iv units bl ow pl dt ot len nb sb p vs vf vx ve = some (fl, co1, at1, part1, left1, fl, k1, run1, p1) ∧ f_M_read N many' uA' uD' mask first' last' before' bits' iv' len' tk h' v' ac' oa' od' st' co' b0 ln cd dt' ot' md p' = some (fl, (0 : Int32), run2, at2, tk2, left2, fl, co2, b2, p2) ∧ rFS many uA uD bk h v ac dn oa od st nco co1 kind first last bits units bl ow pl many' uA' uD' mask first' last' before' bits' h' v' ac' dn' oa' od' st' co2 := by
  obtain ⟨w, hi, n, s, m, kd, f, l, b, bf, ⟨hF, ⟨rfl, rfl, rfl, rfl⟩, hfr, ⟨hn1, hn2, hn3⟩, ⟨rfl, rfl, rfl⟩, hfr', hC⟩, ⟨hS, ⟨rfl, rfl, rfl, rfl⟩, hCr, ⟨rfl, rfl, rfl, rfl, rfl⟩⟩⟩ := H
  obtain ⟨hi1, i0, i1⟩ := hI
  subst hi1
  obtain ⟨ivn, hivn, rfl⟩ : ∃ iw : Nat, iw ≤ 65535 ∧ iv' = zI (iw : Nat) := ⟨iv'.toInt.toNat, by omega, by rw [Int.toNat_of_nonneg i0]; exact zI_of _⟩
  clear i0 i1
  obtain ⟨Dt, sz, rfl, rfl, hD⟩ := dt_of hd
  obtain ⟨Dd, Oo, hTb⟩ := tb_of hT
  have hCr' := hCr
  obtain ⟨rfl, rfl, hcr3⟩ := hCr
  obtain ⟨hm0, hm, hb9, hkk⟩ := hS
  have hK : okKR kd f l b bf := ⟨hb9, by omega⟩
  have hB := hF.2.2.2.2
  have hdis : kd = 4 → ∀ p p', p < p' → p' < jzUn w hi n s m * jzBl n s m → pl p ≠ pl p' := fun k4 => pos_dis hF hm0 hm hCr' (by omega)
  have hmul := pos_mul hF hm0 hm hCr'
  have rg : ∀ i, i < 64 * jzT w hi n s n → ∃ z, co' i = zI z ∧ okC i z := fun i hi => by
    obtain ⟨c1, z, c2, c3⟩ := hC i hi
    exact ⟨z, by rw [← c1]; exact c2, c3⟩
  have hG0 : rG (zI 0) kd (jzT w hi n s n) (jzUn w hi n s m * jzBl n s m) pl 0 co co co' := by
    refine ⟨rg, Or.inl ⟨rfl, rfl, fun _ q _ q2 i hi => ?_⟩⟩
    obtain ⟨u, c, j, u1, u2, u3, rfl⟩ := pos_un q2
    obtain ⟨-, -, h4, h5⟩ := pos_of hF hm0 hm hCr' u1 u2 u3
    rw [h4, clN _ (by omega)]
    exact (hC _ (by omega)).1
  have hG1 : rG (zI 1) kd (jzT w hi n s n) (jzUn w hi n s m * jzBl n s m) pl 0 co co co' := ⟨rg, Or.inr ⟨rfl, fun i hi => (hC i hi).1⟩⟩
  obtain ⟨c0, cp1, cp2⟩ := q_M7 N hN co' b0
  obtain ⟨fl3, co3, at3, part3, left3, run3, p3, run4, at4, tk4, left4, fl4, mco4, p4, d1, d2, d3⟩ := q_decR N hN hD hA hF hfr' hK hm0 hm hn1 hn3 hTb hCr' hdis (K := zI 0) (co0 := co) hivn (Or.inl rfl) (p := p) (p' := p') hG0 tk
  unfold f_SC_read f_M_read
  rw [cp1, show f_Decoder_decode N (0 : Int32) nco co (zI kd) (zI f) (zI l) (zI b) (zI ivn) (zI (jzUn w hi n s m : Nat)) (zI (jzBl n s m : Nat)) ow pl dt ot (zI sz) nb sb p vs vf vx ve = _ from d1]
  dsimp only [Option.bind_some]
  rw [d2]
  dsimp only [Option.bind_some]
  rcases d3 with ⟨hX, hK0⟩ | ⟨rfl, rfl, hG3⟩
  · have hx := rX_nz hX
    obtain ⟨c5, cq1, cq2⟩ := q_M58 N hN hx.2.2.1 c0 mco4
    have e5 : ∀ i, i < 64 * jzT w hi n s n → c5 i = co' i := fun i hi => by
      obtain ⟨z, z1, z2⟩ := rg i hi
      have zr := okC_rng z2
      rw [cq2 i (by omega), cp2 i (by omega), z1, zI_shortN (by omega) (by omega), zI_shortN (by omega) (by omega)]
    rw [if_neg hx.1, cq1]
    dsimp only [Option.bind_some]
    obtain ⟨ff, -, -, rfl, rfl⟩ := hX
    have ec : co3 = co := hK0 rfl
    subst ec
    unfold f_M_read_J90
    refine ⟨_, _, _, _, _, _, _, _, _, _, _, _, _, _, _, rfl, rfl, ⟨w, hi, n, s, m, kd, f, l, b, bf, ⟨hF, ⟨rfl, rfl, rfl, rfl⟩, hfr, ⟨hn1, hn2, hn3⟩, ⟨rfl, rfl, rfl⟩, hfr', fun i hi => ?_⟩, ⟨⟨hm0, hm, hb9, hkk⟩, ⟨rfl, rfl, rfl, rfl⟩, hCr', ⟨rfl, rfl, rfl, rfl, rfl⟩⟩⟩⟩
    obtain ⟨c1, c2⟩ := hC i hi
    exact ⟨by rw [e5 i hi]; exact c1, c2⟩
  · have ec : co3 = co := rG_0 hG3 rfl
    subst ec
    obtain ⟨fl5, co5, at5, part5, left5, run5, p5, run6, at6, tk6, left6, fl6, mco6, p6, s1, s2, s3⟩ := q_decR N hN hD hA hF hfr' hK hm0 hm hn1 hn3 hTb hCr' hdis (K := zI 1) (co0 := co3) hivn (Or.inr rfl) (p := p3) (p' := p') hG1 tk
    rw [d2] at s2
    have es := Option.some.inj s2
    have ef : (0 : Int32) = fl6 := congrArg (fun x => x.2.2.2.2.1) es
    have em : mco4 = mco6 := congrArg (fun x => x.2.2.2.2.2.1) es
    subst ef em
    have hz5 : fl5 = 0 ∧ ∀ i, i < 64 * jzT w hi n s n → co5 i = mco4 i ∧ ∃ z, co5 i = zI z ∧ okC i z := by
      rcases s3 with ⟨hX, -⟩ | ⟨g1, g2, g3⟩
      · exact absurd rfl (rX_nz hX).2.1
      · refine ⟨g1, fun i hi => ?_⟩
        obtain ⟨z, z1, z2⟩ := g3.1 i hi
        rcases g3.2 with ⟨g4, _⟩ | ⟨_, g4⟩
        · exact absurd g4 (by decide)
        · exact ⟨g4 i hi, z, by rw [g4 i hi]; exact z1, z2⟩
    obtain ⟨rfl, hC5⟩ := hz5
    rw [if_pos (show (0 : Int32) = 0 from rfl), show f_Decoder_decode N (1 : Int32) nco co3 (zI kd) (zI f) (zI l) (zI b) (zI ivn) (zI (jzUn w hi n s m : Nat)) (zI (jzBl n s m : Nat)) ow pl dt ot (zI sz) nb sb p3 vs vf vx ve = _ from s1]
    have e58 : f_M_read_L58 (0 : Int32) c0 N N ((0 : Int32), mco4) = some mco4 := by
      obtain ⟨M, rfl⟩ : ∃ M, N = M + 1 := ⟨N - 1, by omega⟩
      exact m58z (M + 1) M (by decide) c0 mco4 (0 : Int32)
    rw [e58]
    dsimp only [Option.bind_some]
    unfold f_M_read_J90
    exact ⟨_, _, _, _, _, _, _, _, _, _, _, _, _, _, _, rfl, rfl, ⟨w, hi, n, s, m, kd, f, l, b, bf, ⟨hF, ⟨rfl, rfl, rfl, rfl⟩, hfr, ⟨hn1, hn2, hn3⟩, ⟨rfl, rfl, rfl⟩, hfr', hC5⟩, ⟨⟨hm0, hm, hb9, hkk⟩, ⟨rfl, rfl, rfl, rfl⟩, hCr', ⟨rfl, rfl, rfl, rfl, rfl⟩⟩⟩⟩
