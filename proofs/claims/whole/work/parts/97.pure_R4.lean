/-! READING: coefficients over many blocks -/
def rG (K : Int32) (kd B tot : Nat) (pl : Nat → Int32) (pos : Nat) (co0 co mco : Nat → Int32) : Prop :=
  (∀ i, i < 64 * B → ∃ z, mco i = zI z ∧ okC i z) ∧
  ((K = zI 0 ∧ co = co0 ∧ (kd = 4 → ∀ p, pos ≤ p → p < tot → ∀ i, i < 64 → co ((pl p).toNatClampNeg + i) = mco ((pl p).toNatClampNeg + i))) ∨ (K = zI 1 ∧ ∀ i, i < 64 * B → co i = mco i))
theorem rG_0 {K : Int32} {kd B tot : Nat} {pl : Nat → Int32} {pos : Nat} {co0 co mco : Nat → Int32} (h : rG K kd B tot pl pos co0 co mco) (hK : K = zI 0) : co = co0 := by
  rcases h.2 with ⟨_, h, _⟩ | ⟨h, _⟩
  · exact h
  · rw [hK] at h; exact absurd h (by decide)
theorem okC_sh {x i : Nat} (hi : i < 64) {z : Int} : okC (64 * x + i) z ↔ okC i z := by
  unfold okC
  rw [show (64 * x + i) % 64 = i % 64 by omega]
theorem rG_in {K : Int32} {kd B tot : Nat} {pl : Nat → Int32} {pos : Nat} {co0 co mco : Nat → Int32} (h : rG K kd B tot pl pos co0 co mco) {q x : Nat} (hp : pl pos = zI (q : Nat)) (hx : q = 64 * x) (hq : q + 64 ≤ 64 * B) (hB : B ≤ 192) (ht : pos < tot) : rB K q (if kd = 4 then 1 else 64) co mco co mco := by
  obtain ⟨h1, h2⟩ := h
  refine ⟨fun i _ => rfl, fun i i1 i2 => ?_, fun i hi => ?_, ?_⟩
  · by_cases k4 : kd = 4
    · rcases h2 with ⟨_, _, h3⟩ | ⟨_, h3⟩
      · have := h3 k4 pos (by omega) ht i i2
        rw [hp, clN q (by omega)] at this
        exact this
      · exact h3 (q + i) (by omega)
    · rw [if_neg k4] at i1; omega
  · obtain ⟨z, z1, z2⟩ := h1 (q + i) (by omega)
    rw [hx, okC_sh hi] at z2
    exact ⟨z, z1, z2⟩
  · rcases h2 with ⟨h3, _⟩ | ⟨h3, h4⟩
    · exact Or.inl ⟨h3, rfl⟩
    · exact Or.inr ⟨h3, fun i _ => rfl, fun i hi => h4 (q + i) (by omega)⟩
theorem rG_out {K : Int32} {kd B tot : Nat} {pl : Nat → Int32} {pos : Nat} {co0 co mco co3 mco4 : Nat → Int32} (h : rG K kd B tot pl pos co0 co mco) {q x : Nat} (hp : pl pos = zI (q : Nat)) (hx : q = 64 * x) (hq : q + 64 ≤ 64 * B) (hB : B ≤ 192) (hmul : ∀ p, p < tot → ∃ y, pl p = zI (64 * y : Nat) ∧ y < 192) (hdis : kd = 4 → ∀ p p', p < p' → p' < tot → pl p ≠ pl p') (hb : rB K q 64 co mco co3 mco4) : rG K kd B tot pl (pos + 1) co0 co3 mco4 := by
  obtain ⟨h1, h2⟩ := h
  obtain ⟨b1, b2, b3, b4⟩ := hb
  refine ⟨fun i hi => ?_, ?_⟩
  · by_cases c : i < q ∨ q + 64 ≤ i
    · rw [b1 i c]; exact h1 i hi
    · obtain ⟨z, z1, z2⟩ := b3 (i - q) (by omega)
      have z3 := (okC_sh (x := x) (show i - q < 64 by omega)).mpr z2
      rw [show q + (i - q) = i by omega] at z1
      rw [show 64 * x + (i - q) = i by omega] at z3
      exact ⟨z, z1, z3⟩
  · rcases h2 with ⟨h3, h4, h5⟩ | ⟨h3, h4⟩
    · rcases b4 with ⟨b5, b6⟩ | ⟨b5, _⟩
      · refine Or.inl ⟨h3, by rw [b6, h4], fun k4 p p1 p2 i hi => ?_⟩
        obtain ⟨y, y1, y2⟩ := hmul p p2
        have hne := hdis k4 pos p (by omega) p2
        have hyx : y ≠ x := fun e => hne (by rw [hp, y1, hx, e])
        have h6 := h5 k4 p (by omega) p2 i hi
        rw [y1, clN _ (by omega)] at h6 ⊢
        rw [b6, b1 (64 * y + i) (by omega)]
        exact h6
      · rw [h3] at b5; exact absurd b5 (by decide)
    · rcases b4 with ⟨b5, _⟩ | ⟨b5, b6, b7⟩
      · rw [h3] at b5; exact absurd b5 (by decide)
      · refine Or.inr ⟨h3, fun i hi => ?_⟩
        by_cases c : i < q ∨ q + 64 ≤ i
        · rw [b6 i c, b1 i c]; exact h4 i hi
        · have := b7 (i - q) (by omega)
          rw [show q + (i - q) = i by omega] at this
          exact this
/-- where a component's blocks begin in a unit -/
def jzOf (m s c : Nat) : Nat := ((List.range c).map (jzBI m s)).sum
theorem jzOf_1 (m s c : Nat) : jzOf m s (c + 1) = jzOf m s c + jzBI m s c := by
  unfold jzOf
  rw [List.range_succ, List.map_append, List.sum_append]
  simp
theorem jzOf_mono (m s : Nat) {c d : Nat} (h : c ≤ d) : jzOf m s c ≤ jzOf m s d := by
  induction h with
  | refl => exact Nat.le_refl _
  | step _ ih => rw [jzOf_1]; omega
theorem UL_at (w n s m u : Nat) : ∀ (k c j : Nat), c < k → j < jzBI m s c → (jzUL w n s m u k)[jzOf m s c + j]? = some (c, jzBO w n s m c u j)
  | 0, c, j, hc, _ => absurd hc (by omega)
  | k + 1, c, j, hc, hj => by
    have e : jzUL w n s m u (k + 1) = jzUL w n s m u k ++ (List.range (jzBI m s k)).map fun j => (k, jzBO w n s m k u j) := by
      unfold jzUL
      rw [List.range_succ, List.flatMap_append]
      simp
    have hl : (jzUL w n s m u k).length = jzOf m s k := UL_len w n s m u k
    rw [e]
    by_cases ck : c < k
    · have h1 := jzOf_mono m s (show c + 1 ≤ k by omega)
      rw [jzOf_1] at h1
      rw [List.getElem?_append_left (by omega)]
      exact UL_at w n s m u k c j ck hj
    · have ec : c = k := by omega
      subst ec
      rw [List.getElem?_append_right (by omega), hl, show jzOf m s c + j - jzOf m s c = j by omega]
      simp [hj]
theorem jzOf_n (n s m : Nat) : jzOf m s n = jzBl n s m := rfl
/-- a place in the order: unit u, component c, block j of it -/
theorem pos_of {w hi n s : Nat} (hF : okF w hi n s) {m : Nat} (hm0 : 0 < m) (hm : m < 2 ^ n) {units bl : Int32} {ow pl : Nat → Int32} (hC : rCrs w hi n s m units bl ow pl) {u c j : Nat} (hu : u < jzUn w hi n s m) (hc : c < n) (hj : j < jzBI m s c) :
    u * jzBl n s m + (jzOf m s c + j) < jzUn w hi n s m * jzBl n s m ∧ ow (u * jzBl n s m + (jzOf m s c + j)) = zI (c : Nat) ∧ pl (u * jzBl n s m + (jzOf m s c + j)) = zI (64 * (jzT w hi n s c + jzBO w n s m c u j) : Nat) ∧ 64 * (jzT w hi n s c + jzBO w n s m c u j) + 64 ≤ 64 * jzT w hi n s n := by
  have ha := UL_at w n s m u n c j hc hj
  have hq := UL_in hF hm0 hm hu (List.mem_of_getElem? ha)
  have hT := jzT_le hF hc
  have h1 := jzOf_mono m s (show c + 1 ≤ n by omega)
  rw [jzOf_1, jzOf_n n s m] at h1
  have h2 : (u + 1) * jzBl n s m ≤ jzUn w hi n s m * jzBl n s m := Nat.mul_le_mul_right _ hu
  rw [Nat.add_mul, Nat.one_mul] at h2
  have h3 := hC.2.2 u (jzOf m s c + j) _ hu ha
  obtain ⟨_, _, hq3⟩ := hq
  dsimp only at hq3 h3
  exact ⟨by omega, h3.1, h3.2, by omega⟩
/-- every place of the order is one of these -/
theorem pos_ex (m s : Nat) : ∀ (n i : Nat), i < jzOf m s n → ∃ c j, c < n ∧ j < jzBI m s c ∧ i = jzOf m s c + j
  | 0, i, h => absurd h (Nat.not_lt_zero _)
  | n + 1, i, h => by
    rw [jzOf_1] at h
    by_cases c : i < jzOf m s n
    · obtain ⟨c, j, h1, h2, h3⟩ := pos_ex m s n i c
      exact ⟨c, j, by omega, h2, h3⟩
    · exact ⟨n, i - jzOf m s n, by omega, by omega, by omega⟩
theorem pos_un {w hi n s : Nat} {m p : Nat} (h : p < jzUn w hi n s m * jzBl n s m) : ∃ u c j, u < jzUn w hi n s m ∧ c < n ∧ j < jzBI m s c ∧ p = u * jzBl n s m + (jzOf m s c + j) := by
  have hb : 0 < jzBl n s m := by
    rcases Nat.eq_zero_or_pos (jzBl n s m) with e | e
    · rw [e, Nat.mul_zero] at h; exact absurd h (Nat.not_lt_zero _)
    · exact e
  obtain ⟨c, j, h1, h2, h3⟩ := pos_ex m s n (p % jzBl n s m) (by rw [jzOf_n]; exact Nat.mod_lt _ hb)
  refine ⟨p / jzBl n s m, c, j, Nat.div_lt_of_lt_mul (by rw [Nat.mul_comm]; exact h), h1, h2, ?_⟩
  rw [← h3, Nat.mul_comm]
  exact (Nat.div_add_mod p (jzBl n s m)).symm
theorem pos_mul {w hi n s : Nat} (hF : okF w hi n s) {m : Nat} (hm0 : 0 < m) (hm : m < 2 ^ n) {units bl : Int32} {ow pl : Nat → Int32} (hC : rCrs w hi n s m units bl ow pl) : ∀ p, p < jzUn w hi n s m * jzBl n s m → ∃ y, pl p = zI (64 * y : Nat) ∧ y < 192 := by
  intro p hp
  obtain ⟨u, c, j, h1, h2, h3, rfl⟩ := pos_un hp
  obtain ⟨-, -, h4, h5⟩ := pos_of hF hm0 hm hC h1 h2 h3
  have hB := hF.2.2.2.2
  exact ⟨_, h4, by omega⟩
/-- one component alone: its blocks differ -/
theorem pos_dis {w hi n s : Nat} (hF : okF w hi n s) {m : Nat} (hm0 : 0 < m) (hm : m < 2 ^ n) {units bl : Int32} {ow pl : Nat → Int32} (hC : rCrs w hi n s m units bl ow pl) (h1 : jzN m = 1) : ∀ p p', p < p' → p' < jzUn w hi n s m * jzBl n s m → pl p ≠ pl p' := by
  intro p p' hpp hp' he
  have h16 := m_lt16 hF.2.2.1.2 hm
  obtain ⟨c0, c1, rfl⟩ := jzN_1 m h16 h1
  have hc0 := c0_lt hm
  have hB1 := jzBl_1 n s c0 hc0 hF.2.2.1.2 h1
  obtain ⟨u, c, j, u1, u2, u3, u4⟩ := pos_un (show p < jzUn w hi n s (2 ^ c0) * jzBl n s (2 ^ c0) by omega)
  obtain ⟨u', c', j', v1, v2, v3, v4⟩ := pos_un hp'
  have ci : ∀ c j, c < n → j < jzBI (2 ^ c0) s c → c = c0 ∧ j = 0 := by
    intro c j hc hj
    unfold jzBI at hj
    rw [jzK_p c0 c1 c (by have := hF.2.2.1; omega), h1] at hj
    by_cases e : c = c0
    · rw [if_pos e, if_neg (by omega), if_pos rfl] at hj
      exact ⟨e, by omega⟩
    · rw [if_neg e, if_pos rfl] at hj; omega
  obtain ⟨rfl, rfl⟩ := ci c j u2 u3
  obtain ⟨rfl, rfl⟩ := ci c' j' v2 v3
  obtain ⟨-, -, q1, q2⟩ := pos_of hF hm0 hm hC u1 u2 u3
  obtain ⟨-, -, q3, q4⟩ := pos_of hF hm0 hm hC v1 v2 v3
  have hB := hF.2.2.2.2
  rw [u4, v4, q1, q3, eqN (by omega) (by omega)] at he
  have hBO : jzBO w n s (2 ^ c') c' u 0 = jzBO w n s (2 ^ c') c' u' 0 := by omega
  unfold jzBO at hBO
  rw [if_pos h1, if_pos h1] at hBO
  have l4 := jzOA hF u2
  obtain ⟨O, hO⟩ : ∃ O, O = jzO w (jzH s c') (jzM s n) := ⟨_, rfl⟩
  obtain ⟨A, hA⟩ : ∃ A, A = jzA w n s c' := ⟨_, rfl⟩
  rw [← hO, ← hA] at hBO l4
  rw [hB1] at u4 v4
  have hne : u ≠ u' := fun e => by subst e; omega
  have m1 : u % O < A := Nat.lt_of_lt_of_le (Nat.mod_lt _ (by omega)) l4.2
  have m2 : u' % O < A := Nat.lt_of_lt_of_le (Nat.mod_lt _ (by omega)) l4.2
  have d1 : u / O = u' / O := by
    have e1 : (u / O * A + u % O) / A = u / O := by rw [Nat.mul_comm, Nat.mul_add_div (by omega), Nat.div_eq_of_lt m1, Nat.add_zero]
    have e2 : (u' / O * A + u' % O) / A = u' / O := by rw [Nat.mul_comm, Nat.mul_add_div (by omega), Nat.div_eq_of_lt m2, Nat.add_zero]
    rw [← e1, ← e2, hBO]
  have d2 : u % O = u' % O := by rw [d1] at hBO; omega
  exact hne (by rw [← Nat.div_add_mod u O, ← Nat.div_add_mod u' O, d1, d2])
/-! READING: the blocks of a unit -/
theorem l96x (N fuel : Nat) {v3 bl kind bits size K l f pos at1 part left fl run : Int32} {nco nb : Nat} {ow ot pl dt sb co p : Nat → Int32} {vs vf vx : Nat → Nat → Int32} {ve : Nat → Int32} (hr : ¬ fl = 0) : f_Decoder_decode_L96 v3 bl ow ot kind pl nco bits dt size nb sb K vs vf vx ve l f N (fuel + 1) (pos, co, at1, part, left, fl, run, p) = some (co, at1, part, left, fl, run, p) := by
  show f_Decoder_decode_L96b _ _ _ _ _ _ _ _ _ _ _ _ _ _ _ _ _ _ _ N (f_Decoder_decode_L96 _ _ _ _ _ _ _ _ _ _ _ _ _ _ _ _ _ _ _ N fuel) _ _ _ _ _ _ _ _ = _
  unfold f_Decoder_decode_L96b
  by_cases c1 : v3 + bl ≤ pos
  · rw [if_pos c1]
  · rw [if_neg c1, if_neg hr]
theorem m120x (N : Nat) (hN : 20000 ≤ N) {w hi n s : Nat} {h v ac dn oa od st : Nat → Int32} (hF : okF w hi n s) (hf : isFr w hi n s n h v ac dn oa od st) {m c : Nat} (hm : m < 16) (hc : c < n) (fuel : Nat) {u uA f l bf bits size j run at2 tk left fl : Int32} {ac' oa' st' ln cd dt ot md mco p : Nat → Int32} (hr : ¬ fl = 0) : f_M_readAll_L120 (zI c) (zI m) h v u uA ac' oa' f l bf bits size st' ln cd dt ot md N (fuel + 1) (j, run, at2, tk, left, fl, mco, p) = some (run, at2, tk, left, fl, mco, p) := by
  show f_M_readAll_L120b _ _ _ _ _ _ _ _ _ _ _ _ _ _ _ _ _ _ _ N (f_M_readAll_L120 _ _ _ _ _ _ _ _ _ _ _ _ _ _ _ _ _ _ _ N fuel) _ _ _ _ _ _ _ _ = _
  unfold f_M_readAll_L120b
  rw [q_blocksIn N hN hF hf m c hm hc]
  dsimp only [Option.bind_some]
  by_cases c1 : zI (jzBI m s c : Nat) ≤ j
  · rw [if_pos c1]
  · rw [if_neg c1, if_neg hr]
theorem m108x (N : Nat) (hN : 20000 ≤ N) {w hi n s : Nat} {h v ac dn oa od st : Nat → Int32} (hF : okF w hi n s) (hf : isFr w hi n s n h v ac dn oa od st) {m : Nat} (hm : m < 16) {u uA f l bf bits size run at2 tk left fl : Int32} {ac' oa' st' ln cd dt ot md mco p : Nat → Int32} (hr : ¬ fl = 0) : ∀ (k c fuel : Nat), c + k = n → k < fuel → f_M_readAll_L108 (zI n) (zI m) h v u uA ac' oa' f l bf bits size st' ln cd dt ot md N fuel (zI c, run, at2, tk, left, fl, mco, p) = some (run, at2, tk, left, fl, mco, p)
  | 0, c, fuel, hk, hfu => by
    have hn4 := hF.2.2.1
    obtain ⟨fuel, rfl⟩ : ∃ j, fuel = j + 1 := ⟨fuel - 1, by omega⟩
    show f_M_readAll_L108b _ _ _ _ _ _ _ _ _ _ _ _ _ _ _ _ _ _ _ N (f_M_readAll_L108 _ _ _ _ _ _ _ _ _ _ _ _ _ _ _ _ _ _ _ N fuel) _ _ _ _ _ _ _ _ = _
    unfold f_M_readAll_L108b
    rw [if_pos (by rw [leN (by omega) (by omega)]; omega)]
  | k + 1, c, fuel, hk, hfu => by
    have hn4 := hF.2.2.1
    obtain ⟨fuel, rfl⟩ : ∃ j, fuel = j + 1 := ⟨fuel - 1, by omega⟩
    obtain ⟨M, rfl⟩ : ∃ M, N = M + 1 := ⟨N - 1, by omega⟩
    have ih := m108x (M + 1) hN hF hf hm (u := u) (uA := uA) (f := f) (l := l) (bf := bf) (bits := bits) (size := size) (run := run) (at2 := at2) (tk := tk) (left := left) (ac' := ac') (oa' := oa') (st' := st') (ln := ln) (cd := cd) (dt := dt) (ot := ot) (md := md) (mco := mco) (p := p) hr k (c + 1) fuel (by omega) (by omega)
    show f_M_readAll_L108b _ _ _ _ _ _ _ _ _ _ _ _ _ _ _ _ _ _ _ (M + 1) (f_M_readAll_L108 _ _ _ _ _ _ _ _ _ _ _ _ _ _ _ _ _ _ _ (M + 1) fuel) _ _ _ _ _ _ _ _ = _
    unfold f_M_readAll_L108b f_M_readAll_J108_159
    rw [if_neg (by rw [leN (by omega) (by omega)]; omega), m120x (M + 1) hN hF hf hm (by omega) M hr]
    dsimp only [Option.bind_some]
    rw [suN]
    exact ih
theorem q_jsR (N : Nat) (hN : 20000 ≤ N) {D : Nat → Nat} {dz nb : Nat} {sb md : Nat → Int32} (hD : rDt D dz nb sb md) {vw vs vf vx : Nat → Nat → Int32} {ve vz ln cd wd : Nat → Int32} (hA : rAll vw vs vf vx ve vz ln cd wd) {w hi n s m : Nat} {h v ac dn oa od st : Nat → Int32} (hF : okF w hi n s) (hf : isFr w hi n s n h v ac dn oa od st) {kd f l bits bf : Nat} (hK : okKR kd f l bits bf) (hm0 : 0 < m) (hm : m < 2 ^ n) {nco : Nat} (hq : 64 * jzT w hi n s n ≤ nco) (hn : nco ≤ 12288) {dt dt' ot ot' ow pl : Nat → Int32} {Dd Oo : Nat → Nat} (hTb : ∀ c, c < 4 → dt c = zI (Dd c : Nat) ∧ dt' c = zI (Dd c : Nat) ∧ ot c = zI (Oo c : Nat) ∧ ot' c = zI (Oo c : Nat) ∧ Dd c < 8 ∧ Oo c < 8) {units : Int32} (hC : rCrs w hi n s m units (zI (jzBl n s m : Nat)) ow pl) (hdis : kd = 4 → ∀ p p', p < p' → p' < jzUn w hi n s m * jzBl n s m → pl p ≠ pl p') {K : Int32} {co0 : Nat → Int32} {u c : Nat} (hu : u < jzUn w hi n s m) (hc : c < n) : ∀ (k j fuel fuel' : Nat) (co mco p p' : Nat → Int32) (at1 part left fl at2 tk left2 fl2 : Int32) (rn : Nat), j + k = jzBI m s c → k < fuel → k < fuel' → rn ≤ 32767 → (kd < 3 → rn = 0) → rG K kd (jzT w hi n s n) (jzUn w hi n s m * jzBl n s m) pl (u * jzBl n s m + (jzOf m s c + j)) co0 co mco → rPP p p' → rR dz at1 part left fl at2 tk left2 fl2 →
    (∃ co3 at3 part3 left3 fl3 run3 p3 run4 at4 tk4 left4 fl4 mco4 p4, f_Decoder_decode_L96 (zI u * zI (jzBl n s m : Nat)) (zI (jzBl n s m : Nat)) ow ot (zI kd) pl nco (zI bits) dt (zI dz) nb sb K vs vf vx ve (zI l) (zI f) N fuel (zI (u * jzBl n s m + (jzOf m s c + j) : Nat), co, at1, part, left, fl, zI rn, p) = some (co3, at3, part3, left3, fl3, run3, p3) ∧ f_M_readAll_L120 (zI c) (zI m) h v (zI u) (zI (jzU w s n : Nat)) ac oa (zI f) (zI l) (zI bf) (zI bits) (zI dz) st ln cd dt' ot' md N fuel' (zI j, zI rn, at2, tk, left2, fl2, mco, p') = some (run4, at4, tk4, left4, fl4, mco4, p4) ∧ rX fl3 fl4 ∧ (K = zI 0 → co3 = co0)) ∨
    (∃ (co3 : Nat → Int32) (at3 part3 left3 fl3 : Int32) (rn' : Nat) (p3 : Nat → Int32) (at4 tk4 left4 fl4 : Int32) (mco4 p4 : Nat → Int32), rn' ≤ 32767 ∧ (kd < 3 → rn' = 0) ∧ f_Decoder_decode_L96 (zI u * zI (jzBl n s m : Nat)) (zI (jzBl n s m : Nat)) ow ot (zI kd) pl nco (zI bits) dt (zI dz) nb sb K vs vf vx ve (zI l) (zI f) N fuel (zI (u * jzBl n s m + (jzOf m s c + j) : Nat), co, at1, part, left, fl, zI rn, p) = f_Decoder_decode_L96 (zI u * zI (jzBl n s m : Nat)) (zI (jzBl n s m : Nat)) ow ot (zI kd) pl nco (zI bits) dt (zI dz) nb sb K vs vf vx ve (zI l) (zI f) N (fuel - k) (zI (u * jzBl n s m + (jzOf m s c + j) + k : Nat), co3, at3, part3, left3, fl3, zI (rn' : Nat), p3) ∧ f_M_readAll_L120 (zI c) (zI m) h v (zI u) (zI (jzU w s n : Nat)) ac oa (zI f) (zI l) (zI bf) (zI bits) (zI dz) st ln cd dt' ot' md N fuel' (zI j, zI rn, at2, tk, left2, fl2, mco, p') = some (zI (rn' : Nat), at4, tk4, left4, fl4, mco4, p4) ∧ rG K kd (jzT w hi n s n) (jzUn w hi n s m * jzBl n s m) pl (u * jzBl n s m + (jzOf m s c + j) + k) co0 co3 mco4 ∧ rPP p3 p4 ∧ rR dz at3 part3 left3 fl3 at4 tk4 left4 fl4)
  | 0, j, fuel, fuel', co, mco, p, p', at1, part, left, fl, at2, tk, left2, fl2, rn, hj, hfu, hfu', hrn, hlow, hG, hP, hR => by
    obtain ⟨fuel', rfl⟩ : ∃ j, fuel' = j + 1 := ⟨fuel' - 1, by omega⟩
    right
    refine ⟨co, at1, part, left, fl, rn, p, at2, tk, left2, fl2, mco, p', hrn, hlow, by rw [Nat.sub_zero, Nat.add_zero], ?_, by rw [Nat.add_zero]; exact hG, hP, hR⟩
    show f_M_readAll_L120b _ _ _ _ _ _ _ _ _ _ _ _ _ _ _ _ _ _ _ N (f_M_readAll_L120 _ _ _ _ _ _ _ _ _ _ _ _ _ _ _ _ _ _ _ N fuel') _ _ _ _ _ _ _ _ = _
    unfold f_M_readAll_L120b
    rw [q_blocksIn N hN hF hf m c (m_lt16 hF.2.2.1.2 hm) hc]
    dsimp only [Option.bind_some]
    rw [if_pos (by rw [← hj]; exact (by rw [leN (by have : jzBI m s c ≤ 4 := (by unfold jzBI; have r1 := jzH_rng s c; have r2 := jzH_rng (s / 2) c; have : jzH s c * jzH (s / 2) c ≤ 2 * 2 := Nat.mul_le_mul r1.2 r2.2; split; omega; split <;> omega); omega) (by have : jzBI m s c ≤ 4 := (by unfold jzBI; have r1 := jzH_rng s c; have r2 := jzH_rng (s / 2) c; have : jzH s c * jzH (s / 2) c ≤ 2 * 2 := Nat.mul_le_mul r1.2 r2.2; split; omega; split <;> omega); omega)]; omega))]
  | k + 1, j, fuel, fuel', co, mco, p, p', at1, part, left, fl, at2, tk, left2, fl2, rn, hj, hfu, hfu', hrn, hlow, hG, hP, hR => by
    have hBI : jzBI m s c ≤ 4 := by
      unfold jzBI
      have r1 := jzH_rng s c
      have r2 := jzH_rng (s / 2) c
      have : jzH s c * jzH (s / 2) c ≤ 2 * 2 := Nat.mul_le_mul r1.2 r2.2
      split
      · omega
      · split <;> omega
    obtain ⟨fuel, rfl⟩ : ∃ j, fuel = j + 1 := ⟨fuel - 1, by omega⟩
    obtain ⟨fuel', rfl⟩ : ∃ j, fuel' = j + 1 := ⟨fuel' - 1, by omega⟩
    have h16 := m_lt16 hF.2.2.1.2 hm
    have hn4 := hF.2.2.1
    have hB192 := hF.2.2.2.2
    have hUn := jzUn_rng hF m hm0 hm
    obtain ⟨g1, g2, g3, g4⟩ := pos_of hF hm0 hm hC hu hc (j := j) (by omega)
    have hmul := pos_mul hF hm0 hm hC
    have hB := rG_in hG g3 rfl g4 hB192 g1
    obtain ⟨t1, t2, t3, t4, t5, t6⟩ := hTb c (by omega)
    have hst : st c = zI (jzT w hi n s c : Nat) := (hf c hc).2.2.2.2.2.2
    have hz := rR_z hR
    have hbnd : ¬ zI (u : Int) * zI (jzBl n s m : Nat) + zI (jzBl n s m : Nat) ≤ zI (u * jzBl n s m + (jzOf m s c + j) : Nat) := by
      have h1 := jzOf_mono m s (show c + 1 ≤ n by omega)
      rw [jzOf_1, jzOf_n n s m] at h1
      have h2 : (u + 1) * jzBl n s m ≤ jzUn w hi n s m * jzBl n s m := Nat.mul_le_mul_right _ hu
      rw [Nat.add_mul, Nat.one_mul] at h2
      rw [zI_mul, zI_add, show (u : Int) * (jzBl n s m : Nat) + (jzBl n s m : Nat) = ((u * jzBl n s m + jzBl n s m : Nat) : Int) by rw [Int.natCast_add, Int.natCast_mul], leN (by omega) (by omega)]
      omega
    have eM : f_M_readAll_L120 (zI c) (zI m) h v (zI u) (zI (jzU w s n : Nat)) ac oa (zI f) (zI l) (zI bf) (zI bits) (zI dz) st ln cd dt' ot' md N (fuel' + 1) (zI j, zI rn, at2, tk, left2, fl2, mco, p') = (f_M_readBlock N (zI c) (zI (jzBO w n s m c u j : Nat)) (zI f) (zI l) (zI bf) (zI bits) (zI dz) (zI rn) at2 tk left2 fl2 st mco ln cd dt' ot' md p').bind fun z5 => f_M_readAll_L120 (zI c) (zI m) h v (zI u) (zI (jzU w s n : Nat)) ac oa (zI f) (zI l) (zI bf) (zI bits) (zI dz) st ln cd dt' ot' md N fuel' (zI (j + 1 : Nat), z5.1, z5.2.1, z5.2.2.1, z5.2.2.2.1, z5.2.2.2.2.1, z5.2.2.2.2.2.1, z5.2.2.2.2.2.2) := by
      show f_M_readAll_L120b _ _ _ _ _ _ _ _ _ _ _ _ _ _ _ _ _ _ _ N (f_M_readAll_L120 _ _ _ _ _ _ _ _ _ _ _ _ _ _ _ _ _ _ _ N fuel') _ _ _ _ _ _ _ _ = _
      unfold f_M_readAll_L120b
      rw [q_blocksIn N hN hF hf m c h16 hc]
      dsimp only [Option.bind_some]
      rw [if_neg (by rw [leN (by omega) (by omega)]; omega), if_pos hz.2, q_blockOf N hN hF hf m c u j h16 hc (by omega) (by omega)]
      dsimp only [Option.bind_some]
      rw [suN]
    rw [eM]
    rcases q_blkR N (by omega) hD hA hK hB (nco := nco) (by omega) hn (c := c) (T := jzT w hi n s c) (b := jzBO w n s m c u j) (pos := u * jzBl n s m + (jzOf m s c + j)) (by omega) hst rfl t1 t2 t5 t3 t4 t6 (by omega) g2 g3 hrn hlow hP hR hbnd fuel with ⟨co3, a3, p3, l3, f3, run3, pr3, run4, a4, t4', l4, f4, mco4, pr4, h1, h2, hX, hK3⟩ | ⟨co3, a3, p3, l3, f3, rn', pr3, a4, t4', l4, f4, mco4, pr4, r1, r2, h1, h2, hR3, hB3, hP3⟩
    · left
      have hx := rX_nz hX
      obtain ⟨fuel, rfl⟩ : ∃ j, fuel = j + 1 := ⟨fuel - 1, by omega⟩
      obtain ⟨fuel', rfl⟩ : ∃ j, fuel' = j + 1 := ⟨fuel' - 1, by omega⟩
      rw [h1, h2, l96x N fuel hx.1]
      dsimp only [Option.bind_some]
      rw [m120x N hN hF hf h16 hc fuel' hx.2.1]
      exact ⟨_, _, _, _, _, _, _, _, _, _, _, _, _, _, rfl, rfl, hX, fun e => by rw [hK3 e]; exact rG_0 hG e⟩
    · have hG3 := rG_out hG g3 rfl g4 hB192 hmul hdis hB3
      rw [h1, h2]
      dsimp only [Option.bind_some]
      have ih := q_jsR N hN hD hA hF hf hK hm0 hm hq hn hTb hC hdis (K := K) (co0 := co0) hu hc k (j + 1) fuel fuel' co3 mco4 pr3 pr4 a3 p3 l3 f3 a4 t4' l4 f4 rn' (by omega) (by omega) (by omega) r1 r2 hG3 hP3 hR3
      rw [show fuel + 1 - (k + 1) = fuel - k by omega, show u * jzBl n s m + (jzOf m s c + j) + (k + 1) = u * jzBl n s m + (jzOf m s c + (j + 1)) + k by omega]
      exact ih
theorem q_csR (N : Nat) (hN : 20000 ≤ N) {D : Nat → Nat} {dz nb : Nat} {sb md : Nat → Int32} (hD : rDt D dz nb sb md) {vw vs vf vx : Nat → Nat → Int32} {ve vz ln cd wd : Nat → Int32} (hA : rAll vw vs vf vx ve vz ln cd wd) {w hi n s m : Nat} {h v ac dn oa od st : Nat → Int32} (hF : okF w hi n s) (hf : isFr w hi n s n h v ac dn oa od st) {kd f l bits bf : Nat} (hK : okKR kd f l bits bf) (hm0 : 0 < m) (hm : m < 2 ^ n) {nco : Nat} (hq : 64 * jzT w hi n s n ≤ nco) (hn : nco ≤ 12288) {dt dt' ot ot' ow pl : Nat → Int32} {Dd Oo : Nat → Nat} (hTb : ∀ c, c < 4 → dt c = zI (Dd c : Nat) ∧ dt' c = zI (Dd c : Nat) ∧ ot c = zI (Oo c : Nat) ∧ ot' c = zI (Oo c : Nat) ∧ Dd c < 8 ∧ Oo c < 8) {units : Int32} (hC : rCrs w hi n s m units (zI (jzBl n s m : Nat)) ow pl) (hdis : kd = 4 → ∀ p p', p < p' → p' < jzUn w hi n s m * jzBl n s m → pl p ≠ pl p') {K : Int32} {co0 : Nat → Int32} {u : Nat} (hu : u < jzUn w hi n s m) : ∀ (k c fuel fuel' : Nat) (co mco p p' : Nat → Int32) (at1 part left fl at2 tk left2 fl2 : Int32) (rn : Nat), c + k = n → 100 ≤ fuel + 10 * c → k < fuel' → rn ≤ 32767 → (kd < 3 → rn = 0) → rG K kd (jzT w hi n s n) (jzUn w hi n s m * jzBl n s m) pl (u * jzBl n s m + jzOf m s c) co0 co mco → rPP p p' → rR dz at1 part left fl at2 tk left2 fl2 →
    (∃ co3 at3 part3 left3 fl3 run3 p3 run4 at4 tk4 left4 fl4 mco4 p4, f_Decoder_decode_L96 (zI u * zI (jzBl n s m : Nat)) (zI (jzBl n s m : Nat)) ow ot (zI kd) pl nco (zI bits) dt (zI dz) nb sb K vs vf vx ve (zI l) (zI f) N fuel (zI (u * jzBl n s m + jzOf m s c : Nat), co, at1, part, left, fl, zI rn, p) = some (co3, at3, part3, left3, fl3, run3, p3) ∧ f_M_readAll_L108 (zI n) (zI m) h v (zI u) (zI (jzU w s n : Nat)) ac oa (zI f) (zI l) (zI bf) (zI bits) (zI dz) st ln cd dt' ot' md N fuel' (zI c, zI rn, at2, tk, left2, fl2, mco, p') = some (run4, at4, tk4, left4, fl4, mco4, p4) ∧ rX fl3 fl4 ∧ (K = zI 0 → co3 = co0)) ∨
    (∃ (co3 : Nat → Int32) (at3 part3 left3 fl3 : Int32) (rn' : Nat) (p3 : Nat → Int32) (at4 tk4 left4 fl4 : Int32) (mco4 p4 : Nat → Int32), rn' ≤ 32767 ∧ (kd < 3 → rn' = 0) ∧ f_Decoder_decode_L96 (zI u * zI (jzBl n s m : Nat)) (zI (jzBl n s m : Nat)) ow ot (zI kd) pl nco (zI bits) dt (zI dz) nb sb K vs vf vx ve (zI l) (zI f) N fuel (zI (u * jzBl n s m + jzOf m s c : Nat), co, at1, part, left, fl, zI rn, p) = some (co3, at3, part3, left3, fl3, zI (rn' : Nat), p3) ∧ f_M_readAll_L108 (zI n) (zI m) h v (zI u) (zI (jzU w s n : Nat)) ac oa (zI f) (zI l) (zI bf) (zI bits) (zI dz) st ln cd dt' ot' md N fuel' (zI c, zI rn, at2, tk, left2, fl2, mco, p') = some (zI (rn' : Nat), at4, tk4, left4, fl4, mco4, p4) ∧ rG K kd (jzT w hi n s n) (jzUn w hi n s m * jzBl n s m) pl (u * jzBl n s m + jzBl n s m) co0 co3 mco4 ∧ rPP p3 p4 ∧ rR dz at3 part3 left3 fl3 at4 tk4 left4 fl4)
  | 0, c, fuel, fuel', co, mco, p, p', at1, part, left, fl, at2, tk, left2, fl2, rn, hk, hfu, hfu', hrn, hlow, hG, hP, hR => by
    have hn4 := hF.2.2.1
    have hc : c = n := by omega
    subst hc
    obtain ⟨fuel, rfl⟩ : ∃ j, fuel = j + 1 := ⟨fuel - 1, by omega⟩
    obtain ⟨fuel', rfl⟩ : ∃ j, fuel' = j + 1 := ⟨fuel' - 1, by omega⟩
    have hUn := jzUn_rng hF m hm0 hm
    have h2 : (u + 1) * jzBl c s m ≤ jzUn w hi c s m * jzBl c s m := Nat.mul_le_mul_right _ hu
    rw [Nat.add_mul, Nat.one_mul] at h2
    right
    refine ⟨co, at1, part, left, fl, rn, p, at2, tk, left2, fl2, mco, p', hrn, hlow, ?_, ?_, by rw [jzOf_n c s m] at hG; exact hG, hP, hR⟩
    · show f_Decoder_decode_L96b _ _ _ _ _ _ _ _ _ _ _ _ _ _ _ _ _ _ _ N (f_Decoder_decode_L96 _ _ _ _ _ _ _ _ _ _ _ _ _ _ _ _ _ _ _ N fuel) _ _ _ _ _ _ _ _ = _
      unfold f_Decoder_decode_L96b
      rw [if_pos (show zI (u : Int) * zI (jzBl c s m : Nat) + zI (jzBl c s m : Nat) ≤ zI (u * jzBl c s m + jzOf m s c : Nat) by
        rw [jzOf_n c s m, zI_mul, zI_add, show (u : Int) * (jzBl c s m : Nat) + (jzBl c s m : Nat) = ((u * jzBl c s m + jzBl c s m : Nat) : Int) by rw [Int.natCast_add, Int.natCast_mul], leN (by omega) (by omega)]
        omega)]
    · show f_M_readAll_L108b _ _ _ _ _ _ _ _ _ _ _ _ _ _ _ _ _ _ _ N (f_M_readAll_L108 _ _ _ _ _ _ _ _ _ _ _ _ _ _ _ _ _ _ _ N fuel') _ _ _ _ _ _ _ _ = _
      unfold f_M_readAll_L108b
      rw [if_pos (by rw [leN (by omega) (by omega)]; omega)]
  | k + 1, c, fuel, fuel', co, mco, p, p', at1, part, left, fl, at2, tk, left2, fl2, rn, hk, hfu, hfu', hrn, hlow, hG, hP, hR => by
    have hn4 := hF.2.2.1
    have hBI : jzBI m s c ≤ 4 := by
      unfold jzBI
      have r1 := jzH_rng s c
      have r2 := jzH_rng (s / 2) c
      have : jzH s c * jzH (s / 2) c ≤ 2 * 2 := Nat.mul_le_mul r1.2 r2.2
      split
      · omega
      · split <;> omega
    have h16 := m_lt16 hF.2.2.1.2 hm
    obtain ⟨fuel', rfl⟩ : ∃ j, fuel' = j + 1 := ⟨fuel' - 1, by omega⟩
    have eM : f_M_readAll_L108 (zI n) (zI m) h v (zI u) (zI (jzU w s n : Nat)) ac oa (zI f) (zI l) (zI bf) (zI bits) (zI dz) st ln cd dt' ot' md N (fuel' + 1) (zI c, zI rn, at2, tk, left2, fl2, mco, p') = (f_M_readAll_L120 (zI c) (zI m) h v (zI u) (zI (jzU w s n : Nat)) ac oa (zI f) (zI l) (zI bf) (zI bits) (zI dz) st ln cd dt' ot' md N N (zI (0 : Nat), zI rn, at2, tk, left2, fl2, mco, p')).bind fun z6 => f_M_readAll_L108 (zI n) (zI m) h v (zI u) (zI (jzU w s n : Nat)) ac oa (zI f) (zI l) (zI bf) (zI bits) (zI dz) st ln cd dt' ot' md N fuel' (zI (c + 1 : Nat), z6.1, z6.2.1, z6.2.2.1, z6.2.2.2.1, z6.2.2.2.2.1, z6.2.2.2.2.2.1, z6.2.2.2.2.2.2) := by
      show f_M_readAll_L108b _ _ _ _ _ _ _ _ _ _ _ _ _ _ _ _ _ _ _ N (f_M_readAll_L108 _ _ _ _ _ _ _ _ _ _ _ _ _ _ _ _ _ _ _ N fuel') _ _ _ _ _ _ _ _ = _
      unfold f_M_readAll_L108b f_M_readAll_J108_159
      rw [if_neg (by rw [leN (by omega) (by omega)]; omega), suN]
      rfl
    rw [eM]
    have ij := q_jsR N hN hD hA hF hf hK hm0 hm hq hn hTb hC hdis (K := K) (co0 := co0) hu (c := c) (by omega) (jzBI m s c) 0 fuel N co mco p p' at1 part left fl at2 tk left2 fl2 rn (by omega) (by omega) (by omega) hrn hlow (by rw [Nat.add_zero]; exact hG) hP hR
    rw [Nat.add_zero] at ij
    rcases ij with ⟨co3, a3, p3, l3, f3, run3, pr3, run4, a4, t4', l4, f4, mco4, pr4, h1, h2, hX, hK3⟩ | ⟨co3, a3, p3, l3, f3, rn', pr3, a4, t4', l4, f4, mco4, pr4, r1, r2, h1, h2, hG3, hP3, hR3⟩
    · left
      have hx := rX_nz hX
      rw [h1, h2]
      dsimp only [Option.bind_some]
      rw [m108x N hN hF hf h16 hx.2.1 k (c + 1) fuel' (by omega) (by omega)]
      exact ⟨_, _, _, _, _, _, _, _, _, _, _, _, _, _, rfl, rfl, hX, hK3⟩
    · rw [h1, h2]
      dsimp only [Option.bind_some]
      rw [show u * jzBl n s m + jzOf m s c + jzBI m s c = u * jzBl n s m + jzOf m s (c + 1) by rw [jzOf_1]; omega] at hG3 ⊢
      exact q_csR N hN hD hA hF hf hK hm0 hm hq hn hTb hC hdis (K := K) (co0 := co0) hu k (c + 1) (fuel - jzBI m s c) fuel' co3 mco4 pr3 pr4 a3 p3 l3 f3 a4 t4' l4 f4 rn' (by omega) (by omega) (by omega) r1 r2 hG3 hP3 hR3
