/-! READING: a band refined -/
theorem m5x (N fuel : Nat) {last c size p1 bits k run at2 tk left fl : Int32} {ot ln cd md mb mco : Nat → Int32} (hr : ¬ run = 0 ∨ ¬ fl = 0) : f_M_readMore_L5 last c ot size ln cd md p1 bits mb N (fuel + 1) (k, run, at2, tk, left, fl, mco) = some (1, k, run, at2, tk, left, fl, mco) := by
  show f_M_readMore_L5b _ _ _ _ _ _ _ _ _ _ N (f_M_readMore_L5 _ _ _ _ _ _ _ _ _ _ N fuel) _ _ _ _ _ _ _ = _
  unfold f_M_readMore_L5b
  by_cases c1 : last < k
  · rw [if_pos c1]
  · rw [if_neg c1]
    by_cases c2 : run = 0
    · rw [if_pos c2, if_neg (hr.resolve_left (fun h => h c2))]
    · rw [if_neg c2]
theorem negN (x : Nat) : -(zI (x : Int)) = zI (-(x : Int)) := zI_neg _
set_option maxHeartbeats 1000000 in
theorem q_new (N : Nat) (hN : 1000 ≤ N) {D : Nat → Nat} {dz nb : Nat} {sb md : Nat → Int32} (hD : rDt D dz nb sb md) {K : Int32} {q : Nat} {co0 mco0 co mco : Nat → Int32} {nco : Nat} (hq : q + 64 ≤ nco) (hn : nco ≤ 12288) {c T b bits last k y : Nat} (hc : c < 4) {mb : Nat → Int32} (hb : mb c = zI (T : Nat)) (hqT : q = 64 * (T + b)) (hbits : bits ≤ 9) (hlast : last ≤ 63) (hk1 : 1 ≤ k) (hk : k ≤ last) (hy : y < 256) (hs1 : y % 16 ≤ 1) (h : rB K q k co0 mco0 co mco) {at1 part left fl at2 tk left2 fl2 : Int32} (hR : rR dz at1 part left fl at2 tk left2 fl2) (g : (Int32 × Int32 × Int32 × Int32 × Int32 × Int32 × (Nat → Int32)) → Option (Nat × Int32 × Int32 × Int32 × Int32 × Int32 × Int32 × (Nat → Int32))) :
    (∃ kk co3 at3 part3 left3 fl3 km at4 tk4 left4 fl4 mco4, f_Decoder_takeNewOne N (zI y) (zI q) (zI k) nco co (zI last) (zI bits) (zI dz) nb sb at1 part left fl K = some (kk, co3, at3, part3, left3, fl3) ∧ f_M_readMore_J5_111 N g (zI (y % 16 : Nat)) (zI dz) at2 tk left2 fl2 md (zI c) (zI b) (zI k) (zI (y / 16 : Nat)) (zI last) (zI bits) mb mco (zI 0) = g (km, zI 0, at4, tk4, left4, fl4, mco4) ∧ rX fl3 fl4 ∧ (K = zI 0 → co3 = co0)) ∨
    (∃ k' co3 at3 part3 left3 fl3 at4 tk4 left4 fl4 mco4, k < k' ∧ k' ≤ last + 1 ∧ f_Decoder_takeNewOne N (zI y) (zI q) (zI k) nco co (zI last) (zI bits) (zI dz) nb sb at1 part left fl K = some (zI (k' : Nat), co3, at3, part3, left3, fl3) ∧ f_M_readMore_J5_111 N g (zI (y % 16 : Nat)) (zI dz) at2 tk left2 fl2 md (zI c) (zI b) (zI k) (zI (y / 16 : Nat)) (zI last) (zI bits) mb mco (zI 0) = g (zI (k' : Nat), zI 0, at4, tk4, left4, fl4, mco4) ∧ rR dz at3 part3 left3 fl3 at4 tk4 left4 fl4 ∧ rB K q k' co0 mco0 co3 mco4) := by
  have hb9 := pow9 hbits
  obtain ⟨M, rfl⟩ : ∃ M, N = M + 1 := ⟨N - 1, by omega⟩
  -- the walk with a value
  have walk : ∀ (at1 part left fl at2 tk left2 fl2 : Int32) (z : Int) (s0 : Int32), rR dz at1 part left fl at2 tk left2 fl2 → (y % 16 = 0 ∧ z = 0 ∨ y % 16 = 1 ∧ okC 1 z ∧ (if s0 = (1 : Int32) then zI ((2 ^ bits : Nat) : Int) else zI (-((2 ^ bits : Nat) : Int))) = zI z) →
      (∃ kk co3 at3 part3 left3 fl3 km at4 tk4 left4 fl4 mco4, f_Decoder_takeNewOne_J65 (M + 1) (zI last) (zI q) nco (zI bits) (zI dz) nb sb K (zI y) (zI k) co at1 part left fl (zI z) = some (kk, co3, at3, part3, left3, fl3) ∧ f_M_readMore_J5_125 (M + 1) g (zI c) (zI b) (zI k) (zI (y / 16 : Nat)) (zI last) (zI bits) (zI dz) at2 tk left2 fl2 mb mco md (zI (y % 16 : Nat)) s0 (zI 0) = g (km, zI 0, at4, tk4, left4, fl4, mco4) ∧ rX fl3 fl4 ∧ (K = zI 0 → co3 = co0)) ∨
      (∃ k' co3 at3 part3 left3 fl3 at4 tk4 left4 fl4 mco4, k < k' ∧ k' ≤ last + 1 ∧ f_Decoder_takeNewOne_J65 (M + 1) (zI last) (zI q) nco (zI bits) (zI dz) nb sb K (zI y) (zI k) co at1 part left fl (zI z) = some (zI (k' : Nat), co3, at3, part3, left3, fl3) ∧ f_M_readMore_J5_125 (M + 1) g (zI c) (zI b) (zI k) (zI (y / 16 : Nat)) (zI last) (zI bits) (zI dz) at2 tk left2 fl2 mb mco md (zI (y % 16 : Nat)) s0 (zI 0) = g (zI (k' : Nat), zI 0, at4, tk4, left4, fl4, mco4) ∧ rR dz at3 part3 left3 fl3 at4 tk4 left4 fl4 ∧ rB K q k' co0 mco0 co3 mco4) := by
    intro at1 part left fl at2 tk left2 fl2 z s0 hR hz
    unfold f_Decoder_takeNewOne_J65 f_M_readMore_J5_125 f_M_over
    rw [shr4N y hy]
    rcases q_ovL (M + 1) hN hD hq hn hc hb hqT hbits hlast (last + 1 - k) k (y / 16) (M + 1) (M + 1) co mco at1 part left fl at2 tk left2 fl2 (by omega) hk1 (by omega) (by omega) (by omega) h hR with ⟨u, co3, a3, p3, l3, f3, kk, u', a4, t4, l4, f4, mco4, h1, h2, h3, h4⟩ | ⟨k', co3, a3, p3, l3, f3, a4, t4, l4, f4, mco4, g1, g2, h1, h2, hR3, hB3, h0⟩
    · left
      rw [h1, h2]
      dsimp only [Option.bind_some]
      unfold f_Decoder_takeNewOne_J150 f_M_readMore_J5_191 f_M_readMore_J5_194
      rw [if_neg (show ¬ (1 = 0) by omega)]
      rcases h3 with ⟨rfl, hX⟩ | ⟨rfl, rfl, rfl⟩
      · have hx := rX_nz hX
        rw [if_neg hx.1, if_neg (show ¬ (2 = 0) by omega), if_neg (show ¬ (2 = 1) by omega)]
        dsimp only [Option.bind_some]
        rw [if_neg hx.2.1]
        exact ⟨_, co3, a3, p3, l3, f3, _, a4, t4, l4, f4, mco4, rfl, rfl, hX, h4⟩
      · rw [if_pos (show (0 : Int32) = 0 from rfl), if_pos rfl]
        unfold f_M_wrong f_M_wrong_J16
        rw [if_pos (show (0 : Int32) = 0 from rfl)]
        dsimp only [Option.bind_some]
        rw [if_neg (show ¬ (3 : Int32) = 0 by decide)]
        exact ⟨_, co3, a3, p3, l3, _, _, a4, t4, l4, _, mco4, rfl, rfl, ⟨3, by omega, by omega, rfl, rfl⟩, h4⟩
    · right
      rw [h1, h2]
      dsimp only [Option.bind_some]
      unfold f_M_readMore_J5_191 f_M_readMore_J5_189 f_M_readMore_J5_191 f_M_readMore_J5_194
      have hz3 := rR_z hR3
      rw [if_pos rfl, if_neg (show ¬ (1 = 0) by omega), if_pos rfl, addN]
      dsimp only [Option.bind_some]
      rw [if_pos hz3.2, suN, clN c (by omega), if_neg (inN c 4 hc (by omega)), hb, ixM, ← hqT, clN _ (by omega), shl_b bits (by omega), zI_neg]
      have gi := inN (q + k') 12288 (by omega) (by omega)
      simp only [if_neg gi]
      rcases hz with ⟨e0, rfl⟩ | ⟨e1, hok, ez⟩
      · obtain ⟨co4, m1, m2⟩ := rB_keep hB3 hq hn (j := k') (k' := k' + 1) (z := 0) (by omega) (by omega) (by omega) ⟨by omega, by omega, fun _ => by omega⟩
        have eu : upd mco4 (q + k') (zI 0) = mco4 := by
          funext i
          by_cases ci : i = q + k'
          · subst ci; rw [upd_at, h0]; rfl
          · rw [upd_ne ci]
        rw [eu] at m2
        rw [m1, if_neg (show ¬ zI ((y % 16 : Nat) : Int) = (1 : Int32) by rw [e0]; decide)]
        exact ⟨k' + 1, co4, a3, p3, l3, f3, a4, t4, l4, f4, mco4, by omega, by omega, rfl, rfl, hR3, m2⟩
      · have hr := okC_rng hok
        have hr2 := hok.2.2 (by omega)
        obtain ⟨co4, m1, m2⟩ := rB_keep hB3 hq hn (j := k') (k' := k' + 1) (z := z) (by omega) (by omega) (by omega) ⟨hr.1, hr.2, fun _ => hr2⟩
        rw [m1, if_pos (show zI ((y % 16 : Nat) : Int) = (1 : Int32) by rw [e1]; rfl)]
        refine ⟨k' + 1, co4, a3, p3, l3, f3, a4, t4, l4, f4, upd mco4 (q + k') (zI z), by omega, by omega, rfl, ?_, hR3, m2⟩
        by_cases c1 : s0 = (1 : Int32)
        · rw [if_pos c1] at ez ⊢
          rw [ez, zI_short (by omega) (by omega), zI_shortN (by omega) (by omega)]
        · rw [if_neg c1] at ez ⊢
          rw [ez, zI_short (by omega) (by omega), zI_shortN (by omega) (by omega)]
  unfold f_Decoder_takeNewOne f_M_readMore_J5_111 f_Decoder_takeNewOne_J63
  rw [and15N, if_pos (show zI ((y % 16 : Nat) : Int) ≤ (1 : Int32) by rw [show (1 : Int32) = zI ((1 : Nat) : Int) from rfl, leN (by omega) (by omega)]; exact hs1), shl_b bits (by omega), zI_neg]
  by_cases s1 : y % 16 = 1
  · have i1 : zI ((y % 16 : Nat) : Int) = (1 : Int32) := by rw [s1]; rfl
    rw [if_pos i1, if_pos i1]
    rcases q_bit1 (M + 1) (by omega) hD hR with ⟨a3, p3, l3, f3, a4, t4, l4, f4, h1, h2, hX⟩ | ⟨v, a3, p3, l3, f3, a4, t4, l4, f4, hv, h1, h2, hR3⟩
    · left
      have hx := rX_nz hX
      rw [h1, h2]
      dsimp only [Option.bind_some]
      have n1 : ¬ zI (-1) = (1 : Int32) := by rw [show (1 : Int32) = zI 1 from rfl, zI_eq (by decide) (by decide) (by decide) (by decide)]; decide
      rw [if_neg n1]
      unfold f_Decoder_takeNewOne_J65 f_M_readMore_J5_125 f_M_over f_Decoder_takeNewOne_J150 f_M_readMore_J5_191 f_M_readMore_J5_194
      rw [n73x (M + 1) M hx.1, o7x (M + 1) M hx.2.1]
      dsimp only [Option.bind_some]
      rw [if_neg (show ¬ (1 = 0) by omega), if_neg hx.1, if_neg (show ¬ (2 = 0) by omega), if_neg (show ¬ (2 = 1) by omega)]
      dsimp only [Option.bind_some]
      rw [if_neg hx.2.1]
      exact ⟨_, co, a3, p3, l3, f3, _, a4, t4, l4, f4, mco, rfl, rfl, hX, rB_0 h⟩
    · rw [h1, h2]
      dsimp only [Option.bind_some]
      by_cases v1 : v = 1
      · subst v1
        rw [if_pos (show zI ((1 : Nat) : Int) = (1 : Int32) from rfl)]
        exact walk a3 p3 l3 f3 a4 t4 l4 f4 ((2 ^ bits : Nat) : Int) (zI ((1 : Nat) : Int)) hR3 (Or.inr ⟨s1, ⟨by omega, by omega, fun _ => by omega⟩, by rw [if_pos (show zI ((1 : Nat) : Int) = (1 : Int32) from rfl)]⟩)
      · have i2 : ¬ zI (v : Int) = (1 : Int32) := by rw [show (1 : Int32) = zI ((1 : Nat) : Int) from rfl, eqN (by omega) (by omega)]; exact v1
        rw [if_neg i2]
        exact walk a3 p3 l3 f3 a4 t4 l4 f4 (-((2 ^ bits : Nat) : Int)) (zI (v : Int)) hR3 (Or.inr ⟨s1, ⟨by omega, by omega, fun _ => by omega⟩, by rw [if_neg i2]⟩)
  · have i1 : ¬ zI ((y % 16 : Nat) : Int) = (1 : Int32) := by rw [show (1 : Int32) = zI ((1 : Nat) : Int) from rfl, eqN (by omega) (by omega)]; exact s1
    rw [if_neg i1, if_neg i1]
    exact walk at1 part left fl at2 tk left2 fl2 0 (0 : Int32) hR (Or.inl ⟨by omega, rfl⟩)
/-! READING: a band refined, all of it -/
def mPr (N : Nat) (last c : Int32) (mb : Nat → Int32) (p1 bits size : Int32) (md : Nat → Int32) (z6 : Nat × Int32 × Int32 × Int32 × Int32 × Int32 × Int32 × (Nat → Int32)) : Option (Int32 × Int32 × Int32 × Int32 × Int32 × (Nat → Int32)) :=
  if z6.1 = 0 then some (z6.2.2.1, z6.2.2.2.1, z6.2.2.2.2.1, z6.2.2.2.2.2.1, z6.2.2.2.2.2.2.1, z6.2.2.2.2.2.2.2) else f_M_readMore_J197 N z6.2.2.1 z6.2.2.2.1 z6.2.2.2.2.1 z6.2.2.2.2.2.1 z6.2.2.2.2.2.2.1 z6.2.2.2.2.2.2.2 last c mb p1 bits size md z6.2.1
/-- behind a fault -/
theorem mPrX (N : Nat) (hN : 1000 ≤ N) {last c p1 bits size k run at2 tk left fl : Int32} {mb md mco : Nat → Int32} (h : ¬ fl = 0) : ∃ run', mPr N last c mb p1 bits size md (1, k, run, at2, tk, left, fl, mco) = some (run', at2, tk, left, fl, mco) := by
  obtain ⟨M, rfl⟩ : ∃ M, N = M + 1 := ⟨N - 1, by omega⟩
  unfold mPr f_M_readMore_J197 f_M_readMore_J253
  dsimp only
  rw [if_neg (by omega)]
  by_cases c1 : run ≤ 0
  · rw [if_pos c1]; exact ⟨_, rfl⟩
  · rw [if_neg c1, m204x (M + 1) M h]; exact ⟨_, rfl⟩
/-- a run that goes on -/
theorem q_runR (N : Nat) (hN : 1000 ≤ N) {D : Nat → Nat} {dz nb : Nat} {sb md : Nat → Int32} (hD : rDt D dz nb sb md) {K : Int32} {q : Nat} {co0 mco0 co mco : Nat → Int32} {nco : Nat} (hq : q + 64 ≤ nco) (hn : nco ≤ 12288) {c T b bits last k rn : Nat} (hc : c < 4) {mb : Nat → Int32} (hb : mb c = zI (T : Nat)) (hqT : q = 64 * (T + b)) (hbits : bits ≤ 9) (hlast : last ≤ 63) (hk1 : 1 ≤ k) (hk : k ≤ last + 1) (hrn : 1 ≤ rn) (hrn2 : rn ≤ 32768) (h : rB K q k co0 mco0 co mco) {at1 part left fl at2 tk left2 fl2 : Int32} (hR : rR dz at1 part left fl at2 tk left2 fl2) :
    (∃ co3 at3 part3 left3 fl3 run3 run4 at4 tk4 left4 fl4 mco4, cPo N (zI 1) (zI q) nco (zI last) (zI bits) (zI dz) nb sb K (2, zI k, co, at1, part, left, fl, zI rn) = some (co3, at3, part3, left3, fl3, run3) ∧ mPr N (zI last) (zI c) mb (zI b) (zI bits) (zI dz) md (1, zI k, zI rn, at2, tk, left2, fl2, mco) = some (run4, at4, tk4, left4, fl4, mco4) ∧ rX fl3 fl4 ∧ (K = zI 0 → co3 = co0)) ∨
    (∃ (co3 : Nat → Int32) (at3 part3 left3 fl3 : Int32) (rn' : Nat) (at4 tk4 left4 fl4 : Int32) (mco4 : Nat → Int32), rn' ≤ 32767 ∧ cPo N (zI 1) (zI q) nco (zI last) (zI bits) (zI dz) nb sb K (2, zI k, co, at1, part, left, fl, zI rn) = some (co3, at3, part3, left3, fl3, zI (rn' : Nat)) ∧ mPr N (zI last) (zI c) mb (zI b) (zI bits) (zI dz) md (1, zI k, zI rn, at2, tk, left2, fl2, mco) = some (zI (rn' : Nat), at4, tk4, left4, fl4, mco4) ∧ rR dz at3 part3 left3 fl3 at4 tk4 left4 fl4 ∧ rB K q 64 co0 mco0 co3 mco4) := by
  have i1 : ¬ zI (rn : Int) ≤ 0 := by rw [show (0 : Int32) = zI ((0 : Nat) : Int) from rfl, leN (by omega) (by omega)]; omega
  have e1 : zI (rn : Int) - (1 : Int32) = zI ((rn - 1 : Nat) : Int) := by rw [show (1 : Int32) = zI 1 from rfl, zI_sub]; congr 1; omega
  unfold cPo mPr f_M_readMore_J197 f_M_readMore_J253 f_Decoder_takeOthers_J160 f_Decoder_refineRest
  dsimp only
  rw [if_neg (show ¬ (2 = 0) by omega), if_neg (show ¬ (2 = 1) by omega), if_neg i1, if_neg (show ¬ zI 1 = 0 by decide), if_neg (show ¬ (1 = 0) by omega), if_neg i1, e1]
  rcases q_restL N hN hD hq hn hc hb hqT hbits hlast (last + 1 - k) k N N co mco at1 part left fl at2 tk left2 fl2 (by omega) hk1 (by omega) (by omega) h hR with ⟨co3, a3, p3, l3, f3, a4, t4, l4, f4, mco4, h1, h2, h3, h4⟩ | ⟨co3, a3, p3, l3, f3, a4, t4, l4, f4, mco4, h1, h2, h3, h4⟩
  · left
    rw [h1, h2]
    exact ⟨co3, a3, p3, l3, f3, _, _, a4, t4, l4, f4, mco4, rfl, rfl, h3, h4⟩
  · right
    rw [h1, h2]
    exact ⟨co3, a3, p3, l3, f3, rn - 1, a4, t4, l4, f4, mco4, by omega, rfl, rfl, h3, h4⟩
set_option maxHeartbeats 1000000 in
theorem q_refL (N : Nat) (hN : 1000 ≤ N) {D : Nat → Nat} {dz nb : Nat} {sb md : Nat → Int32} (hD : rDt D dz nb sb md) {t : Nat} (ht : t < 8) {w s f x : Nat → Int32} {e z wdt : Int32} {ln cd : Nat → Int32} (hT : rTab1 t w s f x e z ln cd wdt) {K : Int32} {q : Nat} {co0 mco0 : Nat → Int32} {nco : Nat} (hq : q + 64 ≤ nco) (hn : nco ≤ 12288) {c T b bits last : Nat} (hc : c < 4) {mb ot : Nat → Int32} (hb : mb c = zI (T : Nat)) (hot : ot c = zI (t : Nat)) (hqT : q = 64 * (T + b)) (hbits : bits ≤ 9) (hlast : last ≤ 63) :
    ∀ (m k wd fuel fuel' : Nat) (co mco : Nat → Int32) (at1 part left fl at2 tk left2 fl2 : Int32), last + 1 - k ≤ m → 1 ≤ k → k ≤ last + 1 → wd ≤ k → m + 1 < fuel → m + 1 < fuel' → rB K q k co0 mco0 co mco → rR dz at1 part left fl at2 tk left2 fl2 →
    (∃ co3 at3 part3 left3 fl3 run3 run4 at4 tk4 left4 fl4 mco4, (f_Decoder_takeOthers_L35 (zI last) (zI dz) nb sb e s f x (zI 4) (zI 1) (zI q) nco (zI bits) K N fuel (zI k, zI wd, co, at1, part, left, fl, zI 0)).bind (cPo N (zI 1) (zI q) nco (zI last) (zI bits) (zI dz) nb sb K) = some (co3, at3, part3, left3, fl3, run3) ∧ (f_M_readMore_L5 (zI last) (zI c) ot (zI dz) ln cd md (zI b) (zI bits) mb N fuel' (zI k, zI 0, at2, tk, left2, fl2, mco)).bind (mPr N (zI last) (zI c) mb (zI b) (zI bits) (zI dz) md) = some (run4, at4, tk4, left4, fl4, mco4) ∧ rX fl3 fl4 ∧ (K = zI 0 → co3 = co0)) ∨
    (∃ (co3 : Nat → Int32) (at3 part3 left3 fl3 : Int32) (rn : Nat) (at4 tk4 left4 fl4 : Int32) (mco4 : Nat → Int32), rn ≤ 32767 ∧ (f_Decoder_takeOthers_L35 (zI last) (zI dz) nb sb e s f x (zI 4) (zI 1) (zI q) nco (zI bits) K N fuel (zI k, zI wd, co, at1, part, left, fl, zI 0)).bind (cPo N (zI 1) (zI q) nco (zI last) (zI bits) (zI dz) nb sb K) = some (co3, at3, part3, left3, fl3, zI (rn : Nat)) ∧ (f_M_readMore_L5 (zI last) (zI c) ot (zI dz) ln cd md (zI b) (zI bits) mb N fuel' (zI k, zI 0, at2, tk, left2, fl2, mco)).bind (mPr N (zI last) (zI c) mb (zI b) (zI bits) (zI dz) md) = some (zI (rn : Nat), at4, tk4, left4, fl4, mco4) ∧ rR dz at3 part3 left3 fl3 at4 tk4 left4 fl4 ∧ rB K q 64 co0 mco0 co3 mco4)
  | m, k, wd, fuel, fuel', co, mco, at1, part, left, fl, at2, tk, left2, fl2, hm, hk1, hk2, hwd, hf, hf', h, hR => by
    obtain ⟨fuel, rfl⟩ : ∃ j, fuel = j + 1 := ⟨fuel - 1, by omega⟩
    obtain ⟨fuel', rfl⟩ : ∃ j, fuel' = j + 1 := ⟨fuel' - 1, by omega⟩
    have hz := rR_z hR
    by_cases ck : last < k
    · have i1 : zI (last : Int) < zI (k : Int) := by rw [ltN (by omega) (by omega)]; exact ck
      right
      refine ⟨co, at1, part, left, fl, 0, at2, tk, left2, fl2, mco, by omega, ?_, ?_, hR, rB_mono h (by omega)⟩
      · rw [c35e N fuel i1]
        rfl
      · show (f_M_readMore_L5b _ _ _ _ _ _ _ _ _ _ N (f_M_readMore_L5 _ _ _ _ _ _ _ _ _ _ N fuel') _ _ _ _ _ _ _).bind _ = _
        unfold f_M_readMore_L5b
        rw [if_pos i1]
        rfl
    obtain ⟨m, rfl⟩ : ∃ i, m = i + 1 := ⟨m - 1, by omega⟩
    have i1 : ¬ zI (last : Int) < zI (k : Int) := by rw [ltN (by omega) (by omega)]; exact ck
    have n4 : ¬ zI 4 = 0 := by decide
    have eC : f_Decoder_takeOthers_L35 (zI last) (zI dz) nb sb e s f x (zI 4) (zI 1) (zI q) nco (zI bits) K N (fuel + 1) (zI k, zI wd, co, at1, part, left, fl, zI 0) = (f_BitReader_takeWord N (zI dz) nb sb at1 part left fl e s f x).bind fun z1 => if z1.1 = (-1 : Int32) then some (0, zI k, co, z1.2.1, z1.2.2.1, z1.2.2.2.1, z1.2.2.2.2, zI 0) else f_Decoder_takeOthers_J35_93 N (f_Decoder_takeOthers_L35 (zI last) (zI dz) nb sb e s f x (zI 4) (zI 1) (zI q) nco (zI bits) K N fuel) z1.1 (zI 4) (zI 1) (zI q) (zI k) nco co (zI last) (zI bits) (zI dz) nb sb z1.2.1 z1.2.2.1 z1.2.2.2.1 z1.2.2.2.2 K (zI wd) (zI 0) := by
      show f_Decoder_takeOthers_L35b _ _ _ _ _ _ _ _ _ _ _ _ _ _ N (f_Decoder_takeOthers_L35 _ _ _ _ _ _ _ _ _ _ _ _ _ _ N fuel) _ _ _ _ _ _ _ _ = _
      unfold f_Decoder_takeOthers_L35b
      rw [if_neg (show ¬ (64 : Int32) ≤ zI (wd : Int) by rw [show (64 : Int32) = zI ((64 : Nat) : Int) from rfl, leN (by omega) (by omega)]; omega), if_neg i1, if_pos (show zI 0 = 0 from rfl)]
      congr 1
      funext z1
      rw [if_neg n4, ite_self]
    have eM : f_M_readMore_L5 (zI last) (zI c) ot (zI dz) ln cd md (zI b) (zI bits) mb N (fuel' + 1) (zI k, zI 0, at2, tk, left2, fl2, mco) = (f_M_symbol N (zI t) (zI dz) at2 tk left2 fl2 ln cd md).bind fun z1 => if z1.2.2.2.2 = 0 then (if (z1.1 - z1.1 / (16 : Int32) * (16 : Int32)) ≤ (1 : Int32) then f_M_readMore_J5_73 N (f_M_readMore_L5 (zI last) (zI c) ot (zI dz) ln cd md (zI b) (zI bits) mb N fuel') z1.2.2.2.2 (z1.1 - z1.1 / (16 : Int32) * (16 : Int32)) (z1.1 / (16 : Int32)) (zI dz) z1.2.1 z1.2.2.1 z1.2.2.2.1 md (zI c) (zI b) (zI k) (zI last) (zI bits) mb mco (zI 0) else (f_M_wrong (3 : Int32) z1.2.2.2.2).bind fun z5 => f_M_readMore_J5_73 N (f_M_readMore_L5 (zI last) (zI c) ot (zI dz) ln cd md (zI b) (zI bits) mb N fuel') z5.2 (z1.1 - z1.1 / (16 : Int32) * (16 : Int32)) (z1.1 / (16 : Int32)) (zI dz) z1.2.1 z1.2.2.1 z1.2.2.2.1 md (zI c) (zI b) (zI k) (zI last) (zI bits) mb mco (zI 0)) else f_M_readMore_J5_73 N (f_M_readMore_L5 (zI last) (zI c) ot (zI dz) ln cd md (zI b) (zI bits) mb N fuel') z1.2.2.2.2 (z1.1 - z1.1 / (16 : Int32) * (16 : Int32)) (z1.1 / (16 : Int32)) (zI dz) z1.2.1 z1.2.2.1 z1.2.2.2.1 md (zI c) (zI b) (zI k) (zI last) (zI bits) mb mco (zI 0) := by
      show f_M_readMore_L5b _ _ _ _ _ _ _ _ _ _ N (f_M_readMore_L5 _ _ _ _ _ _ _ _ _ _ N fuel') _ _ _ _ _ _ _ = _
      unfold f_M_readMore_L5b
      rw [if_neg i1, if_pos (show zI 0 = 0 from rfl), if_pos hz.2, clN c (by omega), if_neg (inN c 4 hc (by omega)), hot]
    rw [eC, eM]
    have hK0 : K = zI 0 → co = co0 := rB_0 h
    rcases q_word N hN hD ht hT hR with ⟨a3, p3, l3, f3, a4, t4, l4, f4, h1, h2, hX⟩ | ⟨y, a3, p3, l3, f3, a4, t4, l4, f4, hy, h1, h2, hR3⟩
    · left
      have hx := rX_nz hX
      rw [h1, h2]
      dsimp only [Option.bind_some]
      rw [if_pos (show zI (-1) = (-1 : Int32) from rfl), if_neg hx.2.1]
      unfold f_M_readMore_J5_73
      rw [if_neg hx.2.2.1]
      exact ⟨co, a3, p3, l3, f3, zI 0, zI 0, a4, t4, l4, f4, mco, rfl, rfl, hX, hK0⟩
    have hz3 := rR_z hR3
    rw [h1, h2]
    dsimp only [Option.bind_some]
    have e16 : (16 : Int32) = zI ((16 : Nat) : Int) := rfl
    rw [if_neg (show ¬ zI (y : Int) = (-1 : Int32) by rw [show (-1 : Int32) = zI (-1) from rfl, zI_eq (by omega) (by omega) (by decide) (by decide)]; omega), if_pos hz3.2, e16, mdN y 16 (by omega) (by omega) (by omega), dvN y 16 (by omega) (by omega) (by omega)]
    unfold f_Decoder_takeOthers_J35_93 f_Decoder_endsBand
    rw [if_neg n4, and15N]
    by_cases cs : y % 16 ≤ 1
    · rw [if_pos (show zI ((y % 16 : Nat) : Int) ≤ (1 : Int32) by rw [show (1 : Int32) = zI ((1 : Nat) : Int) from rfl, leN (by omega) (by omega)]; exact cs)]
      unfold f_M_readMore_J5_73
      rw [if_pos (show f4 ≤ 0 by rw [hz3.2]; decide)]
      by_cases cE : y % 16 = 0 ∧ y ≠ 240
      · have r15 : y / 16 < 15 := by omega
        rw [cE.1, if_pos (show zI ((0 : Nat) : Int) = 0 from rfl), if_pos (show zI ((0 : Nat) : Int) = 0 from rfl), if_neg (show ¬ zI (y : Int) = (240 : Int32) by rw [show (240 : Int32) = zI ((240 : Nat) : Int) from rfl, eqN (by omega) (by omega)]; exact cE.2), if_neg (show ¬ (15 : Int32) ≤ zI ((y / 16 : Nat) : Int) by rw [show (15 : Int32) = zI ((15 : Nat) : Int) from rfl, leN (by omega) (by omega)]; omega)]
        dsimp only [Option.bind_some]
        rw [if_neg (show ¬ (1 : Int32) = 0 by decide), shr4N y hy]
        unfold f_Decoder_takeRun f_M_readMore_J5_194
        obtain ⟨fuel, rfl⟩ : ∃ j, fuel = j + 1 := ⟨fuel - 1, by omega⟩
        obtain ⟨fuel', rfl⟩ : ∃ j, fuel' = j + 1 := ⟨fuel' - 1, by omega⟩
        rcases q_bits N (by omega) hD (y / 16) (by omega) hR3 with ⟨a5, p5, l5, f5, v', a6, t6, l6, f6, k1, k2, hX⟩ | ⟨v, a5, p5, l5, f5, a6, t6, l6, f6, v1, k1, k2, hR5⟩
        · left
          have hx := rX_nz hX
          rw [k1, k2]
          dsimp only [Option.bind_some]
          rw [if_pos (show zI (-1) = (-1 : Int32) from rfl)]
          dsimp only [Option.bind_some]
          unfold f_Decoder_takeOthers_J35_143
          rw [if_neg hx.1, m5x N fuel' (Or.inr hx.2.1)]
          obtain ⟨run', hr'⟩ := mPrX N hN (last := zI last) (c := zI c) (p1 := zI b) (bits := zI bits) (size := zI dz) (k := zI k) (run := ((1 : Int32) <<< (zI ((y / 16 : Nat) : Int) &&& 31)) + v') (at2 := a6) (tk := t6) (left := l6) (mb := mb) (md := md) (mco := mco) hx.2.1
          exact ⟨co, a5, p5, l5, f5, zI 0, run', a6, t6, l6, f6, mco, rfl, hr', hX, hK0⟩
        · have h2r : 2 ^ (y / 16) ≤ 16384 := Nat.pow_le_pow_right (n := 2) (by omega) (show y / 16 ≤ 14 by omega)
          have h1r : 1 ≤ 2 ^ (y / 16) := Nat.one_le_two_pow
          have hz5 := rR_z hR5
          rw [k1, k2]
          dsimp only [Option.bind_some]
          rw [if_neg (show ¬ zI (v : Int) = (-1 : Int32) by rw [show (-1 : Int32) = zI (-1) from rfl, zI_eq (by omega) (by omega) (by decide) (by decide)]; omega), shl_b (y / 16) (by omega), addN]
          dsimp only [Option.bind_some]
          unfold f_Decoder_takeOthers_J35_143
          have rnz : ¬ zI ((2 ^ (y / 16) + v : Nat) : Int) = 0 := nzN (by omega) (by omega)
          rw [if_pos hz5.1, c35x N fuel rnz, m5x N fuel' (Or.inl rnz)]
          exact q_runR N hN hD hq hn hc hb hqT hbits hlast hk1 hk2 (rn := 2 ^ (y / 16) + v) (by omega) (by omega) h hR5
      · have eb : (if zI ((y % 16 : Nat) : Int) = 0 then (if zI (y : Int) = (240 : Int32) then some (0 : Int32) else some (1 : Int32)) else some (0 : Int32)) = some (0 : Int32) := by
          by_cases c1 : y % 16 = 0
          · rw [if_pos (by rw [c1]; rfl), if_pos (show zI (y : Int) = (240 : Int32) by rw [show y = 240 by omega]; rfl)]
          · rw [if_neg (nzN (by omega) (by omega))]
        have em : ∀ {α : Type} (X Y : α), (if zI ((y % 16 : Nat) : Int) = 0 then (if (15 : Int32) ≤ zI ((y / 16 : Nat) : Int) then X else Y) else X) = X := by
          intro α X Y
          by_cases c1 : y % 16 = 0
          · rw [if_pos (by rw [c1]; rfl), if_pos (show (15 : Int32) ≤ zI ((y / 16 : Nat) : Int) by rw [show y / 16 = 15 by omega]; decide)]
          · rw [if_neg (nzN (by omega) (by omega))]
        rw [eb, em]
        dsimp only [Option.bind_some]
        rw [if_pos (show (0 : Int32) = 0 from rfl), if_neg (show ¬ zI 1 = 0 by decide)]
        rcases q_new N hN hD hq hn hc hb hqT hbits hlast hk1 (by omega) hy cs h hR3 (f_M_readMore_L5 (zI last) (zI c) ot (zI dz) ln cd md (zI b) (zI bits) mb N fuel') with ⟨kk, co3, a5, p5, l5, f5, km, a6, t6, l6, f6, mco4, k1, k2, hX, hK3⟩ | ⟨k', co3, a5, p5, l5, f5, a6, t6, l6, f6, mco4, g1, g2, k1, k2, hR5, hB5⟩
        · left
          have hx := rX_nz hX
          obtain ⟨fuel', rfl⟩ : ∃ j, fuel' = j + 1 := ⟨fuel' - 1, by omega⟩
          rw [k1, k2, m5x N fuel' (Or.inr hx.2.1)]
          dsimp only [Option.bind_some]
          unfold f_Decoder_takeOthers_J35_143
          rw [if_neg hx.1]
          obtain ⟨run', hr'⟩ := mPrX N hN (last := zI last) (c := zI c) (p1 := zI b) (bits := zI bits) (size := zI dz) (k := km) (run := zI 0) (at2 := a6) (tk := t6) (left := l6) (mb := mb) (md := md) (mco := mco4) hx.2.1
          exact ⟨co3, a5, p5, l5, f5, zI 0, run', a6, t6, l6, f6, mco4, rfl, hr', hX, hK3⟩
        · rw [k1, k2]
          dsimp only [Option.bind_some]
          unfold f_Decoder_takeOthers_J35_143
          rw [if_pos (rR_z hR5).1, suN]
          exact q_refL N hN hD ht hT hq hn hc hb hot hqT hbits hlast m k' (wd + 1) fuel fuel' co3 mco4 a5 p5 l5 f5 a6 t6 l6 f6 (by omega) (by omega) (by omega) (by omega) (by omega) (by omega) hB5 hR5
    · left
      have i2 : ¬ zI ((y % 16 : Nat) : Int) ≤ (1 : Int32) := by rw [show (1 : Int32) = zI ((1 : Nat) : Int) from rfl, leN (by omega) (by omega)]; exact cs
      rw [if_neg i2, if_neg (nzN (b := y % 16) (by omega) (by omega))]
      unfold f_M_wrong f_M_wrong_J16 f_M_readMore_J5_73
      rw [if_pos hz3.2]
      dsimp only [Option.bind_some]
      rw [if_neg (show ¬ (3 : Int32) ≤ 0 by decide), if_pos (show (0 : Int32) = 0 from rfl), if_neg (show ¬ zI 1 = 0 by decide)]
      unfold f_Decoder_takeNewOne
      rw [and15N, if_neg i2]
      dsimp only [Option.bind_some]
      unfold f_Decoder_takeOthers_J35_143
      rw [if_neg (show ¬ (3 : Int32) = 0 by decide)]
      exact ⟨co, a3, p3, l3, zI (3 : Nat), zI 0, zI 0, a4, t4, l4, zI (3 : Nat), mco, rfl, rfl, ⟨3, by omega, by omega, rfl, rfl⟩, hK0⟩
/-- a band refined -/
theorem q_ref (N : Nat) (hN : 1000 ≤ N) {D : Nat → Nat} {dz nb : Nat} {sb md : Nat → Int32} (hD : rDt D dz nb sb md) {t : Nat} (ht : t < 8) {w s f x : Nat → Int32} {e z wdt : Int32} {ln cd : Nat → Int32} (hT : rTab1 t w s f x e z ln cd wdt) {K : Int32} {q : Nat} {co0 mco0 co mco : Nat → Int32} {nco : Nat} (hq : q + 64 ≤ nco) (hn : nco ≤ 12288) {c T b bits last fr rn : Nat} (h : rB K q fr co0 mco0 co mco) (hc : c < 4) {mb ot : Nat → Int32} (hb : mb c = zI (T : Nat)) (hot : ot c = zI (t : Nat)) (hqT : q = 64 * (T + b)) (hbits : bits ≤ 9) (hlast : last ≤ 63) (hfr : 1 ≤ fr) (hfl : fr ≤ last) (hrn : rn ≤ 32767) {at1 part left fl at2 tk left2 fl2 : Int32} (hR : rR dz at1 part left fl at2 tk left2 fl2) :
    (∃ co3 at3 part3 left3 fl3 run3 run4 at4 tk4 left4 fl4 mco4, f_Decoder_takeOthers N (zI q) (zI fr) nco co (zI 4) (zI last) (zI bits) (zI dz) nb sb at1 part left fl K (zI rn) e s f x = some (co3, at3, part3, left3, fl3, run3) ∧ f_M_readMore N (zI c) (zI b) (zI fr) (zI last) (zI bits) (zI dz) (zI rn) at2 tk left2 fl2 mb mco ln cd ot md = some (run4, at4, tk4, left4, fl4, mco4) ∧ rX fl3 fl4 ∧ (K = zI 0 → co3 = co0)) ∨
    (∃ (co3 : Nat → Int32) (at3 part3 left3 fl3 : Int32) (rn' : Nat) (at4 tk4 left4 fl4 : Int32) (mco4 : Nat → Int32), rn' ≤ 32767 ∧ f_Decoder_takeOthers N (zI q) (zI fr) nco co (zI 4) (zI last) (zI bits) (zI dz) nb sb at1 part left fl K (zI rn) e s f x = some (co3, at3, part3, left3, fl3, zI (rn' : Nat)) ∧ f_M_readMore N (zI c) (zI b) (zI fr) (zI last) (zI bits) (zI dz) (zI rn) at2 tk left2 fl2 mb mco ln cd ot md = some (zI (rn' : Nat), at4, tk4, left4, fl4, mco4) ∧ rR dz at3 part3 left3 fl3 at4 tk4 left4 fl4 ∧ rB K q 64 co0 mco0 co3 mco4) := by
  unfold f_Decoder_takeOthers f_Decoder_takeOthers_J16
  rw [if_pos (show zI 4 = (4 : Int32) from rfl), if_neg (show ¬ (1 : Int32) = 0 by decide)]
  have eC : f_Decoder_takeOthers_J29 N (zI last) (zI dz) nb sb e s f x (zI 4) (1 : Int32) (zI q) nco (zI bits) K (zI fr) co at1 part left fl (zI rn) = (f_Decoder_takeOthers_L35 (zI last) (zI dz) nb sb e s f x (zI 4) (zI 1) (zI q) nco (zI bits) K N N (zI fr, zI (0 : Nat), co, at1, part, left, fl, zI rn)).bind (cPo N (zI 1) (zI q) nco (zI last) (zI bits) (zI dz) nb sb K) := rfl
  have eM : f_M_readMore N (zI c) (zI b) (zI fr) (zI last) (zI bits) (zI dz) (zI rn) at2 tk left2 fl2 mb mco ln cd ot md = (f_M_readMore_L5 (zI last) (zI c) ot (zI dz) ln cd md (zI b) (zI bits) mb N N (zI fr, zI rn, at2, tk, left2, fl2, mco)).bind (mPr N (zI last) (zI c) mb (zI b) (zI bits) (zI dz) md) := rfl
  rw [eC, eM]
  by_cases r0 : rn = 0
  · subst r0
    exact q_refL N hN hD ht hT hq hn hc hb hot hqT hbits hlast (last + 1 - fr) fr 0 N N co mco at1 part left fl at2 tk left2 fl2 (by omega) (by omega) (by omega) (by omega) (by omega) (by omega) h hR
  · obtain ⟨M, rfl⟩ : ∃ M, N = M + 1 := ⟨N - 1, by omega⟩
    have rnz : ¬ zI (rn : Int) = 0 := nzN (by omega) (by omega)
    rw [c35x (M + 1) M rnz, m5x (M + 1) M (Or.inl rnz)]
    exact q_runR (M + 1) hN hD hq hn hc hb hqT hbits hlast hfr (by omega) (by omega) (by omega) h hR
/-! READING: a block -/
def okKR (kd f l b bf : Nat) : Prop := b ≤ 9 ∧ ((kd = 0 ∧ f = 0 ∧ l = 63 ∧ bf = 0 ∧ b = 0) ∨ (kd = 1 ∧ f = 0 ∧ l = 0 ∧ bf = 0) ∨ (kd = 2 ∧ f = 0 ∧ l = 0 ∧ bf = b + 1) ∨ (kd = 3 ∧ 1 ≤ f ∧ f ≤ l ∧ l ≤ 63 ∧ bf = 0) ∨ (kd = 4 ∧ 1 ≤ f ∧ f ≤ l ∧ l ≤ 63 ∧ bf = b + 1))
theorem q_blkR (N : Nat) (hN : 1000 ≤ N) {D : Nat → Nat} {dz nb : Nat} {sb md : Nat → Int32} (hD : rDt D dz nb sb md) {vw vs vf vx : Nat → Nat → Int32} {ve vz ln cd wd : Nat → Int32} (hA : rAll vw vs vf vx ve vz ln cd wd) {K : Int32} {q : Nat} {co mco : Nat → Int32} {kd f l bits bf rn : Nat} (hK : okKR kd f l bits bf) (h : rB K q (if kd = 4 then 1 else 64) co mco co mco) {nco : Nat} (hq : q + 64 ≤ nco) (hn : nco ≤ 12288) {c T b d o pos : Nat} (hc : c < 4) {mb dt dt' ot ot' ow pl : Nat → Int32} (hb : mb c = zI (T : Nat)) (hqT : q = 64 * (T + b)) (hdt : dt c = zI (d : Nat)) (hdt' : dt' c = zI (d : Nat)) (hd : d < 8) (hot : ot c = zI (o : Nat)) (hot' : ot' c = zI (o : Nat)) (ho : o < 8) (hpos : pos < 192) (how : ow pos = zI (c : Nat)) (hpl : pl pos = zI (q : Nat)) (hrn : rn ≤ 32767) (hlow : kd < 3 → rn = 0) {p p' : Nat → Int32} (hP : rPP p p') {at1 part left fl at2 tk left2 fl2 : Int32} (hR : rR dz at1 part left fl at2 tk left2 fl2) {v3 bl : Int32} (hpos2 : ¬ v3 + bl ≤ zI pos) (fuel : Nat) :
    (∃ co3 at3 part3 left3 fl3 run3 p3 run4 at4 tk4 left4 fl4 mco4 p4, f_Decoder_decode_L96 v3 bl ow ot (zI kd) pl nco (zI bits) dt (zI dz) nb sb K vs vf vx ve (zI l) (zI f) N (fuel + 1) (zI pos, co, at1, part, left, fl, zI rn, p) = f_Decoder_decode_L96 v3 bl ow ot (zI kd) pl nco (zI bits) dt (zI dz) nb sb K vs vf vx ve (zI l) (zI f) N fuel (zI (pos + 1 : Nat), co3, at3, part3, left3, fl3, run3, p3) ∧ f_M_readBlock N (zI c) (zI b) (zI f) (zI l) (zI bf) (zI bits) (zI dz) (zI rn) at2 tk left2 fl2 mb mco ln cd dt' ot' md p' = some (run4, at4, tk4, left4, fl4, mco4, p4) ∧ rX fl3 fl4 ∧ (K = zI 0 → co3 = co)) ∨
    (∃ (co3 : Nat → Int32) (at3 part3 left3 fl3 : Int32) (rn' : Nat) (p3 : Nat → Int32) (at4 tk4 left4 fl4 : Int32) (mco4 p4 : Nat → Int32), rn' ≤ 32767 ∧ (kd < 3 → rn' = 0) ∧ f_Decoder_decode_L96 v3 bl ow ot (zI kd) pl nco (zI bits) dt (zI dz) nb sb K vs vf vx ve (zI l) (zI f) N (fuel + 1) (zI pos, co, at1, part, left, fl, zI rn, p) = f_Decoder_decode_L96 v3 bl ow ot (zI kd) pl nco (zI bits) dt (zI dz) nb sb K vs vf vx ve (zI l) (zI f) N fuel (zI (pos + 1 : Nat), co3, at3, part3, left3, fl3, zI (rn' : Nat), p3) ∧ f_M_readBlock N (zI c) (zI b) (zI f) (zI l) (zI bf) (zI bits) (zI dz) (zI rn) at2 tk left2 fl2 mb mco ln cd dt' ot' md p' = some (zI (rn' : Nat), at4, tk4, left4, fl4, mco4, p4) ∧ rR dz at3 part3 left3 fl3 at4 tk4 left4 fl4 ∧ rB K q 64 co mco co3 mco4 ∧ rPP p3 p4) := by
  have hz := rR_z hR
  have gp := inN pos 192 hpos (by omega)
  have gc := inN c 4 hc (by omega)
  have go := inN o 8 ho (by omega)
  have step : f_Decoder_decode_L96 v3 bl ow ot (zI kd) pl nco (zI bits) dt (zI dz) nb sb K vs vf vx ve (zI l) (zI f) N (fuel + 1) (zI pos, co, at1, part, left, fl, zI rn, p) = f_Decoder_decode_L96b v3 bl ow ot (zI kd) pl nco (zI bits) dt (zI dz) nb sb K vs vf vx ve (zI l) (zI f) N (f_Decoder_decode_L96 v3 bl ow ot (zI kd) pl nco (zI bits) dt (zI dz) nb sb K vs vf vx ve (zI l) (zI f) N fuel) (zI pos) co at1 part left fl (zI rn) p := rfl
  rw [step]
  unfold f_Decoder_decode_L96b f_Decoder_decode_J96_261 f_M_readBlock f_M_readBlock_J13 f_M_readBlock_J58 f_M_readBlock_J52
  rw [if_neg hpos2, if_pos hz.1, clN pos (by omega), if_neg gp, if_neg gp, how, clN c (by omega), if_neg gc, hot, clN o (by omega), if_neg go, hpl, suN]
  have nzl : ∀ m : Nat, 1 ≤ m → m ≤ 100 → ¬ zI (m : Int) ≤ 0 ∧ ¬ zI (m : Int) = 0 := fun m h1 h2 => ⟨by rw [show (0 : Int32) = zI ((0 : Nat) : Int) from rfl, leN (by omega) (by omega)]; omega, nzN (by omega) (by omega)⟩
  obtain ⟨hb9, hk⟩ := hK
  rcases hk with ⟨k0, rfl, rfl, rfl, rfl⟩ | ⟨k0, rfl, rfl, rfl⟩ | ⟨k0, rfl, rfl, rfl⟩ | ⟨k0, f1, f2, f3, rfl⟩ | ⟨k0, f1, f2, f3, rfl⟩
  · -- whole
    subst k0
    rw [hlow (by omega)] at *
    rw [if_pos (show zI ((0 : Nat) : Int) = (0 : Int32) from rfl), if_pos (show zI ((0 : Nat) : Int) = (0 : Int32) from rfl)]
    rw [if_neg (by omega)] at h
    rcases q_tDir N hN hD hA h hq hn hc hb hqT hdt hdt' hd (bits := 0) (by omega) hP hR with ⟨a3, p3, l3, f3, pr3, a4, t4, l4, f4, mco4, pr4, h1, h2, hX⟩ | ⟨co3, a3, p3, l3, f3, pr3, a4, t4, l4, f4, mco4, pr4, h1, h2, hR3, hB3, hP3⟩
    · left
      have hx := rX_nz hX
      rw [h1, show f_M_readDirect N (zI c) (zI b) (zI ((0 : Nat) : Int)) (zI ((0 : Nat) : Int)) (zI dz) at2 tk left2 fl2 mb mco ln cd dt' md p' = _ from h2]
      dsimp only [Option.bind_some]
      rw [if_neg hx.1, if_neg (nzl 63 (by omega) (by omega)).1, if_pos (show zI ((0 : Nat) : Int) = (0 : Int32) from rfl), if_neg hx.2.1, if_neg hx.2.1]
      exact ⟨_, _, _, _, _, _, _, _, _, _, _, _, _, _, rfl, rfl, hX, fun _ => rfl⟩
    · have hz3 := rR_z hR3
      rw [h1, show f_M_readDirect N (zI c) (zI b) (zI ((0 : Nat) : Int)) (zI ((0 : Nat) : Int)) (zI dz) at2 tk left2 fl2 mb mco ln cd dt' md p' = _ from h2]
      dsimp only [Option.bind_some]
      rw [if_pos hz3.1, if_neg (nzl 63 (by omega) (by omega)).1, if_pos (show zI ((0 : Nat) : Int) = (0 : Int32) from rfl), if_pos hz3.2, if_pos (show zI ((0 : Nat) : Int) = (0 : Int32) from rfl)]
      rcases q_oth N hN hD ho (hA o ho) hB3 hq hn hc hb hot' hqT (bits := 0) (by omega) (last := 63) (by omega) (kd := 0) (fr := 1) (fi := 0) (rn := 0) (by omega) (by omega) (Or.inl ⟨rfl, rfl, rfl, rfl⟩) hR3 with ⟨co5, a5, p5, l5, f5, run5, run6, a6, t6, l6, f6, mco6, h3, h4, hX, hK5⟩ | ⟨co5, a5, p5, l5, f5, rn', a6, t6, l6, f6, mco6, r1, r2, h3, h4, hR5, hB5⟩
      · left
        rw [show f_Decoder_takeOthers N (zI q) (1 : Int32) nco co3 (zI ((0 : Nat) : Int)) (zI ((63 : Nat) : Int)) (zI ((0 : Nat) : Int)) (zI dz) nb sb a3 p3 l3 f3 K (zI ((0 : Nat) : Int)) (ve o) (vs o) (vf o) (vx o) = _ from h3, show f_M_readOthers N (zI c) (zI b) (1 : Int32) (zI ((0 : Nat) : Int)) (zI ((63 : Nat) : Int)) (zI ((0 : Nat) : Int)) (zI dz) (zI ((0 : Nat) : Int)) a4 t4 l4 f4 mb mco4 ln cd ot' md = _ from h4]
        exact ⟨_, _, _, _, _, _, _, _, _, _, _, _, _, _, rfl, rfl, hX, hK5⟩
      · right
        rw [show f_Decoder_takeOthers N (zI q) (1 : Int32) nco co3 (zI ((0 : Nat) : Int)) (zI ((63 : Nat) : Int)) (zI ((0 : Nat) : Int)) (zI dz) nb sb a3 p3 l3 f3 K (zI ((0 : Nat) : Int)) (ve o) (vs o) (vf o) (vx o) = _ from h3, show f_M_readOthers N (zI c) (zI b) (1 : Int32) (zI ((0 : Nat) : Int)) (zI ((63 : Nat) : Int)) (zI ((0 : Nat) : Int)) (zI dz) (zI ((0 : Nat) : Int)) a4 t4 l4 f4 mb mco4 ln cd ot' md = _ from h4]
        exact ⟨_, _, _, _, _, rn', _, _, _, _, _, _, _, r1, fun _ => r2 rfl, rfl, rfl, hR5, hB5, hP3⟩
  · -- direct
    subst k0
    rw [hlow (by omega)] at *
    rw [if_neg (show ¬ zI ((1 : Nat) : Int) = (0 : Int32) by decide), if_pos (show zI ((1 : Nat) : Int) = (1 : Int32) from rfl), if_pos (show zI ((0 : Nat) : Int) = (0 : Int32) from rfl)]
    rw [if_neg (by omega)] at h
    rcases q_tDir N hN hD hA h hq hn hc hb hqT hdt hdt' hd (bits := bits) hb9 hP hR with ⟨a3, p3, l3, f3, pr3, a4, t4, l4, f4, mco4, pr4, h1, h2, hX⟩ | ⟨co3, a3, p3, l3, f3, pr3, a4, t4, l4, f4, mco4, pr4, h1, h2, hR3, hB3, hP3⟩
    · left
      rw [h1, show f_M_readDirect N (zI c) (zI b) (zI ((0 : Nat) : Int)) (zI bits) (zI dz) at2 tk left2 fl2 mb mco ln cd dt' md p' = _ from h2]
      dsimp only [Option.bind_some]
      rw [if_pos (show zI ((0 : Nat) : Int) ≤ (0 : Int32) by decide), if_pos (show zI ((0 : Nat) : Int) ≤ (0 : Int32) by decide)]
      exact ⟨_, _, _, _, _, _, _, _, _, _, _, _, _, _, rfl, rfl, hX, fun _ => rfl⟩
    · right
      rw [h1, show f_M_readDirect N (zI c) (zI b) (zI ((0 : Nat) : Int)) (zI bits) (zI dz) at2 tk left2 fl2 mb mco ln cd dt' md p' = _ from h2]
      dsimp only [Option.bind_some]
      rw [if_pos (show zI ((0 : Nat) : Int) ≤ (0 : Int32) by decide), if_pos (show zI ((0 : Nat) : Int) ≤ (0 : Int32) by decide)]
      exact ⟨_, _, _, _, _, 0, _, _, _, _, _, _, _, by omega, fun _ => rfl, rfl, rfl, hR3, hB3, hP3⟩
  · -- direct, refined
    subst k0
    rw [hlow (by omega)] at *
    rw [if_neg (show ¬ zI ((2 : Nat) : Int) = (0 : Int32) by decide), if_neg (show ¬ zI ((2 : Nat) : Int) = (1 : Int32) by decide), if_pos (show zI ((2 : Nat) : Int) = (2 : Int32) from rfl), if_pos (show zI ((0 : Nat) : Int) = (0 : Int32) from rfl)]
    rw [if_neg (by omega)] at h
    rcases q_rDir N hN hD h hq hn hc hb hqT (bits := bits) hb9 (bf := bits + 1) (by omega) (by omega) p' ln cd dt' hR with ⟨a3, p3, l3, f3, a4, t4, l4, f4, mco4, h1, h2, hX⟩ | ⟨co3, a3, p3, l3, f3, a4, t4, l4, f4, mco4, h1, h2, hR3, hB3⟩
    · left
      rw [h1, h2]
      dsimp only [Option.bind_some]
      rw [if_pos (show zI ((0 : Nat) : Int) ≤ (0 : Int32) by decide), if_pos (show zI ((0 : Nat) : Int) ≤ (0 : Int32) by decide)]
      exact ⟨_, _, _, _, _, _, _, _, _, _, _, _, _, _, rfl, rfl, hX, fun _ => rfl⟩
    · right
      rw [h1, h2]
      dsimp only [Option.bind_some]
      rw [if_pos (show zI ((0 : Nat) : Int) ≤ (0 : Int32) by decide), if_pos (show zI ((0 : Nat) : Int) ≤ (0 : Int32) by decide)]
      exact ⟨_, _, _, _, _, 0, _, _, _, _, _, _, _, by omega, fun _ => rfl, rfl, rfl, hR3, hB3, hP⟩
  · -- band
    subst k0
    rw [if_neg (show ¬ zI ((3 : Nat) : Int) = (0 : Int32) by decide), if_neg (show ¬ zI ((3 : Nat) : Int) = (1 : Int32) by decide), if_neg (show ¬ zI ((3 : Nat) : Int) = (2 : Int32) by decide), if_neg (nzl f (by omega) (by omega)).2, if_neg (nzl l (by omega) (by omega)).1, if_pos (show zI ((0 : Nat) : Int) = (0 : Int32) from rfl), if_pos hz.2, if_neg (nzl f (by omega) (by omega)).2]
    rw [if_neg (by omega)] at h
    rcases q_oth N hN hD ho (hA o ho) h hq hn hc hb hot' hqT (bits := bits) hb9 (last := l) (by omega) (kd := 3) (fr := f) (fi := f) (rn := rn) (by omega) (by omega) (Or.inr ⟨rfl, rfl, f1⟩) hR with ⟨co5, a5, p5, l5, f5, run5, run6, a6, t6, l6, f6, mco6, h3, h4, hX, hK5⟩ | ⟨co5, a5, p5, l5, f5, rn', a6, t6, l6, f6, mco6, r1, r2, h3, h4, hR5, hB5⟩
    · left
      rw [h3, h4]
      exact ⟨_, _, _, _, _, _, _, _, _, _, _, _, _, _, rfl, rfl, hX, hK5⟩
    · right
      rw [h3, h4]
      exact ⟨_, _, _, _, _, rn', _, _, _, _, _, _, _, r1, fun h => by omega, rfl, rfl, hR5, hB5, hP⟩
  · -- band, refined
    subst k0
    rw [if_neg (show ¬ zI ((4 : Nat) : Int) = (0 : Int32) by decide), if_neg (show ¬ zI ((4 : Nat) : Int) = (1 : Int32) by decide), if_neg (show ¬ zI ((4 : Nat) : Int) = (2 : Int32) by decide), if_neg (nzl f (by omega) (by omega)).2, if_neg (nzl l (by omega) (by omega)).1, if_neg (nzl (bits + 1) (by omega) (by omega)).2, if_neg (nzl l (by omega) (by omega)).1, if_pos hz.2]
    rw [if_pos rfl] at h
    rcases q_ref N hN hD ho (hA o ho) hq hn (rB_mono h f1) hc hb hot' hqT (bits := bits) hb9 (last := l) (by omega) f1 f2 hrn hR with ⟨co5, a5, p5, l5, f5, run5, run6, a6, t6, l6, f6, mco6, h3, h4, hX, hK5⟩ | ⟨co5, a5, p5, l5, f5, rn', a6, t6, l6, f6, mco6, r1, h3, h4, hR5, hB5⟩
    · left
      rw [show f_Decoder_takeOthers N (zI q) (zI f) nco co (zI ((4 : Nat) : Int)) (zI l) (zI bits) (zI dz) nb sb at1 part left fl K (zI rn) (ve o) (vs o) (vf o) (vx o) = _ from h3, h4]
      exact ⟨_, _, _, _, _, _, _, _, _, _, _, _, _, _, rfl, rfl, hX, hK5⟩
    · right
      rw [show f_Decoder_takeOthers N (zI q) (zI f) nco co (zI ((4 : Nat) : Int)) (zI l) (zI bits) (zI dz) nb sb at1 part left fl K (zI rn) (ve o) (vs o) (vf o) (vx o) = _ from h3, h4]
      exact ⟨_, _, _, _, _, rn', _, _, _, _, _, _, _, r1, fun h => by omega, rfl, rfl, hR5, hB5, hP⟩
