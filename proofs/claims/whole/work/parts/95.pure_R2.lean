/-! READING: one of the others -/
theorem and15N (y : Nat) : zI (y : Int) &&& (15 : Int32) = zI ((y % 16 : Nat) : Int) := by
  rw [show (15 : Int32) = zI 15 from rfl, zI_and15]; rfl
theorem shr4N (y : Nat) (hy : y < 256) : zI (y : Int) >>> ((4 : Int32) &&& 31) = zI ((y / 16 : Nat) : Int) := by
  rw [show (4 : Int32) = zI 4 from rfl, show (31 : Int32) = zI 31 from rfl, zI_shr (by omega) (by omega) (by decide) (by decide)]; rfl
theorem addN (a b : Nat) : zI (a : Int) + zI (b : Int) = zI ((a + b : Nat) : Int) := by rw [zI_add]; rfl
theorem cBe_amt {k b : Nat} {v : Int} (hk : 1 ≤ k) : cBe k (v * ((2 ^ b : Nat) : Int)) ↔ v.natAbs ≤ 1023 / 2 ^ b := by
  have hp : 0 < 2 ^ b := Nat.two_pow_pos b
  rw [Nat.le_div_iff_mul_le hp]
  unfold cBe
  rw [if_neg (by omega)]
  have e : (v * ((2 ^ b : Nat) : Int)).natAbs = v.natAbs * 2 ^ b := by rw [Int.natAbs_mul, Int.natAbs_natCast]
  omega
set_option maxHeartbeats 1000000 in
theorem q_tOther (N : Nat) (hN : 1000 ≤ N) {D : Nat → Nat} {dz nb : Nat} {sb md : Nat → Int32} (hD : rDt D dz nb sb md) {K : Int32} {q : Nat} {co0 mco0 co mco : Nat → Int32} (h : rB K q 64 co0 mco0 co mco) {nco : Nat} (hq : q + 64 ≤ nco) (hn : nco ≤ 12288) {c T b bits last k y : Nat} (hc : c < 4) {mb : Nat → Int32} (hb : mb c = zI (T : Nat)) (hqT : q = 64 * (T + b)) (hbits : bits ≤ 9) (hlast : last ≤ 63) (hk1 : 1 ≤ k) (hk : k ≤ last) (hy : y < 256) {at1 part left fl at2 tk left2 fl2 : Int32} (hR : rR dz at1 part left fl at2 tk left2 fl2) (g : (Int32 × Int32 × Int32 × Int32 × Int32 × (Nat → Int32)) → Option (Nat × Int32 × Int32 × Int32 × Int32 × Int32 × (Nat → Int32))) :
    (∃ kk, f_Decoder_takeOther N (zI y) (zI q) (zI k) nco co (zI last) (zI bits) (zI dz) nb sb at1 part left fl K = some (kk, co, at1, part, left, zI (3 : Nat)) ∧ (y % 16 = 0 ∧ y ≠ 240 ∨ f_M_readOthers_J78_178 N g (zI (y % 16 : Nat)) (zI (y / 16 : Nat)) at2 tk left2 fl2 mco (zI k) (zI last) (zI dz) md (zI bits) (zI c) (zI b) mb = some (2, zI (y / 16 : Nat), at2, tk, left2, fl2, mco))) ∨
    (∃ kk at3 part3 left3 fl3 km at4 tk4 left4 fl4, f_Decoder_takeOther N (zI y) (zI q) (zI k) nco co (zI last) (zI bits) (zI dz) nb sb at1 part left fl K = some (kk, co, at3, part3, left3, fl3) ∧ ¬ (y % 16 = 0) ∧ f_M_readOthers_J78_178 N g (zI (y % 16 : Nat)) (zI (y / 16 : Nat)) at2 tk left2 fl2 mco (zI k) (zI last) (zI dz) md (zI bits) (zI c) (zI b) mb = g (km, at4, tk4, left4, fl4, mco) ∧ rX fl3 fl4) ∨
    (∃ (k' : Nat) (co3 : Nat → Int32) (at3 part3 left3 fl3 at4 tk4 left4 fl4 : Int32) (mco4 : Nat → Int32), k < k' ∧ k' ≤ last + 1 ∧ f_Decoder_takeOther N (zI y) (zI q) (zI k) nco co (zI last) (zI bits) (zI dz) nb sb at1 part left fl K = some (zI (k' : Nat), co3, at3, part3, left3, fl3) ∧ ¬ (y % 16 = 0 ∧ y ≠ 240) ∧ f_M_readOthers_J78_178 N g (zI (y % 16 : Nat)) (zI (y / 16 : Nat)) at2 tk left2 fl2 mco (zI k) (zI last) (zI dz) md (zI bits) (zI c) (zI b) mb = g (zI (k' : Nat), at4, tk4, left4, fl4, mco4) ∧ rR dz at3 part3 left3 fl3 at4 tk4 left4 fl4 ∧ rB K q 64 co0 mco0 co3 mco4) := by
  have hb9 := pow9 hbits
  unfold f_Decoder_takeOther f_Decoder_takeOther_J44 f_M_readOthers_J78_178 f_M_readOthers_J78_276
  rw [and15N, shr4N y hy, addN]
  have l10 : ∀ s : Nat, s < 16 → (((10 : Int32) < zI (s : Int)) = (10 < s)) := fun s hs => by rw [show (10 : Int32) = zI ((10 : Nat) : Int) from rfl, ltN (by omega) (by omega)]
  have hs16 : y % 16 < 16 := Nat.mod_lt _ (by omega)
  have hr16 : y / 16 < 16 := by omega
  obtain ⟨s, hs⟩ : ∃ s, s = y % 16 := ⟨_, rfl⟩
  obtain ⟨r, hr⟩ : ∃ r, r = y / 16 := ⟨_, rfl⟩
  rw [← hs] at hs16
  rw [← hr] at hr16
  rw [← hs, ← hr]
  by_cases c10 : 10 < s
  · left
    have i10 : (10 : Int32) < zI (s : Int) := by rw [l10 s hs16]; exact c10
    rw [if_pos i10, if_pos i10]
    exact ⟨_, rfl, Or.inr rfl⟩
  · have i10 : ¬ (10 : Int32) < zI (s : Int) := by rw [l10 s hs16]; exact c10
    rw [if_neg i10, if_neg i10]
    unfold f_Decoder_takeOther_J32 f_Decoder_takeOther_J97 f_Decoder_takeOther_J44
    by_cases s0 : s = 0
    · rw [s0, if_pos (show zI ((0 : Nat) : Int) = 0 from rfl)]
      by_cases y240 : y = 240
      · have r15 : r = 15 := by omega
        rw [if_pos (show zI (y : Int) = (240 : Int32) by rw [y240]; rfl), r15]
        by_cases ck : k + 15 ≤ last
        · right; right
          have ik : zI ((k + 15 : Nat) : Int) ≤ zI (last : Int) := by rw [leN (by omega) (by omega)]; exact ck
          rw [if_pos ik, if_pos ik, if_pos (show zI ((0 : Nat) : Int) ≤ 0 by decide), if_pos (show zI ((0 : Nat) : Int) ≤ 0 by decide), suN]
          exact ⟨k + 15 + 1, co, at1, part, left, fl, at2, tk, left2, fl2, mco, by omega, by omega, rfl, by omega, rfl, hR, h⟩
        · left
          have ik : ¬ zI ((k + 15 : Nat) : Int) ≤ zI (last : Int) := by rw [leN (by omega) (by omega)]; exact ck
          rw [if_neg ik, if_neg ik]
          exact ⟨_, rfl, Or.inr rfl⟩
      · left
        rw [if_neg (show ¬ zI (y : Int) = (240 : Int32) by rw [show (240 : Int32) = zI ((240 : Nat) : Int) from rfl, eqN (by omega) (by omega)]; exact y240)]
        exact ⟨_, rfl, Or.inl ⟨rfl, y240⟩⟩
    · rw [if_neg (nzN (b := s) (by omega) (by omega))]
      by_cases ck : k + r ≤ last
      · have ik : zI ((k + r : Nat) : Int) ≤ zI (last : Int) := by rw [leN (by omega) (by omega)]; exact ck
        have is0 : ¬ zI (s : Int) ≤ 0 := by rw [show (0 : Int32) = zI ((0 : Nat) : Int) from rfl, leN (by omega) (by omega)]; omega
        rw [if_pos ik, if_pos ik, if_neg is0, if_neg is0]
        rcases q_num N (by omega) hD s (by omega) hR with ⟨v, a5, p5, l5, f5, v', a6, t6, l6, f6, k1, k2, hX⟩ | ⟨v, a5, p5, l5, f5, a6, t6, l6, f6, v1, v2, k1, k2, hR5⟩
        · right; left
          have hx := rX_nz hX
          rw [k1, k2]
          dsimp only [Option.bind_some]
          unfold f_M_readOthers_J78_238 f_M_readOthers_J78_273 f_M_readOthers_J78_276
          rw [if_neg hx.1]
          simp only [q_becX hx.2.1, Option.bind_some]
          refine ⟨_, a5, p5, l5, f5, zI ((k + r : Nat) : Int) + (1 : Int32), a6, t6, l6, f6, rfl, s0, ?_, hX⟩
          by_cases c1 : 0 ≤ v'
          · rw [if_pos c1]
            by_cases c2 : v' ≤ (1023 : Int32) >>> (zI (bits : Int) &&& 31)
            · rw [if_pos c2]
            · rw [if_neg c2]
          · rw [if_neg c1]
            by_cases c2 : -v' ≤ (1023 : Int32) >>> (zI (bits : Int) &&& 31)
            · rw [if_pos c2]
            · rw [if_neg c2]
        · right
          have hz5 := rR_z hR5
          have h2s : 2 ^ s ≤ 1024 := Nat.pow_le_pow_right (n := 2) (by omega) (show s ≤ 10 by omega)
          rw [k1, k2]
          dsimp only [Option.bind_some]
          rw [if_pos hz5.1, shl_b bits (by omega), zI_mul]
          unfold f_M_readOthers_J78_238 f_M_readOthers_J78_273 f_M_readOthers_J78_276
          have e1023 : (1023 : Int32) >>> (zI (bits : Int) &&& 31) = zI ((1023 / 2 ^ bits : Nat) : Int) := by
            rw [show (1023 : Int32) = zI 1023 from rfl, show (31 : Int32) = zI 31 from rfl, zI_shr (by omega) (by omega) (by omega) (by omega), Int.toNat_natCast, show (1023 : Int) = ((1023 : Nat) : Int) from rfl, p_shr]
          have hd1 : 1023 / 2 ^ bits ≤ 1023 := Nat.div_le_self _ _
          obtain ⟨Xx, hXx⟩ : ∃ X, X = 1023 / 2 ^ bits := ⟨_, rfl⟩
          rw [← hXx] at hd1 e1023
          rw [e1023, shl_b bits (by omega), zI_mul, zI_neg]
          have am : ∀ {α : Type} (X Y : α), (if 0 ≤ zI v then (if zI v ≤ zI ((Xx : Nat) : Int) then X else Y) else (if zI (-v) ≤ zI ((Xx : Nat) : Int) then X else Y)) = if v.natAbs ≤ Xx then X else Y := by
            intro α X Y
            by_cases c1 : 0 ≤ v
            · rw [if_pos (show 0 ≤ zI v by rw [show (0 : Int32) = zI 0 from rfl, zI_le (by omega) (by omega) (by omega) (by omega)]; exact c1)]
              by_cases c2 : v.natAbs ≤ Xx
              · rw [if_pos (show zI v ≤ zI ((Xx : Nat) : Int) by rw [zI_le (by omega) (by omega) (by omega) (by omega)]; omega), if_pos c2]
              · rw [if_neg (show ¬ zI v ≤ zI ((Xx : Nat) : Int) by rw [zI_le (by omega) (by omega) (by omega) (by omega)]; omega), if_neg c2]
            · rw [if_neg (show ¬ 0 ≤ zI v by rw [show (0 : Int32) = zI 0 from rfl, zI_le (by omega) (by omega) (by omega) (by omega)]; exact c1)]
              by_cases c2 : v.natAbs ≤ Xx
              · rw [if_pos (show zI (-v) ≤ zI ((Xx : Nat) : Int) by rw [zI_le (by omega) (by omega) (by omega) (by omega)]; omega), if_pos c2]
              · rw [if_neg (show ¬ zI (-v) ≤ zI ((Xx : Nat) : Int) by rw [zI_le (by omega) (by omega) (by omega) (by omega)]; omega), if_neg c2]
          have m1 := mul_bd (v := v) (A := 1024) (by omega) (by omega) (show (0 : Int) ≤ ((2 ^ bits : Nat) : Int) by omega) (by omega)
          rw [am]
          by_cases cb : v.natAbs ≤ Xx
          · right
            rw [if_pos cb]
            obtain ⟨co', mco', q1, q2, q3⟩ := q_keepY h hq hn (j := k + r) (k' := 64) (by omega) (by omega) (by omega) ((cBe_amt (by omega)).mpr (by rw [← hXx]; exact cb)) hc hb hqT (fl := f5) hz5.2
            rw [q1, q2]
            dsimp only [Option.bind_some]
            rw [suN]
            exact ⟨k + r + 1, co', a5, p5, l5, f5, a6, t6, l6, f6, mco', by omega, by omega, rfl, by omega, rfl, hR5, q3⟩
          · left
            rw [if_neg cb]
            have n9 : ¬ cBe (k + r) 9999 := fun h => absurd h.2 (by omega)
            obtain ⟨q1, q2⟩ := q_keepN (K := K) (q := q) (co := co) (mco := mco) (nco := nco) (j := k + r) (z := v * ((2 ^ bits : Nat) : Int)) (z' := 9999) (by omega) (by omega) (by omega) (fun h => cb (by rw [hXx]; exact (cBe_amt (by omega)).mp h)) n9 (c := c) (b := b) (mb := mb) (fl := f5) hz5.2
            rw [q1, show f_M_become (zI c) (zI b) (zI ((k + r : Nat) : Int)) (9999 : Int32) f6 mb mco = some (zI (4 : Nat), mco) from q2]
            exact ⟨_, a5, p5, l5, _, _, a6, t6, l6, _, rfl, s0, rfl, ⟨4, by omega, by omega, rfl, rfl⟩⟩
      · left
        have ik : ¬ zI ((k + r : Nat) : Int) ≤ zI (last : Int) := by rw [leN (by omega) (by omega)]; exact ck
        rw [if_neg ik, if_neg ik]
        exact ⟨_, rfl, Or.inr rfl⟩
/-! READING: the others of a first pass, all of them -/
def cPo (N : Nat) (v4 p1 : Int32) (nco : Nat) (last bits size : Int32) (nb : Nat) (sb : Nat → Int32) (K : Int32) (z6 : Nat × Int32 × (Nat → Int32) × Int32 × Int32 × Int32 × Int32 × Int32) : Option ((Nat → Int32) × Int32 × Int32 × Int32 × Int32 × Int32) :=
  if z6.1 = 0 then some (z6.2.2.1, z6.2.2.2.1, z6.2.2.2.2.1, z6.2.2.2.2.2.1, z6.2.2.2.2.2.2.1, z6.2.2.2.2.2.2.2) else if z6.1 = 1 then some (z6.2.2.1, z6.2.2.2.1, z6.2.2.2.2.1, z6.2.2.2.2.2.1, z6.2.2.2.2.2.2.1, z6.2.2.2.2.2.2.2) else f_Decoder_takeOthers_J160 N z6.2.2.2.2.2.2.2 z6.2.2.1 z6.2.2.2.1 z6.2.2.2.2.1 z6.2.2.2.2.2.1 z6.2.2.2.2.2.2.1 v4 p1 z6.2.1 nco last bits size nb sb K
def mPo (N : Nat) (size : Int32) (md : Nat → Int32) (v4 run : Int32) (z5 : Nat × Int32 × Int32 × Int32 × Int32 × Int32 × (Nat → Int32)) : Option (Int32 × Int32 × Int32 × Int32 × Int32 × (Nat → Int32)) :=
  if z5.1 = 0 then some (run, z5.2.2.1, z5.2.2.2.1, z5.2.2.2.2.1, z5.2.2.2.2.2.1, z5.2.2.2.2.2.2) else if z5.1 = 1 then (if v4 = 0 then
    if z5.2.1 ≤ 0 then
      some (run, z5.2.2.1, z5.2.2.2.1, z5.2.2.2.2.1, z5.2.2.2.2.2.1, z5.2.2.2.2.2.2)
    else
      (f_M_wrong (3 : Int32) z5.2.2.2.2.2.1).bind fun z6 =>
      some (run, z5.2.2.1, z5.2.2.2.1, z5.2.2.2.2.1, z6.2, z5.2.2.2.2.2.2)
  else
    (f_M_takes N z5.2.1 size z5.2.2.1 z5.2.2.2.1 z5.2.2.2.2.1 z5.2.2.2.2.2.1 md).bind fun z7 =>
    some ((((1 : Int32) <<< (z5.2.1 &&& 31)) + z7.1) - (1 : Int32), z7.2.1, z7.2.2.1, z7.2.2.2.1, z7.2.2.2.2, z5.2.2.2.2.2.2)) else if z5.1 = 2 then f_M_readOthers_J197 N z5.2.2.2.2.2.1 run z5.2.2.1 z5.2.2.2.1 z5.2.2.2.2.1 z5.2.2.2.2.2.2 else some (run, z5.2.2.1, z5.2.2.2.1, z5.2.2.2.2.1, z5.2.2.2.2.2.1, z5.2.2.2.2.2.2)
theorem c35x (N fuel : Nat) {last size e kind v4 p1 bits K k wd at1 part left fl run : Int32} {nb nco : Nat} {sb s f x co : Nat → Int32} (hr : ¬ run = 0) : f_Decoder_takeOthers_L35 last size nb sb e s f x kind v4 p1 nco bits K N (fuel + 1) (k, wd, co, at1, part, left, fl, run) = some (2, k, co, at1, part, left, fl, run) := by
  show f_Decoder_takeOthers_L35b _ _ _ _ _ _ _ _ _ _ _ _ _ _ N (f_Decoder_takeOthers_L35 _ _ _ _ _ _ _ _ _ _ _ _ _ _ N fuel) _ _ _ _ _ _ _ _ = _
  unfold f_Decoder_takeOthers_L35b
  by_cases c1 : (64 : Int32) ≤ wd
  · rw [if_pos c1]
  · rw [if_neg c1]
    by_cases c2 : last < k
    · rw [if_pos c2]
    · rw [if_neg c2, if_neg hr]
theorem c35e (N fuel : Nat) {last size e kind v4 p1 bits K k wd at1 part left fl run : Int32} {nb nco : Nat} {sb s f x co : Nat → Int32} (hr : last < k) : f_Decoder_takeOthers_L35 last size nb sb e s f x kind v4 p1 nco bits K N (fuel + 1) (k, wd, co, at1, part, left, fl, run) = some (2, k, co, at1, part, left, fl, run) := by
  show f_Decoder_takeOthers_L35b _ _ _ _ _ _ _ _ _ _ _ _ _ _ N (f_Decoder_takeOthers_L35 _ _ _ _ _ _ _ _ _ _ _ _ _ _ N fuel) _ _ _ _ _ _ _ _ = _
  unfold f_Decoder_takeOthers_L35b
  by_cases c1 : (64 : Int32) ≤ wd
  · rw [if_pos c1]
  · rw [if_neg c1, if_pos hr]
theorem m78x (N fuel : Nat) {last c size bits p1 k at2 tk left fl : Int32} {ot ln cd md mb mco : Nat → Int32} (hr : ¬ fl = 0) : f_M_readOthers_L78 last c ot size ln cd md bits p1 mb N (fuel + 1) (k, at2, tk, left, fl, mco) = some (3, (0 : Int32), at2, tk, left, fl, mco) := by
  show f_M_readOthers_L78b _ _ _ _ _ _ _ _ _ _ N (f_M_readOthers_L78 _ _ _ _ _ _ _ _ _ _ N fuel) _ _ _ _ _ _ = _
  unfold f_M_readOthers_L78b
  by_cases c1 : last < k
  · rw [if_pos c1]
  · rw [if_neg c1, if_neg hr]
set_option maxHeartbeats 1000000 in
theorem q_othL (N : Nat) (hN : 1000 ≤ N) {D : Nat → Nat} {dz nb : Nat} {sb md : Nat → Int32} (hD : rDt D dz nb sb md) {t : Nat} (ht : t < 8) {w s f x : Nat → Int32} {e z wdt : Int32} {ln cd : Nat → Int32} (hT : rTab1 t w s f x e z ln cd wdt) {K : Int32} {q : Nat} {co0 mco0 : Nat → Int32} {nco : Nat} (hq : q + 64 ≤ nco) (hn : nco ≤ 12288) {c T b bits last kd bd : Nat} (hc : c < 4) {mb ot : Nat → Int32} (hb : mb c = zI (T : Nat)) (hot : ot c = zI (t : Nat)) (hqT : q = 64 * (T + b)) (hbits : bits ≤ 9) (hlast : last ≤ 63) (hkd : kd = 0 ∧ bd = 0 ∨ kd = 3 ∧ bd = 1) :
    ∀ (m k wd fuel fuel' : Nat) (co mco : Nat → Int32) (at1 part left fl at2 tk left2 fl2 : Int32), last + 1 - k ≤ m → 1 ≤ k → k ≤ last + 1 → wd ≤ k → m + 1 < fuel → m + 1 < fuel' → rB K q 64 co0 mco0 co mco → rR dz at1 part left fl at2 tk left2 fl2 →
    (∃ co3 at3 part3 left3 fl3 run3 run4 at4 tk4 left4 fl4 mco4, (f_Decoder_takeOthers_L35 (zI last) (zI dz) nb sb e s f x (zI kd) (zI 0) (zI q) nco (zI bits) K N fuel (zI k, zI wd, co, at1, part, left, fl, zI 0)).bind (cPo N (zI 0) (zI q) nco (zI last) (zI bits) (zI dz) nb sb K) = some (co3, at3, part3, left3, fl3, run3) ∧ (f_M_readOthers_L78 (zI last) (zI c) ot (zI dz) ln cd md (zI bits) (zI b) mb N fuel' (zI k, at2, tk, left2, fl2, mco)).bind (mPo N (zI dz) md (zI bd) (zI 0)) = some (run4, at4, tk4, left4, fl4, mco4) ∧ rX fl3 fl4 ∧ (K = zI 0 → co3 = co0)) ∨
    (∃ (co3 : Nat → Int32) (at3 part3 left3 fl3 : Int32) (rn : Nat) (at4 tk4 left4 fl4 : Int32) (mco4 : Nat → Int32), rn ≤ 32767 ∧ (kd = 0 → rn = 0) ∧ (f_Decoder_takeOthers_L35 (zI last) (zI dz) nb sb e s f x (zI kd) (zI 0) (zI q) nco (zI bits) K N fuel (zI k, zI wd, co, at1, part, left, fl, zI 0)).bind (cPo N (zI 0) (zI q) nco (zI last) (zI bits) (zI dz) nb sb K) = some (co3, at3, part3, left3, fl3, zI (rn : Nat)) ∧ (f_M_readOthers_L78 (zI last) (zI c) ot (zI dz) ln cd md (zI bits) (zI b) mb N fuel' (zI k, at2, tk, left2, fl2, mco)).bind (mPo N (zI dz) md (zI bd) (zI 0)) = some (zI (rn : Nat), at4, tk4, left4, fl4, mco4) ∧ rR dz at3 part3 left3 fl3 at4 tk4 left4 fl4 ∧ rB K q 64 co0 mco0 co3 mco4)
  | m, k, wd, fuel, fuel', co, mco, at1, part, left, fl, at2, tk, left2, fl2, hm, hk1, hk2, hwd, hf, hf', h, hR => by
    obtain ⟨fuel, rfl⟩ : ∃ j, fuel = j + 1 := ⟨fuel - 1, by omega⟩
    obtain ⟨fuel', rfl⟩ : ∃ j, fuel' = j + 1 := ⟨fuel' - 1, by omega⟩
    have hz := rR_z hR
    by_cases ck : last < k
    · have i1 : zI (last : Int) < zI (k : Int) := by rw [ltN (by omega) (by omega)]; exact ck
      right
      refine ⟨co, at1, part, left, fl, 0, at2, tk, left2, fl2, mco, by omega, fun _ => rfl, ?_, ?_, hR, h⟩
      · rw [c35e N fuel i1]
        rfl
      · show (f_M_readOthers_L78b _ _ _ _ _ _ _ _ _ _ N (f_M_readOthers_L78 _ _ _ _ _ _ _ _ _ _ N fuel') _ _ _ _ _ _).bind _ = _
        unfold f_M_readOthers_L78b
        rw [if_pos i1]
        rfl
    obtain ⟨m, rfl⟩ : ∃ i, m = i + 1 := ⟨m - 1, by omega⟩
    have i1 : ¬ zI (last : Int) < zI (k : Int) := by rw [ltN (by omega) (by omega)]; exact ck
    have eC : f_Decoder_takeOthers_L35 (zI last) (zI dz) nb sb e s f x (zI kd) (zI 0) (zI q) nco (zI bits) K N (fuel + 1) (zI k, zI wd, co, at1, part, left, fl, zI 0) = (f_BitReader_takeWord N (zI dz) nb sb at1 part left fl e s f x).bind fun z1 => if z1.1 = (-1 : Int32) then some (0, zI k, co, z1.2.1, z1.2.2.1, z1.2.2.2.1, z1.2.2.2.2, zI 0) else if z1.1 = 0 then (if zI kd = 0 then some (0, zI k, co, z1.2.1, z1.2.2.1, z1.2.2.2.1, z1.2.2.2.2, zI 0) else f_Decoder_takeOthers_J35_93 N (f_Decoder_takeOthers_L35 (zI last) (zI dz) nb sb e s f x (zI kd) (zI 0) (zI q) nco (zI bits) K N fuel) z1.1 (zI kd) (zI 0) (zI q) (zI k) nco co (zI last) (zI bits) (zI dz) nb sb z1.2.1 z1.2.2.1 z1.2.2.2.1 z1.2.2.2.2 K (zI wd) (zI 0)) else f_Decoder_takeOthers_J35_93 N (f_Decoder_takeOthers_L35 (zI last) (zI dz) nb sb e s f x (zI kd) (zI 0) (zI q) nco (zI bits) K N fuel) z1.1 (zI kd) (zI 0) (zI q) (zI k) nco co (zI last) (zI bits) (zI dz) nb sb z1.2.1 z1.2.2.1 z1.2.2.2.1 z1.2.2.2.2 K (zI wd) (zI 0) := by
      show f_Decoder_takeOthers_L35b _ _ _ _ _ _ _ _ _ _ _ _ _ _ N (f_Decoder_takeOthers_L35 _ _ _ _ _ _ _ _ _ _ _ _ _ _ N fuel) _ _ _ _ _ _ _ _ = _
      unfold f_Decoder_takeOthers_L35b
      rw [if_neg (show ¬ (64 : Int32) ≤ zI (wd : Int) by rw [show (64 : Int32) = zI ((64 : Nat) : Int) from rfl, leN (by omega) (by omega)]; omega), if_neg i1, if_pos (show zI 0 = 0 from rfl)]
    have eM : f_M_readOthers_L78 (zI last) (zI c) ot (zI dz) ln cd md (zI bits) (zI b) mb N (fuel' + 1) (zI k, at2, tk, left2, fl2, mco) = (f_M_symbol N (zI t) (zI dz) at2 tk left2 fl2 ln cd md).bind fun z2 => if z2.2.2.2.2 ≤ 0 then (if (z2.1 - z2.1 / (16 : Int32) * (16 : Int32)) = 0 then (if (15 : Int32) ≤ (z2.1 / (16 : Int32)) then f_M_readOthers_J78_178 N (f_M_readOthers_L78 (zI last) (zI c) ot (zI dz) ln cd md (zI bits) (zI b) mb N fuel') (z2.1 - z2.1 / (16 : Int32) * (16 : Int32)) (z2.1 / (16 : Int32)) z2.2.1 z2.2.2.1 z2.2.2.2.1 z2.2.2.2.2 mco (zI k) (zI last) (zI dz) md (zI bits) (zI c) (zI b) mb else some (1, z2.1 / (16 : Int32), z2.2.1, z2.2.2.1, z2.2.2.2.1, z2.2.2.2.2, mco)) else f_M_readOthers_J78_178 N (f_M_readOthers_L78 (zI last) (zI c) ot (zI dz) ln cd md (zI bits) (zI b) mb N fuel') (z2.1 - z2.1 / (16 : Int32) * (16 : Int32)) (z2.1 / (16 : Int32)) z2.2.1 z2.2.2.1 z2.2.2.2.1 z2.2.2.2.2 mco (zI k) (zI last) (zI dz) md (zI bits) (zI c) (zI b) mb) else some (0, z2.1 / (16 : Int32), z2.2.1, z2.2.2.1, z2.2.2.2.1, z2.2.2.2.2, mco) := by
      show f_M_readOthers_L78b _ _ _ _ _ _ _ _ _ _ N (f_M_readOthers_L78 _ _ _ _ _ _ _ _ _ _ N fuel') _ _ _ _ _ _ = _
      unfold f_M_readOthers_L78b
      rw [if_neg i1, if_pos hz.2, clN c (by omega), if_neg (inN c 4 hc (by omega)), hot]
    rw [eC, eM]
    have hK0 : K = zI 0 → co = co0 := rB_0 h
    rcases q_word N hN hD ht hT hR with ⟨a3, p3, l3, f3, a4, t4, l4, f4, h1, h2, hX⟩ | ⟨y, a3, p3, l3, f3, a4, t4, l4, f4, hy, h1, h2, hR3⟩
    · left
      have hx := rX_nz hX
      rw [h1, h2]
      dsimp only [Option.bind_some]
      rw [if_pos (show zI (-1) = (-1 : Int32) from rfl), if_neg hx.2.2.1]
      exact ⟨co, a3, p3, l3, f3, zI 0, zI 0, a4, t4, l4, f4, mco, rfl, rfl, hX, hK0⟩
    have hz3 := rR_z hR3
    rw [h1, h2]
    dsimp only [Option.bind_some]
    have e16 : (16 : Int32) = zI ((16 : Nat) : Int) := rfl
    rw [if_neg (show ¬ zI (y : Int) = (-1 : Int32) by rw [show (-1 : Int32) = zI (-1) from rfl, zI_eq (by omega) (by omega) (by decide) (by decide)]; omega), if_pos (show f4 ≤ 0 by rw [hz3.2]; decide), e16, mdN y 16 (by omega) (by omega) (by omega), dvN y 16 (by omega) (by omega) (by omega)]
    have kd0 : kd = 0 → zI (kd : Int) = 0 := fun h => by rw [h]; rfl
    have kd3 : ¬ kd = 0 → ¬ zI (kd : Int) = 0 := fun h => nzN (by omega) (by omega)
    by_cases cE : y % 16 = 0 ∧ y ≠ 240
    · -- no amount: an end
      have r15 : y / 16 < 15 := by omega
      rw [if_pos (show zI ((y % 16 : Nat) : Int) = 0 by rw [cE.1]; rfl), if_neg (show ¬ (15 : Int32) ≤ zI ((y / 16 : Nat) : Int) by rw [show (15 : Int32) = zI ((15 : Nat) : Int) from rfl, leN (by omega) (by omega)]; omega)]
      rcases hkd with ⟨k0, b0⟩ | ⟨k3, b1⟩
      · by_cases y0 : y = 0
        · right
          rw [if_pos (show zI (y : Int) = 0 by rw [y0]; rfl), if_pos (kd0 k0)]
          refine ⟨co, a3, p3, l3, f3, 0, a4, t4, l4, f4, mco, by omega, fun _ => rfl, rfl, ?_, hR3, h⟩
          rw [y0, b0]
          rfl
        · left
          rw [if_neg (nzN (b := y) (by omega) (by omega))]
          unfold f_Decoder_takeOthers_J35_93 f_Decoder_endsBand
          rw [if_pos (kd0 k0)]
          dsimp only [Option.bind_some]
          rw [if_pos (show (0 : Int32) = 0 from rfl), if_pos (show zI 0 = 0 from rfl)]
          have tO : f_Decoder_takeOther N (zI y) (zI q) (zI k) nco co (zI last) (zI bits) (zI dz) nb sb a3 p3 l3 f3 K = some (zI k + zI y >>> ((4 : Int32) &&& 31), co, a3, p3, l3, zI (3 : Nat)) := by
            unfold f_Decoder_takeOther f_Decoder_takeOther_J44
            rw [and15N, cE.1, if_neg (show ¬ (10 : Int32) < zI ((0 : Nat) : Int) by decide), if_pos (show zI ((0 : Nat) : Int) = 0 from rfl), if_neg (show ¬ zI (y : Int) = (240 : Int32) by rw [show (240 : Int32) = zI ((240 : Nat) : Int) from rfl, eqN (by omega) (by omega)]; exact cE.2)]
            rfl
          rw [tO]
          dsimp only [Option.bind_some]
          unfold f_Decoder_takeOthers_J35_143
          rw [if_neg (show ¬ zI ((3 : Nat) : Int) = 0 by decide)]
          refine ⟨co, a3, p3, l3, zI (3 : Nat), zI 0, zI 0, a4, t4, l4, zI (3 : Nat), mco, rfl, ?_, ⟨3, by omega, by omega, rfl, rfl⟩, hK0⟩
          unfold mPo f_M_wrong f_M_wrong_J16
          dsimp only [Option.bind_some]
          rw [if_neg (by omega), if_pos rfl, b0, if_pos (show zI ((0 : Nat) : Int) = 0 from rfl), if_neg (show ¬ zI ((y / 16 : Nat) : Int) ≤ 0 by rw [show (0 : Int32) = zI ((0 : Nat) : Int) from rfl, leN (by omega) (by omega)]; omega), if_pos hz3.2]
          rfl
      · have both : (if zI (y : Int) = 0 then (if zI (kd : Int) = 0 then some (0, zI (k : Int), co, a3, p3, l3, f3, zI 0) else f_Decoder_takeOthers_J35_93 N (f_Decoder_takeOthers_L35 (zI last) (zI dz) nb sb e s f x (zI kd) (zI 0) (zI q) nco (zI bits) K N fuel) (zI y) (zI kd) (zI 0) (zI q) (zI k) nco co (zI last) (zI bits) (zI dz) nb sb a3 p3 l3 f3 K (zI wd) (zI 0)) else f_Decoder_takeOthers_J35_93 N (f_Decoder_takeOthers_L35 (zI last) (zI dz) nb sb e s f x (zI kd) (zI 0) (zI q) nco (zI bits) K N fuel) (zI y) (zI kd) (zI 0) (zI q) (zI k) nco co (zI last) (zI bits) (zI dz) nb sb a3 p3 l3 f3 K (zI wd) (zI 0)) = f_Decoder_takeOthers_J35_93 N (f_Decoder_takeOthers_L35 (zI last) (zI dz) nb sb e s f x (zI kd) (zI 0) (zI q) nco (zI bits) K N fuel) (zI y) (zI kd) (zI 0) (zI q) (zI k) nco co (zI last) (zI bits) (zI dz) nb sb a3 p3 l3 f3 K (zI wd) (zI 0) := by
          rw [if_neg (kd3 (by omega))]
          by_cases c : zI (y : Int) = 0
          · rw [if_pos c]
          · rw [if_neg c]
        rw [both]
        unfold f_Decoder_takeOthers_J35_93 f_Decoder_endsBand
        rw [if_neg (kd3 (by omega)), and15N, cE.1, if_pos (show zI ((0 : Nat) : Int) = 0 from rfl), if_neg (show ¬ zI (y : Int) = (240 : Int32) by rw [show (240 : Int32) = zI ((240 : Nat) : Int) from rfl, eqN (by omega) (by omega)]; exact cE.2)]
        dsimp only [Option.bind_some]
        rw [if_neg (show ¬ (1 : Int32) = 0 by decide), shr4N y hy]
        unfold f_Decoder_takeRun
        have eP : ∀ st : Int32 × Int32 × Int32 × Int32 × (Nat → Int32), mPo N (zI dz) md (zI bd) (zI 0) (1, zI ((y / 16 : Nat) : Int), st) = (f_M_takes N (zI ((y / 16 : Nat) : Int)) (zI dz) st.1 st.2.1 st.2.2.1 st.2.2.2.1 md).bind fun z7 => some ((((1 : Int32) <<< (zI ((y / 16 : Nat) : Int) &&& 31)) + z7.1) - (1 : Int32), z7.2.1, z7.2.2.1, z7.2.2.2.1, z7.2.2.2.2, st.2.2.2.2) := by
          intro st
          unfold mPo
          dsimp only
          rw [if_neg (by omega), if_pos rfl, b1, if_neg (show ¬ zI ((1 : Nat) : Int) = 0 by decide)]
        rw [eP]
        dsimp only
        rcases q_bits N (by omega) hD (y / 16) (by omega) hR3 with ⟨a5, p5, l5, f5, v', a6, t6, l6, f6, k1, k2, hX⟩ | ⟨v, a5, p5, l5, f5, a6, t6, l6, f6, v1, k1, k2, hR5⟩
        · left
          have hx := rX_nz hX
          rw [k1, k2]
          dsimp only [Option.bind_some]
          rw [if_pos (show zI (-1) = (-1 : Int32) from rfl)]
          dsimp only [Option.bind_some]
          unfold f_Decoder_takeOthers_J35_143
          rw [if_neg hx.1]
          exact ⟨co, a5, p5, l5, f5, zI 0, _, a6, t6, l6, f6, mco, rfl, rfl, hX, hK0⟩
        · right
          have h2r : 2 ^ (y / 16) ≤ 16384 := Nat.pow_le_pow_right (n := 2) (by omega) (show y / 16 ≤ 14 by omega)
          have h1r : 1 ≤ 2 ^ (y / 16) := Nat.one_le_two_pow
          have hz5 := rR_z hR5
          rw [k1, k2]
          dsimp only [Option.bind_some]
          rw [if_neg (show ¬ zI (v : Int) = (-1 : Int32) by rw [show (-1 : Int32) = zI (-1) from rfl, zI_eq (by omega) (by omega) (by decide) (by decide)]; omega), shl_b (y / 16) (by omega), addN]
          dsimp only [Option.bind_some]
          unfold f_Decoder_takeOthers_J35_143
          obtain ⟨fuel, rfl⟩ : ∃ j, fuel = j + 1 := ⟨fuel - 1, by omega⟩
          have rnz : ¬ zI ((2 ^ (y / 16) + v : Nat) : Int) = 0 := nzN (by omega) (by omega)
          rw [if_pos hz5.1, c35x N fuel rnz]
          have e1 : zI ((2 ^ (y / 16) + v : Nat) : Int) - (1 : Int32) = zI ((2 ^ (y / 16) + v - 1 : Nat) : Int) := by
            rw [show (1 : Int32) = zI 1 from rfl, zI_sub]; congr 1; omega
          refine ⟨co, a5, p5, l5, f5, 2 ^ (y / 16) + v - 1, a6, t6, l6, f6, mco, by omega, fun h => by omega, ?_, ?_, hR5, h⟩
          · dsimp only [Option.bind_some]
            unfold cPo f_Decoder_takeOthers_J160
            dsimp only
            rw [if_neg (by omega), if_neg (by omega), if_neg (show ¬ zI ((2 ^ (y / 16) + v : Nat) : Int) ≤ 0 by rw [show (0 : Int32) = zI ((0 : Nat) : Int) from rfl, leN (by omega) (by omega)]; omega), if_pos (show zI 0 = 0 from rfl), e1]
          · rw [e1]
    · -- one of the others
      have both : (if zI (y : Int) = 0 then (if zI (kd : Int) = 0 then some (0, zI (k : Int), co, a3, p3, l3, f3, zI 0) else f_Decoder_takeOthers_J35_93 N (f_Decoder_takeOthers_L35 (zI last) (zI dz) nb sb e s f x (zI kd) (zI 0) (zI q) nco (zI bits) K N fuel) (zI y) (zI kd) (zI 0) (zI q) (zI k) nco co (zI last) (zI bits) (zI dz) nb sb a3 p3 l3 f3 K (zI wd) (zI 0)) else f_Decoder_takeOthers_J35_93 N (f_Decoder_takeOthers_L35 (zI last) (zI dz) nb sb e s f x (zI kd) (zI 0) (zI q) nco (zI bits) K N fuel) (zI y) (zI kd) (zI 0) (zI q) (zI k) nco co (zI last) (zI bits) (zI dz) nb sb a3 p3 l3 f3 K (zI wd) (zI 0)) = (f_Decoder_takeOther N (zI y) (zI q) (zI k) nco co (zI last) (zI bits) (zI dz) nb sb a3 p3 l3 f3 K).bind fun z3 => f_Decoder_takeOthers_J35_143 N (f_Decoder_takeOthers_L35 (zI last) (zI dz) nb sb e s f x (zI kd) (zI 0) (zI q) nco (zI bits) K N fuel) z3.2.2.2.2.2 z3.1 (zI wd) z3.2.1 z3.2.2.1 z3.2.2.2.1 z3.2.2.2.2.1 (zI 0) := by
        rw [if_neg (nzN (b := y) (by omega) (by omega))]
        unfold f_Decoder_takeOthers_J35_93 f_Decoder_endsBand
        have eb : (if zI (kd : Int) = 0 then some (0 : Int32) else if (zI (y : Int) &&& (15 : Int32)) = 0 then (if zI (y : Int) = (240 : Int32) then some (0 : Int32) else some (1 : Int32)) else some (0 : Int32)) = some (0 : Int32) := by
          by_cases c0 : zI (kd : Int) = 0
          · rw [if_pos c0]
          · rw [if_neg c0, and15N]
            by_cases c1 : y % 16 = 0
            · rw [if_pos (by rw [c1]; rfl), if_pos (show zI (y : Int) = (240 : Int32) by rw [show y = 240 by omega]; rfl)]
            · rw [if_neg (nzN (by omega) (by omega))]
        rw [eb]
        dsimp only [Option.bind_some]
        rw [if_pos (show (0 : Int32) = 0 from rfl), if_pos (show zI 0 = 0 from rfl)]
      have bothM : (if zI ((y % 16 : Nat) : Int) = 0 then (if (15 : Int32) ≤ zI ((y / 16 : Nat) : Int) then f_M_readOthers_J78_178 N (f_M_readOthers_L78 (zI last) (zI c) ot (zI dz) ln cd md (zI bits) (zI b) mb N fuel') (zI ((y % 16 : Nat) : Int)) (zI ((y / 16 : Nat) : Int)) a4 t4 l4 f4 mco (zI k) (zI last) (zI dz) md (zI bits) (zI c) (zI b) mb else some (1, zI ((y / 16 : Nat) : Int), a4, t4, l4, f4, mco)) else f_M_readOthers_J78_178 N (f_M_readOthers_L78 (zI last) (zI c) ot (zI dz) ln cd md (zI bits) (zI b) mb N fuel') (zI ((y % 16 : Nat) : Int)) (zI ((y / 16 : Nat) : Int)) a4 t4 l4 f4 mco (zI k) (zI last) (zI dz) md (zI bits) (zI c) (zI b) mb) = f_M_readOthers_J78_178 N (f_M_readOthers_L78 (zI last) (zI c) ot (zI dz) ln cd md (zI bits) (zI b) mb N fuel') (zI ((y % 16 : Nat) : Int)) (zI ((y / 16 : Nat) : Int)) a4 t4 l4 f4 mco (zI k) (zI last) (zI dz) md (zI bits) (zI c) (zI b) mb := by
        by_cases c1 : y % 16 = 0
        · rw [if_pos (by rw [c1]; rfl), if_pos (show (15 : Int32) ≤ zI ((y / 16 : Nat) : Int) by rw [show y / 16 = 15 by omega]; decide)]
        · rw [if_neg (nzN (by omega) (by omega))]
      rw [both, bothM]
      rcases q_tOther N hN hD h hq hn hc hb hqT hbits hlast hk1 (by omega) hy hR3 (f_M_readOthers_L78 (zI last) (zI c) ot (zI dz) ln cd md (zI bits) (zI b) mb N fuel') with ⟨kk, k1, k2⟩ | ⟨kk, a5, p5, l5, f5, km, a6, t6, l6, f6, k1, k2, k3, hX⟩ | ⟨k', co3, a5, p5, l5, f5, a6, t6, l6, f6, mco4, g1, g2, k1, k2, k3, hR5, hB5⟩
      · left
        rw [k1, k2.resolve_left cE]
        dsimp only [Option.bind_some]
        unfold f_Decoder_takeOthers_J35_143
        rw [if_neg (show ¬ zI ((3 : Nat) : Int) = 0 by decide)]
        refine ⟨co, a3, p3, l3, zI (3 : Nat), zI 0, zI 0, a4, t4, l4, zI (3 : Nat), mco, rfl, ?_, ⟨3, by omega, by omega, rfl, rfl⟩, hK0⟩
        unfold mPo f_M_readOthers_J197 f_M_wrong f_M_wrong_J16
        dsimp only
        rw [if_neg (by omega), if_neg (by omega), if_pos rfl, if_pos hz3.2]
        rfl
      · left
        have hx := rX_nz hX
        obtain ⟨fuel', rfl⟩ : ∃ j, fuel' = j + 1 := ⟨fuel' - 1, by omega⟩
        rw [k1, k3, m78x N fuel' hx.2.1]
        dsimp only [Option.bind_some]
        unfold f_Decoder_takeOthers_J35_143
        rw [if_neg hx.1]
        exact ⟨co, a5, p5, l5, f5, zI 0, zI 0, a6, t6, l6, f6, mco, rfl, rfl, hX, hK0⟩
      · rw [k1, k3]
        dsimp only [Option.bind_some]
        unfold f_Decoder_takeOthers_J35_143
        rw [if_pos (rR_z hR5).1, suN]
        exact q_othL N hN hD ht hT hq hn hc hb hot hqT hbits hlast hkd m k' (wd + 1) fuel fuel' co3 mco4 a5 p5 l5 f5 a6 t6 l6 f6 (by omega) (by omega) (by omega) (by omega) (by omega) (by omega) hB5 hR5
/-! READING: the others, whole; refining -/
theorem q_oth (N : Nat) (hN : 1000 ≤ N) {D : Nat → Nat} {dz nb : Nat} {sb md : Nat → Int32} (hD : rDt D dz nb sb md) {t : Nat} (ht : t < 8) {w s f x : Nat → Int32} {e z wdt : Int32} {ln cd : Nat → Int32} (hT : rTab1 t w s f x e z ln cd wdt) {K : Int32} {q : Nat} {co0 mco0 co mco : Nat → Int32} (h : rB K q 64 co0 mco0 co mco) {nco : Nat} (hq : q + 64 ≤ nco) (hn : nco ≤ 12288) {c T b bits last kd fr fi rn : Nat} (hc : c < 4) {mb ot : Nat → Int32} (hb : mb c = zI (T : Nat)) (hot : ot c = zI (t : Nat)) (hqT : q = 64 * (T + b)) (hbits : bits ≤ 9) (hlast : last ≤ 63) (hfl : fr ≤ last) (hrn : rn ≤ 32767) (hkd : kd = 0 ∧ fi = 0 ∧ fr = 1 ∧ rn = 0 ∨ kd = 3 ∧ fi = fr ∧ 1 ≤ fr) {at1 part left fl at2 tk left2 fl2 : Int32} (hR : rR dz at1 part left fl at2 tk left2 fl2) :
    (∃ co3 at3 part3 left3 fl3 run3 run4 at4 tk4 left4 fl4 mco4, f_Decoder_takeOthers N (zI q) (zI fr) nco co (zI kd) (zI last) (zI bits) (zI dz) nb sb at1 part left fl K (zI rn) e s f x = some (co3, at3, part3, left3, fl3, run3) ∧ f_M_readOthers N (zI c) (zI b) (zI fr) (zI fi) (zI last) (zI bits) (zI dz) (zI rn) at2 tk left2 fl2 mb mco ln cd ot md = some (run4, at4, tk4, left4, fl4, mco4) ∧ rX fl3 fl4 ∧ (K = zI 0 → co3 = co0)) ∨
    (∃ (co3 : Nat → Int32) (at3 part3 left3 fl3 : Int32) (rn' : Nat) (at4 tk4 left4 fl4 : Int32) (mco4 : Nat → Int32), rn' ≤ 32767 ∧ (kd = 0 → rn' = 0) ∧ f_Decoder_takeOthers N (zI q) (zI fr) nco co (zI kd) (zI last) (zI bits) (zI dz) nb sb at1 part left fl K (zI rn) e s f x = some (co3, at3, part3, left3, fl3, zI (rn' : Nat)) ∧ f_M_readOthers N (zI c) (zI b) (zI fr) (zI fi) (zI last) (zI bits) (zI dz) (zI rn) at2 tk left2 fl2 mb mco ln cd ot md = some (zI (rn' : Nat), at4, tk4, left4, fl4, mco4) ∧ rR dz at3 part3 left3 fl3 at4 tk4 left4 fl4 ∧ rB K q 64 co0 mco0 co3 mco4) := by
  obtain ⟨co1, mco1, c1, c2, c3⟩ := q_clr N hq hn hc hb hqT hlast (last + 1 - fr) fr N N co mco (by omega) (by omega) (by omega) h
  unfold f_Decoder_takeOthers f_Decoder_takeOthers_J16 f_Decoder_clearOthers f_M_readOthers f_M_readOthers_J12
  rw [if_neg (show ¬ zI (kd : Int) = (4 : Int32) by rw [show (4 : Int32) = zI ((4 : Nat) : Int) from rfl, eqN (by omega) (by omega)]; omega), if_pos (show (0 : Int32) = 0 from rfl), c1, c2]
  dsimp only [Option.bind_some]
  by_cases r0 : rn = 0
  · subst r0
    have hbd : ∃ bd, (kd = 0 ∧ bd = 0 ∨ kd = 3 ∧ bd = 1) ∧ (if zI (fi : Int) ≤ 0 then (if (0 : Int32) = 0 then f_M_readOthers_J75 N (zI last) (zI c) ot (zI dz) ln cd md (zI bits) (zI b) mb (zI fr) at2 tk left2 fl2 mco1 (zI (0 : Nat)) (0 : Int32) else if zI ((0 : Nat) : Int) ≤ 0 then f_M_readOthers_J75 N (zI last) (zI c) ot (zI dz) ln cd md (zI bits) (zI b) mb (zI fr) at2 tk left2 fl2 mco1 (zI (0 : Nat)) (0 : Int32) else some (zI ((0 : Nat) : Int) - (1 : Int32), at2, tk, left2, fl2, mco1)) else (if (1 : Int32) = 0 then f_M_readOthers_J75 N (zI last) (zI c) ot (zI dz) ln cd md (zI bits) (zI b) mb (zI fr) at2 tk left2 fl2 mco1 (zI (0 : Nat)) (1 : Int32) else if zI ((0 : Nat) : Int) ≤ 0 then f_M_readOthers_J75 N (zI last) (zI c) ot (zI dz) ln cd md (zI bits) (zI b) mb (zI fr) at2 tk left2 fl2 mco1 (zI (0 : Nat)) (1 : Int32) else some (zI ((0 : Nat) : Int) - (1 : Int32), at2, tk, left2, fl2, mco1))) = (f_M_readOthers_L78 (zI last) (zI c) ot (zI dz) ln cd md (zI bits) (zI b) mb N N (zI fr, at2, tk, left2, fl2, mco1)).bind (mPo N (zI dz) md (zI (bd : Nat)) (zI 0)) := by
      rcases hkd with ⟨k1, k2, -, -⟩ | ⟨k1, k2, k3⟩
      · refine ⟨0, Or.inl ⟨k1, rfl⟩, ?_⟩
        rw [if_pos (show zI (fi : Int) ≤ 0 by rw [k2]; decide), if_pos (show (0 : Int32) = 0 from rfl)]
        rfl
      · refine ⟨1, Or.inr ⟨k1, rfl⟩, ?_⟩
        rw [if_neg (show ¬ zI (fi : Int) ≤ 0 by rw [show (0 : Int32) = zI ((0 : Nat) : Int) from rfl, leN (by omega) (by omega)]; omega), if_neg (show ¬ (1 : Int32) = 0 by decide), if_pos (show zI ((0 : Nat) : Int) ≤ 0 by decide)]
        rfl
    obtain ⟨bd, hb1, hb2⟩ := hbd
    rw [hb2]
    exact q_othL N hN hD ht hT hq hn hc hb hot hqT hbits hlast hb1 (last + 1 - fr) fr 0 N N co1 mco1 at1 part left fl at2 tk left2 fl2 (by omega) (by omega) (by omega) (by omega) (by omega) (by omega) c3 hR
  · right
    obtain ⟨k1, k2, k3⟩ : kd = 3 ∧ fi = fr ∧ 1 ≤ fr := by omega
    have i1 : ¬ zI (rn : Int) ≤ 0 := by rw [show (0 : Int32) = zI ((0 : Nat) : Int) from rfl, leN (by omega) (by omega)]; omega
    rw [if_neg (show ¬ zI (fi : Int) ≤ 0 by rw [show (0 : Int32) = zI ((0 : Nat) : Int) from rfl, leN (by omega) (by omega)]; omega), if_neg (show ¬ (1 : Int32) = 0 by decide), if_neg i1]
    obtain ⟨M, rfl⟩ : ∃ M, N = M + 1 := ⟨N - 1, by omega⟩
    have e1 : zI (rn : Int) - (1 : Int32) = zI ((rn - 1 : Nat) : Int) := by rw [show (1 : Int32) = zI 1 from rfl, zI_sub]; congr 1; omega
    refine ⟨co1, at1, part, left, fl, rn - 1, at2, tk, left2, fl2, mco1, by omega, fun h => by omega, ?_, by rw [e1], hR, c3⟩
    unfold f_Decoder_takeOthers_J29
    rw [c35x (M + 1) M (nzN (b := rn) (by omega) (by omega))]
    dsimp only [Option.bind_some]
    rw [if_neg (by omega), if_neg (by omega)]
    unfold f_Decoder_takeOthers_J160
    rw [if_neg i1, if_pos (show (0 : Int32) = 0 from rfl), e1]
theorem zI_andN (a b : Nat) (ha : a < 2147483648) (hb : b < 2147483648) : zI (a : Int) &&& zI (b : Int) = zI ((a &&& b : Nat) : Int) := by
  have hc : a &&& b ≤ a := Nat.and_le_left
  apply Int32.toBitVec_inj.mp
  rw [Int32.toBitVec_and, zI_bv, zI_bv, zI_bv]
  apply BitVec.eq_of_toNat_eq
  rw [BitVec.toNat_and]
  have t : ∀ n : Nat, n < 2147483648 → (BitVec.ofInt 32 (n : Int)).toNat = n := fun n hn => by
    rw [BitVec.toNat_ofInt]
    omega
  rw [t a ha, t b hb, t _ (by omega)]
theorem and_free {A b : Nat} (hA : A ≤ 1023) (hb : b ≤ 9) (h : zI (A : Int) &&& zI ((2 ^ b : Nat) : Int) = 0) : A + 2 ^ b ≤ 1023 := by
  have hb9 := pow9 hb
  rw [zI_andN _ _ (by omega) (by omega)] at h
  have hle : A &&& 2 ^ b ≤ A := Nat.and_le_left
  have h0 : A &&& 2 ^ b = 0 := by
    have := eqN (a := A &&& 2 ^ b) (b := 0) (by omega) (by omega)
    exact this.mp h
  have ht : A.testBit b = false := by
    have h1 : (A &&& 2 ^ b).testBit b = false := by rw [h0]; exact Nat.zero_testBit b
    rw [Nat.testBit_and, Nat.testBit_two_pow_self, Bool.and_true] at h1
    exact h1
  rw [Nat.testBit_eq_decide_div_mod_eq, decide_eq_false_iff_not] at ht
  have hc : b = 0 ∨ b = 1 ∨ b = 2 ∨ b = 3 ∨ b = 4 ∨ b = 5 ∨ b = 6 ∨ b = 7 ∨ b = 8 ∨ b = 9 := by omega
  rcases hc with rfl | rfl | rfl | rfl | rfl | rfl | rfl | rfl | rfl | rfl <;> omega
/-- one more bit of one of the others -/
theorem q_more (N : Nat) (hN : 1000 ≤ N) {D : Nat → Nat} {dz nb : Nat} {sb md : Nat → Int32} (hD : rDt D dz nb sb md) {K : Int32} {q k : Nat} {co0 mco0 co mco : Nat → Int32} (h : rB K q k co0 mco0 co mco) {nco : Nat} (hq : q + 64 ≤ nco) (hn : nco ≤ 12288) {c T b bits : Nat} (hc : c < 4) {mb : Nat → Int32} (hb : mb c = zI (T : Nat)) (hqT : q = 64 * (T + b)) (hbits : bits ≤ 9) (hk1 : 1 ≤ k) (hk : k < 64) (hnz : ¬ co (q + k) = 0) {at1 part left fl at2 tk left2 fl2 : Int32} (hR : rR dz at1 part left fl at2 tk left2 fl2) :
    (∃ at3 part3 left3 fl3 at4 tk4 left4 fl4, f_Decoder_refineOther N (zI (q + k : Nat)) nco co (zI bits) (zI dz) nb sb at1 part left fl K = some (co, at3, part3, left3, fl3) ∧ f_M_more (zI c) (zI b) (zI k) (zI bits) (zI dz) at2 tk left2 fl2 mb mco md = some (at4, tk4, left4, fl4, mco) ∧ rX fl3 fl4) ∨
    (∃ co3 at3 part3 left3 fl3 at4 tk4 left4 fl4 mco4, f_Decoder_refineOther N (zI (q + k : Nat)) nco co (zI bits) (zI dz) nb sb at1 part left fl K = some (co3, at3, part3, left3, fl3) ∧ f_M_more (zI c) (zI b) (zI k) (zI bits) (zI dz) at2 tk left2 fl2 mb mco md = some (at4, tk4, left4, fl4, mco4) ∧ rR dz at3 part3 left3 fl3 at4 tk4 left4 fl4 ∧ rB K q (k + 1) co0 mco0 co3 mco4) := by
  have hb9 := pow9 hbits
  obtain ⟨z, z1, z2⟩ := h.2.2.1 k hk
  have zr := okC_rng z2
  have zr2 := z2.2.2 (by omega)
  have hco := h.2.1 k (by omega) hk
  rw [hco, z1] at hnz
  have z0 : z ≠ 0 := fun e => hnz (by rw [e]; rfl)
  have gi := inN (q + k) 12288 (by omega) (by omega)
  have gi' := inN (q + k) nco (by omega) (by omega)
  unfold f_Decoder_refineOther f_Decoder_refineOther_J62 f_M_more f_M_more_J51 f_M_more_J108
  rw [clN c (by omega), if_neg (inN c 4 hc (by omega)), hb, ixM, ← hqT, clN (q + k) (by omega), if_neg gi, z1, shl_b bits (by omega), hco, z1]
  simp only [if_neg gi, if_neg gi']
  have ab : ∀ X : Int32 → Prop, X (if 0 ≤ zI z then zI z else 0 - zI z) → X (zI (z.natAbs : Nat)) := by
    intro X hX
    by_cases c1 : 0 ≤ z
    · rw [if_pos (show 0 ≤ zI z by rw [show (0 : Int32) = zI 0 from rfl, zI_le (by omega) (by omega) (by omega) (by omega)]; exact c1)] at hX
      rw [show ((z.natAbs : Nat) : Int) = z by omega]; exact hX
    · rw [if_neg (show ¬ 0 ≤ zI z by rw [show (0 : Int32) = zI 0 from rfl, zI_le (by omega) (by omega) (by omega) (by omega)]; exact c1), show (0 : Int32) = zI 0 from rfl, zI_sub] at hX
      rw [show ((z.natAbs : Nat) : Int) = 0 - z by omega]; exact hX
  have eab : (if 0 ≤ zI z then zI z else 0 - zI z) = zI (z.natAbs : Nat) := ab (fun y => (if 0 ≤ zI z then zI z else 0 - zI z) = y) rfl
  rw [eab]
  rcases q_bit1 N (by omega) hD hR with ⟨a3, p3, l3, f3, a4, t4, l4, f4, h1, h2, hX⟩ | ⟨y, a3, p3, l3, f3, a4, t4, l4, f4, hy, h1, h2, hR3⟩
  · left
    rw [h1, h2]
    dsimp only [Option.bind_some]
    have n1 : ¬ zI (-1) = (1 : Int32) := by rw [show (1 : Int32) = zI 1 from rfl, zI_eq (by decide) (by decide) (by decide) (by decide)]; decide
    simp only [if_neg n1, if_neg (show ¬ zI 0 = (1 : Int32) by decide)]
    refine ⟨a3, p3, l3, f3, a4, t4, l4, f4, rfl, ?_, hX⟩
    by_cases c1 : 0 ≤ zI z
    · rw [if_pos c1]
    · rw [if_neg c1]
  · right
    rw [h1, h2]
    dsimp only [Option.bind_some]
    by_cases y1 : y = 1
    · subst y1
      simp only [if_pos (show zI ((1 : Nat) : Int) = (1 : Int32) from rfl)]
      have eM : (if 0 ≤ zI z then (if (zI z &&& zI ((2 ^ bits : Nat) : Int)) = 0 then (if 0 ≤ zI z then some (a4, t4, l4, f4, upd mco (q + k) (vp_nar .short (zI z + zI ((2 ^ bits : Nat) : Int)).toInt16.toInt32)) else some (a4, t4, l4, f4, upd mco (q + k) (vp_nar .short (zI z - zI ((2 ^ bits : Nat) : Int)).toInt16.toInt32))) else some (a4, t4, l4, f4, mco)) else (if (-(zI z) &&& zI ((2 ^ bits : Nat) : Int)) = 0 then (if 0 ≤ zI z then some (a4, t4, l4, f4, upd mco (q + k) (vp_nar .short (zI z + zI ((2 ^ bits : Nat) : Int)).toInt16.toInt32)) else some (a4, t4, l4, f4, upd mco (q + k) (vp_nar .short (zI z - zI ((2 ^ bits : Nat) : Int)).toInt16.toInt32))) else some (a4, t4, l4, f4, mco))) = (if (zI (z.natAbs : Nat) &&& zI ((2 ^ bits : Nat) : Int)) = 0 then (if 0 ≤ zI z then some (a4, t4, l4, f4, upd mco (q + k) (vp_nar .short (zI z + zI ((2 ^ bits : Nat) : Int)).toInt16.toInt32)) else some (a4, t4, l4, f4, upd mco (q + k) (vp_nar .short (zI z - zI ((2 ^ bits : Nat) : Int)).toInt16.toInt32))) else some (a4, t4, l4, f4, mco)) := by
        by_cases c1 : 0 ≤ z
        · have i1 : 0 ≤ zI z := by rw [show (0 : Int32) = zI 0 from rfl, zI_le (by omega) (by omega) (by omega) (by omega)]; exact c1
          rw [if_pos i1, show ((z.natAbs : Nat) : Int) = z by omega]
        · have i1 : ¬ 0 ≤ zI z := by rw [show (0 : Int32) = zI 0 from rfl, zI_le (by omega) (by omega) (by omega) (by omega)]; exact c1
          rw [if_neg i1, zI_neg, show ((z.natAbs : Nat) : Int) = -z by omega]
      rw [eM]
      by_cases ca : (zI (z.natAbs : Nat) &&& zI ((2 ^ bits : Nat) : Int)) = 0
      · have hA := and_free (by omega) hbits ca
        simp only [if_pos ca]
        by_cases c1 : 0 ≤ z
        · have i1 : 0 ≤ zI z := by rw [show (0 : Int32) = zI 0 from rfl, zI_le (by omega) (by omega) (by omega) (by omega)]; exact c1
          have i2 : ¬ zI z ≤ 0 := by rw [show (0 : Int32) = zI 0 from rfl, zI_le (by omega) (by omega) (by omega) (by omega)]; omega
          rw [if_pos i1, if_neg i2, zI_add, zI_short (by omega) (by omega), zI_shortN (by omega) (by omega)]
          obtain ⟨co', m1, m2⟩ := rB_keep h hq hn (j := k) (k' := k + 1) (z := z + ((2 ^ bits : Nat) : Int)) hk (by omega) (by omega) ⟨by omega, by omega, fun _ => by omega⟩
          rw [m1]
          exact ⟨_, _, _, _, _, _, _, _, _, _, rfl, rfl, hR3, m2⟩
        · have i1 : ¬ 0 ≤ zI z := by rw [show (0 : Int32) = zI 0 from rfl, zI_le (by omega) (by omega) (by omega) (by omega)]; exact c1
          have i2 : zI z ≤ 0 := by rw [show (0 : Int32) = zI 0 from rfl, zI_le (by omega) (by omega) (by omega) (by omega)]; omega
          rw [if_neg i1, if_pos i2, zI_sub, zI_short (by omega) (by omega), zI_shortN (by omega) (by omega)]
          obtain ⟨co', m1, m2⟩ := rB_keep h hq hn (j := k) (k' := k + 1) (z := z - ((2 ^ bits : Nat) : Int)) hk (by omega) (by omega) ⟨by omega, by omega, fun _ => by omega⟩
          rw [m1]
          exact ⟨_, _, _, _, _, _, _, _, _, _, rfl, rfl, hR3, m2⟩
      · simp only [if_neg ca]
        exact ⟨_, _, _, _, _, _, _, _, _, _, rfl, rfl, hR3, rB_mono h (by omega)⟩
    · have y0 : ¬ zI (y : Int) = (1 : Int32) := by rw [show (1 : Int32) = zI ((1 : Nat) : Int) from rfl, eqN (by omega) (by omega)]; exact y1
      simp only [if_neg y0]
      refine ⟨co, a3, p3, l3, f3, a4, t4, l4, f4, mco, rfl, ?_, hR3, rB_mono h (by omega)⟩
      by_cases c1 : 0 ≤ zI z
      · rw [if_pos c1]
      · rw [if_neg c1]
/-! READING: refining, loops -/
theorem r2x (N fuel : Nat) {last p0 bits size K k at1 part left fl : Int32} {nco nb : Nat} {sb co : Nat → Int32} (hr : ¬ fl = 0) : f_Decoder_refineRest_L2 last p0 nco bits size nb sb K N (fuel + 1) (k, co, at1, part, left, fl) = some (co, at1, part, left, fl) := by
  show f_Decoder_refineRest_L2b _ _ _ _ _ _ _ _ N (f_Decoder_refineRest_L2 _ _ _ _ _ _ _ _ N fuel) _ _ _ _ _ _ = _
  unfold f_Decoder_refineRest_L2b
  by_cases c1 : last < k
  · rw [if_pos c1]
  · rw [if_neg c1, if_neg hr]
theorem m204x (N fuel : Nat) {last c p1 bits size k at2 tk left fl : Int32} {mb md mco : Nat → Int32} (hr : ¬ fl = 0) : f_M_readMore_L204 last c mb p1 bits size md N (fuel + 1) (k, at2, tk, left, fl, mco) = some (at2, tk, left, fl, mco) := by
  show f_M_readMore_L204b _ _ _ _ _ _ _ N (f_M_readMore_L204 _ _ _ _ _ _ _ N fuel) _ _ _ _ _ _ = _
  unfold f_M_readMore_L204b
  by_cases c1 : last < k
  · rw [if_pos c1]
  · rw [if_neg c1, if_neg hr]
/-- the rest of a band -/
theorem q_restL (N : Nat) (hN : 1000 ≤ N) {D : Nat → Nat} {dz nb : Nat} {sb md : Nat → Int32} (hD : rDt D dz nb sb md) {K : Int32} {q : Nat} {co0 mco0 : Nat → Int32} {nco : Nat} (hq : q + 64 ≤ nco) (hn : nco ≤ 12288) {c T b bits last : Nat} (hc : c < 4) {mb : Nat → Int32} (hb : mb c = zI (T : Nat)) (hqT : q = 64 * (T + b)) (hbits : bits ≤ 9) (hlast : last ≤ 63) : ∀ (j k fuel fuel' : Nat) (co mco : Nat → Int32) (at1 part left fl at2 tk left2 fl2 : Int32), k + j = last + 1 → 1 ≤ k → j + 1 < fuel → j + 1 < fuel' → rB K q k co0 mco0 co mco → rR dz at1 part left fl at2 tk left2 fl2 →
    (∃ co3 at3 part3 left3 fl3 at4 tk4 left4 fl4 mco4, f_Decoder_refineRest_L2 (zI last) (zI q) nco (zI bits) (zI dz) nb sb K N fuel (zI k, co, at1, part, left, fl) = some (co3, at3, part3, left3, fl3) ∧ f_M_readMore_L204 (zI last) (zI c) mb (zI b) (zI bits) (zI dz) md N fuel' (zI k, at2, tk, left2, fl2, mco) = some (at4, tk4, left4, fl4, mco4) ∧ rX fl3 fl4 ∧ (K = zI 0 → co3 = co0)) ∨
    (∃ co3 at3 part3 left3 fl3 at4 tk4 left4 fl4 mco4, f_Decoder_refineRest_L2 (zI last) (zI q) nco (zI bits) (zI dz) nb sb K N fuel (zI k, co, at1, part, left, fl) = some (co3, at3, part3, left3, fl3) ∧ f_M_readMore_L204 (zI last) (zI c) mb (zI b) (zI bits) (zI dz) md N fuel' (zI k, at2, tk, left2, fl2, mco) = some (at4, tk4, left4, fl4, mco4) ∧ rR dz at3 part3 left3 fl3 at4 tk4 left4 fl4 ∧ rB K q 64 co0 mco0 co3 mco4)
  | 0, k, fuel, fuel', co, mco, at1, part, left, fl, at2, tk, left2, fl2, hj, hk, hf, hf', h, hR => by
    obtain ⟨fuel, rfl⟩ : ∃ j, fuel = j + 1 := ⟨fuel - 1, by omega⟩
    obtain ⟨fuel', rfl⟩ : ∃ j, fuel' = j + 1 := ⟨fuel' - 1, by omega⟩
    have i1 : zI (last : Int) < zI (k : Int) := by rw [ltN (by omega) (by omega)]; omega
    right
    refine ⟨co, at1, part, left, fl, at2, tk, left2, fl2, mco, ?_, ?_, hR, rB_mono h (by omega)⟩
    · show f_Decoder_refineRest_L2b _ _ _ _ _ _ _ _ N (f_Decoder_refineRest_L2 _ _ _ _ _ _ _ _ N fuel) _ _ _ _ _ _ = _
      unfold f_Decoder_refineRest_L2b
      rw [if_pos i1]
    · show f_M_readMore_L204b _ _ _ _ _ _ _ N (f_M_readMore_L204 _ _ _ _ _ _ _ N fuel') _ _ _ _ _ _ = _
      unfold f_M_readMore_L204b
      rw [if_pos i1]
  | j + 1, k, fuel, fuel', co, mco, at1, part, left, fl, at2, tk, left2, fl2, hj, hk, hf, hf', h, hR => by
    obtain ⟨fuel, rfl⟩ : ∃ j, fuel = j + 1 := ⟨fuel - 1, by omega⟩
    obtain ⟨fuel', rfl⟩ : ∃ j, fuel' = j + 1 := ⟨fuel' - 1, by omega⟩
    have i1 : ¬ zI (last : Int) < zI (k : Int) := by rw [ltN (by omega) (by omega)]; omega
    have hz := rR_z hR
    have hco := h.2.1 k (by omega) (by omega)
    have eC : f_Decoder_refineRest_L2 (zI last) (zI q) nco (zI bits) (zI dz) nb sb K N (fuel + 1) (zI k, co, at1, part, left, fl) = if co (q + k) = 0 then f_Decoder_refineRest_L2 (zI last) (zI q) nco (zI bits) (zI dz) nb sb K N fuel (zI (k + 1 : Nat), co, at1, part, left, fl) else (f_Decoder_refineOther N (zI (q + k : Nat)) nco co (zI bits) (zI dz) nb sb at1 part left fl K).bind fun z1 => f_Decoder_refineRest_L2 (zI last) (zI q) nco (zI bits) (zI dz) nb sb K N fuel (zI (k + 1 : Nat), z1.1, z1.2.1, z1.2.2.1, z1.2.2.2.1, z1.2.2.2.2) := by
      show f_Decoder_refineRest_L2b _ _ _ _ _ _ _ _ N (f_Decoder_refineRest_L2 _ _ _ _ _ _ _ _ N fuel) _ _ _ _ _ _ = _
      unfold f_Decoder_refineRest_L2b f_Decoder_refineRest_J2_44
      rw [if_neg i1, if_pos hz.1, addN, clN _ (by omega), if_neg (inN (q + k) nco (by omega) (by omega)), suN]
    have eM : f_M_readMore_L204 (zI last) (zI c) mb (zI b) (zI bits) (zI dz) md N (fuel' + 1) (zI k, at2, tk, left2, fl2, mco) = if mco (q + k) = 0 then f_M_readMore_L204 (zI last) (zI c) mb (zI b) (zI bits) (zI dz) md N fuel' (zI (k + 1 : Nat), at2, tk, left2, fl2, mco) else (f_M_more (zI c) (zI b) (zI k) (zI bits) (zI dz) at2 tk left2 fl2 mb mco md).bind fun z7 => f_M_readMore_L204 (zI last) (zI c) mb (zI b) (zI bits) (zI dz) md N fuel' (zI (k + 1 : Nat), z7.1, z7.2.1, z7.2.2.1, z7.2.2.2.1, z7.2.2.2.2) := by
      show f_M_readMore_L204b _ _ _ _ _ _ _ N (f_M_readMore_L204 _ _ _ _ _ _ _ N fuel') _ _ _ _ _ _ = _
      unfold f_M_readMore_L204b f_M_readMore_J204_247
      rw [if_neg i1, if_pos hz.2, clN c (by omega), if_neg (inN c 4 hc (by omega)), hb, ixM, ← hqT, clN _ (by omega), if_neg (inN (q + k) 12288 (by omega) (by omega)), suN]
    rw [eC, eM]
    by_cases c0 : co (q + k) = 0
    · rw [if_pos c0, if_pos (by rw [← hco]; exact c0)]
      exact q_restL N hN hD hq hn hc hb hqT hbits hlast j (k + 1) fuel fuel' co mco at1 part left fl at2 tk left2 fl2 (by omega) (by omega) (by omega) (by omega) (rB_mono h (by omega)) hR
    · rw [if_neg c0, if_neg (by rw [← hco]; exact c0)]
      rcases q_more N hN hD h hq hn hc hb hqT hbits hk (by omega) c0 hR with ⟨a3, p3, l3, f3, a4, t4, l4, f4, h1, h2, hX⟩ | ⟨co3, a3, p3, l3, f3, a4, t4, l4, f4, mco4, h1, h2, hR3, hB3⟩
      · left
        have hx := rX_nz hX
        obtain ⟨fuel, rfl⟩ : ∃ j, fuel = j + 1 := ⟨fuel - 1, by omega⟩
        obtain ⟨fuel', rfl⟩ : ∃ j, fuel' = j + 1 := ⟨fuel' - 1, by omega⟩
        rw [h1, h2]
        dsimp only [Option.bind_some]
        rw [r2x N fuel hx.1, m204x N fuel' hx.2.1]
        exact ⟨_, _, _, _, _, _, _, _, _, _, rfl, rfl, hX, rB_0 h⟩
      · rw [h1, h2]
        dsimp only [Option.bind_some]
        exact q_restL N hN hD hq hn hc hb hqT hbits hlast j (k + 1) fuel fuel' co3 mco4 a3 p3 l3 f3 a4 t4 l4 f4 (by omega) (by omega) (by omega) (by omega) hB3 hR3
theorem n73x (N fuel : Nat) {last p1 bits size K v k at1 part left fl : Int32} {nco nb : Nat} {sb co : Nat → Int32} (hr : ¬ fl = 0) : f_Decoder_takeNewOne_L73 last p1 nco bits size nb sb K N (fuel + 1) (v, k, co, at1, part, left, fl) = some (1, k, co, at1, part, left, fl) := by
  show f_Decoder_takeNewOne_L73b _ _ _ _ _ _ _ _ N (f_Decoder_takeNewOne_L73 _ _ _ _ _ _ _ _ N fuel) _ _ _ _ _ _ _ = _
  unfold f_Decoder_takeNewOne_L73b
  by_cases c1 : last < k
  · rw [if_pos c1]
  · rw [if_neg c1, if_neg hr]
theorem o7x (N fuel : Nat) {last c p1 bits size k v at2 tk left fl : Int32} {mb md mco : Nat → Int32} (hr : ¬ fl = 0) : f_M_over_L7 last c mb p1 bits size md N (fuel + 1) (k, v, at2, tk, left, fl, mco) = some (2, k, at2, tk, left, fl, mco) := by
  show f_M_over_L7b _ _ _ _ _ _ _ N (f_M_over_L7 _ _ _ _ _ _ _ N fuel) _ _ _ _ _ _ _ = _
  unfold f_M_over_L7b
  rw [if_neg hr]
/-- over coefficients up to a zero -/
theorem q_ovL (N : Nat) (hN : 1000 ≤ N) {D : Nat → Nat} {dz nb : Nat} {sb md : Nat → Int32} (hD : rDt D dz nb sb md) {K : Int32} {q : Nat} {co0 mco0 : Nat → Int32} {nco : Nat} (hq : q + 64 ≤ nco) (hn : nco ≤ 12288) {c T b bits last : Nat} (hc : c < 4) {mb : Nat → Int32} (hb : mb c = zI (T : Nat)) (hqT : q = 64 * (T + b)) (hbits : bits ≤ 9) (hlast : last ≤ 63) : ∀ (j k v fuel fuel' : Nat) (co mco : Nat → Int32) (at1 part left fl at2 tk left2 fl2 : Int32), k + j = last + 1 → 1 ≤ k → v ≤ 15 → j + 1 < fuel → j + 1 < fuel' → rB K q k co0 mco0 co mco → rR dz at1 part left fl at2 tk left2 fl2 →
    (∃ u co3 at3 part3 left3 fl3 kk u' at4 tk4 left4 fl4 mco4, f_Decoder_takeNewOne_L73 (zI last) (zI q) nco (zI bits) (zI dz) nb sb K N fuel (zI v, zI k, co, at1, part, left, fl) = some (1, u, co3, at3, part3, left3, fl3) ∧ f_M_over_L7 (zI last) (zI c) mb (zI b) (zI bits) (zI dz) md N fuel' (zI k, zI v, at2, tk, left2, fl2, mco) = some (kk, u', at4, tk4, left4, fl4, mco4) ∧ (kk = 2 ∧ rX fl3 fl4 ∨ kk = 0 ∧ fl3 = 0 ∧ fl4 = 0) ∧ (K = zI 0 → co3 = co0)) ∨
    (∃ k' co3 at3 part3 left3 fl3 at4 tk4 left4 fl4 mco4, k ≤ k' ∧ k' ≤ last ∧ f_Decoder_takeNewOne_L73 (zI last) (zI q) nco (zI bits) (zI dz) nb sb K N fuel (zI v, zI k, co, at1, part, left, fl) = some (0, zI (k' : Nat), co3, at3, part3, left3, fl3) ∧ f_M_over_L7 (zI last) (zI c) mb (zI b) (zI bits) (zI dz) md N fuel' (zI k, zI v, at2, tk, left2, fl2, mco) = some (1, zI (k' : Nat), at4, tk4, left4, fl4, mco4) ∧ rR dz at3 part3 left3 fl3 at4 tk4 left4 fl4 ∧ rB K q k' co0 mco0 co3 mco4 ∧ mco4 (q + k') = 0)
  | 0, k, v, fuel, fuel', co, mco, at1, part, left, fl, at2, tk, left2, fl2, hj, hk, hv, hf, hf', h, hR => by
    obtain ⟨fuel, rfl⟩ : ∃ j, fuel = j + 1 := ⟨fuel - 1, by omega⟩
    obtain ⟨fuel', rfl⟩ : ∃ j, fuel' = j + 1 := ⟨fuel' - 1, by omega⟩
    have i1 : zI (last : Int) < zI (k : Int) := by rw [ltN (by omega) (by omega)]; omega
    have i2 : ¬ zI (k : Int) ≤ zI (last : Int) := by rw [leN (by omega) (by omega)]; omega
    have hz := rR_z hR
    left
    refine ⟨zI k, co, at1, part, left, fl, 0, zI k, at2, tk, left2, fl2, mco, ?_, ?_, Or.inr ⟨rfl, hz.1, hz.2⟩, rB_0 h⟩
    · show f_Decoder_takeNewOne_L73b _ _ _ _ _ _ _ _ N (f_Decoder_takeNewOne_L73 _ _ _ _ _ _ _ _ N fuel) _ _ _ _ _ _ _ = _
      unfold f_Decoder_takeNewOne_L73b
      rw [if_pos i1]
    · show f_M_over_L7b _ _ _ _ _ _ _ N (f_M_over_L7 _ _ _ _ _ _ _ N fuel') _ _ _ _ _ _ _ = _
      unfold f_M_over_L7b
      rw [if_pos hz.2, if_neg i2]
  | j + 1, k, v, fuel, fuel', co, mco, at1, part, left, fl, at2, tk, left2, fl2, hj, hk, hv, hf, hf', h, hR => by
    obtain ⟨fuel, rfl⟩ : ∃ j, fuel = j + 1 := ⟨fuel - 1, by omega⟩
    obtain ⟨fuel', rfl⟩ : ∃ j, fuel' = j + 1 := ⟨fuel' - 1, by omega⟩
    have i1 : ¬ zI (last : Int) < zI (k : Int) := by rw [ltN (by omega) (by omega)]; omega
    have i2 : zI (k : Int) ≤ zI (last : Int) := by rw [leN (by omega) (by omega)]; omega
    have hz := rR_z hR
    have hco := h.2.1 k (by omega) (by omega)
    have eC : f_Decoder_takeNewOne_L73 (zI last) (zI q) nco (zI bits) (zI dz) nb sb K N (fuel + 1) (zI v, zI k, co, at1, part, left, fl) = if co (q + k) = 0 then (if zI v = 0 then some (0, zI k, co, at1, part, left, fl) else f_Decoder_takeNewOne_L73 (zI last) (zI q) nco (zI bits) (zI dz) nb sb K N fuel (zI v + (-1 : Int32), zI (k + 1 : Nat), co, at1, part, left, fl)) else (f_Decoder_refineOther N (zI (q + k : Nat)) nco co (zI bits) (zI dz) nb sb at1 part left fl K).bind fun z1 => f_Decoder_takeNewOne_L73 (zI last) (zI q) nco (zI bits) (zI dz) nb sb K N fuel (zI v, zI (k + 1 : Nat), z1.1, z1.2.1, z1.2.2.1, z1.2.2.2.1, z1.2.2.2.2) := by
      show f_Decoder_takeNewOne_L73b _ _ _ _ _ _ _ _ N (f_Decoder_takeNewOne_L73 _ _ _ _ _ _ _ _ N fuel) _ _ _ _ _ _ _ = _
      unfold f_Decoder_takeNewOne_L73b f_Decoder_takeNewOne_J73_144
      rw [if_neg i1, if_pos hz.1, addN, clN _ (by omega), if_neg (inN (q + k) nco (by omega) (by omega)), suN]
    have eM : f_M_over_L7 (zI last) (zI c) mb (zI b) (zI bits) (zI dz) md N (fuel' + 1) (zI k, zI v, at2, tk, left2, fl2, mco) = if mco (q + k) = 0 then (if zI v = 0 then some (1, zI k, at2, tk, left2, fl2, mco) else f_M_over_L7 (zI last) (zI c) mb (zI b) (zI bits) (zI dz) md N fuel' (zI (k + 1 : Nat), zI v + (-1 : Int32), at2, tk, left2, fl2, mco)) else (f_M_more (zI c) (zI b) (zI k) (zI bits) (zI dz) at2 tk left2 fl2 mb mco md).bind fun z1 => f_M_over_L7 (zI last) (zI c) mb (zI b) (zI bits) (zI dz) md N fuel' (zI (k + 1 : Nat), zI v, z1.1, z1.2.1, z1.2.2.1, z1.2.2.2.1, z1.2.2.2.2) := by
      show f_M_over_L7b _ _ _ _ _ _ _ N (f_M_over_L7 _ _ _ _ _ _ _ N fuel') _ _ _ _ _ _ _ = _
      unfold f_M_over_L7b f_M_over_J7_73
      rw [if_pos hz.2, if_pos i2, clN c (by omega), if_neg (inN c 4 hc (by omega)), hb, ixM, ← hqT, clN _ (by omega), if_neg (inN (q + k) 12288 (by omega) (by omega)), suN]
    rw [eC, eM]
    by_cases c0 : co (q + k) = 0
    · have c0' : mco (q + k) = 0 := by rw [← hco]; exact c0
      rw [if_pos c0, if_pos c0']
      by_cases v0 : v = 0
      · right
        rw [if_pos (show zI (v : Int) = 0 by rw [v0]; rfl), if_pos (show zI (v : Int) = 0 by rw [v0]; rfl)]
        exact ⟨k, co, at1, part, left, fl, at2, tk, left2, fl2, mco, by omega, by omega, rfl, rfl, hR, h, c0'⟩
      · rw [if_neg (nzN (b := v) (by omega) (by omega)), if_neg (nzN (b := v) (by omega) (by omega)), show zI (v : Int) + (-1 : Int32) = zI ((v - 1 : Nat) : Int) by rw [show (-1 : Int32) = zI (-1) from rfl, zI_add]; congr 1; omega]
        rcases q_ovL N hN hD hq hn hc hb hqT hbits hlast j (k + 1) (v - 1) fuel fuel' co mco at1 part left fl at2 tk left2 fl2 (by omega) (by omega) (by omega) (by omega) (by omega) (rB_mono h (by omega)) hR with h' | ⟨k', co3, a3, p3, l3, f3, a4, t4, l4, f4, mco4, g1, g2, g3⟩
        · exact Or.inl h'
        · exact Or.inr ⟨k', co3, a3, p3, l3, f3, a4, t4, l4, f4, mco4, by omega, g2, g3⟩
    · rw [if_neg c0, if_neg (by rw [← hco]; exact c0)]
      rcases q_more N hN hD h hq hn hc hb hqT hbits hk (by omega) c0 hR with ⟨a3, p3, l3, f3, a4, t4, l4, f4, h1, h2, hX⟩ | ⟨co3, a3, p3, l3, f3, a4, t4, l4, f4, mco4, h1, h2, hR3, hB3⟩
      · left
        have hx := rX_nz hX
        obtain ⟨fuel, rfl⟩ : ∃ j, fuel = j + 1 := ⟨fuel - 1, by omega⟩
        obtain ⟨fuel', rfl⟩ : ∃ j, fuel' = j + 1 := ⟨fuel' - 1, by omega⟩
        rw [h1, h2]
        dsimp only [Option.bind_some]
        rw [n73x N fuel hx.1, o7x N fuel' hx.2.1]
        exact ⟨_, _, _, _, _, _, _, _, _, _, _, _, _, rfl, rfl, Or.inl ⟨rfl, hX⟩, rB_0 h⟩
      · rw [h1, h2]
        dsimp only [Option.bind_some]
        rcases q_ovL N hN hD hq hn hc hb hqT hbits hlast j (k + 1) v fuel fuel' co3 mco4 a3 p3 l3 f3 a4 t4 l4 f4 (by omega) (by omega) (by omega) (by omega) (by omega) hB3 hR3 with h' | ⟨k', co3, a3, p3, l3, f3, a4, t4, l4, f4, mco4, g1, g2, g3⟩
        · exact Or.inl h'
        · exact Or.inr ⟨k', co3, a3, p3, l3, f3, a4, t4, l4, f4, mco4, by omega, g2, g3⟩
