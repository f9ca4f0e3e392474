/-! Promises 11 and 13: write, tally -/
set_option maxHeartbeats 1000000 in
theorem q_tally (N : Nat) (hN : 20000 ≤ N) {many uA uD bk : Int32} {h v ac dn oa od st : Nat → Int32} {nco : Nat} {co : Nat → Int32} {kind first last bits units bl iv : Int32} {ow pl dt ot : Nat → Int32} {many' uA' uD' mask first' last' before' bits' iv' : Int32} {h' v' ac' dn' oa' od' st' co' dt' ot' ln cd : Nat → Int32} {vw vs vf vx : Nat → Nat → Int32} {ve vz wd : Nat → Int32}
    (H : rFS many uA uD bk h v ac dn oa od st nco co kind first last bits units bl ow pl many' uA' uD' mask first' last' before' bits' h' v' ac' dn' oa' od' st' co') (hT : rTabs dt ot dt' ot') (hI : rIv iv iv') (hA : rAll vw vs vf vx ve vz ln cd wd) (ct ep er tm out' p' rb tc : Nat → Int32) (rt cms : Int32) :
    ∃ a ct1 y th y1 y2 y3 y4 y5 y6 y7 y8 y9 tm1 y10, f_SC_tally N nco co kind first last bits iv units bl ow pl dt ot ct rt ep er = some (a, a, ct1, y) ∧ f_M_tally N many' uA' uD' mask first' last' before' bits' iv' cms h' v' ac' oa' od' st' co' ln cd dt' ot' out' tm p' rb tc = some (a, th, y1, y2, y3, y4, y5, y6, y7, y8, y9, tm1, y10) ∧ ∀ i, i < 2048 → ct1 i = tm1 i := by
  obtain ⟨w, hi, n, s, m, k, f, l, b, bf, hP, hS⟩ := H
  obtain ⟨hF, ⟨rfl, rfl, rfl, rfl⟩, hf, hnc, ⟨rfl, rfl, rfl⟩, hf', hC⟩ := hP
  obtain ⟨hok, ⟨rfl, rfl, rfl, rfl⟩, hcr, ⟨rfl, rfl, rfl, rfl, rfl⟩⟩ := hS
  obtain ⟨hi1, i0, i1⟩ := hI
  subst hi1
  obtain ⟨iw, hiw, rfl⟩ : ∃ iw : Nat, iw ≤ 65535 ∧ iv' = zI (iw : Nat) := ⟨iv'.toInt.toNat, by omega, by rw [Int.toNat_of_nonneg i0]; exact zI_of _⟩
  clear i0 i1
  obtain ⟨Lc, Vc, hL, hv, hlc⟩ := codes_of hA
  obtain ⟨CC, hCC, hCr⟩ := cc_of hC
  obtain ⟨D, O, hDO⟩ := tb_of hT
  obtain ⟨hK, hKM, hK3⟩ := oks_K hok
  obtain ⟨hm0, hm, -, -⟩ := hok
  have hn4 := hF.2.2.1
  have h16 := m_lt16 hn4.2 hm
  have hUn := jzUn_rng hF m hm0 hm
  have hc0 : jzC0 m < 4 := by unfold jzC0; split <;> (try split) <;> (try split) <;> omega
  have ht0 : O (jzC0 m) < 8 := (hDO _ hc0).2.2.2.2.2
  have hB := hF.2.2.2.2
  have hUl : ∀ u, (jzUL w n s m u n).length = jzBl n s m := fun u => UL_len ..
  have hplace : ∀ u q, u < jzUn w hi n s m → q ∈ jzUL w n s m u n → q.1 < n ∧ ∀ k, k ≤ 63 → 64 * (jzT w hi n s q.1 + q.2) + k < 64 * jzT w hi n s n := fun u q hu hq => by
    obtain ⟨i1, i2, i3⟩ := UL_in hF hm0 hm hu hq
    have := jzT_le hF i1
    exact ⟨i1, fun k hk => by omega⟩
  have hbk : ∀ u q, u < jzUn w hi n s m → q ∈ jzUL w n s m u n → okBk CC (jzT w hi n s) D O nco co dt ot q ∧ (3 ≤ k → O q.1 = O (jzC0 m)) := fun u q hu hq => by
    obtain ⟨i1, i2⟩ := hplace u q hu hq
    obtain ⟨d1, d2, d3, d4, d5, d6⟩ := hDO q.1 (by omega)
    refine ⟨⟨by omega, d1, d3, d5, d6, fun k hk => ⟨by have := i2 k hk; omega, (hCC _ (i2 k hk)).1, hCr _⟩⟩, fun hk => ?_⟩
    rw [UL_c0 hF hm0 hm hu hq (hK3 hk)]
  have hbM : ∀ u q, u < jzUn w hi n s m → q ∈ jzUL w n s m u n → okBM CC (jzT w hi n s) D O st' co' dt' ot' q := fun u q hu hq => by
    obtain ⟨i1, i2⟩ := hplace u q hu hq
    obtain ⟨d1, d2, d3, d4, d5, d6⟩ := hDO q.1 (by omega)
    exact ⟨by omega, (hf' q.1 i1).2.2.2.2.2.2, d2, d4, d5, d6, fun k hk => ⟨by have := i2 k hk; omega, (hCC _ (i2 k hk)).2, hCr _⟩⟩
  have hlen := allE_len (T := jzT w hi n s) (D := D) (O := O) (iv := iw) (t0 := O (jzC0 m)) hK hCr hUl hUn.2.1 hUn.2.2
  have hbl : jzBl n s m ≤ 192 := by
    have := Nat.mul_le_mul_right (jzBl n s m) hUn.1
    omega
  obtain ⟨hu1, hb1, hcr3⟩ := hcr
  subst hu1 hb1
  obtain ⟨z1, c1, c2, -⟩ := q_fillI N 2048 (by omega) (by omega) (0 : Int32) ct
  have h0 : rCnt [] (zI 0) z1 := ⟨rfl, fun i hi => by rw [c2 i hi]; rfl⟩
  obtain ⟨tot2, ct2, y2, w2, r2⟩ := q_enc_cnt N hN (CC := CC) (T := jzT w hi n s) (D := D) (O := O) (UL := fun u => jzUL w n s m u n) (t0 := O (jzC0 m)) (iv := iw) (n := jzUn w hi n s m) (bl := jzBl n s m) (nco := nco) hnc.2.2 hK ht0 hUn.2.1 hUn.2.2 hbl hiw hUl hcr3 hbk ep er rt h0
  obtain ⟨ou3, pa3, pd3, fa3, ru3, rm3, co3, out3, tm3, p3, rb3, tc3, w3, r3⟩ := q_MwA N hN hL hlc hF hf' (CC := CC) (T := jzT w hi n s) (D := D) (O := O) (cm := zI 1) hKM hm0 hm ht0 (hDO _ hc0).2.2.2.1 hiw hbM (Or.inr rfl) cms out' tm p' rb tc
  obtain ⟨h1, ⟨h2, -⟩ | ⟨-, h2, h3⟩⟩ := r3
  · exact absurd h2 (by decide)
  have hs : f_M_tally_L18 tm3 N N ((0 : Int32), (0 : Int32)) = some (smI tm3 2048) := by
    have := it_cnt1 (b := fun rec a => f_M_tally_L18b tm3 N rec a.1 a.2) (fun c => (smI tm3 c, zI c)) (smI tm3 2048) 2048 (fun g c hc hg => by
      unfold f_M_tally_L18b
      simp (disch := omega) only [zI_lit, zI_ofNat, zI_nI, zI_neg, zI_add, zI_sub, zI_mul, zI_lt, zI_le, zI_eq, zI_cl, zI_div, zI_shr, zI_shl, zI_and1, zI_and7, zI_and15, zI_and255, if_pos, if_neg, Option.bind_some, Option.bind_none, if_true, if_false, true_or, or_true, Int.toNat_natCast, pk_us]
      exact hg) (fun g => by
      unfold f_M_tally_L18b
      simp (disch := omega) only [zI_lit, zI_ofNat, zI_nI, zI_neg, zI_add, zI_sub, zI_mul, zI_lt, zI_le, zI_eq, zI_cl, zI_div, zI_shr, zI_shl, zI_and1, zI_and7, zI_and15, zI_and255, if_pos, if_neg, Option.bind_some, Option.bind_none, if_true, if_false, true_or, or_true, Int.toNat_natCast, pk_us]) N 0 (by omega) (by omega)
    exact this
  have hsum : smI tm3 2048 = tot2 := by
    rw [sum_c h3, cW_sum 2048 _ (fun e he h0 => by rcases h1 e he with ⟨_, a1, a2⟩ | ⟨a1, _⟩ | a1 | ⟨a1, _⟩ <;> omega), r2.1]
  unfold f_SC_tally f_M_tally f_Counter_begin
  rw [c1]
  dsimp only [Option.bind_some]
  rw [show f_Encoder_encode_cnt N nco co (zI k) (zI f) (zI l) (zI b) (zI (iw : Nat)) (zI (jzUn w hi n s m : Nat)) (zI (jzBl n s m : Nat)) ow pl dt ot (0 : Int32) z1 rt ep er = _ from w2, show f_M_writeAll N (zI n) (zI (jzU w s n : Nat)) (zI (jzU hi (s / 2) n : Nat)) (zI m) (zI f) (zI l) (zI bf) (zI b) (zI (iw : Nat)) (1 : Int32) cms h' v' ac' oa' od' st' co' ln cd dt' ot' out' tm p' rb tc = _ from w3]
  dsimp only [Option.bind_some]
  rw [hs, hsum]
  exact ⟨_, _, _, _, _, _, _, _, _, _, _, _, _, _, _, rfl, rfl, fun i hi => by rw [r2.2 i hi, h3 i hi]⟩
theorem wAll_z (Lc Vc : Nat → Nat → Nat) : wAll Lc Vc [] = ([], 0, 0, 0) := rfl
set_option maxHeartbeats 2000000 in
theorem q_write (N : Nat) (hN : 20000 ≤ N) {many uA uD bk : Int32} {h v ac dn oa od st : Nat → Int32} {nco : Nat} {co : Nat → Int32} {kind first last bits units bl iv : Int32} {ow pl dt ot : Nat → Int32} {many' uA' uD' mask first' last' before' bits' iv' : Int32} {h' v' ac' dn' oa' od' st' co' dt' ot' ln cd : Nat → Int32} {vw vs vf vx : Nat → Nat → Int32} {ve vz wd : Nat → Int32} {len len' : Int32} {nb : Nat} {sb md : Nat → Int32}
    (H : rFS many uA uD bk h v ac dn oa od st nco co kind first last bits units bl ow pl many' uA' uD' mask first' last' before' bits' h' v' ac' dn' oa' od' st' co') (hT : rTabs dt ot dt' ot') (hI : rIv iv iv') (hA : rAll vw vs vf vx ve vz ln cd wd) (hD : rData len nb sb len' md) (ep er tm out' p' rb tc tk : Nat → Int32) (rt cms : Int32) :
    ∃ a len1 nb1 sb1 y th len2 y1 y2 y3 y4 y5 y6 y7 y8 md2 y9 tm2 y10, f_M_write N many' uA' uD' mask first' last' before' bits' iv' len' cms h' v' ac' oa' od' st' co' ln cd dt' ot' md out' tm p' rb tc tk = some (a, th, len2, y1, y2, y3, y4, y5, y6, y7, y8, md2, y9, tm2, y10) ∧ rData len1 nb1 sb1 len2 md2 ∧ (∀ i, i < 2048 → tm2 i = tm i) ∧
      (f_SC_write 0 N nco co kind first last bits iv units bl ow pl dt ot len nb sb rt ep er vw = some (a, len1, nb1, sb1, y) ∧ nb1 = nb ∨ f_SC_write 0 N nco co kind first last bits iv units bl ow pl dt ot len nb sb rt ep er vw = none ∧ f_SC_write 16384 N nco co kind first last bits iv units bl ow pl dt ot len nb sb rt ep er vw = some (a, len1, nb1, sb1, y) ∧ rGrow nb nb1 16384) := by
  obtain ⟨w, hi, n, s, m, k, f, l, b, bf, hP, hS⟩ := H
  obtain ⟨hF, ⟨rfl, rfl, rfl, rfl⟩, hf, hnc, ⟨rfl, rfl, rfl⟩, hf', hC⟩ := hP
  obtain ⟨hok, ⟨rfl, rfl, rfl, rfl⟩, hcr, ⟨rfl, rfl, rfl, rfl, rfl⟩⟩ := hS
  obtain ⟨hi1, i0, i1⟩ := hI
  subst hi1
  obtain ⟨iw, hiw, rfl⟩ : ∃ iw : Nat, iw ≤ 65535 ∧ iv' = zI (iw : Nat) := ⟨iv'.toInt.toNat, by omega, by rw [Int.toNat_of_nonneg i0]; exact zI_of _⟩
  clear i0 i1
  obtain ⟨Lc, Vc, hL, hv, hlc⟩ := codes_of hA
  obtain ⟨CC, hCC, hCr⟩ := cc_of hC
  obtain ⟨D, O, hDO⟩ := tb_of hT
  obtain ⟨hK, hKM, hK3⟩ := oks_K hok
  obtain ⟨hm0, hm, -, -⟩ := hok
  have hn4 := hF.2.2.1
  have h16 := m_lt16 hn4.2 hm
  have hUn := jzUn_rng hF m hm0 hm
  have hc0 : jzC0 m < 4 := by unfold jzC0; split <;> (try split) <;> (try split) <;> omega
  have ht0 : O (jzC0 m) < 8 := (hDO _ hc0).2.2.2.2.2
  have hB := hF.2.2.2.2
  have hUl : ∀ u, (jzUL w n s m u n).length = jzBl n s m := fun u => UL_len ..
  have hplace : ∀ u q, u < jzUn w hi n s m → q ∈ jzUL w n s m u n → q.1 < n ∧ ∀ k, k ≤ 63 → 64 * (jzT w hi n s q.1 + q.2) + k < 64 * jzT w hi n s n := fun u q hu hq => by
    obtain ⟨i1, i2, i3⟩ := UL_in hF hm0 hm hu hq
    have := jzT_le hF i1
    exact ⟨i1, fun k hk => by omega⟩
  have hbk : ∀ u q, u < jzUn w hi n s m → q ∈ jzUL w n s m u n → okBk CC (jzT w hi n s) D O nco co dt ot q ∧ (3 ≤ k → O q.1 = O (jzC0 m)) := fun u q hu hq => by
    obtain ⟨i1, i2⟩ := hplace u q hu hq
    obtain ⟨d1, d2, d3, d4, d5, d6⟩ := hDO q.1 (by omega)
    refine ⟨⟨by omega, d1, d3, d5, d6, fun k hk => ⟨by have := i2 k hk; omega, (hCC _ (i2 k hk)).1, hCr _⟩⟩, fun hk => ?_⟩
    rw [UL_c0 hF hm0 hm hu hq (hK3 hk)]
  have hbM : ∀ u q, u < jzUn w hi n s m → q ∈ jzUL w n s m u n → okBM CC (jzT w hi n s) D O st' co' dt' ot' q := fun u q hu hq => by
    obtain ⟨i1, i2⟩ := hplace u q hu hq
    obtain ⟨d1, d2, d3, d4, d5, d6⟩ := hDO q.1 (by omega)
    exact ⟨by omega, (hf' q.1 i1).2.2.2.2.2.2, d2, d4, d5, d6, fun k hk => ⟨by have := i2 k hk; omega, (hCC _ (i2 k hk)).2, hCr _⟩⟩
  have hlen := allE_len (T := jzT w hi n s) (D := D) (O := O) (iv := iw) (t0 := O (jzC0 m)) hK hCr hUl hUn.2.1 hUn.2.2
  have hbl : jzBl n s m ≤ 192 := by
    have := Nat.mul_le_mul_right (jzBl n s m) hUn.1
    omega
  obtain ⟨hu1, hb1, hcr3⟩ := hcr
  subst hu1 hb1
  have hD0 := hD
  obtain ⟨dl, dl0, dl1, dl2, dn0, dn1, ds, df, dg⟩ := hD
  have h0 : rWr Lc Vc (zI 0) nb sb [] sb (zI 0) (zI 0) (zI 0) (zI 0) := ⟨fun e he => by simp at he, by simp, ⟨⟨df, Or.inl ⟨rfl, fun i => rfl⟩⟩, rfl, rfl, rfl⟩, rfl⟩
  obtain ⟨sb2, pa2, fi2, le2, la2, y2, w2, r2⟩ := q_enc_wr N hN hL hv dn1 (CC := CC) (T := jzT w hi n s) (D := D) (O := O) (UL := fun u => jzUL w n s m u n) (t0 := O (jzC0 m)) (iv := iw) (n := jzUn w hi n s m) (bl := jzBl n s m) (nco := nco) hnc.2.2 hK ht0 hUn.2.1 hUn.2.2 hbl hiw hUl hcr3 hbk ep er rt h0 hlen
  obtain ⟨ou3, pa3, pd3, fa3, ru3, rm3, co3, out3, tm3, p3, rb3, tc3, w3, r3⟩ := q_MwA N hN hL hlc hF hf' (CC := CC) (T := jzT w hi n s) (D := D) (O := O) (cm := zI 0) hKM hm0 hm ht0 (hDO _ hc0).2.2.2.1 hiw hbM (Or.inl rfl) cms out' tm p' rb tc
  have hok1 := r2.1
  obtain ⟨-, -, ⟨⟨bf2, bb2⟩, bp2, bf3, bl2⟩, ba2⟩ := r2
  have hsb : ∀ i, sb2 i = sb i := by
    rcases bb2 with ⟨_, h⟩ | ⟨h, _⟩
    · exact h
    · exact absurd h (by decide)
  obtain ⟨-, ⟨-, m1, m2, m3, m4, m5⟩ | ⟨h9, -⟩⟩ := r3
  rotate_left
  · exact absurd h9 (by decide)
  have hWok := wAll_okW hL hok1 (by omega)
  have hWl := hWok.2.2.2.1
  have hWk := hWok.2.2.2.2
  have hWb := hWok.2.2.1
  -- the reference's three loops
  have l12 : ∃ z, f_M_write_L12 tm N N ((0 : Int32), tk) = some z ∧ ∀ i, i < 2048 → z i = tm i := by
    refine it_cnt (P := fun c (a : Int32 × (Nat → Int32)) => a.1 = zI c ∧ ∀ i, i < c → a.2 i = tm i) (R := fun (z : Nat → Int32) => ∀ i, i < 2048 → z i = tm i) 2048 ?_ ?_ N 0 _ ⟨rfl, fun i hi => absurd hi (by omega)⟩ (by omega) (by omega)
    · rintro g c ⟨a, d⟩ hc ⟨q1, q2⟩ ih
      dsimp only at q1 q2
      subst q1
      unfold f_M_write_L12b
      dsimp only
      have gc := inN c 2048 hc (by omega)
      rw [clN c (by omega), suN c, if_neg (by rw [zI_lit, zI_le (by decide) (by decide) (by omega) (by omega)]; show ¬ (2048 : Int) ≤ _; omega), if_neg gc, if_neg gc]
      refine ih _ ⟨rfl, fun i hi => ?_⟩
      dsimp only
      by_cases ei : i = c
      · rw [ei, pk_us]
      · rw [pk_un ei]; exact q2 i (by omega)
    · rintro g ⟨a, d⟩ ⟨q1, q2⟩
      dsimp only at q1 q2
      subst q1
      unfold f_M_write_L12b
      dsimp only
      rw [if_pos (by decide)]
      exact ⟨_, rfl, q2⟩
  obtain ⟨tk1, v1, v2⟩ := l12
  have l43 : ∃ z, f_M_write_L43 tk1 N N ((0 : Int32), tm3) = some z ∧ ∀ i, i < 2048 → z i = tm i := by
    refine it_cnt (P := fun c (a : Int32 × (Nat → Int32)) => a.1 = zI c ∧ ∀ i, i < c → a.2 i = tm i) (R := fun (z : Nat → Int32) => ∀ i, i < 2048 → z i = tm i) 2048 ?_ ?_ N 0 _ ⟨rfl, fun i hi => absurd hi (by omega)⟩ (by omega) (by omega)
    · rintro g c ⟨a, d⟩ hc ⟨q1, q2⟩ ih
      dsimp only at q1 q2
      subst q1
      unfold f_M_write_L43b
      dsimp only
      have gc := inN c 2048 hc (by omega)
      rw [clN c (by omega), suN c, if_neg (by rw [zI_lit, zI_le (by decide) (by decide) (by omega) (by omega)]; show ¬ (2048 : Int) ≤ _; omega), if_neg gc, if_neg gc]
      refine ih _ ⟨rfl, fun i hi => ?_⟩
      dsimp only
      by_cases ei : i = c
      · rw [ei, pk_us]; exact v2 c (by omega)
      · rw [pk_un ei]; exact q2 i (by omega)
    · rintro g ⟨a, d⟩ ⟨q1, q2⟩
      dsimp only at q1 q2
      subst q1
      unfold f_M_write_L43b
      dsimp only
      rw [if_pos (by decide)]
      exact ⟨_, rfl, q2⟩
  obtain ⟨tm4, v3, v4⟩ := l43
  have hM : f_M_write N (zI n) (zI (jzU w s n : Nat)) (zI (jzU hi (s / 2) n : Nat)) (zI m) (zI f) (zI l) (zI bf) (zI b) (zI (iw : Nat)) len' cms h' v' ac' oa' od' st' co' ln cd dt' ot' md out' tm p' rb tc tk = (if fa3 = 0 then (f_M_write_L87 ou3 out3 N N ((0 : Int32), md)).bind fun z4 => some (ou3, (0 : Int32), ou3, ou3, pa3, pd3, fa3, (0 : Int32), ru3, rm3, co3, z4, out3, tm4, p3, rb3, tc3, tk1) else some ((-1 : Int32), (0 : Int32), len', ou3, pa3, pd3, fa3, (0 : Int32), ru3, rm3, co3, md, out3, tm4, p3, rb3, tc3, tk1)) := by
    unfold f_M_write
    rw [v1]
    dsimp only [Option.bind_some]
    rw [show f_M_writeAll N (zI n) (zI (jzU w s n : Nat)) (zI (jzU hi (s / 2) n : Nat)) (zI m) (zI f) (zI l) (zI bf) (zI b) (zI (iw : Nat)) (0 : Int32) cms h' v' ac' oa' od' st' co' ln cd dt' ot' out' tm p' rb tc = _ from w3]
    dsimp only [Option.bind_some]
    rw [v3]
    rfl
  have w2' : f_Encoder_encode_wr N nco co (zI k) (zI f) (zI l) (zI b) (zI (iw : Nat)) (zI (jzUn w hi n s m : Nat)) (zI (jzBl n s m : Nat)) ow pl dt ot nb sb (0 : Int32) (0 : Int32) (0 : Int32) (0 : Int32) (0 : Int32) rt ep er vw = some (sb2, pa2, fi2, le2, la2, y2) := w2
  have rD2 : rData len nb sb2 len' md := ⟨dl, dl0, dl1, dl2, dn0, dn1, fun i hi => by rw [hsb i]; exact ds i hi, fun i => by rw [hsb i]; exact df i, dg⟩
  by_cases fail : (wAll Lc Vc (allE k f l b CC (jzT w hi n s) D O (fun u => jzUL w n s m u n) iw (O (jzC0 m)) (jzUn w hi n s m))).2.2.2 = 1 ∨ 16384 < (wAll Lc Vc (allE k f l b CC (jzT w hi n s) D O (fun u => jzUL w n s m u n) iw (O (jzC0 m)) (jzUn w hi n s m))).1.length
  · rw [if_pos fail] at m4
    rw [hM, if_neg (by rw [m4]; decide)]
    have hS : ∃ y, f_SC_write 0 N nco co (zI k) (zI f) (zI l) (zI b) (zI (iw : Nat)) (zI (jzUn w hi n s m : Nat)) (zI (jzBl n s m : Nat)) ow pl dt ot len nb sb rt ep er vw = some ((-1 : Int32), len, nb, sb2, y) := by
      unfold f_SC_write f_BitWriter_begin
      rw [if_pos (Or.inl rfl)]
      dsimp only [Option.bind_some]
      rw [w2']
      dsimp only [Option.bind_some]
      by_cases lk : (wAll Lc Vc (allE k f l b CC (jzT w hi n s) D O (fun u => jzUL w n s m u n) iw (O (jzC0 m)) (jzUn w hi n s m))).2.2.2 = 1
      · rw [if_neg (by rw [ba2, lk]; decide)]
        exact ⟨_, rfl⟩
      · rw [if_pos (by rw [ba2, show (wAll Lc Vc (allE k f l b CC (jzT w hi n s) D O (fun u => jzUL w n s m u n) iw (O (jzC0 m)) (jzUn w hi n s m))).2.2.2 = 0 by omega]; rfl), if_neg (by rw [bl2, zI_lit, zI_le (by omega) (by omega) (by decide) (by decide)]; show ¬ _ ≤ (16384 : Int); omega)]
        exact ⟨_, rfl⟩
    obtain ⟨y, hy⟩ := hS
    exact ⟨_, _, _, _, _, _, _, _, _, _, _, _, _, _, _, _, _, _, _, rfl, rD2, v4, Or.inl ⟨hy, rfl⟩⟩
  · rw [if_neg fail] at m4
    rw [hM, if_pos (by rw [m4]; rfl)]
    generalize hW : wAll Lc Vc (allE k f l b CC (jzT w hi n s) D O (fun u => jzUL w n s m u n) iw (O (jzC0 m)) (jzUn w hi n s m)) = W at *
    have hk0 : W.2.2.2 = 0 := by omega
    have hl0 : W.1.length ≤ 16384 := by omega
    rw [Nat.min_eq_left hl0] at m3
    subst m3
    have l87 : ∃ z, f_M_write_L87 (zI (W.1.length : Nat)) out3 N N ((0 : Int32), md) = some z ∧ (∀ i, i < W.1.length → z i = byI (W.1.getD i 0)) ∧ ∀ i, fits .byte (.int (z i)) = true := by
      refine it_cnt (P := fun c (a : Int32 × (Nat → Int32)) => a.1 = zI c ∧ (∀ i, i < c → a.2 i = byI (W.1.getD i 0)) ∧ ∀ i, fits .byte (.int (a.2 i)) = true) (R := fun (z : Nat → Int32) => (∀ i, i < W.1.length → z i = byI (W.1.getD i 0)) ∧ ∀ i, fits .byte (.int (z i)) = true) W.1.length ?_ ?_ N 0 _ ⟨rfl, fun i hi => absurd hi (by omega), dg⟩ (by omega) (by omega)
      · rintro g c ⟨a, d⟩ hc ⟨q1, q2, q3⟩ ih
        dsimp only at q1 q2 q3
        subst q1
        unfold f_M_write_L87b
        dsimp only
        have gc := inN c 16384 (by omega) (by omega)
        rw [clN c (by omega), suN c, if_neg (by rw [leN (by omega) (by omega)]; omega), if_neg gc, if_neg gc, m5 c hc (by omega)]
        have eb : vp_nar .byte (byI (W.1.getD c 0)) = byI (W.1.getD c 0) := pk_vb _
        rw [eb]
        refine ih _ ⟨rfl, fun i hi => ?_, fun i => ?_⟩
        · dsimp only
          by_cases ei : i = c
          · rw [ei, pk_us]
          · rw [pk_un ei]; exact q2 i (by omega)
        · dsimp only
          by_cases ei : i = c
          · rw [ei, pk_us]; exact fits_b8 _
          · rw [pk_un ei]; exact q3 i
      · rintro g ⟨a, d⟩ ⟨q1, q2, q3⟩
        dsimp only at q1 q2 q3
        subst q1
        unfold f_M_write_L87b
        dsimp only
        rw [if_pos (by rw [leN (by omega) (by omega)]; exact Nat.le_refl _)]
        exact ⟨_, rfl, q2, q3⟩
    obtain ⟨md4, u1, u2, u3⟩ := l87
    rw [u1]
    dsimp only [Option.bind_some]
    have pass2 : ∀ (nb1 : Nat) (sb3 : Nat → Int32), nb1 ≤ 16384 → 64 ≤ nb1 → W.1.length ≤ nb1 → (∀ i, fits .byte (.int (sb3 i)) = true) → ∀ ms, f_Store_reserve ms (zI (W.1.length : Nat)) nb sb2 = some (nb1, sb3) → ∃ sb5 y, f_SC_write ms N nco co (zI k) (zI f) (zI l) (zI b) (zI (iw : Nat)) (zI (jzUn w hi n s m : Nat)) (zI (jzBl n s m : Nat)) ow pl dt ot len nb sb rt ep er vw = some (zI (W.1.length : Nat), zI (W.1.length : Nat), nb1, sb5, y) ∧ rData (zI (W.1.length : Nat)) nb1 sb5 (zI (W.1.length : Nat)) md4 := by
      intro nb1 sb3 n1 n2 n3 n4 ms hres
      have h00 : rWr Lc Vc (zI 1) nb1 sb3 [] sb3 (zI 0) (zI 0) (zI 0) (zI 0) := ⟨fun e he => by simp at he, by simp, ⟨⟨n4, Or.inr ⟨rfl, fun i => by rw [if_neg (by rw [wAll_z]; simp)]⟩⟩, rfl, rfl, rfl⟩, rfl⟩
      obtain ⟨sb5, pa5, fi5, le5, la5, y5, w5, r5⟩ := q_enc_wr N hN hL hv n1 (CC := CC) (T := jzT w hi n s) (D := D) (O := O) (UL := fun u => jzUL w n s m u n) (t0 := O (jzC0 m)) (iv := iw) (n := jzUn w hi n s m) (bl := jzBl n s m) (nco := nco) hnc.2.2 hK ht0 hUn.2.1 hUn.2.2 hbl hiw hUl hcr3 hbk y2.2.2.2.1 y2.2.2.2.2 y2.2.2.1 h00 hlen
      obtain ⟨-, -, ⟨⟨bf5, bb5⟩, bp5, bfi5, bl5⟩, ba5⟩ := r5
      rw [hW] at bb5 bl5
      have hsb5 : ∀ i, i < W.1.length → sb5 i = byI (W.1.getD i 0) := fun i hi => by
        rcases bb5 with ⟨h, _⟩ | ⟨_, h⟩
        · exact absurd h (by decide)
        · rw [h i, if_pos ⟨hi, by omega⟩]
      have w5' : f_Encoder_encode_wr N nco co (zI k) (zI f) (zI l) (zI b) (zI (iw : Nat)) (zI (jzUn w hi n s m : Nat)) (zI (jzBl n s m : Nat)) ow pl dt ot nb1 sb3 (1 : Int32) (0 : Int32) (0 : Int32) (0 : Int32) (0 : Int32) y2.2.2.1 y2.2.2.2.1 y2.2.2.2.2 vw = some (sb5, pa5, fi5, le5, la5, y5) := w5
      refine ⟨sb5, ((1 : Int32), pa5, fi5, le5, la5, y5), ?_, rfl, ?_, ?_, ?_, n2, n1, ?_, bf5, u3⟩
      · unfold f_SC_write f_BitWriter_begin
        rw [if_pos (Or.inl rfl)]
        dsimp only [Option.bind_some]
        rw [w2']
        dsimp only [Option.bind_some]
        rw [if_pos (by rw [ba2, hk0]; rfl), bl2, if_pos (by rw [zI_lit, zI_le (by omega) (by omega) (by decide) (by decide)]; show _ ≤ (16384 : Int); omega), hres]
        dsimp only [Option.bind_some]
        rw [if_pos (Or.inr rfl)]
        dsimp only [Option.bind_some]
        rw [w5']
        dsimp only [Option.bind_some]
        rw [bl5]
      · rw [zI_toInt (by omega) (by omega)]; omega
      · rw [zI_toInt (by omega) (by omega)]; omega
      · rw [zI_toInt (by omega) (by omega)]; omega
      · intro i hi2
        rw [zI_toInt (by omega) (by omega)] at hi2
        rw [hsb5 i (by omega), u2 i (by omega)]
    rcases q_reserve (P := (W.1.length : Nat)) (sb := sb2) (by omega) (by omega) dn0 dn1 bf2 with ⟨g1, g2⟩ | ⟨g1, g2, nb', sb', g3, g4, g5, g6, g7⟩
    · obtain ⟨sb5, y, z1, z2⟩ := pass2 nb sb2 dn1 dn0 (by omega) bf2 0 (g2 0)
      exact ⟨_, _, _, _, _, _, _, _, _, _, _, _, _, _, _, _, _, _, _, rfl, z2, v4, Or.inl ⟨z1, rfl⟩⟩
    · obtain ⟨sb5, y, z1, z2⟩ := pass2 nb' sb' g5.2.1 (by have := g5.1; omega) (by omega) g7 16384 g3
      refine ⟨_, _, _, _, _, _, _, _, _, _, _, _, _, _, _, _, _, _, _, rfl, z2, v4, Or.inr ⟨?_, z1, g5⟩⟩
      unfold f_SC_write f_BitWriter_begin
      rw [if_pos (Or.inl rfl)]
      dsimp only [Option.bind_some]
      rw [w2']
      dsimp only [Option.bind_some]
      rw [if_pos (by rw [ba2, hk0]; rfl), bl2, if_pos (by rw [zI_lit, zI_le (by omega) (by omega) (by decide) (by decide)]; show _ ≤ (16384 : Int); omega), g2]
      rfl
