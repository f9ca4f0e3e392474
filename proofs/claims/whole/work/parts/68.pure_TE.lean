/-! Promise 2: frame; Promise 6: scan -/
def okS (n m k f l b bf : Nat) : Prop := 0 < m ∧ m < 2 ^ n ∧ b ≤ 9 ∧ ((k = 0 ∧ f = 0 ∧ l = 63 ∧ bf = 0 ∧ b = 0) ∨ (k = 1 ∧ f = 0 ∧ l = 0 ∧ bf = 0) ∨ (k = 2 ∧ f = 0 ∧ l = 0 ∧ bf = b + 1) ∨ (k = 3 ∧ 1 ≤ f ∧ f ≤ l ∧ l ≤ 63 ∧ bf = 0 ∧ jzN m = 1) ∨ (k = 4 ∧ 1 ≤ f ∧ f ≤ l ∧ l ≤ 63 ∧ bf = b + 1 ∧ jzN m = 1))
def rPic (w hi n s : Nat) (many uA uD bk : Int32) (h v ac dn oa od st : Nat → Int32) (nco : Nat) (co : Nat → Int32) (many' uA' uD' : Int32) (h' v' ac' dn' oa' od' st' co' : Nat → Int32) : Prop :=
  okF w hi n s ∧ (many = zI n ∧ uA = zI (jzU w s n : Nat) ∧ uD = zI (jzU hi (s / 2) n : Nat) ∧ bk = zI (jzT w hi n s n : Nat)) ∧ isFr w hi n s n h v ac dn oa od st ∧ (64 * jzT w hi n s n ≤ nco ∧ 64 ≤ nco ∧ nco ≤ 12288) ∧ (many' = zI n ∧ uA' = zI (jzU w s n : Nat) ∧ uD' = zI (jzU hi (s / 2) n : Nat)) ∧ isFr w hi n s n h' v' ac' dn' oa' od' st' ∧ rCo (jzT w hi n s n) co co'
def rScn (w hi n s m k f l b bf : Nat) (kind first last bits units bl : Int32) (ow pl : Nat → Int32) (mask first' last' before' bits' : Int32) : Prop :=
  okS n m k f l b bf ∧ (kind = zI k ∧ first = zI f ∧ last = zI l ∧ bits = zI b) ∧ rCrs w hi n s m units bl ow pl ∧ (mask = zI m ∧ first' = zI f ∧ last' = zI l ∧ before' = zI bf ∧ bits' = zI b)
theorem q_becomeP (N : Nat) (hN : 20000 ≤ N) {w hi n s nco : Nat} (hF : okF w hi n s) (hn1 : 64 ≤ nco) (hn2 : nco ≤ 12288) (h v ac dn oa od st co : Nat → Int32) :
    ∃ h' v' ac' dn' oa' od' st' nco' co', isFr w hi n s n h' v' ac' dn' oa' od' st' ∧ 64 * jzT w hi n s n ≤ nco' ∧ 64 ≤ nco' ∧ nco' ≤ 12288 ∧ (∀ i, i < nco' → co' i = zI 0) ∧
      ((f_Picture_become 0 N (zI w) (zI hi) (zI n) (zI s) h v ac dn oa od st nco co = some (zI n, zI (jzU w s n : Nat), zI (jzU hi (s / 2) n : Nat), zI (jzT w hi n s n : Nat), h', v', ac', dn', oa', od', st', nco', co') ∧ nco' = nco) ∨
       (f_Picture_become 0 N (zI w) (zI hi) (zI n) (zI s) h v ac dn oa od st nco co = none ∧ f_Picture_become 16384 N (zI w) (zI hi) (zI n) (zI s) h v ac dn oa od st nco co = some (zI n, zI (jzU w s n : Nat), zI (jzU hi (s / 2) n : Nat), zI (jzT w hi n s n : Nat), h', v', ac', dn', oa', od', st', nco', co') ∧ rGrow nco nco' 12288)) := by
  obtain ⟨hw, hh, hn, hs, hB⟩ := hF
  have m1 := jzM_rng s n
  have m2 := jzM_rng (s / 2) n
  have e1 : (8 : Int32) * zI ((jzM s n : Nat) : Int) = zI ((8 * jzM s n : Nat) : Int) := by simp (disch := omega) only [zI_lit, zI_ofNat, zI_nI, zI_neg, zI_add, zI_sub, zI_mul, zI_lt, zI_le, zI_eq, zI_cl, zI_div, zI_shr, zI_shl, zI_and1, zI_and7, zI_and15, zI_and255, if_pos, if_neg, Option.bind_some, Option.bind_none, if_true, if_false, true_or, or_true, Int.toNat_natCast, pk_us]; rfl
  have e2 : (8 : Int32) * zI ((jzM (s / 2) n : Nat) : Int) = zI ((8 * jzM (s / 2) n : Nat) : Int) := by simp (disch := omega) only [zI_lit, zI_ofNat, zI_nI, zI_neg, zI_add, zI_sub, zI_mul, zI_lt, zI_le, zI_eq, zI_cl, zI_div, zI_shr, zI_shl, zI_and1, zI_and7, zI_and15, zI_and255, if_pos, if_neg, Option.bind_some, Option.bind_none, if_true, if_false, true_or, or_true, Int.toNat_natCast, pk_us]; rfl
  obtain ⟨z, z1, z2, z3⟩ := q_become_L N (by omega) w hi n s hw hh hn.2 hs h v ac dn oa od st
  have z1' : f_Picture_become_L57 (zI n) (zI s) (zI w) (zI (jzM s n : Nat)) (zI hi) (zI (jzM (s / 2) n : Nat)) (zI (jzC w (8 * jzM s n) : Nat)) (zI (jzC hi (8 * jzM (s / 2) n) : Nat)) N N ((0 : Int32), (0 : Int32), h, v, ac, dn, oa, od, st) = some z := z1
  have hb : ∀ ms, f_Picture_become ms N (zI w) (zI hi) (zI n) (zI s) h v ac dn oa od st nco co = (f_Picture_clear ms N (zI (jzT w hi n s n : Nat)) nco co).bind fun z12 => some (zI n, zI (jzU w s n : Nat), zI (jzU hi (s / 2) n : Nat), zI (jzT w hi n s n : Nat), z.2.1, z.2.2.1, z.2.2.2.1, z.2.2.2.2.1, z.2.2.2.2.2.1, z.2.2.2.2.2.2.1, z.2.2.2.2.2.2.2, z12.1, z12.2) := by
    intro ms
    unfold f_Picture_become
    rw [half_c s hs, q_greatest N (by omega) s n hs hn.2, q_greatest N (by omega) (s / 2) n (by omega) hn.2]
    simp only [Option.bind_some]
    rw [e1, e2, q_divideUp w _ (by omega) (by omega) (by omega), q_divideUp hi _ (by omega) (by omega) (by omega)]
    simp only [Option.bind_some]
    rw [z1']
    simp only [Option.bind_some]
    rw [z2]
    rfl
  rcases q_clear N (jzT w hi n s n) nco hN hB hn1 hn2 co with ⟨c1, y, y1, y2⟩ | ⟨c1, nco', c2, c3, c4⟩
  · refine ⟨_, _, _, _, _, _, _, nco, y, z3, c1, hn1, hn2, y2, Or.inl ⟨?_, rfl⟩⟩
    rw [hb, y1]; rfl
  · refine ⟨_, _, _, _, _, _, _, nco', fun _ => 0, z3, c3, by have := c4.1; omega, c4.2.1, fun _ _ => rfl, Or.inr ⟨?_, ?_, c4⟩⟩
    · rw [hb, c1]; rfl
    · rw [hb, c2]; rfl
theorem q_startAnew (N : Nat) (hN : 20000 ≤ N) {w hi n s : Nat} {h v ac dn oa od st : Nat → Int32} (hF : okF w hi n s) (hf : isFr w hi n s n h v ac dn oa od st) (ow pl dt ot : Nat → Int32) :
    ∃ units bl laid ow' pl' dt' ot', f_Course_startAnew N (zI n) (zI (jzU w s n : Nat)) (zI (jzU hi (s / 2) n : Nat)) h v ac dn oa od st ow pl dt ot = some (zI 0, zI 0, zI 63, zI 0, zI 0, units, bl, laid, ow', pl', dt', ot') ∧ rCrs w hi n s 1 units bl ow' pl' ∧ ∀ c, c < 4 → dt' c = zI 0 ∧ ot' c = zI 4 := by
  obtain ⟨z1, a1, a2, -⟩ := q_fillI N 4 (by omega) (by omega) (0 : Int32) dt
  obtain ⟨z2, b1, b2, -⟩ := q_fillI N 4 (by omega) (by omega) (4 : Int32) ot
  obtain ⟨z4, c1, c2⟩ := q_lay' N (by omega) hF hf 1 (by omega) (Nat.one_lt_two_pow (by have := hF.2.2.1; omega)) (ow := ow) (pl := pl)
  have c1' : f_Course_lay N (1 : Int32) (zI n) (zI (jzU w s n : Nat)) (zI (jzU hi (s / 2) n : Nat)) h v ac dn oa od st ow pl = some z4 := c1
  unfold f_Course_startAnew f_Course_choose
  rw [a1, b1, c1']
  exact ⟨_, _, _, _, _, _, _, rfl, c2, fun c hc => ⟨a2 c hc, b2 c hc⟩⟩
def rFS (many uA uD bk : Int32) (h v ac dn oa od st : Nat → Int32) (nco : Nat) (co : Nat → Int32) (kind first last bits units bl : Int32) (ow pl : Nat → Int32) (many' uA' uD' mask first' last' before' bits' : Int32) (h' v' ac' dn' oa' od' st' co' : Nat → Int32) : Prop :=
  ∃ w hi n s m k f l b bf : Nat, rPic w hi n s many uA uD bk h v ac dn oa od st nco co many' uA' uD' h' v' ac' dn' oa' od' st' co' ∧ rScn w hi n s m k f l b bf kind first last bits units bl ow pl mask first' last' before' bits'
def rIv (iv iv' : Int32) : Prop := iv' = iv ∧ 0 ≤ iv.toInt ∧ iv.toInt ≤ 65535
theorem zI_in (p : Int32) : ∃ z : Int, p = zI z ∧ -2147483648 ≤ z ∧ z ≤ 2147483647 := ⟨p.toInt, zI_of p, i_rng p⟩
set_option maxHeartbeats 4000000 in
/-- Promise 2 -/
theorem q_frame (N : Nat) (hN : 20000 ≤ N) (p0 p1 p2 p3 : Int32) {many uA uD bk : Int32} {h v ac dn oa od st : Nat → Int32} {nco : Nat} {co : Nat → Int32} {kind first last bits iv units bl laid : Int32} {ow pl dt ot : Nat → Int32} {mw mh many' uA' uD' mask first' last' before' bits' iv' : Int32} {h' v' ac' dn' oa' od' st' co' dt' ot' : Nat → Int32}
    (H : rFS many uA uD bk h v ac dn oa od st nco co kind first last bits units bl ow pl many' uA' uD' mask first' last' before' bits' h' v' ac' dn' oa' od' st' co') (hT : rTabs dt ot dt' ot') (hI : rIv iv iv') :
    ∃ a many1 uA1 uD1 bk1 h1 v1 ac1 dn1 oa1 od1 st1 nco1 co1 kind1 first1 last1 bits1 iv1 units1 bl1 laid1 ow1 pl1 dt1 ot1 th mw2 mh2 many2 uA2 uD2 mask2 first2 last2 before2 bits2 iv2 h2 v2 ac2 dn2 oa2 od2 st2 co2 dt2 ot2,
      f_M_frame N p0 p1 p2 p3 mw mh many' uA' uD' mask first' last' before' bits' iv' h' v' ac' dn' oa' od' st' co' dt' ot' = some (a, th, mw2, mh2, many2, uA2, uD2, mask2, first2, last2, before2, bits2, iv2, h2, v2, ac2, dn2, oa2, od2, st2, co2, dt2, ot2) ∧
      rFS many1 uA1 uD1 bk1 h1 v1 ac1 dn1 oa1 od1 st1 nco1 co1 kind1 first1 last1 bits1 units1 bl1 ow1 pl1 many2 uA2 uD2 mask2 first2 last2 before2 bits2 h2 v2 ac2 dn2 oa2 od2 st2 co2 ∧ rTabs dt1 ot1 dt2 ot2 ∧ rIv iv1 iv2 ∧
      ((f_SC_frame 0 N p0 p1 p2 p3 many uA uD bk h v ac dn oa od st nco co kind first last bits iv units bl laid ow pl dt ot = some (a, many1, uA1, uD1, bk1, h1, v1, ac1, dn1, oa1, od1, st1, nco1, co1, kind1, first1, last1, bits1, iv1, units1, bl1, laid1, ow1, pl1, dt1, ot1) ∧ nco1 = nco) ∨
       (f_SC_frame 0 N p0 p1 p2 p3 many uA uD bk h v ac dn oa od st nco co kind first last bits iv units bl laid ow pl dt ot = none ∧ f_SC_frame 16384 N p0 p1 p2 p3 many uA uD bk h v ac dn oa od st nco co kind first last bits iv units bl laid ow pl dt ot = some (a, many1, uA1, uD1, bk1, h1, v1, ac1, dn1, oa1, od1, st1, nco1, co1, kind1, first1, last1, bits1, iv1, units1, bl1, laid1, ow1, pl1, dt1, ot1) ∧ rGrow nco nco1 12288)) := by
  obtain ⟨w, rfl, w1, w2⟩ := zI_in p0
  obtain ⟨hi, rfl, hi1, hi2⟩ := zI_in p1
  obtain ⟨n, rfl, n1, n2⟩ := zI_in p2
  obtain ⟨s, rfl, s1, s2⟩ := zI_in p3
  have hnco : 64 ≤ nco ∧ nco ≤ 12288 := by
    obtain ⟨_, _, _, _, _, _, _, _, _, _, hp, _⟩ := H
    exact hp.2.2.2.1.2
  rcases q_fits N (by omega) w hi n s ⟨w1, w2⟩ ⟨hi1, hi2⟩ ⟨n1, n2⟩ ⟨s1, s2⟩ with ⟨g, e⟩ | ⟨g, e⟩
  · obtain ⟨g1, g2, g3, g4, g5, g6, g7, g8, g9⟩ := g
    obtain ⟨w, rfl⟩ := Int.eq_ofNat_of_zero_le (show 0 ≤ w by omega)
    obtain ⟨hi, rfl⟩ := Int.eq_ofNat_of_zero_le (show 0 ≤ hi by omega)
    obtain ⟨n, rfl⟩ := Int.eq_ofNat_of_zero_le (show 0 ≤ n by omega)
    obtain ⟨s, rfl⟩ := Int.eq_ofNat_of_zero_le g7
    simp only [Int.toNat_natCast] at g8 g9
    have hpc : ((4 : Int) ^ n) = ((4 ^ n : Nat) : Int) := by rw [Int.natCast_pow]; rfl
    have hp := four_pow n (by omega)
    rw [hpc] at g8
    have hF : okF w hi n s := ⟨by omega, by omega, by omega, by omega, g9⟩
    obtain ⟨h1, v1, ac1, dn1, oa1, od1, st1, nco1, co1, b1, b2, b3, b4, b5, b6⟩ := q_becomeP N hN hF hnco.1 hnco.2 h v ac dn oa od st co
    obtain ⟨units1, bl1, laid1, ow1, pl1, dt1, ot1, c1, c2, c3⟩ := q_startAnew N hN hF b1 ow pl dt ot
    obtain ⟨co2, dt2, ot2, d1, d2, d3⟩ := q_base N hN co' dt' ot'
    rcases q_lay N (by omega) w hi n s (by omega) (by omega) (by omega) (by omega) mw mh many' uA' uD' h' v' ac' dn' oa' od' st' with ⟨l1, -⟩ | ⟨-, h2, v2, ac2, dn2, oa2, od2, st2, l1, l2⟩
    · exact absurd l1 (by have := hF.2.2.2.2; unfold jzT at this; omega)
    have hM : f_M_frame N (zI w) (zI hi) (zI n) (zI s) mw mh many' uA' uD' mask first' last' before' bits' iv' h' v' ac' dn' oa' od' st' co' dt' ot' = some (zI 1, zI 0, zI w, zI hi, zI n, zI (jzU w s n : Nat), zI (jzU hi (s / 2) n : Nat), zI 1, zI 0, zI 63, zI 0, zI 0, zI 0, h2, v2, ac2, dn2, oa2, od2, st2, co2, dt2, ot2) := by
      unfold f_M_frame
      rw [l1, d1]
      have hB := hF.2.2.2.2
      unfold jzT at hB
      have es : (1 : Int32) <<< (((2 : Int32) * zI n) &&& 31) = zI ((4 ^ n : Nat) : Int) := by
        rw [zI_lit, zI_lit, zI_lit, zI_mul]
        show zI 1 <<< (zI (2 * (n : Int)) &&& zI 31) = _
        rw [zI_shl (by omega) (by omega), ← hpc, Int.one_mul, show (2 * (n : Int)).toNat = 2 * n by omega, Int.pow_mul]
        rfl
      rw [es]
      generalize 4 ^ n = P at g8 hp
      simp (disch := omega) only [zI_lit, zI_ofNat, zI_nI, zI_neg, zI_add, zI_sub, zI_mul, zI_lt, zI_le, zI_eq, zI_cl, zI_div, zI_shr, zI_shl, zI_and1, zI_and7, zI_and15, zI_and255, if_pos, if_neg, Option.bind_some, Option.bind_none, if_true, if_false, true_or, or_true, Int.toNat_natCast, pk_us]
    have hCrs : rTabs dt1 ot1 dt2 ot2 := fun c hc => by
      rw [(c3 c hc).1, (c3 c hc).2, (d3 c hc).1, (d3 c hc).2]
      exact ⟨rfl, rfl, by decide, by decide, by decide, by decide⟩
    refine ⟨zI 1, zI n, zI (jzU w s n : Nat), zI (jzU hi (s / 2) n : Nat), zI (jzT w hi n s n : Nat), h1, v1, ac1, dn1, oa1, od1, st1, nco1, co1, zI 0, zI 0, zI 63, zI 0, zI 0, units1, bl1, laid1, ow1, pl1, dt1, ot1, zI 0, zI w, zI hi, zI n, zI (jzU w s n : Nat), zI (jzU hi (s / 2) n : Nat), zI 1, zI 0, zI 63, zI 0, zI 0, zI 0, h2, v2, ac2, dn2, oa2, od2, st2, co2, dt2, ot2, hM, ?_, hCrs, ⟨rfl, by decide, by decide⟩, ?_⟩
    · refine ⟨w, hi, n, s, 1, 0, 0, 63, 0, 0, ⟨hF, ⟨rfl, rfl, rfl, rfl⟩, b1, ⟨b2, b3, b4⟩, ⟨rfl, rfl, rfl⟩, l2, fun i hj => ?_⟩, ⟨⟨by omega, Nat.one_lt_two_pow (by omega), by omega, Or.inl ⟨rfl, rfl, rfl, rfl, rfl⟩⟩, ⟨rfl, rfl, rfl, rfl⟩, c2, ⟨rfl, rfl, rfl, rfl, rfl⟩⟩⟩
      have hB := hF.2.2.2.2
      rw [b5 i (by omega), d2 i (by omega)]
      exact ⟨rfl, 0, rfl, by unfold okC; omega⟩
    · have k1 : ∀ ms z, f_Picture_become ms N (zI w) (zI hi) (zI n) (zI s) h v ac dn oa od st nco co = z → f_SC_frame ms N (zI w) (zI hi) (zI n) (zI s) many uA uD bk h v ac dn oa od st nco co kind first last bits iv units bl laid ow pl dt ot = z.bind fun z2 => (f_Course_startAnew N z2.1 z2.2.1 z2.2.2.1 z2.2.2.2.2.1 z2.2.2.2.2.2.1 z2.2.2.2.2.2.2.1 z2.2.2.2.2.2.2.2.1 z2.2.2.2.2.2.2.2.2.1 z2.2.2.2.2.2.2.2.2.2.1 z2.2.2.2.2.2.2.2.2.2.2.1 ow pl dt ot).bind fun z3 => some ((1 : Int32), z2.1, z2.2.1, z2.2.2.1, z2.2.2.2.1, z2.2.2.2.2.1, z2.2.2.2.2.2.1, z2.2.2.2.2.2.2.1, z2.2.2.2.2.2.2.2.1, z2.2.2.2.2.2.2.2.2.1, z2.2.2.2.2.2.2.2.2.2.1, z2.2.2.2.2.2.2.2.2.2.2.1, z2.2.2.2.2.2.2.2.2.2.2.2.1, z2.2.2.2.2.2.2.2.2.2.2.2.2, z3.1, z3.2.1, z3.2.2.1, z3.2.2.2.1, z3.2.2.2.2.1, z3.2.2.2.2.2.1, z3.2.2.2.2.2.2.1, z3.2.2.2.2.2.2.2.1, z3.2.2.2.2.2.2.2.2.1, z3.2.2.2.2.2.2.2.2.2.1, z3.2.2.2.2.2.2.2.2.2.2.1, z3.2.2.2.2.2.2.2.2.2.2.2) := by
        intro ms z hz
        unfold f_SC_frame
        rw [e, hz]
        rfl
      rcases b6 with ⟨b6, b7⟩ | ⟨b6, b7, b8⟩
      · refine Or.inl ⟨?_, b7⟩
        rw [k1 0 _ b6]
        simp only [Option.bind_some]
        rw [c1]
        rfl
      · refine Or.inr ⟨?_, ?_, b8⟩
        · rw [k1 0 _ b6]; rfl
        · rw [k1 16384 _ b7]
          simp only [Option.bind_some]
          rw [c1]
          rfl
  · have hM : f_M_frame N (zI w) (zI hi) (zI n) (zI s) mw mh many' uA' uD' mask first' last' before' bits' iv' h' v' ac' dn' oa' od' st' co' dt' ot' = some (zI 0, zI 0, mw, mh, many', uA', uD', mask, first', last', before', bits', iv', h', v', ac', dn', oa', od', st', co', dt', ot') := by
      unfold f_M_frame
      by_cases c1 : w < 1
      · clear g; simp (disch := omega) only [zI_lit, zI_ofNat, zI_nI, zI_neg, zI_add, zI_sub, zI_mul, zI_lt, zI_le, zI_eq, zI_cl, zI_div, zI_shr, zI_shl, zI_and1, zI_and7, zI_and15, zI_and255, if_pos, if_neg, Option.bind_some, Option.bind_none, if_true, if_false, true_or, or_true, Int.toNat_natCast, pk_us]
      by_cases c2 : 64 < w
      · clear g; simp (disch := omega) only [zI_lit, zI_ofNat, zI_nI, zI_neg, zI_add, zI_sub, zI_mul, zI_lt, zI_le, zI_eq, zI_cl, zI_div, zI_shr, zI_shl, zI_and1, zI_and7, zI_and15, zI_and255, if_pos, if_neg, Option.bind_some, Option.bind_none, if_true, if_false, true_or, or_true, Int.toNat_natCast, pk_us]
      by_cases c3 : hi < 1
      · clear g; simp (disch := omega) only [zI_lit, zI_ofNat, zI_nI, zI_neg, zI_add, zI_sub, zI_mul, zI_lt, zI_le, zI_eq, zI_cl, zI_div, zI_shr, zI_shl, zI_and1, zI_and7, zI_and15, zI_and255, if_pos, if_neg, Option.bind_some, Option.bind_none, if_true, if_false, true_or, or_true, Int.toNat_natCast, pk_us]
      by_cases c4 : 64 < hi
      · clear g; simp (disch := omega) only [zI_lit, zI_ofNat, zI_nI, zI_neg, zI_add, zI_sub, zI_mul, zI_lt, zI_le, zI_eq, zI_cl, zI_div, zI_shr, zI_shl, zI_and1, zI_and7, zI_and15, zI_and255, if_pos, if_neg, Option.bind_some, Option.bind_none, if_true, if_false, true_or, or_true, Int.toNat_natCast, pk_us]
      by_cases c5 : n < 1
      · clear g; simp (disch := omega) only [zI_lit, zI_ofNat, zI_nI, zI_neg, zI_add, zI_sub, zI_mul, zI_lt, zI_le, zI_eq, zI_cl, zI_div, zI_shr, zI_shl, zI_and1, zI_and7, zI_and15, zI_and255, if_pos, if_neg, Option.bind_some, Option.bind_none, if_true, if_false, true_or, or_true, Int.toNat_natCast, pk_us]
      by_cases c6 : 4 < n
      · clear g; simp (disch := omega) only [zI_lit, zI_ofNat, zI_nI, zI_neg, zI_add, zI_sub, zI_mul, zI_lt, zI_le, zI_eq, zI_cl, zI_div, zI_shr, zI_shl, zI_and1, zI_and7, zI_and15, zI_and255, if_pos, if_neg, Option.bind_some, Option.bind_none, if_true, if_false, true_or, or_true, Int.toNat_natCast, pk_us]
      by_cases c7 : s < 0
      · clear g; simp (disch := omega) only [zI_lit, zI_ofNat, zI_nI, zI_neg, zI_add, zI_sub, zI_mul, zI_lt, zI_le, zI_eq, zI_cl, zI_div, zI_shr, zI_shl, zI_and1, zI_and7, zI_and15, zI_and255, if_pos, if_neg, Option.bind_some, Option.bind_none, if_true, if_false, true_or, or_true, Int.toNat_natCast, pk_us]
      obtain ⟨w, rfl⟩ := Int.eq_ofNat_of_zero_le (show 0 ≤ w by omega)
      obtain ⟨hi, rfl⟩ := Int.eq_ofNat_of_zero_le (show 0 ≤ hi by omega)
      obtain ⟨n, rfl⟩ := Int.eq_ofNat_of_zero_le (show 0 ≤ n by omega)
      obtain ⟨s, rfl⟩ := Int.eq_ofNat_of_zero_le (show 0 ≤ s by omega)
      have hpc : ((4 : Int) ^ n) = ((4 ^ n : Nat) : Int) := by rw [Int.natCast_pow]; rfl
      have hp := four_pow n (by omega)
      have es : (1 : Int32) <<< (((2 : Int32) * zI n) &&& 31) = zI ((4 ^ n : Nat) : Int) := by
        rw [zI_lit, zI_lit, zI_lit, zI_mul]
        show zI 1 <<< (zI (2 * (n : Int)) &&& zI 31) = _
        rw [zI_shl (by omega) (by omega), ← hpc, Int.one_mul, show (2 * (n : Int)).toNat = 2 * n by omega, Int.pow_mul]
        rfl
      rw [es]
      by_cases c8 : 4 ^ n ≤ s
      · clear g
        generalize 4 ^ n = P at c8 hp
        simp (disch := omega) only [zI_lit, zI_ofNat, zI_nI, zI_neg, zI_add, zI_sub, zI_mul, zI_lt, zI_le, zI_eq, zI_cl, zI_div, zI_shr, zI_shl, zI_and1, zI_and7, zI_and15, zI_and255, if_pos, if_neg, Option.bind_some, Option.bind_none, if_true, if_false, true_or, or_true, Int.toNat_natCast, pk_us]
      · have hg : 192 < jzS s (jzU w s n * jzU hi (s / 2) n) n := by
          rcases Nat.lt_or_ge 192 (jzS s (jzU w s n * jzU hi (s / 2) n) n) with h | h
          · exact h
          · exact absurd ⟨by omega, by omega, by omega, by omega, by omega, by omega, by omega, by rw [Int.toNat_natCast, hpc]; omega, by simp only [Int.toNat_natCast]; exact h⟩ g
        rcases q_lay N (by omega) w hi n s (by omega) (by omega) (by omega) (by omega) mw mh many' uA' uD' h' v' ac' dn' oa' od' st' with ⟨l0, l1⟩ | ⟨l0, -⟩
        · rw [l1]
          have b2 := jzS_le s (jzU w s n * jzU hi (s / 2) n) n
          have b1 := jzUV w hi s n (by omega) (by omega) (by omega) (by omega)
          have b3 : n * (4 * (jzU w s n * jzU hi (s / 2) n)) ≤ 4 * (4 * 64) := Nat.mul_le_mul (by omega) (by omega)
          clear g
          generalize 4 ^ n = P at c8 hp
          generalize jzS s (jzU w s n * jzU hi (s / 2) n) n = Q at l0 hg b2
          generalize n * (4 * (jzU w s n * jzU hi (s / 2) n)) = Q1 at b2 b3
          simp (disch := omega) only [zI_lit, zI_ofNat, zI_nI, zI_neg, zI_add, zI_sub, zI_mul, zI_lt, zI_le, zI_eq, zI_cl, zI_div, zI_shr, zI_shl, zI_and1, zI_and7, zI_and15, zI_and255, if_pos, if_neg, Option.bind_some, Option.bind_none, if_true, if_false, true_or, or_true, Int.toNat_natCast, pk_us]
        · exact absurd hg (by omega)
    refine ⟨zI 0, many, uA, uD, bk, h, v, ac, dn, oa, od, st, nco, co, kind, first, last, bits, iv, units, bl, laid, ow, pl, dt, ot, zI 0, mw, mh, many', uA', uD', mask, first', last', before', bits', iv', h', v', ac', dn', oa', od', st', co', dt', ot', hM, H, hT, hI, Or.inl ⟨?_, rfl⟩⟩
    unfold f_SC_frame
    rw [e]
    rfl
