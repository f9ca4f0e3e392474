set_option maxHeartbeats 1000000 in
theorem q_ro_wr (N : Nat) (hN : 20000 ≤ N) {Lc Vc : Nat → Nat → Nat} (hL : okLV Lc Vc) {vw : Nat → Nat → Int32} (hv : rVw Lc Vc vw) {kp : Int32} {nb : Nat} {sb0 : Nat → Int32} (hnb : nb ≤ 16384) {C : Nat → Int} {pl nco f l b t run : Nat} {held : List Nat} {co : Nat → Int32} (hnco : nco ≤ 12288) (hb : b ≤ 9) (hl : l ≤ 63) (hf1 : 1 ≤ f) (hfl : f ≤ l) (hC : ∀ k, k ≤ 63 → pl + k < nco ∧ co (pl + k) = zI (C k) ∧ -1024 ≤ C k ∧ C k ≤ 1023) (ht : t < 8) (er : Nat → Int32) (hR : okR run held) (her : rHeld er held) {es : List (Nat × Nat × Nat)} {sb : Nat → Int32} {pa fi le la : Int32} (h : rWr Lc Vc kp nb sb0 (es) sb pa fi le la) (hB : es.length + (refE C t b (lnF C b (l + 1 - f) f) (l + 1 - f) f run held 0 []).1.length ≤ 50000000) :
    ∃ sb1 pa1 fi1 le1 la1 er1, ((refE C t b (lnF C b (l + 1 - f) f) (l + 1 - f) f run held 0 []).2.2.2.1 = 0 ∧ (refE C t b (lnF C b (l + 1 - f) f) (l + 1 - f) f run held 0 []).2.2.2.2 = []) ∧ f_Encoder_refineOthers_wr N (zI pl) nco co (zI f) (zI l) (zI b) nb sb kp pa fi le la (zI run) (zI (held.length : Nat)) (zI t) er vw = some (sb1, pa1, fi1, le1, la1, zI ((refE C t b (lnF C b (l + 1 - f) f) (l + 1 - f) f run held 0 []).2.1 : Nat), zI ((refE C t b (lnF C b (l + 1 - f) f) (l + 1 - f) f run held 0 []).2.2.1.length : Nat), er1) ∧ rWr Lc Vc kp nb sb0 (es ++ (refE C t b (lnF C b (l + 1 - f) f) (l + 1 - f) f run held 0 []).1) sb1 pa1 fi1 le1 la1 ∧ er1 = er ∨
      ¬ ((refE C t b (lnF C b (l + 1 - f) f) (l + 1 - f) f run held 0 []).2.2.2.1 = 0 ∧ (refE C t b (lnF C b (l + 1 - f) f) (l + 1 - f) f run held 0 []).2.2.2.2 = []) ∧ f_Encoder_refineOthers_wr N (zI pl) nco co (zI f) (zI l) (zI b) nb sb kp pa fi le la (zI run) (zI (held.length : Nat)) (zI t) er vw = some (sb1, pa1, fi1, le1, la1, zI ((refE C t b (lnF C b (l + 1 - f) f) (l + 1 - f) f run held 0 []).2.1 + 1 : Nat), zI (((refE C t b (lnF C b (l + 1 - f) f) (l + 1 - f) f run held 0 []).2.2.1 ++ (refE C t b (lnF C b (l + 1 - f) f) (l + 1 - f) f run held 0 []).2.2.2.2).length : Nat), er1) ∧ rWr Lc Vc kp nb sb0 (es ++ (refE C t b (lnF C b (l + 1 - f) f) (l + 1 - f) f run held 0 []).1) sb1 pa1 fi1 le1 la1 ∧ (rHeld er (refE C t b (lnF C b (l + 1 - f) f) (l + 1 - f) f run held 0 []).2.2.1 → rHeld er1 ((refE C t b (lnF C b (l + 1 - f) f) (l + 1 - f) f run held 0 []).2.2.1 ++ (refE C t b (lnF C b (l + 1 - f) f) (l + 1 - f) f run held 0 []).2.2.2.2)) := by
  obtain ⟨hln, hlx⟩ := ln_ge C b f l hfl
  have q1 := q_ln_wr N hN hnco hb hf1 hl hfl hC
  obtain ⟨sb2, pa2, fi2, le2, la2, p2, w2, r2, d2⟩ := q_ref_wr N hN hL hv hnb (er := er) ⟨hln.1, by omega⟩ hlx hnco hb hl hC ht (l + 1 - f) f N run held 0 [] (0 : Int64) es sb pa fi le la (Nat.le_refl _) (by omega) (by omega) (by simp; omega) (by omega) hR (comOK_nil _) (fun x hx => by simp at hx) her hB h
  have w2' : f_Encoder_refineOthers_wr_L23 (zI (l : Nat)) (zI (pl : Nat)) nco co (zI (b : Nat)) (zI (lnF C b (l + 1 - f) f)) nb kp (zI t) er vw N N ((0 : Int32), (0 : Int64), (0 : Int32), zI f, sb, pa, fi, le, la, zI run, zI (held.length : Nat)) = _ := w2
  obtain ⟨k1, k2, k3, k4⟩ := refE_ok C t b (lnF C b (l + 1 - f) f) (l + 1 - f) f run held 0 [] hR (fun x hx => by simp at hx)
  unfold f_Encoder_refineOthers_wr f_Encoder_refineOthers_wr_J219
  rw [q1]
  dsimp only [Option.bind_some]
  rw [w2']
  dsimp only [Option.bind_some]
  generalize (refE C t b (lnF C b (l + 1 - f) f) (l + 1 - f) f run held 0 []) = O at *
  obtain ⟨oe, orun, oheld, oz, ocom⟩ := O
  dsimp only at *
  simp only [List.length_nil] at k3
  obtain ⟨er1, l1, l2⟩ := q_len_wr N hN (held := oheld) (run := orun) d2 k1.2.1 er
  by_cases z0 : oz = 0
  · rw [if_neg (by rw [z0]; decide)]
    by_cases c0 : ocom = []
    · rw [if_pos (by rw [c0]; decide)]
      exact ⟨_, _, _, _, _, _, Or.inl ⟨⟨z0, c0⟩, rfl, r2, rfl⟩⟩
    · have : 0 < ocom.length := List.length_pos_iff.mpr c0
      rw [if_neg (by rw [zI_lit, zI_le (by omega) (by omega) (by decide) (by decide)]; show ¬ _ ≤ (0 : Int); omega), l1]
      exact ⟨_, _, _, _, _, er1, Or.inr ⟨fun h => c0 h.2, rfl, r2, l2⟩⟩
  · rw [if_pos (by rw [zI_lit, zI_lt (by decide) (by decide) (by omega) (by omega)]; show (0 : Int) < _; omega), l1]
    exact ⟨_, _, _, _, _, er1, Or.inr ⟨fun h => z0 h.1, rfl, r2, l2⟩⟩

theorem q_J_wr (N : Nat) (hN : 20000 ≤ N) {Lc Vc : Nat → Nat → Nat} (hL : okLV Lc Vc) {vw : Nat → Nat → Int32} (hv : rVw Lc Vc vw) {kp : Int32} {nb : Nat} {sb0 : Nat → Int32} (hnb : nb ≤ 16384) (g : (Int32 × (Nat → Int32) × Int32 × Int32 × Int32 × Int32 × Int32 × Int32 × Int32 × (Nat → Int32) × (Nat → Int32)) → Option ((Nat → Int32) × Int32 × Int32 × Int32 × Int32 × Int32 × Int32 × Int32 × (Nat → Int32) × (Nat → Int32))) {t run i : Nat} {held : List Nat} (ht : t < 8) (hi : i ≤ 1000) (hr : run ≤ 32767) (hh : held.length ≤ 963) (h0 : run = 0 → held = []) (h2 : ∀ x, x ∈ held → x < 2) (p er : Nat → Int32) (her : rHeld er held) {es : List (Nat × Nat × Nat)} {sb : Nat → Int32} {pa fi le la : Int32} (h : rWr Lc Vc kp nb sb0 (es) sb pa fi le la) (hB : es.length + ((finE t run held).1).length ≤ 50000000) :
    ∃ sb1 pa1 fi1 le1 la1, f_Encoder_encode_wr_J69_241 N g (zI run) nb sb kp pa fi le la (zI (held.length : Nat)) (zI t) er vw (zI i) p = g (zI ((i + 1 : Nat) : Int), sb1, pa1, fi1, le1, la1, zI ((finE t run held).2.1 : Nat), zI ((finE t run held).2.2.length : Nat), zI t, p, er) ∧ rWr Lc Vc kp nb sb0 (es ++ (finE t run held).1) sb1 pa1 fi1 le1 la1 := by
  have ei : zI (i : Int) + (1 : Int32) = zI ((i + 1 : Nat) : Int) := by rw [zI_lit, zI_add]; rfl
  unfold f_Encoder_encode_wr_J69_241 f_Encoder_encode_wr_J69_261 f_Encoder_encode_wr_J69_265
  rw [ei]
  unfold finE at hB ⊢
  by_cases c : run = 32767 ∨ 900 < held.length
  · rw [if_pos c] at hB
    rw [if_pos c]
    obtain ⟨sb2, pa2, fi2, le2, la2, w2, r2⟩ := q_sendRun_wr N hN hL hv hnb h (run := run) (held := held) (t := t) (rt := zI t) (by omega) (by omega) h0 h2 her (fun _ => ⟨ht, rfl⟩) hB
    rw [w2]
    by_cases c1 : run = 32767
    · rw [if_pos (by rw [c1]; rfl)]
      exact ⟨_, _, _, _, _, rfl, r2⟩
    · rw [if_neg (by rw [zI_lit, zI_eq (by omega) (by omega) (by decide) (by decide)]; show ¬ _ = (32767 : Int); omega), if_neg (by rw [zI_lit, zI_le (by omega) (by omega) (by decide) (by decide)]; show ¬ _ ≤ (900 : Int); omega)]
      exact ⟨_, _, _, _, _, rfl, r2⟩
  · rw [if_neg c] at hB
    rw [if_neg c, if_neg (by rw [zI_lit, zI_eq (by omega) (by omega) (by decide) (by decide)]; show ¬ _ = (32767 : Int); omega), if_pos (by rw [zI_lit, zI_le (by omega) (by omega) (by decide) (by decide)]; show _ ≤ (900 : Int); omega)]
    refine ⟨_, _, _, _, _, rfl, ?_⟩
    show rWr Lc Vc kp nb sb0 (es ++ []) sb pa fi le la
    rw [List.append_nil]; exact h
theorem q_J0_wr (N : Nat) (hN : 20000 ≤ N) (g : (Int32 × (Nat → Int32) × Int32 × Int32 × Int32 × Int32 × Int32 × Int32 × Int32 × (Nat → Int32) × (Nat → Int32)) → Option ((Nat → Int32) × Int32 × Int32 × Int32 × Int32 × Int32 × Int32 × Int32 × (Nat → Int32) × (Nat → Int32))) {t run i : Nat} {held : List Nat} (hR : okR run held) {nb : Nat} {kp : Int32} {vw : Nat → Nat → Int32} (p er : Nat → Int32) {sb : Nat → Int32} {pa fi le la : Int32} : f_Encoder_encode_wr_J69_241 N g (zI run) nb sb kp pa fi le la (zI (held.length : Nat)) (zI t) er vw (zI i) p = g (zI ((i + 1 : Nat) : Int), sb, pa, fi, le, la, zI (run : Nat), zI (held.length : Nat), zI t, p, er) := by
  have ei : zI (i : Int) + (1 : Int32) = zI ((i + 1 : Nat) : Int) := by rw [zI_lit, zI_add]; rfl
  obtain ⟨h1, h2, -⟩ := hR
  unfold f_Encoder_encode_wr_J69_241 f_Encoder_encode_wr_J69_265
  rw [ei, if_neg (by rw [zI_lit, zI_eq (by omega) (by omega) (by decide) (by decide)]; show ¬ _ = (32767 : Int); omega), if_pos (by rw [zI_lit, zI_le (by omega) (by omega) (by decide) (by decide)]; show _ ≤ (900 : Int); omega)]

set_option maxHeartbeats 4000000 in
theorem q_blk_wr (N : Nat) (hN : 20000 ≤ N) {Lc Vc : Nat → Nat → Nat} (hL : okLV Lc Vc) {vw : Nat → Nat → Int32} (hv : rVw Lc Vc vw) {kp : Int32} {nb : Nat} {sb0 : Nat → Int32} (hnb : nb ≤ 16384) (g : (Int32 × (Nat → Int32) × Int32 × Int32 × Int32 × Int32 × Int32 × Int32 × Int32 × (Nat → Int32) × (Nat → Int32)) → Option ((Nat → Int32) × Int32 × Int32 × Int32 × Int32 × Int32 × Int32 × Int32 × (Nat → Int32) × (Nat → Int32))) {kd f l b nco i run : Nat} {held : List Nat} {CC : Nat → Int} {T D O : Nat → Nat} {co dt ot ow pls p er : Nat → Int32} {v3 bl rt : Int32} {q : Nat × Nat} {P : Nat → Int} (hnco : nco ≤ 12288) (hK : okK kd f l b) (hq : okBk CC T D O nco co dt ot q) (hi : i < 192) (hlt : ¬ (v3 + bl) ≤ zI (i : Int)) (hw : ow i = zI (q.1 : Nat)) (hpl : pls i = zI (64 * (T q.1 + q.2) : Nat)) (hP : rP p P) (hR : okR run held) (hlow : kd < 3 → run = 0) (her : rHeld er held) {es : List (Nat × Nat × Nat)} {sb : Nat → Int32} {pa fi le la : Int32} (h : rWr Lc Vc kp nb sb0 (es) sb pa fi le la) (hB : es.length + (blkE kd f l b (fun k => CC (64 * (T q.1 + q.2) + k)) (D q.1) (O q.1) (P q.1) run held).1.length + 1 ≤ 50000000) :
    ∃ sb1 pa1 fi1 le1 la1 p1 er1, f_Encoder_encode_wr_L69b v3 bl ow (zI (kd : Nat)) pls nco co (zI (b : Nat)) dt nb kp vw (zI (l : Nat)) ot (zI (f : Nat)) N g (zI (i : Int)) sb pa fi le la (zI run) (zI (held.length : Nat)) rt p er = g (zI ((i + 1 : Nat) : Int), sb1, pa1, fi1, le1, la1, zI ((blkE kd f l b (fun k => CC (64 * (T q.1 + q.2) + k)) (D q.1) (O q.1) (P q.1) run held).2.2.1 : Nat), zI ((blkE kd f l b (fun k => CC (64 * (T q.1 + q.2) + k)) (D q.1) (O q.1) (P q.1) run held).2.2.2.length : Nat), zI (O q.1 : Nat), p1, er1) ∧ rWr Lc Vc kp nb sb0 (es ++ (blkE kd f l b (fun k => CC (64 * (T q.1 + q.2) + k)) (D q.1) (O q.1) (P q.1) run held).1) sb1 pa1 fi1 le1 la1 ∧ rP p1 (fun y => if y = q.1 then (blkE kd f l b (fun k => CC (64 * (T q.1 + q.2) + k)) (D q.1) (O q.1) (P q.1) run held).2.1 else P y) ∧ rHeld er1 (blkE kd f l b (fun k => CC (64 * (T q.1 + q.2) + k)) (D q.1) (O q.1) (P q.1) run held).2.2.2 := by
  obtain ⟨hc4, hd, ho, hd8, ho8, hC⟩ := hq
  obtain ⟨hb, hK⟩ := hK
  have g1 : (zI ((i : Nat) : Int)).toNatClampNeg = i := by rw [zI_cl (by omega) (by omega), Int.toNat_natCast]
  have g2 : (zI ((q.1 : Nat) : Int)).toNatClampNeg = q.1 := by rw [zI_cl (by omega) (by omega), Int.toNat_natCast]
  have gi : ¬ (zI ((i : Nat) : Int) < 0 ∨ 192 ≤ i) := by rw [zI_lit, zI_lt (by omega) (by omega) (by decide) (by decide)]; show ¬ (_ < (0 : Int) ∨ _); omega
  have gc : ¬ (zI ((q.1 : Nat) : Int) < 0 ∨ 4 ≤ q.1) := by rw [zI_lit, zI_lt (by omega) (by omega) (by decide) (by decide)]; show ¬ (_ < (0 : Int) ∨ _); omega
  have hPs : rP p (fun y => if y = q.1 then P q.1 else P y) := fun c hc => by
    dsimp only
    by_cases e : c = q.1
    · rw [if_pos e]; rw [e] at hc ⊢; exact hP q.1 hc
    · rw [if_neg e]; exact hP c hc
  have hPu : ∀ v : Int, -1024 ≤ v ∧ v ≤ 1023 → rP (upd p q.1 (zI v)) (fun y => if y = q.1 then v else P y) := fun v hv c hc => by
    dsimp only
    by_cases e : c = q.1
    · rw [if_pos e, e, pk_us]; exact ⟨rfl, hv⟩
    · rw [if_neg e, pk_un e]; exact hP c hc
  obtain ⟨hp1, hp2⟩ := hP q.1 hc4
  unfold f_Encoder_encode_wr_L69b
  rw [if_neg hlt, g1, hw, g2, hpl, ho, if_neg gi, if_neg gi, if_neg gc]
  rcases hK with ⟨rfl, rfl, rfl, rfl⟩ | ⟨rfl, rfl, rfl⟩ | ⟨rfl, rfl, rfl⟩ | ⟨rfl, hf1, hfl, hl⟩ | ⟨rfl, hf1, hfl, hl⟩
  · obtain rfl := hlow (by omega)
    obtain rfl := hR.2.2.1 rfl
    rw [if_pos (show zI ((0 : Nat) : Int) = (0 : Int32) from rfl)]
    have eB : blkE 0 0 63 0 (fun k => CC (64 * (T q.1 + q.2) + k)) (D q.1) (O q.1) (P q.1) 0 [] = (dirE (fun k => CC (64 * (T q.1 + q.2) + k)) (D q.1) 0 (P q.1) ++ ((othE (fun k => CC (64 * (T q.1 + q.2) + k)) (O q.1) 0 63 1 0 [] 0).1 ++ if (othE (fun k => CC (64 * (T q.1 + q.2) + k)) (O q.1) 0 63 1 0 [] 0).2.2.2 = 0 then [] else [(0, O q.1, 0)]), CC (64 * (T q.1 + q.2) + 0) / 2 ^ 0, 0, []) := rfl
    rw [eB] at hB ⊢
    simp only [List.length_append] at hB
    obtain ⟨sb2, pa2, fi2, le2, la2, w2, r2, v2⟩ := q_dir_wr N hN hL hv hnb (C := (fun k => CC (64 * (T q.1 + q.2) + k))) (pl := 64 * (T q.1 + q.2)) hnco hb hc4 hd hd8 (hC 0 (by omega)) hp1 hp2 h (by omega)
    rw [w2]
    dsimp only [Option.bind_some]
    obtain ⟨sb3, pa3, fi3, le3, la3, er3, w3⟩ := q_so_wr N hN hL hv hnb (C := (fun k => CC (64 * (T q.1 + q.2) + k))) (f := 1) (l := 63) (b := 0) (t := O q.1) (kd := 0) (run := 0) (held := []) hnco hb (by omega) (by omega) (by omega) hC ho8 (Or.inl rfl) er okR_0 her r2 (by simp only [List.length_append]; show _ + (othE (fun k => CC (64 * (T q.1 + q.2) + k)) (O q.1) 0 63 1 0 [] 0).1.length + 1 ≤ _; omega)
    have hz := (othE_run (fun k => CC (64 * (T q.1 + q.2) + k)) (O q.1) 0 63 1 0 [] 0).1
    have hz1 : (othE (fun k => CC (64 * (T q.1 + q.2) + k)) (O q.1) 0 63 1 0 [] 0).2.1 = 0 := by rcases hz with h | h <;> exact h.1
    have hz2 : (othE (fun k => CC (64 * (T q.1 + q.2) + k)) (O q.1) 0 63 1 0 [] 0).2.2.1 = [] := by rcases hz with h | h <;> exact h.2
    rw [show 63 + 1 - 1 = 63 from rfl] at w3
    rw [hz1, hz2] at w3
    rcases w3 with ⟨z0, w3, r3, rfl⟩ | ⟨z0, -, w3, r3, rfl⟩ | ⟨_, e, _⟩
    · rw [show f_Encoder_sendOthers_wr N (zI ((64 * (T q.1 + q.2) : Nat) : Int)) (1 : Int32) nco co (zI ((0 : Nat) : Int)) (zI ((63 : Nat) : Int)) (zI ((0 : Nat) : Int)) nb sb2 kp pa2 fi2 le2 la2 (zI ((0 : Nat) : Int)) (zI (([] : List Nat).length : Nat)) (zI (O q.1 : Nat)) er3 vw = some (sb3, pa3, fi3, le3, la3, zI ((0 : Nat) : Int), zI (([] : List Nat).length : Nat), er3) from w3]
      refine ⟨sb3, pa3, fi3, le3, la3, _, _, q_J0_wr N hN g okR_0 _ _, ?_, hPu _ v2, her⟩
      rw [if_pos z0, List.append_nil, ← List.append_assoc]
      exact r3
    · rw [show f_Encoder_sendOthers_wr N (zI ((64 * (T q.1 + q.2) : Nat) : Int)) (1 : Int32) nco co (zI ((0 : Nat) : Int)) (zI ((63 : Nat) : Int)) (zI ((0 : Nat) : Int)) nb sb2 kp pa2 fi2 le2 la2 (zI ((0 : Nat) : Int)) (zI (([] : List Nat).length : Nat)) (zI (O q.1 : Nat)) er3 vw = some (sb3, pa3, fi3, le3, la3, zI ((0 : Nat) : Int), zI (([] : List Nat).length : Nat), er3) from w3]
      refine ⟨sb3, pa3, fi3, le3, la3, _, _, q_J0_wr N hN g okR_0 _ _, ?_, hPu _ v2, her⟩
      rw [if_neg (by omega), ← List.append_assoc]
      exact r3
    · exact absurd e (by decide)
  · obtain rfl := hlow (by omega)
    obtain rfl := hR.2.2.1 rfl
    rw [if_neg (show ¬ zI ((1 : Nat) : Int) = (0 : Int32) by decide), if_pos (show zI ((1 : Nat) : Int) = (1 : Int32) from rfl)]
    have eB : blkE 1 0 0 b (fun k => CC (64 * (T q.1 + q.2) + k)) (D q.1) (O q.1) (P q.1) 0 [] = (dirE (fun k => CC (64 * (T q.1 + q.2) + k)) (D q.1) b (P q.1), CC (64 * (T q.1 + q.2) + 0) / 2 ^ b, 0, []) := rfl
    rw [eB] at hB ⊢
    dsimp only at hB
    obtain ⟨sb2, pa2, fi2, le2, la2, w2, r2, v2⟩ := q_dir_wr N hN hL hv hnb (C := (fun k => CC (64 * (T q.1 + q.2) + k))) (pl := 64 * (T q.1 + q.2)) hnco hb hc4 hd hd8 (hC 0 (by omega)) hp1 hp2 h (by omega)
    rw [w2]
    exact ⟨sb2, pa2, fi2, le2, la2, _, _, q_J0_wr N hN g okR_0 _ _, r2, hPu _ v2, her⟩
  · obtain rfl := hlow (by omega)
    obtain rfl := hR.2.2.1 rfl
    rw [if_neg (show ¬ zI ((2 : Nat) : Int) = (0 : Int32) by decide), if_neg (show ¬ zI ((2 : Nat) : Int) = (1 : Int32) by decide), if_pos (show zI ((2 : Nat) : Int) = (2 : Int32) from rfl)]
    have eB : blkE 2 0 0 b (fun k => CC (64 * (T q.1 + q.2) + k)) (D q.1) (O q.1) (P q.1) 0 [] = ([(1, (CC (64 * (T q.1 + q.2) + 0) / 2 ^ b % 2).toNat, 0)], P q.1, 0, []) := rfl
    rw [eB] at hB ⊢
    obtain ⟨k1, k2, k3, k4⟩ := hC 0 (by omega)
    rw [Nat.add_zero] at k1 k2 k3 k4 ⊢
    have g3 : (zI ((64 * (T q.1 + q.2) : Nat) : Int)).toNatClampNeg = 64 * (T q.1 + q.2) := by rw [zI_cl (by omega) (by omega), Int.toNat_natCast]
    rw [g3, if_neg (by rw [zI_lit, zI_lt (by omega) (by omega) (by decide) (by decide)]; show ¬ (_ < (0 : Int) ∨ _); omega)]
    have ev : zI (CC (64 * (T q.1 + q.2))) >>> (zI b &&& 31) = zI (CC (64 * (T q.1 + q.2)) / 2 ^ b) := by
      simp (disch := omega) only [zI_lit, zI_ofNat, zI_nI, zI_neg, zI_add, zI_sub, zI_mul, zI_lt, zI_le, zI_eq, zI_cl, zI_div, zI_shr, zI_shl, zI_and1, zI_and7, zI_and15, zI_and255, if_pos, if_neg, Option.bind_some, Option.bind_none, if_true, if_false, true_or, or_true, Int.toNat_natCast, pk_us]
    have hrg := floor_rng (b := b) k3 k4
    rw [k2, ev]
    obtain ⟨sb5, pa5, fi5, le5, w5, r5⟩ := q_wBits N (by omega) hL hnb h (CC (64 * (T q.1 + q.2)) / 2 ^ b) (by omega) (by omega) 1 (by omega) (by simp at hB; omega)
    have w5' : f_BitWriter_putBits N (zI (CC (64 * (T q.1 + q.2)) / 2 ^ b)).toInt64 (1 : Int32) nb sb kp pa fi le = some (sb5, pa5, fi5, le5) := w5
    rw [w5']
    have eb : evB (CC (64 * (T q.1 + q.2)) / 2 ^ b) 1 = [(1, (CC (64 * (T q.1 + q.2)) / 2 ^ b % 2).toNat, 0)] := by
      show [(1, (CC (64 * (T q.1 + q.2)) / 2 ^ b / 2 ^ 0 % 2).toNat, 0)] = _
      rw [Int.pow_zero, Int.ediv_one]
    rw [eb] at r5
    exact ⟨sb5, pa5, fi5, le5, la, _, _, q_J0_wr N hN g okR_0 _ _, r5, hPs, her⟩
  · rw [if_neg (show ¬ zI ((3 : Nat) : Int) = (0 : Int32) by decide), if_neg (show ¬ zI ((3 : Nat) : Int) = (1 : Int32) by decide), if_neg (show ¬ zI ((3 : Nat) : Int) = (2 : Int32) by decide), if_pos (show zI ((3 : Nat) : Int) = (3 : Int32) from rfl)]
    have hoR := othE_ok (C := (fun k => CC (64 * (T q.1 + q.2) + k))) (t := O q.1) (b := b) (j := l + 1 - f) (k := f) (z := 0) hR
    have hB3 : es.length + (othE (fun k => CC (64 * (T q.1 + q.2) + k)) (O q.1) b (l + 1 - f) f run held 0).1.length + 1 ≤ 50000000 := by
      by_cases z0 : (othE (fun k => CC (64 * (T q.1 + q.2) + k)) (O q.1) b (l + 1 - f) f run held 0).2.2.2 = 0
      · rw [blkE_3a z0] at hB; dsimp only at hB; omega
      · rw [blkE_3b (by omega)] at hB; simp only [List.length_append] at hB; omega
    obtain ⟨sb3, pa3, fi3, le3, la3, er3, w3⟩ := q_so_wr N hN hL hv hnb (C := (fun k => CC (64 * (T q.1 + q.2) + k))) (f := f) (l := l) (b := b) (t := O q.1) (kd := 3) (run := run) (held := held) hnco hb hl hf1 hfl hC ho8 (Or.inr rfl) er hR her h (by omega)
    have herO : rHeld er (othE (fun k => CC (64 * (T q.1 + q.2) + k)) (O q.1) b (l + 1 - f) f run held 0).2.2.1 := by
      rcases (othE_run (fun k => CC (64 * (T q.1 + q.2) + k)) (O q.1) b (l + 1 - f) f run held 0).1 with ⟨_, e⟩ | ⟨_, e⟩
      · rw [e]; exact her
      · rw [e]; exact fun i hi => by simp at hi
    rcases w3 with ⟨z0, w3, r3, rfl⟩ | ⟨_, e, _⟩ | ⟨z0, -, w3, r3, r4⟩
    · rw [w3]
      rw [blkE_3a z0]
      exact ⟨sb3, pa3, fi3, le3, la3, _, _, q_J0_wr N hN g hoR _ _, r3, hPs, herO⟩
    · exact absurd e (by decide)
    · rw [w3]
      rw [blkE_3b z0] at hB
      simp only [List.length_append] at hB
      obtain ⟨sb4, pa4, fi4, le4, la4, w4, s4⟩ := q_J_wr N hN hL hv hnb g (t := O q.1) (run := (othE (fun k => CC (64 * (T q.1 + q.2) + k)) (O q.1) b (l + 1 - f) f run held 0).2.1 + 1) (i := i) (held := (othE (fun k => CC (64 * (T q.1 + q.2) + k)) (O q.1) b (l + 1 - f) f run held 0).2.2.1) ho8 (by omega) (by have := hoR.1; omega) (by have := hoR.2.1; omega) (fun h => absurd h (by omega)) hoR.2.2.2 p er3 (r4 herO) r3 (by simp only [List.length_append]; omega)
      rw [blkE_3b z0]
      rw [List.append_assoc] at s4
      exact ⟨sb4, pa4, fi4, le4, la4, _, _, w4, s4, hPs, rHeld_fin (r4 herO)⟩
  · rw [if_neg (show ¬ zI ((4 : Nat) : Int) = (0 : Int32) by decide), if_neg (show ¬ zI ((4 : Nat) : Int) = (1 : Int32) by decide), if_neg (show ¬ zI ((4 : Nat) : Int) = (2 : Int32) by decide), if_neg (show ¬ zI ((4 : Nat) : Int) = (3 : Int32) by decide)]
    obtain ⟨hoR, ho2, ho3, ho4⟩ := refE_ok (fun k => CC (64 * (T q.1 + q.2) + k)) (O q.1) b (lnF (fun k => CC (64 * (T q.1 + q.2) + k)) b (l + 1 - f) f) (l + 1 - f) f run held 0 [] hR (fun x hx => by simp at hx)
    simp only [List.length_nil] at ho3
    have hB3 : es.length + (refE (fun k => CC (64 * (T q.1 + q.2) + k)) (O q.1) b (lnF (fun k => CC (64 * (T q.1 + q.2) + k)) b (l + 1 - f) f) (l + 1 - f) f run held 0 []).1.length ≤ 50000000 := by
      by_cases z0 : (refE (fun k => CC (64 * (T q.1 + q.2) + k)) (O q.1) b (lnF (fun k => CC (64 * (T q.1 + q.2) + k)) b (l + 1 - f) f) (l + 1 - f) f run held 0 []).2.2.2.1 = 0 ∧ (refE (fun k => CC (64 * (T q.1 + q.2) + k)) (O q.1) b (lnF (fun k => CC (64 * (T q.1 + q.2) + k)) b (l + 1 - f) f) (l + 1 - f) f run held 0 []).2.2.2.2 = []
      · rw [blkE_4a z0] at hB; dsimp only at hB; omega
      · rw [blkE_4b z0] at hB; simp only [List.length_append] at hB; omega
    obtain ⟨sb3, pa3, fi3, le3, la3, er3, w3⟩ := q_ro_wr N hN hL hv hnb (C := (fun k => CC (64 * (T q.1 + q.2) + k))) (f := f) (l := l) (b := b) (t := O q.1) (run := run) (held := held) hnco hb hl hf1 hfl hC ho8 er hR her h hB3
    have herO : rHeld er (refE (fun k => CC (64 * (T q.1 + q.2) + k)) (O q.1) b (lnF (fun k => CC (64 * (T q.1 + q.2) + k)) b (l + 1 - f) f) (l + 1 - f) f run held 0 []).2.2.1 := ref_held (fun k => CC (64 * (T q.1 + q.2) + k)) (O q.1) b (lnF (fun k => CC (64 * (T q.1 + q.2) + k)) b (l + 1 - f) f) (l + 1 - f) f run held 0 [] her
    rcases w3 with ⟨z0, w3, r3, rfl⟩ | ⟨z0, w3, r3, r4⟩
    · rw [w3]
      rw [blkE_4a z0]
      exact ⟨sb3, pa3, fi3, le3, la3, _, _, q_J0_wr N hN g hoR _ _, r3, hPs, herO⟩
    · rw [w3]
      rw [blkE_4b z0] at hB
      simp only [List.length_append] at hB
      obtain ⟨sb4, pa4, fi4, le4, la4, w4, s4⟩ := q_J_wr N hN hL hv hnb g (t := O q.1) (run := (refE (fun k => CC (64 * (T q.1 + q.2) + k)) (O q.1) b (lnF (fun k => CC (64 * (T q.1 + q.2) + k)) b (l + 1 - f) f) (l + 1 - f) f run held 0 []).2.1 + 1) (i := i) (held := (refE (fun k => CC (64 * (T q.1 + q.2) + k)) (O q.1) b (lnF (fun k => CC (64 * (T q.1 + q.2) + k)) b (l + 1 - f) f) (l + 1 - f) f run held 0 []).2.2.1 ++ (refE (fun k => CC (64 * (T q.1 + q.2) + k)) (O q.1) b (lnF (fun k => CC (64 * (T q.1 + q.2) + k)) b (l + 1 - f) f) (l + 1 - f) f run held 0 []).2.2.2.2) ho8 (by omega) (by have := hoR.1; omega) (by have := hoR.2.1; rw [List.length_append]; omega) (fun h => absurd h (by omega)) (fun x hx => by rw [List.mem_append] at hx; rcases hx with hx | hx; exact hoR.2.2.2 x hx; exact ho2 x hx) p er3 (r4 herO) r3 (by simp only [List.length_append]; omega)
      rw [blkE_4b z0]
      rw [List.append_assoc] at s4
      exact ⟨sb4, pa4, fi4, le4, la4, _, _, w4, s4, hPs, rHeld_fin (r4 herO)⟩
