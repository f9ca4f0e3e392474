set_option maxHeartbeats 1000000 in
theorem q_seq_wr (N : Nat) (hN : 20000 ≤ N) {Lc Vc : Nat → Nat → Nat} (hL : okLV Lc Vc) {vw : Nat → Nat → Int32} (hv : rVw Lc Vc vw) {kp : Int32} {nb : Nat} {sb0 : Nat → Int32} (hnb : nb ≤ 16384) {kd f l b nco e t0 : Nat} {CC : Nat → Int} {T D O : Nat → Nat} {co dt ot ow pls : Nat → Int32} {v3 bl : Int32} (hnco : nco ≤ 12288) (hK : okK kd f l b) (he : v3 + bl = zI (e : Nat)) (he2 : e ≤ 192) : ∀ (L : List (Nat × Nat)) (i fuel run : Nat) (held : List Nat) (P : Nat → Int) (p er : Nat → Int32) (rt : Int32) (es : List (Nat × Nat × Nat)) (sb : Nat → Int32) (pa fi le la : Int32), i + L.length = e → L.length < fuel → (∀ j q, L[j]? = some q → ow (i + j) = zI (q.1 : Nat) ∧ pls (i + j) = zI (64 * (T q.1 + q.2) : Nat)) → (∀ q, q ∈ L → okBk CC T D O nco co dt ot q ∧ (3 ≤ kd → O q.1 = t0)) → rP p P → okR run held → (kd < 3 → run = 0) → (0 < run → rt = zI (t0 : Nat)) → rHeld er held → es.length + (seqE kd f l b CC T D O L P run held).1.length + 1 ≤ 50000000 → rWr Lc Vc kp nb sb0 (es) sb pa fi le la →
    ∃ sb1 pa1 fi1 le1 la1 rt1 p1 er1, f_Encoder_encode_wr_L69 v3 bl ow (zI (kd : Nat)) pls nco co (zI (b : Nat)) dt nb kp vw (zI (l : Nat)) ot (zI (f : Nat)) N fuel (zI i, sb, pa, fi, le, la, zI run, zI (held.length : Nat), rt, p, er) = some (sb1, pa1, fi1, le1, la1, zI ((seqE kd f l b CC T D O L P run held).2.2.1 : Nat), zI ((seqE kd f l b CC T D O L P run held).2.2.2.length : Nat), rt1, p1, er1) ∧ rWr Lc Vc kp nb sb0 (es ++ (seqE kd f l b CC T D O L P run held).1) sb1 pa1 fi1 le1 la1 ∧ rP p1 (seqE kd f l b CC T D O L P run held).2.1 ∧ okR (seqE kd f l b CC T D O L P run held).2.2.1 (seqE kd f l b CC T D O L P run held).2.2.2 ∧ (kd < 3 → (seqE kd f l b CC T D O L P run held).2.2.1 = 0) ∧ (0 < (seqE kd f l b CC T D O L P run held).2.2.1 → rt1 = zI (t0 : Nat)) ∧ rHeld er1 (seqE kd f l b CC T D O L P run held).2.2.2
  | [], i, fuel, run, held, P, p, er, rt, es, sb, pa, fi, le, la, hi, hf, hl, hq, hP, hR, hlow, hrt, her, hB, h => by
    obtain ⟨fuel, rfl⟩ : ∃ j, fuel = j + 1 := ⟨fuel - 1, by omega⟩
    have e1 : f_Encoder_encode_wr_L69 v3 bl ow (zI (kd : Nat)) pls nco co (zI (b : Nat)) dt nb kp vw (zI (l : Nat)) ot (zI (f : Nat)) N (fuel + 1) (zI i, sb, pa, fi, le, la, zI run, zI (held.length : Nat), rt, p, er) = f_Encoder_encode_wr_L69b v3 bl ow (zI (kd : Nat)) pls nco co (zI (b : Nat)) dt nb kp vw (zI (l : Nat)) ot (zI (f : Nat)) N (f_Encoder_encode_wr_L69 v3 bl ow (zI (kd : Nat)) pls nco co (zI (b : Nat)) dt nb kp vw (zI (l : Nat)) ot (zI (f : Nat)) N fuel) (zI i) sb pa fi le la (zI run) (zI (held.length : Nat)) rt p er := rfl
    rw [e1]
    unfold f_Encoder_encode_wr_L69b
    rw [if_pos (by rw [he, zI_le (by omega) (by simp at hi; omega) (by omega) (by simp at hi; omega)]; simp at hi; omega)]
    refine ⟨_, _, _, _, _, _, _, _, rfl, ?_, hP, hR, hlow, hrt, her⟩
    show rWr Lc Vc kp nb sb0 (es ++ []) sb pa fi le la
    rw [List.append_nil]; exact h
  | q :: L, i, fuel, run, held, P, p, er, rt, es, sb, pa, fi, le, la, hi, hf, hl, hq, hP, hR, hlow, hrt, her, hB, h => by
    obtain ⟨fuel, rfl⟩ : ∃ j, fuel = j + 1 := ⟨fuel - 1, by omega⟩
    rw [List.length_cons] at hi hf
    have e1 : f_Encoder_encode_wr_L69 v3 bl ow (zI (kd : Nat)) pls nco co (zI (b : Nat)) dt nb kp vw (zI (l : Nat)) ot (zI (f : Nat)) N (fuel + 1) (zI i, sb, pa, fi, le, la, zI run, zI (held.length : Nat), rt, p, er) = f_Encoder_encode_wr_L69b v3 bl ow (zI (kd : Nat)) pls nco co (zI (b : Nat)) dt nb kp vw (zI (l : Nat)) ot (zI (f : Nat)) N (f_Encoder_encode_wr_L69 v3 bl ow (zI (kd : Nat)) pls nco co (zI (b : Nat)) dt nb kp vw (zI (l : Nat)) ot (zI (f : Nat)) N fuel) (zI i) sb pa fi le la (zI run) (zI (held.length : Nat)) rt p er := rfl
    rw [seqE_cons] at hB ⊢
    simp only [List.length_append] at hB
    obtain ⟨hq1, hq2⟩ := hq q (List.mem_cons_self ..)
    obtain ⟨hw, hpl⟩ := hl 0 q rfl
    rw [Nat.add_zero] at hw hpl
    obtain ⟨sb2, pa2, fi2, le2, la2, p2, er2, w2, r2, hP2, her2⟩ := q_blk_wr N hN hL hv hnb (f_Encoder_encode_wr_L69 v3 bl ow (zI (kd : Nat)) pls nco co (zI (b : Nat)) dt nb kp vw (zI (l : Nat)) ot (zI (f : Nat)) N fuel) (rt := rt) (er := er) hnco hK hq1 (by omega : i < 192) (by rw [he, zI_le (by omega) (by omega) (by omega) (by omega)]; omega : ¬ (v3 + bl) ≤ zI (i : Int)) hw hpl hP hR hlow her h (by omega)
    have hR2 := blkE_ok (k := kd) (f := f) (l := l) (b := b) (C := fun k => CC (64 * (T q.1 + q.2) + k)) (d := D q.1) (t := O q.1) (p := P q.1) hR
    have hlow2 : kd < 3 → (blkE kd f l b (fun k => CC (64 * (T q.1 + q.2) + k)) (D q.1) (O q.1) (P q.1) run held).2.2.1 = 0 := fun hk => by rw [(blkE_low hk).1]; exact hlow hk
    obtain ⟨sb3, pa3, fi3, le3, la3, rt3, p3, er3, w3, r3, t3⟩ := q_seq_wr N hN hL hv hnb (t0 := t0) hnco hK he he2 L (i + 1) fuel _ _ _ p2 er2 (zI (O q.1 : Nat)) _ sb2 pa2 fi2 le2 la2 (by omega) (by omega) (fun j q' hj => by rw [show i + 1 + j = i + (j + 1) by omega]; exact hl (j + 1) q' hj) (fun q' hq' => hq q' (List.mem_cons_of_mem _ hq')) hP2 hR2 hlow2 (fun hr => by rw [hq2 (by rcases Nat.lt_or_ge kd 3 with h3 | h3; rw [hlow2 h3] at hr; omega; exact h3)]) her2 (by simp only [List.length_append]; omega) r2
    rw [e1, w2, w3]
    rw [List.append_assoc] at r3
    exact ⟨_, _, _, _, _, _, _, _, rfl, r3, t3⟩

theorem q_end_wr (N : Nat) (hN : 20000 ≤ N) {Lc Vc : Nat → Nat → Nat} (hL : okLV Lc Vc) {vw : Nat → Nat → Int32} (hv : rVw Lc Vc vw) {kp : Int32} {nb : Nat} {sb0 : Nat → Int32} (hnb : nb ≤ 16384) {es : List (Nat × Nat × Nat)} {sb : Nat → Int32} {pa fi le la : Int32} (h : rWr Lc Vc kp nb sb0 (es) sb pa fi le la) {run : Nat} {held : List Nat} {t : Nat} {rt : Int32} {er : Nat → Int32} (hR : okR run held) (her : rHeld er held) (ht8 : t < 8) (hrt : 0 < run → rt = zI (t : Nat)) (hB : es.length + (srE t run held).length + 1 ≤ 50000000) :
    ∃ sb1 pa1 fi1 le1 la1, f_Encoder_endPart_wr N nb sb kp pa fi le la (zI run) (zI (held.length : Nat)) rt er vw = some (sb1, pa1, fi1, le1, la1, zI 0, zI 0) ∧ rWr Lc Vc kp nb sb0 (es ++ (srE t run held ++ [(2, 0, 0)])) sb1 pa1 fi1 le1 la1 := by
  unfold f_Encoder_endPart_wr
  obtain ⟨sb2, pa2, fi2, le2, la2, w2, r2⟩ := q_sendRun_wr N hN hL hv hnb h (run := run) (held := held) (t := t) (rt := rt) (by have := hR.1; omega) (by have := hR.2.1; omega) hR.2.2.1 hR.2.2.2 her (fun h => ⟨ht8, hrt h⟩) (by omega)
  rw [w2]
  dsimp only [Option.bind_some]
  rw [← List.append_assoc]
  obtain ⟨sb3, pa3, fi3, le3, w3, r3⟩ := q_wEnd N (by omega) hL hnb r2 (by rw [List.length_append]; omega)
  rw [w3]
  exact ⟨_, _, _, _, _, rfl, r3⟩

set_option maxHeartbeats 2000000 in
theorem q_un_wr (N : Nat) (hN : 20000 ≤ N) {Lc Vc : Nat → Nat → Nat} (hL : okLV Lc Vc) {vw : Nat → Nat → Int32} (hv : rVw Lc Vc vw) {kp : Int32} {nb : Nat} {sb0 : Nat → Int32} (hnb : nb ≤ 16384) {kd f l b nco t0 n bl iv : Nat} {CC : Nat → Int} {T D O : Nat → Nat} {UL : Nat → List (Nat × Nat)} {co dt ot ow pls : Nat → Int32} (hnco : nco ≤ 12288) (hK : okK kd f l b) (ht0 : t0 < 8) (hn : n * bl ≤ 192) (hn2 : n ≤ 192) (hbl : bl ≤ 192) (hiv : iv ≤ 65535) (hUl : ∀ u, (UL u).length = bl) (hU : ∀ u i q, u < n → (UL u)[i]? = some q → ow (u * bl + i) = zI (q.1 : Nat) ∧ pls (u * bl + i) = zI (64 * (T q.1 + q.2) : Nat)) (hq : ∀ u q, u < n → q ∈ UL u → okBk CC T D O nco co dt ot q ∧ (3 ≤ kd → O q.1 = t0)) : ∀ (j u fuel run : Nat) (held : List Nat) (P : Nat → Int) (p er : Nat → Int32) (rt : Int32) (es : List (Nat × Nat × Nat)) (sb : Nat → Int32) (pa fi le la : Int32), u + j = n → j < fuel → rP p P → okR run held → (kd < 3 → run = 0) → (0 < run → rt = zI (t0 : Nat)) → rHeld er held → es.length + (unE kd f l b CC T D O UL iv t0 j u P run held).1.length + 1 ≤ 50000000 → rWr Lc Vc kp nb sb0 (es) sb pa fi le la →
    ∃ sb1 pa1 fi1 le1 la1 rt1 p1 er1, f_Encoder_encode_wr_L11 (zI (n : Nat)) (zI (iv : Nat)) (zI (bl : Nat)) ow (zI (kd : Nat)) pls nco co (zI (b : Nat)) dt nb kp vw (zI (l : Nat)) ot (zI (f : Nat)) N fuel (zI u, sb, pa, fi, le, la, zI run, zI (held.length : Nat), rt, p, er) = some (sb1, pa1, fi1, le1, la1, zI ((unE kd f l b CC T D O UL iv t0 j u P run held).2.2.1 : Nat), zI ((unE kd f l b CC T D O UL iv t0 j u P run held).2.2.2.length : Nat), rt1, p1, er1) ∧ rWr Lc Vc kp nb sb0 (es ++ (unE kd f l b CC T D O UL iv t0 j u P run held).1) sb1 pa1 fi1 le1 la1 ∧ okR (unE kd f l b CC T D O UL iv t0 j u P run held).2.2.1 (unE kd f l b CC T D O UL iv t0 j u P run held).2.2.2 ∧ (0 < (unE kd f l b CC T D O UL iv t0 j u P run held).2.2.1 → rt1 = zI (t0 : Nat)) ∧ rHeld er1 (unE kd f l b CC T D O UL iv t0 j u P run held).2.2.2
  | 0, u, fuel, run, held, P, p, er, rt, es, sb, pa, fi, le, la, hu, hf, hP, hR, hlow, hrt, her, hB, h => by
    obtain ⟨fuel, rfl⟩ : ∃ j, fuel = j + 1 := ⟨fuel - 1, by omega⟩
    have e1 : f_Encoder_encode_wr_L11 (zI (n : Nat)) (zI (iv : Nat)) (zI (bl : Nat)) ow (zI (kd : Nat)) pls nco co (zI (b : Nat)) dt nb kp vw (zI (l : Nat)) ot (zI (f : Nat)) N (fuel + 1) (zI u, sb, pa, fi, le, la, zI run, zI (held.length : Nat), rt, p, er) = f_Encoder_encode_wr_L11b (zI (n : Nat)) (zI (iv : Nat)) (zI (bl : Nat)) ow (zI (kd : Nat)) pls nco co (zI (b : Nat)) dt nb kp vw (zI (l : Nat)) ot (zI (f : Nat)) N (f_Encoder_encode_wr_L11 (zI (n : Nat)) (zI (iv : Nat)) (zI (bl : Nat)) ow (zI (kd : Nat)) pls nco co (zI (b : Nat)) dt nb kp vw (zI (l : Nat)) ot (zI (f : Nat)) N fuel) (zI u) sb pa fi le la (zI run) (zI (held.length : Nat)) rt p er := rfl
    rw [e1]
    unfold f_Encoder_encode_wr_L11b
    rw [if_pos (by rw [zI_le (by omega) (by omega) (by omega) (by omega)]; omega)]
    refine ⟨_, _, _, _, _, _, _, _, rfl, ?_, hR, hrt, her⟩
    show rWr Lc Vc kp nb sb0 (es ++ []) sb pa fi le la
    rw [List.append_nil]; exact h
  | j + 1, u, fuel, run, held, P, p, er, rt, es, sb, pa, fi, le, la, hu, hf, hP, hR, hlow, hrt, her, hB, h => by
    obtain ⟨fuel, rfl⟩ : ∃ j, fuel = j + 1 := ⟨fuel - 1, by omega⟩
    have e1 : f_Encoder_encode_wr_L11 (zI (n : Nat)) (zI (iv : Nat)) (zI (bl : Nat)) ow (zI (kd : Nat)) pls nco co (zI (b : Nat)) dt nb kp vw (zI (l : Nat)) ot (zI (f : Nat)) N (fuel + 1) (zI u, sb, pa, fi, le, la, zI run, zI (held.length : Nat), rt, p, er) = f_Encoder_encode_wr_L11b (zI (n : Nat)) (zI (iv : Nat)) (zI (bl : Nat)) ow (zI (kd : Nat)) pls nco co (zI (b : Nat)) dt nb kp vw (zI (l : Nat)) ot (zI (f : Nat)) N (f_Encoder_encode_wr_L11 (zI (n : Nat)) (zI (iv : Nat)) (zI (bl : Nat)) ow (zI (kd : Nat)) pls nco co (zI (b : Nat)) dt nb kp vw (zI (l : Nat)) ot (zI (f : Nat)) N fuel) (zI u) sb pa fi le la (zI run) (zI (held.length : Nat)) rt p er := rfl
    have hub : (u + 1) * bl ≤ n * bl := Nat.mul_le_mul_right _ (by omega)
    rw [Nat.add_mul, Nat.one_mul] at hub
    have ev : zI (u : Int) * zI (bl : Int) = zI ((u * bl : Nat) : Int) := by rw [zI_mul]; rfl
    have ev2 : zI ((u * bl : Nat) : Int) + zI (bl : Int) = zI ((u * bl + bl : Nat) : Int) := by rw [zI_add]; rfl
    have ev3 : zI (u : Int) + (1 : Int32) = zI ((u + 1 : Nat) : Int) := by rw [zI_lit, zI_add]; rfl
    rw [e1]
    unfold f_Encoder_encode_wr_L11b f_Encoder_encode_wr_J11_56
    rw [ev, ev3, if_neg (by rw [zI_le (by omega) (by omega) (by omega) (by omega)]; omega)]
    rcases q_rsA u iv (by omega) hiv with ⟨d1, d2, d3, d4, d5⟩ | ⟨d1, d2⟩
    · have eU : unE kd f l b CC T D O UL iv t0 (j + 1) u P run held = (srE t0 run held ++ ((2, 0, 0) :: (3, 208 + (u / iv - 1) % 8, 0) :: ((seqE kd f l b CC T D O (UL u) (fun _ => 0) 0 []).1 ++ (unE kd f l b CC T D O UL iv t0 j (u + 1) (seqE kd f l b CC T D O (UL u) (fun _ => 0) 0 []).2.1 (seqE kd f l b CC T D O (UL u) (fun _ => 0) 0 []).2.2.1 (seqE kd f l b CC T D O (UL u) (fun _ => 0) 0 []).2.2.2).1)), (unE kd f l b CC T D O UL iv t0 j (u + 1) (seqE kd f l b CC T D O (UL u) (fun _ => 0) 0 []).2.1 (seqE kd f l b CC T D O (UL u) (fun _ => 0) 0 []).2.2.1 (seqE kd f l b CC T D O (UL u) (fun _ => 0) 0 []).2.2.2).2) := by
        show (if 0 < iv ∧ 0 < u ∧ u % iv = 0 then _ else _) = _
        rw [if_pos ⟨d1, d2, d3⟩]
      rw [eU] at hB ⊢
      simp only [List.length_append, List.length_cons] at hB
      rw [d4]
      dsimp only [Option.bind_some]
      rw [if_neg (show ¬ zI 1 = (0 : Int32) by decide)]
      obtain ⟨sb2, pa2, fi2, le2, la2, w2, r2⟩ := q_end_wr N hN hL hv hnb h hR her ht0 hrt (by omega)
      rw [w2]
      dsimp only [Option.bind_some]
      rw [d5]
      dsimp only [Option.bind_some]
      obtain ⟨sb3, le3, w3, r3⟩ := q_wRst hL hnb r2 (208 + (u / iv - 1) % 8) (by omega) (by simp only [List.length_append, List.length_cons, List.length_nil]; omega)
      rw [w3]
      dsimp only [Option.bind_some]
      obtain ⟨p4, f1, f2, -⟩ := q_fillI N 4 (by omega) (by omega) (0 : Int32) p
      unfold f_Encoder_forget_wr
      rw [f1]
      dsimp only [Option.bind_some]
      have hP4 : rP p4 (fun _ => 0) := fun c hc => by
        dsimp only
        rw [f2 c hc]
        exact ⟨rfl, by decide, by decide⟩
      obtain ⟨sb5, pa5, fi5, le5, la5, rt5, p5, er5, w5, r5, s1, s2, s3, s4, s5⟩ := q_seq_wr N hN hL hv hnb (t0 := t0) hnco hK ev2 (by omega) (UL u) (u * bl) N 0 [] (fun _ => 0) p4 er rt _ sb3 pa2 fi2 le3 la2 (by rw [hUl]) (by rw [hUl]; omega) (fun i q hi => hU u i q (by omega) hi) (fun q hq' => hq u q (by omega) hq') hP4 okR_0 (fun _ => rfl) (fun h => absurd h (by omega)) (fun i hi => by simp at hi) (by simp only [List.length_append, List.length_cons, List.length_nil]; omega) r3
      rw [show f_Encoder_encode_wr_L69 (zI ((u * bl : Nat) : Int)) (zI (bl : Int)) ow (zI (kd : Nat)) pls nco co (zI (b : Nat)) dt nb kp vw (zI (l : Nat)) ot (zI (f : Nat)) N N (zI ((u * bl : Nat) : Int), sb3, pa2, fi2, le3, la2, (0 : Int32), (0 : Int32), rt, p4, er) = _ from w5]
      dsimp only [Option.bind_some]
      obtain ⟨sb6, pa6, fi6, le6, la6, rt6, p6, er6, w6, r6, s6⟩ := q_un_wr N hN hL hv hnb hnco hK ht0 hn hn2 hbl hiv hUl hU hq j (u + 1) fuel _ _ _ p5 er5 rt5 _ sb5 pa5 fi5 le5 la5 (by omega) (by omega) s1 s2 s3 s4 s5 (by simp only [List.length_append, List.length_cons, List.length_nil]; omega) r5
      rw [w6]
      refine ⟨_, _, _, _, _, _, _, _, rfl, ?_, s6⟩
      have es2 : ∀ (a s5 x7 : List (Nat × Nat × Nat)) (m : Nat × Nat × Nat), es ++ (a ++ [(2, 0, 0)]) ++ [m] ++ s5 ++ x7 = es ++ (a ++ ((2, 0, 0) :: m :: (s5 ++ x7))) := by intro a s5 x7 m; simp only [List.append_assoc, List.cons_append, List.nil_append]
      rw [es2] at r6
      exact r6
    · have eU : unE kd f l b CC T D O UL iv t0 (j + 1) u P run held = ((seqE kd f l b CC T D O (UL u) P run held).1 ++ (unE kd f l b CC T D O UL iv t0 j (u + 1) (seqE kd f l b CC T D O (UL u) P run held).2.1 (seqE kd f l b CC T D O (UL u) P run held).2.2.1 (seqE kd f l b CC T D O (UL u) P run held).2.2.2).1, (unE kd f l b CC T D O UL iv t0 j (u + 1) (seqE kd f l b CC T D O (UL u) P run held).2.1 (seqE kd f l b CC T D O (UL u) P run held).2.2.1 (seqE kd f l b CC T D O (UL u) P run held).2.2.2).2) := by
        show (if 0 < iv ∧ 0 < u ∧ u % iv = 0 then _ else _) = _
        rw [if_neg d1]
      rw [eU] at hB ⊢
      simp only [List.length_append] at hB
      rw [d2]
      dsimp only [Option.bind_some]
      rw [if_pos (show zI 0 = (0 : Int32) from rfl)]
      obtain ⟨sb5, pa5, fi5, le5, la5, rt5, p5, er5, w5, r5, s1, s2, s3, s4, s5⟩ := q_seq_wr N hN hL hv hnb (t0 := t0) hnco hK ev2 (by omega) (UL u) (u * bl) N run held P p er rt es sb pa fi le la (by rw [hUl]) (by rw [hUl]; omega) (fun i q hi => hU u i q (by omega) hi) (fun q hq' => hq u q (by omega) hq') hP hR hlow hrt her (by omega) h
      rw [w5]
      dsimp only [Option.bind_some]
      obtain ⟨sb6, pa6, fi6, le6, la6, rt6, p6, er6, w6, r6, s6⟩ := q_un_wr N hN hL hv hnb hnco hK ht0 hn hn2 hbl hiv hUl hU hq j (u + 1) fuel _ _ _ p5 er5 rt5 _ sb5 pa5 fi5 le5 la5 (by omega) (by omega) s1 s2 s3 s4 s5 (by simp only [List.length_append]; omega) r5
      rw [w6]
      rw [List.append_assoc] at r6
      exact ⟨_, _, _, _, _, _, _, _, rfl, r6, s6⟩

set_option maxHeartbeats 1000000 in
theorem q_enc_wr (N : Nat) (hN : 20000 ≤ N) {Lc Vc : Nat → Nat → Nat} (hL : okLV Lc Vc) {vw : Nat → Nat → Int32} (hv : rVw Lc Vc vw) {kp : Int32} {nb : Nat} {sb0 : Nat → Int32} (hnb : nb ≤ 16384) {kd f l b nco t0 n bl iv : Nat} {CC : Nat → Int} {T D O : Nat → Nat} {UL : Nat → List (Nat × Nat)} {co dt ot ow pls : Nat → Int32} (hnco : nco ≤ 12288) (hK : okK kd f l b) (ht0 : t0 < 8) (hn : n * bl ≤ 192) (hn2 : n ≤ 192) (hbl : bl ≤ 192) (hiv : iv ≤ 65535) (hUl : ∀ u, (UL u).length = bl) (hU : ∀ u i q, u < n → (UL u)[i]? = some q → ow (u * bl + i) = zI (q.1 : Nat) ∧ pls (u * bl + i) = zI (64 * (T q.1 + q.2) : Nat)) (hq : ∀ u q, u < n → q ∈ UL u → okBk CC T D O nco co dt ot q ∧ (3 ≤ kd → O q.1 = t0)) (p er : Nat → Int32) (rt : Int32) {sb : Nat → Int32} {pa fi le la : Int32} (h : rWr Lc Vc kp nb sb0 ([]) sb pa fi le la) (hB : (allE kd f l b CC T D O UL iv t0 n).length ≤ 49999999) :
    ∃ sb1 pa1 fi1 le1 la1 y, f_Encoder_encode_wr N nco co (zI (kd : Nat)) (zI (f : Nat)) (zI (l : Nat)) (zI (b : Nat)) (zI (iv : Nat)) (zI (n : Nat)) (zI (bl : Nat)) ow pls dt ot nb sb kp pa fi le la rt p er vw = some (sb1, pa1, fi1, le1, la1, y) ∧ rWr Lc Vc kp nb sb0 (allE kd f l b CC T D O UL iv t0 n) sb1 pa1 fi1 le1 la1 := by
  obtain ⟨p4, f1, f2, -⟩ := q_fillI N 4 (by omega) (by omega) (0 : Int32) p
  have hP4 : rP p4 (fun _ => 0) := fun c hc => by
    dsimp only
    rw [f2 c hc]
    exact ⟨rfl, by decide, by decide⟩
  unfold f_Encoder_encode_wr f_Encoder_forget_wr
  unfold allE at hB ⊢
  simp only [List.length_append, List.length_cons, List.length_nil] at hB
  rw [f1]
  dsimp only [Option.bind_some]
  obtain ⟨sb6, pa6, fi6, le6, la6, rt6, p6, er6, w6, r6, s1, s2, s3⟩ := q_un_wr N hN hL hv hnb hnco hK ht0 hn hn2 hbl hiv hUl hU hq n 0 N 0 [] (fun _ => 0) p4 er rt _ sb pa fi le la (by omega) (by omega) hP4 okR_0 (fun _ => rfl) (fun h => absurd h (by omega)) (fun i hi => by simp at hi) (by simp only [List.length_nil]; omega) h
  rw [show f_Encoder_encode_wr_L11 (zI (n : Nat)) (zI (iv : Nat)) (zI (bl : Nat)) ow (zI (kd : Nat)) pls nco co (zI (b : Nat)) dt nb kp vw (zI (l : Nat)) ot (zI (f : Nat)) N N ((0 : Int32), sb, pa, fi, le, la, (0 : Int32), (0 : Int32), rt, p4, er) = _ from w6]
  dsimp only [Option.bind_some]
  obtain ⟨sb7, pa7, fi7, le7, la7, w7, r7⟩ := q_end_wr N hN hL hv hnb r6 s1 s3 ht0 s2 (by simp only [List.length_append, List.length_nil]; omega)
  rw [w7]
  rw [List.nil_append] at r7
  exact ⟨_, _, _, _, _, _, rfl, r7⟩
