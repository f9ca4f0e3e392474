/-! WRITING: the loops over blocks and units -/
theorem q_rsA (u iv : Nat) (hu : u ≤ 192) (hi : iv ≤ 65535) : (0 < iv ∧ 0 < u ∧ u % iv = 0 ∧ f_Course_restartsAhead (zI u) (zI iv) = some (zI 1) ∧ f_Course_restartAhead (zI u) (zI iv) = some (zI (208 + (u / iv - 1) % 8 : Nat))) ∨ (¬ (0 < iv ∧ 0 < u ∧ u % iv = 0) ∧ f_Course_restartsAhead (zI u) (zI iv) = some (zI 0)) := by
  unfold f_Course_restartsAhead f_Course_restartAhead
  by_cases c1 : iv = 0
  · refine Or.inr ⟨by omega, ?_⟩
    simp (disch := omega) only [zI_lit, zI_ofNat, zI_nI, zI_neg, zI_add, zI_sub, zI_mul, zI_lt, zI_le, zI_eq, zI_cl, zI_div, zI_shr, zI_shl, zI_and1, zI_and7, zI_and15, zI_and255, if_pos, if_neg, Option.bind_some, Option.bind_none, if_true, if_false, true_or, or_true, Int.toNat_natCast, pk_us]
  by_cases c2 : u = 0
  · refine Or.inr ⟨by omega, ?_⟩
    simp (disch := omega) only [zI_lit, zI_ofNat, zI_nI, zI_neg, zI_add, zI_sub, zI_mul, zI_lt, zI_le, zI_eq, zI_cl, zI_div, zI_shr, zI_shl, zI_and1, zI_and7, zI_and15, zI_and255, if_pos, if_neg, Option.bind_some, Option.bind_none, if_true, if_false, true_or, or_true, Int.toNat_natCast, pk_us]
  have e1 : (u : Int) - (u : Int) / iv * iv = ((u % iv : Nat) : Int) := by
    rw [Int.natCast_emod, Int.emod_def, Int.mul_comm]
  have hm : u % iv < iv := Nat.mod_lt _ (by omega)
  have e2 : (u : Int) / iv = ((u / iv : Nat) : Int) := (Int.natCast_ediv u iv).symm
  by_cases c3 : u % iv = 0
  · refine Or.inl ⟨by omega, by omega, c3, ?_, ?_⟩
    · have c3' : ((u % iv : Nat) : Int) = 0 := by omega
      simp (disch := omega) only [zI_lit, zI_ofNat, zI_nI, zI_neg, zI_add, zI_sub, zI_mul, zI_lt, zI_le, zI_eq, zI_cl, zI_div, zI_shr, zI_shl, zI_and1, zI_and7, zI_and15, zI_and255, if_pos, if_neg, Option.bind_some, Option.bind_none, if_true, if_false, true_or, or_true, Int.toNat_natCast, pk_us, e1]
    · have hd : 1 ≤ u / iv := by
        rcases Nat.eq_zero_or_pos (u / iv) with h | h
        · have := Nat.div_add_mod u iv
          rw [h, c3] at this
          omega
        · exact h
      simp (disch := omega) only [zI_lit, zI_ofNat, zI_nI, zI_neg, zI_add, zI_sub, zI_mul, zI_lt, zI_le, zI_eq, zI_cl, zI_div, zI_shr, zI_shl, zI_and1, zI_and7, zI_and15, zI_and255, if_pos, if_neg, Option.bind_some, Option.bind_none, if_true, if_false, true_or, or_true, Int.toNat_natCast, pk_us, e2]
      congr 2
      omega
  · refine Or.inr ⟨by omega, ?_⟩
    have c3' : ¬ ((u % iv : Nat) : Int) = 0 := by omega
    simp (disch := omega) only [zI_lit, zI_ofNat, zI_nI, zI_neg, zI_add, zI_sub, zI_mul, zI_lt, zI_le, zI_eq, zI_cl, zI_div, zI_shr, zI_shl, zI_and1, zI_and7, zI_and15, zI_and255, if_pos, if_neg, Option.bind_some, Option.bind_none, if_true, if_false, true_or, or_true, Int.toNat_natCast, pk_us, e1]
theorem seqE_cons (kd f l b : Nat) (CC : Nat → Int) (T D O : Nat → Nat) (q : Nat × Nat) (L : List (Nat × Nat)) (P : Nat → Int) (run : Nat) (held : List Nat) : seqE kd f l b CC T D O (q :: L) P run held = ((blkE kd f l b (fun k => CC (64 * (T q.1 + q.2) + k)) (D q.1) (O q.1) (P q.1) run held).1 ++ (seqE kd f l b CC T D O L (fun x => if x = q.1 then (blkE kd f l b (fun k => CC (64 * (T q.1 + q.2) + k)) (D q.1) (O q.1) (P q.1) run held).2.1 else P x) (blkE kd f l b (fun k => CC (64 * (T q.1 + q.2) + k)) (D q.1) (O q.1) (P q.1) run held).2.2.1 (blkE kd f l b (fun k => CC (64 * (T q.1 + q.2) + k)) (D q.1) (O q.1) (P q.1) run held).2.2.2).1, (seqE kd f l b CC T D O L (fun x => if x = q.1 then (blkE kd f l b (fun k => CC (64 * (T q.1 + q.2) + k)) (D q.1) (O q.1) (P q.1) run held).2.1 else P x) (blkE kd f l b (fun k => CC (64 * (T q.1 + q.2) + k)) (D q.1) (O q.1) (P q.1) run held).2.2.1 (blkE kd f l b (fun k => CC (64 * (T q.1 + q.2) + k)) (D q.1) (O q.1) (P q.1) run held).2.2.2).2) := rfl
set_option maxHeartbeats 1000000 in
theorem q_seq_cnt (N : Nat) (hN : 20000 ≤ N) {kd f l b nco e t0 : Nat} {CC : Nat → Int} {T D O : Nat → Nat} {co dt ot ow pls : Nat → Int32} {v3 bl : Int32} (hnco : nco ≤ 12288) (hK : okK kd f l b) (he : v3 + bl = zI (e : Nat)) (he2 : e ≤ 192) : ∀ (L : List (Nat × Nat)) (i fuel run : Nat) (held : List Nat) (P : Nat → Int) (p er : Nat → Int32) (rt : Int32) (es : List (Nat × Nat × Nat)) (tot : Int32) (ct : Nat → Int32), i + L.length = e → L.length < fuel → (∀ j q, L[j]? = some q → ow (i + j) = zI (q.1 : Nat) ∧ pls (i + j) = zI (64 * (T q.1 + q.2) : Nat)) → (∀ q, q ∈ L → okBk CC T D O nco co dt ot q ∧ (3 ≤ kd → O q.1 = t0)) → rP p P → okR run held → (kd < 3 → run = 0) → (0 < run → rt = zI (t0 : Nat)) → rCnt (es) tot ct →
    ∃ tot1 ct1 rt1 p1 er1, f_Encoder_encode_cnt_L69 v3 bl ow (zI (kd : Nat)) pls nco co (zI (b : Nat)) dt (zI (l : Nat)) ot (zI (f : Nat)) N fuel (zI i, tot, ct, zI run, zI (held.length : Nat), rt, p, er) = some (tot1, ct1, zI ((seqE kd f l b CC T D O L P run held).2.2.1 : Nat), zI ((seqE kd f l b CC T D O L P run held).2.2.2.length : Nat), rt1, p1, er1) ∧ rCnt (es ++ (seqE kd f l b CC T D O L P run held).1) tot1 ct1 ∧ rP p1 (seqE kd f l b CC T D O L P run held).2.1 ∧ okR (seqE kd f l b CC T D O L P run held).2.2.1 (seqE kd f l b CC T D O L P run held).2.2.2 ∧ (kd < 3 → (seqE kd f l b CC T D O L P run held).2.2.1 = 0) ∧ (0 < (seqE kd f l b CC T D O L P run held).2.2.1 → rt1 = zI (t0 : Nat))
  | [], i, fuel, run, held, P, p, er, rt, es, tot, ct, hi, hf, hl, hq, hP, hR, hlow, hrt, h => by
    obtain ⟨fuel, rfl⟩ : ∃ j, fuel = j + 1 := ⟨fuel - 1, by omega⟩
    have e1 : f_Encoder_encode_cnt_L69 v3 bl ow (zI (kd : Nat)) pls nco co (zI (b : Nat)) dt (zI (l : Nat)) ot (zI (f : Nat)) N (fuel + 1) (zI i, tot, ct, zI run, zI (held.length : Nat), rt, p, er) = f_Encoder_encode_cnt_L69b v3 bl ow (zI (kd : Nat)) pls nco co (zI (b : Nat)) dt (zI (l : Nat)) ot (zI (f : Nat)) N (f_Encoder_encode_cnt_L69 v3 bl ow (zI (kd : Nat)) pls nco co (zI (b : Nat)) dt (zI (l : Nat)) ot (zI (f : Nat)) N fuel) (zI i) tot ct (zI run) (zI (held.length : Nat)) rt p er := rfl
    rw [e1]
    unfold f_Encoder_encode_cnt_L69b
    rw [if_pos (by rw [he, zI_le (by omega) (by simp at hi; omega) (by omega) (by simp at hi; omega)]; simp at hi; omega)]
    refine ⟨_, _, _, _, _, rfl, ?_, hP, hR, hlow, hrt⟩
    show rCnt (es ++ []) tot ct
    rw [List.append_nil]; exact h
  | q :: L, i, fuel, run, held, P, p, er, rt, es, tot, ct, hi, hf, hl, hq, hP, hR, hlow, hrt, h => by
    obtain ⟨fuel, rfl⟩ : ∃ j, fuel = j + 1 := ⟨fuel - 1, by omega⟩
    rw [List.length_cons] at hi hf
    have e1 : f_Encoder_encode_cnt_L69 v3 bl ow (zI (kd : Nat)) pls nco co (zI (b : Nat)) dt (zI (l : Nat)) ot (zI (f : Nat)) N (fuel + 1) (zI i, tot, ct, zI run, zI (held.length : Nat), rt, p, er) = f_Encoder_encode_cnt_L69b v3 bl ow (zI (kd : Nat)) pls nco co (zI (b : Nat)) dt (zI (l : Nat)) ot (zI (f : Nat)) N (f_Encoder_encode_cnt_L69 v3 bl ow (zI (kd : Nat)) pls nco co (zI (b : Nat)) dt (zI (l : Nat)) ot (zI (f : Nat)) N fuel) (zI i) tot ct (zI run) (zI (held.length : Nat)) rt p er := rfl
    rw [seqE_cons] 
    
    obtain ⟨hq1, hq2⟩ := hq q (List.mem_cons_self ..)
    obtain ⟨hw, hpl⟩ := hl 0 q rfl
    rw [Nat.add_zero] at hw hpl
    obtain ⟨tot2, ct2, p2, er2, w2, r2, hP2⟩ := q_blk_cnt N hN (f_Encoder_encode_cnt_L69 v3 bl ow (zI (kd : Nat)) pls nco co (zI (b : Nat)) dt (zI (l : Nat)) ot (zI (f : Nat)) N fuel) (rt := rt) (er := er) hnco hK hq1 (by omega : i < 192) (by rw [he, zI_le (by omega) (by omega) (by omega) (by omega)]; omega : ¬ (v3 + bl) ≤ zI (i : Int)) hw hpl hP hR hlow h
    have hR2 := blkE_ok (k := kd) (f := f) (l := l) (b := b) (C := fun k => CC (64 * (T q.1 + q.2) + k)) (d := D q.1) (t := O q.1) (p := P q.1) hR
    have hlow2 : kd < 3 → (blkE kd f l b (fun k => CC (64 * (T q.1 + q.2) + k)) (D q.1) (O q.1) (P q.1) run held).2.2.1 = 0 := fun hk => by rw [(blkE_low hk).1]; exact hlow hk
    obtain ⟨tot3, ct3, rt3, p3, er3, w3, r3, t3⟩ := q_seq_cnt N hN (t0 := t0) hnco hK he he2 L (i + 1) fuel _ _ _ p2 er2 (zI (O q.1 : Nat)) _ tot2 ct2 (by omega) (by omega) (fun j q' hj => by rw [show i + 1 + j = i + (j + 1) by omega]; exact hl (j + 1) q' hj) (fun q' hq' => hq q' (List.mem_cons_of_mem _ hq')) hP2 hR2 hlow2 (fun hr => by rw [hq2 (by rcases Nat.lt_or_ge kd 3 with h3 | h3; rw [hlow2 h3] at hr; omega; exact h3)]) r2
    rw [e1, w2, w3]
    rw [List.append_assoc] at r3
    exact ⟨_, _, _, _, _, rfl, r3, t3⟩

theorem q_end_cnt (N : Nat) (hN : 20000 ≤ N) {es : List (Nat × Nat × Nat)} {tot : Int32} {ct : Nat → Int32} (h : rCnt (es) tot ct) {run : Nat} {held : List Nat} {t : Nat} {rt : Int32} (hR : okR run held) (ht8 : t < 8) (hrt : 0 < run → rt = zI (t : Nat)) :
    ∃ tot1 ct1, f_Encoder_endPart_cnt N tot ct (zI run) (zI (held.length : Nat)) rt = some (tot1, ct1, zI 0, zI 0) ∧ rCnt (es ++ (srE t run held ++ [(2, 0, 0)])) tot1 ct1 := by
  unfold f_Encoder_endPart_cnt
  obtain ⟨tot2, ct2, w2, r2⟩ := q_sendRun_cnt N hN h (run := run) (held := held) (t := t) (rt := rt) (by have := hR.1; omega) (by have := hR.2.1; omega) hR.2.2.1 (fun h => ⟨ht8, hrt h⟩)
  rw [w2]
  dsimp only [Option.bind_some]
  rw [← List.append_assoc]
  exact ⟨_, _, rfl, rCnt_skip r2 (fun e he => by simp only [List.mem_singleton] at he; subst he; simp)⟩

set_option maxHeartbeats 2000000 in
theorem q_un_cnt (N : Nat) (hN : 20000 ≤ N) {kd f l b nco t0 n bl iv : Nat} {CC : Nat → Int} {T D O : Nat → Nat} {UL : Nat → List (Nat × Nat)} {co dt ot ow pls : Nat → Int32} (hnco : nco ≤ 12288) (hK : okK kd f l b) (ht0 : t0 < 8) (hn : n * bl ≤ 192) (hn2 : n ≤ 192) (hbl : bl ≤ 192) (hiv : iv ≤ 65535) (hUl : ∀ u, (UL u).length = bl) (hU : ∀ u i q, u < n → (UL u)[i]? = some q → ow (u * bl + i) = zI (q.1 : Nat) ∧ pls (u * bl + i) = zI (64 * (T q.1 + q.2) : Nat)) (hq : ∀ u q, u < n → q ∈ UL u → okBk CC T D O nco co dt ot q ∧ (3 ≤ kd → O q.1 = t0)) : ∀ (j u fuel run : Nat) (held : List Nat) (P : Nat → Int) (p er : Nat → Int32) (rt : Int32) (es : List (Nat × Nat × Nat)) (tot : Int32) (ct : Nat → Int32), u + j = n → j < fuel → rP p P → okR run held → (kd < 3 → run = 0) → (0 < run → rt = zI (t0 : Nat)) → rCnt (es) tot ct →
    ∃ tot1 ct1 rt1 p1 er1, f_Encoder_encode_cnt_L11 (zI (n : Nat)) (zI (iv : Nat)) (zI (bl : Nat)) ow (zI (kd : Nat)) pls nco co (zI (b : Nat)) dt (zI (l : Nat)) ot (zI (f : Nat)) N fuel (zI u, tot, ct, zI run, zI (held.length : Nat), rt, p, er) = some (tot1, ct1, zI ((unE kd f l b CC T D O UL iv t0 j u P run held).2.2.1 : Nat), zI ((unE kd f l b CC T D O UL iv t0 j u P run held).2.2.2.length : Nat), rt1, p1, er1) ∧ rCnt (es ++ (unE kd f l b CC T D O UL iv t0 j u P run held).1) tot1 ct1 ∧ okR (unE kd f l b CC T D O UL iv t0 j u P run held).2.2.1 (unE kd f l b CC T D O UL iv t0 j u P run held).2.2.2 ∧ (0 < (unE kd f l b CC T D O UL iv t0 j u P run held).2.2.1 → rt1 = zI (t0 : Nat))
  | 0, u, fuel, run, held, P, p, er, rt, es, tot, ct, hu, hf, hP, hR, hlow, hrt, h => by
    obtain ⟨fuel, rfl⟩ : ∃ j, fuel = j + 1 := ⟨fuel - 1, by omega⟩
    have e1 : f_Encoder_encode_cnt_L11 (zI (n : Nat)) (zI (iv : Nat)) (zI (bl : Nat)) ow (zI (kd : Nat)) pls nco co (zI (b : Nat)) dt (zI (l : Nat)) ot (zI (f : Nat)) N (fuel + 1) (zI u, tot, ct, zI run, zI (held.length : Nat), rt, p, er) = f_Encoder_encode_cnt_L11b (zI (n : Nat)) (zI (iv : Nat)) (zI (bl : Nat)) ow (zI (kd : Nat)) pls nco co (zI (b : Nat)) dt (zI (l : Nat)) ot (zI (f : Nat)) N (f_Encoder_encode_cnt_L11 (zI (n : Nat)) (zI (iv : Nat)) (zI (bl : Nat)) ow (zI (kd : Nat)) pls nco co (zI (b : Nat)) dt (zI (l : Nat)) ot (zI (f : Nat)) N fuel) (zI u) tot ct (zI run) (zI (held.length : Nat)) rt p er := rfl
    rw [e1]
    unfold f_Encoder_encode_cnt_L11b
    rw [if_pos (by rw [zI_le (by omega) (by omega) (by omega) (by omega)]; omega)]
    refine ⟨_, _, _, _, _, rfl, ?_, hR, hrt⟩
    show rCnt (es ++ []) tot ct
    rw [List.append_nil]; exact h
  | j + 1, u, fuel, run, held, P, p, er, rt, es, tot, ct, hu, hf, hP, hR, hlow, hrt, h => by
    obtain ⟨fuel, rfl⟩ : ∃ j, fuel = j + 1 := ⟨fuel - 1, by omega⟩
    have e1 : f_Encoder_encode_cnt_L11 (zI (n : Nat)) (zI (iv : Nat)) (zI (bl : Nat)) ow (zI (kd : Nat)) pls nco co (zI (b : Nat)) dt (zI (l : Nat)) ot (zI (f : Nat)) N (fuel + 1) (zI u, tot, ct, zI run, zI (held.length : Nat), rt, p, er) = f_Encoder_encode_cnt_L11b (zI (n : Nat)) (zI (iv : Nat)) (zI (bl : Nat)) ow (zI (kd : Nat)) pls nco co (zI (b : Nat)) dt (zI (l : Nat)) ot (zI (f : Nat)) N (f_Encoder_encode_cnt_L11 (zI (n : Nat)) (zI (iv : Nat)) (zI (bl : Nat)) ow (zI (kd : Nat)) pls nco co (zI (b : Nat)) dt (zI (l : Nat)) ot (zI (f : Nat)) N fuel) (zI u) tot ct (zI run) (zI (held.length : Nat)) rt p er := rfl
    have hub : (u + 1) * bl ≤ n * bl := Nat.mul_le_mul_right _ (by omega)
    rw [Nat.add_mul, Nat.one_mul] at hub
    have ev : zI (u : Int) * zI (bl : Int) = zI ((u * bl : Nat) : Int) := by rw [zI_mul]; rfl
    have ev2 : zI ((u * bl : Nat) : Int) + zI (bl : Int) = zI ((u * bl + bl : Nat) : Int) := by rw [zI_add]; rfl
    have ev3 : zI (u : Int) + (1 : Int32) = zI ((u + 1 : Nat) : Int) := by rw [zI_lit, zI_add]; rfl
    rw [e1]
    unfold f_Encoder_encode_cnt_L11b f_Encoder_encode_cnt_J11_56
    rw [ev, ev3, if_neg (by rw [zI_le (by omega) (by omega) (by omega) (by omega)]; omega)]
    rcases q_rsA u iv (by omega) hiv with ⟨d1, d2, d3, d4, d5⟩ | ⟨d1, d2⟩
    · have eU : unE kd f l b CC T D O UL iv t0 (j + 1) u P run held = (srE t0 run held ++ ((2, 0, 0) :: (3, 208 + (u / iv - 1) % 8, 0) :: ((seqE kd f l b CC T D O (UL u) (fun _ => 0) 0 []).1 ++ (unE kd f l b CC T D O UL iv t0 j (u + 1) (seqE kd f l b CC T D O (UL u) (fun _ => 0) 0 []).2.1 (seqE kd f l b CC T D O (UL u) (fun _ => 0) 0 []).2.2.1 (seqE kd f l b CC T D O (UL u) (fun _ => 0) 0 []).2.2.2).1)), (unE kd f l b CC T D O UL iv t0 j (u + 1) (seqE kd f l b CC T D O (UL u) (fun _ => 0) 0 []).2.1 (seqE kd f l b CC T D O (UL u) (fun _ => 0) 0 []).2.2.1 (seqE kd f l b CC T D O (UL u) (fun _ => 0) 0 []).2.2.2).2) := by
        show (if 0 < iv ∧ 0 < u ∧ u % iv = 0 then _ else _) = _
        rw [if_pos ⟨d1, d2, d3⟩]
      rw [eU] 
      
      rw [d4]
      dsimp only [Option.bind_some]
      rw [if_neg (show ¬ zI 1 = (0 : Int32) by decide)]
      obtain ⟨tot2, ct2, w2, r2⟩ := q_end_cnt N hN h hR ht0 hrt
      rw [w2]
      dsimp only [Option.bind_some]
      rw [d5]
      dsimp only [Option.bind_some]
      have r3 := rCnt_skip r2 (l := [(3, 208 + (u / iv - 1) % 8, 0)]) (fun e he => by simp only [List.mem_singleton] at he; subst he; simp)
      obtain ⟨p4, f1, f2, -⟩ := q_fillI N 4 (by omega) (by omega) (0 : Int32) p
      unfold f_Encoder_forget_cnt
      rw [f1]
      dsimp only [Option.bind_some, f_Counter_putRestart]
      have hP4 : rP p4 (fun _ => 0) := fun c hc => by
        dsimp only
        rw [f2 c hc]
        exact ⟨rfl, by decide, by decide⟩
      obtain ⟨tot5, ct5, rt5, p5, er5, w5, r5, s1, s2, s3, s4⟩ := q_seq_cnt N hN (t0 := t0) hnco hK ev2 (by omega) (UL u) (u * bl) N 0 [] (fun _ => 0) p4 er rt _ tot2 ct2 (by rw [hUl]) (by rw [hUl]; omega) (fun i q hi => hU u i q (by omega) hi) (fun q hq' => hq u q (by omega) hq') hP4 okR_0 (fun _ => rfl) (fun h => absurd h (by omega)) r3
      rw [show f_Encoder_encode_cnt_L69 (zI ((u * bl : Nat) : Int)) (zI (bl : Int)) ow (zI (kd : Nat)) pls nco co (zI (b : Nat)) dt (zI (l : Nat)) ot (zI (f : Nat)) N N (zI ((u * bl : Nat) : Int), tot2, ct2, (0 : Int32), (0 : Int32), rt, p4, er) = _ from w5]
      dsimp only [Option.bind_some]
      obtain ⟨tot6, ct6, rt6, p6, er6, w6, r6, s6⟩ := q_un_cnt N hN hnco hK ht0 hn hn2 hbl hiv hUl hU hq j (u + 1) fuel _ _ _ p5 er5 rt5 _ tot5 ct5 (by omega) (by omega) s1 s2 s3 s4 r5
      rw [w6]
      refine ⟨_, _, _, _, _, rfl, ?_, s6⟩
      have es2 : ∀ (a s5 x7 : List (Nat × Nat × Nat)) (m : Nat × Nat × Nat), es ++ (a ++ [(2, 0, 0)]) ++ [m] ++ s5 ++ x7 = es ++ (a ++ ((2, 0, 0) :: m :: (s5 ++ x7))) := by intro a s5 x7 m; simp only [List.append_assoc, List.cons_append, List.nil_append]
      rw [es2] at r6
      exact r6
    · have eU : unE kd f l b CC T D O UL iv t0 (j + 1) u P run held = ((seqE kd f l b CC T D O (UL u) P run held).1 ++ (unE kd f l b CC T D O UL iv t0 j (u + 1) (seqE kd f l b CC T D O (UL u) P run held).2.1 (seqE kd f l b CC T D O (UL u) P run held).2.2.1 (seqE kd f l b CC T D O (UL u) P run held).2.2.2).1, (unE kd f l b CC T D O UL iv t0 j (u + 1) (seqE kd f l b CC T D O (UL u) P run held).2.1 (seqE kd f l b CC T D O (UL u) P run held).2.2.1 (seqE kd f l b CC T D O (UL u) P run held).2.2.2).2) := by
        show (if 0 < iv ∧ 0 < u ∧ u % iv = 0 then _ else _) = _
        rw [if_neg d1]
      rw [eU] 
      
      rw [d2]
      dsimp only [Option.bind_some]
      rw [if_pos (show zI 0 = (0 : Int32) from rfl)]
      obtain ⟨tot5, ct5, rt5, p5, er5, w5, r5, s1, s2, s3, s4⟩ := q_seq_cnt N hN (t0 := t0) hnco hK ev2 (by omega) (UL u) (u * bl) N run held P p er rt es tot ct (by rw [hUl]) (by rw [hUl]; omega) (fun i q hi => hU u i q (by omega) hi) (fun q hq' => hq u q (by omega) hq') hP hR hlow hrt h
      rw [w5]
      dsimp only [Option.bind_some]
      obtain ⟨tot6, ct6, rt6, p6, er6, w6, r6, s6⟩ := q_un_cnt N hN hnco hK ht0 hn hn2 hbl hiv hUl hU hq j (u + 1) fuel _ _ _ p5 er5 rt5 _ tot5 ct5 (by omega) (by omega) s1 s2 s3 s4 r5
      rw [w6]
      rw [List.append_assoc] at r6
      exact ⟨_, _, _, _, _, rfl, r6, s6⟩

set_option maxHeartbeats 1000000 in
theorem q_enc_cnt (N : Nat) (hN : 20000 ≤ N) {kd f l b nco t0 n bl iv : Nat} {CC : Nat → Int} {T D O : Nat → Nat} {UL : Nat → List (Nat × Nat)} {co dt ot ow pls : Nat → Int32} (hnco : nco ≤ 12288) (hK : okK kd f l b) (ht0 : t0 < 8) (hn : n * bl ≤ 192) (hn2 : n ≤ 192) (hbl : bl ≤ 192) (hiv : iv ≤ 65535) (hUl : ∀ u, (UL u).length = bl) (hU : ∀ u i q, u < n → (UL u)[i]? = some q → ow (u * bl + i) = zI (q.1 : Nat) ∧ pls (u * bl + i) = zI (64 * (T q.1 + q.2) : Nat)) (hq : ∀ u q, u < n → q ∈ UL u → okBk CC T D O nco co dt ot q ∧ (3 ≤ kd → O q.1 = t0)) (p er : Nat → Int32) (rt : Int32) {tot : Int32} {ct : Nat → Int32} (h : rCnt ([]) tot ct) :
    ∃ tot1 ct1 y, f_Encoder_encode_cnt N nco co (zI (kd : Nat)) (zI (f : Nat)) (zI (l : Nat)) (zI (b : Nat)) (zI (iv : Nat)) (zI (n : Nat)) (zI (bl : Nat)) ow pls dt ot tot ct rt p er = some (tot1, ct1, y) ∧ rCnt (allE kd f l b CC T D O UL iv t0 n) tot1 ct1 := by
  obtain ⟨p4, f1, f2, -⟩ := q_fillI N 4 (by omega) (by omega) (0 : Int32) p
  have hP4 : rP p4 (fun _ => 0) := fun c hc => by
    dsimp only
    rw [f2 c hc]
    exact ⟨rfl, by decide, by decide⟩
  unfold f_Encoder_encode_cnt f_Encoder_forget_cnt
  unfold allE 
  
  rw [f1]
  dsimp only [Option.bind_some]
  obtain ⟨tot6, ct6, rt6, p6, er6, w6, r6, s1, s2⟩ := q_un_cnt N hN hnco hK ht0 hn hn2 hbl hiv hUl hU hq n 0 N 0 [] (fun _ => 0) p4 er rt _ tot ct (by omega) (by omega) hP4 okR_0 (fun _ => rfl) (fun h => absurd h (by omega)) h
  rw [show f_Encoder_encode_cnt_L11 (zI (n : Nat)) (zI (iv : Nat)) (zI (bl : Nat)) ow (zI (kd : Nat)) pls nco co (zI (b : Nat)) dt (zI (l : Nat)) ot (zI (f : Nat)) N N ((0 : Int32), tot, ct, (0 : Int32), (0 : Int32), rt, p4, er) = _ from w6]
  dsimp only [Option.bind_some]
  obtain ⟨tot7, ct7, w7, r7⟩ := q_end_cnt N hN r6 s1 ht0 s2
  rw [w7]
  rw [List.nil_append] at r7
  exact ⟨_, _, _, rfl, r7⟩
