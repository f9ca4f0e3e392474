/-! WRITING: the encoder that counts -/
theorem q_sendRun_cnt (N : Nat) (hN : 20000 ≤ N) {es : List (Nat × Nat × Nat)} {tot : Int32} {ct : Nat → Int32} (h : rCnt (es) tot ct) {run : Nat} {held : List Nat} {t : Nat} {rt : Int32} (hr : run ≤ 32767) (hh : held.length ≤ 964) (h0 : run = 0 → held = []) (hq : 0 < run → t < 8 ∧ rt = zI t) :
    ∃ tot1 ct1, f_Encoder_sendRun_cnt N tot ct (zI run) (zI (held.length : Nat)) rt = some (tot1, ct1, zI 0, zI 0) ∧ rCnt (es ++ srE t run held) tot1 ct1 := by
  unfold f_Encoder_sendRun_cnt
  by_cases c : run = 0
  · subst c
    rw [if_pos (show zI ((0 : Nat) : Int) = (0 : Int32) from rfl), h0 rfl, srE_0, List.append_nil]
    exact ⟨_, _, rfl, h⟩
  · obtain ⟨ht, rfl⟩ := hq (by omega)
    have s1 := szN_pos (a := run) (by omega)
    have s2 : szN run ≤ 15 := szN_le (by omega)
    have q1 := (q_size N (by omega) (run : Int) (by omega) (by omega)).1
    rw [Int.natAbs_natCast] at q1
    rw [if_neg (by rw [zI_lit, zI_eq (by omega) (by omega) (by decide) (by decide)]; show ¬ _ = (0 : Int); omega), q1]
    have eS : srE t run held = [(0, t, 16 * (szN run - 1))] ++ (evB run (szN run - 1) ++ held.map fun x => (1, x, 0)) := by
      unfold srE
      rw [if_neg c]; rfl
    rw [eS]
    have e1 : zI ((szN run : Nat) : Int) - (1 : Int32) = zI ((szN run - 1 : Nat) : Int) := by rw [zI_lit, zI_sub]; congr 1; show ((szN run : Nat) : Int) - 1 = _; omega
    have e2 : (16 : Int32) * zI ((szN run - 1 : Nat) : Int) = zI ((16 * (szN run - 1) : Nat) : Int) := by rw [zI_lit, zI_mul]; rfl
    dsimp only [Option.bind_some]
    rw [e1, e2]
    obtain ⟨tot2, ct2, w2, r2⟩ := q_cWord h t (16 * (szN run - 1)) ht (by omega)
    rw [w2]
    have hl : f_Encoder_sendRun_cnt_L48 (zI (held.length : Nat)) N N (0 : Int32) = some () := by
      have := it_cnt1 (b := fun rec a => f_Encoder_sendRun_cnt_L48b (zI (held.length : Nat)) N rec a) (fun c => zI c) () held.length (fun g c hc hg => by
        unfold f_Encoder_sendRun_cnt_L48b f_Counter_putBits
        simp (disch := omega) only [zI_lit, zI_ofNat, zI_nI, zI_neg, zI_add, zI_sub, zI_mul, zI_lt, zI_le, zI_eq, zI_cl, zI_div, zI_shr, zI_shl, zI_and1, zI_and7, zI_and15, zI_and255, if_pos, if_neg, Option.bind_some, Option.bind_none, if_true, if_false, true_or, or_true, Int.toNat_natCast, pk_us]
        exact hg) (fun g => by
        unfold f_Encoder_sendRun_cnt_L48b
        simp (disch := omega) only [zI_lit, zI_ofNat, zI_nI, zI_neg, zI_add, zI_sub, zI_mul, zI_lt, zI_le, zI_eq, zI_cl, zI_div, zI_shr, zI_shl, zI_and1, zI_and7, zI_and15, zI_and255, if_pos, if_neg, Option.bind_some, Option.bind_none, if_true, if_false, true_or, or_true, Int.toNat_natCast, pk_us]) N 0 (by omega) (by omega)
      exact this
    dsimp only [Option.bind_some, f_Counter_putBits]
    rw [hl]
    rw [← List.append_assoc]
    exact ⟨_, _, rfl, rCnt_skip r2 (fun e he => by
      rw [List.mem_append] at he
      rcases he with he | he
      · exact evB_nw _ _ e he
      · exact mapB_nw _ e he)⟩

theorem q_zrl_cnt (N : Nat) (hN : 20000 ≤ N) {t : Nat} {rt : Int32} (ht : t < 8) (hrt : rt = zI t) : ∀ (q z fuel : Nat) (es : List (Nat × Nat × Nat)) (tot : Int32) (ct : Nat → Int32), z / 16 = q → z ≤ 100 → q < fuel → rCnt (es) tot ct →
    ∃ tot1 ct1, f_Encoder_sendOthers_cnt_L61 rt N fuel (zI z, tot, ct) = some (zI (z % 16 : Nat), tot1, ct1) ∧ rCnt (es ++ List.replicate q (0, t, 240)) tot1 ct1
  | 0, z, fuel, es, tot, ct, hq, hz, hf, h => by
    obtain ⟨fuel, rfl⟩ : ∃ j, fuel = j + 1 := ⟨fuel - 1, by omega⟩
    have e : f_Encoder_sendOthers_cnt_L61 rt N (fuel + 1) (zI z, tot, ct) = f_Encoder_sendOthers_cnt_L61b rt N (f_Encoder_sendOthers_cnt_L61 rt N fuel) (zI z) tot ct := rfl
    rw [e]
    unfold f_Encoder_sendOthers_cnt_L61b
    simp (disch := omega) only [zI_lit, zI_ofNat, zI_nI, zI_neg, zI_add, zI_sub, zI_mul, zI_lt, zI_le, zI_eq, zI_cl, zI_div, zI_shr, zI_shl, zI_and1, zI_and7, zI_and15, zI_and255, if_pos, if_neg, Option.bind_some, Option.bind_none, if_true, if_false, true_or, or_true, Int.toNat_natCast, pk_us]
    rw [List.replicate_zero, List.append_nil, show z % 16 = z by omega]
    exact ⟨_, _, rfl, h⟩
  | q + 1, z, fuel, es, tot, ct, hq, hz, hf, h => by
    obtain ⟨fuel, rfl⟩ : ∃ j, fuel = j + 1 := ⟨fuel - 1, by omega⟩
    subst hrt
    obtain ⟨tot2, ct2, w2, r2⟩ := q_cWord h t (240) ht (by omega)
    obtain ⟨tot3, ct3, w3, r3⟩ := q_zrl_cnt N hN ht rfl q (z - 16) fuel _ tot2 ct2 (by omega) (by omega) (by omega) r2
    have e : f_Encoder_sendOthers_cnt_L61 (zI t) N (fuel + 1) (zI z, tot, ct) = f_Encoder_sendOthers_cnt_L61b (zI t) N (f_Encoder_sendOthers_cnt_L61 (zI t) N fuel) (zI z) tot ct := rfl
    have w2' : f_Counter_putWord (zI t) (240 : Int32) tot ct = some (tot2, ct2) := w2
    have e2 : zI (z : Int) + (-16 : Int32) = zI ((z - 16 : Nat) : Int) := by rw [show (-16 : Int32) = zI (-16) from rfl, zI_add]; congr 1; omega
    rw [e]
    unfold f_Encoder_sendOthers_cnt_L61b
    rw [w2', if_neg (by rw [zI_lit, zI_le (by omega) (by omega) (by decide) (by decide)]; show ¬ _ ≤ (15 : Int); omega)]
    dsimp only [Option.bind_some]
    rw [e2, w3, show (z - 16) % 16 = z % 16 by omega]
    refine ⟨_, _, rfl, ?_⟩
    rw [List.replicate_succ, show ∀ (a : Nat × Nat × Nat) (l : List (Nat × Nat × Nat)), es ++ a :: l = (es ++ [a]) ++ l by intro a l; simp]
    exact r3

set_option maxHeartbeats 1000000 in
theorem q_oth_cnt (N : Nat) (hN : 20000 ≤ N) {C : Nat → Int} {pl nco l b : Nat} {co : Nat → Int32} (hnco : nco ≤ 12288) (hb : b ≤ 9) (hl : l ≤ 63) (hC : ∀ k, k ≤ 63 → pl + k < nco ∧ co (pl + k) = zI (C k) ∧ -1024 ≤ C k ∧ C k ≤ 1023) {t : Nat} {rt : Int32} (ht : t < 8) (hrt : rt = zI t) : ∀ (j k fuel run : Nat) (held : List Nat) (z : Nat) (es : List (Nat × Nat × Nat)) (tot : Int32) (ct : Nat → Int32), k + j = l + 1 → z + j ≤ 64 → j < fuel → okR run held → rCnt (es) tot ct →
    ∃ tot1 ct1, f_Encoder_sendOthers_cnt_L5 (zI (l : Nat)) (zI (pl : Nat)) nco co (zI (b : Nat)) rt N fuel (zI z, zI k, tot, ct, zI run, zI (held.length : Nat)) = some (zI ((othE C t b j k run held z).2.2.2 : Nat), tot1, ct1, zI ((othE C t b j k run held z).2.1 : Nat), zI ((othE C t b j k run held z).2.2.1.length : Nat)) ∧ rCnt (es ++ (othE C t b j k run held z).1) tot1 ct1
  | 0, k, fuel, run, held, z, es, tot, ct, hk, hz, hf, hR, h => by
    obtain ⟨fuel, rfl⟩ : ∃ j, fuel = j + 1 := ⟨fuel - 1, by omega⟩
    have e : f_Encoder_sendOthers_cnt_L5 (zI (l : Nat)) (zI (pl : Nat)) nco co (zI (b : Nat)) rt N (fuel + 1) (zI z, zI k, tot, ct, zI run, zI (held.length : Nat)) = f_Encoder_sendOthers_cnt_L5b (zI (l : Nat)) (zI (pl : Nat)) nco co (zI (b : Nat)) rt N (f_Encoder_sendOthers_cnt_L5 (zI (l : Nat)) (zI (pl : Nat)) nco co (zI (b : Nat)) rt N fuel) (zI z) (zI k) tot ct (zI run) (zI (held.length : Nat)) := rfl
    rw [e]
    unfold f_Encoder_sendOthers_cnt_L5b
    simp (disch := omega) only [zI_lit, zI_ofNat, zI_nI, zI_neg, zI_add, zI_sub, zI_mul, zI_lt, zI_le, zI_eq, zI_cl, zI_div, zI_shr, zI_shl, zI_and1, zI_and7, zI_and15, zI_and255, if_pos, if_neg, Option.bind_some, Option.bind_none, if_true, if_false, true_or, or_true, Int.toNat_natCast, pk_us]
    refine ⟨_, _, rfl, ?_⟩
    show rCnt (es ++ []) tot ct
    rw [List.append_nil]
    exact h
  | j + 1, k, fuel, run, held, z, es, tot, ct, hk, hz, hf, hR, h => by
    obtain ⟨fuel, rfl⟩ : ∃ j, fuel = j + 1 := ⟨fuel - 1, by omega⟩
    subst hrt
    obtain ⟨c1, c2, c3, c4⟩ := hC k (by omega)
    have e : f_Encoder_sendOthers_cnt_L5 (zI (l : Nat)) (zI (pl : Nat)) nco co (zI (b : Nat)) (zI t) N (fuel + 1) (zI z, zI k, tot, ct, zI run, zI (held.length : Nat)) = f_Encoder_sendOthers_cnt_L5b (zI (l : Nat)) (zI (pl : Nat)) nco co (zI (b : Nat)) (zI t) N (f_Encoder_sendOthers_cnt_L5 (zI (l : Nat)) (zI (pl : Nat)) nco co (zI (b : Nat)) (zI t) N fuel) (zI z) (zI k) tot ct (zI run) (zI (held.length : Nat)) := rfl
    have ek : zI (pl : Int) + zI (k : Int) = zI ((pl + k : Nat) : Int) := by rw [zI_add]; rfl
    have g1 : (zI ((pl + k : Nat) : Int)).toNatClampNeg = pl + k := by rw [zI_cl (by omega) (by omega), Int.toNat_natCast]
    have gi : ¬ (zI ((pl + k : Nat) : Int) < 0 ∨ nco ≤ pl + k) := by rw [zI_lit, zI_lt (by omega) (by omega) (by decide) (by decide)]; show ¬ (_ < (0 : Int) ∨ _); omega
    have gl : ¬ zI (l : Int) < zI (k : Int) := by rw [zI_lt (by omega) (by omega) (by omega) (by omega)]; omega
    have ek1 : zI (k : Int) + (1 : Int32) = zI ((k + 1 : Nat) : Int) := by rw [zI_lit, zI_add]; rfl
    have ha := amt_le (b := b) c3 (by omega : C k ≤ 1024)
    have hsz := szN_11 ha
    rw [e]
    unfold f_Encoder_sendOthers_cnt_L5b f_Encoder_sendOthers_cnt_J5_133 f_Encoder_sendOthers_cnt_J5_140
    rw [if_neg gl, ek, g1, if_neg gi, c2, q_amt (C k) b (by omega) (by omega) hb, ek1]
    by_cases a0 : amt (C k) b = 0
    · have eo : othE C t b (j + 1) k run held z = othE C t b j (k + 1) run held (z + 1) := by
        show (if amt (C k) b = 0 then _ else _) = _
        rw [if_pos a0]
      rw [eo] 
      rw [if_pos (by rw [a0]; rfl)]
      have ez : zI (z : Int) + (1 : Int32) = zI ((z + 1 : Nat) : Int) := by rw [zI_lit, zI_add]; rfl
      rw [ez]
      exact q_oth_cnt N hN hnco hb hl hC ht rfl j (k + 1) fuel run held (z + 1) es tot ct (by omega) (by omega) (by omega) hR h
    · have eo : othE C t b (j + 1) k run held z = (srE t run held ++ (List.replicate (z / 16) (0, t, 240) ++ ((0, t, 16 * (z % 16) + szN (amt (C k) b)) :: (evB (if 0 < C k then (amt (C k) b : Int) else -(amt (C k) b : Int) - 1) (szN (amt (C k) b)) ++ (othE C t b j (k + 1) 0 [] 0).1))), (othE C t b j (k + 1) 0 [] 0).2) := by
        show (if amt (C k) b = 0 then _ else _) = _
        rw [if_neg a0]
      rw [eo] 
      
      rw [if_neg (by rw [zI_lit, zI_eq (by omega) (by omega) (by decide) (by decide)]; show ¬ _ = (0 : Int); omega)]
      obtain ⟨tot2, ct2, w2, r2⟩ := q_sendRun_cnt N hN h (run := run) (held := held) (t := t) (rt := zI t) (by have := hR.1; omega) (by have := hR.2.1; omega) hR.2.2.1 (fun _ => ⟨ht, rfl⟩)
      rw [w2]
      dsimp only [Option.bind_some]
      obtain ⟨tot3, ct3, w3, r3⟩ := q_zrl_cnt N hN ht (rfl : zI (t : Int) = zI t) (z / 16) z N _ tot2 ct2 rfl (by omega) (by omega) r2
      rw [w3]
      dsimp only [Option.bind_some]
      have q1 := (q_size N (by omega) ((amt (C k) b : Nat) : Int) (by omega) (by omega)).1
      rw [Int.natAbs_natCast] at q1
      rw [q1]
      dsimp only [Option.bind_some]
      have e2 : (16 : Int32) * zI ((z % 16 : Nat) : Int) + zI ((szN (amt (C k) b) : Nat) : Int) = zI ((16 * (z % 16) + szN (amt (C k) b) : Nat) : Int) := by rw [zI_lit, zI_mul, zI_add]; rfl
      rw [e2]
      obtain ⟨tot4, ct4, w4, r4⟩ := q_cWord r3 t (16 * (z % 16) + szN (amt (C k) b)) ht (by omega)
      rw [w4]
      dsimp only [Option.bind_some]

      have r5 := rCnt_skip r4 (evB_nw (if 0 < C k then (amt (C k) b : Int) else -(amt (C k) b : Int) - 1) (szN (amt (C k) b)))
      obtain ⟨tot6, ct6, w6, r6⟩ := q_oth_cnt N hN hnco hb hl hC ht (rfl : zI (t : Int) = zI t) j (k + 1) fuel 0 [] 0 _ tot4 ct4 (by omega) (by omega) (by omega) okR_0 r5
      have w6' : f_Encoder_sendOthers_cnt_L5 (zI (l : Nat)) (zI (pl : Nat)) nco co (zI (b : Nat)) (zI t) N fuel ((0 : Int32), zI ((k + 1 : Nat) : Int), tot4, ct4, zI 0, zI 0) = _ := w6
      have es2 : es ++ srE t run held ++ List.replicate (z / 16) (0, t, 240) ++ [(0, t, 16 * (z % 16) + szN (amt (C k) b))] ++ evB (if 0 < C k then (amt (C k) b : Int) else -(amt (C k) b : Int) - 1) (szN (amt (C k) b)) ++ (othE C t b j (k + 1) 0 [] 0).1 = es ++ (srE t run held ++ (List.replicate (z / 16) (0, t, 240) ++ ((0, t, 16 * (z % 16) + szN (amt (C k) b)) :: (evB (if 0 < C k then (amt (C k) b : Int) else -(amt (C k) b : Int) - 1) (szN (amt (C k) b)) ++ (othE C t b j (k + 1) 0 [] 0).1)))) := by simp only [List.append_assoc, List.cons_append, List.nil_append]
      rw [es2] at r6
      dsimp only [Option.bind_some, f_Counter_putBits]
      rw [w6']
      by_cases cp : 0 < C k
      · rw [if_neg (by rw [zI_lit, zI_le (by omega) (by omega) (by decide) (by decide)]; show ¬ _ ≤ (0 : Int); omega)]
        exact ⟨_, _, rfl, r6⟩
      · rw [if_pos (by rw [zI_lit, zI_le (by omega) (by omega) (by decide) (by decide)]; show _ ≤ (0 : Int); omega)]
        exact ⟨_, _, rfl, r6⟩
