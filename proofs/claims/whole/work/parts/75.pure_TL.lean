/-! WRITING: the encoder that writes -/
theorem q_sendRunL_wr (N : Nat) (hN : 20000 ≤ N) {Lc Vc : Nat → Nat → Nat} (hL : okLV Lc Vc) {vw : Nat → Nat → Int32} (hv : rVw Lc Vc vw) {kp : Int32} {nb : Nat} {sb0 : Nat → Int32} (hnb : nb ≤ 16384) {er : Nat → Int32} {held : List Nat} (her : rHeld er held) (h2 : ∀ x, x ∈ held → x < 2) (hh : held.length ≤ 964) : ∀ (n i fuel : Nat) (es : List (Nat × Nat × Nat)) (sb : Nat → Int32) (pa fi le la : Int32), i + n = held.length → n < fuel → es.length + n ≤ 50000000 → rWr Lc Vc kp nb sb0 es sb pa fi le la →
    ∃ sb1 pa1 fi1 le1, f_Encoder_sendRun_wr_L48 (zI (held.length : Nat)) er nb kp N fuel (zI i, sb, pa, fi, le) = some (sb1, pa1, fi1, le1) ∧ rWr Lc Vc kp nb sb0 (es ++ (held.drop i).map fun x => (1, x, 0)) sb1 pa1 fi1 le1 la
  | 0, i, fuel, es, sb, pa, fi, le, la, hi, hf, hB, h => by
    obtain ⟨fuel, rfl⟩ : ∃ j, fuel = j + 1 := ⟨fuel - 1, by omega⟩
    have e : f_Encoder_sendRun_wr_L48 (zI (held.length : Nat)) er nb kp N (fuel + 1) (zI i, sb, pa, fi, le) = f_Encoder_sendRun_wr_L48b (zI (held.length : Nat)) er nb kp N (f_Encoder_sendRun_wr_L48 (zI (held.length : Nat)) er nb kp N fuel) (zI i) sb pa fi le := rfl
    rw [e]
    unfold f_Encoder_sendRun_wr_L48b
    simp (disch := omega) only [zI_lit, zI_ofNat, zI_nI, zI_neg, zI_add, zI_sub, zI_mul, zI_lt, zI_le, zI_eq, zI_cl, zI_div, zI_shr, zI_shl, zI_and1, zI_and7, zI_and15, zI_and255, if_pos, if_neg, Option.bind_some, Option.bind_none, if_true, if_false, true_or, or_true, Int.toNat_natCast, pk_us]
    rw [List.drop_of_length_le (by omega), List.map_nil, List.append_nil]
    exact ⟨_, _, _, _, rfl, h⟩
  | n + 1, i, fuel, es, sb, pa, fi, le, la, hi, hf, hB, h => by
    obtain ⟨fuel, rfl⟩ : ∃ j, fuel = j + 1 := ⟨fuel - 1, by omega⟩
    have hlt : i < held.length := by omega
    have hx : held.getD i 0 < 2 := by
      rw [List.getD_eq_getElem?_getD, List.getElem?_eq_getElem hlt]
      exact h2 _ (List.getElem_mem hlt)
    obtain ⟨sb1, pa1, fi1, le1, a1, a2⟩ := q_wBits N (by omega) hL hnb h (held.getD i 0 : Nat) (by omega) (by omega) 1 (by omega) (by omega)
    have e1 : evB ((held.getD i 0 : Nat) : Int) 1 = [(1, held.getD i 0, 0)] := by
      show [(1, (((held.getD i 0 : Nat) : Int) / 2 ^ 0 % 2).toNat, 0)] = _
      congr 2
      rw [Int.pow_zero, Int.ediv_one]
      congr 1
      omega
    rw [e1] at a2
    obtain ⟨sb2, pa2, fi2, le2, b1, b2⟩ := q_sendRunL_wr N hN hL hv hnb her h2 hh n (i + 1) fuel _ sb1 pa1 fi1 le1 la (by omega) (by omega) (by rw [List.length_append]; simp; omega) a2
    have e : f_Encoder_sendRun_wr_L48 (zI (held.length : Nat)) er nb kp N (fuel + 1) (zI i, sb, pa, fi, le) = f_Encoder_sendRun_wr_L48b (zI (held.length : Nat)) er nb kp N (f_Encoder_sendRun_wr_L48 (zI (held.length : Nat)) er nb kp N fuel) (zI i) sb pa fi le := rfl
    have g1 : (zI ((i : Nat) : Int)).toNatClampNeg = i := by rw [zI_cl (by omega) (by omega), Int.toNat_natCast]
    have a1' : f_BitWriter_putBits N (zI (held.getD i 0 : Nat)).toInt64 (1 : Int32) nb sb kp pa fi le = some (sb1, pa1, fi1, le1) := a1
    have b1' : f_Encoder_sendRun_wr_L48 (zI (held.length : Nat)) er nb kp N fuel (zI (i : Int) + 1, sb1, pa1, fi1, le1) = some (sb2, pa2, fi2, le2) := by rw [zI_lit, zI_add]; exact b1
    rw [e]
    unfold f_Encoder_sendRun_wr_L48b
    rw [g1, her i hlt, a1']
    dsimp only [Option.bind_some]
    rw [b1']
    rw [if_neg (by rw [zI_le (by omega) (by omega) (by omega) (by omega)]; omega), if_neg (by rw [zI_lit, zI_lt (by omega) (by omega) (by decide) (by decide)]; show ¬ (_ < (0 : Int) ∨ _); omega)]
    refine ⟨_, _, _, _, rfl, ?_⟩
    rw [List.drop_eq_getElem_cons hlt, List.map_cons, show ∀ (a : Nat × Nat × Nat) (l : List (Nat × Nat × Nat)), es ++ a :: l = (es ++ [a]) ++ l by intro a l; simp]
    have e3 : held.getD i 0 = held[i] := by rw [List.getD_eq_getElem?_getD, List.getElem?_eq_getElem hlt]; rfl
    rw [← e3]
    exact b2
theorem q_sendRun_wr (N : Nat) (hN : 20000 ≤ N) {Lc Vc : Nat → Nat → Nat} (hL : okLV Lc Vc) {vw : Nat → Nat → Int32} (hv : rVw Lc Vc vw) {kp : Int32} {nb : Nat} {sb0 : Nat → Int32} (hnb : nb ≤ 16384) {es : List (Nat × Nat × Nat)} {sb : Nat → Int32} {pa fi le la : Int32} (h : rWr Lc Vc kp nb sb0 (es) sb pa fi le la) {run : Nat} {held : List Nat} {t : Nat} {rt : Int32} {er : Nat → Int32} (hr : run ≤ 32767) (hh : held.length ≤ 964) (h0 : run = 0 → held = []) (h2 : ∀ x, x ∈ held → x < 2) (her : rHeld er held) (hq : 0 < run → t < 8 ∧ rt = zI t) (hB : es.length + (srE t run held).length ≤ 50000000) :
    ∃ sb1 pa1 fi1 le1 la1, f_Encoder_sendRun_wr N nb sb kp pa fi le la (zI run) (zI (held.length : Nat)) rt er vw = some (sb1, pa1, fi1, le1, la1, zI 0, zI 0) ∧ rWr Lc Vc kp nb sb0 (es ++ srE t run held) sb1 pa1 fi1 le1 la1 := by
  unfold f_Encoder_sendRun_wr
  by_cases c : run = 0
  · subst c
    rw [if_pos (show zI ((0 : Nat) : Int) = (0 : Int32) from rfl), h0 rfl, srE_0, List.append_nil]
    exact ⟨_, _, _, _, _, rfl, h⟩
  · obtain ⟨ht, rfl⟩ := hq (by omega)
    have s1 := szN_pos (a := run) (by omega)
    have s2 : szN run ≤ 15 := szN_le (by omega)
    have q1 := (q_size N (by omega) (run : Int) (by omega) (by omega)).1
    rw [Int.natAbs_natCast] at q1
    rw [if_neg (by rw [zI_lit, zI_eq (by omega) (by omega) (by decide) (by decide)]; show ¬ _ = (0 : Int); omega), q1]
    have eS : srE t run held = [(0, t, 16 * (szN run - 1))] ++ (evB run (szN run - 1) ++ held.map fun x => (1, x, 0)) := by
      unfold srE
      rw [if_neg c]; rfl
    rw [eS] at hB ⊢
    simp only [List.length_append, List.length_cons, List.length_nil, evB_len, List.length_map] at hB
    have e1 : zI ((szN run : Nat) : Int) - (1 : Int32) = zI ((szN run - 1 : Nat) : Int) := by rw [zI_lit, zI_sub]; congr 1; show ((szN run : Nat) : Int) - 1 = _; omega
    have e2 : (16 : Int32) * zI ((szN run - 1 : Nat) : Int) = zI ((16 * (szN run - 1) : Nat) : Int) := by rw [zI_lit, zI_mul]; rfl
    dsimp only [Option.bind_some]
    rw [e1, e2]
    obtain ⟨sb2, pa2, fi2, le2, la2, w2, r2⟩ := q_wWord N (by omega) hL hv hnb h t (16 * (szN run - 1)) ht (by omega) (by omega)
    rw [w2]
    dsimp only [Option.bind_some]
    obtain ⟨sb3, pa3, fi3, le3, w3, r3⟩ := q_wBits N (by omega) hL hnb r2 (run : Int) (by omega) (by omega) (szN run - 1) (by omega) (by rw [List.length_append]; simp; omega)
    rw [w3]
    dsimp only [Option.bind_some]
    obtain ⟨sb4, pa4, fi4, le4, w4, r4⟩ := q_sendRunL_wr N hN hL hv hnb her h2 hh held.length 0 N _ sb3 pa3 fi3 le3 la2 (by omega) (by omega) (by simp only [List.length_append, evB_len, List.length_cons, List.length_nil]; omega) r3
    have w4' : f_Encoder_sendRun_wr_L48 (zI (held.length : Nat)) er nb kp N N ((0 : Int32), sb3, pa3, fi3, le3) = some (sb4, pa4, fi4, le4) := w4
    rw [w4']
    rw [List.drop_zero, List.append_assoc, List.append_assoc] at r4
    exact ⟨_, _, _, _, _, rfl, r4⟩

theorem q_zrl_wr (N : Nat) (hN : 20000 ≤ N) {Lc Vc : Nat → Nat → Nat} (hL : okLV Lc Vc) {vw : Nat → Nat → Int32} (hv : rVw Lc Vc vw) {kp : Int32} {nb : Nat} {sb0 : Nat → Int32} (hnb : nb ≤ 16384) {t : Nat} {rt : Int32} (ht : t < 8) (hrt : rt = zI t) : ∀ (q z fuel : Nat) (es : List (Nat × Nat × Nat)) (sb : Nat → Int32) (pa fi le la : Int32), z / 16 = q → z ≤ 100 → q < fuel → es.length + q ≤ 50000000 → rWr Lc Vc kp nb sb0 (es) sb pa fi le la →
    ∃ sb1 pa1 fi1 le1 la1, f_Encoder_sendOthers_wr_L61 rt nb kp vw N fuel (zI z, sb, pa, fi, le, la) = some (zI (z % 16 : Nat), sb1, pa1, fi1, le1, la1) ∧ rWr Lc Vc kp nb sb0 (es ++ List.replicate q (0, t, 240)) sb1 pa1 fi1 le1 la1
  | 0, z, fuel, es, sb, pa, fi, le, la, hq, hz, hf, hB, h => by
    obtain ⟨fuel, rfl⟩ : ∃ j, fuel = j + 1 := ⟨fuel - 1, by omega⟩
    have e : f_Encoder_sendOthers_wr_L61 rt nb kp vw N (fuel + 1) (zI z, sb, pa, fi, le, la) = f_Encoder_sendOthers_wr_L61b rt nb kp vw N (f_Encoder_sendOthers_wr_L61 rt nb kp vw N fuel) (zI z) sb pa fi le la := rfl
    rw [e]
    unfold f_Encoder_sendOthers_wr_L61b
    simp (disch := omega) only [zI_lit, zI_ofNat, zI_nI, zI_neg, zI_add, zI_sub, zI_mul, zI_lt, zI_le, zI_eq, zI_cl, zI_div, zI_shr, zI_shl, zI_and1, zI_and7, zI_and15, zI_and255, if_pos, if_neg, Option.bind_some, Option.bind_none, if_true, if_false, true_or, or_true, Int.toNat_natCast, pk_us]
    rw [List.replicate_zero, List.append_nil, show z % 16 = z by omega]
    exact ⟨_, _, _, _, _, rfl, h⟩
  | q + 1, z, fuel, es, sb, pa, fi, le, la, hq, hz, hf, hB, h => by
    obtain ⟨fuel, rfl⟩ : ∃ j, fuel = j + 1 := ⟨fuel - 1, by omega⟩
    subst hrt
    obtain ⟨sb2, pa2, fi2, le2, la2, w2, r2⟩ := q_wWord N (by omega) hL hv hnb h t (240) ht (by omega) (by omega)
    obtain ⟨sb3, pa3, fi3, le3, la3, w3, r3⟩ := q_zrl_wr N hN hL hv hnb ht rfl q (z - 16) fuel _ sb2 pa2 fi2 le2 la2 (by omega) (by omega) (by omega) (by rw [List.length_append]; simp; omega) r2
    have e : f_Encoder_sendOthers_wr_L61 (zI t) nb kp vw N (fuel + 1) (zI z, sb, pa, fi, le, la) = f_Encoder_sendOthers_wr_L61b (zI t) nb kp vw N (f_Encoder_sendOthers_wr_L61 (zI t) nb kp vw N fuel) (zI z) sb pa fi le la := rfl
    have w2' : f_BitWriter_putWord N (zI t) (240 : Int32) nb sb kp pa fi le la vw = some (sb2, pa2, fi2, le2, la2) := w2
    have e2 : zI (z : Int) + (-16 : Int32) = zI ((z - 16 : Nat) : Int) := by rw [show (-16 : Int32) = zI (-16) from rfl, zI_add]; congr 1; omega
    rw [e]
    unfold f_Encoder_sendOthers_wr_L61b
    rw [w2', if_neg (by rw [zI_lit, zI_le (by omega) (by omega) (by decide) (by decide)]; show ¬ _ ≤ (15 : Int); omega)]
    dsimp only [Option.bind_some]
    rw [e2, w3, show (z - 16) % 16 = z % 16 by omega]
    refine ⟨_, _, _, _, _, rfl, ?_⟩
    rw [List.replicate_succ, show ∀ (a : Nat × Nat × Nat) (l : List (Nat × Nat × Nat)), es ++ a :: l = (es ++ [a]) ++ l by intro a l; simp]
    exact r3

set_option maxHeartbeats 1000000 in
theorem q_oth_wr (N : Nat) (hN : 20000 ≤ N) {Lc Vc : Nat → Nat → Nat} (hL : okLV Lc Vc) {vw : Nat → Nat → Int32} (hv : rVw Lc Vc vw) {kp : Int32} {nb : Nat} {sb0 : Nat → Int32} (hnb : nb ≤ 16384) {C : Nat → Int} {pl nco l b : Nat} {co : Nat → Int32} (hnco : nco ≤ 12288) (hb : b ≤ 9) (hl : l ≤ 63) (hC : ∀ k, k ≤ 63 → pl + k < nco ∧ co (pl + k) = zI (C k) ∧ -1024 ≤ C k ∧ C k ≤ 1023) {t : Nat} {rt : Int32} (ht : t < 8) (hrt : rt = zI t) (er : Nat → Int32) : ∀ (j k fuel run : Nat) (held : List Nat) (z : Nat) (es : List (Nat × Nat × Nat)) (sb : Nat → Int32) (pa fi le la : Int32), k + j = l + 1 → z + j ≤ 64 → j < fuel → okR run held → rHeld er held → es.length + (othE C t b j k run held z).1.length ≤ 50000000 → rWr Lc Vc kp nb sb0 (es) sb pa fi le la →
    ∃ sb1 pa1 fi1 le1 la1, f_Encoder_sendOthers_wr_L5 (zI (l : Nat)) (zI (pl : Nat)) nco co (zI (b : Nat)) nb kp rt er vw N fuel (zI z, zI k, sb, pa, fi, le, la, zI run, zI (held.length : Nat)) = some (zI ((othE C t b j k run held z).2.2.2 : Nat), sb1, pa1, fi1, le1, la1, zI ((othE C t b j k run held z).2.1 : Nat), zI ((othE C t b j k run held z).2.2.1.length : Nat)) ∧ rWr Lc Vc kp nb sb0 (es ++ (othE C t b j k run held z).1) sb1 pa1 fi1 le1 la1
  | 0, k, fuel, run, held, z, es, sb, pa, fi, le, la, hk, hz, hf, hR, her, hB, h => by
    obtain ⟨fuel, rfl⟩ : ∃ j, fuel = j + 1 := ⟨fuel - 1, by omega⟩
    have e : f_Encoder_sendOthers_wr_L5 (zI (l : Nat)) (zI (pl : Nat)) nco co (zI (b : Nat)) nb kp rt er vw N (fuel + 1) (zI z, zI k, sb, pa, fi, le, la, zI run, zI (held.length : Nat)) = f_Encoder_sendOthers_wr_L5b (zI (l : Nat)) (zI (pl : Nat)) nco co (zI (b : Nat)) nb kp rt er vw N (f_Encoder_sendOthers_wr_L5 (zI (l : Nat)) (zI (pl : Nat)) nco co (zI (b : Nat)) nb kp rt er vw N fuel) (zI z) (zI k) sb pa fi le la (zI run) (zI (held.length : Nat)) := rfl
    rw [e]
    unfold f_Encoder_sendOthers_wr_L5b
    simp (disch := omega) only [zI_lit, zI_ofNat, zI_nI, zI_neg, zI_add, zI_sub, zI_mul, zI_lt, zI_le, zI_eq, zI_cl, zI_div, zI_shr, zI_shl, zI_and1, zI_and7, zI_and15, zI_and255, if_pos, if_neg, Option.bind_some, Option.bind_none, if_true, if_false, true_or, or_true, Int.toNat_natCast, pk_us]
    refine ⟨_, _, _, _, _, rfl, ?_⟩
    show rWr Lc Vc kp nb sb0 (es ++ []) sb pa fi le la
    rw [List.append_nil]
    exact h
  | j + 1, k, fuel, run, held, z, es, sb, pa, fi, le, la, hk, hz, hf, hR, her, hB, h => by
    obtain ⟨fuel, rfl⟩ : ∃ j, fuel = j + 1 := ⟨fuel - 1, by omega⟩
    subst hrt
    obtain ⟨c1, c2, c3, c4⟩ := hC k (by omega)
    have e : f_Encoder_sendOthers_wr_L5 (zI (l : Nat)) (zI (pl : Nat)) nco co (zI (b : Nat)) nb kp (zI t) er vw N (fuel + 1) (zI z, zI k, sb, pa, fi, le, la, zI run, zI (held.length : Nat)) = f_Encoder_sendOthers_wr_L5b (zI (l : Nat)) (zI (pl : Nat)) nco co (zI (b : Nat)) nb kp (zI t) er vw N (f_Encoder_sendOthers_wr_L5 (zI (l : Nat)) (zI (pl : Nat)) nco co (zI (b : Nat)) nb kp (zI t) er vw N fuel) (zI z) (zI k) sb pa fi le la (zI run) (zI (held.length : Nat)) := rfl
    have ek : zI (pl : Int) + zI (k : Int) = zI ((pl + k : Nat) : Int) := by rw [zI_add]; rfl
    have g1 : (zI ((pl + k : Nat) : Int)).toNatClampNeg = pl + k := by rw [zI_cl (by omega) (by omega), Int.toNat_natCast]
    have gi : ¬ (zI ((pl + k : Nat) : Int) < 0 ∨ nco ≤ pl + k) := by rw [zI_lit, zI_lt (by omega) (by omega) (by decide) (by decide)]; show ¬ (_ < (0 : Int) ∨ _); omega
    have gl : ¬ zI (l : Int) < zI (k : Int) := by rw [zI_lt (by omega) (by omega) (by omega) (by omega)]; omega
    have ek1 : zI (k : Int) + (1 : Int32) = zI ((k + 1 : Nat) : Int) := by rw [zI_lit, zI_add]; rfl
    have ha := amt_le (b := b) c3 (by omega : C k ≤ 1024)
    have hsz := szN_11 ha
    rw [e]
    unfold f_Encoder_sendOthers_wr_L5b f_Encoder_sendOthers_wr_J5_133 f_Encoder_sendOthers_wr_J5_140
    rw [if_neg gl, ek, g1, if_neg gi, c2, q_amt (C k) b (by omega) (by omega) hb, ek1]
    by_cases a0 : amt (C k) b = 0
    · have eo : othE C t b (j + 1) k run held z = othE C t b j (k + 1) run held (z + 1) := by
        show (if amt (C k) b = 0 then _ else _) = _
        rw [if_pos a0]
      rw [eo] at hB ⊢
      rw [if_pos (by rw [a0]; rfl)]
      have ez : zI (z : Int) + (1 : Int32) = zI ((z + 1 : Nat) : Int) := by rw [zI_lit, zI_add]; rfl
      rw [ez]
      exact q_oth_wr N hN hL hv hnb hnco hb hl hC ht rfl er j (k + 1) fuel run held (z + 1) es sb pa fi le la (by omega) (by omega) (by omega) hR her hB h
    · have eo : othE C t b (j + 1) k run held z = (srE t run held ++ (List.replicate (z / 16) (0, t, 240) ++ ((0, t, 16 * (z % 16) + szN (amt (C k) b)) :: (evB (if 0 < C k then (amt (C k) b : Int) else -(amt (C k) b : Int) - 1) (szN (amt (C k) b)) ++ (othE C t b j (k + 1) 0 [] 0).1))), (othE C t b j (k + 1) 0 [] 0).2) := by
        show (if amt (C k) b = 0 then _ else _) = _
        rw [if_neg a0]
      rw [eo] at hB ⊢
      simp only [List.length_append, List.length_cons, evB_len, List.length_replicate] at hB
      rw [if_neg (by rw [zI_lit, zI_eq (by omega) (by omega) (by decide) (by decide)]; show ¬ _ = (0 : Int); omega)]
      obtain ⟨sb2, pa2, fi2, le2, la2, w2, r2⟩ := q_sendRun_wr N hN hL hv hnb h (run := run) (held := held) (t := t) (rt := zI t) (by have := hR.1; omega) (by have := hR.2.1; omega) hR.2.2.1 hR.2.2.2 her (fun _ => ⟨ht, rfl⟩) (by omega)
      rw [w2]
      dsimp only [Option.bind_some]
      obtain ⟨sb3, pa3, fi3, le3, la3, w3, r3⟩ := q_zrl_wr N hN hL hv hnb ht (rfl : zI (t : Int) = zI t) (z / 16) z N _ sb2 pa2 fi2 le2 la2 rfl (by omega) (by omega) (by simp only [List.length_append]; omega) r2
      rw [w3]
      dsimp only [Option.bind_some]
      have q1 := (q_size N (by omega) ((amt (C k) b : Nat) : Int) (by omega) (by omega)).1
      rw [Int.natAbs_natCast] at q1
      rw [q1]
      dsimp only [Option.bind_some]
      have e2 : (16 : Int32) * zI ((z % 16 : Nat) : Int) + zI ((szN (amt (C k) b) : Nat) : Int) = zI ((16 * (z % 16) + szN (amt (C k) b) : Nat) : Int) := by rw [zI_lit, zI_mul, zI_add]; rfl
      rw [e2]
      obtain ⟨sb4, pa4, fi4, le4, la4, w4, r4⟩ := q_wWord N (by omega) hL hv hnb r3 t (16 * (z % 16) + szN (amt (C k) b)) ht (by omega) (by simp only [List.length_append, List.length_replicate]; omega)
      rw [w4]
      dsimp only [Option.bind_some]

      obtain ⟨sb5, pa5, fi5, le5, w5, r5⟩ := q_wBits N (by omega) hL hnb r4 (if 0 < C k then (amt (C k) b : Int) else -(amt (C k) b : Int) - 1) (by split <;> omega) (by split <;> omega) (szN (amt (C k) b)) (by omega) (by simp only [List.length_append, List.length_cons, List.length_nil, List.length_replicate]; omega)
      have fin : ∀ p : Int32, p = zI (if 0 < C k then (amt (C k) b : Int) else -(amt (C k) b : Int) - 1) → f_BitWriter_putBits N p.toInt64 (zI ((szN (amt (C k) b) : Nat) : Int)) nb sb4 kp pa4 fi4 le4 = some (sb5, pa5, fi5, le5) := fun p hp => by rw [hp]; exact w5
      obtain ⟨sb6, pa6, fi6, le6, la6, w6, r6⟩ := q_oth_wr N hN hL hv hnb hnco hb hl hC ht (rfl : zI (t : Int) = zI t) er j (k + 1) fuel 0 [] 0 _ sb5 pa5 fi5 le5 la4 (by omega) (by omega) (by omega) okR_0 (fun i hi => by simp at hi) (by simp only [List.length_append, List.length_cons, List.length_nil, List.length_replicate, evB_len]; omega) r5
      have w6' : f_Encoder_sendOthers_wr_L5 (zI (l : Nat)) (zI (pl : Nat)) nco co (zI (b : Nat)) nb kp (zI t) er vw N fuel ((0 : Int32), zI ((k + 1 : Nat) : Int), sb5, pa5, fi5, le5, la4, zI 0, zI 0) = _ := w6
      have es2 : es ++ srE t run held ++ List.replicate (z / 16) (0, t, 240) ++ [(0, t, 16 * (z % 16) + szN (amt (C k) b))] ++ evB (if 0 < C k then (amt (C k) b : Int) else -(amt (C k) b : Int) - 1) (szN (amt (C k) b)) ++ (othE C t b j (k + 1) 0 [] 0).1 = es ++ (srE t run held ++ (List.replicate (z / 16) (0, t, 240) ++ ((0, t, 16 * (z % 16) + szN (amt (C k) b)) :: (evB (if 0 < C k then (amt (C k) b : Int) else -(amt (C k) b : Int) - 1) (szN (amt (C k) b)) ++ (othE C t b j (k + 1) 0 [] 0).1)))) := by simp only [List.append_assoc, List.cons_append, List.nil_append]
      rw [es2] at r6
      by_cases cp : 0 < C k
      · rw [if_neg (by rw [zI_lit, zI_le (by omega) (by omega) (by decide) (by decide)]; show ¬ _ ≤ (0 : Int); omega), fin _ (by rw [if_pos cp])]
        dsimp only [Option.bind_some]
        rw [w6']
        exact ⟨_, _, _, _, _, rfl, r6⟩
      · rw [if_pos (by rw [zI_lit, zI_le (by omega) (by omega) (by decide) (by decide)]; show _ ≤ (0 : Int); omega), fin _ (by rw [if_neg cp, zI_neg, zI_lit, zI_sub])]
        dsimp only [Option.bind_some]
        rw [w6']
        exact ⟨_, _, _, _, _, rfl, r6⟩
