/-! WRITING: the encoder that writes, on -/
set_option maxHeartbeats 4000000 in
theorem q_ref_wr (N : Nat) (hN : 20000 ≤ N) {Lc Vc : Nat → Nat → Nat} (hL : okLV Lc Vc) {vw : Nat → Nat → Int32} (hv : rVw Lc Vc vw) {kp : Int32} {nb : Nat} {sb0 : Nat → Int32} (hnb : nb ≤ 16384) {er : Nat → Int32} {C : Nat → Int} {pl nco l b t : Nat} {co : Nat → Int32} {ln : Int} (hln : -1 ≤ ln ∧ ln ≤ 63) {f : Nat} (hlx : ∀ k, f ≤ k → k ≤ l → amt (C k) b = 1 → (k : Int) ≤ ln) (hnco : nco ≤ 12288) (hb : b ≤ 9) (hl : l ≤ 63) (hC : ∀ k, k ≤ 63 → pl + k < nco ∧ co (pl + k) = zI (C k) ∧ -1024 ≤ C k ∧ C k ≤ 1023) (ht : t < 8) : ∀ (j k fuel run : Nat) (held : List Nat) (z : Nat) (com : List Nat) (p : Int64) (es : List (Nat × Nat × Nat)) (sb : Nat → Int32) (pa fi le la : Int32), f ≤ k → k + j = l + 1 → z + j ≤ 63 → com.length + j ≤ 63 → j < fuel → okR run held → comOK p com → (∀ x, x ∈ com → x < 2) → rHeld er held → es.length + (refE C t b ln j k run held z com).1.length ≤ 50000000 → rWr Lc Vc kp nb sb0 (es) sb pa fi le la →
    ∃ sb1 pa1 fi1 le1 la1 p1, f_Encoder_refineOthers_wr_L23 (zI (l : Nat)) (zI (pl : Nat)) nco co (zI (b : Nat)) (zI ln) nb kp (zI t) er vw N fuel (zI z, p, zI (com.length : Nat), zI k, sb, pa, fi, le, la, zI run, zI (held.length : Nat)) = some (zI ((refE C t b ln j k run held z com).2.2.2.1 : Nat), p1, zI ((refE C t b ln j k run held z com).2.2.2.2.length : Nat), sb1, pa1, fi1, le1, la1, zI ((refE C t b ln j k run held z com).2.1 : Nat), zI ((refE C t b ln j k run held z com).2.2.1.length : Nat)) ∧ rWr Lc Vc kp nb sb0 (es ++ (refE C t b ln j k run held z com).1) sb1 pa1 fi1 le1 la1 ∧ comOK p1 (refE C t b ln j k run held z com).2.2.2.2
  | 0, k, fuel, run, held, z, com, p, es, sb, pa, fi, le, la, hfk, hk, hz, hcl, hf, hR, hc, hc2, her, hB, h => by
    obtain ⟨fuel, rfl⟩ : ∃ j, fuel = j + 1 := ⟨fuel - 1, by omega⟩
    have e : f_Encoder_refineOthers_wr_L23 (zI (l : Nat)) (zI (pl : Nat)) nco co (zI (b : Nat)) (zI ln) nb kp (zI t) er vw N (fuel + 1) (zI z, p, zI (com.length : Nat), zI k, sb, pa, fi, le, la, zI run, zI (held.length : Nat)) = f_Encoder_refineOthers_wr_L23b (zI (l : Nat)) (zI (pl : Nat)) nco co (zI (b : Nat)) (zI ln) nb kp (zI t) er vw N (f_Encoder_refineOthers_wr_L23 (zI (l : Nat)) (zI (pl : Nat)) nco co (zI (b : Nat)) (zI ln) nb kp (zI t) er vw N fuel) (zI z) p (zI (com.length : Nat)) (zI k) sb pa fi le la (zI run) (zI (held.length : Nat)) := rfl
    rw [e]
    unfold f_Encoder_refineOthers_wr_L23b
    rw [if_pos (by rw [zI_lt (by omega) (by omega) (by omega) (by omega)]; omega)]
    refine ⟨_, _, _, _, _, _, rfl, ?_, hc⟩
    show rWr Lc Vc kp nb sb0 (es ++ []) sb pa fi le la
    rw [List.append_nil]; exact h
  | j + 1, k, fuel, run, held, z, com, p, es, sb, pa, fi, le, la, hfk, hk, hz, hcl, hf, hR, hc, hc2, her, hB, h => by
    obtain ⟨fuel, rfl⟩ : ∃ j, fuel = j + 1 := ⟨fuel - 1, by omega⟩
    obtain ⟨c1, c2, c3, c4⟩ := hC k (by omega)
    have e : f_Encoder_refineOthers_wr_L23 (zI (l : Nat)) (zI (pl : Nat)) nco co (zI (b : Nat)) (zI ln) nb kp (zI t) er vw N (fuel + 1) (zI z, p, zI (com.length : Nat), zI k, sb, pa, fi, le, la, zI run, zI (held.length : Nat)) = f_Encoder_refineOthers_wr_L23b (zI (l : Nat)) (zI (pl : Nat)) nco co (zI (b : Nat)) (zI ln) nb kp (zI t) er vw N (f_Encoder_refineOthers_wr_L23 (zI (l : Nat)) (zI (pl : Nat)) nco co (zI (b : Nat)) (zI ln) nb kp (zI t) er vw N fuel) (zI z) p (zI (com.length : Nat)) (zI k) sb pa fi le la (zI run) (zI (held.length : Nat)) := rfl
    have ek : zI (pl : Int) + zI (k : Int) = zI ((pl + k : Nat) : Int) := by rw [zI_add]; rfl
    have g1 : (zI ((pl + k : Nat) : Int)).toNatClampNeg = pl + k := by rw [zI_cl (by omega) (by omega), Int.toNat_natCast]
    have gi : ¬ (zI ((pl + k : Nat) : Int) < 0 ∨ nco ≤ pl + k) := by rw [zI_lit, zI_lt (by omega) (by omega) (by decide) (by decide)]; show ¬ (_ < (0 : Int) ∨ _); omega
    have gl : ¬ zI (l : Int) < zI (k : Int) := by rw [zI_lt (by omega) (by omega) (by omega) (by omega)]; omega
    have ek1 : zI (k : Int) + (1 : Int32) = zI ((k + 1 : Nat) : Int) := by rw [zI_lit, zI_add]; rfl
    have ha := amt_le (b := b) c3 (by omega : C k ≤ 1024)
    rw [e]
    unfold f_Encoder_refineOthers_wr_L23b f_Encoder_refineOthers_wr_J23_125 f_Encoder_refineOthers_wr_J23_184 f_Encoder_refineOthers_wr_J23_204
    rw [if_neg gl, ek, g1, if_neg gi, c2, q_amt (C k) b (by omega) (by omega) hb, ek1]
    by_cases a0 : amt (C k) b = 0
    · have eo : refE C t b ln (j + 1) k run held z com = refE C t b ln j (k + 1) run held (z + 1) com := by
        show (if amt (C k) b = 0 then _ else _) = _
        rw [if_pos a0]
      rw [eo] at hB ⊢
      rw [if_pos (by rw [a0]; rfl)]
      have ez : zI (z : Int) + (1 : Int32) = zI ((z + 1 : Nat) : Int) := by rw [zI_lit, zI_add]; rfl
      rw [ez]
      exact q_ref_wr N hN hL hv hnb hln hlx hnco hb hl hC ht j (k + 1) fuel run held (z + 1) com p es sb pa fi le la (by omega) (by omega) (by omega) (by omega) (by omega) hR hc hc2 her hB h
    · rw [if_neg (by rw [zI_lit, zI_eq (by omega) (by omega) (by decide) (by decide)]; show ¬ _ = (0 : Int); omega)]
      obtain ⟨q, hq⟩ : ∃ q, (if (k : Int) ≤ ln then z / 16 else 0) = q := ⟨_, rfl⟩
      have hqz : 16 * q ≤ z := by rw [← hq]; split <;> omega
      obtain ⟨zk1, zk2, zk3⟩ := zrE_ok (t := t) (q := q) hR hc2
      by_cases a1 : 1 < amt (C k) b
      · have eo : refE C t b ln (j + 1) k run held z com = ((zrE t q run held com).1 ++ (refE C t b ln j (k + 1) (zrE t q run held com).2.1 (zrE t q run held com).2.2.1 (z - 16 * q) ((zrE t q run held com).2.2.2 ++ [amt (C k) b % 2])).1, (refE C t b ln j (k + 1) (zrE t q run held com).2.1 (zrE t q run held com).2.2.1 (z - 16 * q) ((zrE t q run held com).2.2.2 ++ [amt (C k) b % 2])).2) := by
          rw [← hq]
          show (if amt (C k) b = 0 then _ else _) = _
          rw [if_neg a0]
          dsimp only
          rw [if_pos a1]
        rw [eo] at hB ⊢
        simp only [List.length_append] at hB
        obtain ⟨sb2, pa2, fi2, le2, la2, w2, r2⟩ := q_rz_wr N hN hL hv hnb (er := er) (p := p) (by omega : k ≤ 64) hln ht q z N run held com es sb pa fi le la hq (by omega) (by omega) hR hc hc2 her (by omega) h
        rw [w2]
        dsimp only [Option.bind_some]
        rw [if_neg (by rw [zI_lit, zI_le (by omega) (by omega) (by decide) (by decide)]; show ¬ _ ≤ (1 : Int); omega)]
        have hcz : comOK p (zrE t q run held com).2.2.2 := by
          rcases zrE_run t q run held com with ⟨_, e⟩ | ⟨_, e⟩
          · rw [e]; exact hc
          · rw [e]; exact comOK_nil p
        have hpush := comOK_push hcz (by omega) (amt (C k) b) (by omega)
        have herz : rHeld er (zrE t q run held com).2.2.1 := by
          rcases zrE_run t q run held com with ⟨_, e⟩ | ⟨_, e⟩
          · rw [e]; exact her
          · rw [e]; exact fun i hi => by simp at hi
        obtain ⟨sb3, pa3, fi3, le3, la3, p3, w3, r3, d3⟩ := q_ref_wr N hN hL hv hnb hln hlx hnco hb hl hC ht j (k + 1) fuel _ _ (z - 16 * q) _ _ _ sb2 pa2 fi2 le2 la2 (by omega) (by omega) (by omega) (by rw [List.length_append]; simp only [List.length_cons, List.length_nil]; omega) (by omega) zk1 hpush (fun x hx => by
          rw [List.mem_append, List.mem_singleton] at hx
          rcases hx with hx | rfl
          · exact zk2 x hx
          · omega) herz (by simp only [List.length_append]; omega) r2
        have el : zI ((((zrE t q run held com).2.2.2.length : Nat)) : Int) + (1 : Int32) = zI ((((zrE t q run held com).2.2.2 ++ [amt (C k) b % 2]).length : Nat) : Int) := by rw [List.length_append, zI_lit, zI_add]; rfl
        rw [el, w3]
        rw [List.append_assoc] at r3
        exact ⟨_, _, _, _, _, _, rfl, r3, d3⟩
      · have am1 : amt (C k) b = 1 := by omega
        have hkl := hlx k hfk (by omega) am1
        have hz16 : z - 16 * q < 16 := by rw [if_pos hkl] at hq; omega
        have eo : refE C t b ln (j + 1) k run held z com = ((zrE t q run held com).1 ++ (srE t (zrE t q run held com).2.1 (zrE t q run held com).2.2.1 ++ ((0, t, 16 * (z - 16 * q) + 1) :: (1, (if C k < 0 then 0 else 1), 0) :: (((zrE t q run held com).2.2.2.map fun x => (1, x, 0)) ++ (refE C t b ln j (k + 1) 0 [] 0 []).1))), (refE C t b ln j (k + 1) 0 [] 0 []).2) := by
          rw [← hq]
          show (if amt (C k) b = 0 then _ else _) = _
          rw [if_neg a0]
          dsimp only
          rw [if_neg a1]
        rw [eo] at hB ⊢
        simp only [List.length_append, List.length_cons, List.length_map] at hB
        obtain ⟨sb2, pa2, fi2, le2, la2, w2, r2⟩ := q_rz_wr N hN hL hv hnb (er := er) (p := p) (by omega : k ≤ 64) hln ht q z N run held com es sb pa fi le la hq (by omega) (by omega) hR hc hc2 her (by omega) h
        rw [w2]
        dsimp only [Option.bind_some]
        rw [if_pos (by rw [zI_lit, zI_le (by omega) (by omega) (by decide) (by decide)]; show _ ≤ (1 : Int); omega)]
        have hcz : comOK p (zrE t q run held com).2.2.2 := by
          rcases zrE_run t q run held com with ⟨_, e⟩ | ⟨_, e⟩
          · rw [e]; exact hc
          · rw [e]; exact comOK_nil p
        have herz : rHeld er (zrE t q run held com).2.2.1 := by
          rcases zrE_run t q run held com with ⟨_, e⟩ | ⟨_, e⟩
          · rw [e]; exact her
          · rw [e]; exact fun i hi => by simp at hi
        obtain ⟨sb3, pa3, fi3, le3, la3, w3, r3⟩ := q_sendRun_wr N hN hL hv hnb r2 (run := (zrE t q run held com).2.1) (held := (zrE t q run held com).2.2.1) (t := t) (rt := zI t) (by have := zk1.1; omega) (by have := zk1.2.1; omega) zk1.2.2.1 zk1.2.2.2 herz (fun _ => ⟨ht, rfl⟩) (by simp only [List.length_append]; omega)
        rw [w3]
        dsimp only [Option.bind_some]
        have e2 : (16 : Int32) * zI ((z - 16 * q : Nat) : Int) + (1 : Int32) = zI ((16 * (z - 16 * q) + 1 : Nat) : Int) := by rw [zI_lit, zI_lit, zI_mul, zI_add]; rfl
        rw [e2]
        obtain ⟨sb4, pa4, fi4, le4, la4, w4, r4⟩ := q_wWord N (by omega) hL hv hnb r3 t (16 * (z - 16 * q) + 1) ht (by omega) (by simp only [List.length_append]; omega)
        rw [w4]
        dsimp only [Option.bind_some]

        obtain ⟨sb5, pa5, fi5, le5, w5, r5⟩ := q_wBits N (by omega) hL hnb r4 (if C k < 0 then 0 else 1) (by split <;> omega) (by split <;> omega) 1 (by omega) (by simp only [List.length_append, List.length_cons, List.length_nil]; omega)
        have eb : evB (if C k < 0 then 0 else 1) 1 = [(1, (if C k < 0 then 0 else 1), 0)] := by split <;> rfl
        rw [eb] at r5
        obtain ⟨sb6, pa6, fi6, le6, w6, r6⟩ := q_wCom N (by omega) hL hnb r5 hcz zk2 (by simp only [List.length_append, List.length_cons, List.length_nil]; omega)
        obtain ⟨sb7, pa7, fi7, le7, la7, p7, w7, r7, d7⟩ := q_ref_wr N hN hL hv hnb (er := er) hln hlx hnco hb hl hC ht j (k + 1) fuel 0 [] 0 [] p _ sb6 pa6 fi6 le6 la4 (by omega) (by omega) (by omega) (by simp; omega) (by omega) okR_0 (comOK_nil p) (fun x hx => by simp at hx) (fun i hi => by simp at hi) (by simp only [List.length_append, List.length_cons, List.length_nil, List.length_map]; omega) r6
        have w7' : f_Encoder_refineOthers_wr_L23 (zI (l : Nat)) (zI (pl : Nat)) nco co (zI (b : Nat)) (zI ln) nb kp (zI t) er vw N fuel ((0 : Int32), p, (0 : Int32), zI ((k + 1 : Nat) : Int), sb6, pa6, fi6, le6, la4, zI 0, zI 0) = _ := w7
        have es2 : es ++ (zrE t q run held com).1 ++ srE t (zrE t q run held com).2.1 (zrE t q run held com).2.2.1 ++ [(0, t, 16 * (z - 16 * q) + 1)] ++ [(1, (if C k < 0 then 0 else 1), 0)] ++ ((zrE t q run held com).2.2.2.map fun x => (1, x, 0)) ++ (refE C t b ln j (k + 1) 0 [] 0 []).1 = es ++ ((zrE t q run held com).1 ++ (srE t (zrE t q run held com).2.1 (zrE t q run held com).2.2.1 ++ ((0, t, 16 * (z - 16 * q) + 1) :: (1, (if C k < 0 then 0 else 1), 0) :: (((zrE t q run held com).2.2.2.map fun x => (1, x, 0)) ++ (refE C t b ln j (k + 1) 0 [] 0 []).1)))) := by simp only [List.append_assoc, List.cons_append, List.nil_append]
        rw [es2] at r7
        by_cases cn : C k < 0
        · rw [if_pos cn] at w5
          have w5' : f_BitWriter_putBits N (0 : Int64) (1 : Int32) nb sb4 kp pa4 fi4 le4 = some (sb5, pa5, fi5, le5) := w5
          rw [if_neg (by rw [zI_lit, zI_le (by decide) (by decide) (by omega) (by omega)]; show ¬ (0 : Int) ≤ _; omega), w5']
          dsimp only [Option.bind_some]
          rw [w6]
          dsimp only [Option.bind_some]
          rw [w7']
          exact ⟨_, _, _, _, _, _, rfl, r7, d7⟩
        · rw [if_neg cn] at w5
          have w5' : f_BitWriter_putBits N (1 : Int64) (1 : Int32) nb sb4 kp pa4 fi4 le4 = some (sb5, pa5, fi5, le5) := w5
          rw [if_pos (by rw [zI_lit, zI_le (by decide) (by decide) (by omega) (by omega)]; show (0 : Int) ≤ _; omega), w5']
          dsimp only [Option.bind_some]
          rw [w6]
          dsimp only [Option.bind_some]
          rw [w7']
          exact ⟨_, _, _, _, _, _, rfl, r7, d7⟩

set_option maxHeartbeats 1000000 in
theorem q_so_wr (N : Nat) (hN : 20000 ≤ N) {Lc Vc : Nat → Nat → Nat} (hL : okLV Lc Vc) {vw : Nat → Nat → Int32} (hv : rVw Lc Vc vw) {kp : Int32} {nb : Nat} {sb0 : Nat → Int32} (hnb : nb ≤ 16384) {C : Nat → Int} {pl nco f l b t kd run : Nat} {held : List Nat} {co : Nat → Int32} (hnco : nco ≤ 12288) (hb : b ≤ 9) (hl : l ≤ 63) (hf1 : 1 ≤ f) (hfl : f ≤ l) (hC : ∀ k, k ≤ 63 → pl + k < nco ∧ co (pl + k) = zI (C k) ∧ -1024 ≤ C k ∧ C k ≤ 1023) (ht : t < 8) (hkd : kd = 0 ∨ kd = 3) (er : Nat → Int32) (hR : okR run held) (her : rHeld er held) {es : List (Nat × Nat × Nat)} {sb : Nat → Int32} {pa fi le la : Int32} (h : rWr Lc Vc kp nb sb0 (es) sb pa fi le la) (hB : es.length + (othE C t b (l + 1 - f) f run held 0).1.length + 1 ≤ 50000000) :
    ∃ sb1 pa1 fi1 le1 la1 er1, (othE C t b (l + 1 - f) f run held 0).2.2.2 = 0 ∧ f_Encoder_sendOthers_wr N (zI pl) (zI f) nco co (zI (kd : Nat)) (zI l) (zI b) nb sb kp pa fi le la (zI run) (zI (held.length : Nat)) (zI t) er vw = some (sb1, pa1, fi1, le1, la1, zI ((othE C t b (l + 1 - f) f run held 0).2.1 : Nat), zI ((othE C t b (l + 1 - f) f run held 0).2.2.1.length : Nat), er1) ∧ rWr Lc Vc kp nb sb0 (es ++ (othE C t b (l + 1 - f) f run held 0).1) sb1 pa1 fi1 le1 la1 ∧ er1 = er ∨
      0 < (othE C t b (l + 1 - f) f run held 0).2.2.2 ∧ kd = 0 ∧ f_Encoder_sendOthers_wr N (zI pl) (zI f) nco co (zI (kd : Nat)) (zI l) (zI b) nb sb kp pa fi le la (zI run) (zI (held.length : Nat)) (zI t) er vw = some (sb1, pa1, fi1, le1, la1, zI ((othE C t b (l + 1 - f) f run held 0).2.1 : Nat), zI ((othE C t b (l + 1 - f) f run held 0).2.2.1.length : Nat), er1) ∧ rWr Lc Vc kp nb sb0 (es ++ ((othE C t b (l + 1 - f) f run held 0).1 ++ [(0, t, 0)])) sb1 pa1 fi1 le1 la1 ∧ er1 = er ∨
      0 < (othE C t b (l + 1 - f) f run held 0).2.2.2 ∧ kd = 3 ∧ f_Encoder_sendOthers_wr N (zI pl) (zI f) nco co (zI (kd : Nat)) (zI l) (zI b) nb sb kp pa fi le la (zI run) (zI (held.length : Nat)) (zI t) er vw = some (sb1, pa1, fi1, le1, la1, zI ((othE C t b (l + 1 - f) f run held 0).2.1 + 1 : Nat), zI ((othE C t b (l + 1 - f) f run held 0).2.2.1.length : Nat), er1) ∧ rWr Lc Vc kp nb sb0 (es ++ (othE C t b (l + 1 - f) f run held 0).1) sb1 pa1 fi1 le1 la1 ∧ (rHeld er (othE C t b (l + 1 - f) f run held 0).2.2.1 → rHeld er1 (othE C t b (l + 1 - f) f run held 0).2.2.1) := by
  obtain ⟨sb2, pa2, fi2, le2, la2, w2, r2⟩ := q_oth_wr N hN hL hv hnb hnco hb hl hC ht (rfl : zI (t : Int) = zI t) er (l + 1 - f) f N run held 0 es sb pa fi le la (by omega) (by omega) (by omega) hR her (by omega) h
  have w2' : f_Encoder_sendOthers_wr_L5 (zI (l : Nat)) (zI (pl : Nat)) nco co (zI (b : Nat)) nb kp (zI t) er vw N N ((0 : Int32), zI f, sb, pa, fi, le, la, zI run, zI (held.length : Nat)) = _ := w2
  have hz := (othE_run C t b (l + 1 - f) f run held 0).2
  have hoR := othE_ok (C := C) (t := t) (b := b) (j := l + 1 - f) (k := f) (z := 0) hR
  unfold f_Encoder_sendOthers_wr f_Encoder_sendOthers_wr_J175
  rw [w2']
  dsimp only [Option.bind_some]
  generalize (othE C t b (l + 1 - f) f run held 0) = O at *
  obtain ⟨oe, orun, oheld, oz⟩ := O
  dsimp only at *
  by_cases z0 : oz = 0
  · subst z0
    rw [if_pos (show zI ((0 : Nat) : Int) ≤ 0 by decide), if_pos (show zI ((0 : Nat) : Int) ≤ 0 by decide)]
    exact ⟨_, _, _, _, _, _, Or.inl ⟨rfl, rfl, r2, rfl⟩⟩
  · have gz : ¬ zI ((oz : Nat) : Int) ≤ 0 := by rw [zI_lit, zI_le (by omega) (by omega) (by decide) (by decide)]; show ¬ _ ≤ (0 : Int); omega
    rw [if_neg gz, if_neg gz]
    rcases hkd with rfl | rfl
    · rw [if_pos (show zI ((0 : Nat) : Int) = (0 : Int32) from rfl)]
      obtain ⟨sb3, pa3, fi3, le3, la3, w3, r3⟩ := q_wWord N (by omega) hL hv hnb r2 t (0) ht (by omega) (by simp only [List.length_append]; omega)
      have w3' : f_BitWriter_putWord N (zI t) (0 : Int32) nb sb2 kp pa2 fi2 le2 la2 vw = some (sb3, pa3, fi3, le3, la3) := w3
      rw [w3']
      rw [List.append_assoc] at r3
      exact ⟨_, _, _, _, _, _, Or.inr (Or.inl ⟨by omega, rfl, rfl, r3, rfl⟩)⟩
    · rw [if_neg (show ¬ zI ((3 : Nat) : Int) = (0 : Int32) by decide)]
      obtain ⟨er1, l1, l2⟩ := q_len_wr N hN (p := (0 : Int64)) (com := []) (held := oheld) (run := orun) (comOK_nil _) hoR.2.1 er
      rw [List.append_nil] at l1 l2
      have l1' : f_Encoder_lengthenRun_wr N (0 : Int64) (0 : Int32) (zI orun) (zI (oheld.length : Nat)) er = some (zI (orun + 1 : Nat), zI (oheld.length : Nat), er1) := l1
      rw [l1']
      exact ⟨_, _, _, _, _, er1, Or.inr (Or.inr ⟨by omega, rfl, rfl, r2, l2⟩)⟩

