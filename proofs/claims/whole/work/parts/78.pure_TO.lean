/-! WRITING: the encoder that counts, on -/
set_option maxHeartbeats 4000000 in
theorem q_ref_cnt (N : Nat) (hN : 20000 ≤ N) {C : Nat → Int} {pl nco l b t : Nat} {co : Nat → Int32} {ln : Int} (hln : -1 ≤ ln ∧ ln ≤ 63) {f : Nat} (hlx : ∀ k, f ≤ k → k ≤ l → amt (C k) b = 1 → (k : Int) ≤ ln) (hnco : nco ≤ 12288) (hb : b ≤ 9) (hl : l ≤ 63) (hC : ∀ k, k ≤ 63 → pl + k < nco ∧ co (pl + k) = zI (C k) ∧ -1024 ≤ C k ∧ C k ≤ 1023) (ht : t < 8) : ∀ (j k fuel run : Nat) (held : List Nat) (z : Nat) (com : List Nat) (p : Int64) (es : List (Nat × Nat × Nat)) (tot : Int32) (ct : Nat → Int32), f ≤ k → k + j = l + 1 → z + j ≤ 63 → com.length + j ≤ 63 → j < fuel → okR run held → comOK p com → (∀ x, x ∈ com → x < 2) → rCnt (es) tot ct →
    ∃ tot1 ct1 p1, f_Encoder_refineOthers_cnt_L23 (zI (l : Nat)) (zI (pl : Nat)) nco co (zI (b : Nat)) (zI ln) (zI t) N fuel (zI z, p, zI (com.length : Nat), zI k, tot, ct, zI run, zI (held.length : Nat)) = some (zI ((refE C t b ln j k run held z com).2.2.2.1 : Nat), p1, zI ((refE C t b ln j k run held z com).2.2.2.2.length : Nat), tot1, ct1, zI ((refE C t b ln j k run held z com).2.1 : Nat), zI ((refE C t b ln j k run held z com).2.2.1.length : Nat)) ∧ rCnt (es ++ (refE C t b ln j k run held z com).1) tot1 ct1 ∧ comOK p1 (refE C t b ln j k run held z com).2.2.2.2
  | 0, k, fuel, run, held, z, com, p, es, tot, ct, hfk, hk, hz, hcl, hf, hR, hc, hc2, h => by
    obtain ⟨fuel, rfl⟩ : ∃ j, fuel = j + 1 := ⟨fuel - 1, by omega⟩
    have e : f_Encoder_refineOthers_cnt_L23 (zI (l : Nat)) (zI (pl : Nat)) nco co (zI (b : Nat)) (zI ln) (zI t) N (fuel + 1) (zI z, p, zI (com.length : Nat), zI k, tot, ct, zI run, zI (held.length : Nat)) = f_Encoder_refineOthers_cnt_L23b (zI (l : Nat)) (zI (pl : Nat)) nco co (zI (b : Nat)) (zI ln) (zI t) N (f_Encoder_refineOthers_cnt_L23 (zI (l : Nat)) (zI (pl : Nat)) nco co (zI (b : Nat)) (zI ln) (zI t) N fuel) (zI z) p (zI (com.length : Nat)) (zI k) tot ct (zI run) (zI (held.length : Nat)) := rfl
    rw [e]
    unfold f_Encoder_refineOthers_cnt_L23b
    rw [if_pos (by rw [zI_lt (by omega) (by omega) (by omega) (by omega)]; omega)]
    refine ⟨_, _, _, rfl, ?_, hc⟩
    show rCnt (es ++ []) tot ct
    rw [List.append_nil]; exact h
  | j + 1, k, fuel, run, held, z, com, p, es, tot, ct, hfk, hk, hz, hcl, hf, hR, hc, hc2, h => by
    obtain ⟨fuel, rfl⟩ : ∃ j, fuel = j + 1 := ⟨fuel - 1, by omega⟩
    obtain ⟨c1, c2, c3, c4⟩ := hC k (by omega)
    have e : f_Encoder_refineOthers_cnt_L23 (zI (l : Nat)) (zI (pl : Nat)) nco co (zI (b : Nat)) (zI ln) (zI t) N (fuel + 1) (zI z, p, zI (com.length : Nat), zI k, tot, ct, zI run, zI (held.length : Nat)) = f_Encoder_refineOthers_cnt_L23b (zI (l : Nat)) (zI (pl : Nat)) nco co (zI (b : Nat)) (zI ln) (zI t) N (f_Encoder_refineOthers_cnt_L23 (zI (l : Nat)) (zI (pl : Nat)) nco co (zI (b : Nat)) (zI ln) (zI t) N fuel) (zI z) p (zI (com.length : Nat)) (zI k) tot ct (zI run) (zI (held.length : Nat)) := rfl
    have ek : zI (pl : Int) + zI (k : Int) = zI ((pl + k : Nat) : Int) := by rw [zI_add]; rfl
    have g1 : (zI ((pl + k : Nat) : Int)).toNatClampNeg = pl + k := by rw [zI_cl (by omega) (by omega), Int.toNat_natCast]
    have gi : ¬ (zI ((pl + k : Nat) : Int) < 0 ∨ nco ≤ pl + k) := by rw [zI_lit, zI_lt (by omega) (by omega) (by decide) (by decide)]; show ¬ (_ < (0 : Int) ∨ _); omega
    have gl : ¬ zI (l : Int) < zI (k : Int) := by rw [zI_lt (by omega) (by omega) (by omega) (by omega)]; omega
    have ek1 : zI (k : Int) + (1 : Int32) = zI ((k + 1 : Nat) : Int) := by rw [zI_lit, zI_add]; rfl
    have ha := amt_le (b := b) c3 (by omega : C k ≤ 1024)
    rw [e]
    unfold f_Encoder_refineOthers_cnt_L23b f_Encoder_refineOthers_cnt_J23_125 f_Encoder_refineOthers_cnt_J23_184 f_Encoder_refineOthers_cnt_J23_204
    rw [if_neg gl, ek, g1, if_neg gi, c2, q_amt (C k) b (by omega) (by omega) hb, ek1]
    by_cases a0 : amt (C k) b = 0
    · have eo : refE C t b ln (j + 1) k run held z com = refE C t b ln j (k + 1) run held (z + 1) com := by
        show (if amt (C k) b = 0 then _ else _) = _
        rw [if_pos a0]
      rw [eo] 
      rw [if_pos (by rw [a0]; rfl)]
      have ez : zI (z : Int) + (1 : Int32) = zI ((z + 1 : Nat) : Int) := by rw [zI_lit, zI_add]; rfl
      rw [ez]
      exact q_ref_cnt N hN hln hlx hnco hb hl hC ht j (k + 1) fuel run held (z + 1) com p es tot ct (by omega) (by omega) (by omega) (by omega) (by omega) hR hc hc2 h
    · rw [if_neg (by rw [zI_lit, zI_eq (by omega) (by omega) (by decide) (by decide)]; show ¬ _ = (0 : Int); omega)]
      obtain ⟨q, hq⟩ : ∃ q, (if (k : Int) ≤ ln then z / 16 else 0) = q := ⟨_, rfl⟩
      have hqz : 16 * q ≤ z := by rw [← hq]; split <;> omega
      obtain ⟨zk1, zk2, zk3⟩ := zrE_ok (t := t) (q := q) hR hc2
      by_cases a1 : 1 < amt (C k) b
      · have eo : refE C t b ln (j + 1) k run held z com = ((zrE t q run held com).1 ++ (refE C t b ln j (k + 1) (zrE t q run held com).2.1 (zrE t q run held com).2.2.1 (z - 16 * q) ((zrE t q run held com).2.2.2 ++ [amt (C k) b % 2])).1, (refE C t b ln j (k + 1) (zrE t q run held com).2.1 (zrE t q run held com).2.2.1 (z - 16 * q) ((zrE t q run held com).2.2.2 ++ [amt (C k) b % 2])).2) := by
          rw [← hq]
          show (if amt (C k) b = 0 then _ else _) = _
          rw [if_neg a0]
          dsimp only
          rw [if_pos a1]
        rw [eo] 
        
        obtain ⟨tot2, ct2, w2, r2⟩ := q_rz_cnt N hN (p := p) (by omega : k ≤ 64) hln ht q z N run held com es tot ct hq (by omega) (by omega) hR hc hc2 h
        rw [w2]
        dsimp only [Option.bind_some]
        rw [if_neg (by rw [zI_lit, zI_le (by omega) (by omega) (by decide) (by decide)]; show ¬ _ ≤ (1 : Int); omega)]
        have hcz : comOK p (zrE t q run held com).2.2.2 := by
          rcases zrE_run t q run held com with ⟨_, e⟩ | ⟨_, e⟩
          · rw [e]; exact hc
          · rw [e]; exact comOK_nil p
        have hpush := comOK_push hcz (by omega) (amt (C k) b) (by omega)
        
        obtain ⟨tot3, ct3, p3, w3, r3, d3⟩ := q_ref_cnt N hN hln hlx hnco hb hl hC ht j (k + 1) fuel _ _ (z - 16 * q) _ _ _ tot2 ct2 (by omega) (by omega) (by omega) (by rw [List.length_append]; simp only [List.length_cons, List.length_nil]; omega) (by omega) zk1 hpush (fun x hx => by
          rw [List.mem_append, List.mem_singleton] at hx
          rcases hx with hx | rfl
          · exact zk2 x hx
          · omega) r2
        have el : zI ((((zrE t q run held com).2.2.2.length : Nat)) : Int) + (1 : Int32) = zI ((((zrE t q run held com).2.2.2 ++ [amt (C k) b % 2]).length : Nat) : Int) := by rw [List.length_append, zI_lit, zI_add]; rfl
        rw [el, w3]
        rw [List.append_assoc] at r3
        exact ⟨_, _, _, rfl, r3, d3⟩
      · have am1 : amt (C k) b = 1 := by omega
        have hkl := hlx k hfk (by omega) am1
        have hz16 : z - 16 * q < 16 := by rw [if_pos hkl] at hq; omega
        have eo : refE C t b ln (j + 1) k run held z com = ((zrE t q run held com).1 ++ (srE t (zrE t q run held com).2.1 (zrE t q run held com).2.2.1 ++ ((0, t, 16 * (z - 16 * q) + 1) :: (1, (if C k < 0 then 0 else 1), 0) :: (((zrE t q run held com).2.2.2.map fun x => (1, x, 0)) ++ (refE C t b ln j (k + 1) 0 [] 0 []).1))), (refE C t b ln j (k + 1) 0 [] 0 []).2) := by
          rw [← hq]
          show (if amt (C k) b = 0 then _ else _) = _
          rw [if_neg a0]
          dsimp only
          rw [if_neg a1]
        rw [eo] 
        
        obtain ⟨tot2, ct2, w2, r2⟩ := q_rz_cnt N hN (p := p) (by omega : k ≤ 64) hln ht q z N run held com es tot ct hq (by omega) (by omega) hR hc hc2 h
        rw [w2]
        dsimp only [Option.bind_some]
        rw [if_pos (by rw [zI_lit, zI_le (by omega) (by omega) (by decide) (by decide)]; show _ ≤ (1 : Int); omega)]
        have hcz : comOK p (zrE t q run held com).2.2.2 := by
          rcases zrE_run t q run held com with ⟨_, e⟩ | ⟨_, e⟩
          · rw [e]; exact hc
          · rw [e]; exact comOK_nil p
        
        obtain ⟨tot3, ct3, w3, r3⟩ := q_sendRun_cnt N hN r2 (run := (zrE t q run held com).2.1) (held := (zrE t q run held com).2.2.1) (t := t) (rt := zI t) (by have := zk1.1; omega) (by have := zk1.2.1; omega) zk1.2.2.1 (fun _ => ⟨ht, rfl⟩)
        rw [w3]
        dsimp only [Option.bind_some]
        have e2 : (16 : Int32) * zI ((z - 16 * q : Nat) : Int) + (1 : Int32) = zI ((16 * (z - 16 * q) + 1 : Nat) : Int) := by rw [zI_lit, zI_lit, zI_mul, zI_add]; rfl
        rw [e2]
        obtain ⟨tot4, ct4, w4, r4⟩ := q_cWord r3 t (16 * (z - 16 * q) + 1) ht (by omega)
        rw [w4]
        dsimp only [Option.bind_some]

        have r5 := rCnt_skip r4 (l := [(1, (if C k < 0 then 0 else 1), 0)]) (fun e he => by simp only [List.mem_singleton] at he; subst he; simp)
        have r6 := rCnt_skip r5 (mapB_nw (zrE t q run held com).2.2.2)
        obtain ⟨tot7, ct7, p7, w7, r7, d7⟩ := q_ref_cnt N hN hln hlx hnco hb hl hC ht j (k + 1) fuel 0 [] 0 [] p _ tot4 ct4 (by omega) (by omega) (by omega) (by simp; omega) (by omega) okR_0 (comOK_nil p) (fun x hx => by simp at hx) r6
        have w7' : f_Encoder_refineOthers_cnt_L23 (zI (l : Nat)) (zI (pl : Nat)) nco co (zI (b : Nat)) (zI ln) (zI t) N fuel ((0 : Int32), p, (0 : Int32), zI ((k + 1 : Nat) : Int), tot4, ct4, zI 0, zI 0) = _ := w7
        have es2 : es ++ (zrE t q run held com).1 ++ srE t (zrE t q run held com).2.1 (zrE t q run held com).2.2.1 ++ [(0, t, 16 * (z - 16 * q) + 1)] ++ [(1, (if C k < 0 then 0 else 1), 0)] ++ ((zrE t q run held com).2.2.2.map fun x => (1, x, 0)) ++ (refE C t b ln j (k + 1) 0 [] 0 []).1 = es ++ ((zrE t q run held com).1 ++ (srE t (zrE t q run held com).2.1 (zrE t q run held com).2.2.1 ++ ((0, t, 16 * (z - 16 * q) + 1) :: (1, (if C k < 0 then 0 else 1), 0) :: (((zrE t q run held com).2.2.2.map fun x => (1, x, 0)) ++ (refE C t b ln j (k + 1) 0 [] 0 []).1)))) := by simp only [List.append_assoc, List.cons_append, List.nil_append]
        rw [es2] at r7
        dsimp only [Option.bind_some, f_Counter_putBits]
        rw [w7']
        split
        · exact ⟨_, _, _, rfl, r7, d7⟩
        · exact ⟨_, _, _, rfl, r7, d7⟩

set_option maxHeartbeats 1000000 in
theorem q_so_cnt (N : Nat) (hN : 20000 ≤ N) {C : Nat → Int} {pl nco f l b t kd run : Nat} {held : List Nat} {co : Nat → Int32} (hnco : nco ≤ 12288) (hb : b ≤ 9) (hl : l ≤ 63) (hf1 : 1 ≤ f) (hfl : f ≤ l) (hC : ∀ k, k ≤ 63 → pl + k < nco ∧ co (pl + k) = zI (C k) ∧ -1024 ≤ C k ∧ C k ≤ 1023) (ht : t < 8) (hkd : kd = 0 ∨ kd = 3) (er : Nat → Int32) (hR : okR run held) {es : List (Nat × Nat × Nat)} {tot : Int32} {ct : Nat → Int32} (h : rCnt (es) tot ct) :
    ∃ tot1 ct1 er1, (othE C t b (l + 1 - f) f run held 0).2.2.2 = 0 ∧ f_Encoder_sendOthers_cnt N (zI pl) (zI f) nco co (zI (kd : Nat)) (zI l) (zI b) tot ct (zI run) (zI (held.length : Nat)) (zI t) er = some (tot1, ct1, zI ((othE C t b (l + 1 - f) f run held 0).2.1 : Nat), zI ((othE C t b (l + 1 - f) f run held 0).2.2.1.length : Nat), er1) ∧ rCnt (es ++ (othE C t b (l + 1 - f) f run held 0).1) tot1 ct1 ∧ er1 = er ∨
      0 < (othE C t b (l + 1 - f) f run held 0).2.2.2 ∧ kd = 0 ∧ f_Encoder_sendOthers_cnt N (zI pl) (zI f) nco co (zI (kd : Nat)) (zI l) (zI b) tot ct (zI run) (zI (held.length : Nat)) (zI t) er = some (tot1, ct1, zI ((othE C t b (l + 1 - f) f run held 0).2.1 : Nat), zI ((othE C t b (l + 1 - f) f run held 0).2.2.1.length : Nat), er1) ∧ rCnt (es ++ ((othE C t b (l + 1 - f) f run held 0).1 ++ [(0, t, 0)])) tot1 ct1 ∧ er1 = er ∨
      0 < (othE C t b (l + 1 - f) f run held 0).2.2.2 ∧ kd = 3 ∧ f_Encoder_sendOthers_cnt N (zI pl) (zI f) nco co (zI (kd : Nat)) (zI l) (zI b) tot ct (zI run) (zI (held.length : Nat)) (zI t) er = some (tot1, ct1, zI ((othE C t b (l + 1 - f) f run held 0).2.1 + 1 : Nat), zI ((othE C t b (l + 1 - f) f run held 0).2.2.1.length : Nat), er1) ∧ rCnt (es ++ (othE C t b (l + 1 - f) f run held 0).1) tot1 ct1 ∧ (rHeld er (othE C t b (l + 1 - f) f run held 0).2.2.1 → rHeld er1 (othE C t b (l + 1 - f) f run held 0).2.2.1) := by
  obtain ⟨tot2, ct2, w2, r2⟩ := q_oth_cnt N hN hnco hb hl hC ht (rfl : zI (t : Int) = zI t) (l + 1 - f) f N run held 0 es tot ct (by omega) (by omega) (by omega) hR h
  have w2' : f_Encoder_sendOthers_cnt_L5 (zI (l : Nat)) (zI (pl : Nat)) nco co (zI (b : Nat)) (zI t) N N ((0 : Int32), zI f, tot, ct, zI run, zI (held.length : Nat)) = _ := w2
  have hz := (othE_run C t b (l + 1 - f) f run held 0).2
  have hoR := othE_ok (C := C) (t := t) (b := b) (j := l + 1 - f) (k := f) (z := 0) hR
  unfold f_Encoder_sendOthers_cnt f_Encoder_sendOthers_cnt_J175
  rw [w2']
  dsimp only [Option.bind_some]
  generalize (othE C t b (l + 1 - f) f run held 0) = O at *
  obtain ⟨oe, orun, oheld, oz⟩ := O
  dsimp only at *
  by_cases z0 : oz = 0
  · subst z0
    rw [if_pos (show zI ((0 : Nat) : Int) ≤ 0 by decide), if_pos (show zI ((0 : Nat) : Int) ≤ 0 by decide)]
    exact ⟨_, _, _, Or.inl ⟨rfl, rfl, r2, rfl⟩⟩
  · have gz : ¬ zI ((oz : Nat) : Int) ≤ 0 := by rw [zI_lit, zI_le (by omega) (by omega) (by decide) (by decide)]; show ¬ _ ≤ (0 : Int); omega
    rw [if_neg gz, if_neg gz]
    rcases hkd with rfl | rfl
    · rw [if_pos (show zI ((0 : Nat) : Int) = (0 : Int32) from rfl)]
      obtain ⟨tot3, ct3, w3, r3⟩ := q_cWord r2 t (0) ht (by omega)
      have w3' : f_Counter_putWord (zI t) (0 : Int32) tot2 ct2 = some (tot3, ct3) := w3
      rw [w3']
      rw [List.append_assoc] at r3
      exact ⟨_, _, _, Or.inr (Or.inl ⟨by omega, rfl, rfl, r3, rfl⟩)⟩
    · rw [if_neg (show ¬ zI ((3 : Nat) : Int) = (0 : Int32) by decide)]
      obtain ⟨er1, l1, l2⟩ := q_len_cnt N hN (p := (0 : Int64)) (com := []) (held := oheld) (run := orun) (comOK_nil _) hoR.2.1 er
      rw [List.append_nil] at l1 l2
      have l1' : f_Encoder_lengthenRun_cnt N (0 : Int64) (0 : Int32) (zI orun) (zI (oheld.length : Nat)) er = some (zI (orun + 1 : Nat), zI (oheld.length : Nat), er1) := l1
      rw [l1']
      exact ⟨_, _, er1, Or.inr (Or.inr ⟨by omega, rfl, rfl, r2, l2⟩)⟩

theorem ln_ge (C : Nat → Int) (b f l : Nat) (hfl : f ≤ l) : (-1 ≤ lnF C b (l + 1 - f) f ∧ lnF C b (l + 1 - f) f ≤ l) ∧ ∀ k, f ≤ k → k ≤ l → amt (C k) b = 1 → (k : Int) ≤ lnF C b (l + 1 - f) f := by
  have his := lnF_is C b f (l - f)
  rw [show l - f + 1 = l + 1 - f by omega, show f + (l - f) = l by omega] at his
  rcases his with ⟨h1, h2⟩ | ⟨y, h1, h2, h3, h4, h5⟩
  · exact ⟨by omega, fun k k1 k2 k3 => absurd k3 (h2 k k1 k2)⟩
  · refine ⟨by omega, fun k k1 k2 k3 => ?_⟩
    rcases Nat.lt_or_ge y k with h | h
    · exact absurd k3 (h5 k h k2)
    · omega
