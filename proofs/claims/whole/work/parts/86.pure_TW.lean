/-! WRITING: the reference, refining -/
theorem q_Mamt {CC : Nat → Int} {T D O : Nat → Nat} {mb mco dt ot : Nat → Int32} {q : Nat × Nat} {b k : Nat} (hb : b ≤ 9) (hk : k ≤ 63) (hq : okBM CC T D O mb mco dt ot q) : f_M_amount (zI (q.1 : Nat)) (zI (q.2 : Nat)) (zI k) (zI b) mb mco = some (zI (amt (CC (64 * (T q.1 + q.2) + k)) b : Nat)) := by
  obtain ⟨q4, m1, m2, m3, m4, m5, m6⟩ := hq
  obtain ⟨k1, k2, k3, k4⟩ := m6 k hk
  unfold f_M_amount f_M_amount_J33
  rw [clN q.1 (by omega), m1, ixM, clN _ (by omega), k2, if_neg (inN _ _ q4 (by omega)), if_neg (inN _ _ k1 (by omega))]
  generalize CC (64 * (T q.1 + q.2) + k) = d at k3 k4 ⊢
  have h := q_amt d b (by omega) (by omega) hb
  by_cases c : 0 ≤ d
  · have c' : (0 : Int32) ≤ zI d := by rw [zI_lit, zI_le (by decide) (by decide) (by omega) (by omega)]; exact c
    rw [if_pos c'] at h ⊢
    rw [h]
  · have c' : ¬ (0 : Int32) ≤ zI d := by rw [zI_lit, zI_le (by decide) (by decide) (by omega) (by omega)]; exact c
    rw [if_neg c'] at h ⊢
    rw [show -(zI d) = 0 - zI d by rw [zI_lit, zI_sub, zI_neg]; congr 1; show -d = 0 - d; omega, h]
theorem q_Mln (N : Nat) (hN : 20000 ≤ N) {CC : Nat → Int} {T D O : Nat → Nat} {mb mco dt ot : Nat → Int32} {q : Nat × Nat} {b f l : Nat} (hb : b ≤ 9) (hl : l ≤ 63) (hfl : f ≤ l) (hq : okBM CC T D O mb mco dt ot q) : f_M_writeMore_L16 (zI l) (zI (q.1 : Nat)) (zI (q.2 : Nat)) (zI b) mb mco N N ((-1 : Int32), zI f) = some (zI (lnF (fun k => CC (64 * (T q.1 + q.2) + k)) b (l + 1 - f) f)) := by
  have := it_cnt1 (b := fun rec a => f_M_writeMore_L16b (zI l) (zI (q.1 : Nat)) (zI (q.2 : Nat)) (zI b) mb mco N rec a.1 a.2) (fun j => (zI (lnF (fun k => CC (64 * (T q.1 + q.2) + k)) b j f), zI ((f + j : Nat) : Int))) (zI (lnF (fun k => CC (64 * (T q.1 + q.2) + k)) b (l + 1 - f) f)) (l + 1 - f) (fun g j hj hg => by
    unfold f_M_writeMore_L16b f_M_writeMore_J16_44
    dsimp only
    have k34 := (hq.2.2.2.2.2.2 (f + j) (by omega)).2.2
    have ha := amt_le (b := b) k34.1 (by omega : CC (64 * (T q.1 + q.2) + (f + j)) ≤ 1024)
    rw [q_Mamt hb (by omega) hq, suN (f + j), if_neg (by rw [ltN (by omega) (by omega)]; omega)]
    dsimp only [Option.bind_some]
    have e2 : lnF (fun k => CC (64 * (T q.1 + q.2) + k)) b (j + 1) f = if amt (CC (64 * (T q.1 + q.2) + (f + j))) b = 1 then ((f + j : Nat) : Int) else lnF (fun k => CC (64 * (T q.1 + q.2) + k)) b j f := rfl
    rw [e2] at hg
    by_cases a1 : amt (CC (64 * (T q.1 + q.2) + (f + j))) b = 1
    · rw [if_pos a1] at hg
      rw [if_pos (by rw [a1]; rfl)]
      exact hg
    · rw [if_neg a1] at hg
      rw [if_neg (by rw [zI_lit, zI_eq (by omega) (by omega) (by decide) (by decide)]; show ¬ _ = (1 : Int); omega)]
      exact hg) (fun g => by
    unfold f_M_writeMore_L16b
    dsimp only
    rw [if_pos (by rw [ltN (by omega) (by omega)]; omega)]) N 0 (by omega) (by omega)
  exact this
set_option maxHeartbeats 1000000 in
theorem q_Mrz (N : Nat) (hN : 20000 ≤ N) {Lc Vc : Nat → Nat → Nat} (hL : okLV Lc Vc) {ln cd : Nat → Int32} (hc : rLC Lc Vc ln cd) {cm : Int32} {rb tc : Nat → Int32} {k t : Nat} {lw : Int} (hk : k ≤ 64) (hln : -1 ≤ lw ∧ lw ≤ 63) (ht : t < 8) : ∀ (q z fuel run : Nat) (held com : List Nat) (es : List (Nat × Nat × Nat)) (ou pa pd fa : Int32) (out tm : Nat → Int32), (if (k : Int) ≤ lw then z / 16 else 0) = q → z ≤ 64 → q < fuel → okR run held → com.length ≤ 64 → (∀ x, x ∈ com → x < 2) → rHeld rb held → rHeld tc com → rMo Lc Vc cm es ou pa pd fa out tm →
    ∃ ou1 pa1 pd1 fa1 out1 tm1, f_M_writeMore_L96 (zI lw) (zI k) (zI t) cm ln cd rb tc N fuel (zI z, ou, pa, pd, fa, zI run, zI (held.length : Nat), zI (com.length : Nat), out, tm) = some (zI (z - 16 * q : Nat), ou1, pa1, pd1, fa1, zI ((zrE t q run held com).2.1 : Nat), zI ((zrE t q run held com).2.2.1.length : Nat), zI ((zrE t q run held com).2.2.2.length : Nat), out1, tm1) ∧ rMo Lc Vc cm (es ++ (zrE t q run held com).1) ou1 pa1 pd1 fa1 out1 tm1
  | 0, z, fuel, run, held, com, es, ou, pa, pd, fa, out, tm, hq, hz, hf, hR, hcl, hc2, her, htc, h => by
    obtain ⟨fuel, rfl⟩ : ∃ j, fuel = j + 1 := ⟨fuel - 1, by omega⟩
    have e : f_M_writeMore_L96 (zI lw) (zI k) (zI t) cm ln cd rb tc N (fuel + 1) (zI z, ou, pa, pd, fa, zI run, zI (held.length : Nat), zI (com.length : Nat), out, tm) = f_M_writeMore_L96b (zI lw) (zI k) (zI t) cm ln cd rb tc N (f_M_writeMore_L96 (zI lw) (zI k) (zI t) cm ln cd rb tc N fuel) (zI z) ou pa pd fa (zI run) (zI (held.length : Nat)) (zI (com.length : Nat)) out tm := rfl
    rw [e]
    unfold f_M_writeMore_L96b
    refine ⟨ou, pa, pd, fa, out, tm, ?_, ?_⟩
    · by_cases c : z ≤ 15
      · rw [if_pos (by rw [zI_lit, zI_le (by omega) (by omega) (by decide) (by decide)]; show _ ≤ (15 : Int); omega)]
        rfl
      · rw [if_neg (by rw [zI_lit, zI_le (by omega) (by omega) (by decide) (by decide)]; show ¬ _ ≤ (15 : Int); omega)]
        have : lw < k := by
          rcases Int.lt_or_le lw k with h | h
          · exact h
          · rw [if_pos h] at hq; omega
        rw [if_pos (by rw [zI_lt (by omega) (by omega) (by omega) (by omega)]; omega)]
        rfl
    · show rMo Lc Vc cm (es ++ []) ou pa pd fa out tm
      rw [List.append_nil]; exact h
  | q + 1, z, fuel, run, held, com, es, ou, pa, pd, fa, out, tm, hq, hz, hf, hR, hcl, hc2, her, htc, h => by
    obtain ⟨fuel, rfl⟩ : ∃ j, fuel = j + 1 := ⟨fuel - 1, by omega⟩
    have hkl : (k : Int) ≤ lw := by
      rcases Int.lt_or_le lw k with h | h
      · rw [if_neg (by omega)] at hq; omega
      · exact h
    rw [if_pos hkl] at hq
    have eZ : zrE t (q + 1) run held com = (srE t run held ++ ((0, t, 240) :: ((com.map fun x => (1, x, 0)) ++ (zrE t q 0 [] []).1)), (zrE t q 0 [] []).2) := rfl
    rw [eZ]
    obtain ⟨ou2, pa2, pd2, fa2, out2, tm2, w2, r2⟩ := q_MRun N hN hL hc h (run := run) (held := held) (t := t) (by have := hR.1; omega) (by have := hR.2.1; omega) hR.2.2.1 hR.2.2.2 her ht
    obtain ⟨ou3, pa3, pd3, fa3, out3, tm3, w3, r3⟩ := q_MoWord N (by omega) hL hc r2 t 240 ht (by omega)
    obtain ⟨ou4, pa4, pd4, fa4, out4, w4, r4⟩ := q_Mcom N hN hL htc hc2 (by omega) r3
    obtain ⟨ou5, pa5, pd5, fa5, out5, tm5, w5, r5⟩ := q_Mrz N hN hL hc (rb := rb) (tc := tc) hk hln ht q (z - 16) fuel 0 [] [] _ ou4 pa4 pd4 fa4 out4 tm3 (by rw [if_pos hkl]; omega) (by omega) (by omega) okR_0 (by simp) (fun x hx => by simp at hx) (fun i hi => by simp at hi) (fun i hi => by simp at hi) r4
    have e : f_M_writeMore_L96 (zI lw) (zI k) (zI t) cm ln cd rb tc N (fuel + 1) (zI z, ou, pa, pd, fa, zI run, zI (held.length : Nat), zI (com.length : Nat), out, tm) = f_M_writeMore_L96b (zI lw) (zI k) (zI t) cm ln cd rb tc N (f_M_writeMore_L96 (zI lw) (zI k) (zI t) cm ln cd rb tc N fuel) (zI z) ou pa pd fa (zI run) (zI (held.length : Nat)) (zI (com.length : Nat)) out tm := rfl
    have e2 : zI (z : Int) + (-16 : Int32) = zI ((z - 16 : Nat) : Int) := by rw [show (-16 : Int32) = zI (-16) from rfl, zI_add]; congr 1; omega
    rw [e]
    unfold f_M_writeMore_L96b
    rw [if_neg (by rw [zI_lit, zI_le (by omega) (by omega) (by decide) (by decide)]; show ¬ _ ≤ (15 : Int); omega), if_neg (by rw [zI_lt (by omega) (by omega) (by omega) (by omega)]; omega), w2]
    dsimp only [Option.bind_some]
    rw [show f_M_word N (zI t) (240 : Int32) ou2 pa2 pd2 fa2 cm ln cd out2 tm2 = _ from w3]
    dsimp only [Option.bind_some]
    rw [w4]
    dsimp only [Option.bind_some]
    rw [e2, show f_M_writeMore_L96 (zI lw) (zI k) (zI t) cm ln cd rb tc N fuel (zI ((z - 16 : Nat) : Int), ou4, pa4, pd4, fa4, zI 0, zI 0, zI 0, out4, tm3) = _ from w5, show z - 16 - 16 * q = z - 16 * (q + 1) by omega]
    refine ⟨_, _, _, _, _, _, rfl, ?_⟩
    simp only [List.append_assoc, List.cons_append, List.nil_append] at r5 ⊢
    exact r5
set_option maxHeartbeats 4000000 in
theorem q_Mref (N : Nat) (hN : 20000 ≤ N) {Lc Vc : Nat → Nat → Nat} (hL : okLV Lc Vc) {ln cd : Nat → Int32} (hc : rLC Lc Vc ln cd) {cm : Int32} {CC : Nat → Int} {T D O : Nat → Nat} {mb mco dt ot rb : Nat → Int32} {qb : Nat × Nat} {b f l : Nat} {lw : Int} (hb : b ≤ 9) (hl : l ≤ 63) (hq : okBM CC T D O mb mco dt ot qb) (hln : -1 ≤ lw ∧ lw ≤ 63) (hlx : ∀ k, f ≤ k → k ≤ l → amt (CC (64 * (T qb.1 + qb.2) + k)) b = 1 → (k : Int) ≤ lw) : ∀ (j k fuel run : Nat) (held : List Nat) (z : Nat) (com : List Nat) (tc : Nat → Int32) (es : List (Nat × Nat × Nat)) (ou pa pd fa : Int32) (out tm : Nat → Int32), f ≤ k → k + j = l + 1 → z + j ≤ 63 → com.length + j ≤ 63 → j < fuel → okR run held → (∀ x, x ∈ com → x < 2) → rHeld rb held → rHeld tc com → rMo Lc Vc cm es ou pa pd fa out tm →
    ∃ ou1 pa1 pd1 fa1 out1 tm1 tc1, f_M_writeMore_L66 (zI l) (zI (qb.1 : Nat)) (zI (qb.2 : Nat)) (zI b) mb mco (zI lw) (zI (O qb.1 : Nat)) cm ln cd rb N fuel (zI z, zI k, ou, pa, pd, fa, zI run, zI (held.length : Nat), zI (com.length : Nat), out, tm, tc) = some (zI ((refE (fun k => CC (64 * (T qb.1 + qb.2) + k)) (O qb.1) b lw j k run held z com).2.2.2.1 : Nat), ou1, pa1, pd1, fa1, zI ((refE (fun k => CC (64 * (T qb.1 + qb.2) + k)) (O qb.1) b lw j k run held z com).2.1 : Nat), zI ((refE (fun k => CC (64 * (T qb.1 + qb.2) + k)) (O qb.1) b lw j k run held z com).2.2.1.length : Nat), zI ((refE (fun k => CC (64 * (T qb.1 + qb.2) + k)) (O qb.1) b lw j k run held z com).2.2.2.2.length : Nat), out1, tm1, tc1) ∧ rMo Lc Vc cm (es ++ (refE (fun k => CC (64 * (T qb.1 + qb.2) + k)) (O qb.1) b lw j k run held z com).1) ou1 pa1 pd1 fa1 out1 tm1 ∧ rHeld tc1 (refE (fun k => CC (64 * (T qb.1 + qb.2) + k)) (O qb.1) b lw j k run held z com).2.2.2.2
  | 0, k, fuel, run, held, z, com, tc, es, ou, pa, pd, fa, out, tm, hfk, hk, hz, hcl, hf, hR, hc2, her, htc, h => by
    obtain ⟨fuel, rfl⟩ : ∃ j, fuel = j + 1 := ⟨fuel - 1, by omega⟩
    have e : f_M_writeMore_L66 (zI l) (zI (qb.1 : Nat)) (zI (qb.2 : Nat)) (zI b) mb mco (zI lw) (zI (O qb.1 : Nat)) cm ln cd rb N (fuel + 1) (zI z, zI k, ou, pa, pd, fa, zI run, zI (held.length : Nat), zI (com.length : Nat), out, tm, tc) = f_M_writeMore_L66b (zI l) (zI (qb.1 : Nat)) (zI (qb.2 : Nat)) (zI b) mb mco (zI lw) (zI (O qb.1 : Nat)) cm ln cd rb N (f_M_writeMore_L66 (zI l) (zI (qb.1 : Nat)) (zI (qb.2 : Nat)) (zI b) mb mco (zI lw) (zI (O qb.1 : Nat)) cm ln cd rb N fuel) (zI z) (zI k) ou pa pd fa (zI run) (zI (held.length : Nat)) (zI (com.length : Nat)) out tm tc := rfl
    rw [e]
    unfold f_M_writeMore_L66b
    rw [if_pos (by rw [ltN (by omega) (by omega)]; omega)]
    refine ⟨_, _, _, _, _, _, _, rfl, ?_, htc⟩
    show rMo Lc Vc cm (es ++ []) ou pa pd fa out tm
    rw [List.append_nil]; exact h
  | j + 1, k, fuel, run, held, z, com, tc, es, ou, pa, pd, fa, out, tm, hfk, hk, hz, hcl, hf, hR, hc2, her, htc, h => by
    obtain ⟨fuel, rfl⟩ : ∃ j, fuel = j + 1 := ⟨fuel - 1, by omega⟩
    have hq' := hq
    obtain ⟨q4, m1, m2, m3, m4, m5, m6⟩ := hq
    obtain ⟨k1, k2, k3, k4⟩ := m6 k (by omega)
    have ha := amt_le (b := b) k3 (by omega : CC (64 * (T qb.1 + qb.2) + k) ≤ 1024)
    have e : f_M_writeMore_L66 (zI l) (zI (qb.1 : Nat)) (zI (qb.2 : Nat)) (zI b) mb mco (zI lw) (zI (O qb.1 : Nat)) cm ln cd rb N (fuel + 1) (zI z, zI k, ou, pa, pd, fa, zI run, zI (held.length : Nat), zI (com.length : Nat), out, tm, tc) = f_M_writeMore_L66b (zI l) (zI (qb.1 : Nat)) (zI (qb.2 : Nat)) (zI b) mb mco (zI lw) (zI (O qb.1 : Nat)) cm ln cd rb N (f_M_writeMore_L66 (zI l) (zI (qb.1 : Nat)) (zI (qb.2 : Nat)) (zI b) mb mco (zI lw) (zI (O qb.1 : Nat)) cm ln cd rb N fuel) (zI z) (zI k) ou pa pd fa (zI run) (zI (held.length : Nat)) (zI (com.length : Nat)) out tm tc := rfl
    rw [e]
    unfold f_M_writeMore_L66b f_M_writeMore_J66_133 f_M_writeMore_J66_211 f_M_writeMore_J66_221
    rw [q_Mamt hb (by omega) hq', suN k, if_neg (by rw [ltN (by omega) (by omega)]; omega)]
    dsimp only [Option.bind_some]
    by_cases a0 : amt (CC (64 * (T qb.1 + qb.2) + k)) b = 0
    · have eo : refE (fun k => CC (64 * (T qb.1 + qb.2) + k)) (O qb.1) b lw (j + 1) k run held z com = refE (fun k => CC (64 * (T qb.1 + qb.2) + k)) (O qb.1) b lw j (k + 1) run held (z + 1) com := by
        show (if amt (CC (64 * (T qb.1 + qb.2) + k)) b = 0 then _ else _) = _
        rw [if_pos a0]
      rw [eo, if_pos (by rw [a0]; rfl), suN z]
      exact q_Mref N hN hL hc hb hl hq' hln hlx j (k + 1) fuel run held (z + 1) com tc es ou pa pd fa out tm (by omega) (by omega) (by omega) (by omega) (by omega) hR hc2 her htc h
    · rw [if_neg (by rw [zI_lit, zI_eq (by omega) (by omega) (by decide) (by decide)]; show ¬ _ = (0 : Int); omega)]
      obtain ⟨q, hqq⟩ : ∃ q, (if (k : Int) ≤ lw then z / 16 else 0) = q := ⟨_, rfl⟩
      have hqz : 16 * q ≤ z := by rw [← hqq]; split <;> omega
      obtain ⟨zk1, zk2, zk3⟩ := zrE_ok (t := O qb.1) (q := q) hR hc2
      have herz : rHeld rb (zrE (O qb.1) q run held com).2.2.1 := by
        rcases zrE_run (O qb.1) q run held com with ⟨_, e⟩ | ⟨_, e⟩
        · rw [e]; exact her
        · rw [e]; exact fun i hi => by simp at hi
      have htcz : rHeld tc (zrE (O qb.1) q run held com).2.2.2 := by
        rcases zrE_run (O qb.1) q run held com with ⟨_, e⟩ | ⟨_, e⟩
        · rw [e]; exact htc
        · rw [e]; exact fun i hi => by simp at hi
      obtain ⟨ou2, pa2, pd2, fa2, out2, tm2, w2, r2⟩ := q_Mrz N hN hL hc (rb := rb) (tc := tc) (by omega : k ≤ 64) hln m5 q z N run held com es ou pa pd fa out tm hqq (by omega) (by omega) hR (by omega) hc2 her htc h
      rw [w2]
      dsimp only [Option.bind_some]
      by_cases a1 : 1 < amt (CC (64 * (T qb.1 + qb.2) + k)) b
      · have eo : refE (fun k => CC (64 * (T qb.1 + qb.2) + k)) (O qb.1) b lw (j + 1) k run held z com = ((zrE (O qb.1) q run held com).1 ++ (refE (fun k => CC (64 * (T qb.1 + qb.2) + k)) (O qb.1) b lw j (k + 1) (zrE (O qb.1) q run held com).2.1 (zrE (O qb.1) q run held com).2.2.1 (z - 16 * q) ((zrE (O qb.1) q run held com).2.2.2 ++ [amt (CC (64 * (T qb.1 + qb.2) + k)) b % 2])).1, (refE (fun k => CC (64 * (T qb.1 + qb.2) + k)) (O qb.1) b lw j (k + 1) (zrE (O qb.1) q run held com).2.1 (zrE (O qb.1) q run held com).2.2.1 (z - 16 * q) ((zrE (O qb.1) q run held com).2.2.2 ++ [amt (CC (64 * (T qb.1 + qb.2) + k)) b % 2])).2) := by
          rw [← hqq]
          show (if amt (CC (64 * (T qb.1 + qb.2) + k)) b = 0 then _ else _) = _
          rw [if_neg a0]
          dsimp only
          rw [if_pos a1]
        rw [eo, if_neg (by rw [zI_lit, zI_le (by omega) (by omega) (by decide) (by decide)]; show ¬ _ ≤ (1 : Int); omega), clN _ (by omega), if_neg (inN _ _ (by omega) (by omega))]
        have eb : vp_nar .byte ((zI ((amt (CC (64 * (T qb.1 + qb.2) + k)) b : Nat) : Int) &&& (1 : Int32)).toInt8.toInt32) = zI ((amt (CC (64 * (T qb.1 + qb.2) + k)) b % 2 : Nat) : Int) := by
          rw [pk_vb, zI_lit]
          show (zI ((amt (CC (64 * (T qb.1 + qb.2) + k)) b : Nat) : Int) &&& zI 1).toInt8.toInt32 = _
          rw [zI_and1, zI_byte (by omega) (by omega)]; rfl
        have el : zI (((zrE (O qb.1) q run held com).2.2.2.length : Nat) : Int) + (1 : Int32) = zI ((((zrE (O qb.1) q run held com).2.2.2 ++ [amt (CC (64 * (T qb.1 + qb.2) + k)) b % 2]).length : Nat) : Int) := by rw [List.length_append, zI_lit, zI_add]; rfl
        have htc3 : rHeld (upd tc (zrE (O qb.1) q run held com).2.2.2.length (zI ((amt (CC (64 * (T qb.1 + qb.2) + k)) b % 2 : Nat) : Int))) ((zrE (O qb.1) q run held com).2.2.2 ++ [amt (CC (64 * (T qb.1 + qb.2) + k)) b % 2]) := by
          intro i hi
          rw [List.length_append] at hi
          simp only [List.length_cons, List.length_nil] at hi
          by_cases ei : i = (zrE (O qb.1) q run held com).2.2.2.length
          · rw [ei, pk_us, List.getD_eq_getElem?_getD, List.getElem?_append_right (Nat.le_refl _), Nat.sub_self]; rfl
          · rw [pk_un ei, List.getD_eq_getElem?_getD, List.getElem?_append_left (by omega), ← List.getD_eq_getElem?_getD]
            exact htcz i (by omega)
        obtain ⟨ou3, pa3, pd3, fa3, out3, tm3, tc3, w3, r3, d3⟩ := q_Mref N hN hL hc (rb := rb) hb hl hq' hln hlx j (k + 1) fuel _ _ (z - 16 * q) _ _ _ ou2 pa2 pd2 fa2 out2 tm2 (by omega) (by omega) (by omega) (by rw [List.length_append]; simp only [List.length_cons, List.length_nil]; omega) (by omega) zk1 (fun x hx => by
          rw [List.mem_append, List.mem_singleton] at hx
          rcases hx with hx | rfl
          · exact zk2 x hx
          · omega) herz htc3 r2
        rw [el, eb, w3]
        rw [List.append_assoc] at r3
        exact ⟨_, _, _, _, _, _, _, rfl, r3, d3⟩
      · have am1 : amt (CC (64 * (T qb.1 + qb.2) + k)) b = 1 := by omega
        have hkl := hlx k hfk (by omega) am1
        have hz16 : z - 16 * q < 16 := by rw [if_pos hkl] at hqq; omega
        have eo : refE (fun k => CC (64 * (T qb.1 + qb.2) + k)) (O qb.1) b lw (j + 1) k run held z com = ((zrE (O qb.1) q run held com).1 ++ (srE (O qb.1) (zrE (O qb.1) q run held com).2.1 (zrE (O qb.1) q run held com).2.2.1 ++ ((0, O qb.1, 16 * (z - 16 * q) + 1) :: (1, (if CC (64 * (T qb.1 + qb.2) + k) < 0 then 0 else 1), 0) :: (((zrE (O qb.1) q run held com).2.2.2.map fun x => (1, x, 0)) ++ (refE (fun k => CC (64 * (T qb.1 + qb.2) + k)) (O qb.1) b lw j (k + 1) 0 [] 0 []).1))), (refE (fun k => CC (64 * (T qb.1 + qb.2) + k)) (O qb.1) b lw j (k + 1) 0 [] 0 []).2) := by
          rw [← hqq]
          show (if amt (CC (64 * (T qb.1 + qb.2) + k)) b = 0 then _ else _) = _
          rw [if_neg a0]
          dsimp only
          rw [if_neg a1]
        rw [eo, if_pos (by rw [zI_lit, zI_le (by omega) (by omega) (by decide) (by decide)]; show _ ≤ (1 : Int); omega)]
        obtain ⟨ou3, pa3, pd3, fa3, out3, tm3, w3, r3⟩ := q_MRun N hN hL hc r2 (run := (zrE (O qb.1) q run held com).2.1) (held := (zrE (O qb.1) q run held com).2.2.1) (t := O qb.1) (by have := zk1.1; omega) (by have := zk1.2.1; omega) zk1.2.2.1 zk1.2.2.2 herz m5
        rw [w3]
        dsimp only [Option.bind_some]
        have e2 : (16 : Int32) * zI ((z - 16 * q : Nat) : Int) + (1 : Int32) = zI ((16 * (z - 16 * q) + 1 : Nat) : Int) := by rw [zI_lit, zI_lit, zI_mul, zI_add]; rfl
        rw [e2]
        obtain ⟨ou4, pa4, pd4, fa4, out4, tm4, w4, r4⟩ := q_MoWord N (by omega) hL hc r3 (O qb.1) (16 * (z - 16 * q) + 1) m5 (by omega)
        rw [w4]
        dsimp only [Option.bind_some]
        rw [clN qb.1 (by omega), m1, ixM, clN _ (by omega), k2, if_neg (inN _ _ q4 (by omega)), if_neg (inN _ _ k1 (by omega))]
        obtain ⟨ou5, pa5, pd5, fa5, out5, w5, r5⟩ := q_MoBit hL r4 (if CC (64 * (T qb.1 + qb.2) + k) < 0 then 0 else 1) (by split <;> omega)
        obtain ⟨ou6, pa6, pd6, fa6, out6, w6, r6⟩ := q_Mcom N hN hL htcz zk2 (by omega) r5
        obtain ⟨ou7, pa7, pd7, fa7, out7, tm7, tc7, w7, r7, d7⟩ := q_Mref N hN hL hc (rb := rb) hb hl hq' hln hlx j (k + 1) fuel 0 [] 0 [] tc _ ou6 pa6 pd6 fa6 out6 tm4 (by omega) (by omega) (by omega) (by simp; omega) (by omega) okR_0 (fun x hx => by simp at hx) (fun i hi => by simp at hi) (fun i hi => by simp at hi) r6
        have w7' : f_M_writeMore_L66 (zI l) (zI (qb.1 : Nat)) (zI (qb.2 : Nat)) (zI b) mb mco (zI lw) (zI (O qb.1 : Nat)) cm ln cd rb N fuel ((0 : Int32), zI ((k + 1 : Nat) : Int), ou6, pa6, pd6, fa6, zI 0, zI 0, zI 0, out6, tm4, tc) = _ := w7
        simp only [List.append_assoc, List.cons_append, List.nil_append] at r7
        by_cases cn : CC (64 * (T qb.1 + qb.2) + k) < 0
        · rw [if_pos cn] at w5
          rw [if_neg (by rw [zI_lit, zI_le (by decide) (by decide) (by omega) (by omega)]; show ¬ (0 : Int) ≤ _; omega), show f_M_bit (0 : Int32) ou4 pa4 pd4 fa4 cm out4 = _ from w5]
          dsimp only [Option.bind_some]
          rw [w6]
          dsimp only [Option.bind_some]
          rw [w7']
          exact ⟨_, _, _, _, _, _, _, rfl, r7, d7⟩
        · rw [if_neg cn] at w5
          rw [if_pos (by rw [zI_lit, zI_le (by decide) (by decide) (by omega) (by omega)]; show (0 : Int) ≤ _; omega), show f_M_bit (1 : Int32) ou4 pa4 pd4 fa4 cm out4 = _ from w5]
          dsimp only [Option.bind_some]
          rw [w6]
          dsimp only [Option.bind_some]
          rw [w7']
          exact ⟨_, _, _, _, _, _, _, rfl, r7, d7⟩
