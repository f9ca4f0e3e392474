/-! WRITING: the reference, others than direct ones -/
theorem ixM (x y k : Nat) : ((64 : Int32) * (zI (x : Int) + zI (y : Int))) + zI (k : Int) = zI ((64 * (x + y) + k : Nat) : Int) := by rw [zI_lit, zI_add, zI_mul, zI_add]; rfl
theorem clN (n : Nat) (h : n < 2147483648) : (zI ((n : Nat) : Int)).toNatClampNeg = n := by rw [zI_cl (by omega) (by omega), Int.toNat_natCast]
theorem inN (n m : Nat) (h : n < m) (h2 : n < 2147483648) : ¬ (zI ((n : Nat) : Int) < 0 ∨ m ≤ n) := by rw [zI_lit, zI_lt (by omega) (by omega) (by decide) (by decide)]; show ¬ (_ < (0 : Int) ∨ _); omega
theorem suN (n : Nat) : zI ((n : Nat) : Int) + (1 : Int32) = zI ((n + 1 : Nat) : Int) := by rw [zI_lit, zI_add]; rfl
theorem ltN {a b : Nat} (ha : a < 2147483648) (hb : b < 2147483648) : (zI (a : Int) < zI (b : Int)) = (a < b) := by rw [zI_lt (by omega) (by omega) (by omega) (by omega)]; simp
theorem leN {a b : Nat} (ha : a < 2147483648) (hb : b < 2147483648) : (zI (a : Int) ≤ zI (b : Int)) = (a ≤ b) := by rw [zI_le (by omega) (by omega) (by omega) (by omega)]; simp
theorem eqN {a b : Nat} (ha : a < 2147483648) (hb : b < 2147483648) : (zI (a : Int) = zI (b : Int)) = (a = b) := by rw [zI_eq (by omega) (by omega) (by omega) (by omega)]; exact propext ⟨fun h => by omega, fun h => by omega⟩
set_option maxHeartbeats 1000000 in
theorem q_Moth (N : Nat) (hN : 20000 ≤ N) {Lc Vc : Nat → Nat → Nat} (hL : okLV Lc Vc) {ln cd : Nat → Int32} (hc : rLC Lc Vc ln cd) {cm : Int32} {CC : Nat → Int} {T D O : Nat → Nat} {mb mco dt ot rb : Nat → Int32} {q : Nat × Nat} {b l : Nat} {bd : Nat} (hb : b ≤ 9) (hl : l ≤ 63) (hq : okBM CC T D O mb mco dt ot q) (hbd : bd ≤ 1) : ∀ (j k fuel run : Nat) (held : List Nat) (z : Nat) (es : List (Nat × Nat × Nat)) (ou pa pd fa : Int32) (out tm : Nat → Int32), k + j = l + 1 → z + j ≤ 64 → j < fuel → okR run held → (bd = 0 → run = 0) → rHeld rb held → rMo Lc Vc cm es ou pa pd fa out tm →
    ∃ ou1 pa1 pd1 fa1 out1 tm1, f_M_writeOthers_L28 (zI l) (zI (q.1 : Nat)) mb (zI (q.2 : Nat)) mco (zI b) (zI bd) (zI (O q.1 : Nat)) cm ln cd rb N fuel (zI z, zI k, ou, pa, pd, fa, zI run, zI (held.length : Nat), out, tm) = some (zI ((othE (fun k => CC (64 * (T q.1 + q.2) + k)) (O q.1) b j k run held z).2.2.2 : Nat), ou1, pa1, pd1, fa1, zI ((othE (fun k => CC (64 * (T q.1 + q.2) + k)) (O q.1) b j k run held z).2.1 : Nat), zI ((othE (fun k => CC (64 * (T q.1 + q.2) + k)) (O q.1) b j k run held z).2.2.1.length : Nat), out1, tm1) ∧ rMo Lc Vc cm (es ++ (othE (fun k => CC (64 * (T q.1 + q.2) + k)) (O q.1) b j k run held z).1) ou1 pa1 pd1 fa1 out1 tm1
  | 0, k, fuel, run, held, z, es, ou, pa, pd, fa, out, tm, hk, hz, hf, hR, h0, her, h => by
    obtain ⟨fuel, rfl⟩ : ∃ j, fuel = j + 1 := ⟨fuel - 1, by omega⟩
    have e : f_M_writeOthers_L28 (zI l) (zI (q.1 : Nat)) mb (zI (q.2 : Nat)) mco (zI b) (zI bd) (zI (O q.1 : Nat)) cm ln cd rb N (fuel + 1) (zI z, zI k, ou, pa, pd, fa, zI run, zI (held.length : Nat), out, tm) = f_M_writeOthers_L28b (zI l) (zI (q.1 : Nat)) mb (zI (q.2 : Nat)) mco (zI b) (zI bd) (zI (O q.1 : Nat)) cm ln cd rb N (f_M_writeOthers_L28 (zI l) (zI (q.1 : Nat)) mb (zI (q.2 : Nat)) mco (zI b) (zI bd) (zI (O q.1 : Nat)) cm ln cd rb N fuel) (zI z) (zI k) ou pa pd fa (zI run) (zI (held.length : Nat)) out tm := rfl
    rw [e]
    unfold f_M_writeOthers_L28b
    rw [if_pos (by rw [ltN (by omega) (by omega)]; omega)]
    refine ⟨_, _, _, _, _, _, rfl, ?_⟩
    show rMo Lc Vc cm (es ++ []) ou pa pd fa out tm
    rw [List.append_nil]
    exact h
  | j + 1, k, fuel, run, held, z, es, ou, pa, pd, fa, out, tm, hk, hz, hf, hR, h0, her, h => by
    obtain ⟨fuel, rfl⟩ : ∃ j, fuel = j + 1 := ⟨fuel - 1, by omega⟩
    have hq' := hq
    obtain ⟨q4, m1, m2, m3, m4, m5, m6⟩ := hq
    obtain ⟨k1, k2, k3, k4⟩ := m6 k (by omega)
    have e : f_M_writeOthers_L28 (zI l) (zI (q.1 : Nat)) mb (zI (q.2 : Nat)) mco (zI b) (zI bd) (zI (O q.1 : Nat)) cm ln cd rb N (fuel + 1) (zI z, zI k, ou, pa, pd, fa, zI run, zI (held.length : Nat), out, tm) = f_M_writeOthers_L28b (zI l) (zI (q.1 : Nat)) mb (zI (q.2 : Nat)) mco (zI b) (zI bd) (zI (O q.1 : Nat)) cm ln cd rb N (f_M_writeOthers_L28 (zI l) (zI (q.1 : Nat)) mb (zI (q.2 : Nat)) mco (zI b) (zI bd) (zI (O q.1 : Nat)) cm ln cd rb N fuel) (zI z) (zI k) ou pa pd fa (zI run) (zI (held.length : Nat)) out tm := rfl
    rw [e]
    unfold f_M_writeOthers_L28b f_M_writeOthers_J28_135
    rw [clN q.1 (by omega), m1, ixM, clN _ (by omega), k2, q_cut' _ b (by omega) (by omega) hb, suN k, if_neg (by rw [ltN (by omega) (by omega)]; omega), if_neg (inN _ _ q4 (by omega)), if_neg (inN _ _ k1 (by omega))]
    dsimp only [Option.bind_some]
    have ha := amt_le (b := b) k3 (by omega : CC (64 * (T q.1 + q.2) + k) ≤ 1024)
    have hsz := szN_11 ha
    by_cases a0 : amt (CC (64 * (T q.1 + q.2) + k)) b = 0
    · have eo : othE (fun k => CC (64 * (T q.1 + q.2) + k)) (O q.1) b (j + 1) k run held z = othE (fun k => CC (64 * (T q.1 + q.2) + k)) (O q.1) b j (k + 1) run held (z + 1) := by
        show (if amt (CC (64 * (T q.1 + q.2) + k)) b = 0 then _ else _) = _
        rw [if_pos a0]
      rw [eo, a0]
      rw [if_pos (by split <;> rfl), suN z]
      exact q_Moth N hN hL hc hb hl hq' hbd j (k + 1) fuel run held (z + 1) es ou pa pd fa out tm (by omega) (by omega) (by omega) hR h0 her h
    · have eo : othE (fun k => CC (64 * (T q.1 + q.2) + k)) (O q.1) b (j + 1) k run held z = (srE (O q.1) run held ++ (List.replicate (z / 16) (0, O q.1, 240) ++ ((0, O q.1, 16 * (z % 16) + szN (amt (CC (64 * (T q.1 + q.2) + k)) b)) :: (evB (if 0 < CC (64 * (T q.1 + q.2) + k) then (amt (CC (64 * (T q.1 + q.2) + k)) b : Int) else -(amt (CC (64 * (T q.1 + q.2) + k)) b : Int) - 1) (szN (amt (CC (64 * (T q.1 + q.2) + k)) b)) ++ (othE (fun k => CC (64 * (T q.1 + q.2) + k)) (O q.1) b j (k + 1) 0 [] 0).1))), (othE (fun k => CC (64 * (T q.1 + q.2) + k)) (O q.1) b j (k + 1) 0 [] 0).2) := by
        show (if amt (CC (64 * (T q.1 + q.2) + k)) b = 0 then _ else _) = _
        rw [if_neg a0]
      rw [eo]
      obtain ⟨v, hv⟩ : ∃ v : Int, (if 0 < CC (64 * (T q.1 + q.2) + k) then (amt (CC (64 * (T q.1 + q.2) + k)) b : Int) else -(amt (CC (64 * (T q.1 + q.2) + k)) b : Int)) = v := ⟨_, rfl⟩
      have v1 : v.natAbs = amt (CC (64 * (T q.1 + q.2) + k)) b := by rw [← hv]; split <;> omega
      have v2 : (if 0 < v then v else v - 1) = (if 0 < CC (64 * (T q.1 + q.2) + k) then (amt (CC (64 * (T q.1 + q.2) + k)) b : Int) else -(amt (CC (64 * (T q.1 + q.2) + k)) b : Int) - 1) := by
        rw [← hv]
        by_cases cp : 0 < CC (64 * (T q.1 + q.2) + k)
        · rw [if_pos cp, if_pos cp, if_pos (by omega)]
        · rw [if_neg cp, if_neg cp, if_neg (by omega)]
      have v3 : -1024 ≤ v ∧ v ≤ 1024 ∧ v ≠ 0 := by omega
      rw [hv, ← v2]
      rw [← v1] at hsz ⊢
      rw [if_neg (by rw [zI_lit, zI_eq (by omega) (by omega) (by decide) (by decide)]; show ¬ _ = (0 : Int); omega)]
      have tail : ∀ (es2 : List (Nat × Nat × Nat)) (ou2 pa2 pd2 fa2 : Int32) (out2 tm2 : Nat → Int32), rMo Lc Vc cm es2 ou2 pa2 pd2 fa2 out2 tm2 → ∃ ou1 pa1 pd1 fa1 out1 tm1, ((f_M_writeOthers_L87 (zI (O q.1 : Nat)) cm ln cd N N (zI z, ou2, pa2, pd2, fa2, out2, tm2)).bind fun z8 =>
          (f_M_sizeOf N (zI v)).bind fun z9 =>
        (f_M_word N (zI (O q.1 : Nat)) (((16 : Int32) * z8.1) + z9) z8.2.1 z8.2.2.1 z8.2.2.2.1 z8.2.2.2.2.1 cm ln cd z8.2.2.2.2.2.1 z8.2.2.2.2.2.2).bind fun z10 =>
        (f_M_number N (zI v) z10.1 z10.2.1 z10.2.2.1 z10.2.2.2.1 cm z10.2.2.2.2.1).bind fun z11 =>
        f_M_writeOthers_L28 (zI l) (zI (q.1 : Nat)) mb (zI (q.2 : Nat)) mco (zI b) (zI bd) (zI (O q.1 : Nat)) cm ln cd rb N fuel ((0 : Int32), zI ((k + 1 : Nat) : Int), z11.1, z11.2.1, z11.2.2.1, z11.2.2.2.1, zI 0, zI 0, z11.2.2.2.2, z10.2.2.2.2.2)) = some (zI ((othE (fun k => CC (64 * (T q.1 + q.2) + k)) (O q.1) b j (k + 1) 0 [] 0).2.2.2 : Nat), ou1, pa1, pd1, fa1, zI ((othE (fun k => CC (64 * (T q.1 + q.2) + k)) (O q.1) b j (k + 1) 0 [] 0).2.1 : Nat), zI ((othE (fun k => CC (64 * (T q.1 + q.2) + k)) (O q.1) b j (k + 1) 0 [] 0).2.2.1.length : Nat), out1, tm1) ∧ rMo Lc Vc cm (es2 ++ (List.replicate (z / 16) (0, O q.1, 240) ++ ((0, O q.1, 16 * (z % 16) + szN v.natAbs) :: (evB (if 0 < v then v else v - 1) (szN v.natAbs) ++ (othE (fun k => CC (64 * (T q.1 + q.2) + k)) (O q.1) b j (k + 1) 0 [] 0).1)))) ou1 pa1 pd1 fa1 out1 tm1 := by
        intro es2 ou2 pa2 pd2 fa2 out2 tm2 r2
        obtain ⟨ou3, pa3, pd3, fa3, out3, tm3, w3, r3⟩ := q_Mzrl N hN hL hc m5 (z / 16) z N _ ou2 pa2 pd2 fa2 out2 tm2 rfl (by omega) (by omega) r2
        rw [w3]
        dsimp only [Option.bind_some]
        have q1 := (q_size N (by omega) v (by omega) (by omega)).2
        rw [q1]
        dsimp only [Option.bind_some]
        have e2 : (16 : Int32) * zI ((z % 16 : Nat) : Int) + zI ((szN v.natAbs : Nat) : Int) = zI ((16 * (z % 16) + szN v.natAbs : Nat) : Int) := by rw [zI_lit, zI_mul, zI_add]; rfl
        rw [e2]
        obtain ⟨ou4, pa4, pd4, fa4, out4, tm4, w4, r4⟩ := q_MoWord N (by omega) hL hc r3 (O q.1) (16 * (z % 16) + szN v.natAbs) m5 (by omega)
        rw [w4]
        dsimp only [Option.bind_some]
        obtain ⟨ou5, pa5, pd5, fa5, out5, w5, r5⟩ := q_Mnum N hN hL v (by omega) (by omega) r4
        rw [w5]
        dsimp only [Option.bind_some]
        obtain ⟨ou6, pa6, pd6, fa6, out6, tm6, w6, r6⟩ := q_Moth N hN hL hc hb hl hq' hbd j (k + 1) fuel 0 [] 0 _ ou5 pa5 pd5 fa5 out5 tm4 (by omega) (by omega) (by omega) okR_0 (fun _ => rfl) (fun i hi => by simp at hi) r5
        rw [show f_M_writeOthers_L28 (zI l) (zI (q.1 : Nat)) mb (zI (q.2 : Nat)) mco (zI b) (zI bd) (zI (O q.1 : Nat)) cm ln cd rb N fuel ((0 : Int32), zI ((k + 1 : Nat) : Int), ou5, pa5, pd5, fa5, zI 0, zI 0, out5, tm4) = _ from w6]
        refine ⟨_, _, _, _, _, _, rfl, ?_⟩
        simp only [List.append_assoc, List.cons_append, List.nil_append] at r6 ⊢
        exact r6
      by_cases cb : bd = 0
      · obtain rfl := h0 cb
        obtain rfl := hR.2.2.1 rfl
        rw [if_pos (by rw [cb]; rfl), srE_0, List.nil_append]
        exact tail es ou pa pd fa out tm h
      · rw [if_neg (by rw [zI_lit, zI_eq (by omega) (by omega) (by decide) (by decide)]; show ¬ _ = (0 : Int); omega)]
        obtain ⟨ou2, pa2, pd2, fa2, out2, tm2, w2, r2⟩ := q_MRun N hN hL hc h (run := run) (held := held) (t := O q.1) (by have := hR.1; omega) (by have := hR.2.1; omega) hR.2.2.1 hR.2.2.2 her m5
        rw [w2]
        dsimp only [Option.bind_some]
        have := tail _ ou2 pa2 pd2 fa2 out2 tm2 r2
        rw [List.append_assoc] at this
        exact this
set_option maxHeartbeats 1000000 in
theorem q_MwO (N : Nat) (hN : 20000 ≤ N) {Lc Vc : Nat → Nat → Nat} (hL : okLV Lc Vc) {ln cd : Nat → Int32} (hc : rLC Lc Vc ln cd) {cm : Int32} {CC : Nat → Int} {T D O : Nat → Nat} {mb mco dt ot rb : Nat → Int32} {q : Nat × Nat} {b l f f0 : Nat} {run : Nat} {held : List Nat} (hb : b ≤ 9) (hl : l ≤ 63) (hf1 : 1 ≤ f) (hfl : f ≤ l) (hf0 : f0 ≤ 63) (hq : okBM CC T D O mb mco dt ot q) (hR : okR run held) (h0 : f0 = 0 → run = 0) (her : rHeld rb held) {es : List (Nat × Nat × Nat)} {ou pa pd fa : Int32} {out tm : Nat → Int32} (h : rMo Lc Vc cm es ou pa pd fa out tm) :
    ∃ ou1 pa1 pd1 fa1 out1 tm1 ev run1 held1, f_M_writeOthers N (zI (q.1 : Nat)) (zI (q.2 : Nat)) (zI f) (zI f0) (zI l) (zI b) ou pa pd fa cm (zI run) (zI (held.length : Nat)) mb mco ln cd ot out tm rb = some (ou1, pa1, pd1, fa1, zI (run1 : Nat), zI ((held1 : List Nat).length : Nat), out1, tm1) ∧ rMo Lc Vc cm (es ++ ev) ou1 pa1 pd1 fa1 out1 tm1 ∧
      ((othE (fun k => CC (64 * (T q.1 + q.2) + k)) (O q.1) b (l + 1 - f) f run held 0).2.2.2 = 0 ∧ ev = (othE (fun k => CC (64 * (T q.1 + q.2) + k)) (O q.1) b (l + 1 - f) f run held 0).1 ∧ run1 = (othE (fun k => CC (64 * (T q.1 + q.2) + k)) (O q.1) b (l + 1 - f) f run held 0).2.1 ∧ held1 = (othE (fun k => CC (64 * (T q.1 + q.2) + k)) (O q.1) b (l + 1 - f) f run held 0).2.2.1 ∨
       0 < (othE (fun k => CC (64 * (T q.1 + q.2) + k)) (O q.1) b (l + 1 - f) f run held 0).2.2.2 ∧ f0 = 0 ∧ ev = (othE (fun k => CC (64 * (T q.1 + q.2) + k)) (O q.1) b (l + 1 - f) f run held 0).1 ++ [(0, O q.1, 0)] ∧ run1 = (othE (fun k => CC (64 * (T q.1 + q.2) + k)) (O q.1) b (l + 1 - f) f run held 0).2.1 ∧ held1 = (othE (fun k => CC (64 * (T q.1 + q.2) + k)) (O q.1) b (l + 1 - f) f run held 0).2.2.1 ∨
       0 < (othE (fun k => CC (64 * (T q.1 + q.2) + k)) (O q.1) b (l + 1 - f) f run held 0).2.2.2 ∧ 0 < f0 ∧ ev = (othE (fun k => CC (64 * (T q.1 + q.2) + k)) (O q.1) b (l + 1 - f) f run held 0).1 ++ (finE (O q.1) ((othE (fun k => CC (64 * (T q.1 + q.2) + k)) (O q.1) b (l + 1 - f) f run held 0).2.1 + 1) (othE (fun k => CC (64 * (T q.1 + q.2) + k)) (O q.1) b (l + 1 - f) f run held 0).2.2.1).1 ∧ run1 = (finE (O q.1) ((othE (fun k => CC (64 * (T q.1 + q.2) + k)) (O q.1) b (l + 1 - f) f run held 0).2.1 + 1) (othE (fun k => CC (64 * (T q.1 + q.2) + k)) (O q.1) b (l + 1 - f) f run held 0).2.2.1).2.1 ∧ held1 = (finE (O q.1) ((othE (fun k => CC (64 * (T q.1 + q.2) + k)) (O q.1) b (l + 1 - f) f run held 0).2.1 + 1) (othE (fun k => CC (64 * (T q.1 + q.2) + k)) (O q.1) b (l + 1 - f) f run held 0).2.2.1).2.2) := by
  have hq' := hq
  obtain ⟨q4, m1, m2, m3, m4, m5, m6⟩ := hq
  obtain ⟨bd, hbd, hbd0, ebd⟩ : ∃ bd : Nat, bd ≤ 1 ∧ (bd = 0 ↔ f0 = 0) ∧ f_M_writeOthers N (zI (q.1 : Nat)) (zI (q.2 : Nat)) (zI f) (zI f0) (zI l) (zI b) ou pa pd fa cm (zI run) (zI (held.length : Nat)) mb mco ln cd ot out tm rb = f_M_writeOthers_J20 N (zI l) (zI (q.1 : Nat)) mb (zI (q.2 : Nat)) mco (zI b) (zI bd) (zI (O q.1 : Nat)) cm ln cd rb (zI f) ou pa pd fa (zI run) (zI (held.length : Nat)) out tm := by
    unfold f_M_writeOthers
    rw [clN q.1 (by omega), m3, if_neg (inN _ _ q4 (by omega))]
    by_cases c : f0 = 0
    · refine ⟨0, by omega, by omega, ?_⟩
      rw [if_pos (by rw [c]; decide)]; rfl
    · refine ⟨1, by omega, by omega, ?_⟩
      rw [if_neg (by rw [zI_lit, zI_le (by omega) (by omega) (by decide) (by decide)]; show ¬ _ ≤ (0 : Int); omega)]; rfl
  rw [ebd]
  obtain ⟨ou2, pa2, pd2, fa2, out2, tm2, w2, r2⟩ := q_Moth N hN hL hc (rb := rb) hb hl hq' hbd (l + 1 - f) f N run held 0 es ou pa pd fa out tm (by omega) (by omega) (by omega) hR (fun h => h0 (hbd0.mp h)) her h
  have hz := (othE_run (fun k => CC (64 * (T q.1 + q.2) + k)) (O q.1) b (l + 1 - f) f run held 0).2
  have hr := (othE_run (fun k => CC (64 * (T q.1 + q.2) + k)) (O q.1) b (l + 1 - f) f run held 0).1
  have hoR := othE_ok (C := fun k => CC (64 * (T q.1 + q.2) + k)) (t := O q.1) (b := b) (j := l + 1 - f) (k := f) (z := 0) hR
  have herO : rHeld rb (othE (fun k => CC (64 * (T q.1 + q.2) + k)) (O q.1) b (l + 1 - f) f run held 0).2.2.1 := by
    rcases hr with ⟨_, e⟩ | ⟨_, e⟩
    · rw [e]; exact her
    · rw [e]; exact fun i hi => by simp at hi
  unfold f_M_writeOthers_J20 f_M_writeOthers_J158
  rw [show f_M_writeOthers_L28 (zI l) (zI (q.1 : Nat)) mb (zI (q.2 : Nat)) mco (zI b) (zI bd) (zI (O q.1 : Nat)) cm ln cd rb N N ((0 : Int32), zI f, ou, pa, pd, fa, zI run, zI (held.length : Nat), out, tm) = _ from w2]
  dsimp only [Option.bind_some]
  clear w2 hr ebd
  generalize othE (fun k => CC (64 * (T q.1 + q.2) + k)) (O q.1) b (l + 1 - f) f run held 0 = OO at *
  obtain ⟨oe, orun, oheld, oz⟩ := OO
  dsimp only at *
  by_cases z0 : oz = 0
  · subst z0
    rw [if_pos (show zI ((0 : Nat) : Int) ≤ 0 by decide), if_pos (show zI ((0 : Nat) : Int) ≤ 0 by decide)]
    exact ⟨_, _, _, _, _, _, oe, orun, oheld, rfl, r2, Or.inl ⟨rfl, rfl, rfl, rfl⟩⟩
  · have gz : ¬ zI ((oz : Nat) : Int) ≤ 0 := by rw [zI_lit, zI_le (by omega) (by omega) (by decide) (by decide)]; show ¬ _ ≤ (0 : Int); omega
    rw [if_neg gz]
    by_cases cb : bd = 0
    · rw [if_pos (by rw [cb]; rfl)]
      obtain ⟨ou3, pa3, pd3, fa3, out3, tm3, w3, r3⟩ := q_MoWord N (by omega) hL hc r2 (O q.1) 0 m5 (by omega)
      rw [show f_M_word N (zI (O q.1 : Nat)) (0 : Int32) ou2 pa2 pd2 fa2 cm ln cd out2 tm2 = _ from w3]
      dsimp only [Option.bind_some]
      rw [if_neg gz, if_pos (by rw [cb]; rfl)]
      rw [List.append_assoc] at r3
      exact ⟨_, _, _, _, _, _, oe ++ [(0, O q.1, 0)], orun, oheld, rfl, r3, Or.inr (Or.inl ⟨by omega, hbd0.mp cb, rfl, rfl, rfl⟩)⟩
    · have gb : ¬ zI (bd : Int) = (0 : Int32) := by rw [zI_lit, zI_eq (by omega) (by omega) (by decide) (by decide)]; show ¬ _ = (0 : Int); omega
      have hr1 := hoR.1
      have hr2 := hoR.2.1
      have hf0p : 0 < f0 := by
        rcases Nat.eq_zero_or_pos f0 with h | h
        · exact absurd (hbd0.mpr h) cb
        · exact h
      rw [if_neg gb, if_neg gz, if_neg gb, suN orun]
      by_cases cr : orun + 1 = 32767
      · rw [if_pos (by rw [cr]; rfl)]
        obtain ⟨ou3, pa3, pd3, fa3, out3, tm3, w3, r3⟩ := q_MRun N hN hL hc r2 (run := orun + 1) (held := oheld) (t := O q.1) (by omega) (by omega) (fun h => absurd h (by omega)) hoR.2.2.2 herO m5
        rw [w3]
        have ef : finE (O q.1) (orun + 1) oheld = (srE (O q.1) (orun + 1) oheld, 0, []) := by unfold finE; rw [if_pos (Or.inl cr)]
        rw [List.append_assoc] at r3
        refine ⟨_, _, _, _, _, _, oe ++ srE (O q.1) (orun + 1) oheld, 0, [], rfl, r3, Or.inr (Or.inr ⟨by omega, hf0p, ?_, ?_, ?_⟩)⟩ <;> rw [ef]
      · rw [if_neg (by rw [zI_lit, zI_eq (by omega) (by omega) (by decide) (by decide)]; show ¬ _ = (32767 : Int); omega)]
        have ef : finE (O q.1) (orun + 1) oheld = ([], orun + 1, oheld) := by unfold finE; rw [if_neg (by omega)]
        refine ⟨_, _, _, _, _, _, oe, orun + 1, oheld, rfl, r2, Or.inr (Or.inr ⟨by omega, hf0p, ?_, ?_, ?_⟩)⟩ <;> rw [ef]
        rw [List.append_nil]
