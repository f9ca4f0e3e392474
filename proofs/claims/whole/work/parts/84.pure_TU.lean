/-! WRITING: the reference -/
theorem q_MrunL (N : Nat) {Lc Vc : Nat → Nat → Nat} (hL : okLV Lc Vc) {cm : Int32} {rb : Nat → Int32} {held : List Nat} (her : rHeld rb held) (h2 : ∀ x, x ∈ held → x < 2) (hh : held.length ≤ 1000) : ∀ (n i fuel : Nat) (es : List (Nat × Nat × Nat)) (ou pa pd fa : Int32) (out tm : Nat → Int32), i + n = held.length → n < fuel → rMo Lc Vc cm es ou pa pd fa out tm →
    ∃ ou1 pa1 pd1 fa1 out1, f_M_sendRun_L37 (zI (held.length : Nat)) rb cm N fuel (zI i, ou, pa, pd, fa, out) = some (ou1, pa1, pd1, fa1, out1) ∧ rMo Lc Vc cm (es ++ (held.drop i).map fun x => (1, x, 0)) ou1 pa1 pd1 fa1 out1 tm
  | 0, i, fuel, es, ou, pa, pd, fa, out, tm, hi, hf, h => by
    obtain ⟨fuel, rfl⟩ : ∃ j, fuel = j + 1 := ⟨fuel - 1, by omega⟩
    have e : f_M_sendRun_L37 (zI (held.length : Nat)) rb cm N (fuel + 1) (zI i, ou, pa, pd, fa, out) = f_M_sendRun_L37b (zI (held.length : Nat)) rb cm N (f_M_sendRun_L37 (zI (held.length : Nat)) rb cm N fuel) (zI i) ou pa pd fa out := rfl
    rw [e]
    unfold f_M_sendRun_L37b
    rw [if_pos (by rw [zI_le (by omega) (by omega) (by omega) (by omega)]; omega), List.drop_of_length_le (by omega), List.map_nil, List.append_nil]
    exact ⟨_, _, _, _, _, rfl, h⟩
  | n + 1, i, fuel, es, ou, pa, pd, fa, out, tm, hi, hf, h => by
    obtain ⟨fuel, rfl⟩ : ∃ j, fuel = j + 1 := ⟨fuel - 1, by omega⟩
    have hlt : i < held.length := by omega
    have e3 : held.getD i 0 = held[i] := by rw [List.getD_eq_getElem?_getD, List.getElem?_eq_getElem hlt]; rfl
    have hx : held.getD i 0 < 2 := by rw [e3]; exact h2 _ (List.getElem_mem hlt)
    obtain ⟨ou1, pa1, pd1, fa1, out1, a1, a2⟩ := q_MoBit hL h (held.getD i 0) hx
    obtain ⟨ou2, pa2, pd2, fa2, out2, b1, b2⟩ := q_MrunL N hL her h2 hh n (i + 1) fuel _ ou1 pa1 pd1 fa1 out1 tm (by omega) (by omega) a2
    have e : f_M_sendRun_L37 (zI (held.length : Nat)) rb cm N (fuel + 1) (zI i, ou, pa, pd, fa, out) = f_M_sendRun_L37b (zI (held.length : Nat)) rb cm N (f_M_sendRun_L37 (zI (held.length : Nat)) rb cm N fuel) (zI i) ou pa pd fa out := rfl
    have g1 : (zI ((i : Nat) : Int)).toNatClampNeg = i := by rw [zI_cl (by omega) (by omega), Int.toNat_natCast]
    rw [e]
    unfold f_M_sendRun_L37b
    rw [g1, her i hlt, a1]
    dsimp only [Option.bind_some]
    rw [show zI (i : Int) + (1 : Int32) = zI ((i + 1 : Nat) : Int) by rw [zI_lit, zI_add]; rfl, b1]
    rw [if_neg (by rw [zI_le (by omega) (by omega) (by omega) (by omega)]; omega), if_neg (by rw [zI_lit, zI_lt (by omega) (by omega) (by decide) (by decide)]; show ¬ (_ < (0 : Int) ∨ _); omega)]
    refine ⟨_, _, _, _, _, rfl, ?_⟩
    rw [List.drop_eq_getElem_cons hlt, List.map_cons, show ∀ (a : Nat × Nat × Nat) (l : List (Nat × Nat × Nat)), es ++ a :: l = (es ++ [a]) ++ l by intro a l; simp, ← e3]
    exact b2
theorem q_MRun (N : Nat) (hN : 20000 ≤ N) {Lc Vc : Nat → Nat → Nat} (hL : okLV Lc Vc) {ln cd : Nat → Int32} (hc : rLC Lc Vc ln cd) {cm : Int32} {es : List (Nat × Nat × Nat)} {ou pa pd fa : Int32} {out tm : Nat → Int32} (h : rMo Lc Vc cm es ou pa pd fa out tm) {run : Nat} {held : List Nat} {t : Nat} {rb : Nat → Int32} (hr : run ≤ 32767) (hh : held.length ≤ 1000) (h0 : run = 0 → held = []) (h2 : ∀ x, x ∈ held → x < 2) (her : rHeld rb held) (ht : t < 8) :
    ∃ ou1 pa1 pd1 fa1 out1 tm1, f_M_sendRun N (zI t) ou pa pd fa cm (zI run) (zI (held.length : Nat)) ln cd out tm rb = some (ou1, pa1, pd1, fa1, zI 0, zI 0, out1, tm1) ∧ rMo Lc Vc cm (es ++ srE t run held) ou1 pa1 pd1 fa1 out1 tm1 := by
  unfold f_M_sendRun
  by_cases c : run = 0
  · subst c
    rw [if_pos (show zI ((0 : Nat) : Int) ≤ 0 by decide), h0 rfl, srE_0, List.append_nil]
    exact ⟨_, _, _, _, _, _, rfl, h⟩
  · have s1 := szN_pos (a := run) (by omega)
    have s2 : szN run ≤ 15 := szN_le (by omega)
    have q1 := (q_size N (by omega) (run : Int) (by omega) (by omega)).2
    rw [Int.natAbs_natCast] at q1
    rw [if_neg (by rw [zI_lit, zI_le (by omega) (by omega) (by decide) (by decide)]; show ¬ _ ≤ (0 : Int); omega), q1]
    have eS : srE t run held = [(0, t, 16 * (szN run - 1))] ++ (evB run (szN run - 1) ++ held.map fun x => (1, x, 0)) := by
      unfold srE
      rw [if_neg c]; rfl
    rw [eS]
    have e1 : zI ((szN run : Nat) : Int) - (1 : Int32) = zI ((szN run - 1 : Nat) : Int) := by rw [zI_lit, zI_sub]; congr 1; show ((szN run : Nat) : Int) - 1 = _; omega
    have e2 : (16 : Int32) * zI ((szN run - 1 : Nat) : Int) = zI ((16 * (szN run - 1) : Nat) : Int) := by rw [zI_lit, zI_mul]; rfl
    dsimp only [Option.bind_some]
    rw [e1, e2]
    obtain ⟨ou2, pa2, pd2, fa2, out2, tm2, w2, r2⟩ := q_MoWord N (by omega) hL hc h t (16 * (szN run - 1)) ht (by omega)
    rw [w2]
    dsimp only [Option.bind_some]
    obtain ⟨ou3, pa3, pd3, fa3, out3, w3, r3⟩ := q_MoLow N (by omega) hL (run : Int) (by omega) (by omega) (szN run - 1) (by omega) r2
    rw [w3]
    dsimp only [Option.bind_some]
    obtain ⟨ou4, pa4, pd4, fa4, out4, w4, r4⟩ := q_MrunL N hL her h2 hh held.length 0 N _ ou3 pa3 pd3 fa3 out3 tm2 (by omega) (by omega) r3
    have w4' : f_M_sendRun_L37 (zI (held.length : Nat)) rb cm N N ((0 : Int32), ou3, pa3, pd3, fa3, out3) = some (ou4, pa4, pd4, fa4, out4) := w4
    rw [w4']
    rw [List.drop_zero, List.append_assoc, List.append_assoc] at r4
    exact ⟨_, _, _, _, _, _, rfl, r4⟩
theorem q_McomL (N : Nat) {Lc Vc : Nat → Nat → Nat} (hL : okLV Lc Vc) {cm : Int32} {tc : Nat → Int32} {com : List Nat} (her : rHeld tc com) (h2 : ∀ x, x ∈ com → x < 2) (hh : com.length ≤ 70) : ∀ (n i fuel : Nat) (es : List (Nat × Nat × Nat)) (ou pa pd fa : Int32) (out tm : Nat → Int32), i + n = com.length → n < fuel → rMo Lc Vc cm es ou pa pd fa out tm →
    ∃ ou1 pa1 pd1 fa1 out1, f_M_sendComing_L2 (zI (com.length : Nat)) tc cm N fuel (zI i, ou, pa, pd, fa, out) = some (ou1, pa1, pd1, fa1, out1) ∧ rMo Lc Vc cm (es ++ (com.drop i).map fun x => (1, x, 0)) ou1 pa1 pd1 fa1 out1 tm
  | 0, i, fuel, es, ou, pa, pd, fa, out, tm, hi, hf, h => by
    obtain ⟨fuel, rfl⟩ : ∃ j, fuel = j + 1 := ⟨fuel - 1, by omega⟩
    have e : f_M_sendComing_L2 (zI (com.length : Nat)) tc cm N (fuel + 1) (zI i, ou, pa, pd, fa, out) = f_M_sendComing_L2b (zI (com.length : Nat)) tc cm N (f_M_sendComing_L2 (zI (com.length : Nat)) tc cm N fuel) (zI i) ou pa pd fa out := rfl
    rw [e]
    unfold f_M_sendComing_L2b
    rw [if_pos (by rw [zI_le (by omega) (by omega) (by omega) (by omega)]; omega), List.drop_of_length_le (by omega), List.map_nil, List.append_nil]
    exact ⟨_, _, _, _, _, rfl, h⟩
  | n + 1, i, fuel, es, ou, pa, pd, fa, out, tm, hi, hf, h => by
    obtain ⟨fuel, rfl⟩ : ∃ j, fuel = j + 1 := ⟨fuel - 1, by omega⟩
    have hlt : i < com.length := by omega
    have e3 : com.getD i 0 = com[i] := by rw [List.getD_eq_getElem?_getD, List.getElem?_eq_getElem hlt]; rfl
    have hx : com.getD i 0 < 2 := by rw [e3]; exact h2 _ (List.getElem_mem hlt)
    obtain ⟨ou1, pa1, pd1, fa1, out1, a1, a2⟩ := q_MoBit hL h (com.getD i 0) hx
    obtain ⟨ou2, pa2, pd2, fa2, out2, b1, b2⟩ := q_McomL N hL her h2 hh n (i + 1) fuel _ ou1 pa1 pd1 fa1 out1 tm (by omega) (by omega) a2
    have e : f_M_sendComing_L2 (zI (com.length : Nat)) tc cm N (fuel + 1) (zI i, ou, pa, pd, fa, out) = f_M_sendComing_L2b (zI (com.length : Nat)) tc cm N (f_M_sendComing_L2 (zI (com.length : Nat)) tc cm N fuel) (zI i) ou pa pd fa out := rfl
    have g1 : (zI ((i : Nat) : Int)).toNatClampNeg = i := by rw [zI_cl (by omega) (by omega), Int.toNat_natCast]
    rw [e]
    unfold f_M_sendComing_L2b
    rw [g1, her i hlt, a1]
    dsimp only [Option.bind_some]
    rw [show zI (i : Int) + (1 : Int32) = zI ((i + 1 : Nat) : Int) by rw [zI_lit, zI_add]; rfl, b1]
    rw [if_neg (by rw [zI_le (by omega) (by omega) (by omega) (by omega)]; omega), if_neg (by rw [zI_lit, zI_lt (by omega) (by omega) (by decide) (by decide)]; show ¬ (_ < (0 : Int) ∨ _); omega)]
    refine ⟨_, _, _, _, _, rfl, ?_⟩
    rw [List.drop_eq_getElem_cons hlt, List.map_cons, show ∀ (a : Nat × Nat × Nat) (l : List (Nat × Nat × Nat)), es ++ a :: l = (es ++ [a]) ++ l by intro a l; simp, ← e3]
    exact b2
theorem q_Mcom (N : Nat) (hN : 20000 ≤ N) {Lc Vc : Nat → Nat → Nat} (hL : okLV Lc Vc) {cm : Int32} {tc : Nat → Int32} {com : List Nat} (her : rHeld tc com) (h2 : ∀ x, x ∈ com → x < 2) (hh : com.length ≤ 70) {es : List (Nat × Nat × Nat)} {ou pa pd fa : Int32} {out tm : Nat → Int32} (h : rMo Lc Vc cm es ou pa pd fa out tm) :
    ∃ ou1 pa1 pd1 fa1 out1, f_M_sendComing N ou pa pd fa cm (zI (com.length : Nat)) out tc = some (ou1, pa1, pd1, fa1, zI 0, out1) ∧ rMo Lc Vc cm (es ++ com.map fun x => (1, x, 0)) ou1 pa1 pd1 fa1 out1 tm := by
  obtain ⟨ou4, pa4, pd4, fa4, out4, w4, r4⟩ := q_McomL N hL her h2 hh com.length 0 N es ou pa pd fa out tm (by omega) (by omega) h
  have w4' : f_M_sendComing_L2 (zI (com.length : Nat)) tc cm N N ((0 : Int32), ou, pa, pd, fa, out) = some (ou4, pa4, pd4, fa4, out4) := w4
  unfold f_M_sendComing
  rw [w4']
  rw [List.drop_zero] at r4
  exact ⟨_, _, _, _, _, rfl, r4⟩
theorem q_Mnum (N : Nat) (hN : 20000 ≤ N) {Lc Vc : Nat → Nat → Nat} (hL : okLV Lc Vc) {cm : Int32} (d : Int) (h0 : -3000 ≤ d) (h1 : d ≤ 3000) {es : List (Nat × Nat × Nat)} {ou pa pd fa : Int32} {out tm : Nat → Int32} (h : rMo Lc Vc cm es ou pa pd fa out tm) :
    ∃ ou1 pa1 pd1 fa1 out1, f_M_number N (zI d) ou pa pd fa cm out = some (ou1, pa1, pd1, fa1, out1) ∧ rMo Lc Vc cm (es ++ evB (if 0 < d then d else d - 1) (szN d.natAbs)) ou1 pa1 pd1 fa1 out1 tm := by
  have hsz : szN d.natAbs ≤ 12 := szN_le (by omega)
  have q1 := (q_size N (by omega) d (by omega) (by omega)).2
  obtain ⟨ou3, pa3, pd3, fa3, out3, w3, r3⟩ := q_MoLow N (by omega) hL (if 0 < d then d else d - 1) (by split <;> omega) (by split <;> omega) (szN d.natAbs) (by omega) h
  unfold f_M_number f_M_number_J12
  rw [q1]
  dsimp only [Option.bind_some]
  by_cases c : 0 < d
  · rw [if_pos c] at w3
    rw [if_neg (by rw [zI_lit, zI_le (by omega) (by omega) (by decide) (by decide)]; show ¬ _ ≤ (0 : Int); omega), w3]
    exact ⟨_, _, _, _, _, rfl, r3⟩
  · rw [if_neg c] at w3
    rw [if_pos (by rw [zI_lit, zI_le (by omega) (by omega) (by decide) (by decide)]; show _ ≤ (0 : Int); omega), show zI d - (1 : Int32) = zI (d - 1) by rw [zI_lit, zI_sub], w3]
    exact ⟨_, _, _, _, _, rfl, r3⟩
def okBM (CC : Nat → Int) (T D O : Nat → Nat) (mb mco dt ot : Nat → Int32) (q : Nat × Nat) : Prop := q.1 < 4 ∧ mb q.1 = zI (T q.1 : Nat) ∧ dt q.1 = zI (D q.1 : Nat) ∧ ot q.1 = zI (O q.1 : Nat) ∧ D q.1 < 8 ∧ O q.1 < 8 ∧ ∀ k, k ≤ 63 → 64 * (T q.1 + q.2) + k < 12288 ∧ mco (64 * (T q.1 + q.2) + k) = zI (CC (64 * (T q.1 + q.2) + k)) ∧ -1024 ≤ CC (64 * (T q.1 + q.2) + k) ∧ CC (64 * (T q.1 + q.2) + k) ≤ 1023
theorem q_Mdir (N : Nat) (hN : 20000 ≤ N) {Lc Vc : Nat → Nat → Nat} (hL : okLV Lc Vc) {ln cd : Nat → Int32} (hc : rLC Lc Vc ln cd) {cm : Int32} {CC : Nat → Int} {T D O : Nat → Nat} {mb mco dt ot p : Nat → Int32} {q : Nat × Nat} {P : Nat → Int} {b : Nat} (hb : b ≤ 9) (hq : okBM CC T D O mb mco dt ot q) (hP : p q.1 = zI (P q.1) ∧ -1024 ≤ P q.1 ∧ P q.1 ≤ 1023) {es : List (Nat × Nat × Nat)} {ou pa pd fa : Int32} {out tm : Nat → Int32} (h : rMo Lc Vc cm es ou pa pd fa out tm) :
    ∃ ou1 pa1 pd1 fa1 out1 tm1, f_M_writeDirect N (zI (q.1 : Nat)) (zI (q.2 : Nat)) (zI 0) (zI b) ou pa pd fa cm mb mco ln cd dt out tm p = some (ou1, pa1, pd1, fa1, out1, tm1, upd p q.1 (zI (CC (64 * (T q.1 + q.2) + 0) / 2 ^ b))) ∧ rMo Lc Vc cm (es ++ dirE (fun k => CC (64 * (T q.1 + q.2) + k)) (D q.1) b (P q.1)) ou1 pa1 pd1 fa1 out1 tm1 ∧ -1024 ≤ CC (64 * (T q.1 + q.2) + 0) / 2 ^ b ∧ CC (64 * (T q.1 + q.2) + 0) / 2 ^ b ≤ 1023 := by
  obtain ⟨q4, m1, m2, m3, m4, m5, m6⟩ := hq
  obtain ⟨k1, k2, k3, k4⟩ := m6 0 (by omega)
  obtain ⟨p1, p2, p3⟩ := hP
  have hvv := floor_rng (b := b) k3 k4
  have ev : zI (CC (64 * (T q.1 + q.2) + 0)) >>> (zI b &&& 31) = zI (CC (64 * (T q.1 + q.2) + 0) / 2 ^ b) := by
    simp (disch := omega) only [zI_lit, zI_ofNat, zI_nI, zI_neg, zI_add, zI_sub, zI_mul, zI_lt, zI_le, zI_eq, zI_cl, zI_div, zI_shr, zI_shl, zI_and1, zI_and7, zI_and15, zI_and255, if_pos, if_neg, Option.bind_some, Option.bind_none, if_true, if_false, true_or, or_true, Int.toNat_natCast, pk_us]
  have g2 : (zI ((q.1 : Nat) : Int)).toNatClampNeg = q.1 := by rw [zI_cl (by omega) (by omega), Int.toNat_natCast]
  have gi : ¬ (zI ((q.1 : Nat) : Int) < 0 ∨ 4 ≤ q.1) := by rw [zI_lit, zI_lt (by omega) (by omega) (by decide) (by decide)]; show ¬ (_ < (0 : Int) ∨ _); omega
  have ek : (64 : Int32) * (zI ((T q.1 : Nat) : Int) + zI ((q.2 : Nat) : Int)) = zI ((64 * (T q.1 + q.2) + 0 : Nat) : Int) := by rw [zI_lit, zI_add, zI_mul]; rfl
  have g1 : (zI ((64 * (T q.1 + q.2) + 0 : Nat) : Int)).toNatClampNeg = 64 * (T q.1 + q.2) + 0 := by rw [zI_cl (by omega) (by omega), Int.toNat_natCast]
  have gk : ¬ (zI ((64 * (T q.1 + q.2) + 0 : Nat) : Int) < 0 ∨ 12288 ≤ 64 * (T q.1 + q.2) + 0) := by rw [zI_lit, zI_lt (by omega) (by omega) (by decide) (by decide)]; show ¬ (_ < (0 : Int) ∨ _); omega
  unfold f_M_writeDirect
  rw [g2, m1, ek, g1, k2, ev, p1, m2, if_neg gi, if_pos (show zI 0 ≤ 0 by decide), if_neg gk, if_neg gi, if_neg gi, if_neg gi, zI_sub]
  unfold dirE
  dsimp only
  generalize CC (64 * (T q.1 + q.2) + 0) / 2 ^ b = V at hvv ⊢
  have hsz : szN (V - P q.1).natAbs ≤ 11 := szN_le (by omega)
  have q1 := (q_size N (by omega) (V - P q.1) (by omega) (by omega)).2
  rw [q1]
  dsimp only [Option.bind_some]
  obtain ⟨ou2, pa2, pd2, fa2, out2, tm2, w2, r2⟩ := q_MoWord N (by omega) hL hc h (D q.1) (szN (V - P q.1).natAbs) m4 (by omega)
  rw [w2]
  dsimp only [Option.bind_some]
  obtain ⟨ou3, pa3, pd3, fa3, out3, w3, r3⟩ := q_Mnum N hN hL (V - P q.1) (by omega) (by omega) r2
  rw [w3]
  rw [List.append_assoc] at r3
  exact ⟨_, _, _, _, _, _, rfl, r3, hvv⟩
theorem q_Mdir2 (N : Nat) (hN : 20000 ≤ N) {Lc Vc : Nat → Nat → Nat} (hL : okLV Lc Vc) {ln cd : Nat → Int32} {cm : Int32} {CC : Nat → Int} {T D O : Nat → Nat} {mb mco dt ot p : Nat → Int32} {q : Nat × Nat} {b bf : Nat} (hb : b ≤ 9) (hbf : 1 ≤ bf ∧ bf ≤ 10) (hq : okBM CC T D O mb mco dt ot q) {es : List (Nat × Nat × Nat)} {ou pa pd fa : Int32} {out tm : Nat → Int32} (h : rMo Lc Vc cm es ou pa pd fa out tm) :
    ∃ ou1 pa1 pd1 fa1 out1, f_M_writeDirect N (zI (q.1 : Nat)) (zI (q.2 : Nat)) (zI bf) (zI b) ou pa pd fa cm mb mco ln cd dt out tm p = some (ou1, pa1, pd1, fa1, out1, tm, p) ∧ rMo Lc Vc cm (es ++ [(1, (CC (64 * (T q.1 + q.2) + 0) / 2 ^ b % 2).toNat, 0)]) ou1 pa1 pd1 fa1 out1 tm := by
  obtain ⟨q4, m1, m2, m3, m4, m5, m6⟩ := hq
  obtain ⟨k1, k2, k3, k4⟩ := m6 0 (by omega)
  have hvv := floor_rng (b := b) k3 k4
  have ev : (zI (CC (64 * (T q.1 + q.2) + 0)) >>> (zI b &&& 31)) &&& (1 : Int32) = zI ((CC (64 * (T q.1 + q.2) + 0) / 2 ^ b % 2).toNat : Nat) := by
    simp (disch := omega) only [zI_lit, zI_ofNat, zI_nI, zI_neg, zI_add, zI_sub, zI_mul, zI_lt, zI_le, zI_eq, zI_cl, zI_div, zI_shr, zI_shl, zI_and1, zI_and7, zI_and15, zI_and255, if_pos, if_neg, Option.bind_some, Option.bind_none, if_true, if_false, true_or, or_true, Int.toNat_natCast, pk_us]
    congr 1
    rw [Int.toNat_of_nonneg (by omega)]
  have g2 : (zI ((q.1 : Nat) : Int)).toNatClampNeg = q.1 := by rw [zI_cl (by omega) (by omega), Int.toNat_natCast]
  have gi : ¬ (zI ((q.1 : Nat) : Int) < 0 ∨ 4 ≤ q.1) := by rw [zI_lit, zI_lt (by omega) (by omega) (by decide) (by decide)]; show ¬ (_ < (0 : Int) ∨ _); omega
  have ek : (64 : Int32) * (zI ((T q.1 : Nat) : Int) + zI ((q.2 : Nat) : Int)) = zI ((64 * (T q.1 + q.2) + 0 : Nat) : Int) := by rw [zI_lit, zI_add, zI_mul]; rfl
  have g1 : (zI ((64 * (T q.1 + q.2) + 0 : Nat) : Int)).toNatClampNeg = 64 * (T q.1 + q.2) + 0 := by rw [zI_cl (by omega) (by omega), Int.toNat_natCast]
  have gk : ¬ (zI ((64 * (T q.1 + q.2) + 0 : Nat) : Int) < 0 ∨ 12288 ≤ 64 * (T q.1 + q.2) + 0) := by rw [zI_lit, zI_lt (by omega) (by omega) (by decide) (by decide)]; show ¬ (_ < (0 : Int) ∨ _); omega
  obtain ⟨ou1, pa1, pd1, fa1, out1, a1, a2⟩ := q_MoBit hL h (CC (64 * (T q.1 + q.2) + 0) / 2 ^ b % 2).toNat (by omega)
  unfold f_M_writeDirect
  rw [g2, m1, ek, g1, k2, ev, if_neg gi, if_neg (by rw [zI_lit, zI_le (by omega) (by omega) (by decide) (by decide)]; show ¬ _ ≤ (0 : Int); omega), if_neg gk, a1]
  exact ⟨_, _, _, _, _, rfl, a2⟩
theorem q_cut' (d : Int) (b : Nat) (h0 : -2000 ≤ d) (h1 : d ≤ 2000) (hb : b ≤ 9) : f_M_cutOff (zI d) (zI b) = some (zI (if 0 < d then (amt d b : Int) else -(amt d b : Int))) := by
  unfold f_M_cutOff amt
  by_cases c : 0 ≤ d
  · obtain ⟨a, rfl⟩ := Int.eq_ofNat_of_zero_le c
    rw [if_pos (by rw [zI_lit, zI_le (by decide) (by decide) (by omega) (by omega)]; exact c)]
    have e : zI (a : Int) >>> (zI b &&& 31) = zI ((a / 2 ^ b : Nat) : Int) := by
      simp (disch := omega) only [zI_lit, zI_ofNat, zI_nI, zI_neg, zI_add, zI_sub, zI_mul, zI_lt, zI_le, zI_eq, zI_cl, zI_div, zI_shr, zI_shl, zI_and1, zI_and7, zI_and15, zI_and255, if_pos, if_neg, Option.bind_some, Option.bind_none, if_true, if_false, true_or, or_true, Int.toNat_natCast, pk_us]
      rw [p_shr]
    rw [e, Int.natAbs_natCast]
    by_cases z : (0 : Int) < a
    · rw [if_pos z]
    · have : a = 0 := by omega
      subst this
      rw [Nat.zero_div]; rfl
  · obtain ⟨a, rfl⟩ : ∃ a : Nat, d = -(a : Int) := ⟨d.natAbs, by omega⟩
    rw [if_neg (by rw [zI_lit, zI_le (by decide) (by decide) (by omega) (by omega)]; exact c), if_neg (by omega)]
    have e : (-(zI (-(a : Int)))) >>> (zI b &&& 31) = zI ((a / 2 ^ b : Nat) : Int) := by
      rw [zI_neg, Int.neg_neg]
      simp (disch := omega) only [zI_lit, zI_ofNat, zI_nI, zI_neg, zI_add, zI_sub, zI_mul, zI_lt, zI_le, zI_eq, zI_cl, zI_div, zI_shr, zI_shl, zI_and1, zI_and7, zI_and15, zI_and255, if_pos, if_neg, Option.bind_some, Option.bind_none, if_true, if_false, true_or, or_true, Int.toNat_natCast, pk_us]
      rw [p_shr]
    rw [e, zI_neg, Int.natAbs_neg, Int.natAbs_natCast]
theorem q_Mzrl (N : Nat) (hN : 20000 ≤ N) {Lc Vc : Nat → Nat → Nat} (hL : okLV Lc Vc) {ln cd : Nat → Int32} (hc : rLC Lc Vc ln cd) {cm : Int32} {t : Nat} (ht : t < 8) : ∀ (q z fuel : Nat) (es : List (Nat × Nat × Nat)) (ou pa pd fa : Int32) (out tm : Nat → Int32), z / 16 = q → z ≤ 100 → q < fuel → rMo Lc Vc cm es ou pa pd fa out tm →
    ∃ ou1 pa1 pd1 fa1 out1 tm1, f_M_writeOthers_L87 (zI t) cm ln cd N fuel (zI z, ou, pa, pd, fa, out, tm) = some (zI (z % 16 : Nat), ou1, pa1, pd1, fa1, out1, tm1) ∧ rMo Lc Vc cm (es ++ List.replicate q (0, t, 240)) ou1 pa1 pd1 fa1 out1 tm1
  | 0, z, fuel, es, ou, pa, pd, fa, out, tm, hq, hz, hf, h => by
    obtain ⟨fuel, rfl⟩ : ∃ j, fuel = j + 1 := ⟨fuel - 1, by omega⟩
    have e : f_M_writeOthers_L87 (zI t) cm ln cd N (fuel + 1) (zI z, ou, pa, pd, fa, out, tm) = f_M_writeOthers_L87b (zI t) cm ln cd N (f_M_writeOthers_L87 (zI t) cm ln cd N fuel) (zI z) ou pa pd fa out tm := rfl
    rw [e]
    unfold f_M_writeOthers_L87b
    rw [if_pos (by rw [zI_lit, zI_le (by omega) (by omega) (by decide) (by decide)]; show _ ≤ (15 : Int); omega), List.replicate_zero, List.append_nil, show z % 16 = z by omega]
    exact ⟨_, _, _, _, _, _, rfl, h⟩
  | q + 1, z, fuel, es, ou, pa, pd, fa, out, tm, hq, hz, hf, h => by
    obtain ⟨fuel, rfl⟩ : ∃ j, fuel = j + 1 := ⟨fuel - 1, by omega⟩
    obtain ⟨ou2, pa2, pd2, fa2, out2, tm2, w2, r2⟩ := q_MoWord N (by omega) hL hc h t 240 ht (by omega)
    obtain ⟨ou3, pa3, pd3, fa3, out3, tm3, w3, r3⟩ := q_Mzrl N hN hL hc ht q (z - 16) fuel _ ou2 pa2 pd2 fa2 out2 tm2 (by omega) (by omega) (by omega) r2
    have e : f_M_writeOthers_L87 (zI t) cm ln cd N (fuel + 1) (zI z, ou, pa, pd, fa, out, tm) = f_M_writeOthers_L87b (zI t) cm ln cd N (f_M_writeOthers_L87 (zI t) cm ln cd N fuel) (zI z) ou pa pd fa out tm := rfl
    have w2' : f_M_word N (zI t) (240 : Int32) ou pa pd fa cm ln cd out tm = some (ou2, pa2, pd2, fa2, out2, tm2) := w2
    have e2 : zI (z : Int) + (-16 : Int32) = zI ((z - 16 : Nat) : Int) := by rw [show (-16 : Int32) = zI (-16) from rfl, zI_add]; congr 1; omega
    rw [e]
    unfold f_M_writeOthers_L87b
    rw [w2', if_neg (by rw [zI_lit, zI_le (by omega) (by omega) (by decide) (by decide)]; show ¬ _ ≤ (15 : Int); omega)]
    dsimp only [Option.bind_some]
    rw [e2, w3, show (z - 16) % 16 = z % 16 by omega]
    refine ⟨_, _, _, _, _, _, rfl, ?_⟩
    rw [List.replicate_succ, show ∀ (a : Nat × Nat × Nat) (l : List (Nat × Nat × Nat)), es ++ a :: l = (es ++ [a]) ++ l by intro a l; simp]
    exact r3
