/-! WRITING: the reference, blocks -/
theorem q_Mapp (N : Nat) (hN : 20000 ≤ N) {rb tc : Nat → Int32} {held com : List Nat} (hh : held.length ≤ 900) (hcl : com.length ≤ 64) (hc2 : ∀ x, x ∈ com → x < 2) (her : rHeld rb held) (htc : rHeld tc com) :
    ∃ rb1, f_M_writeMore_L252 (zI (com.length : Nat)) tc N N ((0 : Int32), zI (held.length : Nat), rb) = some (zI ((held ++ com).length : Nat), rb1) ∧ rHeld rb1 (held ++ com) := by
  have : ∃ z, f_M_writeMore_L252 (zI (com.length : Nat)) tc N N ((0 : Int32), zI (held.length : Nat), rb) = some z ∧ (z.1 = zI ((held ++ com).length : Nat) ∧ rHeld z.2 (held ++ com)) := by
    refine it_cnt (P := fun i (a : Int32 × Int32 × (Nat → Int32)) => a.1 = zI i ∧ a.2.1 = zI ((held ++ com.take i).length : Nat) ∧ rHeld a.2.2 (held ++ com.take i)) (R := fun (z : Int32 × (Nat → Int32)) => z.1 = zI ((held ++ com).length : Nat) ∧ rHeld z.2 (held ++ com)) com.length ?_ ?_ N 0 _ ⟨rfl, by rw [List.take_zero, List.append_nil], by rw [List.take_zero, List.append_nil]; exact her⟩ (by omega) (by omega)
    · rintro g i ⟨a, m, d⟩ hi ⟨q1, q2, q3⟩ ih
      dsimp only at q1 q2 q3
      subst q1 q2
      have el : (held ++ com.take i).length = held.length + i := by rw [List.length_append, List.length_take]; omega
      have el2 : (held ++ com.take (i + 1)).length = held.length + i + 1 := by rw [List.length_append, List.length_take]; omega
      have e3 : com.getD i 0 = com[i] := by rw [List.getD_eq_getElem?_getD, List.getElem?_eq_getElem hi]; rfl
      have hx : com.getD i 0 < 2 := by rw [e3]; exact hc2 _ (List.getElem_mem hi)
      have et : com.take (i + 1) = com.take i ++ [com.getD i 0] := by rw [List.take_add_one, List.getElem?_eq_getElem hi, e3]; rfl
      unfold f_M_writeMore_L252b
      dsimp only
      rw [el, clN i (by omega), clN _ (by omega), htc i hi, if_neg (by rw [leN (by omega) (by omega)]; omega), if_neg (inN _ _ (by omega) (by omega)), if_neg (inN _ _ (by omega) (by omega)), suN i, suN (held.length + i), zI_byteN (by omega) (by omega)]
      refine ih _ ⟨rfl, by rw [el2], fun j hj => ?_⟩
      dsimp only
      rw [et, ← List.append_assoc] at hj ⊢
      rw [List.length_append, el] at hj
      simp only [List.length_cons, List.length_nil] at hj
      by_cases ej : j = held.length + i
      · rw [ej, pk_us]
        generalize com.getD i 0 = y
        rw [List.getD_eq_getElem?_getD, List.getElem?_append_right (by omega), el, Nat.sub_self]; rfl
      · rw [pk_un ej, List.getD_eq_getElem?_getD, List.getElem?_append_left (by omega), ← List.getD_eq_getElem?_getD]
        exact q3 j (by omega)
    · rintro g ⟨a, m, d⟩ ⟨q1, q2, q3⟩
      dsimp only at q1 q2 q3
      subst q1 q2
      rw [List.take_length] at q3 ⊢
      unfold f_M_writeMore_L252b
      dsimp only
      rw [if_pos (by rw [leN (by omega) (by omega)]; exact Nat.le_refl _)]
      exact ⟨_, rfl, rfl, q3⟩
  obtain ⟨⟨z1, z2⟩, h1, h2, h3⟩ := this
  dsimp only at h2 h3
  subst h2
  exact ⟨z2, h1, h3⟩
set_option maxHeartbeats 2000000 in
theorem q_MwM (N : Nat) (hN : 20000 ≤ N) {Lc Vc : Nat → Nat → Nat} (hL : okLV Lc Vc) {ln cd : Nat → Int32} (hc : rLC Lc Vc ln cd) {cm : Int32} {CC : Nat → Int} {T D O : Nat → Nat} {mb mco dt ot rb : Nat → Int32} {q : Nat × Nat} {b l f : Nat} {run : Nat} {held : List Nat} (hb : b ≤ 9) (hl : l ≤ 63) (hf1 : 1 ≤ f) (hfl : f ≤ l) (hq : okBM CC T D O mb mco dt ot q) (hR : okR run held) (her : rHeld rb held) (tc : Nat → Int32) (p : Int) {es : List (Nat × Nat × Nat)} {ou pa pd fa : Int32} {out tm : Nat → Int32} (h : rMo Lc Vc cm es ou pa pd fa out tm) :
    ∃ ou1 pa1 pd1 fa1 co1 out1 tm1 rb1 tc1, f_M_writeMore N (zI (q.1 : Nat)) (zI (q.2 : Nat)) (zI f) (zI l) (zI b) ou pa pd fa cm (zI run) (zI (held.length : Nat)) mb mco ln cd ot out tm rb tc = some (ou1, pa1, pd1, fa1, zI ((blkE 4 f l b (fun k => CC (64 * (T q.1 + q.2) + k)) (D q.1) (O q.1) p run held).2.2.1 : Nat), zI ((blkE 4 f l b (fun k => CC (64 * (T q.1 + q.2) + k)) (D q.1) (O q.1) p run held).2.2.2.length : Nat), co1, out1, tm1, rb1, tc1) ∧ rMo Lc Vc cm (es ++ (blkE 4 f l b (fun k => CC (64 * (T q.1 + q.2) + k)) (D q.1) (O q.1) p run held).1) ou1 pa1 pd1 fa1 out1 tm1 ∧ rHeld rb1 (blkE 4 f l b (fun k => CC (64 * (T q.1 + q.2) + k)) (D q.1) (O q.1) p run held).2.2.2 := by
  have hq' := hq
  obtain ⟨q4, m1, m2, m3, m4, m5, m6⟩ := hq
  obtain ⟨hln, hlx⟩ := ln_ge (fun k => CC (64 * (T q.1 + q.2) + k)) b f l hfl
  obtain ⟨ou2, pa2, pd2, fa2, out2, tm2, tc2, w2, r2, d2⟩ := q_Mref N hN hL hc (rb := rb) hb hl hq' ⟨hln.1, by omega⟩ hlx (l + 1 - f) f N run held 0 [] tc es ou pa pd fa out tm (Nat.le_refl _) (by omega) (by omega) (by simp; omega) (by omega) hR (fun x hx => by simp at hx) her (fun i hi => by simp at hi) h
  obtain ⟨k1, k2, k3, k4⟩ := refE_ok (fun k => CC (64 * (T q.1 + q.2) + k)) (O q.1) b (lnF (fun k => CC (64 * (T q.1 + q.2) + k)) b (l + 1 - f) f) (l + 1 - f) f run held 0 [] hR (fun x hx => by simp at hx)
  have k5 := ref_held (fun k => CC (64 * (T q.1 + q.2) + k)) (O q.1) b (lnF (fun k => CC (64 * (T q.1 + q.2) + k)) b (l + 1 - f) f) (l + 1 - f) f run held 0 [] her
  unfold f_M_writeMore
  rw [clN q.1 (by omega), m3, if_neg (inN _ _ q4 (by omega)), q_Mln N hN hb hl hfl hq']
  dsimp only [Option.bind_some]
  rw [show f_M_writeMore_L66 (zI l) (zI (q.1 : Nat)) (zI (q.2 : Nat)) (zI b) mb mco (zI (lnF (fun k => CC (64 * (T q.1 + q.2) + k)) b (l + 1 - f) f)) (zI (O q.1 : Nat)) cm ln cd rb N N ((0 : Int32), zI f, ou, pa, pd, fa, zI run, zI (held.length : Nat), (0 : Int32), out, tm, tc) = _ from w2]
  dsimp only [Option.bind_some]
  simp only [List.length_nil] at k3
  have bk := fun z0 => blkE_4a (f := f) (l := l) (b := b) (C := fun k => CC (64 * (T q.1 + q.2) + k)) (d := D q.1) (t := O q.1) (p := p) (run := run) (held := held) z0
  have bk2 := fun z0 => blkE_4b (f := f) (l := l) (b := b) (C := fun k => CC (64 * (T q.1 + q.2) + k)) (d := D q.1) (t := O q.1) (p := p) (run := run) (held := held) z0
  clear w2 hln hlx
  generalize refE (fun k => CC (64 * (T q.1 + q.2) + k)) (O q.1) b (lnF (fun k => CC (64 * (T q.1 + q.2) + k)) b (l + 1 - f) f) (l + 1 - f) f run held 0 [] = OO at *
  obtain ⟨oe, orun, oheld, oz, ocom⟩ := OO
  dsimp only at *
  by_cases z0 : oz = 0 ∧ ocom = []
  · rw [bk z0, if_neg (by rw [z0.1]; decide), if_pos (by rw [z0.2]; decide)]
    exact ⟨_, _, _, _, _, _, _, _, _, rfl, r2, k5⟩
  · rw [bk2 z0]
    have hJ : ∃ ou1 pa1 pd1 fa1 co1 out1 tm1 rb1 tc1, f_M_writeMore_J239 N (zI (ocom.length : Nat)) tc2 (zI (oheld.length : Nat)) rb (zI orun) (zI (O q.1 : Nat)) ou2 pa2 pd2 fa2 cm ln cd out2 tm2 = some (ou1, pa1, pd1, fa1, zI ((finE (O q.1) (orun + 1) (oheld ++ ocom)).2.1 : Nat), zI ((finE (O q.1) (orun + 1) (oheld ++ ocom)).2.2.length : Nat), co1, out1, tm1, rb1, tc1) ∧ rMo Lc Vc cm (es ++ (oe ++ (finE (O q.1) (orun + 1) (oheld ++ ocom)).1)) ou1 pa1 pd1 fa1 out1 tm1 ∧ rHeld rb1 (finE (O q.1) (orun + 1) (oheld ++ ocom)).2.2 := by
      obtain ⟨rb3, w3, r3⟩ := q_Mapp N hN k1.2.1 (by omega) k2 k5 d2
      unfold f_M_writeMore_J239 f_M_writeMore_J318
      rw [w3]
      dsimp only [Option.bind_some]
      rw [suN orun]
      have hr1 := k1.1
      have hl2 : (oheld ++ ocom).length ≤ 1000 := by rw [List.length_append]; have := k1.2.1; omega
      by_cases cr : orun + 1 = 32767 ∨ 900 < (oheld ++ ocom).length
      · have ef : finE (O q.1) (orun + 1) (oheld ++ ocom) = (srE (O q.1) (orun + 1) (oheld ++ ocom), 0, []) := by unfold finE; rw [if_pos cr]
        rw [ef]
        obtain ⟨ou4, pa4, pd4, fa4, out4, tm4, w4, r4⟩ := q_MRun N hN hL hc r2 (run := orun + 1) (held := oheld ++ ocom) (t := O q.1) (by omega) hl2 (fun h => absurd h (by omega)) (fun x hx => by
          rw [List.mem_append] at hx
          rcases hx with hx | hx
          · exact k1.2.2.2 x hx
          · exact k2 x hx) r3 m5
        rw [w4]
        rw [List.append_assoc] at r4
        by_cases c1 : orun + 1 = 32767
        · rw [if_pos (by rw [c1]; rfl)]
          exact ⟨_, _, _, _, _, _, _, _, _, rfl, r4, fun i hi => by simp at hi⟩
        · rw [if_neg (by rw [zI_lit, zI_eq (by omega) (by omega) (by decide) (by decide)]; show ¬ _ = (32767 : Int); omega), if_neg (by rw [zI_lit, zI_le (by omega) (by omega) (by decide) (by decide)]; show ¬ _ ≤ (900 : Int); omega)]
          exact ⟨_, _, _, _, _, _, _, _, _, rfl, r4, fun i hi => by simp at hi⟩
      · have ef : finE (O q.1) (orun + 1) (oheld ++ ocom) = ([], orun + 1, oheld ++ ocom) := by unfold finE; rw [if_neg cr]
        rw [ef, if_neg (by rw [zI_lit, zI_eq (by omega) (by omega) (by decide) (by decide)]; show ¬ _ = (32767 : Int); omega), if_pos (by rw [zI_lit, zI_le (by omega) (by omega) (by decide) (by decide)]; show _ ≤ (900 : Int); omega), List.append_nil]
        exact ⟨_, _, _, _, _, _, _, _, _, rfl, r2, r3⟩
    by_cases cz : oz = 0
    · have hcn : 0 < ocom.length := List.length_pos_iff.mpr (fun h => z0 ⟨cz, h⟩)
      rw [if_neg (by rw [cz]; decide), if_neg (by rw [zI_lit, zI_le (by omega) (by omega) (by decide) (by decide)]; show ¬ _ ≤ (0 : Int); omega)]
      exact hJ
    · rw [if_pos (by rw [zI_lit, zI_lt (by decide) (by decide) (by omega) (by omega)]; show (0 : Int) < _; omega)]
      exact hJ
def okKM (kd f l b bf : Nat) : Prop := b ≤ 9 ∧ ((kd = 0 ∧ f = 0 ∧ l = 63 ∧ b = 0 ∧ bf = 0) ∨ (kd = 1 ∧ f = 0 ∧ l = 0 ∧ bf = 0) ∨ (kd = 2 ∧ f = 0 ∧ l = 0 ∧ bf = b + 1) ∨ (kd = 3 ∧ 1 ≤ f ∧ f ≤ l ∧ l ≤ 63 ∧ bf = 0) ∨ (kd = 4 ∧ 1 ≤ f ∧ f ≤ l ∧ l ≤ 63 ∧ bf = b + 1))
set_option maxHeartbeats 4000000 in
theorem q_Mblk (N : Nat) (hN : 20000 ≤ N) {Lc Vc : Nat → Nat → Nat} (hL : okLV Lc Vc) {ln cd : Nat → Int32} (hc : rLC Lc Vc ln cd) {cm : Int32} {CC : Nat → Int} {T D O : Nat → Nat} {mb mco dt ot rb p : Nat → Int32} {q : Nat × Nat} {kd f l b bf : Nat} {run : Nat} {held : List Nat} {P : Nat → Int} (hK : okKM kd f l b bf) (hq : okBM CC T D O mb mco dt ot q) (hP : rP p P) (hR : okR run held) (hlow : kd < 3 → run = 0) (her : rHeld rb held) (tc : Nat → Int32) (cms : Int32) {es : List (Nat × Nat × Nat)} {ou pa pd fa : Int32} {out tm : Nat → Int32} (h : rMo Lc Vc cm es ou pa pd fa out tm) :
    ∃ ou1 pa1 pd1 fa1 co1 out1 tm1 p1 rb1 tc1, f_M_writeBlock N (zI (q.1 : Nat)) (zI (q.2 : Nat)) (zI f) (zI l) (zI bf) (zI b) ou pa pd fa cm (zI run) (zI (held.length : Nat)) cms mb mco ln cd dt ot out tm p rb tc = some (ou1, pa1, pd1, fa1, zI ((blkE kd f l b (fun k => CC (64 * (T q.1 + q.2) + k)) (D q.1) (O q.1) (P q.1) run held).2.2.1 : Nat), zI ((blkE kd f l b (fun k => CC (64 * (T q.1 + q.2) + k)) (D q.1) (O q.1) (P q.1) run held).2.2.2.length : Nat), co1, out1, tm1, p1, rb1, tc1) ∧ rMo Lc Vc cm (es ++ (blkE kd f l b (fun k => CC (64 * (T q.1 + q.2) + k)) (D q.1) (O q.1) (P q.1) run held).1) ou1 pa1 pd1 fa1 out1 tm1 ∧ rP p1 (fun y => if y = q.1 then (blkE kd f l b (fun k => CC (64 * (T q.1 + q.2) + k)) (D q.1) (O q.1) (P q.1) run held).2.1 else P y) ∧ rHeld rb1 (blkE kd f l b (fun k => CC (64 * (T q.1 + q.2) + k)) (D q.1) (O q.1) (P q.1) run held).2.2.2 := by
  have hc4 := hq.1
  obtain ⟨hb, hK⟩ := hK
  have hPs : rP p (fun y => if y = q.1 then P q.1 else P y) := fun c hc => by
    dsimp only
    by_cases e : c = q.1
    · rw [if_pos e]; rw [e] at hc ⊢; exact hP q.1 hc
    · rw [if_neg e]; exact hP c hc
  have hPu : ∀ v : Int, -1024 ≤ v ∧ v ≤ 1023 → rP (upd p q.1 (zI v)) (fun y => if y = q.1 then v else P y) := fun v hv c hc => by
    dsimp only
    by_cases e : c = q.1
    · rw [if_pos e, e, pk_us]; exact ⟨rfl, hv⟩
    · rw [if_neg e, pk_un e]; exact hP c hc
  unfold f_M_writeBlock f_M_writeBlock_J13
  rcases hK with ⟨rfl, rfl, rfl, rfl, rfl⟩ | ⟨rfl, rfl, rfl, rfl⟩ | ⟨rfl, rfl, rfl, rfl⟩ | ⟨rfl, hf1, hfl, hl, rfl⟩ | ⟨rfl, hf1, hfl, hl, rfl⟩
  · obtain rfl := hlow (by omega)
    obtain rfl := hR.2.2.1 rfl
    obtain ⟨ou2, pa2, pd2, fa2, out2, tm2, w2, r2, v2⟩ := q_Mdir N hN hL hc hb hq (hP q.1 hc4) h
    rw [if_pos (show zI ((0 : Nat) : Int) = (0 : Int32) from rfl), show f_M_writeDirect N (zI (q.1 : Nat)) (zI (q.2 : Nat)) (zI ((0 : Nat) : Int)) (zI ((0 : Nat) : Int)) ou pa pd fa cm mb mco ln cd dt out tm p = _ from w2]
    dsimp only [Option.bind_some]
    rw [if_neg (show ¬ zI ((63 : Nat) : Int) ≤ 0 by decide), if_pos (show zI ((0 : Nat) : Int) = (0 : Int32) from rfl), if_pos (show zI ((0 : Nat) : Int) = (0 : Int32) from rfl)]
    unfold f_M_writeBlock_J45
    obtain ⟨ou3, pa3, pd3, fa3, out3, tm3, ev, run3, held3, w3, r3, d3⟩ := q_MwO N hN hL hc (rb := rb) (f := 1) (l := 63) (b := 0) (f0 := 0) (run := 0) (held := []) hb (by omega) (by omega) (by omega) (by omega) hq okR_0 (fun _ => rfl) her r2
    have hz := (othE_run (fun k => CC (64 * (T q.1 + q.2) + k)) (O q.1) 0 63 1 0 [] 0).1
    have hz1 : (othE (fun k => CC (64 * (T q.1 + q.2) + k)) (O q.1) 0 63 1 0 [] 0).2.1 = 0 := by rcases hz with h | h <;> exact h.1
    have hz2 : (othE (fun k => CC (64 * (T q.1 + q.2) + k)) (O q.1) 0 63 1 0 [] 0).2.2.1 = [] := by rcases hz with h | h <;> exact h.2
    rw [show 63 + 1 - 1 = 63 from rfl, hz1, hz2] at d3
    rw [show f_M_writeOthers N (zI (q.1 : Nat)) (zI (q.2 : Nat)) (1 : Int32) (zI ((0 : Nat) : Int)) (zI ((63 : Nat) : Int)) (zI ((0 : Nat) : Int)) ou2 pa2 pd2 fa2 cm (zI ((0 : Nat) : Int)) (zI (([] : List Nat).length : Nat)) mb mco ln cd ot out2 tm2 rb = _ from w3]
    have eB : blkE 0 0 63 0 (fun k => CC (64 * (T q.1 + q.2) + k)) (D q.1) (O q.1) (P q.1) 0 [] = (dirE (fun k => CC (64 * (T q.1 + q.2) + k)) (D q.1) 0 (P q.1) ++ ((othE (fun k => CC (64 * (T q.1 + q.2) + k)) (O q.1) 0 63 1 0 [] 0).1 ++ if (othE (fun k => CC (64 * (T q.1 + q.2) + k)) (O q.1) 0 63 1 0 [] 0).2.2.2 = 0 then [] else [(0, O q.1, 0)]), CC (64 * (T q.1 + q.2) + 0) / 2 ^ 0, 0, []) := rfl
    rw [eB]
    rcases d3 with ⟨z0, rfl, rfl, rfl⟩ | ⟨z0, -, rfl, rfl, rfl⟩ | ⟨_, e, _⟩
    · refine ⟨_, _, _, _, _, _, _, _, _, _, rfl, ?_, hPu _ v2, her⟩
      rw [if_pos z0, List.append_nil, ← List.append_assoc]
      exact r3
    · refine ⟨_, _, _, _, _, _, _, _, _, _, rfl, ?_, hPu _ v2, her⟩
      rw [if_neg (by omega), ← List.append_assoc]
      exact r3
    · omega
  · obtain rfl := hlow (by omega)
    obtain rfl := hR.2.2.1 rfl
    obtain ⟨ou2, pa2, pd2, fa2, out2, tm2, w2, r2, v2⟩ := q_Mdir N hN hL hc hb hq (hP q.1 hc4) h
    rw [if_pos (show zI ((0 : Nat) : Int) = (0 : Int32) from rfl), show f_M_writeDirect N (zI (q.1 : Nat)) (zI (q.2 : Nat)) (zI ((0 : Nat) : Int)) (zI b) ou pa pd fa cm mb mco ln cd dt out tm p = _ from w2]
    dsimp only [Option.bind_some]
    unfold f_M_writeBlock_J51
    rw [if_pos (show zI ((0 : Nat) : Int) ≤ 0 by decide), if_pos (show zI ((0 : Nat) : Int) ≤ 0 by decide)]
    exact ⟨_, _, _, _, _, _, _, _, _, _, rfl, r2, hPu _ v2, her⟩
  · obtain rfl := hlow (by omega)
    obtain rfl := hR.2.2.1 rfl
    obtain ⟨ou2, pa2, pd2, fa2, out2, w2, r2⟩ := q_Mdir2 N hN hL (ln := ln) (cd := cd) (p := p) (bf := b + 1) hb (by omega) hq h
    rw [if_pos (show zI ((0 : Nat) : Int) = (0 : Int32) from rfl), w2]
    dsimp only [Option.bind_some]
    unfold f_M_writeBlock_J51
    rw [if_pos (show zI ((0 : Nat) : Int) ≤ 0 by decide), if_pos (show zI ((0 : Nat) : Int) ≤ 0 by decide)]
    exact ⟨_, _, _, _, _, _, _, _, _, _, rfl, r2, hPs, her⟩
  · rw [if_neg (by rw [zI_lit, zI_eq (by omega) (by omega) (by decide) (by decide)]; show ¬ _ = (0 : Int); omega), if_neg (by rw [zI_lit, zI_le (by omega) (by omega) (by decide) (by decide)]; show ¬ _ ≤ (0 : Int); omega), if_pos (show zI ((0 : Nat) : Int) = (0 : Int32) from rfl), if_neg (by rw [zI_lit, zI_eq (by omega) (by omega) (by decide) (by decide)]; show ¬ _ = (0 : Int); omega)]
    unfold f_M_writeBlock_J45
    obtain ⟨ou3, pa3, pd3, fa3, out3, tm3, ev, run3, held3, w3, r3, d3⟩ := q_MwO N hN hL hc (rb := rb) (f := f) (l := l) (b := b) (f0 := f) (run := run) (held := held) hb hl hf1 hfl (by omega) hq hR (fun h => absurd h (by omega)) her h
    have herO : rHeld rb (othE (fun k => CC (64 * (T q.1 + q.2) + k)) (O q.1) b (l + 1 - f) f run held 0).2.2.1 := by
      rcases (othE_run (fun k => CC (64 * (T q.1 + q.2) + k)) (O q.1) b (l + 1 - f) f run held 0).1 with ⟨_, e⟩ | ⟨_, e⟩
      · rw [e]; exact her
      · rw [e]; exact fun i hi => by simp at hi
    rw [w3]
    rcases d3 with ⟨z0, rfl, rfl, rfl⟩ | ⟨_, e, _⟩ | ⟨z0, _, rfl, rfl, rfl⟩
    · rw [blkE_3a z0]
      exact ⟨_, _, _, _, _, _, _, _, _, _, rfl, r3, hPs, herO⟩
    · omega
    · rw [blkE_3b z0]
      exact ⟨_, _, _, _, _, _, _, _, _, _, rfl, r3, hPs, rHeld_fin herO⟩
  · rw [if_neg (by rw [zI_lit, zI_eq (by omega) (by omega) (by decide) (by decide)]; show ¬ _ = (0 : Int); omega), if_neg (by rw [zI_lit, zI_le (by omega) (by omega) (by decide) (by decide)]; show ¬ _ ≤ (0 : Int); omega), if_neg (by rw [zI_lit, zI_eq (by omega) (by omega) (by decide) (by decide)]; show ¬ _ = (0 : Int); omega)]
    unfold f_M_writeBlock_J51
    rw [if_neg (by rw [zI_lit, zI_le (by omega) (by omega) (by decide) (by decide)]; show ¬ _ ≤ (0 : Int); omega)]
    obtain ⟨ou3, pa3, pd3, fa3, co3, out3, tm3, rb3, tc3, w3, r3, d3⟩ := q_MwM N hN hL hc (rb := rb) hb hl hf1 hfl hq hR her tc (P q.1) h
    rw [w3]
    refine ⟨_, _, _, _, _, _, _, _, _, _, rfl, r3, ?_, d3⟩
    have ep : (blkE 4 f l b (fun k => CC (64 * (T q.1 + q.2) + k)) (D q.1) (O q.1) (P q.1) run held).2.1 = P q.1 := by
      by_cases z0 : (refE (fun k => CC (64 * (T q.1 + q.2) + k)) (O q.1) b (lnF (fun k => CC (64 * (T q.1 + q.2) + k)) b (l + 1 - f) f) (l + 1 - f) f run held 0 []).2.2.2.1 = 0 ∧ (refE (fun k => CC (64 * (T q.1 + q.2) + k)) (O q.1) b (lnF (fun k => CC (64 * (T q.1 + q.2) + k)) b (l + 1 - f) f) (l + 1 - f) f run held 0 []).2.2.2.2 = []
      · rw [blkE_4a z0]
      · rw [blkE_4b z0]
    rw [ep]
    exact hPs
