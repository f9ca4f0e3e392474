/-! WRITING: blocks of a unit, units, a scan -/
def okK (kd f l b : Nat) : Prop := b ≤ 9 ∧ ((kd = 0 ∧ f = 0 ∧ l = 63 ∧ b = 0) ∨ (kd = 1 ∧ f = 0 ∧ l = 0) ∨ (kd = 2 ∧ f = 0 ∧ l = 0) ∨ (kd = 3 ∧ 1 ≤ f ∧ f ≤ l ∧ l ≤ 63) ∨ (kd = 4 ∧ 1 ≤ f ∧ f ≤ l ∧ l ≤ 63))
def seqE (kd f l b : Nat) (CC : Nat → Int) (T D O : Nat → Nat) : List (Nat × Nat) → (Nat → Int) → Nat → List Nat → List (Nat × Nat × Nat) × (Nat → Int) × Nat × List Nat
  | [], P, run, held => ([], P, run, held)
  | q :: L, P, run, held =>
    let r := blkE kd f l b (fun k => CC (64 * (T q.1 + q.2) + k)) (D q.1) (O q.1) (P q.1) run held
    let r2 := seqE kd f l b CC T D O L (fun x => if x = q.1 then r.2.1 else P x) r.2.2.1 r.2.2.2
    (r.1 ++ r2.1, r2.2)
def unE (kd f l b : Nat) (CC : Nat → Int) (T D O : Nat → Nat) (UL : Nat → List (Nat × Nat)) (iv t0 : Nat) : Nat → Nat → (Nat → Int) → Nat → List Nat → List (Nat × Nat × Nat) × (Nat → Int) × Nat × List Nat
  | 0, _, P, run, held => ([], P, run, held)
  | j + 1, u, P, run, held =>
    if 0 < iv ∧ 0 < u ∧ u % iv = 0 then
      let r := seqE kd f l b CC T D O (UL u) (fun _ => 0) 0 []
      let r2 := unE kd f l b CC T D O UL iv t0 j (u + 1) r.2.1 r.2.2.1 r.2.2.2
      (srE t0 run held ++ ((2, 0, 0) :: (3, 208 + (u / iv - 1) % 8, 0) :: (r.1 ++ r2.1)), r2.2)
    else
      let r := seqE kd f l b CC T D O (UL u) P run held
      let r2 := unE kd f l b CC T D O UL iv t0 j (u + 1) r.2.1 r.2.2.1 r.2.2.2
      (r.1 ++ r2.1, r2.2)
def allE (kd f l b : Nat) (CC : Nat → Int) (T D O : Nat → Nat) (UL : Nat → List (Nat × Nat)) (iv t0 n : Nat) : List (Nat × Nat × Nat) :=
  (unE kd f l b CC T D O UL iv t0 n 0 (fun _ => 0) 0 []).1 ++ (srE t0 (unE kd f l b CC T D O UL iv t0 n 0 (fun _ => 0) 0 []).2.2.1 (unE kd f l b CC T D O UL iv t0 n 0 (fun _ => 0) 0 []).2.2.2 ++ [(2, 0, 0)])
/-- what is known of a block: its component, its coefficients -/
def okBk (CC : Nat → Int) (T D O : Nat → Nat) (nco : Nat) (co dt ot : Nat → Int32) (q : Nat × Nat) : Prop := q.1 < 4 ∧ dt q.1 = zI (D q.1 : Nat) ∧ ot q.1 = zI (O q.1 : Nat) ∧ D q.1 < 8 ∧ O q.1 < 8 ∧ ∀ k, k ≤ 63 → 64 * (T q.1 + q.2) + k < nco ∧ co (64 * (T q.1 + q.2) + k) = zI (CC (64 * (T q.1 + q.2) + k)) ∧ -1024 ≤ CC (64 * (T q.1 + q.2) + k) ∧ CC (64 * (T q.1 + q.2) + k) ≤ 1023
def rP (p : Nat → Int32) (P : Nat → Int) : Prop := ∀ c, c < 4 → p c = zI (P c) ∧ -1024 ≤ P c ∧ P c ≤ 1023
theorem blkE_low {kd f l b : Nat} {C : Nat → Int} {d t : Nat} {p : Int} {run : Nat} {held : List Nat} (h : kd < 3) : (blkE kd f l b C d t p run held).2.2.1 = run ∧ (blkE kd f l b C d t p run held).2.2.2 = held := by
  unfold blkE
  by_cases h0 : kd = 0
  · rw [if_pos h0]; exact ⟨rfl, rfl⟩
  · by_cases h1 : kd = 1
    · rw [if_neg h0, if_pos h1]; exact ⟨rfl, rfl⟩
    · rw [if_neg h0, if_neg h1, if_pos (by omega)]; exact ⟨rfl, rfl⟩
theorem blkE_3a {f l b : Nat} {C : Nat → Int} {d t : Nat} {p : Int} {run : Nat} {held : List Nat} (h : (othE C t b (l + 1 - f) f run held 0).2.2.2 = 0) : blkE 3 f l b C d t p run held = ((othE C t b (l + 1 - f) f run held 0).1, p, (othE C t b (l + 1 - f) f run held 0).2.1, (othE C t b (l + 1 - f) f run held 0).2.2.1) := by
  unfold blkE
  rw [if_neg (by decide), if_neg (by decide), if_neg (by decide), if_pos rfl, if_pos h]
theorem blkE_3b {f l b : Nat} {C : Nat → Int} {d t : Nat} {p : Int} {run : Nat} {held : List Nat} (h : 0 < (othE C t b (l + 1 - f) f run held 0).2.2.2) : blkE 3 f l b C d t p run held = ((othE C t b (l + 1 - f) f run held 0).1 ++ (finE t ((othE C t b (l + 1 - f) f run held 0).2.1 + 1) (othE C t b (l + 1 - f) f run held 0).2.2.1).1, p, (finE t ((othE C t b (l + 1 - f) f run held 0).2.1 + 1) (othE C t b (l + 1 - f) f run held 0).2.2.1).2) := by
  unfold blkE
  rw [if_neg (by decide), if_neg (by decide), if_neg (by decide), if_pos rfl, if_neg (by omega)]
theorem blkE_4a {f l b : Nat} {C : Nat → Int} {d t : Nat} {p : Int} {run : Nat} {held : List Nat} (h : (refE C t b (lnF C b (l + 1 - f) f) (l + 1 - f) f run held 0 []).2.2.2.1 = 0 ∧ (refE C t b (lnF C b (l + 1 - f) f) (l + 1 - f) f run held 0 []).2.2.2.2 = []) : blkE 4 f l b C d t p run held = ((refE C t b (lnF C b (l + 1 - f) f) (l + 1 - f) f run held 0 []).1, p, (refE C t b (lnF C b (l + 1 - f) f) (l + 1 - f) f run held 0 []).2.1, (refE C t b (lnF C b (l + 1 - f) f) (l + 1 - f) f run held 0 []).2.2.1) := by
  unfold blkE
  rw [if_neg (by decide), if_neg (by decide), if_neg (by decide), if_neg (by decide)]
  dsimp only
  rw [if_pos h]
theorem blkE_4b {f l b : Nat} {C : Nat → Int} {d t : Nat} {p : Int} {run : Nat} {held : List Nat} (h : ¬ ((refE C t b (lnF C b (l + 1 - f) f) (l + 1 - f) f run held 0 []).2.2.2.1 = 0 ∧ (refE C t b (lnF C b (l + 1 - f) f) (l + 1 - f) f run held 0 []).2.2.2.2 = [])) : blkE 4 f l b C d t p run held = ((refE C t b (lnF C b (l + 1 - f) f) (l + 1 - f) f run held 0 []).1 ++ (finE t ((refE C t b (lnF C b (l + 1 - f) f) (l + 1 - f) f run held 0 []).2.1 + 1) ((refE C t b (lnF C b (l + 1 - f) f) (l + 1 - f) f run held 0 []).2.2.1 ++ (refE C t b (lnF C b (l + 1 - f) f) (l + 1 - f) f run held 0 []).2.2.2.2)).1, p, (finE t ((refE C t b (lnF C b (l + 1 - f) f) (l + 1 - f) f run held 0 []).2.1 + 1) ((refE C t b (lnF C b (l + 1 - f) f) (l + 1 - f) f run held 0 []).2.2.1 ++ (refE C t b (lnF C b (l + 1 - f) f) (l + 1 - f) f run held 0 []).2.2.2.2)).2) := by
  unfold blkE
  rw [if_neg (by decide), if_neg (by decide), if_neg (by decide), if_neg (by decide)]
  dsimp only
  rw [if_neg h]
theorem rHeld_fin {er : Nat → Int32} {t run : Nat} {held : List Nat} (h : rHeld er held) : rHeld er (finE t run held).2.2 := by
  unfold finE
  split
  · exact fun i hi => by simp at hi
  · exact h
theorem floor_rng {d : Int} {b : Nat} (h3 : -1024 ≤ d) (h4 : d ≤ 1023) : -1024 ≤ d / 2 ^ b ∧ d / 2 ^ b ≤ 1023 := by
  have hp1 : (1 : Int) ≤ 2 ^ b := by rw [two_pow_c]; have := Nat.one_le_two_pow (n := b); omega
  constructor
  · rw [Int.le_ediv_iff_mul_le (by omega)]
    have : (-1024 : Int) * 2 ^ b ≤ -1024 * 1 := Int.mul_le_mul_of_nonpos_left (by decide) hp1
    omega
  · have : d / 2 ^ b < 1024 := by
      rw [Int.ediv_lt_iff_lt_mul (by omega)]
      have : (1024 : Int) * 1 ≤ 1024 * 2 ^ b := Int.mul_le_mul_of_nonneg_left hp1 (by decide)
      omega
    omega
theorem ref_held {er : Nat → Int32} (C : Nat → Int) (t b : Nat) (ln : Int) : ∀ (j k run : Nat) (held : List Nat) (z : Nat) (com : List Nat), rHeld er held → rHeld er (refE C t b ln j k run held z com).2.2.1
  | 0, _, _, _, _, _, h => h
  | j + 1, k, run, held, z, com, h => by
    unfold refE
    by_cases e : amt (C k) b = 0
    · rw [if_pos e]; exact ref_held C t b ln j (k + 1) run held (z + 1) com h
    · rw [if_neg e]
      dsimp only
      have hz : rHeld er (zrE t (if (k : Int) ≤ ln then z / 16 else 0) run held com).2.2.1 := by
        rcases zrE_run t (if (k : Int) ≤ ln then z / 16 else 0) run held com with ⟨_, e⟩ | ⟨_, e⟩
        · rw [e]; exact h
        · rw [e]; exact fun i hi => by simp at hi
      by_cases e1 : 1 < amt (C k) b
      · rw [if_pos e1]; exact ref_held C t b ln j (k + 1) _ _ _ _ hz
      · rw [if_neg e1]; exact ref_held C t b ln j (k + 1) 0 [] 0 [] (fun i hi => by simp at hi)
theorem hE_len (a b : List (Nat × Nat × Nat)) : (a ++ b).length = a.length + b.length := List.length_append
set_option maxHeartbeats 1000000 in
theorem q_ro_cnt (N : Nat) (hN : 20000 ≤ N) {C : Nat → Int} {pl nco f l b t run : Nat} {held : List Nat} {co : Nat → Int32} (hnco : nco ≤ 12288) (hb : b ≤ 9) (hl : l ≤ 63) (hf1 : 1 ≤ f) (hfl : f ≤ l) (hC : ∀ k, k ≤ 63 → pl + k < nco ∧ co (pl + k) = zI (C k) ∧ -1024 ≤ C k ∧ C k ≤ 1023) (ht : t < 8) (er : Nat → Int32) (hR : okR run held) {es : List (Nat × Nat × Nat)} {tot : Int32} {ct : Nat → Int32} (h : rCnt (es) tot ct) :
    ∃ tot1 ct1 er1, ((refE C t b (lnF C b (l + 1 - f) f) (l + 1 - f) f run held 0 []).2.2.2.1 = 0 ∧ (refE C t b (lnF C b (l + 1 - f) f) (l + 1 - f) f run held 0 []).2.2.2.2 = []) ∧ f_Encoder_refineOthers_cnt N (zI pl) nco co (zI f) (zI l) (zI b) tot ct (zI run) (zI (held.length : Nat)) (zI t) er = some (tot1, ct1, zI ((refE C t b (lnF C b (l + 1 - f) f) (l + 1 - f) f run held 0 []).2.1 : Nat), zI ((refE C t b (lnF C b (l + 1 - f) f) (l + 1 - f) f run held 0 []).2.2.1.length : Nat), er1) ∧ rCnt (es ++ (refE C t b (lnF C b (l + 1 - f) f) (l + 1 - f) f run held 0 []).1) tot1 ct1 ∧ er1 = er ∨
      ¬ ((refE C t b (lnF C b (l + 1 - f) f) (l + 1 - f) f run held 0 []).2.2.2.1 = 0 ∧ (refE C t b (lnF C b (l + 1 - f) f) (l + 1 - f) f run held 0 []).2.2.2.2 = []) ∧ f_Encoder_refineOthers_cnt N (zI pl) nco co (zI f) (zI l) (zI b) tot ct (zI run) (zI (held.length : Nat)) (zI t) er = some (tot1, ct1, zI ((refE C t b (lnF C b (l + 1 - f) f) (l + 1 - f) f run held 0 []).2.1 + 1 : Nat), zI (((refE C t b (lnF C b (l + 1 - f) f) (l + 1 - f) f run held 0 []).2.2.1 ++ (refE C t b (lnF C b (l + 1 - f) f) (l + 1 - f) f run held 0 []).2.2.2.2).length : Nat), er1) ∧ rCnt (es ++ (refE C t b (lnF C b (l + 1 - f) f) (l + 1 - f) f run held 0 []).1) tot1 ct1 ∧ (rHeld er (refE C t b (lnF C b (l + 1 - f) f) (l + 1 - f) f run held 0 []).2.2.1 → rHeld er1 ((refE C t b (lnF C b (l + 1 - f) f) (l + 1 - f) f run held 0 []).2.2.1 ++ (refE C t b (lnF C b (l + 1 - f) f) (l + 1 - f) f run held 0 []).2.2.2.2)) := by
  obtain ⟨hln, hlx⟩ := ln_ge C b f l hfl
  have q1 := q_ln_cnt N hN hnco hb hf1 hl hfl hC
  obtain ⟨tot2, ct2, p2, w2, r2, d2⟩ := q_ref_cnt N hN ⟨hln.1, by omega⟩ hlx hnco hb hl hC ht (l + 1 - f) f N run held 0 [] (0 : Int64) es tot ct (Nat.le_refl _) (by omega) (by omega) (by simp; omega) (by omega) hR (comOK_nil _) (fun x hx => by simp at hx) h
  have w2' : f_Encoder_refineOthers_cnt_L23 (zI (l : Nat)) (zI (pl : Nat)) nco co (zI (b : Nat)) (zI (lnF C b (l + 1 - f) f)) (zI t) N N ((0 : Int32), (0 : Int64), (0 : Int32), zI f, tot, ct, zI run, zI (held.length : Nat)) = _ := w2
  obtain ⟨k1, k2, k3, k4⟩ := refE_ok C t b (lnF C b (l + 1 - f) f) (l + 1 - f) f run held 0 [] hR (fun x hx => by simp at hx)
  unfold f_Encoder_refineOthers_cnt f_Encoder_refineOthers_cnt_J219
  rw [q1]
  dsimp only [Option.bind_some]
  rw [w2']
  dsimp only [Option.bind_some]
  generalize (refE C t b (lnF C b (l + 1 - f) f) (l + 1 - f) f run held 0 []) = O at *
  obtain ⟨oe, orun, oheld, oz, ocom⟩ := O
  dsimp only at *
  simp only [List.length_nil] at k3
  obtain ⟨er1, l1, l2⟩ := q_len_cnt N hN (held := oheld) (run := orun) d2 k1.2.1 er
  by_cases z0 : oz = 0
  · rw [if_neg (by rw [z0]; decide)]
    by_cases c0 : ocom = []
    · rw [if_pos (by rw [c0]; decide)]
      exact ⟨_, _, _, Or.inl ⟨⟨z0, c0⟩, rfl, r2, rfl⟩⟩
    · have : 0 < ocom.length := List.length_pos_iff.mpr c0
      rw [if_neg (by rw [zI_lit, zI_le (by omega) (by omega) (by decide) (by decide)]; show ¬ _ ≤ (0 : Int); omega), l1]
      exact ⟨_, _, er1, Or.inr ⟨fun h => c0 h.2, rfl, r2, l2⟩⟩
  · rw [if_pos (by rw [zI_lit, zI_lt (by decide) (by decide) (by omega) (by omega)]; show (0 : Int) < _; omega), l1]
    exact ⟨_, _, er1, Or.inr ⟨fun h => z0 h.1, rfl, r2, l2⟩⟩

theorem q_J_cnt (N : Nat) (hN : 20000 ≤ N) (g : (Int32 × Int32 × (Nat → Int32) × Int32 × Int32 × Int32 × (Nat → Int32) × (Nat → Int32)) → Option (Int32 × (Nat → Int32) × Int32 × Int32 × Int32 × (Nat → Int32) × (Nat → Int32))) {t run i : Nat} {held : List Nat} (ht : t < 8) (hi : i ≤ 1000) (hr : run ≤ 32767) (hh : held.length ≤ 963) (h0 : run = 0 → held = []) (p er : Nat → Int32) {es : List (Nat × Nat × Nat)} {tot : Int32} {ct : Nat → Int32} (h : rCnt (es) tot ct) :
    ∃ tot1 ct1, f_Encoder_encode_cnt_J69_241 N g (zI run) tot ct (zI (held.length : Nat)) (zI t) (zI i) p er = g (zI ((i + 1 : Nat) : Int), tot1, ct1, zI ((finE t run held).2.1 : Nat), zI ((finE t run held).2.2.length : Nat), zI t, p, er) ∧ rCnt (es ++ (finE t run held).1) tot1 ct1 := by
  have ei : zI (i : Int) + (1 : Int32) = zI ((i + 1 : Nat) : Int) := by rw [zI_lit, zI_add]; rfl
  unfold f_Encoder_encode_cnt_J69_241 f_Encoder_encode_cnt_J69_261 f_Encoder_encode_cnt_J69_265
  rw [ei]
  unfold finE 
  by_cases c : run = 32767 ∨ 900 < held.length
  · 
    rw [if_pos c]
    obtain ⟨tot2, ct2, w2, r2⟩ := q_sendRun_cnt N hN h (run := run) (held := held) (t := t) (rt := zI t) (by omega) (by omega) h0 (fun _ => ⟨ht, rfl⟩)
    rw [w2]
    by_cases c1 : run = 32767
    · rw [if_pos (by rw [c1]; rfl)]
      exact ⟨_, _, rfl, r2⟩
    · rw [if_neg (by rw [zI_lit, zI_eq (by omega) (by omega) (by decide) (by decide)]; show ¬ _ = (32767 : Int); omega), if_neg (by rw [zI_lit, zI_le (by omega) (by omega) (by decide) (by decide)]; show ¬ _ ≤ (900 : Int); omega)]
      exact ⟨_, _, rfl, r2⟩
  · 
    rw [if_neg c, if_neg (by rw [zI_lit, zI_eq (by omega) (by omega) (by decide) (by decide)]; show ¬ _ = (32767 : Int); omega), if_pos (by rw [zI_lit, zI_le (by omega) (by omega) (by decide) (by decide)]; show _ ≤ (900 : Int); omega)]
    refine ⟨_, _, rfl, ?_⟩
    show rCnt (es ++ []) tot ct
    rw [List.append_nil]; exact h
theorem q_J0_cnt (N : Nat) (hN : 20000 ≤ N) (g : (Int32 × Int32 × (Nat → Int32) × Int32 × Int32 × Int32 × (Nat → Int32) × (Nat → Int32)) → Option (Int32 × (Nat → Int32) × Int32 × Int32 × Int32 × (Nat → Int32) × (Nat → Int32))) {t run i : Nat} {held : List Nat} (hR : okR run held) (p er : Nat → Int32) {tot : Int32} {ct : Nat → Int32} : f_Encoder_encode_cnt_J69_241 N g (zI run) tot ct (zI (held.length : Nat)) (zI t) (zI i) p er = g (zI ((i + 1 : Nat) : Int), tot, ct, zI (run : Nat), zI (held.length : Nat), zI t, p, er) := by
  have ei : zI (i : Int) + (1 : Int32) = zI ((i + 1 : Nat) : Int) := by rw [zI_lit, zI_add]; rfl
  obtain ⟨h1, h2, -⟩ := hR
  unfold f_Encoder_encode_cnt_J69_241 f_Encoder_encode_cnt_J69_265
  rw [ei, if_neg (by rw [zI_lit, zI_eq (by omega) (by omega) (by decide) (by decide)]; show ¬ _ = (32767 : Int); omega), if_pos (by rw [zI_lit, zI_le (by omega) (by omega) (by decide) (by decide)]; show _ ≤ (900 : Int); omega)]

set_option maxHeartbeats 4000000 in
theorem q_blk_cnt (N : Nat) (hN : 20000 ≤ N) (g : (Int32 × Int32 × (Nat → Int32) × Int32 × Int32 × Int32 × (Nat → Int32) × (Nat → Int32)) → Option (Int32 × (Nat → Int32) × Int32 × Int32 × Int32 × (Nat → Int32) × (Nat → Int32))) {kd f l b nco i run : Nat} {held : List Nat} {CC : Nat → Int} {T D O : Nat → Nat} {co dt ot ow pls p er : Nat → Int32} {v3 bl rt : Int32} {q : Nat × Nat} {P : Nat → Int} (hnco : nco ≤ 12288) (hK : okK kd f l b) (hq : okBk CC T D O nco co dt ot q) (hi : i < 192) (hlt : ¬ (v3 + bl) ≤ zI (i : Int)) (hw : ow i = zI (q.1 : Nat)) (hpl : pls i = zI (64 * (T q.1 + q.2) : Nat)) (hP : rP p P) (hR : okR run held) (hlow : kd < 3 → run = 0) {es : List (Nat × Nat × Nat)} {tot : Int32} {ct : Nat → Int32} (h : rCnt (es) tot ct) :
    ∃ tot1 ct1 p1 er1, f_Encoder_encode_cnt_L69b v3 bl ow (zI (kd : Nat)) pls nco co (zI (b : Nat)) dt (zI (l : Nat)) ot (zI (f : Nat)) N g (zI (i : Int)) tot ct (zI run) (zI (held.length : Nat)) rt p er = g (zI ((i + 1 : Nat) : Int), tot1, ct1, zI ((blkE kd f l b (fun k => CC (64 * (T q.1 + q.2) + k)) (D q.1) (O q.1) (P q.1) run held).2.2.1 : Nat), zI ((blkE kd f l b (fun k => CC (64 * (T q.1 + q.2) + k)) (D q.1) (O q.1) (P q.1) run held).2.2.2.length : Nat), zI (O q.1 : Nat), p1, er1) ∧ rCnt (es ++ (blkE kd f l b (fun k => CC (64 * (T q.1 + q.2) + k)) (D q.1) (O q.1) (P q.1) run held).1) tot1 ct1 ∧ rP p1 (fun y => if y = q.1 then (blkE kd f l b (fun k => CC (64 * (T q.1 + q.2) + k)) (D q.1) (O q.1) (P q.1) run held).2.1 else P y) := by
  obtain ⟨hc4, hd, ho, hd8, ho8, hC⟩ := hq
  obtain ⟨hb, hK⟩ := hK
  have g1 : (zI ((i : Nat) : Int)).toNatClampNeg = i := by rw [zI_cl (by omega) (by omega), Int.toNat_natCast]
  have g2 : (zI ((q.1 : Nat) : Int)).toNatClampNeg = q.1 := by rw [zI_cl (by omega) (by omega), Int.toNat_natCast]
  have gi : ¬ (zI ((i : Nat) : Int) < 0 ∨ 192 ≤ i) := by rw [zI_lit, zI_lt (by omega) (by omega) (by decide) (by decide)]; show ¬ (_ < (0 : Int) ∨ _); omega
  have gc : ¬ (zI ((q.1 : Nat) : Int) < 0 ∨ 4 ≤ q.1) := by rw [zI_lit, zI_lt (by omega) (by omega) (by decide) (by decide)]; show ¬ (_ < (0 : Int) ∨ _); omega
  have hPs : rP p (fun y => if y = q.1 then P q.1 else P y) := fun c hc => by
    dsimp only
    by_cases e : c = q.1
    · rw [if_pos e]; rw [e] at hc ⊢; exact hP q.1 hc
    · rw [if_neg e]; exact hP c hc
  have hPu : ∀ v : Int, -1024 ≤ v ∧ v ≤ 1023 → rP (upd p q.1 (zI v)) (fun y => if y = q.1 then v else P y) := fun v hv c hc => by
    dsimp only
    by_cases e : c = q.1
    · rw [if_pos e, e, pk_us]; exact ⟨rfl, hv⟩
    · rw [if_neg e, pk_un e]; exact hP c hc
  obtain ⟨hp1, hp2⟩ := hP q.1 hc4
  unfold f_Encoder_encode_cnt_L69b
  rw [if_neg hlt, g1, hw, g2, hpl, ho, if_neg gi, if_neg gi, if_neg gc]
  rcases hK with ⟨rfl, rfl, rfl, rfl⟩ | ⟨rfl, rfl, rfl⟩ | ⟨rfl, rfl, rfl⟩ | ⟨rfl, hf1, hfl, hl⟩ | ⟨rfl, hf1, hfl, hl⟩
  · obtain rfl := hlow (by omega)
    obtain rfl := hR.2.2.1 rfl
    rw [if_pos (show zI ((0 : Nat) : Int) = (0 : Int32) from rfl)]
    have eB : blkE 0 0 63 0 (fun k => CC (64 * (T q.1 + q.2) + k)) (D q.1) (O q.1) (P q.1) 0 [] = (dirE (fun k => CC (64 * (T q.1 + q.2) + k)) (D q.1) 0 (P q.1) ++ ((othE (fun k => CC (64 * (T q.1 + q.2) + k)) (O q.1) 0 63 1 0 [] 0).1 ++ if (othE (fun k => CC (64 * (T q.1 + q.2) + k)) (O q.1) 0 63 1 0 [] 0).2.2.2 = 0 then [] else [(0, O q.1, 0)]), CC (64 * (T q.1 + q.2) + 0) / 2 ^ 0, 0, []) := rfl
    rw [eB] 
    
    obtain ⟨tot2, ct2, w2, r2, v2⟩ := q_dir_cnt N hN (C := (fun k => CC (64 * (T q.1 + q.2) + k))) (pl := 64 * (T q.1 + q.2)) hnco hb hc4 hd hd8 (hC 0 (by omega)) hp1 hp2 h
    rw [w2]
    dsimp only [Option.bind_some]
    obtain ⟨tot3, ct3, er3, w3⟩ := q_so_cnt N hN (C := (fun k => CC (64 * (T q.1 + q.2) + k))) (f := 1) (l := 63) (b := 0) (t := O q.1) (kd := 0) (run := 0) (held := []) hnco hb (by omega) (by omega) (by omega) hC ho8 (Or.inl rfl) er okR_0 r2
    have hz := (othE_run (fun k => CC (64 * (T q.1 + q.2) + k)) (O q.1) 0 63 1 0 [] 0).1
    have hz1 : (othE (fun k => CC (64 * (T q.1 + q.2) + k)) (O q.1) 0 63 1 0 [] 0).2.1 = 0 := by rcases hz with h | h <;> exact h.1
    have hz2 : (othE (fun k => CC (64 * (T q.1 + q.2) + k)) (O q.1) 0 63 1 0 [] 0).2.2.1 = [] := by rcases hz with h | h <;> exact h.2
    rw [show 63 + 1 - 1 = 63 from rfl] at w3
    rw [hz1, hz2] at w3
    rcases w3 with ⟨z0, w3, r3, rfl⟩ | ⟨z0, -, w3, r3, rfl⟩ | ⟨_, e, _⟩
    · rw [show f_Encoder_sendOthers_cnt N (zI ((64 * (T q.1 + q.2) : Nat) : Int)) (1 : Int32) nco co (zI ((0 : Nat) : Int)) (zI ((63 : Nat) : Int)) (zI ((0 : Nat) : Int)) tot2 ct2 (zI ((0 : Nat) : Int)) (zI (([] : List Nat).length : Nat)) (zI (O q.1 : Nat)) er3 = some (tot3, ct3, zI ((0 : Nat) : Int), zI (([] : List Nat).length : Nat), er3) from w3]
      refine ⟨tot3, ct3, _, _, q_J0_cnt N hN g okR_0 _ _, ?_, hPu _ v2⟩
      rw [if_pos z0, List.append_nil, ← List.append_assoc]
      exact r3
    · rw [show f_Encoder_sendOthers_cnt N (zI ((64 * (T q.1 + q.2) : Nat) : Int)) (1 : Int32) nco co (zI ((0 : Nat) : Int)) (zI ((63 : Nat) : Int)) (zI ((0 : Nat) : Int)) tot2 ct2 (zI ((0 : Nat) : Int)) (zI (([] : List Nat).length : Nat)) (zI (O q.1 : Nat)) er3 = some (tot3, ct3, zI ((0 : Nat) : Int), zI (([] : List Nat).length : Nat), er3) from w3]
      refine ⟨tot3, ct3, _, _, q_J0_cnt N hN g okR_0 _ _, ?_, hPu _ v2⟩
      rw [if_neg (by omega), ← List.append_assoc]
      exact r3
    · exact absurd e (by decide)
  · obtain rfl := hlow (by omega)
    obtain rfl := hR.2.2.1 rfl
    rw [if_neg (show ¬ zI ((1 : Nat) : Int) = (0 : Int32) by decide), if_pos (show zI ((1 : Nat) : Int) = (1 : Int32) from rfl)]
    have eB : blkE 1 0 0 b (fun k => CC (64 * (T q.1 + q.2) + k)) (D q.1) (O q.1) (P q.1) 0 [] = (dirE (fun k => CC (64 * (T q.1 + q.2) + k)) (D q.1) b (P q.1), CC (64 * (T q.1 + q.2) + 0) / 2 ^ b, 0, []) := rfl
    rw [eB] 
    
    obtain ⟨tot2, ct2, w2, r2, v2⟩ := q_dir_cnt N hN (C := (fun k => CC (64 * (T q.1 + q.2) + k))) (pl := 64 * (T q.1 + q.2)) hnco hb hc4 hd hd8 (hC 0 (by omega)) hp1 hp2 h
    rw [w2]
    exact ⟨tot2, ct2, _, _, q_J0_cnt N hN g okR_0 _ _, r2, hPu _ v2⟩
  · obtain rfl := hlow (by omega)
    obtain rfl := hR.2.2.1 rfl
    rw [if_neg (show ¬ zI ((2 : Nat) : Int) = (0 : Int32) by decide), if_neg (show ¬ zI ((2 : Nat) : Int) = (1 : Int32) by decide), if_pos (show zI ((2 : Nat) : Int) = (2 : Int32) from rfl)]
    have eB : blkE 2 0 0 b (fun k => CC (64 * (T q.1 + q.2) + k)) (D q.1) (O q.1) (P q.1) 0 [] = ([(1, (CC (64 * (T q.1 + q.2) + 0) / 2 ^ b % 2).toNat, 0)], P q.1, 0, []) := rfl
    rw [eB] 
    obtain ⟨k1, k2, k3, k4⟩ := hC 0 (by omega)
    rw [Nat.add_zero] at k1 k2 k3 k4 ⊢
    have g3 : (zI ((64 * (T q.1 + q.2) : Nat) : Int)).toNatClampNeg = 64 * (T q.1 + q.2) := by rw [zI_cl (by omega) (by omega), Int.toNat_natCast]
    rw [g3, if_neg (by rw [zI_lit, zI_lt (by omega) (by omega) (by decide) (by decide)]; show ¬ (_ < (0 : Int) ∨ _); omega)]
    exact ⟨tot, ct, _, _, q_J0_cnt N hN g okR_0 _ _, rCnt_skip h (fun e he => by simp only [List.mem_singleton] at he; subst he; simp), hPs⟩
  · rw [if_neg (show ¬ zI ((3 : Nat) : Int) = (0 : Int32) by decide), if_neg (show ¬ zI ((3 : Nat) : Int) = (1 : Int32) by decide), if_neg (show ¬ zI ((3 : Nat) : Int) = (2 : Int32) by decide), if_pos (show zI ((3 : Nat) : Int) = (3 : Int32) from rfl)]
    have hoR := othE_ok (C := (fun k => CC (64 * (T q.1 + q.2) + k))) (t := O q.1) (b := b) (j := l + 1 - f) (k := f) (z := 0) hR
    
    obtain ⟨tot3, ct3, er3, w3⟩ := q_so_cnt N hN (C := (fun k => CC (64 * (T q.1 + q.2) + k))) (f := f) (l := l) (b := b) (t := O q.1) (kd := 3) (run := run) (held := held) hnco hb hl hf1 hfl hC ho8 (Or.inr rfl) er hR h
    
    rcases w3 with ⟨z0, w3, r3, rfl⟩ | ⟨_, e, _⟩ | ⟨z0, -, w3, r3, r4⟩
    · rw [w3]
      rw [blkE_3a z0]
      exact ⟨tot3, ct3, _, _, q_J0_cnt N hN g hoR _ _, r3, hPs⟩
    · exact absurd e (by decide)
    · rw [w3]
      
      
      obtain ⟨tot4, ct4, w4, s4⟩ := q_J_cnt N hN g (t := O q.1) (run := (othE (fun k => CC (64 * (T q.1 + q.2) + k)) (O q.1) b (l + 1 - f) f run held 0).2.1 + 1) (i := i) (held := (othE (fun k => CC (64 * (T q.1 + q.2) + k)) (O q.1) b (l + 1 - f) f run held 0).2.2.1) ho8 (by omega) (by have := hoR.1; omega) (by have := hoR.2.1; omega) (fun h => absurd h (by omega)) p er3 r3
      rw [blkE_3b z0]
      rw [List.append_assoc] at s4
      exact ⟨tot4, ct4, _, _, w4, s4, hPs⟩
  · rw [if_neg (show ¬ zI ((4 : Nat) : Int) = (0 : Int32) by decide), if_neg (show ¬ zI ((4 : Nat) : Int) = (1 : Int32) by decide), if_neg (show ¬ zI ((4 : Nat) : Int) = (2 : Int32) by decide), if_neg (show ¬ zI ((4 : Nat) : Int) = (3 : Int32) by decide)]
    obtain ⟨hoR, ho2, ho3, ho4⟩ := refE_ok (fun k => CC (64 * (T q.1 + q.2) + k)) (O q.1) b (lnF (fun k => CC (64 * (T q.1 + q.2) + k)) b (l + 1 - f) f) (l + 1 - f) f run held 0 [] hR (fun x hx => by simp at hx)
    simp only [List.length_nil] at ho3
    
    obtain ⟨tot3, ct3, er3, w3⟩ := q_ro_cnt N hN (C := (fun k => CC (64 * (T q.1 + q.2) + k))) (f := f) (l := l) (b := b) (t := O q.1) (run := run) (held := held) hnco hb hl hf1 hfl hC ho8 er hR h
    
    rcases w3 with ⟨z0, w3, r3, rfl⟩ | ⟨z0, w3, r3, r4⟩
    · rw [w3]
      rw [blkE_4a z0]
      exact ⟨tot3, ct3, _, _, q_J0_cnt N hN g hoR _ _, r3, hPs⟩
    · rw [w3]
      
      
      obtain ⟨tot4, ct4, w4, s4⟩ := q_J_cnt N hN g (t := O q.1) (run := (refE (fun k => CC (64 * (T q.1 + q.2) + k)) (O q.1) b (lnF (fun k => CC (64 * (T q.1 + q.2) + k)) b (l + 1 - f) f) (l + 1 - f) f run held 0 []).2.1 + 1) (i := i) (held := (refE (fun k => CC (64 * (T q.1 + q.2) + k)) (O q.1) b (lnF (fun k => CC (64 * (T q.1 + q.2) + k)) b (l + 1 - f) f) (l + 1 - f) f run held 0 []).2.2.1 ++ (refE (fun k => CC (64 * (T q.1 + q.2) + k)) (O q.1) b (lnF (fun k => CC (64 * (T q.1 + q.2) + k)) b (l + 1 - f) f) (l + 1 - f) f run held 0 []).2.2.2.2) ho8 (by omega) (by have := hoR.1; omega) (by have := hoR.2.1; rw [List.length_append]; omega) (fun h => absurd h (by omega)) p er3 r3
      rw [blkE_4b z0]
      rw [List.append_assoc] at s4
      exact ⟨tot4, ct4, _, _, w4, s4, hPs⟩
