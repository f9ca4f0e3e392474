/-! WRITING: the sinks -/
def cW (es : List (Nat × Nat × Nat)) : Nat := es.countP fun e => e.1 == 0
def cWi (es : List (Nat × Nat × Nat)) (i : Nat) : Nat := es.countP fun e => e.1 == 0 && 256 * e.2.1 + e.2.2 == i
def rCnt (es : List (Nat × Nat × Nat)) (tot : Int32) (ct : Nat → Int32) : Prop := tot = zI (cW es : Nat) ∧ ∀ i, i < 2048 → ct i = zI (cWi es i : Nat)
theorem cW_app (a b : List (Nat × Nat × Nat)) : cW (a ++ b) = cW a + cW b := List.countP_append
theorem cWi_app (a b : List (Nat × Nat × Nat)) (i : Nat) : cWi (a ++ b) i = cWi a i + cWi b i := List.countP_append
theorem c_nw {l : List (Nat × Nat × Nat)} (h : ∀ e, e ∈ l → e.1 ≠ 0) (i : Nat) : cW l = 0 ∧ cWi l i = 0 := by
  unfold cW cWi
  rw [List.countP_eq_zero, List.countP_eq_zero]
  refine ⟨fun e he => by simp [h e he], fun e he => by simp [h e he]⟩
theorem rCnt_skip {es l : List (Nat × Nat × Nat)} {tot : Int32} {ct : Nat → Int32} (h : rCnt es tot ct) (hl : ∀ e, e ∈ l → e.1 ≠ 0) : rCnt (es ++ l) tot ct := by
  refine ⟨?_, fun i hi => ?_⟩
  · rw [cW_app, (c_nw hl 0).1, Nat.add_zero]; exact h.1
  · rw [cWi_app, (c_nw hl i).2, Nat.add_zero]; exact h.2 i hi
theorem evB_nw (v : Int) : ∀ n, ∀ e, e ∈ evB v n → e.1 ≠ 0
  | 0, e, h => by simp [evB] at h
  | n + 1, e, h => by
    simp only [evB, List.mem_cons] at h
    rcases h with rfl | h
    · simp
    · exact evB_nw v n e h
theorem mapB_nw (l : List Nat) : ∀ e, e ∈ l.map (fun x => (1, x, 0)) → e.1 ≠ 0 := by
  intro e h
  rw [List.mem_map] at h
  obtain ⟨x, -, rfl⟩ := h
  simp
theorem c_1 (es : List (Nat × Nat × Nat)) (t s : Nat) : cW (es ++ [(0, t, s)]) = cW es + 1 ∧ ∀ i, cWi (es ++ [(0, t, s)]) i = cWi es i + if 256 * t + s = i then 1 else 0 := by
  refine ⟨?_, fun i => ?_⟩
  · rw [cW_app]; rfl
  · rw [cWi_app]
    congr 1
    unfold cWi
    rw [List.countP_cons]
    by_cases e : 256 * t + s = i
    · rw [if_pos e, if_pos (by simp [e])]; rfl
    · rw [if_neg e, if_neg (by simp [e])]; rfl
theorem q_cWord {es : List (Nat × Nat × Nat)} {tot : Int32} {ct : Nat → Int32} (h : rCnt es tot ct) (t s : Nat) (ht : t < 8) (hs : s < 256) : ∃ tot' ct', f_Counter_putWord (zI t) (zI s) tot ct = some (tot', ct') ∧ rCnt (es ++ [(0, t, s)]) tot' ct' := by
  obtain ⟨c1, c2⟩ := c_1 es t s
  have e : ((t : Int) * 256 + s).toNat = 256 * t + s := by omega
  have hi : 256 * t + s < 2048 := by omega
  unfold f_Counter_putWord
  simp (disch := omega) only [zI_lit, zI_ofNat, zI_nI, zI_neg, zI_add, zI_sub, zI_mul, zI_lt, zI_le, zI_eq, zI_cl, zI_div, zI_shr, zI_shl, zI_and1, zI_and7, zI_and15, zI_and255, if_pos, if_neg, Option.bind_some, Option.bind_none, if_true, if_false, true_or, or_true, Int.toNat_natCast, pk_us]
  rw [e]
  refine ⟨_, _, rfl, ?_, fun i h2 => ?_⟩
  · rw [h.1, zI_add, c1]; rfl
  · rw [c2]
    by_cases e2 : i = 256 * t + s
    · rw [e2, pk_us, if_pos rfl, h.2 _ hi, zI_add]; rfl
    · rw [pk_un e2, if_neg (by omega), Nat.add_zero]; exact h.2 i h2
/-- the writer in numbers: bytes, part of a byte, how many bits it has, whether a word is lacking -/
def wBit (st : List Nat × Nat × Nat × Nat) (x : Nat) : List Nat × Nat × Nat × Nat :=
  if st.2.2.1 + 1 = 8 then (st.1 ++ ((2 * st.2.1 + x) :: if 2 * st.2.1 + x = 255 then [0] else []), 0, 0, st.2.2.2) else (st.1, 2 * st.2.1 + x, st.2.2.1 + 1, st.2.2.2)
def wBits (st : List Nat × Nat × Nat × Nat) (v : Int) : Nat → List Nat × Nat × Nat × Nat
  | 0 => st
  | n + 1 => wBits (wBit st (v / 2 ^ n % 2).toNat) v n
def wEv (Lc Vc : Nat → Nat → Nat) (st : List Nat × Nat × Nat × Nat) (e : Nat × Nat × Nat) : List Nat × Nat × Nat × Nat :=
  if e.1 = 0 then (if Lc e.2.1 e.2.2 = 0 then (st.1, st.2.1, st.2.2.1, 1) else wBits st (Vc e.2.1 e.2.2) (Lc e.2.1 e.2.2))
  else if e.1 = 1 then wBit st e.2.1
  else if e.1 = 2 then (if st.2.2.1 = 0 then st else wBits st 255 (8 - st.2.2.1))
  else (st.1 ++ [255, e.2.1], st.2)
def wAll (Lc Vc : Nat → Nat → Nat) (es : List (Nat × Nat × Nat)) : List Nat × Nat × Nat × Nat := es.foldl (wEv Lc Vc) ([], 0, 0, 0)
theorem wAll_1 (Lc Vc : Nat → Nat → Nat) (es : List (Nat × Nat × Nat)) (e : Nat × Nat × Nat) : wAll Lc Vc (es ++ [e]) = wEv Lc Vc (wAll Lc Vc es) e := by
  unfold wAll
  rw [List.foldl_append]
  rfl
theorem wAll_B (Lc Vc : Nat → Nat → Nat) (es : List (Nat × Nat × Nat)) (v : Int) : ∀ n, wAll Lc Vc (es ++ evB v n) = wBits (wAll Lc Vc es) v n := by
  intro n
  induction n generalizing es with
  | zero => rw [show evB v 0 = [] from rfl, List.append_nil]; rfl
  | succ n ih =>
    rw [show evB v (n + 1) = [(1, (v / 2 ^ n % 2).toNat, 0)] ++ evB v n from rfl, ← List.append_assoc, ih, wAll_1]
    rfl
/-- a state of the writer that can be: p below 2^f, f below 8, bytes are bytes, no more of them than there were events -/
def wOK (st : List Nat × Nat × Nat × Nat) (m : Nat) : Prop := st.2.1 < 2 ^ st.2.2.1 ∧ st.2.2.1 < 8 ∧ (∀ x, x ∈ st.1 → x < 256) ∧ 4 * st.1.length + st.2.2.1 ≤ m ∧ st.2.2.2 ≤ 1
theorem pow8 : ∀ f, f < 8 → 2 ^ (f + 1) = 2 * 2 ^ f ∧ (f + 1 = 8 → 2 ^ f = 128) := by decide
theorem wBit_ok {st : List Nat × Nat × Nat × Nat} {m x : Nat} (h : wOK st m) (hx : x < 2) : wOK (wBit st x) (m + 1) := by
  obtain ⟨o, p, f, k⟩ := st
  obtain ⟨h1, h2, h3, h4, h5⟩ := h
  dsimp only at h1 h2 h3 h4 h5
  obtain ⟨p1, p2⟩ := pow8 f h2
  unfold wBit
  dsimp only
  by_cases e : f + 1 = 8
  · rw [if_pos e]
    have := p2 e
    refine ⟨(by decide : 0 < 2 ^ 0), (by decide : 0 < 8), fun y hy => ?_, ?_, h5⟩
    · dsimp only at hy
      rw [List.mem_append, List.mem_cons] at hy
      rcases hy with hy | rfl | hy
      · exact h3 y hy
      · omega
      · split at hy
        · simp at hy; omega
        · simp at hy
    · dsimp only
      rw [List.length_append, List.length_cons]
      split
      · simp; omega
      · simp; omega
  · rw [if_neg e]
    exact ⟨by dsimp only; rw [p1]; omega, by dsimp only; omega, h3, by dsimp only; omega, h5⟩
theorem wBits_ok {v : Int} : ∀ (n m : Nat) (st : List Nat × Nat × Nat × Nat), wOK st m → wOK (wBits st v n) (m + n)
  | 0, m, st, h => h
  | n + 1, m, st, h => by
    have := wBits_ok (v := v) n (m + 1) _ (wBit_ok h (x := (v / 2 ^ n % 2).toNat) (by omega))
    rw [show m + (n + 1) = m + 1 + n by omega]
    exact this
theorem wOK_le {st : List Nat × Nat × Nat × Nat} {m m' : Nat} (h : wOK st m) (hm : m ≤ m') : wOK st m' := ⟨h.1, h.2.1, h.2.2.1, Nat.le_trans h.2.2.2.1 hm, h.2.2.2.2⟩
/-- events that can be -/
def okE (e : Nat × Nat × Nat) : Prop := (e.1 = 0 ∧ e.2.1 < 8 ∧ e.2.2 < 256) ∨ (e.1 = 1 ∧ e.2.1 < 2) ∨ e.1 = 2 ∨ (e.1 = 3 ∧ e.2.1 < 256)
def okLV (Lc Vc : Nat → Nat → Nat) : Prop := ∀ t s, Lc t s ≤ 16 ∧ Vc t s < 2 ^ Lc t s
theorem wEv_ok {Lc Vc : Nat → Nat → Nat} (hL : okLV Lc Vc) {st : List Nat × Nat × Nat × Nat} {m : Nat} {e : Nat × Nat × Nat} (h : wOK st m) (he : okE e) : wOK (wEv Lc Vc st e) (m + 16) := by
  unfold wEv
  rcases he with ⟨h0, h1, h2⟩ | ⟨h0, h1⟩ | h0 | ⟨h0, h1⟩
  · rw [if_pos h0]
    split
    · exact wOK_le (m := m) ⟨h.1, h.2.1, h.2.2.1, h.2.2.2.1, Nat.le_refl 1⟩ (by omega)
    · exact wOK_le (wBits_ok _ _ _ h) (by have := (hL e.2.1 e.2.2).1; omega)
  · rw [if_neg (by omega), if_pos h0]
    exact wOK_le (wBit_ok h h1) (by omega)
  · rw [if_neg (by omega), if_neg (by omega), if_pos h0]
    split
    · exact wOK_le h (by omega)
    · exact wOK_le (wBits_ok _ _ _ h) (by omega)
  · rw [if_neg (by omega), if_neg (by omega), if_neg (by omega)]
    refine ⟨h.1, h.2.1, fun x hx => ?_, ?_, h.2.2.2.2⟩
    · rw [List.mem_append] at hx
      rcases hx with hx | hx
      · exact h.2.2.1 x hx
      · simp at hx; omega
    · rw [List.length_append]
      have := h.2.2.2.1
      simp
      omega
theorem wAll_ok {Lc Vc : Nat → Nat → Nat} (hL : okLV Lc Vc) {es : List (Nat × Nat × Nat)} (he : ∀ e, e ∈ es → okE e) : wOK (wAll Lc Vc es) (16 * es.length) := by
  have : ∀ (es : List (Nat × Nat × Nat)) (st : List Nat × Nat × Nat × Nat) (m : Nat), (∀ e, e ∈ es → okE e) → wOK st m → wOK (es.foldl (wEv Lc Vc) st) (m + 16 * es.length) := by
    intro es
    induction es with
    | nil => intro st m _ h; exact h
    | cons e es ih =>
      intro st m he h
      have := ih _ _ (fun x hx => he x (List.mem_cons_of_mem _ hx)) (wEv_ok hL h (he e (List.mem_cons_self ..)))
      rw [List.foldl_cons, List.length_cons, show m + 16 * (es.length + 1) = m + 16 + 16 * es.length by omega]
      exact this
  have h := this es ([], 0, 0, 0) 0 he ⟨by decide, by decide, fun x hx => by simp at hx, by simp, by decide⟩
  rw [Nat.zero_add] at h
  exact h
/-! the program's writer -/
def byI (x : Nat) : Int32 := (zI (x : Int)).toInt8.toInt32
def rBy (kp : Int32) (nb : Nat) (sb0 : Nat → Int32) (o : List Nat) (sb : Nat → Int32) : Prop := (∀ i, fits .byte (.int (sb i)) = true) ∧ (kp = zI 0 ∧ (∀ i, sb i = sb0 i) ∨ kp = zI 1 ∧ ∀ i, sb i = if i < o.length ∧ i < nb then byI (o.getD i 0) else sb0 i)
theorem q_putByte {kp : Int32} {nb : Nat} {sb0 sb : Nat → Int32} {o : List Nat} (h : rBy kp nb sb0 o sb) (x : Nat) (ho : o.length < 2000000000) (hnb : nb ≤ 16384) : ∃ sb', f_BitWriter_putByte (zI x) nb sb kp (zI (o.length : Nat)) = some (sb', zI ((o ++ [x]).length : Nat)) ∧ rBy kp nb sb0 (o ++ [x]) sb' := by
  have el : zI ((o.length : Nat) : Int) + (1 : Int32) = zI ((o ++ [x]).length : Nat) := by rw [List.length_append, zI_lit, zI_add]; rfl
  unfold f_BitWriter_putByte f_BitWriter_putByte_J36
  rw [el]
  obtain ⟨h0, ⟨rfl, h1⟩ | ⟨rfl, h1⟩⟩ := h
  · exact ⟨sb, rfl, h0, Or.inl ⟨rfl, h1⟩⟩
  · rw [if_neg (by decide)]
    by_cases c : nb ≤ o.length
    · refine ⟨sb, ?_, h0, Or.inr ⟨rfl, fun i => ?_⟩⟩
      · rw [if_pos (by rw [zI_ofNat, zI_le (by omega) (by omega) (by omega) (by omega)]; omega)]
      · rw [h1 i]
        by_cases e : i < o.length ∧ i < nb
        · rw [if_pos e, if_pos (by rw [List.length_append]; omega)]
          congr 1
          rw [List.getD_eq_getElem?_getD, List.getD_eq_getElem?_getD, List.getElem?_append_left e.1]
        · rw [if_neg e, if_neg (by rw [List.length_append]; simp; omega)]
    · have g1 : (zI ((o.length : Nat) : Int)).toNatClampNeg = o.length := by rw [zI_cl (by omega) (by omega), Int.toNat_natCast]
      refine ⟨upd sb o.length (byI x), ?_, fun i => ?_, Or.inr ⟨rfl, fun i => ?_⟩⟩
      · rw [if_neg (by rw [zI_ofNat, zI_le (by omega) (by omega) (by omega) (by omega)]; omega), g1, if_neg (by rw [zI_lit, zI_lt (by omega) (by omega) (by decide) (by decide)]; show ¬ (_ < (0 : Int) ∨ _); omega), pk_vb]
        rfl
      · by_cases e : i = o.length
        · rw [e, pk_us]; exact fits_b8 _
        · rw [pk_un e]; exact h0 i
      · by_cases e : i = o.length
        · rw [e, pk_us, if_pos (by rw [List.length_append]; simp; omega), List.getD_eq_getElem?_getD, List.getElem?_append_right (Nat.le_refl _)]
          simp
        · rw [pk_un e, h1 i]
          by_cases e2 : i < o.length ∧ i < nb
          · rw [if_pos e2, if_pos (by rw [List.length_append]; omega)]
            congr 1
            rw [List.getD_eq_getElem?_getD, List.getD_eq_getElem?_getD, List.getElem?_append_left e2.1]
          · rw [if_neg e2, if_neg (by rw [List.length_append]; simp; omega)]
def rW (kp : Int32) (nb : Nat) (sb0 : Nat → Int32) (W : List Nat × Nat × Nat × Nat) (sb : Nat → Int32) (pa fi le : Int32) : Prop := rBy kp nb sb0 W.1 sb ∧ pa = zI (W.2.1 : Nat) ∧ fi = zI (W.2.2.1 : Nat) ∧ le = zI (W.1.length : Nat)
def bitN (x : Int64) (i : Nat) : Nat := if x.toBitVec.getLsbD i then 1 else 0
theorem bitN_2 (x : Int64) (i : Nat) : bitN x i < 2 := by unfold bitN; split <;> omega
theorem sh63 : ∀ i : Nat, i < 64 → ((zI (i : Int)).toInt64.toUInt64 &&& Int64.toUInt64 63).toNat % 64 = i := by decide
theorem q_bit (p : Int64) (i : Nat) (hi : i < 64) : (((p.toUInt64 >>> ((zI (i : Int)).toInt64.toUInt64 &&& Int64.toUInt64 63)).toInt64) &&& (1 : Int64)).toInt32 = zI (bitN p i : Nat) := by
  have key : ((p.toUInt64 >>> ((zI (i : Int)).toInt64.toUInt64 &&& Int64.toUInt64 63)).toInt64) &&& (1 : Int64) = lN (bitN p i) := by
    apply Int64.toBitVec_inj.mp
    apply BitVec.eq_of_getLsbD_eq
    intro j hj
    rw [Int64.toBitVec_and, BitVec.getLsbD_and]
    have hs2 : (((zI (i : Int)).toInt64.toUInt64 &&& Int64.toUInt64 63).toBitVec % 64).toNat = i := by
      have := sh63 i hi
      rw [BitVec.toNat_umod]
      exact this
    show (((p.toUInt64 >>> ((zI (i : Int)).toInt64.toUInt64 &&& Int64.toUInt64 63)).toBitVec).getLsbD j && _) = _
    rw [UInt64.toBitVec_shiftRight, BitVec.ushiftRight_eq', BitVec.getLsbD_ushiftRight, hs2]
    have h1 : ∀ j, j < 64 → (1 : Int64).toBitVec.getLsbD j = decide (j = 0) := by decide
    have h2 : ∀ j, j < 64 → (lN 1).toBitVec.getLsbD j = decide (j = 0) := by decide
    have h3 : ∀ j, j < 64 → (lN 0).toBitVec.getLsbD j = false := by decide
    rw [h1 j hj]
    unfold bitN
    show (p.toBitVec.getLsbD (i + j) && decide (j = 0)) = _
    by_cases e : j = 0
    · subst e
      rw [Nat.add_zero]
      cases hb : p.toBitVec.getLsbD i
      · rfl
      · rfl
    · have : (if p.toBitVec.getLsbD i = true then 1 else 0) = 1 ∨ (if p.toBitVec.getLsbD i = true then 1 else 0) = 0 := by split <;> simp
      rcases this with h | h <;> rw [h]
      · rw [h2 j hj]; simp [e]
      · rw [h3 j hj]; simp [e]
  rw [key, lN_i, zI_nI]
def wBitsL (st : List Nat × Nat × Nat × Nat) (p : Int64) : Nat → List Nat × Nat × Nat × Nat
  | 0 => st
  | n + 1 => wBitsL (wBit st (bitN p n)) p n
theorem wBitsL_ok {p : Int64} : ∀ (n m : Nat) (st : List Nat × Nat × Nat × Nat), wOK st m → wOK (wBitsL st p n) (m + n)
  | 0, m, st, h => h
  | n + 1, m, st, h => by
    have := wBitsL_ok (p := p) n (m + 1) _ (wBit_ok h (bitN_2 p n))
    rw [show m + (n + 1) = m + 1 + n by omega]
    exact this
theorem or_2 (p x : Nat) (hp : p < 128) (hx : x < 2) : (zI (p : Int) <<< ((1 : Int32) &&& 31)) ||| zI (x : Int) = zI ((2 * p + x : Nat) : Int) := by
  have e : zI (p : Int) <<< ((1 : Int32) &&& 31) = zI ((2 * p : Nat) : Int) := by
    rw [zI_lit, zI_lit]
    show zI (p : Int) <<< (zI 1 &&& zI 31) = _
    rw [zI_shl (by omega) (by omega)]
    congr 1
    show (p : Int) * 2 ^ 1 = _
    omega
  rw [e, zI_orN _ _ (by omega) (by omega)]
  congr 2
  have h := Nat.two_pow_add_eq_or_of_lt (i := 1) (b := x) (by omega) p
  rw [Nat.pow_one] at h
  exact h.symm
theorem pow_127 {p f : Nat} (h1 : p < 2 ^ f) (h2 : f < 8) : p < 128 := Nat.lt_of_lt_of_le h1 (Nat.pow_le_pow_right (n := 2) (by omega) (show f ≤ 7 by omega))
theorem q_putBitsL (N : Nat) {kp : Int32} {nb : Nat} {sb0 : Nat → Int32} (hnb : nb ≤ 16384) (p : Int64) : ∀ (n fuel m : Nat) (W : List Nat × Nat × Nat × Nat) (sb : Nat → Int32) (pa fi le : Int32), n ≤ 63 → n < fuel → wOK W m → m + n ≤ 1000000000 → rW kp nb sb0 W sb pa fi le →
    ∃ z, it (fun rec a => f_BitWriter_putBits_L5b p nb kp N rec a.1 a.2.1 a.2.2.1 a.2.2.2.1 a.2.2.2.2) fuel (zI ((n : Int) - 1), sb, pa, fi, le) = some z ∧ rW kp nb sb0 (wBitsL W p n) z.1 z.2.1 z.2.2.1 z.2.2.2
  | 0, fuel, m, W, sb, pa, fi, le, _, hf, hW, hm, h => by
    obtain ⟨fuel, rfl⟩ : ∃ j, fuel = j + 1 := ⟨fuel - 1, by omega⟩
    exact ⟨_, rfl, h⟩
  | n + 1, fuel, m, W, sb, pa, fi, le, hn, hf, hW, hm, h => by
    obtain ⟨fuel, rfl⟩ : ∃ j, fuel = j + 1 := ⟨fuel - 1, by omega⟩
    obtain ⟨o, q, f, k⟩ := W
    obtain ⟨h0, rfl, rfl, rfl⟩ := h
    have ih := q_putBitsL N hnb p (sb0 := sb0) (kp := kp) n fuel (m + 1) (wBit (o, q, f, k) (bitN p n))
    have hW2 := wBit_ok hW (bitN_2 p n)
    obtain ⟨w1, w2, w3, w4, w5⟩ := hW
    dsimp only at w1 w2 w3 w4 w5 h0
    have hq := pow_127 w1 w2
    have hx := bitN_2 p n
    rw [it_succ]
    unfold f_BitWriter_putBits_L5b f_BitWriter_putBits_J5_73 f_BitWriter_putBits_J5_83
    dsimp only
    have e1 : ((n + 1 : Nat) : Int) - 1 = (n : Int) := by omega
    have e2 : zI (n : Int) + (-1 : Int32) = zI ((n : Int) - 1) := by rw [show (-1 : Int32) = zI (-1) from rfl, zI_add]; rfl
    rw [e1, q_bit p n (by omega), or_2 q _ hq hx, e2]
    rw [if_neg (by rw [zI_lit, zI_lt (by omega) (by omega) (by decide) (by decide)]; show ¬ _ < (0 : Int); omega)]
    have e3 : zI ((f : Nat) : Int) + (1 : Int32) = zI ((f + 1 : Nat) : Int) := by rw [zI_lit, zI_add]; rfl
    rw [e3]
    by_cases c8 : f + 1 = 8
    · rw [if_pos (by rw [zI_lit, zI_le (by decide) (by decide) (by omega) (by omega)]; show (8 : Int) ≤ _; omega)]
      obtain ⟨sb1, a1, a2⟩ := q_putByte h0 (2 * q + bitN p n) (by omega) hnb
      rw [a1]
      dsimp only [Option.bind_some]
      by_cases c9 : 2 * q + bitN p n = 255
      · rw [if_pos (by rw [c9]; rfl)]
        obtain ⟨sb2, b1, b2⟩ := q_putByte a2 0 (by rw [List.length_append]; simp; omega) hnb
        have b1' : f_BitWriter_putByte (0 : Int32) nb sb1 kp (zI ((o ++ [2 * q + bitN p n]).length : Nat)) = some (sb2, zI ((o ++ [2 * q + bitN p n] ++ [0]).length : Nat)) := b1
        rw [b1']
        have eW : wBit (o, q, f, k) (bitN p n) = (o ++ [2 * q + bitN p n] ++ [0], 0, 0, k) := by
          unfold wBit
          dsimp only
          rw [if_pos c8, if_pos c9, List.append_assoc]; rfl
        rw [eW] at ih hW2
        obtain ⟨z, z1, z2⟩ := ih sb2 _ _ _ (by omega) (by omega) hW2 (by omega) ⟨b2, rfl, rfl, rfl⟩
        refine ⟨z, z1, ?_⟩
        show rW kp nb sb0 (wBitsL (wBit (o, q, f, k) (bitN p n)) p n) _ _ _ _
        rw [eW]; exact z2
      · rw [if_neg (by rw [show (255 : Int32) = zI 255 from rfl, zI_eq (by omega) (by omega) (by decide) (by decide)]; omega)]
        have eW : wBit (o, q, f, k) (bitN p n) = (o ++ [2 * q + bitN p n], 0, 0, k) := by
          unfold wBit
          dsimp only
          rw [if_pos c8, if_neg c9]
        rw [eW] at ih hW2
        obtain ⟨z, z1, z2⟩ := ih sb1 _ _ _ (by omega) (by omega) hW2 (by omega) ⟨a2, rfl, rfl, rfl⟩
        refine ⟨z, z1, ?_⟩
        show rW kp nb sb0 (wBitsL (wBit (o, q, f, k) (bitN p n)) p n) _ _ _ _
        rw [eW]; exact z2
    · rw [if_neg (by rw [zI_lit, zI_le (by decide) (by decide) (by omega) (by omega)]; show ¬ (8 : Int) ≤ _; omega)]
      have eW : wBit (o, q, f, k) (bitN p n) = (o, 2 * q + bitN p n, f + 1, k) := by
        unfold wBit
        dsimp only
        rw [if_neg c8]
      rw [eW] at ih hW2
      obtain ⟨z, z1, z2⟩ := ih sb _ _ _ (by omega) (by omega) hW2 (by omega) ⟨h0, rfl, rfl, rfl⟩
      refine ⟨z, z1, ?_⟩
      show rW kp nb sb0 (wBitsL (wBit (o, q, f, k) (bitN p n)) p n) _ _ _ _
      rw [eW]; exact z2
theorem q_putBits (N : Nat) (hN : 100 ≤ N) {kp : Int32} {nb : Nat} {sb0 : Nat → Int32} (hnb : nb ≤ 16384) (p : Int64) (n m : Nat) {W : List Nat × Nat × Nat × Nat} {sb : Nat → Int32} {pa fi le : Int32} (hn : n ≤ 63) (hW : wOK W m) (hm : m + n ≤ 1000000000) (h : rW kp nb sb0 W sb pa fi le) :
    ∃ sb' pa' fi' le', f_BitWriter_putBits N p (zI n) nb sb kp pa fi le = some (sb', pa', fi', le') ∧ rW kp nb sb0 (wBitsL W p n) sb' pa' fi' le' := by
  obtain ⟨z, z1, z2⟩ := q_putBitsL N hnb p (sb0 := sb0) (kp := kp) n N m W sb pa fi le hn (by omega) hW hm h
  unfold f_BitWriter_putBits f_BitWriter_putBits_L5
  rw [zI_lit, zI_sub]
  have z1' : it (fun rec a => f_BitWriter_putBits_L5b p nb kp N rec a.1 a.2.1 a.2.2.1 a.2.2.2.1 a.2.2.2.2) N (zI ((n : Int) - OfNat.ofNat 1), sb, pa, fi, le) = some z := z1
  rw [z1']
  exact ⟨_, _, _, _, rfl, z2⟩
