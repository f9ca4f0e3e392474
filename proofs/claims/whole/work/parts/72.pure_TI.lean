/-! the program's writer: words, ends, restarts -/
theorem bitN_z (v : Int) (h0 : -2147483648 ≤ v) (h1 : v < 2147483648) (i : Nat) (hi : i < 32) : bitN (zI v).toInt64 i = (v / 2 ^ i % 2).toNat := by
  have e : (zI v).toInt64.toBitVec.getLsbD i = decide (v / 2 ^ i % 2 = 1) := by
    rw [zI_L h0 h1]
    show (Int64.ofInt v).toBitVec.getLsbD i = _
    rw [Int64.toBitVec_ofInt, ← BitVec.testBit_toNat, BitVec.toNat_ofInt, Nat.testBit_eq_decide_div_mod_eq]
    have hr0 : (0 : Int) ≤ v % ((2 ^ 64 : Nat) : Int) := Int.emod_nonneg _ (by decide)
    obtain ⟨r, hr⟩ := Int.eq_ofNat_of_zero_le hr0
    have hv : v = 2 ^ i * (2 ^ (64 - i) * (v / ((2 ^ 64 : Nat) : Int))) + r := by
      have := Int.mul_ediv_add_emod v ((2 ^ 64 : Nat) : Int)
      rw [hr] at this
      rw [← Int.mul_assoc, ← Int.pow_add, show i + (64 - i) = 64 by omega]
      exact this.symm
    have h2 : v / 2 ^ i = 2 ^ (64 - i) * (v / ((2 ^ 64 : Nat) : Int)) + (r : Int) / 2 ^ i := by
      conv => lhs; rw [hv]
      rw [Int.mul_add_ediv_left _ _ (by rw [two_pow_c]; have := Nat.two_pow_pos i; omega)]
    rw [hr, h2, p_shr, show 64 - i = (63 - i) + 1 by omega, Int.pow_succ]
    have h3 : ((2 : Int) ^ (63 - i) * 2 * (v / ((2 ^ 64 : Nat) : Int)) + ((r / 2 ^ i : Nat) : Int)) % 2 = ((r / 2 ^ i % 2 : Nat) : Int) := by
      rw [Int.mul_assoc, Int.mul_left_comm]
      generalize (2 : Int) ^ (63 - i) * (v / ((2 ^ 64 : Nat) : Int)) = X
      generalize r / 2 ^ i = y
      omega
    rw [h3, Int.toNat_natCast]
    apply decide_eq_decide.mpr
    omega
  unfold bitN
  rw [e]
  have h2 : v / 2 ^ i % 2 = 0 ∨ v / 2 ^ i % 2 = 1 := by omega
  rcases h2 with h | h <;> rw [h] <;> rfl
theorem wBitsL_z (v : Int) (h0 : -2147483648 ≤ v) (h1 : v < 2147483648) : ∀ (n : Nat) (st : List Nat × Nat × Nat × Nat), n ≤ 32 → wBitsL st (zI v).toInt64 n = wBits st v n
  | 0, _, _ => rfl
  | n + 1, st, hn => by
    show wBitsL (wBit st (bitN (zI v).toInt64 n)) _ n = wBits (wBit st (v / 2 ^ n % 2).toNat) v n
    rw [bitN_z v h0 h1 n (by omega), wBitsL_z v h0 h1 n _ (by omega)]
theorem wBit_k (st : List Nat × Nat × Nat × Nat) (x : Nat) : (wBit st x).2.2.2 = st.2.2.2 := by unfold wBit; split <;> rfl
theorem wBits_k (v : Int) : ∀ (n : Nat) (st : List Nat × Nat × Nat × Nat), (wBits st v n).2.2.2 = st.2.2.2
  | 0, _ => rfl
  | n + 1, st => by
    show (wBits (wBit st _) v n).2.2.2 = _
    rw [wBits_k v n, wBit_k]
theorem wBits_low (L V : Nat) : ∀ (n : Nat) (st : List Nat × Nat × Nat × Nat), n ≤ L → wBits st ((2 ^ L + V : Nat) : Int) n = wBits st (V : Int) n
  | 0, _, _ => rfl
  | n + 1, st, hn => by
    show wBits (wBit st _) _ n = wBits (wBit st _) _ n
    have e : ((2 ^ L + V : Nat) : Int) / 2 ^ n % 2 = (V : Int) / 2 ^ n % 2 := by
      rw [p_shr, p_shr]
      have : (2 ^ L + V) / 2 ^ n = 2 ^ (L - n) + V / 2 ^ n := by
        rw [show 2 ^ L = 2 ^ n * 2 ^ (L - n) by rw [← Nat.pow_add]; congr 1; omega, Nat.mul_add_div (Nat.two_pow_pos n)]
      rw [this, show L - n = (L - n - 1) + 1 by omega, Nat.pow_succ]
      generalize 2 ^ (L - n - 1) = X
      generalize V / 2 ^ n = Y
      omega
    rw [e, wBits_low L V n _ (by omega)]
def rWr (Lc Vc : Nat → Nat → Nat) (kp : Int32) (nb : Nat) (sb0 : Nat → Int32) (es : List (Nat × Nat × Nat)) (sb : Nat → Int32) (pa fi le la : Int32) : Prop := (∀ e, e ∈ es → okE e) ∧ es.length ≤ 50000000 ∧ rW kp nb sb0 (wAll Lc Vc es) sb pa fi le ∧ la = zI ((wAll Lc Vc es).2.2.2 : Nat)
def rVw (Lc Vc : Nat → Nat → Nat) (vw : Nat → Nat → Int32) : Prop := ∀ t s, t < 8 → s < 256 → vw t s = zI (if Lc t s = 0 then 0 else 2 ^ Lc t s + Vc t s : Nat)
theorem mem_app1 {P : Nat × Nat × Nat → Prop} {es : List (Nat × Nat × Nat)} {e : Nat × Nat × Nat} (h : ∀ e, e ∈ es → P e) (h1 : P e) : ∀ x, x ∈ es ++ [e] → P x := by
  intro x hx
  rw [List.mem_append, List.mem_singleton] at hx
  rcases hx with hx | rfl
  · exact h x hx
  · exact h1
theorem mem_app {P : Nat × Nat × Nat → Prop} {es l : List (Nat × Nat × Nat)} (h : ∀ e, e ∈ es → P e) (h1 : ∀ e, e ∈ l → P e) : ∀ x, x ∈ es ++ l → P x := by
  intro x hx
  rw [List.mem_append] at hx
  rcases hx with hx | hx
  · exact h x hx
  · exact h1 x hx
theorem evB_okE (v : Int) : ∀ n, ∀ e, e ∈ evB v n → okE e
  | 0, e, h => by simp [evB] at h
  | n + 1, e, h => by
    simp only [evB, List.mem_cons] at h
    rcases h with rfl | h
    · exact Or.inr (Or.inl ⟨rfl, by show (v / 2 ^ n % 2).toNat < 2; omega⟩)
    · exact evB_okE v n e h
theorem evB_len (v : Int) : ∀ n, (evB v n).length = n
  | 0 => rfl
  | n + 1 => by simp [evB, evB_len v n]
theorem wAll_okW {Lc Vc : Nat → Nat → Nat} (hL : okLV Lc Vc) {es : List (Nat × Nat × Nat)} (h1 : ∀ e, e ∈ es → okE e) (h2 : es.length ≤ 50000000) : wOK (wAll Lc Vc es) 800000000 := wOK_le (wAll_ok hL h1) (by omega)
theorem q_wWord (N : Nat) (hN : 100 ≤ N) {Lc Vc : Nat → Nat → Nat} (hL : okLV Lc Vc) {vw : Nat → Nat → Int32} (hv : rVw Lc Vc vw) {kp : Int32} {nb : Nat} {sb0 : Nat → Int32} (hnb : nb ≤ 16384) {es : List (Nat × Nat × Nat)} {sb : Nat → Int32} {pa fi le la : Int32} (h : rWr Lc Vc kp nb sb0 es sb pa fi le la) (t s : Nat) (ht : t < 8) (hs : s < 256) (hl : es.length + 1 ≤ 50000000) :
    ∃ sb' pa' fi' le' la', f_BitWriter_putWord N (zI t) (zI s) nb sb kp pa fi le la vw = some (sb', pa', fi', le', la') ∧ rWr Lc Vc kp nb sb0 (es ++ [(0, t, s)]) sb' pa' fi' le' la' := by
  obtain ⟨h1, h2, h3, h4⟩ := h
  have hW := wAll_okW hL h1 h2
  have g1 : (zI ((t : Nat) : Int)).toNatClampNeg = t := by rw [zI_cl (by omega) (by omega), Int.toNat_natCast]
  have g2 : (zI ((s : Nat) : Int)).toNatClampNeg = s := by rw [zI_cl (by omega) (by omega), Int.toNat_natCast]
  have he : okE (0, t, s) := Or.inl ⟨rfl, ht, hs⟩
  unfold f_BitWriter_putWord
  rw [g1, g2, hv t s ht hs]
  rw [if_neg (by rw [zI_lit, zI_lt (by omega) (by omega) (by decide) (by decide)]; show ¬ (_ < (0 : Int) ∨ _); omega), if_neg (by rw [zI_lit, zI_lt (by omega) (by omega) (by decide) (by decide)]; show ¬ (_ < (0 : Int) ∨ _); omega)]
  obtain ⟨L16, VL⟩ := hL t s
  by_cases c : Lc t s = 0
  · rw [if_pos c, if_pos (show zI ((0 : Nat) : Int) = (0 : Int32) from rfl)]
    have eW : wAll Lc Vc (es ++ [(0, t, s)]) = ((wAll Lc Vc es).1, (wAll Lc Vc es).2.1, (wAll Lc Vc es).2.2.1, 1) := by
      rw [wAll_1]
      unfold wEv
      rw [if_pos rfl, if_pos c]
    refine ⟨_, _, _, _, _, rfl, mem_app1 h1 he, by rw [List.length_append]; exact hl, ?_, ?_⟩
    · rw [eW]; exact h3
    · rw [eW]; rfl
  · rw [if_neg c]
    have hp := pow16 L16
    have hp0 : 1 ≤ 2 ^ Lc t s := Nat.one_le_two_pow
    have hsz : szN (2 ^ Lc t s + Vc t s) = Lc t s + 1 := jzSz_at _ _ _ (by omega) (by omega) (by rw [Nat.pow_succ]; omega)
    have q1 := (q_size N hN ((2 ^ Lc t s + Vc t s : Nat) : Int) (by omega) (by omega)).1
    rw [Int.natAbs_natCast, hsz] at q1
    rw [if_neg (by rw [zI_lit, zI_eq (by omega) (by omega) (by decide) (by decide)]; show ¬ _ = (0 : Int); omega), q1]
    simp only [Option.bind_some]
    have e1 : zI ((Lc t s + 1 : Nat) : Int) - (1 : Int32) = zI (Lc t s : Nat) := by rw [zI_lit, zI_sub]; congr 1; show ((Lc t s + 1 : Nat) : Int) - 1 = _; omega
    rw [e1]
    obtain ⟨sb', pa', fi', le', a1, a2⟩ := q_putBits N hN hnb (zI ((2 ^ Lc t s + Vc t s : Nat) : Int)).toInt64 (Lc t s) _ (by omega) hW (by omega) h3
    rw [a1]
    have eW : wAll Lc Vc (es ++ [(0, t, s)]) = wBitsL (wAll Lc Vc es) (zI ((2 ^ Lc t s + Vc t s : Nat) : Int)).toInt64 (Lc t s) := by
      rw [wAll_1, wBitsL_z _ (by omega) (by omega) _ _ (by omega), wBits_low _ _ _ _ (Nat.le_refl _)]
      unfold wEv
      rw [if_pos rfl, if_neg c]
    refine ⟨_, _, _, _, _, rfl, mem_app1 h1 he, by rw [List.length_append]; exact hl, ?_, ?_⟩
    · rw [eW]; exact a2
    · rw [eW, wBitsL_z _ (by omega) (by omega) _ _ (by omega), wBits_k]; exact h4
theorem q_wBits (N : Nat) (hN : 100 ≤ N) {Lc Vc : Nat → Nat → Nat} (hL : okLV Lc Vc) {kp : Int32} {nb : Nat} {sb0 : Nat → Int32} (hnb : nb ≤ 16384) {es : List (Nat × Nat × Nat)} {sb : Nat → Int32} {pa fi le la : Int32} (h : rWr Lc Vc kp nb sb0 es sb pa fi le la) (v : Int) (v0 : -2147483648 ≤ v) (v1 : v < 2147483648) (n : Nat) (hn : n ≤ 32) (hl : es.length + n ≤ 50000000) :
    ∃ sb' pa' fi' le', f_BitWriter_putBits N (zI v).toInt64 (zI n) nb sb kp pa fi le = some (sb', pa', fi', le') ∧ rWr Lc Vc kp nb sb0 (es ++ evB v n) sb' pa' fi' le' la := by
  obtain ⟨h1, h2, h3, h4⟩ := h
  have hW := wAll_okW hL h1 h2
  obtain ⟨sb', pa', fi', le', a1, a2⟩ := q_putBits N hN hnb (zI v).toInt64 n _ (by omega) hW (by omega) h3
  rw [wBitsL_z v v0 v1 n _ hn] at a2
  refine ⟨_, _, _, _, a1, mem_app h1 (evB_okE v n), by rw [List.length_append, evB_len]; exact hl, ?_, ?_⟩
  · rw [wAll_B]; exact a2
  · rw [wAll_B, wBits_k]; exact h4
/-- bits that are held in a long: the last of them lowest -/
def comOK (p : Int64) (com : List Nat) : Prop := com.length ≤ 63 ∧ ∀ i, i < com.length → bitN p i = com.getD (com.length - 1 - i) 0
theorem com_bits {com : List Nat} {p : Int64} (h : comOK p com) (st : List Nat × Nat × Nat × Nat) : ∀ n, n ≤ com.length → wBitsL st p n = (com.drop (com.length - n)).foldl wBit st
  | 0, _ => by simp [wBitsL]
  | n + 1, hn => by
    have hlt : com.length - (n + 1) < com.length := by omega
    have e1 : com.drop (com.length - (n + 1)) = com.getD (com.length - 1 - n) 0 :: com.drop (com.length - n) := by
      rw [List.drop_eq_getElem_cons hlt, List.getD_eq_getElem?_getD, show com.length - 1 - n = com.length - (n + 1) by omega, List.getElem?_eq_getElem hlt, show com.length - (n + 1) + 1 = com.length - n by omega]
      rfl
    rw [e1, List.foldl_cons]
    show wBitsL (wBit st (bitN p n)) p n = _
    rw [h.2 n (by omega)]
    exact com_bits h _ n (by omega)
theorem wAll_map (Lc Vc : Nat → Nat → Nat) : ∀ (com : List Nat) (es : List (Nat × Nat × Nat)), wAll Lc Vc (es ++ com.map fun x => (1, x, 0)) = com.foldl wBit (wAll Lc Vc es)
  | [], es => by simp
  | x :: com, es => by
    rw [List.map_cons, List.foldl_cons, show ∀ (a : Nat × Nat × Nat) (l : List (Nat × Nat × Nat)), es ++ a :: l = (es ++ [a]) ++ l by intro a l; simp, wAll_map Lc Vc com, wAll_1]
    rfl
theorem foldB_k : ∀ (com : List Nat) (st : List Nat × Nat × Nat × Nat), (com.foldl wBit st).2.2.2 = st.2.2.2
  | [], _ => rfl
  | x :: com, st => by rw [List.foldl_cons, foldB_k com, wBit_k]
theorem q_wCom (N : Nat) (hN : 100 ≤ N) {Lc Vc : Nat → Nat → Nat} (hL : okLV Lc Vc) {kp : Int32} {nb : Nat} {sb0 : Nat → Int32} (hnb : nb ≤ 16384) {es : List (Nat × Nat × Nat)} {sb : Nat → Int32} {pa fi le la : Int32} (h : rWr Lc Vc kp nb sb0 es sb pa fi le la) {p : Int64} {com : List Nat} (hc : comOK p com) (hc2 : ∀ x, x ∈ com → x < 2) (hl : es.length + com.length ≤ 50000000) :
    ∃ sb' pa' fi' le', f_BitWriter_putBits N p (zI (com.length : Nat)) nb sb kp pa fi le = some (sb', pa', fi', le') ∧ rWr Lc Vc kp nb sb0 (es ++ com.map fun x => (1, x, 0)) sb' pa' fi' le' la := by
  obtain ⟨h1, h2, h3, h4⟩ := h
  have hW := wAll_okW hL h1 h2
  have h63 := hc.1
  obtain ⟨sb', pa', fi', le', a1, a2⟩ := q_putBits N hN hnb p com.length _ h63 hW (by omega) h3
  rw [com_bits hc _ _ (Nat.le_refl _), Nat.sub_self, List.drop_zero] at a2
  refine ⟨_, _, _, _, a1, mem_app h1 (fun e he => ?_), by rw [List.length_append, List.length_map]; exact hl, ?_, ?_⟩
  · rw [List.mem_map] at he
    obtain ⟨x, hx, rfl⟩ := he
    exact Or.inr (Or.inl ⟨rfl, hc2 x hx⟩)
  · rw [wAll_map]; exact a2
  · rw [wAll_map, foldB_k]; exact h4
theorem q_wEnd (N : Nat) (hN : 100 ≤ N) {Lc Vc : Nat → Nat → Nat} (hL : okLV Lc Vc) {kp : Int32} {nb : Nat} {sb0 : Nat → Int32} (hnb : nb ≤ 16384) {es : List (Nat × Nat × Nat)} {sb : Nat → Int32} {pa fi le la : Int32} (h : rWr Lc Vc kp nb sb0 es sb pa fi le la) (hl : es.length + 1 ≤ 50000000) :
    ∃ sb' pa' fi' le', f_BitWriter_endByte N nb sb kp pa fi le = some (sb', pa', fi', le') ∧ rWr Lc Vc kp nb sb0 (es ++ [(2, 0, 0)]) sb' pa' fi' le' la := by
  obtain ⟨h1, h2, h3, h4⟩ := h
  have hW := wAll_okW hL h1 h2
  have he : okE (2, 0, 0) := Or.inr (Or.inr (Or.inl rfl))
  have f8 := hW.2.1
  unfold f_BitWriter_endByte
  obtain ⟨r1, r2, r3, r4⟩ := h3
  have h3' : rW kp nb sb0 (wAll Lc Vc es) sb pa fi le := ⟨r1, r2, r3, r4⟩
  by_cases c : (wAll Lc Vc es).2.2.1 = 0
  · rw [if_pos (by rw [r3, c]; decide)]
    have eW : wAll Lc Vc (es ++ [(2, 0, 0)]) = wAll Lc Vc es := by
      rw [wAll_1]
      unfold wEv
      rw [if_neg (by decide), if_neg (by decide), if_pos rfl, if_pos c]
    refine ⟨_, _, _, _, rfl, mem_app1 h1 he, by rw [List.length_append]; exact hl, ?_, ?_⟩
    · rw [eW]; exact h3'
    · rw [eW]; exact h4
  · rw [if_neg (by rw [r3, zI_lit, zI_le (by omega) (by omega) (by decide) (by decide)]; show ¬ _ ≤ (0 : Int); omega)]
    have e1 : (8 : Int32) - fi = zI ((8 - (wAll Lc Vc es).2.2.1 : Nat) : Int) := by rw [r3, zI_lit, zI_sub]; congr 1; show (8 : Int) - _ = _; omega
    obtain ⟨sb', pa', fi', le', a1, a2⟩ := q_putBits N hN hnb (zI 255).toInt64 (8 - (wAll Lc Vc es).2.2.1) _ (by omega) hW (by omega) h3'
    have a1' : f_BitWriter_putBits N (255 : Int64) ((8 : Int32) - fi) nb sb kp pa fi le = some (sb', pa', fi', le') := by rw [e1]; exact a1
    rw [a1']
    have eW : wAll Lc Vc (es ++ [(2, 0, 0)]) = wBits (wAll Lc Vc es) 255 (8 - (wAll Lc Vc es).2.2.1) := by
      rw [wAll_1]
      unfold wEv
      rw [if_neg (by decide), if_neg (by decide), if_pos rfl, if_neg c]
    rw [wBitsL_z _ (by decide) (by decide) _ _ (by omega)] at a2
    refine ⟨_, _, _, _, rfl, mem_app1 h1 he, by rw [List.length_append]; exact hl, ?_, ?_⟩
    · rw [eW]; exact a2
    · rw [eW, wBits_k]; exact h4
theorem q_wRst {Lc Vc : Nat → Nat → Nat} (hL : okLV Lc Vc) {kp : Int32} {nb : Nat} {sb0 : Nat → Int32} (hnb : nb ≤ 16384) {es : List (Nat × Nat × Nat)} {sb : Nat → Int32} {pa fi le la : Int32} (h : rWr Lc Vc kp nb sb0 es sb pa fi le la) (x : Nat) (hx : x < 256) (hl : es.length + 1 ≤ 50000000) :
    ∃ sb' le', f_BitWriter_putRestart (zI x) nb sb kp le = some (sb', le') ∧ rWr Lc Vc kp nb sb0 (es ++ [(3, x, 0)]) sb' pa fi le' la := by
  obtain ⟨h1, h2, ⟨r1, r2, r3, r4⟩, h4⟩ := h
  have hW := wAll_okW hL h1 h2
  have he : okE (3, x, 0) := Or.inr (Or.inr (Or.inr ⟨rfl, hx⟩))
  have hlen := hW.2.2.2.1
  obtain ⟨sb1, a1, a2⟩ := q_putByte r1 255 (by omega) hnb
  obtain ⟨sb2, b1, b2⟩ := q_putByte a2 x (by rw [List.length_append]; simp; omega) hnb
  have a1' : f_BitWriter_putByte (255 : Int32) nb sb kp le = some (sb1, zI (((wAll Lc Vc es).1 ++ [255]).length : Nat)) := by rw [r4]; exact a1
  unfold f_BitWriter_putRestart
  rw [a1']
  dsimp only [Option.bind_some]
  rw [b1]
  have eW : wAll Lc Vc (es ++ [(3, x, 0)]) = ((wAll Lc Vc es).1 ++ [255] ++ [x], (wAll Lc Vc es).2) := by
    rw [wAll_1]
    unfold wEv
    rw [if_neg (show ¬ (3 : Nat) = 0 by decide), if_neg (show ¬ (3 : Nat) = 1 by decide), if_neg (show ¬ (3 : Nat) = 2 by decide), List.append_assoc]
    rfl
  refine ⟨_, _, rfl, mem_app1 h1 he, by rw [List.length_append]; exact hl, ⟨?_, ?_, ?_, ?_⟩, ?_⟩
  · rw [eW]; exact b2
  · rw [eW]; exact r2
  · rw [eW]; exact r3
  · rw [eW]
  · rw [eW]; exact h4
/-! the reference's writer -/
def rMW (W : List Nat × Nat × Nat × Nat) (ou pa pd fa : Int32) (out : Nat → Int32) : Prop := pa = zI (W.2.1 : Nat) ∧ pd = zI (W.2.2.1 : Nat) ∧ ou = zI (min W.1.length 16384 : Nat) ∧ fa = zI (if W.2.2.2 = 1 ∨ 16384 < W.1.length then 1 else 0 : Nat) ∧ ∀ i, i < W.1.length → i < 16384 → out i = byI (W.1.getD i 0)
theorem q_raw {o : List Nat} {k : Nat} {ou fa : Int32} {out : Nat → Int32} (h1 : ou = zI (min o.length 16384 : Nat)) (h2 : fa = zI (if k = 1 ∨ 16384 < o.length then 1 else 0 : Nat)) (h3 : ∀ i, i < o.length → i < 16384 → out i = byI (o.getD i 0)) (x : Nat) :
    ∃ ou' fa' out', f_M_raw (zI x) ou fa out = some (ou', fa', out') ∧ ou' = zI (min (o ++ [x]).length 16384 : Nat) ∧ fa' = zI (if k = 1 ∨ 16384 < (o ++ [x]).length then 1 else 0 : Nat) ∧ ∀ i, i < (o ++ [x]).length → i < 16384 → out' i = byI ((o ++ [x]).getD i 0) := by
  unfold f_M_raw
  rw [List.length_append, show [x].length = 1 from rfl]
  have ext : ∀ i, i < o.length → (o ++ [x]).getD i 0 = o.getD i 0 := fun i hi => by
    rw [List.getD_eq_getElem?_getD, List.getD_eq_getElem?_getD, List.getElem?_append_left hi]
  by_cases c : 16384 ≤ o.length
  · rw [if_pos (by rw [h1, Nat.min_eq_right c]; rfl)]
    refine ⟨_, _, _, rfl, ?_, ?_, fun i hi h16 => ?_⟩
    · rw [h1, Nat.min_eq_right c, Nat.min_eq_right (by omega)]
    · rw [if_pos (by omega)]; rfl
    · rw [ext i (by omega)]; exact h3 i (by omega) h16
  · have e : min o.length 16384 = o.length := by omega
    rw [e] at h1
    subst h1
    have g1 : (zI ((o.length : Nat) : Int)).toNatClampNeg = o.length := by rw [zI_cl (by omega) (by omega), Int.toNat_natCast]
    rw [if_neg (by rw [zI_lit, zI_eq (by omega) (by omega) (by decide) (by decide)]; show ¬ _ = (16384 : Int); omega), g1, if_neg (by rw [zI_lit, zI_lt (by omega) (by omega) (by decide) (by decide)]; show ¬ (_ < (0 : Int) ∨ _); omega), pk_vb]
    refine ⟨_, _, _, rfl, ?_, ?_, fun i hi h16 => ?_⟩
    · rw [zI_lit, zI_add, Nat.min_eq_left (by omega)]; rfl
    · rw [h2]
      congr 2
      by_cases k1 : k = 1
      · rw [if_pos (Or.inl k1), if_pos (Or.inl k1)]
      · rw [if_neg (by omega), if_neg (by omega)]
    · by_cases e : i = o.length
      · rw [e, pk_us, List.getD_eq_getElem?_getD, List.getElem?_append_right (Nat.le_refl _)]
        simp [byI]
      · rw [pk_un e, ext i (by omega)]; exact h3 i (by omega) h16
theorem q_Mbit {W : List Nat × Nat × Nat × Nat} {m : Nat} {ou pa pd fa : Int32} {out : Nat → Int32} (hW : wOK W m) (h : rMW W ou pa pd fa out) (x : Nat) (hx : x < 2) :
    ∃ ou' pa' pd' fa' out', f_M_bit (zI x) ou pa pd fa (zI 0) out = some (ou', pa', pd', fa', out') ∧ rMW (wBit W x) ou' pa' pd' fa' out' := by
  obtain ⟨o, q, f, k⟩ := W
  obtain ⟨rfl, rfl, h3, h4, h5⟩ := h
  obtain ⟨w1, w2, w3, w4, w5⟩ := hW
  dsimp only at h3 h4 h5 w1 w2 w3 w4 w5 ⊢
  have hq := pow_127 w1 w2
  unfold f_M_bit f_M_bit_J62
  rw [if_pos (show zI 0 = (0 : Int32) from rfl)]
  have e1 : ((2 : Int32) * zI ((q : Nat) : Int)) + zI (x : Int) = zI ((2 * q + x : Nat) : Int) := by rw [zI_lit, zI_mul, zI_add]; rfl
  have e2 : zI ((f : Nat) : Int) + (1 : Int32) = zI ((f + 1 : Nat) : Int) := by rw [zI_lit, zI_add]; rfl
  rw [e1, e2]
  unfold wBit
  dsimp only
  by_cases c8 : f + 1 = 8
  · rw [if_pos (by rw [c8]; rfl), if_pos c8]
    obtain ⟨ou1, fa1, out1, a1, a2, a3, a4⟩ := q_raw h3 h4 h5 (2 * q + x)
    rw [a1]
    dsimp only [Option.bind_some]
    by_cases c9 : 2 * q + x = 255
    · rw [if_pos (by rw [c9]; rfl), if_pos c9]
      obtain ⟨ou2, fa2, out2, b1, b2, b3, b4⟩ := q_raw a2 a3 a4 0
      have b1' : f_M_raw (0 : Int32) ou1 fa1 out1 = some (ou2, fa2, out2) := b1
      rw [b1', show (2 * q + x) :: [0] = [2 * q + x] ++ [0] from rfl, ← List.append_assoc]
      exact ⟨_, _, _, _, _, rfl, rfl, rfl, b2, b3, b4⟩
    · rw [if_neg (by rw [show (255 : Int32) = zI 255 from rfl, zI_eq (by omega) (by omega) (by decide) (by decide)]; omega), if_neg c9]
      exact ⟨_, _, _, _, _, rfl, rfl, rfl, a2, a3, a4⟩
  · rw [if_neg (by rw [zI_lit, zI_eq (by omega) (by omega) (by decide) (by decide)]; show ¬ _ = (8 : Int); omega), if_neg c8]
    exact ⟨_, _, _, _, _, rfl, rfl, rfl, h3, h4, h5⟩
/-- the reference's sink: writing (cm 0) or counting (cm 1) -/
def rMo (Lc Vc : Nat → Nat → Nat) (cm : Int32) (es : List (Nat × Nat × Nat)) (ou pa pd fa : Int32) (out tm : Nat → Int32) : Prop := (∀ e, e ∈ es → okE e) ∧ (cm = zI 0 ∧ rMW (wAll Lc Vc es) ou pa pd fa out ∨ cm = zI 1 ∧ pd = zI 0 ∧ ∀ i, i < 2048 → tm i = zI (cWi es i : Nat))
theorem q_MoBit {Lc Vc : Nat → Nat → Nat} (hL : okLV Lc Vc) {cm : Int32} {es : List (Nat × Nat × Nat)} {ou pa pd fa : Int32} {out tm : Nat → Int32} (h : rMo Lc Vc cm es ou pa pd fa out tm) (x : Nat) (hx : x < 2) :
    ∃ ou' pa' pd' fa' out', f_M_bit (zI x) ou pa pd fa cm out = some (ou', pa', pd', fa', out') ∧ rMo Lc Vc cm (es ++ [(1, x, 0)]) ou' pa' pd' fa' out' tm := by
  obtain ⟨h1, ⟨rfl, h2⟩ | ⟨rfl, h2, h3⟩⟩ := h
  · obtain ⟨ou', pa', pd', fa', out', a1, a2⟩ := q_Mbit (wAll_ok hL h1) h2 x hx
    refine ⟨_, _, _, _, _, a1, mem_app1 h1 (Or.inr (Or.inl ⟨rfl, hx⟩)), Or.inl ⟨rfl, ?_⟩⟩
    rw [wAll_1]
    exact a2
  · refine ⟨_, _, _, _, _, rfl, mem_app1 h1 (Or.inr (Or.inl ⟨rfl, hx⟩)), Or.inr ⟨rfl, h2, fun i hi => ?_⟩⟩
    rw [cWi_app, (c_nw (l := [(1, x, 0)]) (fun e he => by simp at he; subst he; simp) i).2, Nat.add_zero]
    exact h3 i hi
theorem q_MoLowL (N : Nat) {Lc Vc : Nat → Nat → Nat} (hL : okLV Lc Vc) {cm : Int32} (v : Int) (v0 : -2147483648 ≤ v) (v1 : v < 2147483648) : ∀ (n fuel : Nat) (es : List (Nat × Nat × Nat)) (ou pa pd fa : Int32) (out tm : Nat → Int32), n ≤ 31 → n < fuel → rMo Lc Vc cm es ou pa pd fa out tm →
    ∃ z, it (fun rec a => f_M_low_L4b (zI v) cm N rec a.1 a.2.1 a.2.2.1 a.2.2.2.1 a.2.2.2.2.1 a.2.2.2.2.2) fuel (zI ((n : Int) - 1), ou, pa, pd, fa, out) = some z ∧ rMo Lc Vc cm (es ++ evB v n) z.1 z.2.1 z.2.2.1 z.2.2.2.1 z.2.2.2.2 tm
  | 0, fuel, es, ou, pa, pd, fa, out, tm, _, hf, h => by
    obtain ⟨fuel, rfl⟩ : ∃ j, fuel = j + 1 := ⟨fuel - 1, by omega⟩
    refine ⟨_, rfl, ?_⟩
    rw [show evB v 0 = [] from rfl, List.append_nil]; exact h
  | n + 1, fuel, es, ou, pa, pd, fa, out, tm, hn, hf, h => by
    obtain ⟨fuel, rfl⟩ : ∃ j, fuel = j + 1 := ⟨fuel - 1, by omega⟩
    obtain ⟨ou', pa', pd', fa', out', a1, a2⟩ := q_MoBit hL h (v / 2 ^ n % 2).toNat (by omega)
    obtain ⟨z, z1, z2⟩ := q_MoLowL N hL v v0 v1 n fuel _ ou' pa' pd' fa' out' tm (by omega) (by omega) a2
    refine ⟨z, ?_, ?_⟩
    · rw [it_succ]
      unfold f_M_low_L4b
      dsimp only
      have e1 : ((n + 1 : Nat) : Int) - 1 = (n : Int) := by omega
      have e2 : zI (n : Int) + (-1 : Int32) = zI ((n : Int) - 1) := by rw [show (-1 : Int32) = zI (-1) from rfl, zI_add]; rfl
      have e3 : (zI v >>> (zI (n : Int) &&& 31)) &&& (1 : Int32) = zI ((v / 2 ^ n % 2).toNat : Nat) := by
        simp (disch := omega) only [zI_lit, zI_ofNat, zI_nI, zI_neg, zI_add, zI_sub, zI_mul, zI_lt, zI_le, zI_eq, zI_cl, zI_div, zI_shr, zI_shl, zI_and1, zI_and7, zI_and15, zI_and255, if_pos, if_neg, Option.bind_some, Option.bind_none, if_true, if_false, true_or, or_true, Int.toNat_natCast, pk_us]
        congr 1
        rw [Int.toNat_of_nonneg (by omega)]
      rw [e1, e3, e2, a1]
      rw [if_neg (by rw [zI_lit, zI_lt (by omega) (by omega) (by decide) (by decide)]; show ¬ _ < (0 : Int); omega)]
      exact z1
    · rw [show evB v (n + 1) = [(1, (v / 2 ^ n % 2).toNat, 0)] ++ evB v n from rfl, ← List.append_assoc]
      exact z2
theorem q_MoLow (N : Nat) (hN : 100 ≤ N) {Lc Vc : Nat → Nat → Nat} (hL : okLV Lc Vc) {cm : Int32} (v : Int) (v0 : -2147483648 ≤ v) (v1 : v < 2147483648) (n : Nat) (hn : n ≤ 31) {es : List (Nat × Nat × Nat)} {ou pa pd fa : Int32} {out tm : Nat → Int32} (h : rMo Lc Vc cm es ou pa pd fa out tm) :
    ∃ ou' pa' pd' fa' out', f_M_low N (zI v) (zI n) ou pa pd fa cm out = some (ou', pa', pd', fa', out') ∧ rMo Lc Vc cm (es ++ evB v n) ou' pa' pd' fa' out' tm := by
  obtain ⟨z, z1, z2⟩ := q_MoLowL N hL v v0 v1 n N es ou pa pd fa out tm hn (by omega) h
  unfold f_M_low f_M_low_L4
  rw [zI_lit, zI_sub]
  have z1' : it (fun rec a => f_M_low_L4b (zI v) cm N rec a.1 a.2.1 a.2.2.1 a.2.2.2.1 a.2.2.2.2.1 a.2.2.2.2.2) N (zI ((n : Int) - OfNat.ofNat 1), ou, pa, pd, fa, out) = some z := z1
  rw [z1']
  exact ⟨_, _, _, _, _, rfl, z2⟩
def rLC (Lc Vc : Nat → Nat → Nat) (ln cd : Nat → Int32) : Prop := ∀ t s, t < 8 → s < 256 → ln (256 * t + s) = zI (Lc t s : Nat) ∧ (0 < Lc t s → cd (256 * t + s) = zI (Vc t s : Nat))
theorem q_MoWord (N : Nat) (hN : 100 ≤ N) {Lc Vc : Nat → Nat → Nat} (hL : okLV Lc Vc) {ln cd : Nat → Int32} (hc : rLC Lc Vc ln cd) {cm : Int32} {es : List (Nat × Nat × Nat)} {ou pa pd fa : Int32} {out tm : Nat → Int32} (h : rMo Lc Vc cm es ou pa pd fa out tm) (t s : Nat) (ht : t < 8) (hs : s < 256) :
    ∃ ou' pa' pd' fa' out' tm', f_M_word N (zI t) (zI s) ou pa pd fa cm ln cd out tm = some (ou', pa', pd', fa', out', tm') ∧ rMo Lc Vc cm (es ++ [(0, t, s)]) ou' pa' pd' fa' out' tm' := by
  have hi : 256 * t + s < 2048 := by omega
  have e0 : ((256 : Int32) * zI (t : Int)) + zI (s : Int) = zI ((256 * t + s : Nat) : Int) := by rw [zI_lit, zI_mul, zI_add]; rfl
  have g1 : (zI ((256 * t + s : Nat) : Int)).toNatClampNeg = 256 * t + s := by rw [zI_cl (by omega) (by omega), Int.toNat_natCast]
  have gi : ¬ (zI ((256 * t + s : Nat) : Int) < 0 ∨ 2048 ≤ 256 * t + s) := by rw [zI_lit, zI_lt (by omega) (by omega) (by decide) (by decide)]; show ¬ (_ < (0 : Int) ∨ _); omega
  have he : okE (0, t, s) := Or.inl ⟨rfl, ht, hs⟩
  obtain ⟨l1, l2⟩ := hc t s ht hs
  obtain ⟨L16, VL⟩ := hL t s
  have hp := pow16 L16
  unfold f_M_word
  rw [e0, g1, if_neg gi, if_neg gi]
  obtain ⟨h1, ⟨rfl, h2⟩ | ⟨rfl, h2, h3⟩⟩ := h
  · rw [if_pos (show zI 0 = (0 : Int32) from rfl), if_neg gi, l1]
    have hW := wAll_ok hL h1
    have h2' := h2
    obtain ⟨r1, r2, r3, r4, r5⟩ := h2
    have fin : ∀ (x : Nat), x = (if (wAll Lc Vc (es ++ [(0, t, s)])).2.2.2 = 1 ∨ 16384 < (wAll Lc Vc es).1.length then 1 else 0) → ∀ tm', ∃ ou' pa' pd' fa' out' tm2, f_M_word_J47 N (zI x) (zI ((256 * t + s : Nat) : Int)) cd ln ou pa pd (zI 0) out tm' = some (ou', pa', pd', fa', out', tm2) ∧ rMo Lc Vc (zI 0) (es ++ [(0, t, s)]) ou' pa' pd' fa' out' tm2 := by
      intro x hx tm'
      have hx2 : x = 0 ∨ x = 1 := by rw [hx]; split <;> simp
      unfold f_M_word_J47
      rw [if_pos (by rcases hx2 with rfl | rfl; exact Or.inl rfl; exact Or.inr rfl), g1, if_neg gi, if_neg gi, l1]
      by_cases c : Lc t s = 0
      · rw [c]
        have eW : wAll Lc Vc (es ++ [(0, t, s)]) = ((wAll Lc Vc es).1, (wAll Lc Vc es).2.1, (wAll Lc Vc es).2.2.1, 1) := by
          rw [wAll_1]
          unfold wEv
          rw [if_pos rfl, if_pos c]
        have el : f_M_low N (cd (256 * t + s)) (zI ((0 : Nat) : Int)) ou pa pd (zI x) (zI 0) out = some (ou, pa, pd, zI x, out) := by
          unfold f_M_low f_M_low_L4
          obtain ⟨N, rfl⟩ : ∃ j, N = j + 1 := ⟨N - 1, by omega⟩
          rfl
        rw [el]
        refine ⟨_, _, _, _, _, _, rfl, mem_app1 h1 he, Or.inl ⟨rfl, ?_⟩⟩
        rw [eW] at hx ⊢
        refine ⟨r1, r2, r3, ?_, r5⟩
        rw [hx]
      · rw [l2 (by omega)]
        have eW : wAll Lc Vc (es ++ [(0, t, s)]) = wBits (wAll Lc Vc es) (Vc t s) (Lc t s) := by
          rw [wAll_1]
          unfold wEv
          rw [if_pos rfl, if_neg c]
        have hk : (wAll Lc Vc (es ++ [(0, t, s)])).2.2.2 = (wAll Lc Vc es).2.2.2 := by rw [eW, wBits_k]
        obtain ⟨ou', pa', pd', fa', out', a1, a2⟩ := q_MoLow N hN hL (Vc t s : Nat) (by omega) (by omega) (Lc t s) (by omega) (es := es) (ou := ou) (pa := pa) (pd := pd) (fa := zI x) (out := out) (tm := tm) (cm := zI 0) ⟨h1, Or.inl ⟨rfl, r1, r2, r3, by rw [hx, hk], r5⟩⟩
        rw [a1]
        obtain ⟨b1, ⟨-, b2⟩ | ⟨b2, -⟩⟩ := a2
        · refine ⟨_, _, _, _, _, _, rfl, mem_app1 h1 he, Or.inl ⟨rfl, ?_⟩⟩
          rw [wAll_B] at b2
          rw [eW]; exact b2
        · exact absurd b2 (by decide)
    have k1 := hW.2.2.2.2
    by_cases cf : (wAll Lc Vc es).2.2.2 = 1 ∨ 16384 < (wAll Lc Vc es).1.length
    · rw [if_pos cf] at r4
      rw [if_neg (by rw [r4]; decide)]
      unfold f_M_word_J42
      refine fin 1 ?_ _
      by_cases c : Lc t s = 0
      · rw [wAll_1]
        unfold wEv
        rw [if_pos rfl, if_pos c, if_pos (Or.inl rfl)]
      · rw [wAll_1]
        unfold wEv
        rw [if_pos rfl, if_neg c, wBits_k, if_pos cf]
    · rw [if_neg cf] at r4
      rw [if_pos (by rw [r4]; rfl)]
      by_cases c : Lc t s = 0
      · rw [if_pos (by rw [c]; rfl)]
        unfold f_M_word_J42
        refine fin 1 ?_ _
        rw [wAll_1]
        unfold wEv
        rw [if_pos rfl, if_pos c, if_pos (Or.inl rfl)]
      · rw [if_neg (by rw [zI_lit, zI_eq (by omega) (by omega) (by decide) (by decide)]; show ¬ _ = (0 : Int); omega)]
        refine fin 0 ?_ _
        rw [wAll_1]
        unfold wEv
        rw [if_pos rfl, if_neg c, wBits_k, if_neg cf]
  · rw [if_neg (by decide)]
    refine ⟨_, _, _, _, _, _, rfl, mem_app1 h1 he, Or.inr ⟨rfl, h2, fun i hi2 => ?_⟩⟩
    rw [(c_1 es t s).2]
    by_cases e2 : i = 256 * t + s
    · rw [e2, pk_us, if_pos rfl, h3 _ hi, zI_lit, zI_add]; rfl
    · rw [pk_un e2, if_neg (by omega), Nat.add_zero]; exact h3 i hi2
