/-! WRITING: the encoder that writes, on -/
theorem q_lenL_wr (N : Nat) {p : Int64} {com held : List Nat} (hc : comOK p com) (hh : held.length ≤ 900) : ∀ (n fuel : Nat) (er : Nat → Int32), n ≤ com.length → n < fuel →
    ∃ er1, f_Encoder_lengthenRun_wr_L15 p N fuel (zI ((n : Int) - 1), zI ((held ++ com.take (com.length - n)).length : Nat), er) = some (zI ((held ++ com).length : Nat), er1) ∧ (rHeld er (held ++ com.take (com.length - n)) → rHeld er1 (held ++ com))
  | 0, fuel, er, hn, hf => by
    obtain ⟨fuel, rfl⟩ : ∃ j, fuel = j + 1 := ⟨fuel - 1, by omega⟩
    rw [Nat.sub_zero, List.take_length]
    exact ⟨er, rfl, fun h => h⟩
  | n + 1, fuel, er, hn, hf => by
    obtain ⟨fuel, rfl⟩ : ∃ j, fuel = j + 1 := ⟨fuel - 1, by omega⟩
    have h63 := hc.1
    have hlt : com.length - (n + 1) < com.length := by omega
    have hx := bitN_2 p n
    have hbit := hc.2 n (by omega)
    have et : com.take (com.length - n) = com.take (com.length - (n + 1)) ++ [bitN p n] := by
      rw [show com.length - n = com.length - (n + 1) + 1 by omega, List.take_add_one, List.getElem?_eq_getElem hlt, hbit, List.getD_eq_getElem?_getD, show com.length - 1 - n = com.length - (n + 1) by omega, List.getElem?_eq_getElem hlt]
      rfl
    have el : (held ++ com.take (com.length - (n + 1))).length = held.length + (com.length - (n + 1)) := by rw [List.length_append, List.length_take]; omega
    have el2 : (held ++ com.take (com.length - n)).length = held.length + (com.length - (n + 1)) + 1 := by rw [List.length_append, List.length_take]; omega
    obtain ⟨er1, a1, a2⟩ := q_lenL_wr N hc hh n fuel (upd er (held.length + (com.length - (n + 1))) (zI (bitN p n : Nat))) (by omega) (by omega)
    rw [el2] at a1
    rw [el]
    have e : f_Encoder_lengthenRun_wr_L15 p N (fuel + 1) (zI (((n + 1 : Nat) : Int) - 1), zI ((held.length + (com.length - (n + 1)) : Nat) : Int), er) = f_Encoder_lengthenRun_wr_L15b p N (f_Encoder_lengthenRun_wr_L15 p N fuel) (zI (((n + 1 : Nat) : Int) - 1)) (zI ((held.length + (com.length - (n + 1)) : Nat) : Int)) er := rfl
    have e1 : ((n + 1 : Nat) : Int) - 1 = (n : Int) := by omega
    have e2 : zI (n : Int) + (-1 : Int32) = zI ((n : Int) - 1) := by rw [show (-1 : Int32) = zI (-1) from rfl, zI_add]; rfl
    have e3 : zI ((held.length + (com.length - (n + 1)) : Nat) : Int) + (1 : Int32) = zI ((held.length + (com.length - (n + 1)) + 1 : Nat) : Int) := by rw [zI_lit, zI_add]; rfl
    have g1 : (zI ((held.length + (com.length - (n + 1)) : Nat) : Int)).toNatClampNeg = held.length + (com.length - (n + 1)) := by rw [zI_cl (by omega) (by omega), Int.toNat_natCast]
    refine ⟨er1, ?_, fun hr => a2 ?_⟩
    · rw [e]
      unfold f_Encoder_lengthenRun_wr_L15b
      rw [e1, q_bit p n (by omega), g1, e2, e3, pk_vb, zI_byte (by omega) (by omega), a1]
      rw [if_neg (by rw [zI_lit, zI_lt (by omega) (by omega) (by decide) (by decide)]; show ¬ _ < (0 : Int); omega), if_neg (by rw [zI_lit, zI_le (by decide) (by decide) (by omega) (by omega)]; show ¬ (964 : Int) ≤ _; omega), if_neg (by rw [zI_lit, zI_lt (by omega) (by omega) (by decide) (by decide)]; show ¬ (_ < (0 : Int) ∨ _); omega)]
    · intro i hi
      rw [et, ← List.append_assoc] at hi ⊢
      rw [List.length_append, el] at hi
      simp only [List.length_cons, List.length_nil] at hi
      by_cases ei : i = held.length + (com.length - (n + 1))
      · rw [ei, pk_us, List.getD_eq_getElem?_getD, List.getElem?_append_right (by rw [el]; omega), el, Nat.sub_self]
        rfl
      · rw [pk_un ei, List.getD_eq_getElem?_getD, List.getElem?_append_left (by rw [el]; omega), ← List.getD_eq_getElem?_getD]
        exact hr i (by rw [el]; omega)
theorem q_len_wr (N : Nat) (hN : 20000 ≤ N) {p : Int64} {com held : List Nat} {run : Nat} (hc : comOK p com) (hh : held.length ≤ 900) (er : Nat → Int32) :
    ∃ er1, f_Encoder_lengthenRun_wr N p (zI (com.length : Nat)) (zI run) (zI (held.length : Nat)) er = some (zI (run + 1 : Nat), zI ((held ++ com).length : Nat), er1) ∧ (rHeld er held → rHeld er1 (held ++ com)) := by
  have h63 := hc.1
  obtain ⟨er1, a1, a2⟩ := q_lenL_wr N hc hh com.length N er (Nat.le_refl _) (by omega)
  rw [Nat.sub_self, List.take_zero, List.append_nil] at a1 a2
  unfold f_Encoder_lengthenRun_wr
  rw [zI_lit, zI_sub]
  have a1' : f_Encoder_lengthenRun_wr_L15 p N N (zI (((com.length : Nat) : Int) - OfNat.ofNat 1), zI (held.length : Nat), er) = some (zI ((held ++ com).length : Nat), er1) := a1
  rw [a1']
  dsimp only [Option.bind_some]
  rw [zI_add]
  exact ⟨_, rfl, a2⟩
theorem q_ln_wr (N : Nat) (hN : 20000 ≤ N) {C : Nat → Int} {pl nco b f l : Nat} {co : Nat → Int32} (hnco : nco ≤ 12288) (hb : b ≤ 9) (hf1 : 1 ≤ f) (hl : l ≤ 63) (hfl : f ≤ l) (hC : ∀ k, k ≤ 63 → pl + k < nco ∧ co (pl + k) = zI (C k) ∧ -1024 ≤ C k ∧ C k ≤ 1023) : f_Encoder_lastNewOne_wr N (zI pl) nco co (zI f) (zI l) (zI b) = some (zI (lnF C b (l + 1 - f) f)) := by
  have key : ∀ (j fuel : Nat), f + j ≤ l + 1 → j < fuel → ∃ z, f_Encoder_lastNewOne_wr_L8 (zI f) (zI pl) nco co (zI b) N fuel (zI ((f : Int) + j - 1)) = some z ∧ (z.1 = 0 ∧ z.2 = zI (lnF C b j f) ∨ z.1 = 1 ∧ lnF C b j f = -1) := by
    intro j
    induction j with
    | zero =>
      intro fuel _ hf
      obtain ⟨fuel, rfl⟩ : ∃ j, fuel = j + 1 := ⟨fuel - 1, by omega⟩
      have e : f_Encoder_lastNewOne_wr_L8 (zI f) (zI pl) nco co (zI b) N (fuel + 1) (zI ((f : Int) + (0 : Nat) - 1)) = f_Encoder_lastNewOne_wr_L8b (zI f) (zI pl) nco co (zI b) N (f_Encoder_lastNewOne_wr_L8 (zI f) (zI pl) nco co (zI b) N fuel) (zI ((f : Int) + (0 : Nat) - 1)) := rfl
      rw [e]
      unfold f_Encoder_lastNewOne_wr_L8b
      simp (disch := omega) only [zI_lit, zI_ofNat, zI_nI, zI_neg, zI_add, zI_sub, zI_mul, zI_lt, zI_le, zI_eq, zI_cl, zI_div, zI_shr, zI_shl, zI_and1, zI_and7, zI_and15, zI_and255, if_pos, if_neg, Option.bind_some, Option.bind_none, if_true, if_false, true_or, or_true, Int.toNat_natCast, pk_us]
      exact ⟨_, rfl, Or.inr ⟨rfl, rfl⟩⟩
    | succ j ih =>
      intro fuel hj hf
      obtain ⟨fuel, rfl⟩ : ∃ j, fuel = j + 1 := ⟨fuel - 1, by omega⟩
      obtain ⟨z, z1, z2⟩ := ih fuel (by omega) (by omega)
      obtain ⟨c1, c2, c3, c4⟩ := hC (f + j) (by omega)
      have ha := amt_le (b := b) c3 (by omega : C (f + j) ≤ 1024)
      have e0 : (f : Int) + ((j + 1 : Nat) : Int) - 1 = ((f + j : Nat) : Int) := by omega
      rw [e0]
      have e : f_Encoder_lastNewOne_wr_L8 (zI f) (zI pl) nco co (zI b) N (fuel + 1) (zI ((f + j : Nat) : Int)) = f_Encoder_lastNewOne_wr_L8b (zI f) (zI pl) nco co (zI b) N (f_Encoder_lastNewOne_wr_L8 (zI f) (zI pl) nco co (zI b) N fuel) (zI ((f + j : Nat) : Int)) := rfl
      have ek : zI (pl : Int) + zI ((f + j : Nat) : Int) = zI ((pl + (f + j) : Nat) : Int) := by rw [zI_add]; rfl
      have g1 : (zI ((pl + (f + j) : Nat) : Int)).toNatClampNeg = pl + (f + j) := by rw [zI_cl (by omega) (by omega), Int.toNat_natCast]
      have gi : ¬ (zI ((pl + (f + j) : Nat) : Int) < 0 ∨ nco ≤ pl + (f + j)) := by rw [zI_lit, zI_lt (by omega) (by omega) (by decide) (by decide)]; show ¬ (_ < (0 : Int) ∨ _); omega
      have em : zI ((f + j : Nat) : Int) + (-1 : Int32) = zI ((f : Int) + (j : Int) - 1) := by rw [show (-1 : Int32) = zI (-1) from rfl, zI_add]; congr 1
      rw [e]
      unfold f_Encoder_lastNewOne_wr_L8b
      rw [ek, g1, c2, q_amt (C (f + j)) b (by omega) (by omega) hb, if_neg gi, em, z1, if_neg (by rw [zI_lt (by omega) (by omega) (by omega) (by omega)]; omega)]
      by_cases a1 : amt (C (f + j)) b = 1
      · have e2 : lnF C b (j + 1) f = ((f + j : Nat) : Int) := by
          show (if amt (C (f + j)) b = 1 then _ else _) = _
          rw [if_pos a1]
        rw [if_pos (by rw [a1]; rfl), e2]
        exact ⟨_, rfl, Or.inl ⟨rfl, rfl⟩⟩
      · have e2 : lnF C b (j + 1) f = lnF C b j f := by
          show (if amt (C (f + j)) b = 1 then _ else _) = _
          rw [if_neg a1]
        rw [if_neg (by rw [zI_lit, zI_eq (by omega) (by omega) (by decide) (by decide)]; show ¬ _ = (1 : Int); omega), e2]
        exact ⟨z, rfl, z2⟩
  obtain ⟨z, z1, z2⟩ := key (l + 1 - f) N (by omega) (by omega)
  have e0 : (f : Int) + ((l + 1 - f : Nat) : Int) - 1 = (l : Int) := by omega
  rw [e0] at z1
  unfold f_Encoder_lastNewOne_wr
  rw [z1]
  dsimp only [Option.bind_some]
  rcases z2 with ⟨h1, h2⟩ | ⟨h1, h2⟩
  · rw [if_pos h1, h2]
  · rw [if_neg (by omega), h2]; rfl

set_option maxHeartbeats 1000000 in
theorem q_dir_wr (N : Nat) (hN : 20000 ≤ N) {Lc Vc : Nat → Nat → Nat} (hL : okLV Lc Vc) {vw : Nat → Nat → Int32} (hv : rVw Lc Vc vw) {kp : Int32} {nb : Nat} {sb0 : Nat → Int32} (hnb : nb ≤ 16384) {C : Nat → Int} {pl nco b c t : Nat} {co dt p : Nat → Int32} {P : Int} (hnco : nco ≤ 12288) (hb : b ≤ 9) (hc : c < 4) (hd : dt c = zI (t : Nat)) (ht : t < 8) (h0 : pl < nco ∧ co pl = zI (C 0) ∧ -1024 ≤ C 0 ∧ C 0 ≤ 1023) (hp : p c = zI P) (hP : -1024 ≤ P ∧ P ≤ 1023) {es : List (Nat × Nat × Nat)} {sb : Nat → Int32} {pa fi le la : Int32} (h : rWr Lc Vc kp nb sb0 (es) sb pa fi le la) (hB : es.length + (dirE C t b P).length ≤ 50000000) :
    ∃ sb1 pa1 fi1 le1 la1, f_Encoder_sendDirect_wr N (zI c) (zI pl) nco co (zI b) dt nb sb kp pa fi le la p vw = some (sb1, pa1, fi1, le1, la1, upd p c (zI (C 0 / 2 ^ b))) ∧ rWr Lc Vc kp nb sb0 (es ++ dirE C t b P) sb1 pa1 fi1 le1 la1 ∧ -1024 ≤ C 0 / 2 ^ b ∧ C 0 / 2 ^ b ≤ 1023 := by
  obtain ⟨h1, h2, h3, h4⟩ := h0
  have hvv : -1024 ≤ C 0 / 2 ^ b ∧ C 0 / 2 ^ b ≤ 1023 := by
    have hp1 : (1 : Int) ≤ 2 ^ b := by rw [two_pow_c]; have := Nat.one_le_two_pow (n := b); omega
    constructor
    · rw [Int.le_ediv_iff_mul_le (by omega)]
      have : (-1024 : Int) * 2 ^ b ≤ -1024 * 1 := Int.mul_le_mul_of_nonpos_left (by decide) hp1
      omega
    · have : C 0 / 2 ^ b < 1024 := by
        rw [Int.ediv_lt_iff_lt_mul (by omega)]
        have : (1024 : Int) * 1 ≤ 1024 * 2 ^ b := Int.mul_le_mul_of_nonneg_left hp1 (by decide)
        omega
      omega
  have ev : zI (C 0) >>> (zI b &&& 31) = zI (C 0 / 2 ^ b) := by
    simp (disch := omega) only [zI_lit, zI_ofNat, zI_nI, zI_neg, zI_add, zI_sub, zI_mul, zI_lt, zI_le, zI_eq, zI_cl, zI_div, zI_shr, zI_shl, zI_and1, zI_and7, zI_and15, zI_and255, if_pos, if_neg, Option.bind_some, Option.bind_none, if_true, if_false, true_or, or_true, Int.toNat_natCast, pk_us]
  have g1 : (zI ((pl : Nat) : Int)).toNatClampNeg = pl := by rw [zI_cl (by omega) (by omega), Int.toNat_natCast]
  have g2 : (zI ((c : Nat) : Int)).toNatClampNeg = c := by rw [zI_cl (by omega) (by omega), Int.toNat_natCast]
  have gi : ¬ (zI ((c : Nat) : Int) < 0 ∨ 4 ≤ c) := by rw [zI_lit, zI_lt (by omega) (by omega) (by decide) (by decide)]; show ¬ (_ < (0 : Int) ∨ _); omega
  unfold f_Encoder_sendDirect_wr f_Encoder_sendDirect_wr_J80
  rw [g1, g2, h2, ev, hp, zI_sub, hd]
  unfold dirE at hB ⊢
  generalize C 0 / 2 ^ b = V at hvv hB ⊢
  have hsz : szN (V - P).natAbs ≤ 11 := szN_le (by omega)
  have q1 := (q_size N (by omega) (V - P) (by omega) (by omega)).1
  rw [q1, if_neg (by rw [zI_lit, zI_lt (by omega) (by omega) (by decide) (by decide)]; show ¬ (_ < (0 : Int) ∨ _); omega), if_neg gi, if_neg gi]
  dsimp only [Option.bind_some]
  rw [if_neg gi]
  simp only [List.length_cons, evB_len] at hB
  obtain ⟨sb2, pa2, fi2, le2, la2, w2, r2⟩ := q_wWord N (by omega) hL hv hnb h t (szN (V - P).natAbs) ht (by omega) (by omega)
  rw [w2]
  dsimp only [Option.bind_some]

  obtain ⟨sb3, pa3, fi3, le3, w3, r3⟩ := q_wBits N (by omega) hL hnb r2 (if 0 < V - P then V - P else V - P - 1) (by split <;> omega) (by split <;> omega) (szN (V - P).natAbs) (by omega) (by simp only [List.length_append, List.length_cons, List.length_nil]; omega)
  rw [List.append_assoc] at r3
  by_cases cp : 0 < V - P
  · rw [if_neg (by rw [zI_lit, zI_le (by omega) (by omega) (by decide) (by decide)]; show ¬ _ ≤ (0 : Int); omega)]
    rw [if_pos cp] at w3
    rw [w3]
    exact ⟨_, _, _, _, _, rfl, r3, hvv⟩
  · rw [if_pos (by rw [zI_lit, zI_le (by omega) (by omega) (by decide) (by decide)]; show _ ≤ (0 : Int); omega)]
    rw [if_neg cp] at w3
    have e1 : zI (V - P) - (1 : Int32) = zI (V - P - 1) := by rw [zI_lit, zI_sub]
    rw [e1, w3]
    exact ⟨_, _, _, _, _, rfl, r3, hvv⟩

set_option maxHeartbeats 1000000 in
theorem q_rz_wr (N : Nat) (hN : 20000 ≤ N) {Lc Vc : Nat → Nat → Nat} (hL : okLV Lc Vc) {vw : Nat → Nat → Int32} (hv : rVw Lc Vc vw) {kp : Int32} {nb : Nat} {sb0 : Nat → Int32} (hnb : nb ≤ 16384) {er : Nat → Int32} {p : Int64} {k t : Nat} {ln : Int} (hk : k ≤ 64) (hln : -1 ≤ ln ∧ ln ≤ 63) (ht : t < 8) : ∀ (q z fuel run : Nat) (held com : List Nat) (es : List (Nat × Nat × Nat)) (sb : Nat → Int32) (pa fi le la : Int32), (if (k : Int) ≤ ln then z / 16 else 0) = q → z ≤ 64 → q < fuel → okR run held → comOK p com → (∀ x, x ∈ com → x < 2) → rHeld er held → es.length + (zrE t q run held com).1.length ≤ 50000000 → rWr Lc Vc kp nb sb0 (es) sb pa fi le la →
    ∃ sb1 pa1 fi1 le1 la1, f_Encoder_refineOthers_wr_L75 (zI ln) (zI (k : Nat)) nb kp (zI t) er vw p N fuel (zI z, zI (com.length : Nat), sb, pa, fi, le, la, zI run, zI (held.length : Nat)) = some (zI (z - 16 * q : Nat), zI ((zrE t q run held com).2.2.2.length : Nat), sb1, pa1, fi1, le1, la1, zI ((zrE t q run held com).2.1 : Nat), zI ((zrE t q run held com).2.2.1.length : Nat)) ∧ rWr Lc Vc kp nb sb0 (es ++ (zrE t q run held com).1) sb1 pa1 fi1 le1 la1
  | 0, z, fuel, run, held, com, es, sb, pa, fi, le, la, hq, hz, hf, hR, hc, hc2, her, hB, h => by
    obtain ⟨fuel, rfl⟩ : ∃ j, fuel = j + 1 := ⟨fuel - 1, by omega⟩
    have e : f_Encoder_refineOthers_wr_L75 (zI ln) (zI (k : Nat)) nb kp (zI t) er vw p N (fuel + 1) (zI z, zI (com.length : Nat), sb, pa, fi, le, la, zI run, zI (held.length : Nat)) = f_Encoder_refineOthers_wr_L75b (zI ln) (zI (k : Nat)) nb kp (zI t) er vw p N (f_Encoder_refineOthers_wr_L75 (zI ln) (zI (k : Nat)) nb kp (zI t) er vw p N fuel) (zI z) (zI (com.length : Nat)) sb pa fi le la (zI run) (zI (held.length : Nat)) := rfl
    rw [e]
    unfold f_Encoder_refineOthers_wr_L75b
    refine ⟨sb, pa, fi, le, la, ?_, ?_⟩
    · by_cases c : z ≤ 15
      · rw [if_pos (by rw [zI_lit, zI_le (by omega) (by omega) (by decide) (by decide)]; show _ ≤ (15 : Int); omega)]
        rfl
      · rw [if_neg (by rw [zI_lit, zI_le (by omega) (by omega) (by decide) (by decide)]; show ¬ _ ≤ (15 : Int); omega)]
        have : ln < k := by
          rcases Int.lt_or_le ln k with h | h
          · exact h
          · rw [if_pos h] at hq; omega
        rw [if_pos (by rw [zI_lt (by omega) (by omega) (by omega) (by omega)]; omega)]
        rfl
    · show rWr Lc Vc kp nb sb0 (es ++ []) sb pa fi le la
      rw [List.append_nil]; exact h
  | q + 1, z, fuel, run, held, com, es, sb, pa, fi, le, la, hq, hz, hf, hR, hc, hc2, her, hB, h => by
    obtain ⟨fuel, rfl⟩ : ∃ j, fuel = j + 1 := ⟨fuel - 1, by omega⟩
    have hkl : (k : Int) ≤ ln := by
      rcases Int.lt_or_le ln k with h | h
      · rw [if_neg (by omega)] at hq; omega
      · exact h
    rw [if_pos hkl] at hq
    have eZ : zrE t (q + 1) run held com = (srE t run held ++ ((0, t, 240) :: ((com.map fun x => (1, x, 0)) ++ (zrE t q 0 [] []).1)), (zrE t q 0 [] []).2) := rfl
    rw [eZ] at hB ⊢
    simp only [List.length_append, List.length_cons, List.length_map] at hB
    obtain ⟨sb2, pa2, fi2, le2, la2, w2, r2⟩ := q_sendRun_wr N hN hL hv hnb h (run := run) (held := held) (t := t) (rt := zI t) (by have := hR.1; omega) (by have := hR.2.1; omega) hR.2.2.1 hR.2.2.2 her (fun _ => ⟨ht, rfl⟩) (by omega)
    obtain ⟨sb3, pa3, fi3, le3, la3, w3, r3⟩ := q_wWord N (by omega) hL hv hnb r2 t (240) ht (by omega) (by simp only [List.length_append]; omega)
    have w3' : f_BitWriter_putWord N (zI t) (240 : Int32) nb sb2 kp pa2 fi2 le2 la2 vw = some (sb3, pa3, fi3, le3, la3) := w3

    obtain ⟨sb4, pa4, fi4, le4, w4, r4⟩ := q_wCom N (by omega) hL hnb r3 hc hc2 (by simp only [List.length_append, List.length_cons, List.length_nil]; omega)
    obtain ⟨sb5, pa5, fi5, le5, la5, w5, r5⟩ := q_rz_wr N hN hL hv hnb (er := er) (p := p) hk hln ht q (z - 16) fuel 0 [] [] _ sb4 pa4 fi4 le4 la3 (by rw [if_pos hkl]; omega) (by omega) (by omega) okR_0 (comOK_nil p) (fun x hx => by simp at hx) (fun i hi => by simp at hi) (by simp only [List.length_append, List.length_cons, List.length_nil, List.length_map]; omega) r4

    have w5' : f_Encoder_refineOthers_wr_L75 (zI ln) (zI (k : Nat)) nb kp (zI t) er vw p N fuel (zI ((z - 16 : Nat) : Int), (0 : Int32), sb4, pa4, fi4, le4, la3, zI 0, zI 0) = _ := w5
    have e : f_Encoder_refineOthers_wr_L75 (zI ln) (zI (k : Nat)) nb kp (zI t) er vw p N (fuel + 1) (zI z, zI (com.length : Nat), sb, pa, fi, le, la, zI run, zI (held.length : Nat)) = f_Encoder_refineOthers_wr_L75b (zI ln) (zI (k : Nat)) nb kp (zI t) er vw p N (f_Encoder_refineOthers_wr_L75 (zI ln) (zI (k : Nat)) nb kp (zI t) er vw p N fuel) (zI z) (zI (com.length : Nat)) sb pa fi le la (zI run) (zI (held.length : Nat)) := rfl
    have e2 : zI (z : Int) + (-16 : Int32) = zI ((z - 16 : Nat) : Int) := by rw [show (-16 : Int32) = zI (-16) from rfl, zI_add]; congr 1; omega
    rw [e]
    unfold f_Encoder_refineOthers_wr_L75b
    rw [if_neg (by rw [zI_lit, zI_le (by omega) (by omega) (by decide) (by decide)]; show ¬ _ ≤ (15 : Int); omega), if_neg (by rw [zI_lt (by omega) (by omega) (by omega) (by omega)]; omega), w2]
    dsimp only [Option.bind_some]
    rw [w3']
    dsimp only [Option.bind_some]
    rw [w4]
    dsimp only [Option.bind_some]
    rw [e2, w5', show z - 16 - 16 * q = z - 16 * (q + 1) by omega]
    refine ⟨_, _, _, _, _, rfl, ?_⟩
    have es2 : es ++ srE t run held ++ [(0, t, 240)] ++ (com.map fun x => (1, x, 0)) ++ (zrE t q 0 [] []).1 = es ++ (srE t run held ++ ((0, t, 240) :: ((com.map fun x => (1, x, 0)) ++ (zrE t q 0 [] []).1))) := by simp only [List.append_assoc, List.cons_append, List.nil_append]
    rw [es2] at r5
    exact r5
