def f_M_single_L2b (mo_mask : Int32) (N : Nat) (rec : Int32 → Option (Int32)) (v1_2 : Int32) : Option (Int32) :=
  if ((mo_mask >>> (v1_2 &&& 31)) &&& (1 : Int32)) = 0 then
    rec (v1_2 + (1 : Int32))
  else
    some v1_2
def f_M_single_L2 (mo_mask : Int32) (N : Nat) (k : Nat) : Int32 → Option (Int32) := it (fun rec a => f_M_single_L2b mo_mask N rec a) k
def f_M_single (N : Nat) (mo_mask : Int32) : Option (Int32) :=
  (f_M_single_L2 mo_mask N N (0 : Int32)).bind fun z1 =>
    some z1
abbrev w_M_single (cI cB cS cT : ClassId) (a_mo : Nat) (a_mo_h : Nat) (a_mo_v : Nat) (a_mo_across : Nat) (a_mo_down : Nat) (a_mo_ownAcross : Nat) (a_mo_ownDown : Nat) (a_mo_base : Nat) (a_mo_coefficients : Nat) (a_mo_before0 : Nat) (a_mo_draftCounts : Nat) (a_mo_draft : Nat) (a_mo_words : Nat) (a_mo_lengths : Nat) (a_mo_codes : Nat) (a_mo_directOf : Nat) (a_mo_otherOf : Nat) (a_mo_data : Nat) (a_mo_out : Nat) (a_mo_times : Nat) (a_mo_prediction : Nat) (a_mo_runBits : Nat) (a_mo_toCome : Nat) (a_mo_timesKept : Nat) (mo_thrown : Int32) (mo_width : Int32) (mo_height : Int32) (mo_many : Int32) (mo_unitsAcross : Int32) (mo_unitsDown : Int32) (mo_drafts : Int32) (mo_mask : Int32) (mo_first : Int32) (mo_last : Int32) (mo_before : Int32) (mo_bits : Int32) (mo_interval : Int32) (mo_size : Int32) (mo_outs : Int32) (mo_part : Int32) (mo_parted : Int32) (mo_failed : Int32) (mo_counting : Int32) (mo_run : Int32) (mo_runMany : Int32) (mo_comes : Int32) (mo_at : Int32) (mo_taken : Int32) (mo_left : Int32) (mo_fault : Int32) : va_W := [(a_mo, .inr (11, [.int mo_thrown, .int mo_width, .int mo_height, .int mo_many, .ref a_mo_h, .ref a_mo_v, .ref a_mo_across, .ref a_mo_down, .ref a_mo_ownAcross, .ref a_mo_ownDown, .ref a_mo_base, .int mo_unitsAcross, .int mo_unitsDown, .ref a_mo_coefficients, .ref a_mo_before0, .ref a_mo_draftCounts, .ref a_mo_draft, .int mo_drafts, .ref a_mo_words, .ref a_mo_lengths, .ref a_mo_codes, .ref a_mo_directOf, .ref a_mo_otherOf, .int mo_mask, .int mo_first, .int mo_last, .int mo_before, .int mo_bits, .int mo_interval, .ref a_mo_data, .int mo_size, .ref a_mo_out, .int mo_outs, .int mo_part, .int mo_parted, .int mo_failed, .int mo_counting, .ref a_mo_times, .ref a_mo_prediction, .int mo_run, .ref a_mo_runBits, .int mo_runMany, .ref a_mo_toCome, .int mo_comes, .int mo_at, .int mo_taken, .int mo_left, .int mo_fault, .ref a_mo_timesKept]))]
def rm_M_single : Room := { frames := 0, cells := 0, slots := 0, locals := 0 }
set_option maxHeartbeats 1000000 in
set_option maxRecDepth 100000 in
theorem c_M_single (l : Launch) (dC : Nat → ClassId) (dI : Nat → Nat → Nat) (cI cB cS cT : ClassId) (N : Nat) (a_mo : Nat) (a_mo_h : Nat) (a_mo_v : Nat) (a_mo_across : Nat) (a_mo_down : Nat) (a_mo_ownAcross : Nat) (a_mo_ownDown : Nat) (a_mo_base : Nat) (a_mo_coefficients : Nat) (a_mo_before0 : Nat) (a_mo_draftCounts : Nat) (a_mo_draft : Nat) (a_mo_words : Nat) (a_mo_lengths : Nat) (a_mo_codes : Nat) (a_mo_directOf : Nat) (a_mo_otherOf : Nat) (a_mo_data : Nat) (a_mo_out : Nat) (a_mo_times : Nat) (a_mo_prediction : Nat) (a_mo_runBits : Nat) (a_mo_toCome : Nat) (a_mo_timesKept : Nat) (mo_thrown : Int32) (mo_width : Int32) (mo_height : Int32) (mo_many : Int32) (mo_unitsAcross : Int32) (mo_unitsDown : Int32) (mo_drafts : Int32) (mo_mask : Int32) (mo_first : Int32) (mo_last : Int32) (mo_before : Int32) (mo_bits : Int32) (mo_interval : Int32) (mo_size : Int32) (mo_outs : Int32) (mo_part : Int32) (mo_parted : Int32) (mo_failed : Int32) (mo_counting : Int32) (mo_run : Int32) (mo_runMany : Int32) (mo_comes : Int32) (mo_at : Int32) (mo_taken : Int32) (mo_left : Int32) (mo_fault : Int32) (z : Int32) (hf : f_M_single N mo_mask = some z) : Met l y_m1046 ws_m1046 rm_M_single (gPreP (dC, dI) [.ref a_mo] (gT cI cB cS cT) (w_M_single cI cB cS cT a_mo a_mo_h a_mo_v a_mo_across a_mo_down a_mo_ownAcross a_mo_ownDown a_mo_base a_mo_coefficients a_mo_before0 a_mo_draftCounts a_mo_draft a_mo_words a_mo_lengths a_mo_codes a_mo_directOf a_mo_otherOf a_mo_data a_mo_out a_mo_times a_mo_prediction a_mo_runBits a_mo_toCome a_mo_timesKept mo_thrown mo_width mo_height mo_many mo_unitsAcross mo_unitsDown mo_drafts mo_mask mo_first mo_last mo_before mo_bits mo_interval mo_size mo_outs mo_part mo_parted mo_failed mo_counting mo_run mo_runMany mo_comes mo_at mo_taken mo_left mo_fault)) (vp_Si (fun r => r = z)) 0 0 (fun _ => False) := by
  refine Met.ofW (cc := prog_14_method_19_code) (maxL := 2) (ret := (some .int)) (by decide) rfl ?_
  intro p e s m args below meth c s₁ B hml hv
  obtain ⟨hargs, hP, hKN⟩ := hv
  have hK := hKN.1
  have hx := B.exec
  have hb := B.bytes
  have hr := B.returns
  have hts := atoms_spec (ws := ws_m1046) B.pre
  have hown : s.vm.findClass "ScanCoderModel" = some m.cls := findClass_of_methodNamed B.named
  have hlocks := B.notSynchronized
  have k0 := hts _ (List.mem_cons_of_mem _ tw_857)
  have n0 : ∀ w ∈ u_ws "ScanCoderModel" T_11 49, w ∈ ws_m1046 := fun w h => List.mem_cons_of_mem _ (in_11 w h)
  have hl := lv_entry ([.ref a_mo]) (n := 2) (Nat.le_of_ble_eq_true rfl)
  have hfr : entryFrame m args 2 = F0 m 0 ((lg_sl ([.ref a_mo]) ++ List.replicate (2 - (lg_sl ([.ref a_mo])).length) Slot.unset).toArray) [] := by rw [hargs]; exact lg_entry_eq _ _ _
  rw [hfr]
  generalize (lg_sl ([.ref a_mo]) ++ List.replicate (2 - (lg_sl ([.ref a_mo])).length) Slot.unset).toArray = ls at hl ⊢
  have hl : lv_has ls 2 [(0, .ref a_mo)] := hl
  refine gen_Q (fun Q hQ => ?_)
  clear hfr
  have L2 : ∀  (z : Int32), (GP p l e (headSpec ws_m1046 rm_M_single).room s m args below meth c Q 2 19 [(1, .int z)] []) → ∀ (k : Nat) (v1_2 : Int32), f_M_single_L2 mo_mask N k v1_2 = some z → GP p l e (headSpec ws_m1046 rm_M_single).room s m args below meth c Q 2 2 [(0, .ref a_mo), (1, .int v1_2)] [] := by
    intro  z hE0 k
    induction k with
    | zero =>
      intro v1_2 hf
      exact (it_zero hf).elim
    | succ k ih =>
      intro v1_2 hf ls hl
      have hf : f_M_single_L2b mo_mask N (f_M_single_L2 mo_mask N k) v1_2 = some z := hf
      unfold f_M_single_L2b at hf
      refine lv_aload_n hx hb d_m1046_2 rfl (lv_at hl 0 rfl) ?_
      refine va_get (D := (dC, dI)) (ci := 11) (v := .int mo_mask) (C := "ScanCoderModel") (T := T_11) (N := 49) hx hb hts n0 hown hK hP 0 rfl rfl 23 (by decide) k0 (fun _ h9 => h9) rfl d_m1046_3 ?_
      refine lv_iload_n hx hb d_m1046_6 rfl (lv_at hl 1 rfl) ?_
      refine lv_ishr hx hb d_m1046_7 ?_
      refine lv_iconst (v := (1 : Int32)) hx hb d_m1046_8 (by decide) ?_
      refine lv_iand hx hb d_m1046_9 ?_
      refine lv_if_ne (tgt := 19) hx hb d_m1046_10 (by decide) (fun hc => ?_) (fun hc => ?_)
      · replace hf := (if_neg hc).symm.trans hf
        obtain rfl := Option.some.inj hf
        exact hE0  ls (lv_sub hl [1] rfl)
      · replace hf := (if_pos hc).symm.trans hf
        refine lv_iinc (v := v1_2 + (1 : Int32)) (lv' := [(1, .int (v1_2 + (1 : Int32))), (0, .ref a_mo)]) hx hb d_m1046_13 hl (k := 1) rfl rfl (by decide) rfl (fun ls hl => ?_)
        refine lv_goto (tgt := 2) hx hb d_m1046_16 (by decide) ?_
        exact ih (v1_2 + (1 : Int32)) hf ls (lv_sub hl [1, 0] rfl)
  unfold f_M_single at hf
  refine lv_iconst (v := (0 : Int32)) hx hb d_m1046_0 (by decide) ?_
  refine lv_istore_n (lv' := [(1, .int (0 : Int32)), (0, .ref a_mo)]) hx hb d_m1046_1 rfl hl (by decide) rfl (fun ls hl => ?_)
  obtain ⟨z1, hz1, hf⟩ := ob_bind hf
  refine L2  z1 ?_ N (0 : Int32) hz1 ls (lv_sub hl [1, 0] rfl)
  · intro ls hl
    refine lv_iload_n hx hb d_m1046_19 rfl (lv_at hl 0 rfl) ?_
    obtain rfl := Option.some.inj hf
    subst hQ
    exact W.iret (v := z1) hx hb hr (fun t ht hW => ⟨z1, rfl, rfl, ht⟩) (fun q h => by cases h) d_m1046_20

def f_M_units (N : Nat) (mo_unitsAcross : Int32) (mo_unitsDown : Int32) (mo_mask : Int32) (mo_ownAcross : Nat → Int32) (mo_ownDown : Nat → Int32) : Option (Int32) :=
  (f_M_single N mo_mask).bind fun z1 =>
  (f_M_ones N mo_mask).bind fun z2 =>
  if z2 = (1 : Int32) then
    if z1 < 0 ∨ 4 ≤ z1.toNatClampNeg then none else
    if z1 < 0 ∨ 4 ≤ z1.toNatClampNeg then none else
    some ((mo_ownAcross z1.toNatClampNeg) * (mo_ownDown z1.toNatClampNeg))
  else
    some (mo_unitsAcross * mo_unitsDown)
abbrev w_M_units (cI cB cS cT : ClassId) (a_mo : Nat) (a_mo_ownAcross : Nat) (a_mo_ownDown : Nat) (a_mo_h : Nat) (a_mo_v : Nat) (a_mo_across : Nat) (a_mo_down : Nat) (a_mo_base : Nat) (a_mo_coefficients : Nat) (a_mo_before0 : Nat) (a_mo_draftCounts : Nat) (a_mo_draft : Nat) (a_mo_words : Nat) (a_mo_lengths : Nat) (a_mo_codes : Nat) (a_mo_directOf : Nat) (a_mo_otherOf : Nat) (a_mo_data : Nat) (a_mo_out : Nat) (a_mo_times : Nat) (a_mo_prediction : Nat) (a_mo_runBits : Nat) (a_mo_toCome : Nat) (a_mo_timesKept : Nat) (mo_thrown : Int32) (mo_width : Int32) (mo_height : Int32) (mo_many : Int32) (mo_unitsAcross : Int32) (mo_unitsDown : Int32) (mo_drafts : Int32) (mo_mask : Int32) (mo_first : Int32) (mo_last : Int32) (mo_before : Int32) (mo_bits : Int32) (mo_interval : Int32) (mo_size : Int32) (mo_outs : Int32) (mo_part : Int32) (mo_parted : Int32) (mo_failed : Int32) (mo_counting : Int32) (mo_run : Int32) (mo_runMany : Int32) (mo_comes : Int32) (mo_at : Int32) (mo_taken : Int32) (mo_left : Int32) (mo_fault : Int32) (mo_ownAcross : Nat → Int32) (mo_ownDown : Nat → Int32) : va_W := [(a_mo, .inr (11, [.int mo_thrown, .int mo_width, .int mo_height, .int mo_many, .ref a_mo_h, .ref a_mo_v, .ref a_mo_across, .ref a_mo_down, .ref a_mo_ownAcross, .ref a_mo_ownDown, .ref a_mo_base, .int mo_unitsAcross, .int mo_unitsDown, .ref a_mo_coefficients, .ref a_mo_before0, .ref a_mo_draftCounts, .ref a_mo_draft, .int mo_drafts, .ref a_mo_words, .ref a_mo_lengths, .ref a_mo_codes, .ref a_mo_directOf, .ref a_mo_otherOf, .int mo_mask, .int mo_first, .int mo_last, .int mo_before, .int mo_bits, .int mo_interval, .ref a_mo_data, .int mo_size, .ref a_mo_out, .int mo_outs, .int mo_part, .int mo_parted, .int mo_failed, .int mo_counting, .ref a_mo_times, .ref a_mo_prediction, .int mo_run, .ref a_mo_runBits, .int mo_runMany, .ref a_mo_toCome, .int mo_comes, .int mo_at, .int mo_taken, .int mo_left, .int mo_fault, .ref a_mo_timesKept])), (a_mo_ownAcross, .inl (cI, 4, .inl mo_ownAcross)), (a_mo_ownDown, .inl (cI, 4, .inl mo_ownDown))]
def rm_M_units : Room := { frames := 1, cells := 0, slots := 0, locals := 22 }
set_option maxHeartbeats 1000000 in
set_option maxRecDepth 100000 in
theorem c_M_units (l : Launch) (dC : Nat → ClassId) (dI : Nat → Nat → Nat) (cI cB cS cT : ClassId) (N : Nat) (a_mo : Nat) (a_mo_ownAcross : Nat) (a_mo_ownDown : Nat) (a_mo_h : Nat) (a_mo_v : Nat) (a_mo_across : Nat) (a_mo_down : Nat) (a_mo_base : Nat) (a_mo_coefficients : Nat) (a_mo_before0 : Nat) (a_mo_draftCounts : Nat) (a_mo_draft : Nat) (a_mo_words : Nat) (a_mo_lengths : Nat) (a_mo_codes : Nat) (a_mo_directOf : Nat) (a_mo_otherOf : Nat) (a_mo_data : Nat) (a_mo_out : Nat) (a_mo_times : Nat) (a_mo_prediction : Nat) (a_mo_runBits : Nat) (a_mo_toCome : Nat) (a_mo_timesKept : Nat) (mo_thrown : Int32) (mo_width : Int32) (mo_height : Int32) (mo_many : Int32) (mo_unitsAcross : Int32) (mo_unitsDown : Int32) (mo_drafts : Int32) (mo_mask : Int32) (mo_first : Int32) (mo_last : Int32) (mo_before : Int32) (mo_bits : Int32) (mo_interval : Int32) (mo_size : Int32) (mo_outs : Int32) (mo_part : Int32) (mo_parted : Int32) (mo_failed : Int32) (mo_counting : Int32) (mo_run : Int32) (mo_runMany : Int32) (mo_comes : Int32) (mo_at : Int32) (mo_taken : Int32) (mo_left : Int32) (mo_fault : Int32) (mo_ownAcross : Nat → Int32) (mo_ownDown : Nat → Int32) (z : Int32) (hf : f_M_units N mo_unitsAcross mo_unitsDown mo_mask mo_ownAcross mo_ownDown = some z) : Met l y_m1050 ws_m1050 rm_M_units (gPreP (dC, dI) [.ref a_mo] (gT cI cB cS cT) (w_M_units cI cB cS cT a_mo a_mo_ownAcross a_mo_ownDown a_mo_h a_mo_v a_mo_across a_mo_down a_mo_base a_mo_coefficients a_mo_before0 a_mo_draftCounts a_mo_draft a_mo_words a_mo_lengths a_mo_codes a_mo_directOf a_mo_otherOf a_mo_data a_mo_out a_mo_times a_mo_prediction a_mo_runBits a_mo_toCome a_mo_timesKept mo_thrown mo_width mo_height mo_many mo_unitsAcross mo_unitsDown mo_drafts mo_mask mo_first mo_last mo_before mo_bits mo_interval mo_size mo_outs mo_part mo_parted mo_failed mo_counting mo_run mo_runMany mo_comes mo_at mo_taken mo_left mo_fault mo_ownAcross mo_ownDown)) (vp_Si (fun r => r = z)) 0 0 (fun _ => False) := by
  refine Met.ofW (cc := prog_14_method_20_code) (maxL := 2) (ret := (some .int)) (by decide) rfl ?_
  intro p e s m args below meth c s₁ B hml hv
  obtain ⟨hargs, hP, hKN⟩ := hv
  have hK := hKN.1
  have hx := B.exec
  have hb := B.bytes
  have hr := B.returns
  have hts := atoms_spec (ws := ws_m1050) B.pre
  have hown : s.vm.findClass "ScanCoderModel" = some m.cls := findClass_of_methodNamed B.named
  have hlocks := B.notSynchronized
  have k0 := hts _ (List.mem_cons_of_mem _ tw_857)
  have k1 := hts _ (List.mem_cons_of_mem _ tw_845)
  have k2 := hts _ (List.mem_cons_of_mem _ tw_846)
  have k3 := hts _ (List.mem_cons_of_mem _ tw_842)
  have k4 := hts _ (List.mem_cons_of_mem _ tw_843)
  have n0 : ∀ w ∈ u_ws "ScanCoderModel" T_11 49, w ∈ ws_m1050 := fun w h => List.mem_cons_of_mem _ (in_11 w h)
  have hl := lv_entry ([.ref a_mo]) (n := 2) (Nat.le_of_ble_eq_true rfl)
  have hfr : entryFrame m args 2 = F0 m 0 ((lg_sl ([.ref a_mo]) ++ List.replicate (2 - (lg_sl ([.ref a_mo])).length) Slot.unset).toArray) [] := by rw [hargs]; exact lg_entry_eq _ _ _
  rw [hfr]
  generalize (lg_sl ([.ref a_mo]) ++ List.replicate (2 - (lg_sl ([.ref a_mo])).length) Slot.unset).toArray = ls at hl ⊢
  have hl : lv_has ls 2 [(0, .ref a_mo)] := hl
  refine gen_Q (fun Q hQ => ?_)
  clear hfr
  unfold f_M_units at hf
  refine lv_aload_n hx hb d_m1050_0 rfl (lv_at hl 0 rfl) ?_
  obtain ⟨z1, hz1, hf⟩ := ob_bind hf
  refine vp_callSi (g_run (va_runV (As := []) (rest := []) ⟨hx, hb, hml, hown, hts⟩ (c_M_single l dC dI cI cB cS cT N a_mo a_mo_h a_mo_v a_mo_across a_mo_down a_mo_ownAcross a_mo_ownDown a_mo_base a_mo_coefficients a_mo_before0 a_mo_draftCounts a_mo_draft a_mo_words a_mo_lengths a_mo_codes a_mo_directOf a_mo_otherOf a_mo_data a_mo_out a_mo_times a_mo_prediction a_mo_runBits a_mo_toCome a_mo_timesKept mo_thrown mo_width mo_height mo_many mo_unitsAcross mo_unitsDown mo_drafts mo_mask mo_first mo_last mo_before mo_bits mo_interval mo_size mo_outs mo_part mo_parted mo_failed mo_counting mo_run mo_runMany mo_comes mo_at mo_taken mo_left mo_fault z1 hz1) ⟨(callB_of 0 hts (gi tw_1046 rfl) rfl rfl rfl (hts _ (List.mem_cons_of_mem _ tw_16)) (hts _ (List.mem_cons_of_mem _ tw_1043)) (by decide +kernel) ⟨Nat.le_of_ble_eq_true rfl, Nat.le_of_ble_eq_true rfl⟩), hts _ (List.mem_cons_of_mem _ tw_1045), hts _ (List.mem_cons_of_mem _ ts_m1046)⟩ ⟨gp_blind, va_recv hK hP (ci := 11) (q0 := 0) rfl rfl, gp_at hKN (g_pm hP [0] rfl)⟩ rfl rfl hl.1 rfl (lv_room (Nat.le_of_ble_eq_true rfl)) d_m1050_1 ⟨Nat.zero_le _, Nat.zero_le _⟩)) (fun r hrz1 => ?_)
  have hrz1 := hrz1.symm
  subst hrz1
  refine W.eq (g2 := F0 m 4 ls [.int z1]) rfl ?_
  refine lv_istore_n (lv' := [(1, .int z1), (0, .ref a_mo)]) hx hb d_m1050_4 rfl hl (by decide) rfl (fun ls hl => ?_)
  refine lv_aload_n hx hb d_m1050_5 rfl (lv_at hl 1 rfl) ?_
  refine va_get (D := (dC, dI)) (ci := 11) (v := .int mo_mask) (C := "ScanCoderModel") (T := T_11) (N := 49) hx hb hts n0 hown hK hP 0 rfl rfl 23 (by decide) k0 (fun _ h9 => h9) rfl d_m1050_6 ?_
  obtain ⟨z2, hz2, hf⟩ := ob_bind hf
  refine vp_callSi (g_run (va_runS (As := [.int mo_mask]) (rest := []) ⟨hx, hb, hml, hown, hts⟩ (c_M_ones l dC dI cI cB cS cT N mo_mask z2 hz2) ⟨(callB_of 1 hts (gi tw_1010 rfl) rfl rfl rfl (hts _ (List.mem_cons_of_mem _ tw_16)) (hts _ (List.mem_cons_of_mem _ tw_1008)) (by decide +kernel) ⟨Nat.le_of_ble_eq_true rfl, Nat.le_of_ble_eq_true rfl⟩), hts _ (List.mem_cons_of_mem _ tw_1009)⟩ ⟨gp_blind, gp_at hKN (g_pm hP [] rfl)⟩ rfl rfl hl.1 rfl (lv_room (Nat.le_of_ble_eq_true rfl)) d_m1050_9 ⟨Nat.zero_le _, Nat.zero_le _⟩)) (fun r hrz2 => ?_)
  have hrz2 := hrz2.symm
  subst hrz2
  refine W.eq (g2 := F0 m 12 ls [.int z2]) rfl ?_
  refine lv_iconst (v := (1 : Int32)) hx hb d_m1050_12 (by decide) ?_
  refine lv_icmp_ne (tgt := 32) hx hb d_m1050_13 (by decide) (fun hc => ?_) (fun hc => ?_)
  · replace hf := (if_neg hc).symm.trans hf
    refine lv_aload_n hx hb d_m1050_32 rfl (lv_at hl 1 rfl) ?_
    refine va_get (D := (dC, dI)) (ci := 11) (v := .int mo_unitsAcross) (C := "ScanCoderModel") (T := T_11) (N := 49) hx hb hts n0 hown hK hP 0 rfl rfl 11 (by decide) k1 (fun _ h9 => h9) rfl d_m1050_33 ?_
    refine lv_aload_n hx hb d_m1050_36 rfl (lv_at hl 1 rfl) ?_
    refine va_get (D := (dC, dI)) (ci := 11) (v := .int mo_unitsDown) (C := "ScanCoderModel") (T := T_11) (N := 49) hx hb hts n0 hown hK hP 0 rfl rfl 12 (by decide) k2 (fun _ h9 => h9) rfl d_m1050_37 ?_
    refine lv_imul hx hb d_m1050_40 ?_
    obtain rfl := Option.some.inj hf
    subst hQ
    exact W.iret (v := mo_unitsAcross * mo_unitsDown) hx hb hr (fun t ht hW => ⟨mo_unitsAcross * mo_unitsDown, rfl, rfl, ht⟩) (fun q h => by cases h) d_m1050_41
  · replace hf := (if_pos hc).symm.trans hf
    refine lv_aload_n hx hb d_m1050_16 rfl (lv_at hl 1 rfl) ?_
    refine va_get (D := (dC, dI)) (ci := 11) (v := .ref a_mo_ownAcross) (C := "ScanCoderModel") (T := T_11) (N := 49) hx hb hts n0 hown hK hP 0 rfl rfl 8 (by decide) k3 (fun _ h9 => h9) rfl d_m1050_17 ?_
    refine lv_iload_n hx hb d_m1050_20 rfl (lv_at hl 0 rfl) ?_
    obtain ⟨hi, hf⟩ := ob_if hf
    refine va_iald hx hb hK hP 1 0 rfl rfl hi d_m1050_21 ?_
    refine lv_aload_n hx hb d_m1050_22 rfl (lv_at hl 1 rfl) ?_
    refine va_get (D := (dC, dI)) (ci := 11) (v := .ref a_mo_ownDown) (C := "ScanCoderModel") (T := T_11) (N := 49) hx hb hts n0 hown hK hP 0 rfl rfl 9 (by decide) k4 (fun _ h9 => h9) rfl d_m1050_23 ?_
    refine lv_iload_n hx hb d_m1050_26 rfl (lv_at hl 0 rfl) ?_
    obtain ⟨hi, hf⟩ := ob_if hf
    refine va_iald hx hb hK hP 2 0 rfl rfl hi d_m1050_27 ?_
    refine lv_imul hx hb d_m1050_28 ?_
    refine lv_goto (tgt := 41) hx hb d_m1050_29 (by decide) ?_
    obtain rfl := Option.some.inj hf
    subst hQ
    exact W.iret (v := (mo_ownAcross z1.toNatClampNeg) * (mo_ownDown z1.toNatClampNeg)) hx hb hr (fun t ht hW => ⟨(mo_ownAcross z1.toNatClampNeg) * (mo_ownDown z1.toNatClampNeg), rfl, rfl, ht⟩) (fun q h => by cases h) d_m1050_41
def f_M_sizeOf_L13b  (N : Nat) (rec : (Int32 × Int32) → Option (Int32)) (v1_13 : Int32) (v2_13 : Int32) : Option (Int32) :=
  if v2_13 ≤ 0 then
    some v1_13
  else
    rec (v1_13 + (1 : Int32), v2_13 / (2 : Int32))
def f_M_sizeOf_L13  (N : Nat) (k : Nat) : (Int32 × Int32) → Option (Int32) := it (fun rec a => f_M_sizeOf_L13b  N rec a.1 a.2) k
def f_M_sizeOf_J12 (N : Nat) (v1_j12 : Int32) (s0_j12 : Int32) : Option (Int32) :=
  (f_M_sizeOf_L13 N N (v1_j12, s0_j12)).bind fun z1 =>
    some z1
def f_M_sizeOf (N : Nat) (p0 : Int32) : Option (Int32) :=
  if 0 ≤ p0 then
    f_M_sizeOf_J12 N (0 : Int32) p0
  else
    f_M_sizeOf_J12 N (0 : Int32) (-p0)
abbrev w_M_sizeOf (cI cB cS cT : ClassId)  : va_W := []
def rm_M_sizeOf : Room := { frames := 0, cells := 0, slots := 0, locals := 0 }
set_option maxHeartbeats 1000000 in
set_option maxRecDepth 100000 in
theorem c_M_sizeOf (l : Launch) (dC : Nat → ClassId) (dI : Nat → Nat → Nat) (cI cB cS cT : ClassId) (N : Nat) (p0 : Int32) (z : Int32) (hf : f_M_sizeOf N p0 = some z) : Met l y_m1057 ws_m1057 rm_M_sizeOf (gPreP (dC, dI) [.int p0] (gT cI cB cS cT) (w_M_sizeOf cI cB cS cT)) (vp_Si (fun r => r = z)) 0 0 (fun _ => False) := by
  refine Met.ofW (cc := prog_14_method_21_code) (maxL := 3) (ret := (some .int)) (by decide) rfl ?_
  intro p e s m args below meth c s₁ B hml hv
  obtain ⟨hargs, hP, hKN⟩ := hv
  have hK := hKN.1
  have hx := B.exec
  have hb := B.bytes
  have hr := B.returns
  have hts := atoms_spec (ws := ws_m1057) B.pre
  have hown : s.vm.findClass "ScanCoderModel" = some m.cls := findClass_of_methodNamed B.named
  have hlocks := B.notSynchronized
  have hl := lv_entry ([.int p0]) (n := 3) (Nat.le_of_ble_eq_true rfl)
  have hfr : entryFrame m args 3 = F0 m 0 ((lg_sl ([.int p0]) ++ List.replicate (3 - (lg_sl ([.int p0])).length) Slot.unset).toArray) [] := by rw [hargs]; exact lg_entry_eq _ _ _
  rw [hfr]
  generalize (lg_sl ([.int p0]) ++ List.replicate (3 - (lg_sl ([.int p0])).length) Slot.unset).toArray = ls at hl ⊢
  have hl : lv_has ls 3 [(0, .int p0)] := hl
  refine gen_Q (fun Q hQ => ?_)
  clear hfr
  have L13 : ∀  (z : Int32), (GP p l e (headSpec ws_m1057 rm_M_sizeOf).room s m args below meth c Q 3 27 [(1, .int z)] []) → ∀ (k : Nat) (v1_13 : Int32) (v2_13 : Int32), f_M_sizeOf_L13  N k (v1_13, v2_13) = some z → GP p l e (headSpec ws_m1057 rm_M_sizeOf).room s m args below meth c Q 3 13 [(1, .int v1_13), (2, .int v2_13)] [] := by
    intro  z hE0 k
    induction k with
    | zero =>
      intro v1_13 v2_13 hf
      exact (it_zero hf).elim
    | succ k ih =>
      intro v1_13 v2_13 hf ls hl
      have hf : f_M_sizeOf_L13b  N (f_M_sizeOf_L13  N k) v1_13 v2_13 = some z := hf
      unfold f_M_sizeOf_L13b at hf
      refine lv_iload_n hx hb d_m1057_13 rfl (lv_at hl 1 rfl) ?_
      refine lv_if_le (tgt := 27) hx hb d_m1057_14 (by decide) (fun hc => ?_) (fun hc => ?_)
      · replace hf := (if_pos hc).symm.trans hf
        obtain rfl := Option.some.inj hf
        exact hE0  ls (lv_sub hl [0] rfl)
      · replace hf := (if_neg hc).symm.trans hf
        refine lv_iinc (v := v1_13 + (1 : Int32)) (lv' := [(1, .int (v1_13 + (1 : Int32))), (2, .int v2_13)]) hx hb d_m1057_17 hl (k := 0) rfl rfl (by decide) rfl (fun ls hl => ?_)
        refine lv_iload_n hx hb d_m1057_20 rfl (lv_at hl 1 rfl) ?_
        refine lv_iconst (v := (2 : Int32)) hx hb d_m1057_21 (by decide) ?_
        refine lv_idiv hx hb d_m1057_22 (by decide) ?_
        refine lv_istore_n (lv' := [(2, .int (v2_13 / (2 : Int32))), (1, .int (v1_13 + (1 : Int32)))]) hx hb d_m1057_23 rfl hl (by decide) rfl (fun ls hl => ?_)
        refine lv_goto (tgt := 13) hx hb d_m1057_24 (by decide) ?_
        exact ih (v1_13 + (1 : Int32)) (v2_13 / (2 : Int32)) hf ls (lv_sub hl [1, 0] rfl)
  have J12 : ∀ (v1_j12 : Int32) (s0_j12 : Int32), f_M_sizeOf_J12 N v1_j12 s0_j12 = some z → GP p l e (headSpec ws_m1057 rm_M_sizeOf).room s m args below meth c Q 3 12 [(1, .int v1_j12)] [.int s0_j12] := by
    intro v1_j12 s0_j12 hf ls hl
    unfold f_M_sizeOf_J12 at hf
    refine lv_istore_n (lv' := [(2, .int s0_j12), (1, .int v1_j12)]) hx hb d_m1057_12 rfl hl (by decide) rfl (fun ls hl => ?_)
    obtain ⟨z1, hz1, hf⟩ := ob_bind hf
    refine L13  z1 ?_ N v1_j12 s0_j12 hz1 ls (lv_sub hl [1, 0] rfl)
    · intro ls hl
      refine lv_iload_n hx hb d_m1057_27 rfl (lv_at hl 0 rfl) ?_
      obtain rfl := Option.some.inj hf
      subst hQ
      exact W.iret (v := z1) hx hb hr (fun t ht hW => ⟨z1, rfl, rfl, ht⟩) (fun q h => by cases h) d_m1057_28
  unfold f_M_sizeOf at hf
  refine lv_iconst (v := (0 : Int32)) hx hb d_m1057_0 (by decide) ?_
  refine lv_istore_n (lv' := [(1, .int (0 : Int32)), (0, .int p0)]) hx hb d_m1057_1 rfl hl (by decide) rfl (fun ls hl => ?_)
  refine lv_iload_n hx hb d_m1057_2 rfl (lv_at hl 1 rfl) ?_
  refine lv_if_ge (tgt := 11) hx hb d_m1057_3 (by decide) (fun hc => ?_) (fun hc => ?_)
  · replace hf := (if_pos hc).symm.trans hf
    refine lv_iload_n hx hb d_m1057_11 rfl (lv_at hl 1 rfl) ?_
    exact J12 (0 : Int32) p0 hf ls (lv_sub hl [0] rfl)
  · replace hf := (if_neg hc).symm.trans hf
    refine lv_iload_n hx hb d_m1057_6 rfl (lv_at hl 1 rfl) ?_
    refine lv_ineg hx hb d_m1057_7 ?_
    refine lv_goto (tgt := 12) hx hb d_m1057_8 (by decide) ?_
    exact J12 (0 : Int32) (-p0) hf ls (lv_sub hl [0] rfl)

def f_M_raw (p0 : Int32) (mo_outs : Int32) (mo_failed : Int32) (mo_out : Nat → Int32) : Option (Int32 × Int32 × (Nat → Int32)) :=
  if mo_outs = (16384 : Int32) then
    some (mo_outs, (1 : Int32), mo_out)
  else
    if mo_outs < 0 ∨ 16384 ≤ mo_outs.toNatClampNeg then none else
    some (mo_outs + (1 : Int32), mo_failed, upd mo_out mo_outs.toNatClampNeg (vp_nar .byte p0.toInt8.toInt32))
abbrev w_M_raw (cI cB cS cT : ClassId) (a_mo : Nat) (a_mo_out : Nat) (a_mo_h : Nat) (a_mo_v : Nat) (a_mo_across : Nat) (a_mo_down : Nat) (a_mo_ownAcross : Nat) (a_mo_ownDown : Nat) (a_mo_base : Nat) (a_mo_coefficients : Nat) (a_mo_before0 : Nat) (a_mo_draftCounts : Nat) (a_mo_draft : Nat) (a_mo_words : Nat) (a_mo_lengths : Nat) (a_mo_codes : Nat) (a_mo_directOf : Nat) (a_mo_otherOf : Nat) (a_mo_data : Nat) (a_mo_times : Nat) (a_mo_prediction : Nat) (a_mo_runBits : Nat) (a_mo_toCome : Nat) (a_mo_timesKept : Nat) (mo_thrown : Int32) (mo_width : Int32) (mo_height : Int32) (mo_many : Int32) (mo_unitsAcross : Int32) (mo_unitsDown : Int32) (mo_drafts : Int32) (mo_mask : Int32) (mo_first : Int32) (mo_last : Int32) (mo_before : Int32) (mo_bits : Int32) (mo_interval : Int32) (mo_size : Int32) (mo_outs : Int32) (mo_part : Int32) (mo_parted : Int32) (mo_failed : Int32) (mo_counting : Int32) (mo_run : Int32) (mo_runMany : Int32) (mo_comes : Int32) (mo_at : Int32) (mo_taken : Int32) (mo_left : Int32) (mo_fault : Int32) (mo_out : Nat → Int32) : va_W := [(a_mo, .inr (11, [.int mo_thrown, .int mo_width, .int mo_height, .int mo_many, .ref a_mo_h, .ref a_mo_v, .ref a_mo_across, .ref a_mo_down, .ref a_mo_ownAcross, .ref a_mo_ownDown, .ref a_mo_base, .int mo_unitsAcross, .int mo_unitsDown, .ref a_mo_coefficients, .ref a_mo_before0, .ref a_mo_draftCounts, .ref a_mo_draft, .int mo_drafts, .ref a_mo_words, .ref a_mo_lengths, .ref a_mo_codes, .ref a_mo_directOf, .ref a_mo_otherOf, .int mo_mask, .int mo_first, .int mo_last, .int mo_before, .int mo_bits, .int mo_interval, .ref a_mo_data, .int mo_size, .ref a_mo_out, .int mo_outs, .int mo_part, .int mo_parted, .int mo_failed, .int mo_counting, .ref a_mo_times, .ref a_mo_prediction, .int mo_run, .ref a_mo_runBits, .int mo_runMany, .ref a_mo_toCome, .int mo_comes, .int mo_at, .int mo_taken, .int mo_left, .int mo_fault, .ref a_mo_timesKept])), (a_mo_out, .inl (cB, 16384, .inl mo_out))]
def rm_M_raw : Room := { frames := 0, cells := 0, slots := 0, locals := 0 }
set_option maxHeartbeats 1000000 in
set_option maxRecDepth 100000 in
theorem c_M_raw (l : Launch) (dC : Nat → ClassId) (dI : Nat → Nat → Nat) (cI cB cS cT : ClassId) (a_mo : Nat) (a_mo_out : Nat) (a_mo_h : Nat) (a_mo_v : Nat) (a_mo_across : Nat) (a_mo_down : Nat) (a_mo_ownAcross : Nat) (a_mo_ownDown : Nat) (a_mo_base : Nat) (a_mo_coefficients : Nat) (a_mo_before0 : Nat) (a_mo_draftCounts : Nat) (a_mo_draft : Nat) (a_mo_words : Nat) (a_mo_lengths : Nat) (a_mo_codes : Nat) (a_mo_directOf : Nat) (a_mo_otherOf : Nat) (a_mo_data : Nat) (a_mo_times : Nat) (a_mo_prediction : Nat) (a_mo_runBits : Nat) (a_mo_toCome : Nat) (a_mo_timesKept : Nat) (mo_thrown : Int32) (mo_width : Int32) (mo_height : Int32) (mo_many : Int32) (mo_unitsAcross : Int32) (mo_unitsDown : Int32) (mo_drafts : Int32) (mo_mask : Int32) (mo_first : Int32) (mo_last : Int32) (mo_before : Int32) (mo_bits : Int32) (mo_interval : Int32) (mo_size : Int32) (mo_outs : Int32) (mo_part : Int32) (mo_parted : Int32) (mo_failed : Int32) (mo_counting : Int32) (mo_run : Int32) (mo_runMany : Int32) (mo_comes : Int32) (mo_at : Int32) (mo_taken : Int32) (mo_left : Int32) (mo_fault : Int32) (mo_out : Nat → Int32) (p0 : Int32) (sz : Nat) (z : Int32 × Int32 × (Nat → Int32)) (hf : f_M_raw p0 mo_outs mo_failed mo_out = some z) : Met l y_m1073 ws_m1073 rm_M_raw (gPre (dC, dI) [.ref a_mo, .int p0] (gT cI cB cS cT) (w_M_raw cI cB cS cT a_mo a_mo_out a_mo_h a_mo_v a_mo_across a_mo_down a_mo_ownAcross a_mo_ownDown a_mo_base a_mo_coefficients a_mo_before0 a_mo_draftCounts a_mo_draft a_mo_words a_mo_lengths a_mo_codes a_mo_directOf a_mo_otherOf a_mo_data a_mo_times a_mo_prediction a_mo_runBits a_mo_toCome a_mo_timesKept mo_thrown mo_width mo_height mo_many mo_unitsAcross mo_unitsDown mo_drafts mo_mask mo_first mo_last mo_before mo_bits mo_interval mo_size mo_outs mo_part mo_parted mo_failed mo_counting mo_run mo_runMany mo_comes mo_at mo_taken mo_left mo_fault mo_out) sz) (gQv (dC, dI) (gT cI cB cS cT) (w_M_raw cI cB cS cT a_mo a_mo_out a_mo_h a_mo_v a_mo_across a_mo_down a_mo_ownAcross a_mo_ownDown a_mo_base a_mo_coefficients a_mo_before0 a_mo_draftCounts a_mo_draft a_mo_words a_mo_lengths a_mo_codes a_mo_directOf a_mo_otherOf a_mo_data a_mo_times a_mo_prediction a_mo_runBits a_mo_toCome a_mo_timesKept mo_thrown mo_width mo_height mo_many mo_unitsAcross mo_unitsDown mo_drafts mo_mask mo_first mo_last mo_before mo_bits mo_interval mo_size mo_outs mo_part mo_parted mo_failed mo_counting mo_run mo_runMany mo_comes mo_at mo_taken mo_left mo_fault mo_out) (w_M_raw cI cB cS cT a_mo a_mo_out a_mo_h a_mo_v a_mo_across a_mo_down a_mo_ownAcross a_mo_ownDown a_mo_base a_mo_coefficients a_mo_before0 a_mo_draftCounts a_mo_draft a_mo_words a_mo_lengths a_mo_codes a_mo_directOf a_mo_otherOf a_mo_data a_mo_times a_mo_prediction a_mo_runBits a_mo_toCome a_mo_timesKept mo_thrown mo_width mo_height mo_many mo_unitsAcross mo_unitsDown mo_drafts mo_mask mo_first mo_last mo_before mo_bits mo_interval mo_size z.1 mo_part mo_parted z.2.1 mo_counting mo_run mo_runMany mo_comes mo_at mo_taken mo_left mo_fault z.2.2) sz) 0 0 (va_A (w_M_raw cI cB cS cT a_mo a_mo_out a_mo_h a_mo_v a_mo_across a_mo_down a_mo_ownAcross a_mo_ownDown a_mo_base a_mo_coefficients a_mo_before0 a_mo_draftCounts a_mo_draft a_mo_words a_mo_lengths a_mo_codes a_mo_directOf a_mo_otherOf a_mo_data a_mo_times a_mo_prediction a_mo_runBits a_mo_toCome a_mo_timesKept mo_thrown mo_width mo_height mo_many mo_unitsAcross mo_unitsDown mo_drafts mo_mask mo_first mo_last mo_before mo_bits mo_interval mo_size mo_outs mo_part mo_parted mo_failed mo_counting mo_run mo_runMany mo_comes mo_at mo_taken mo_left mo_fault mo_out) sz) := by
  refine Met.ofW (cc := prog_14_method_23_code) (maxL := 2) (ret := none) (by decide) rfl ?_
  intro p e s m args below meth c s₁ B hml hv
  obtain ⟨hargs, hsz, hP, hKN, hD0⟩ := hv
  have hK := hKN.1
  have hx := B.exec
  have hb := B.bytes
  have hr := B.returns
  have hts := atoms_spec (ws := ws_m1073) B.pre
  have hown : s.vm.findClass "ScanCoderModel" = some m.cls := findClass_of_methodNamed B.named
  have hlocks := B.notSynchronized
  have k0 := hts _ (List.mem_cons_of_mem _ tw_866)
  have k1 := hts _ (List.mem_cons_of_mem _ tw_865)
  have k2 := hts _ (List.mem_cons_of_mem _ tw_869)
  have n0 : ∀ w ∈ u_ws "ScanCoderModel" T_11 49, w ∈ ws_m1073 := fun w h => List.mem_cons_of_mem _ (in_11 w h)
  subst hsz
  have hD := hD0.self (sz := s.heap.size)
  obtain ⟨A, hAe⟩ : ∃ A : Nat → Prop, va_A (w_M_raw cI cB cS cT a_mo a_mo_out a_mo_h a_mo_v a_mo_across a_mo_down a_mo_ownAcross a_mo_ownDown a_mo_base a_mo_coefficients a_mo_before0 a_mo_draftCounts a_mo_draft a_mo_words a_mo_lengths a_mo_codes a_mo_directOf a_mo_otherOf a_mo_data a_mo_times a_mo_prediction a_mo_runBits a_mo_toCome a_mo_timesKept mo_thrown mo_width mo_height mo_many mo_unitsAcross mo_unitsDown mo_drafts mo_mask mo_first mo_last mo_before mo_bits mo_interval mo_size mo_outs mo_part mo_parted mo_failed mo_counting mo_run mo_runMany mo_comes mo_at mo_taken mo_left mo_fault mo_out) s.heap.size = A := ⟨_, rfl⟩
  rw [hAe] at hD
  have hA : ∀ q : Nat, s.heap.size ≤ q → A q := fun q h => by rw [← hAe]; exact Or.inr h
  have hS : va_S A s.heap s.heap [] := va_S.rf
  have hl := lv_entry ([.ref a_mo, .int p0]) (n := 2) (Nat.le_of_ble_eq_true rfl)
  have hfr : entryFrame m args 2 = F0 m 0 ((lg_sl ([.ref a_mo, .int p0]) ++ List.replicate (2 - (lg_sl ([.ref a_mo, .int p0])).length) Slot.unset).toArray) [] := by rw [hargs]; exact lg_entry_eq _ _ _
  rw [hfr]
  generalize (lg_sl ([.ref a_mo, .int p0]) ++ List.replicate (2 - (lg_sl ([.ref a_mo, .int p0])).length) Slot.unset).toArray = ls at hl ⊢
  have hl : lv_has ls 2 [(0, .ref a_mo), (1, .int p0)] := hl
  refine gen_Q (fun Q hQ => ?_)
  clear hfr
  have hgo : ∀ (H : Heap) (locs : List Loc), va_P (dC, dI) vwCl (w_M_raw cI cB cS cT a_mo a_mo_out a_mo_h a_mo_v a_mo_across a_mo_down a_mo_ownAcross a_mo_ownDown a_mo_base a_mo_coefficients a_mo_before0 a_mo_draftCounts a_mo_draft a_mo_words a_mo_lengths a_mo_codes a_mo_directOf a_mo_otherOf a_mo_data a_mo_times a_mo_prediction a_mo_runBits a_mo_toCome a_mo_timesKept mo_thrown mo_width mo_height mo_many mo_unitsAcross mo_unitsDown mo_drafts mo_mask mo_first mo_last mo_before mo_bits mo_interval mo_size mo_outs mo_part mo_parted mo_failed mo_counting mo_run mo_runMany mo_comes mo_at mo_taken mo_left mo_fault mo_out) H → va_S A s.heap H locs → W p l e (headSpec ws_m1073 rm_M_raw).room s m args below meth c H locs 0 0 Q (F0 m 0 ls []) := by
    intro H locs hP hS
    unfold f_M_raw at hf
    refine lv_aload_n hx hb d_m1073_0 rfl (lv_at hl 0 rfl) ?_
    refine va_get (D := (dC, dI)) (ci := 11) (v := .int mo_outs) (C := "ScanCoderModel") (T := T_11) (N := 49) hx hb hts n0 hown hK hP 0 rfl rfl 32 (by decide) k0 (fun _ h9 => h9) rfl d_m1073_1 ?_
    refine lv_sipush (v := (16384 : Int32)) hx hb d_m1073_4 (by decide) ?_
    refine lv_icmp_ne (tgt := 16) hx hb d_m1073_7 (by decide) (fun hc => ?_) (fun hc => ?_)
    · replace hf := (if_neg hc).symm.trans hf
      refine lv_aload_n hx hb d_m1073_16 rfl (lv_at hl 0 rfl) ?_
      refine va_get (D := (dC, dI)) (ci := 11) (v := .ref a_mo_out) (C := "ScanCoderModel") (T := T_11) (N := 49) hx hb hts n0 hown hK hP 0 rfl rfl 31 (by decide) k1 (fun _ h9 => h9) rfl d_m1073_17 ?_
      refine lv_aload_n hx hb d_m1073_20 rfl (lv_at hl 0 rfl) ?_
      refine va_get (D := (dC, dI)) (ci := 11) (v := .int mo_outs) (C := "ScanCoderModel") (T := T_11) (N := 49) hx hb hts n0 hown hK hP 0 rfl rfl 32 (by decide) k0 (fun _ h9 => h9) rfl d_m1073_21 ?_
      refine lv_iload_n hx hb d_m1073_24 rfl (lv_at hl 1 rfl) ?_
      refine lv_i2b hx hb d_m1073_25 rfl ?_
      obtain ⟨hi, hf⟩ := ob_if hf
      refine va_bast hx hb hK hP hD hS 1 1 rfl rfl hi d_m1073_26 (fun H locs hP hD hS => ?_)
      have hP : va_P (dC, dI) vwCl (w_M_raw cI cB cS cT a_mo a_mo_out a_mo_h a_mo_v a_mo_across a_mo_down a_mo_ownAcross a_mo_ownDown a_mo_base a_mo_coefficients a_mo_before0 a_mo_draftCounts a_mo_draft a_mo_words a_mo_lengths a_mo_codes a_mo_directOf a_mo_otherOf a_mo_data a_mo_times a_mo_prediction a_mo_runBits a_mo_toCome a_mo_timesKept mo_thrown mo_width mo_height mo_many mo_unitsAcross mo_unitsDown mo_drafts mo_mask mo_first mo_last mo_before mo_bits mo_interval mo_size mo_outs mo_part mo_parted mo_failed mo_counting mo_run mo_runMany mo_comes mo_at mo_taken mo_left mo_fault (upd mo_out mo_outs.toNatClampNeg (vp_nar .byte p0.toInt8.toInt32))) H := hP
      have hD : va_D A (w_M_raw cI cB cS cT a_mo a_mo_out a_mo_h a_mo_v a_mo_across a_mo_down a_mo_ownAcross a_mo_ownDown a_mo_base a_mo_coefficients a_mo_before0 a_mo_draftCounts a_mo_draft a_mo_words a_mo_lengths a_mo_codes a_mo_directOf a_mo_otherOf a_mo_data a_mo_times a_mo_prediction a_mo_runBits a_mo_toCome a_mo_timesKept mo_thrown mo_width mo_height mo_many mo_unitsAcross mo_unitsDown mo_drafts mo_mask mo_first mo_last mo_before mo_bits mo_interval mo_size mo_outs mo_part mo_parted mo_failed mo_counting mo_run mo_runMany mo_comes mo_at mo_taken mo_left mo_fault (upd mo_out mo_outs.toNatClampNeg (vp_nar .byte p0.toInt8.toInt32))) := hD
      refine lv_aload_n hx hb d_m1073_27 rfl (lv_at hl 0 rfl) ?_
      refine lv_dup hx hb d_m1073_28 rfl ?_
      refine va_get (D := (dC, dI)) (ci := 11) (v := .int mo_outs) (C := "ScanCoderModel") (T := T_11) (N := 49) hx hb hts n0 hown hK hP 0 rfl rfl 32 (by decide) k0 (fun _ h9 => h9) rfl d_m1073_29 ?_
      refine lv_iconst (v := (1 : Int32)) hx hb d_m1073_32 (by decide) ?_
      refine lv_iadd hx hb d_m1073_33 ?_
      refine va_put (D := (dC, dI)) (ci := 11) (v := .int (mo_outs + (1 : Int32))) (ty := .int) (C := "ScanCoderModel") (T := T_11) (N := 49) hx hb hts n0 ty_11 tyok_11 nm_11 hown hK hP hD hS 0 rfl rfl 32 (by decide) k0 (fun _ h9 => h9) rfl (by decide +kernel) rfl rfl (Nat.le_of_ble_eq_true rfl) d_m1073_34 (fun H locs hP hD hS => ?_)
      have hP : va_P (dC, dI) vwCl (w_M_raw cI cB cS cT a_mo a_mo_out a_mo_h a_mo_v a_mo_across a_mo_down a_mo_ownAcross a_mo_ownDown a_mo_base a_mo_coefficients a_mo_before0 a_mo_draftCounts a_mo_draft a_mo_words a_mo_lengths a_mo_codes a_mo_directOf a_mo_otherOf a_mo_data a_mo_times a_mo_prediction a_mo_runBits a_mo_toCome a_mo_timesKept mo_thrown mo_width mo_height mo_many mo_unitsAcross mo_unitsDown mo_drafts mo_mask mo_first mo_last mo_before mo_bits mo_interval mo_size (mo_outs + (1 : Int32)) mo_part mo_parted mo_failed mo_counting mo_run mo_runMany mo_comes mo_at mo_taken mo_left mo_fault (upd mo_out mo_outs.toNatClampNeg (vp_nar .byte p0.toInt8.toInt32))) H := hP
      have hD : va_D A (w_M_raw cI cB cS cT a_mo a_mo_out a_mo_h a_mo_v a_mo_across a_mo_down a_mo_ownAcross a_mo_ownDown a_mo_base a_mo_coefficients a_mo_before0 a_mo_draftCounts a_mo_draft a_mo_words a_mo_lengths a_mo_codes a_mo_directOf a_mo_otherOf a_mo_data a_mo_times a_mo_prediction a_mo_runBits a_mo_toCome a_mo_timesKept mo_thrown mo_width mo_height mo_many mo_unitsAcross mo_unitsDown mo_drafts mo_mask mo_first mo_last mo_before mo_bits mo_interval mo_size (mo_outs + (1 : Int32)) mo_part mo_parted mo_failed mo_counting mo_run mo_runMany mo_comes mo_at mo_taken mo_left mo_fault (upd mo_out mo_outs.toNatClampNeg (vp_nar .byte p0.toInt8.toInt32))) := hD
      obtain rfl := Option.some.inj hf
      subst hQ
      subst hAe
      exact W.vret hx hb hr (fun t ht hW => ⟨⟨(), rfl, trivial, by rw [ht]; exact hP, hD⟩, hS.F ht⟩) hS.2.2 d_m1073_37
    · replace hf := (if_pos hc).symm.trans hf
      refine lv_aload_n hx hb d_m1073_10 rfl (lv_at hl 0 rfl) ?_
      refine lv_iconst (v := (1 : Int32)) hx hb d_m1073_11 (by decide) ?_
      refine va_put (D := (dC, dI)) (ci := 11) (v := .int (1 : Int32)) (ty := .boolean) (C := "ScanCoderModel") (T := T_11) (N := 49) hx hb hts n0 ty_11 tyok_11 nm_11 hown hK hP hD hS 0 rfl rfl 35 (by decide) k2 (fun _ h9 => h9) rfl (by decide +kernel) rfl rfl (Nat.le_of_ble_eq_true rfl) d_m1073_12 (fun H locs hP hD hS => ?_)
      have hP : va_P (dC, dI) vwCl (w_M_raw cI cB cS cT a_mo a_mo_out a_mo_h a_mo_v a_mo_across a_mo_down a_mo_ownAcross a_mo_ownDown a_mo_base a_mo_coefficients a_mo_before0 a_mo_draftCounts a_mo_draft a_mo_words a_mo_lengths a_mo_codes a_mo_directOf a_mo_otherOf a_mo_data a_mo_times a_mo_prediction a_mo_runBits a_mo_toCome a_mo_timesKept mo_thrown mo_width mo_height mo_many mo_unitsAcross mo_unitsDown mo_drafts mo_mask mo_first mo_last mo_before mo_bits mo_interval mo_size mo_outs mo_part mo_parted (1 : Int32) mo_counting mo_run mo_runMany mo_comes mo_at mo_taken mo_left mo_fault mo_out) H := hP
      have hD : va_D A (w_M_raw cI cB cS cT a_mo a_mo_out a_mo_h a_mo_v a_mo_across a_mo_down a_mo_ownAcross a_mo_ownDown a_mo_base a_mo_coefficients a_mo_before0 a_mo_draftCounts a_mo_draft a_mo_words a_mo_lengths a_mo_codes a_mo_directOf a_mo_otherOf a_mo_data a_mo_times a_mo_prediction a_mo_runBits a_mo_toCome a_mo_timesKept mo_thrown mo_width mo_height mo_many mo_unitsAcross mo_unitsDown mo_drafts mo_mask mo_first mo_last mo_before mo_bits mo_interval mo_size mo_outs mo_part mo_parted (1 : Int32) mo_counting mo_run mo_runMany mo_comes mo_at mo_taken mo_left mo_fault mo_out) := hD
      obtain rfl := Option.some.inj hf
      subst hQ
      subst hAe
      exact W.vret hx hb hr (fun t ht hW => ⟨⟨(), rfl, trivial, by rw [ht]; exact hP, hD⟩, hS.F ht⟩) hS.2.2 d_m1073_15
  exact hgo _ _ hP hS
def f_M_bit_J62 (mo_outs_j62 : Int32) (mo_failed_j62 : Int32) (mo_out_j62 : Nat → Int32) : Option (Int32 × Int32 × Int32 × Int32 × (Nat → Int32)) :=
  some (mo_outs_j62, (0 : Int32), (0 : Int32), mo_failed_j62, mo_out_j62)
def f_M_bit (p0 : Int32) (mo_outs : Int32) (mo_part : Int32) (mo_parted : Int32) (mo_failed : Int32) (mo_counting : Int32) (mo_out : Nat → Int32) : Option (Int32 × Int32 × Int32 × Int32 × (Nat → Int32)) :=
  if mo_counting = 0 then
    if (mo_parted + (1 : Int32)) = (8 : Int32) then
      (f_M_raw (((2 : Int32) * mo_part) + p0) mo_outs mo_failed mo_out).bind fun z1 =>
      if (((2 : Int32) * mo_part) + p0) = (255 : Int32) then
        (f_M_raw (0 : Int32) z1.1 z1.2.1 z1.2.2).bind fun z2 =>
        f_M_bit_J62 z2.1 z2.2.1 z2.2.2
      else
        f_M_bit_J62 z1.1 z1.2.1 z1.2.2
    else
      some (mo_outs, ((2 : Int32) * mo_part) + p0, mo_parted + (1 : Int32), mo_failed, mo_out)
  else
    some (mo_outs, mo_part, mo_parted, mo_failed, mo_out)
abbrev w_M_bit (cI cB cS cT : ClassId) (a_mo : Nat) (a_mo_out : Nat) (a_mo_h : Nat) (a_mo_v : Nat) (a_mo_across : Nat) (a_mo_down : Nat) (a_mo_ownAcross : Nat) (a_mo_ownDown : Nat) (a_mo_base : Nat) (a_mo_coefficients : Nat) (a_mo_before0 : Nat) (a_mo_draftCounts : Nat) (a_mo_draft : Nat) (a_mo_words : Nat) (a_mo_lengths : Nat) (a_mo_codes : Nat) (a_mo_directOf : Nat) (a_mo_otherOf : Nat) (a_mo_data : Nat) (a_mo_times : Nat) (a_mo_prediction : Nat) (a_mo_runBits : Nat) (a_mo_toCome : Nat) (a_mo_timesKept : Nat) (mo_thrown : Int32) (mo_width : Int32) (mo_height : Int32) (mo_many : Int32) (mo_unitsAcross : Int32) (mo_unitsDown : Int32) (mo_drafts : Int32) (mo_mask : Int32) (mo_first : Int32) (mo_last : Int32) (mo_before : Int32) (mo_bits : Int32) (mo_interval : Int32) (mo_size : Int32) (mo_outs : Int32) (mo_part : Int32) (mo_parted : Int32) (mo_failed : Int32) (mo_counting : Int32) (mo_run : Int32) (mo_runMany : Int32) (mo_comes : Int32) (mo_at : Int32) (mo_taken : Int32) (mo_left : Int32) (mo_fault : Int32) (mo_out : Nat → Int32) : va_W := [(a_mo, .inr (11, [.int mo_thrown, .int mo_width, .int mo_height, .int mo_many, .ref a_mo_h, .ref a_mo_v, .ref a_mo_across, .ref a_mo_down, .ref a_mo_ownAcross, .ref a_mo_ownDown, .ref a_mo_base, .int mo_unitsAcross, .int mo_unitsDown, .ref a_mo_coefficients, .ref a_mo_before0, .ref a_mo_draftCounts, .ref a_mo_draft, .int mo_drafts, .ref a_mo_words, .ref a_mo_lengths, .ref a_mo_codes, .ref a_mo_directOf, .ref a_mo_otherOf, .int mo_mask, .int mo_first, .int mo_last, .int mo_before, .int mo_bits, .int mo_interval, .ref a_mo_data, .int mo_size, .ref a_mo_out, .int mo_outs, .int mo_part, .int mo_parted, .int mo_failed, .int mo_counting, .ref a_mo_times, .ref a_mo_prediction, .int mo_run, .ref a_mo_runBits, .int mo_runMany, .ref a_mo_toCome, .int mo_comes, .int mo_at, .int mo_taken, .int mo_left, .int mo_fault, .ref a_mo_timesKept])), (a_mo_out, .inl (cB, 16384, .inl mo_out))]
def rm_M_bit : Room := { frames := 1, cells := 0, slots := 0, locals := 21 }
set_option maxHeartbeats 1000000 in
set_option maxRecDepth 100000 in
theorem c_M_bit (l : Launch) (dC : Nat → ClassId) (dI : Nat → Nat → Nat) (cI cB cS cT : ClassId) (a_mo : Nat) (a_mo_out : Nat) (a_mo_h : Nat) (a_mo_v : Nat) (a_mo_across : Nat) (a_mo_down : Nat) (a_mo_ownAcross : Nat) (a_mo_ownDown : Nat) (a_mo_base : Nat) (a_mo_coefficients : Nat) (a_mo_before0 : Nat) (a_mo_draftCounts : Nat) (a_mo_draft : Nat) (a_mo_words : Nat) (a_mo_lengths : Nat) (a_mo_codes : Nat) (a_mo_directOf : Nat) (a_mo_otherOf : Nat) (a_mo_data : Nat) (a_mo_times : Nat) (a_mo_prediction : Nat) (a_mo_runBits : Nat) (a_mo_toCome : Nat) (a_mo_timesKept : Nat) (mo_thrown : Int32) (mo_width : Int32) (mo_height : Int32) (mo_many : Int32) (mo_unitsAcross : Int32) (mo_unitsDown : Int32) (mo_drafts : Int32) (mo_mask : Int32) (mo_first : Int32) (mo_last : Int32) (mo_before : Int32) (mo_bits : Int32) (mo_interval : Int32) (mo_size : Int32) (mo_outs : Int32) (mo_part : Int32) (mo_parted : Int32) (mo_failed : Int32) (mo_counting : Int32) (mo_run : Int32) (mo_runMany : Int32) (mo_comes : Int32) (mo_at : Int32) (mo_taken : Int32) (mo_left : Int32) (mo_fault : Int32) (mo_out : Nat → Int32) (p0 : Int32) (sz : Nat) (z : Int32 × Int32 × Int32 × Int32 × (Nat → Int32)) (hf : f_M_bit p0 mo_outs mo_part mo_parted mo_failed mo_counting mo_out = some z) : Met l y_m1069 ws_m1069 rm_M_bit (gPre (dC, dI) [.ref a_mo, .int p0] (gT cI cB cS cT) (w_M_bit cI cB cS cT a_mo a_mo_out a_mo_h a_mo_v a_mo_across a_mo_down a_mo_ownAcross a_mo_ownDown a_mo_base a_mo_coefficients a_mo_before0 a_mo_draftCounts a_mo_draft a_mo_words a_mo_lengths a_mo_codes a_mo_directOf a_mo_otherOf a_mo_data a_mo_times a_mo_prediction a_mo_runBits a_mo_toCome a_mo_timesKept mo_thrown mo_width mo_height mo_many mo_unitsAcross mo_unitsDown mo_drafts mo_mask mo_first mo_last mo_before mo_bits mo_interval mo_size mo_outs mo_part mo_parted mo_failed mo_counting mo_run mo_runMany mo_comes mo_at mo_taken mo_left mo_fault mo_out) sz) (gQv (dC, dI) (gT cI cB cS cT) (w_M_bit cI cB cS cT a_mo a_mo_out a_mo_h a_mo_v a_mo_across a_mo_down a_mo_ownAcross a_mo_ownDown a_mo_base a_mo_coefficients a_mo_before0 a_mo_draftCounts a_mo_draft a_mo_words a_mo_lengths a_mo_codes a_mo_directOf a_mo_otherOf a_mo_data a_mo_times a_mo_prediction a_mo_runBits a_mo_toCome a_mo_timesKept mo_thrown mo_width mo_height mo_many mo_unitsAcross mo_unitsDown mo_drafts mo_mask mo_first mo_last mo_before mo_bits mo_interval mo_size mo_outs mo_part mo_parted mo_failed mo_counting mo_run mo_runMany mo_comes mo_at mo_taken mo_left mo_fault mo_out) (w_M_bit cI cB cS cT a_mo a_mo_out a_mo_h a_mo_v a_mo_across a_mo_down a_mo_ownAcross a_mo_ownDown a_mo_base a_mo_coefficients a_mo_before0 a_mo_draftCounts a_mo_draft a_mo_words a_mo_lengths a_mo_codes a_mo_directOf a_mo_otherOf a_mo_data a_mo_times a_mo_prediction a_mo_runBits a_mo_toCome a_mo_timesKept mo_thrown mo_width mo_height mo_many mo_unitsAcross mo_unitsDown mo_drafts mo_mask mo_first mo_last mo_before mo_bits mo_interval mo_size z.1 z.2.1 z.2.2.1 z.2.2.2.1 mo_counting mo_run mo_runMany mo_comes mo_at mo_taken mo_left mo_fault z.2.2.2.2) sz) 0 0 (va_A (w_M_bit cI cB cS cT a_mo a_mo_out a_mo_h a_mo_v a_mo_across a_mo_down a_mo_ownAcross a_mo_ownDown a_mo_base a_mo_coefficients a_mo_before0 a_mo_draftCounts a_mo_draft a_mo_words a_mo_lengths a_mo_codes a_mo_directOf a_mo_otherOf a_mo_data a_mo_times a_mo_prediction a_mo_runBits a_mo_toCome a_mo_timesKept mo_thrown mo_width mo_height mo_many mo_unitsAcross mo_unitsDown mo_drafts mo_mask mo_first mo_last mo_before mo_bits mo_interval mo_size mo_outs mo_part mo_parted mo_failed mo_counting mo_run mo_runMany mo_comes mo_at mo_taken mo_left mo_fault mo_out) sz) := by
  refine Met.ofW (cc := prog_14_method_22_code) (maxL := 2) (ret := none) (by decide) rfl ?_
  intro p e s m args below meth c s₁ B hml hv
  obtain ⟨hargs, hsz, hP, hKN, hD0⟩ := hv
  have hK := hKN.1
  have hx := B.exec
  have hb := B.bytes
  have hr := B.returns
  have hts := atoms_spec (ws := ws_m1069) B.pre
  have hown : s.vm.findClass "ScanCoderModel" = some m.cls := findClass_of_methodNamed B.named
  have hlocks := B.notSynchronized
  have k0 := hts _ (List.mem_cons_of_mem _ tw_870)
  have k1 := hts _ (List.mem_cons_of_mem _ tw_867)
  have k2 := hts _ (List.mem_cons_of_mem _ tw_868)
  have n0 : ∀ w ∈ u_ws "ScanCoderModel" T_11 49, w ∈ ws_m1069 := fun w h => List.mem_cons_of_mem _ (in_11 w h)
  subst hsz
  have hD := hD0.self (sz := s.heap.size)
  obtain ⟨A, hAe⟩ : ∃ A : Nat → Prop, va_A (w_M_bit cI cB cS cT a_mo a_mo_out a_mo_h a_mo_v a_mo_across a_mo_down a_mo_ownAcross a_mo_ownDown a_mo_base a_mo_coefficients a_mo_before0 a_mo_draftCounts a_mo_draft a_mo_words a_mo_lengths a_mo_codes a_mo_directOf a_mo_otherOf a_mo_data a_mo_times a_mo_prediction a_mo_runBits a_mo_toCome a_mo_timesKept mo_thrown mo_width mo_height mo_many mo_unitsAcross mo_unitsDown mo_drafts mo_mask mo_first mo_last mo_before mo_bits mo_interval mo_size mo_outs mo_part mo_parted mo_failed mo_counting mo_run mo_runMany mo_comes mo_at mo_taken mo_left mo_fault mo_out) s.heap.size = A := ⟨_, rfl⟩
  rw [hAe] at hD
  have hA : ∀ q : Nat, s.heap.size ≤ q → A q := fun q h => by rw [← hAe]; exact Or.inr h
  have hS : va_S A s.heap s.heap [] := va_S.rf
  have hl := lv_entry ([.ref a_mo, .int p0]) (n := 2) (Nat.le_of_ble_eq_true rfl)
  have hfr : entryFrame m args 2 = F0 m 0 ((lg_sl ([.ref a_mo, .int p0]) ++ List.replicate (2 - (lg_sl ([.ref a_mo, .int p0])).length) Slot.unset).toArray) [] := by rw [hargs]; exact lg_entry_eq _ _ _
  rw [hfr]
  generalize (lg_sl ([.ref a_mo, .int p0]) ++ List.replicate (2 - (lg_sl ([.ref a_mo, .int p0])).length) Slot.unset).toArray = ls at hl ⊢
  have hl : lv_has ls 2 [(0, .ref a_mo), (1, .int p0)] := hl
  refine gen_Q (fun Q hQ => ?_)
  clear hfr
  have J62 : ∀ (mo_outs_j62 : Int32) (mo_part_j62 : Int32) (mo_parted_j62 : Int32) (mo_failed_j62 : Int32) (mo_out_j62 : Nat → Int32), f_M_bit_J62 mo_outs_j62 mo_failed_j62 mo_out_j62 = some z → GW (dC, dI) A p l e (headSpec ws_m1069 rm_M_bit).room s m args below meth c 0 0 Q 2 62 (w_M_bit cI cB cS cT a_mo a_mo_out a_mo_h a_mo_v a_mo_across a_mo_down a_mo_ownAcross a_mo_ownDown a_mo_base a_mo_coefficients a_mo_before0 a_mo_draftCounts a_mo_draft a_mo_words a_mo_lengths a_mo_codes a_mo_directOf a_mo_otherOf a_mo_data a_mo_times a_mo_prediction a_mo_runBits a_mo_toCome a_mo_timesKept mo_thrown mo_width mo_height mo_many mo_unitsAcross mo_unitsDown mo_drafts mo_mask mo_first mo_last mo_before mo_bits mo_interval mo_size mo_outs_j62 mo_part_j62 mo_parted_j62 mo_failed_j62 mo_counting mo_run mo_runMany mo_comes mo_at mo_taken mo_left mo_fault mo_out_j62) [(0, .ref a_mo)] [] := by
    intro mo_outs_j62 mo_part_j62 mo_parted_j62 mo_failed_j62 mo_out_j62 hf H locs ls hP hD hS hl
    unfold f_M_bit_J62 at hf
    refine lv_aload_n hx hb d_m1069_62 rfl (lv_at hl 0 rfl) ?_
    refine lv_iconst (v := (0 : Int32)) hx hb d_m1069_63 (by decide) ?_
    refine va_put (D := (dC, dI)) (ci := 11) (v := .int (0 : Int32)) (ty := .int) (C := "ScanCoderModel") (T := T_11) (N := 49) hx hb hts n0 ty_11 tyok_11 nm_11 hown hK hP hD hS 0 rfl rfl 33 (by decide) k1 (fun _ h9 => h9) rfl (by decide +kernel) rfl rfl (Nat.le_of_ble_eq_true rfl) d_m1069_64 (fun H locs hP hD hS => ?_)
    have hP : va_P (dC, dI) vwCl (w_M_bit cI cB cS cT a_mo a_mo_out a_mo_h a_mo_v a_mo_across a_mo_down a_mo_ownAcross a_mo_ownDown a_mo_base a_mo_coefficients a_mo_before0 a_mo_draftCounts a_mo_draft a_mo_words a_mo_lengths a_mo_codes a_mo_directOf a_mo_otherOf a_mo_data a_mo_times a_mo_prediction a_mo_runBits a_mo_toCome a_mo_timesKept mo_thrown mo_width mo_height mo_many mo_unitsAcross mo_unitsDown mo_drafts mo_mask mo_first mo_last mo_before mo_bits mo_interval mo_size mo_outs_j62 (0 : Int32) mo_parted_j62 mo_failed_j62 mo_counting mo_run mo_runMany mo_comes mo_at mo_taken mo_left mo_fault mo_out_j62) H := hP
    have hD : va_D A (w_M_bit cI cB cS cT a_mo a_mo_out a_mo_h a_mo_v a_mo_across a_mo_down a_mo_ownAcross a_mo_ownDown a_mo_base a_mo_coefficients a_mo_before0 a_mo_draftCounts a_mo_draft a_mo_words a_mo_lengths a_mo_codes a_mo_directOf a_mo_otherOf a_mo_data a_mo_times a_mo_prediction a_mo_runBits a_mo_toCome a_mo_timesKept mo_thrown mo_width mo_height mo_many mo_unitsAcross mo_unitsDown mo_drafts mo_mask mo_first mo_last mo_before mo_bits mo_interval mo_size mo_outs_j62 (0 : Int32) mo_parted_j62 mo_failed_j62 mo_counting mo_run mo_runMany mo_comes mo_at mo_taken mo_left mo_fault mo_out_j62) := hD
    refine lv_aload_n hx hb d_m1069_67 rfl (lv_at hl 0 rfl) ?_
    refine lv_iconst (v := (0 : Int32)) hx hb d_m1069_68 (by decide) ?_
    refine va_put (D := (dC, dI)) (ci := 11) (v := .int (0 : Int32)) (ty := .int) (C := "ScanCoderModel") (T := T_11) (N := 49) hx hb hts n0 ty_11 tyok_11 nm_11 hown hK hP hD hS 0 rfl rfl 34 (by decide) k2 (fun _ h9 => h9) rfl (by decide +kernel) rfl rfl (Nat.le_of_ble_eq_true rfl) d_m1069_69 (fun H locs hP hD hS => ?_)
    have hP : va_P (dC, dI) vwCl (w_M_bit cI cB cS cT a_mo a_mo_out a_mo_h a_mo_v a_mo_across a_mo_down a_mo_ownAcross a_mo_ownDown a_mo_base a_mo_coefficients a_mo_before0 a_mo_draftCounts a_mo_draft a_mo_words a_mo_lengths a_mo_codes a_mo_directOf a_mo_otherOf a_mo_data a_mo_times a_mo_prediction a_mo_runBits a_mo_toCome a_mo_timesKept mo_thrown mo_width mo_height mo_many mo_unitsAcross mo_unitsDown mo_drafts mo_mask mo_first mo_last mo_before mo_bits mo_interval mo_size mo_outs_j62 (0 : Int32) (0 : Int32) mo_failed_j62 mo_counting mo_run mo_runMany mo_comes mo_at mo_taken mo_left mo_fault mo_out_j62) H := hP
    have hD : va_D A (w_M_bit cI cB cS cT a_mo a_mo_out a_mo_h a_mo_v a_mo_across a_mo_down a_mo_ownAcross a_mo_ownDown a_mo_base a_mo_coefficients a_mo_before0 a_mo_draftCounts a_mo_draft a_mo_words a_mo_lengths a_mo_codes a_mo_directOf a_mo_otherOf a_mo_data a_mo_times a_mo_prediction a_mo_runBits a_mo_toCome a_mo_timesKept mo_thrown mo_width mo_height mo_many mo_unitsAcross mo_unitsDown mo_drafts mo_mask mo_first mo_last mo_before mo_bits mo_interval mo_size mo_outs_j62 (0 : Int32) (0 : Int32) mo_failed_j62 mo_counting mo_run mo_runMany mo_comes mo_at mo_taken mo_left mo_fault mo_out_j62) := hD
    obtain rfl := Option.some.inj hf
    subst hQ
    subst hAe
    exact W.vret hx hb hr (fun t ht hW => ⟨⟨(), rfl, trivial, by rw [ht]; exact hP, hD⟩, hS.F ht⟩) hS.2.2 d_m1069_72
  have hgo : ∀ (H : Heap) (locs : List Loc), va_P (dC, dI) vwCl (w_M_bit cI cB cS cT a_mo a_mo_out a_mo_h a_mo_v a_mo_across a_mo_down a_mo_ownAcross a_mo_ownDown a_mo_base a_mo_coefficients a_mo_before0 a_mo_draftCounts a_mo_draft a_mo_words a_mo_lengths a_mo_codes a_mo_directOf a_mo_otherOf a_mo_data a_mo_times a_mo_prediction a_mo_runBits a_mo_toCome a_mo_timesKept mo_thrown mo_width mo_height mo_many mo_unitsAcross mo_unitsDown mo_drafts mo_mask mo_first mo_last mo_before mo_bits mo_interval mo_size mo_outs mo_part mo_parted mo_failed mo_counting mo_run mo_runMany mo_comes mo_at mo_taken mo_left mo_fault mo_out) H → va_S A s.heap H locs → W p l e (headSpec ws_m1069 rm_M_bit).room s m args below meth c H locs 0 0 Q (F0 m 0 ls []) := by
    intro H locs hP hS
    unfold f_M_bit at hf
    refine lv_aload_n hx hb d_m1069_0 rfl (lv_at hl 0 rfl) ?_
    refine va_get (D := (dC, dI)) (ci := 11) (v := .int mo_counting) (C := "ScanCoderModel") (T := T_11) (N := 49) hx hb hts n0 hown hK hP 0 rfl rfl 36 (by decide) k0 (fun _ h9 => h9) rfl d_m1069_1 ?_
    refine lv_if_eq (tgt := 8) hx hb d_m1069_4 (by decide) (fun hc => ?_) (fun hc => ?_)
    · replace hf := (if_pos hc).symm.trans hf
      refine lv_aload_n hx hb d_m1069_8 rfl (lv_at hl 0 rfl) ?_
      refine lv_iconst (v := (2 : Int32)) hx hb d_m1069_9 (by decide) ?_
      refine lv_aload_n hx hb d_m1069_10 rfl (lv_at hl 0 rfl) ?_
      refine va_get (D := (dC, dI)) (ci := 11) (v := .int mo_part) (C := "ScanCoderModel") (T := T_11) (N := 49) hx hb hts n0 hown hK hP 0 rfl rfl 33 (by decide) k1 (fun _ h9 => h9) rfl d_m1069_11 ?_
      refine lv_imul hx hb d_m1069_14 ?_
      refine lv_iload_n hx hb d_m1069_15 rfl (lv_at hl 1 rfl) ?_
      refine lv_iadd hx hb d_m1069_16 ?_
      refine va_put (D := (dC, dI)) (ci := 11) (v := .int (((2 : Int32) * mo_part) + p0)) (ty := .int) (C := "ScanCoderModel") (T := T_11) (N := 49) hx hb hts n0 ty_11 tyok_11 nm_11 hown hK hP hD hS 0 rfl rfl 33 (by decide) k1 (fun _ h9 => h9) rfl (by decide +kernel) rfl rfl (Nat.le_of_ble_eq_true rfl) d_m1069_17 (fun H locs hP hD hS => ?_)
      have hP : va_P (dC, dI) vwCl (w_M_bit cI cB cS cT a_mo a_mo_out a_mo_h a_mo_v a_mo_across a_mo_down a_mo_ownAcross a_mo_ownDown a_mo_base a_mo_coefficients a_mo_before0 a_mo_draftCounts a_mo_draft a_mo_words a_mo_lengths a_mo_codes a_mo_directOf a_mo_otherOf a_mo_data a_mo_times a_mo_prediction a_mo_runBits a_mo_toCome a_mo_timesKept mo_thrown mo_width mo_height mo_many mo_unitsAcross mo_unitsDown mo_drafts mo_mask mo_first mo_last mo_before mo_bits mo_interval mo_size mo_outs (((2 : Int32) * mo_part) + p0) mo_parted mo_failed mo_counting mo_run mo_runMany mo_comes mo_at mo_taken mo_left mo_fault mo_out) H := hP
      have hD : va_D A (w_M_bit cI cB cS cT a_mo a_mo_out a_mo_h a_mo_v a_mo_across a_mo_down a_mo_ownAcross a_mo_ownDown a_mo_base a_mo_coefficients a_mo_before0 a_mo_draftCounts a_mo_draft a_mo_words a_mo_lengths a_mo_codes a_mo_directOf a_mo_otherOf a_mo_data a_mo_times a_mo_prediction a_mo_runBits a_mo_toCome a_mo_timesKept mo_thrown mo_width mo_height mo_many mo_unitsAcross mo_unitsDown mo_drafts mo_mask mo_first mo_last mo_before mo_bits mo_interval mo_size mo_outs (((2 : Int32) * mo_part) + p0) mo_parted mo_failed mo_counting mo_run mo_runMany mo_comes mo_at mo_taken mo_left mo_fault mo_out) := hD
      refine lv_aload_n hx hb d_m1069_20 rfl (lv_at hl 0 rfl) ?_
      refine lv_dup hx hb d_m1069_21 rfl ?_
      refine va_get (D := (dC, dI)) (ci := 11) (v := .int mo_parted) (C := "ScanCoderModel") (T := T_11) (N := 49) hx hb hts n0 hown hK hP 0 rfl rfl 34 (by decide) k2 (fun _ h9 => h9) rfl d_m1069_22 ?_
      refine lv_iconst (v := (1 : Int32)) hx hb d_m1069_25 (by decide) ?_
      refine lv_iadd hx hb d_m1069_26 ?_
      refine va_put (D := (dC, dI)) (ci := 11) (v := .int (mo_parted + (1 : Int32))) (ty := .int) (C := "ScanCoderModel") (T := T_11) (N := 49) hx hb hts n0 ty_11 tyok_11 nm_11 hown hK hP hD hS 0 rfl rfl 34 (by decide) k2 (fun _ h9 => h9) rfl (by decide +kernel) rfl rfl (Nat.le_of_ble_eq_true rfl) d_m1069_27 (fun H locs hP hD hS => ?_)
      have hP : va_P (dC, dI) vwCl (w_M_bit cI cB cS cT a_mo a_mo_out a_mo_h a_mo_v a_mo_across a_mo_down a_mo_ownAcross a_mo_ownDown a_mo_base a_mo_coefficients a_mo_before0 a_mo_draftCounts a_mo_draft a_mo_words a_mo_lengths a_mo_codes a_mo_directOf a_mo_otherOf a_mo_data a_mo_times a_mo_prediction a_mo_runBits a_mo_toCome a_mo_timesKept mo_thrown mo_width mo_height mo_many mo_unitsAcross mo_unitsDown mo_drafts mo_mask mo_first mo_last mo_before mo_bits mo_interval mo_size mo_outs (((2 : Int32) * mo_part) + p0) (mo_parted + (1 : Int32)) mo_failed mo_counting mo_run mo_runMany mo_comes mo_at mo_taken mo_left mo_fault mo_out) H := hP
      have hD : va_D A (w_M_bit cI cB cS cT a_mo a_mo_out a_mo_h a_mo_v a_mo_across a_mo_down a_mo_ownAcross a_mo_ownDown a_mo_base a_mo_coefficients a_mo_before0 a_mo_draftCounts a_mo_draft a_mo_words a_mo_lengths a_mo_codes a_mo_directOf a_mo_otherOf a_mo_data a_mo_times a_mo_prediction a_mo_runBits a_mo_toCome a_mo_timesKept mo_thrown mo_width mo_height mo_many mo_unitsAcross mo_unitsDown mo_drafts mo_mask mo_first mo_last mo_before mo_bits mo_interval mo_size mo_outs (((2 : Int32) * mo_part) + p0) (mo_parted + (1 : Int32)) mo_failed mo_counting mo_run mo_runMany mo_comes mo_at mo_taken mo_left mo_fault mo_out) := hD
      refine lv_aload_n hx hb d_m1069_30 rfl (lv_at hl 0 rfl) ?_
      refine va_get (D := (dC, dI)) (ci := 11) (v := .int (mo_parted + (1 : Int32))) (C := "ScanCoderModel") (T := T_11) (N := 49) hx hb hts n0 hown hK hP 0 rfl rfl 34 (by decide) k2 (fun _ h9 => h9) rfl d_m1069_31 ?_
      refine lv_bipush (v := (8 : Int32)) hx hb d_m1069_34 (by decide) ?_
      refine lv_icmp_ne (tgt := 72) hx hb d_m1069_36 (by decide) (fun hc => ?_) (fun hc => ?_)
      · replace hf := (if_neg hc).symm.trans hf
        obtain rfl := Option.some.inj hf
        subst hQ
        subst hAe
        exact W.vret hx hb hr (fun t ht hW => ⟨⟨(), rfl, trivial, by rw [ht]; exact hP, hD⟩, hS.F ht⟩) hS.2.2 d_m1069_72
      · replace hf := (if_pos hc).symm.trans hf
        refine lv_aload_n hx hb d_m1069_39 rfl (lv_at hl 0 rfl) ?_
        refine lv_aload_n hx hb d_m1069_40 rfl (lv_at hl 0 rfl) ?_
        refine va_get (D := (dC, dI)) (ci := 11) (v := .int (((2 : Int32) * mo_part) + p0)) (C := "ScanCoderModel") (T := T_11) (N := 49) hx hb hts n0 hown hK hP 0 rfl rfl 33 (by decide) k1 (fun _ h9 => h9) rfl d_m1069_41 ?_
        obtain ⟨z1, hz1, hf⟩ := ob_bind hf
        refine g_callv (wc := (w_M_raw cI cB cS cT a_mo a_mo_out a_mo_h a_mo_v a_mo_across a_mo_down a_mo_ownAcross a_mo_ownDown a_mo_base a_mo_coefficients a_mo_before0 a_mo_draftCounts a_mo_draft a_mo_words a_mo_lengths a_mo_codes a_mo_directOf a_mo_otherOf a_mo_data a_mo_times a_mo_prediction a_mo_runBits a_mo_toCome a_mo_timesKept mo_thrown mo_width mo_height mo_many mo_unitsAcross mo_unitsDown mo_drafts mo_mask mo_first mo_last mo_before mo_bits mo_interval mo_size mo_outs (((2 : Int32) * mo_part) + p0) (mo_parted + (1 : Int32)) mo_failed mo_counting mo_run mo_runMany mo_comes mo_at mo_taken mo_left mo_fault mo_out)) (w1 := (w_M_raw cI cB cS cT a_mo a_mo_out a_mo_h a_mo_v a_mo_across a_mo_down a_mo_ownAcross a_mo_ownDown a_mo_base a_mo_coefficients a_mo_before0 a_mo_draftCounts a_mo_draft a_mo_words a_mo_lengths a_mo_codes a_mo_directOf a_mo_otherOf a_mo_data a_mo_times a_mo_prediction a_mo_runBits a_mo_toCome a_mo_timesKept mo_thrown mo_width mo_height mo_many mo_unitsAcross mo_unitsDown mo_drafts mo_mask mo_first mo_last mo_before mo_bits mo_interval mo_size z1.1 (((2 : Int32) * mo_part) + p0) (mo_parted + (1 : Int32)) z1.2.1 mo_counting mo_run mo_runMany mo_comes mo_at mo_taken mo_left mo_fault z1.2.2)) (w2 := (w_M_bit cI cB cS cT a_mo a_mo_out a_mo_h a_mo_v a_mo_across a_mo_down a_mo_ownAcross a_mo_ownDown a_mo_base a_mo_coefficients a_mo_before0 a_mo_draftCounts a_mo_draft a_mo_words a_mo_lengths a_mo_codes a_mo_directOf a_mo_otherOf a_mo_data a_mo_times a_mo_prediction a_mo_runBits a_mo_toCome a_mo_timesKept mo_thrown mo_width mo_height mo_many mo_unitsAcross mo_unitsDown mo_drafts mo_mask mo_first mo_last mo_before mo_bits mo_interval mo_size z1.1 (((2 : Int32) * mo_part) + p0) (mo_parted + (1 : Int32)) z1.2.1 mo_counting mo_run mo_runMany mo_comes mo_at mo_taken mo_left mo_fault z1.2.2)) [0, 1] [some 0, some 1] hP hD hS hA rfl rfl rfl rfl (va_runV (As := [.int (((2 : Int32) * mo_part) + p0)]) (rest := []) ⟨hx, hb, hml, hown, hts⟩ (c_M_raw l dC dI cI cB cS cT a_mo a_mo_out a_mo_h a_mo_v a_mo_across a_mo_down a_mo_ownAcross a_mo_ownDown a_mo_base a_mo_coefficients a_mo_before0 a_mo_draftCounts a_mo_draft a_mo_words a_mo_lengths a_mo_codes a_mo_directOf a_mo_otherOf a_mo_data a_mo_times a_mo_prediction a_mo_runBits a_mo_toCome a_mo_timesKept mo_thrown mo_width mo_height mo_many mo_unitsAcross mo_unitsDown mo_drafts mo_mask mo_first mo_last mo_before mo_bits mo_interval mo_size mo_outs (((2 : Int32) * mo_part) + p0) (mo_parted + (1 : Int32)) mo_failed mo_counting mo_run mo_runMany mo_comes mo_at mo_taken mo_left mo_fault mo_out (((2 : Int32) * mo_part) + p0) H.size z1 hz1) ⟨(callB_of 1 hts (gi tw_1073 rfl) rfl rfl rfl (hts _ (List.mem_cons_of_mem _ tw_16)) (hts _ (List.mem_cons_of_mem _ tw_1070)) (by decide +kernel) ⟨Nat.le_of_ble_eq_true rfl, Nat.le_of_ble_eq_true rfl⟩), hts _ (List.mem_cons_of_mem _ tw_1072), hts _ (List.mem_cons_of_mem _ ts_m1073)⟩ ⟨g_blind, va_recv hK hP (ci := 11) (q0 := 0) rfl rfl, g_at hKN (g_pm hP [0, 1] rfl) (hD.sub [0, 1] (by decide) rfl)⟩ rfl rfl hl.1 rfl (lv_room (Nat.le_of_ble_eq_true rfl)) d_m1069_44 ⟨Nat.zero_le _, Nat.zero_le _⟩) (fun H locs hP hD hS => ?_)
        refine W.eq (g2 := F0 m 47 ls []) rfl ?_
        refine lv_aload_n hx hb d_m1069_47 rfl (lv_at hl 0 rfl) ?_
        refine va_get (D := (dC, dI)) (ci := 11) (v := .int (((2 : Int32) * mo_part) + p0)) (C := "ScanCoderModel") (T := T_11) (N := 49) hx hb hts n0 hown hK hP 0 rfl rfl 33 (by decide) k1 (fun _ h9 => h9) rfl d_m1069_48 ?_
        refine lv_sipush (v := (255 : Int32)) hx hb d_m1069_51 (by decide) ?_
        refine lv_icmp_ne (tgt := 62) hx hb d_m1069_54 (by decide) (fun hc => ?_) (fun hc => ?_)
        · replace hf := (if_neg hc).symm.trans hf
          exact J62 z1.1 (((2 : Int32) * mo_part) + p0) (mo_parted + (1 : Int32)) z1.2.1 z1.2.2 hf H locs ls hP hD hS (lv_sub hl [0] rfl)
        · replace hf := (if_pos hc).symm.trans hf
          refine lv_aload_n hx hb d_m1069_57 rfl (lv_at hl 0 rfl) ?_
          refine lv_iconst (v := (0 : Int32)) hx hb d_m1069_58 (by decide) ?_
          obtain ⟨z2, hz2, hf⟩ := ob_bind hf
          refine g_callv (wc := (w_M_raw cI cB cS cT a_mo a_mo_out a_mo_h a_mo_v a_mo_across a_mo_down a_mo_ownAcross a_mo_ownDown a_mo_base a_mo_coefficients a_mo_before0 a_mo_draftCounts a_mo_draft a_mo_words a_mo_lengths a_mo_codes a_mo_directOf a_mo_otherOf a_mo_data a_mo_times a_mo_prediction a_mo_runBits a_mo_toCome a_mo_timesKept mo_thrown mo_width mo_height mo_many mo_unitsAcross mo_unitsDown mo_drafts mo_mask mo_first mo_last mo_before mo_bits mo_interval mo_size z1.1 (((2 : Int32) * mo_part) + p0) (mo_parted + (1 : Int32)) z1.2.1 mo_counting mo_run mo_runMany mo_comes mo_at mo_taken mo_left mo_fault z1.2.2)) (w1 := (w_M_raw cI cB cS cT a_mo a_mo_out a_mo_h a_mo_v a_mo_across a_mo_down a_mo_ownAcross a_mo_ownDown a_mo_base a_mo_coefficients a_mo_before0 a_mo_draftCounts a_mo_draft a_mo_words a_mo_lengths a_mo_codes a_mo_directOf a_mo_otherOf a_mo_data a_mo_times a_mo_prediction a_mo_runBits a_mo_toCome a_mo_timesKept mo_thrown mo_width mo_height mo_many mo_unitsAcross mo_unitsDown mo_drafts mo_mask mo_first mo_last mo_before mo_bits mo_interval mo_size z2.1 (((2 : Int32) * mo_part) + p0) (mo_parted + (1 : Int32)) z2.2.1 mo_counting mo_run mo_runMany mo_comes mo_at mo_taken mo_left mo_fault z2.2.2)) (w2 := (w_M_bit cI cB cS cT a_mo a_mo_out a_mo_h a_mo_v a_mo_across a_mo_down a_mo_ownAcross a_mo_ownDown a_mo_base a_mo_coefficients a_mo_before0 a_mo_draftCounts a_mo_draft a_mo_words a_mo_lengths a_mo_codes a_mo_directOf a_mo_otherOf a_mo_data a_mo_times a_mo_prediction a_mo_runBits a_mo_toCome a_mo_timesKept mo_thrown mo_width mo_height mo_many mo_unitsAcross mo_unitsDown mo_drafts mo_mask mo_first mo_last mo_before mo_bits mo_interval mo_size z2.1 (((2 : Int32) * mo_part) + p0) (mo_parted + (1 : Int32)) z2.2.1 mo_counting mo_run mo_runMany mo_comes mo_at mo_taken mo_left mo_fault z2.2.2)) [0, 1] [some 0, some 1] hP hD hS hA rfl rfl rfl rfl (va_runV (As := [.int (0 : Int32)]) (rest := []) ⟨hx, hb, hml, hown, hts⟩ (c_M_raw l dC dI cI cB cS cT a_mo a_mo_out a_mo_h a_mo_v a_mo_across a_mo_down a_mo_ownAcross a_mo_ownDown a_mo_base a_mo_coefficients a_mo_before0 a_mo_draftCounts a_mo_draft a_mo_words a_mo_lengths a_mo_codes a_mo_directOf a_mo_otherOf a_mo_data a_mo_times a_mo_prediction a_mo_runBits a_mo_toCome a_mo_timesKept mo_thrown mo_width mo_height mo_many mo_unitsAcross mo_unitsDown mo_drafts mo_mask mo_first mo_last mo_before mo_bits mo_interval mo_size z1.1 (((2 : Int32) * mo_part) + p0) (mo_parted + (1 : Int32)) z1.2.1 mo_counting mo_run mo_runMany mo_comes mo_at mo_taken mo_left mo_fault z1.2.2 (0 : Int32) H.size z2 hz2) ⟨(callB_of 1 hts (gi tw_1073 rfl) rfl rfl rfl (hts _ (List.mem_cons_of_mem _ tw_16)) (hts _ (List.mem_cons_of_mem _ tw_1070)) (by decide +kernel) ⟨Nat.le_of_ble_eq_true rfl, Nat.le_of_ble_eq_true rfl⟩), hts _ (List.mem_cons_of_mem _ tw_1072), hts _ (List.mem_cons_of_mem _ ts_m1073)⟩ ⟨g_blind, va_recv hK hP (ci := 11) (q0 := 0) rfl rfl, g_at hKN (g_pm hP [0, 1] rfl) (hD.sub [0, 1] (by decide) rfl)⟩ rfl rfl hl.1 rfl (lv_room (Nat.le_of_ble_eq_true rfl)) d_m1069_59 ⟨Nat.zero_le _, Nat.zero_le _⟩) (fun H locs hP hD hS => ?_)
          refine W.eq (g2 := F0 m 62 ls []) rfl ?_
          exact J62 z2.1 (((2 : Int32) * mo_part) + p0) (mo_parted + (1 : Int32)) z2.2.1 z2.2.2 hf H locs ls hP hD hS (lv_sub hl [0] rfl)
    · replace hf := (if_neg hc).symm.trans hf
      obtain rfl := Option.some.inj hf
      subst hQ
      subst hAe
      exact W.vret hx hb hr (fun t ht hW => ⟨⟨(), rfl, trivial, by rw [ht]; exact hP, hD⟩, hS.F ht⟩) hS.2.2 d_m1069_7
  exact hgo _ _ hP hS
def f_M_low_L4b (p0 : Int32) (mo_counting : Int32) (N : Nat) (rec : (Int32 × Int32 × Int32 × Int32 × Int32 × (Nat → Int32)) → Option (Int32 × Int32 × Int32 × Int32 × (Nat → Int32))) (v3_4 : Int32) (mo_outs_4 : Int32) (mo_part_4 : Int32) (mo_parted_4 : Int32) (mo_failed_4 : Int32) (mo_out_4 : Nat → Int32) : Option (Int32 × Int32 × Int32 × Int32 × (Nat → Int32)) :=
  if v3_4 < 0 then
    some (mo_outs_4, mo_part_4, mo_parted_4, mo_failed_4, mo_out_4)
  else
    (f_M_bit ((p0 >>> (v3_4 &&& 31)) &&& (1 : Int32)) mo_outs_4 mo_part_4 mo_parted_4 mo_failed_4 mo_counting mo_out_4).bind fun z1 =>
    rec (v3_4 + (-1 : Int32), z1.1, z1.2.1, z1.2.2.1, z1.2.2.2.1, z1.2.2.2.2)
def f_M_low_L4 (p0 : Int32) (mo_counting : Int32) (N : Nat) (k : Nat) : (Int32 × Int32 × Int32 × Int32 × Int32 × (Nat → Int32)) → Option (Int32 × Int32 × Int32 × Int32 × (Nat → Int32)) := it (fun rec a => f_M_low_L4b p0 mo_counting N rec a.1 a.2.1 a.2.2.1 a.2.2.2.1 a.2.2.2.2.1 a.2.2.2.2.2) k
def f_M_low (N : Nat) (p0 : Int32) (p1 : Int32) (mo_outs : Int32) (mo_part : Int32) (mo_parted : Int32) (mo_failed : Int32) (mo_counting : Int32) (mo_out : Nat → Int32) : Option (Int32 × Int32 × Int32 × Int32 × (Nat → Int32)) :=
  (f_M_low_L4 p0 mo_counting N N (p1 - (1 : Int32), mo_outs, mo_part, mo_parted, mo_failed, mo_out)).bind fun z2 =>
    some (z2.1, z2.2.1, z2.2.2.1, z2.2.2.2.1, z2.2.2.2.2)
abbrev w_M_low (cI cB cS cT : ClassId) (a_mo : Nat) (a_mo_out : Nat) (a_mo_h : Nat) (a_mo_v : Nat) (a_mo_across : Nat) (a_mo_down : Nat) (a_mo_ownAcross : Nat) (a_mo_ownDown : Nat) (a_mo_base : Nat) (a_mo_coefficients : Nat) (a_mo_before0 : Nat) (a_mo_draftCounts : Nat) (a_mo_draft : Nat) (a_mo_words : Nat) (a_mo_lengths : Nat) (a_mo_codes : Nat) (a_mo_directOf : Nat) (a_mo_otherOf : Nat) (a_mo_data : Nat) (a_mo_times : Nat) (a_mo_prediction : Nat) (a_mo_runBits : Nat) (a_mo_toCome : Nat) (a_mo_timesKept : Nat) (mo_thrown : Int32) (mo_width : Int32) (mo_height : Int32) (mo_many : Int32) (mo_unitsAcross : Int32) (mo_unitsDown : Int32) (mo_drafts : Int32) (mo_mask : Int32) (mo_first : Int32) (mo_last : Int32) (mo_before : Int32) (mo_bits : Int32) (mo_interval : Int32) (mo_size : Int32) (mo_outs : Int32) (mo_part : Int32) (mo_parted : Int32) (mo_failed : Int32) (mo_counting : Int32) (mo_run : Int32) (mo_runMany : Int32) (mo_comes : Int32) (mo_at : Int32) (mo_taken : Int32) (mo_left : Int32) (mo_fault : Int32) (mo_out : Nat → Int32) : va_W := [(a_mo, .inr (11, [.int mo_thrown, .int mo_width, .int mo_height, .int mo_many, .ref a_mo_h, .ref a_mo_v, .ref a_mo_across, .ref a_mo_down, .ref a_mo_ownAcross, .ref a_mo_ownDown, .ref a_mo_base, .int mo_unitsAcross, .int mo_unitsDown, .ref a_mo_coefficients, .ref a_mo_before0, .ref a_mo_draftCounts, .ref a_mo_draft, .int mo_drafts, .ref a_mo_words, .ref a_mo_lengths, .ref a_mo_codes, .ref a_mo_directOf, .ref a_mo_otherOf, .int mo_mask, .int mo_first, .int mo_last, .int mo_before, .int mo_bits, .int mo_interval, .ref a_mo_data, .int mo_size, .ref a_mo_out, .int mo_outs, .int mo_part, .int mo_parted, .int mo_failed, .int mo_counting, .ref a_mo_times, .ref a_mo_prediction, .int mo_run, .ref a_mo_runBits, .int mo_runMany, .ref a_mo_toCome, .int mo_comes, .int mo_at, .int mo_taken, .int mo_left, .int mo_fault, .ref a_mo_timesKept])), (a_mo_out, .inl (cB, 16384, .inl mo_out))]
def rm_M_low : Room := { frames := 2, cells := 0, slots := 0, locals := 42 }
set_option maxHeartbeats 1000000 in
set_option maxRecDepth 100000 in
theorem c_M_low (l : Launch) (dC : Nat → ClassId) (dI : Nat → Nat → Nat) (cI cB cS cT : ClassId) (N : Nat) (a_mo : Nat) (a_mo_out : Nat) (a_mo_h : Nat) (a_mo_v : Nat) (a_mo_across : Nat) (a_mo_down : Nat) (a_mo_ownAcross : Nat) (a_mo_ownDown : Nat) (a_mo_base : Nat) (a_mo_coefficients : Nat) (a_mo_before0 : Nat) (a_mo_draftCounts : Nat) (a_mo_draft : Nat) (a_mo_words : Nat) (a_mo_lengths : Nat) (a_mo_codes : Nat) (a_mo_directOf : Nat) (a_mo_otherOf : Nat) (a_mo_data : Nat) (a_mo_times : Nat) (a_mo_prediction : Nat) (a_mo_runBits : Nat) (a_mo_toCome : Nat) (a_mo_timesKept : Nat) (mo_thrown : Int32) (mo_width : Int32) (mo_height : Int32) (mo_many : Int32) (mo_unitsAcross : Int32) (mo_unitsDown : Int32) (mo_drafts : Int32) (mo_mask : Int32) (mo_first : Int32) (mo_last : Int32) (mo_before : Int32) (mo_bits : Int32) (mo_interval : Int32) (mo_size : Int32) (mo_outs : Int32) (mo_part : Int32) (mo_parted : Int32) (mo_failed : Int32) (mo_counting : Int32) (mo_run : Int32) (mo_runMany : Int32) (mo_comes : Int32) (mo_at : Int32) (mo_taken : Int32) (mo_left : Int32) (mo_fault : Int32) (mo_out : Nat → Int32) (p0 : Int32) (p1 : Int32) (sz : Nat) (z : Int32 × Int32 × Int32 × Int32 × (Nat → Int32)) (hf : f_M_low N p0 p1 mo_outs mo_part mo_parted mo_failed mo_counting mo_out = some z) : Met l y_m1065 ws_m1065 rm_M_low (gPre (dC, dI) [.ref a_mo, .int p0, .int p1] (gT cI cB cS cT) (w_M_low cI cB cS cT a_mo a_mo_out a_mo_h a_mo_v a_mo_across a_mo_down a_mo_ownAcross a_mo_ownDown a_mo_base a_mo_coefficients a_mo_before0 a_mo_draftCounts a_mo_draft a_mo_words a_mo_lengths a_mo_codes a_mo_directOf a_mo_otherOf a_mo_data a_mo_times a_mo_prediction a_mo_runBits a_mo_toCome a_mo_timesKept mo_thrown mo_width mo_height mo_many mo_unitsAcross mo_unitsDown mo_drafts mo_mask mo_first mo_last mo_before mo_bits mo_interval mo_size mo_outs mo_part mo_parted mo_failed mo_counting mo_run mo_runMany mo_comes mo_at mo_taken mo_left mo_fault mo_out) sz) (gQv (dC, dI) (gT cI cB cS cT) (w_M_low cI cB cS cT a_mo a_mo_out a_mo_h a_mo_v a_mo_across a_mo_down a_mo_ownAcross a_mo_ownDown a_mo_base a_mo_coefficients a_mo_before0 a_mo_draftCounts a_mo_draft a_mo_words a_mo_lengths a_mo_codes a_mo_directOf a_mo_otherOf a_mo_data a_mo_times a_mo_prediction a_mo_runBits a_mo_toCome a_mo_timesKept mo_thrown mo_width mo_height mo_many mo_unitsAcross mo_unitsDown mo_drafts mo_mask mo_first mo_last mo_before mo_bits mo_interval mo_size mo_outs mo_part mo_parted mo_failed mo_counting mo_run mo_runMany mo_comes mo_at mo_taken mo_left mo_fault mo_out) (w_M_low cI cB cS cT a_mo a_mo_out a_mo_h a_mo_v a_mo_across a_mo_down a_mo_ownAcross a_mo_ownDown a_mo_base a_mo_coefficients a_mo_before0 a_mo_draftCounts a_mo_draft a_mo_words a_mo_lengths a_mo_codes a_mo_directOf a_mo_otherOf a_mo_data a_mo_times a_mo_prediction a_mo_runBits a_mo_toCome a_mo_timesKept mo_thrown mo_width mo_height mo_many mo_unitsAcross mo_unitsDown mo_drafts mo_mask mo_first mo_last mo_before mo_bits mo_interval mo_size z.1 z.2.1 z.2.2.1 z.2.2.2.1 mo_counting mo_run mo_runMany mo_comes mo_at mo_taken mo_left mo_fault z.2.2.2.2) sz) 0 0 (va_A (w_M_low cI cB cS cT a_mo a_mo_out a_mo_h a_mo_v a_mo_across a_mo_down a_mo_ownAcross a_mo_ownDown a_mo_base a_mo_coefficients a_mo_before0 a_mo_draftCounts a_mo_draft a_mo_words a_mo_lengths a_mo_codes a_mo_directOf a_mo_otherOf a_mo_data a_mo_times a_mo_prediction a_mo_runBits a_mo_toCome a_mo_timesKept mo_thrown mo_width mo_height mo_many mo_unitsAcross mo_unitsDown mo_drafts mo_mask mo_first mo_last mo_before mo_bits mo_interval mo_size mo_outs mo_part mo_parted mo_failed mo_counting mo_run mo_runMany mo_comes mo_at mo_taken mo_left mo_fault mo_out) sz) := by
  refine Met.ofW (cc := prog_14_method_24_code) (maxL := 4) (ret := none) (by decide) rfl ?_
  intro p e s m args below meth c s₁ B hml hv
  obtain ⟨hargs, hsz, hP, hKN, hD0⟩ := hv
  have hK := hKN.1
  have hx := B.exec
  have hb := B.bytes
  have hr := B.returns
  have hts := atoms_spec (ws := ws_m1065) B.pre
  have hown : s.vm.findClass "ScanCoderModel" = some m.cls := findClass_of_methodNamed B.named
  have hlocks := B.notSynchronized
  subst hsz
  have hD := hD0.self (sz := s.heap.size)
  obtain ⟨A, hAe⟩ : ∃ A : Nat → Prop, va_A (w_M_low cI cB cS cT a_mo a_mo_out a_mo_h a_mo_v a_mo_across a_mo_down a_mo_ownAcross a_mo_ownDown a_mo_base a_mo_coefficients a_mo_before0 a_mo_draftCounts a_mo_draft a_mo_words a_mo_lengths a_mo_codes a_mo_directOf a_mo_otherOf a_mo_data a_mo_times a_mo_prediction a_mo_runBits a_mo_toCome a_mo_timesKept mo_thrown mo_width mo_height mo_many mo_unitsAcross mo_unitsDown mo_drafts mo_mask mo_first mo_last mo_before mo_bits mo_interval mo_size mo_outs mo_part mo_parted mo_failed mo_counting mo_run mo_runMany mo_comes mo_at mo_taken mo_left mo_fault mo_out) s.heap.size = A := ⟨_, rfl⟩
  rw [hAe] at hD
  have hA : ∀ q : Nat, s.heap.size ≤ q → A q := fun q h => by rw [← hAe]; exact Or.inr h
  have hS : va_S A s.heap s.heap [] := va_S.rf
  have hl := lv_entry ([.ref a_mo, .int p0, .int p1]) (n := 4) (Nat.le_of_ble_eq_true rfl)
  have hfr : entryFrame m args 4 = F0 m 0 ((lg_sl ([.ref a_mo, .int p0, .int p1]) ++ List.replicate (4 - (lg_sl ([.ref a_mo, .int p0, .int p1])).length) Slot.unset).toArray) [] := by rw [hargs]; exact lg_entry_eq _ _ _
  rw [hfr]
  generalize (lg_sl ([.ref a_mo, .int p0, .int p1]) ++ List.replicate (4 - (lg_sl ([.ref a_mo, .int p0, .int p1])).length) Slot.unset).toArray = ls at hl ⊢
  have hl : lv_has ls 4 [(0, .ref a_mo), (1, .int p0), (2, .int p1)] := hl
  refine gen_Q (fun Q hQ => ?_)
  clear hfr
  have L4 : ∀  (z : Int32 × Int32 × Int32 × Int32 × (Nat → Int32)), (GW (dC, dI) A p l e (headSpec ws_m1065 rm_M_low).room s m args below meth c 0 0 Q 4 23 (w_M_low cI cB cS cT a_mo a_mo_out a_mo_h a_mo_v a_mo_across a_mo_down a_mo_ownAcross a_mo_ownDown a_mo_base a_mo_coefficients a_mo_before0 a_mo_draftCounts a_mo_draft a_mo_words a_mo_lengths a_mo_codes a_mo_directOf a_mo_otherOf a_mo_data a_mo_times a_mo_prediction a_mo_runBits a_mo_toCome a_mo_timesKept mo_thrown mo_width mo_height mo_many mo_unitsAcross mo_unitsDown mo_drafts mo_mask mo_first mo_last mo_before mo_bits mo_interval mo_size z.1 z.2.1 z.2.2.1 z.2.2.2.1 mo_counting mo_run mo_runMany mo_comes mo_at mo_taken mo_left mo_fault z.2.2.2.2) [] []) → ∀ (k : Nat) (v3_4 : Int32) (mo_outs_4 : Int32) (mo_part_4 : Int32) (mo_parted_4 : Int32) (mo_failed_4 : Int32) (mo_out_4 : Nat → Int32), f_M_low_L4 p0 mo_counting N k (v3_4, mo_outs_4, mo_part_4, mo_parted_4, mo_failed_4, mo_out_4) = some z → GW (dC, dI) A p l e (headSpec ws_m1065 rm_M_low).room s m args below meth c 0 0 Q 4 4 (w_M_low cI cB cS cT a_mo a_mo_out a_mo_h a_mo_v a_mo_across a_mo_down a_mo_ownAcross a_mo_ownDown a_mo_base a_mo_coefficients a_mo_before0 a_mo_draftCounts a_mo_draft a_mo_words a_mo_lengths a_mo_codes a_mo_directOf a_mo_otherOf a_mo_data a_mo_times a_mo_prediction a_mo_runBits a_mo_toCome a_mo_timesKept mo_thrown mo_width mo_height mo_many mo_unitsAcross mo_unitsDown mo_drafts mo_mask mo_first mo_last mo_before mo_bits mo_interval mo_size mo_outs_4 mo_part_4 mo_parted_4 mo_failed_4 mo_counting mo_run mo_runMany mo_comes mo_at mo_taken mo_left mo_fault mo_out_4) [(0, .ref a_mo), (1, .int p0), (3, .int v3_4)] [] := by
    intro  z hE0 k
    induction k with
    | zero =>
      intro v3_4 mo_outs_4 mo_part_4 mo_parted_4 mo_failed_4 mo_out_4 hf
      exact (it_zero hf).elim
    | succ k ih =>
      intro v3_4 mo_outs_4 mo_part_4 mo_parted_4 mo_failed_4 mo_out_4 hf H locs ls hP hD hS hl
      have hf : f_M_low_L4b p0 mo_counting N (f_M_low_L4 p0 mo_counting N k) v3_4 mo_outs_4 mo_part_4 mo_parted_4 mo_failed_4 mo_out_4 = some z := hf
      unfold f_M_low_L4b at hf
      refine lv_iload_n hx hb d_m1065_4 rfl (lv_at hl 2 rfl) ?_
      refine lv_if_lt (tgt := 23) hx hb d_m1065_5 (by decide) (fun hc => ?_) (fun hc => ?_)
      · replace hf := (if_pos hc).symm.trans hf
        obtain rfl := Option.some.inj hf
        exact hE0  H locs ls hP hD hS (lv_sub hl [] rfl)
      · replace hf := (if_neg hc).symm.trans hf
        refine lv_aload_n hx hb d_m1065_8 rfl (lv_at hl 0 rfl) ?_
        refine lv_iload_n hx hb d_m1065_9 rfl (lv_at hl 1 rfl) ?_
        refine lv_iload_n hx hb d_m1065_10 rfl (lv_at hl 2 rfl) ?_
        refine lv_ishr hx hb d_m1065_11 ?_
        refine lv_iconst (v := (1 : Int32)) hx hb d_m1065_12 (by decide) ?_
        refine lv_iand hx hb d_m1065_13 ?_
        obtain ⟨z1, hz1, hf⟩ := ob_bind hf
        refine g_callv (wc := (w_M_bit cI cB cS cT a_mo a_mo_out a_mo_h a_mo_v a_mo_across a_mo_down a_mo_ownAcross a_mo_ownDown a_mo_base a_mo_coefficients a_mo_before0 a_mo_draftCounts a_mo_draft a_mo_words a_mo_lengths a_mo_codes a_mo_directOf a_mo_otherOf a_mo_data a_mo_times a_mo_prediction a_mo_runBits a_mo_toCome a_mo_timesKept mo_thrown mo_width mo_height mo_many mo_unitsAcross mo_unitsDown mo_drafts mo_mask mo_first mo_last mo_before mo_bits mo_interval mo_size mo_outs_4 mo_part_4 mo_parted_4 mo_failed_4 mo_counting mo_run mo_runMany mo_comes mo_at mo_taken mo_left mo_fault mo_out_4)) (w1 := (w_M_bit cI cB cS cT a_mo a_mo_out a_mo_h a_mo_v a_mo_across a_mo_down a_mo_ownAcross a_mo_ownDown a_mo_base a_mo_coefficients a_mo_before0 a_mo_draftCounts a_mo_draft a_mo_words a_mo_lengths a_mo_codes a_mo_directOf a_mo_otherOf a_mo_data a_mo_times a_mo_prediction a_mo_runBits a_mo_toCome a_mo_timesKept mo_thrown mo_width mo_height mo_many mo_unitsAcross mo_unitsDown mo_drafts mo_mask mo_first mo_last mo_before mo_bits mo_interval mo_size z1.1 z1.2.1 z1.2.2.1 z1.2.2.2.1 mo_counting mo_run mo_runMany mo_comes mo_at mo_taken mo_left mo_fault z1.2.2.2.2)) (w2 := (w_M_low cI cB cS cT a_mo a_mo_out a_mo_h a_mo_v a_mo_across a_mo_down a_mo_ownAcross a_mo_ownDown a_mo_base a_mo_coefficients a_mo_before0 a_mo_draftCounts a_mo_draft a_mo_words a_mo_lengths a_mo_codes a_mo_directOf a_mo_otherOf a_mo_data a_mo_times a_mo_prediction a_mo_runBits a_mo_toCome a_mo_timesKept mo_thrown mo_width mo_height mo_many mo_unitsAcross mo_unitsDown mo_drafts mo_mask mo_first mo_last mo_before mo_bits mo_interval mo_size z1.1 z1.2.1 z1.2.2.1 z1.2.2.2.1 mo_counting mo_run mo_runMany mo_comes mo_at mo_taken mo_left mo_fault z1.2.2.2.2)) [0, 1] [some 0, some 1] hP hD hS hA rfl rfl rfl rfl (va_runV (As := [.int ((p0 >>> (v3_4 &&& 31)) &&& (1 : Int32))]) (rest := []) ⟨hx, hb, hml, hown, hts⟩ (c_M_bit l dC dI cI cB cS cT a_mo a_mo_out a_mo_h a_mo_v a_mo_across a_mo_down a_mo_ownAcross a_mo_ownDown a_mo_base a_mo_coefficients a_mo_before0 a_mo_draftCounts a_mo_draft a_mo_words a_mo_lengths a_mo_codes a_mo_directOf a_mo_otherOf a_mo_data a_mo_times a_mo_prediction a_mo_runBits a_mo_toCome a_mo_timesKept mo_thrown mo_width mo_height mo_many mo_unitsAcross mo_unitsDown mo_drafts mo_mask mo_first mo_last mo_before mo_bits mo_interval mo_size mo_outs_4 mo_part_4 mo_parted_4 mo_failed_4 mo_counting mo_run mo_runMany mo_comes mo_at mo_taken mo_left mo_fault mo_out_4 ((p0 >>> (v3_4 &&& 31)) &&& (1 : Int32)) H.size z1 hz1) ⟨(callB_of 1 hts (gi tw_1069 rfl) rfl rfl rfl (hts _ (List.mem_cons_of_mem _ tw_16)) (hts _ (List.mem_cons_of_mem _ tw_1066)) (by decide +kernel) ⟨Nat.le_of_ble_eq_true rfl, Nat.le_of_ble_eq_true rfl⟩), hts _ (List.mem_cons_of_mem _ tw_1068), hts _ (List.mem_cons_of_mem _ ts_m1069)⟩ ⟨g_blind, va_recv hK hP (ci := 11) (q0 := 0) rfl rfl, g_at hKN (g_pm hP [0, 1] rfl) (hD.sub [0, 1] (by decide) rfl)⟩ rfl rfl hl.1 rfl (lv_room (Nat.le_of_ble_eq_true rfl)) d_m1065_14 ⟨Nat.zero_le _, Nat.zero_le _⟩) (fun H locs hP hD hS => ?_)
        refine W.eq (g2 := F0 m 17 ls []) rfl ?_
        refine lv_iinc (v := v3_4 + (-1 : Int32)) (lv' := [(3, .int (v3_4 + (-1 : Int32))), (0, .ref a_mo), (1, .int p0)]) hx hb d_m1065_17 hl (k := 2) rfl rfl (by decide) rfl (fun ls hl => ?_)
        refine lv_goto (tgt := 4) hx hb d_m1065_20 (by decide) ?_
        exact ih (v3_4 + (-1 : Int32)) z1.1 z1.2.1 z1.2.2.1 z1.2.2.2.1 z1.2.2.2.2 hf H locs ls hP hD hS (lv_sub hl [1, 2, 0] rfl)
  have hgo : ∀ (H : Heap) (locs : List Loc), va_P (dC, dI) vwCl (w_M_low cI cB cS cT a_mo a_mo_out a_mo_h a_mo_v a_mo_across a_mo_down a_mo_ownAcross a_mo_ownDown a_mo_base a_mo_coefficients a_mo_before0 a_mo_draftCounts a_mo_draft a_mo_words a_mo_lengths a_mo_codes a_mo_directOf a_mo_otherOf a_mo_data a_mo_times a_mo_prediction a_mo_runBits a_mo_toCome a_mo_timesKept mo_thrown mo_width mo_height mo_many mo_unitsAcross mo_unitsDown mo_drafts mo_mask mo_first mo_last mo_before mo_bits mo_interval mo_size mo_outs mo_part mo_parted mo_failed mo_counting mo_run mo_runMany mo_comes mo_at mo_taken mo_left mo_fault mo_out) H → va_S A s.heap H locs → W p l e (headSpec ws_m1065 rm_M_low).room s m args below meth c H locs 0 0 Q (F0 m 0 ls []) := by
    intro H locs hP hS
    unfold f_M_low at hf
    refine lv_iload_n hx hb d_m1065_0 rfl (lv_at hl 2 rfl) ?_
    refine lv_iconst (v := (1 : Int32)) hx hb d_m1065_1 (by decide) ?_
    refine lv_isub hx hb d_m1065_2 ?_
    refine lv_istore_n (lv' := [(3, .int (p1 - (1 : Int32))), (0, .ref a_mo), (1, .int p0), (2, .int p1)]) hx hb d_m1065_3 rfl hl (by decide) rfl (fun ls hl => ?_)
    obtain ⟨z2, hz2, hf⟩ := ob_bind hf
    refine L4  z2 ?_ N (p1 - (1 : Int32)) mo_outs mo_part mo_parted mo_failed mo_out hz2 H locs ls hP hD hS (lv_sub hl [1, 2, 0] rfl)
    · intro H locs ls hP hD hS hl
      obtain rfl := Option.some.inj hf
      subst hQ
      subst hAe
      exact W.vret hx hb hr (fun t ht hW => ⟨⟨(), rfl, trivial, by rw [ht]; exact hP, hD⟩, hS.F ht⟩) hS.2.2 d_m1065_23
  exact hgo _ _ hP hS
def f_M_word_J47 (N : Nat) (s1_j47 : Int32) (v3_j47 : Int32) (mo_codes : Nat → Int32) (mo_lengths : Nat → Int32) (mo_outs : Int32) (mo_part : Int32) (mo_parted : Int32) (mo_counting : Int32) (mo_out : Nat → Int32) (mo_times_j47 : Nat → Int32) : Option (Int32 × Int32 × Int32 × Int32 × (Nat → Int32) × (Nat → Int32)) :=
  if s1_j47 = 0 ∨ s1_j47 = 1 then if v3_j47 < 0 ∨ 2048 ≤ v3_j47.toNatClampNeg then none else
  if v3_j47 < 0 ∨ 2048 ≤ v3_j47.toNatClampNeg then none else
  (f_M_low N (mo_codes v3_j47.toNatClampNeg) (mo_lengths v3_j47.toNatClampNeg) mo_outs mo_part mo_parted s1_j47 mo_counting mo_out).bind fun z1 =>
  some (z1.1, z1.2.1, z1.2.2.1, z1.2.2.2.1, z1.2.2.2.2, mo_times_j47) else none
def f_M_word_J42 (N : Nat) (v3_j42 : Int32) (mo_codes : Nat → Int32) (mo_lengths : Nat → Int32) (mo_outs : Int32) (mo_part : Int32) (mo_parted : Int32) (mo_counting : Int32) (mo_out : Nat → Int32) (mo_times_j42 : Nat → Int32) : Option (Int32 × Int32 × Int32 × Int32 × (Nat → Int32) × (Nat → Int32)) :=
  f_M_word_J47 N (1 : Int32) v3_j42 mo_codes mo_lengths mo_outs mo_part mo_parted mo_counting mo_out mo_times_j42
def f_M_word (N : Nat) (p0 : Int32) (p1 : Int32) (mo_outs : Int32) (mo_part : Int32) (mo_parted : Int32) (mo_failed : Int32) (mo_counting : Int32) (mo_lengths : Nat → Int32) (mo_codes : Nat → Int32) (mo_out : Nat → Int32) (mo_times : Nat → Int32) : Option (Int32 × Int32 × Int32 × Int32 × (Nat → Int32) × (Nat → Int32)) :=
  if (((256 : Int32) * p0) + p1) < 0 ∨ 2048 ≤ (((256 : Int32) * p0) + p1).toNatClampNeg then none else
  if (((256 : Int32) * p0) + p1) < 0 ∨ 2048 ≤ (((256 : Int32) * p0) + p1).toNatClampNeg then none else
  if mo_counting = 0 then
    if mo_failed = 0 then
      if (((256 : Int32) * p0) + p1) < 0 ∨ 2048 ≤ (((256 : Int32) * p0) + p1).toNatClampNeg then none else
      if (mo_lengths (((256 : Int32) * p0) + p1).toNatClampNeg) = 0 then
        f_M_word_J42 N (((256 : Int32) * p0) + p1) mo_codes mo_lengths mo_outs mo_part mo_parted mo_counting mo_out (upd mo_times (((256 : Int32) * p0) + p1).toNatClampNeg ((mo_times (((256 : Int32) * p0) + p1).toNatClampNeg) + (1 : Int32)))
      else
        f_M_word_J47 N (0 : Int32) (((256 : Int32) * p0) + p1) mo_codes mo_lengths mo_outs mo_part mo_parted mo_counting mo_out (upd mo_times (((256 : Int32) * p0) + p1).toNatClampNeg ((mo_times (((256 : Int32) * p0) + p1).toNatClampNeg) + (1 : Int32)))
    else
      f_M_word_J42 N (((256 : Int32) * p0) + p1) mo_codes mo_lengths mo_outs mo_part mo_parted mo_counting mo_out (upd mo_times (((256 : Int32) * p0) + p1).toNatClampNeg ((mo_times (((256 : Int32) * p0) + p1).toNatClampNeg) + (1 : Int32)))
  else
    some (mo_outs, mo_part, mo_parted, mo_failed, mo_out, upd mo_times (((256 : Int32) * p0) + p1).toNatClampNeg ((mo_times (((256 : Int32) * p0) + p1).toNatClampNeg) + (1 : Int32)))
abbrev w_M_word (cI cB cS cT : ClassId) (a_mo : Nat) (a_mo_lengths : Nat) (a_mo_codes : Nat) (a_mo_out : Nat) (a_mo_times : Nat) (a_mo_h : Nat) (a_mo_v : Nat) (a_mo_across : Nat) (a_mo_down : Nat) (a_mo_ownAcross : Nat) (a_mo_ownDown : Nat) (a_mo_base : Nat) (a_mo_coefficients : Nat) (a_mo_before0 : Nat) (a_mo_draftCounts : Nat) (a_mo_draft : Nat) (a_mo_words : Nat) (a_mo_directOf : Nat) (a_mo_otherOf : Nat) (a_mo_data : Nat) (a_mo_prediction : Nat) (a_mo_runBits : Nat) (a_mo_toCome : Nat) (a_mo_timesKept : Nat) (mo_thrown : Int32) (mo_width : Int32) (mo_height : Int32) (mo_many : Int32) (mo_unitsAcross : Int32) (mo_unitsDown : Int32) (mo_drafts : Int32) (mo_mask : Int32) (mo_first : Int32) (mo_last : Int32) (mo_before : Int32) (mo_bits : Int32) (mo_interval : Int32) (mo_size : Int32) (mo_outs : Int32) (mo_part : Int32) (mo_parted : Int32) (mo_failed : Int32) (mo_counting : Int32) (mo_run : Int32) (mo_runMany : Int32) (mo_comes : Int32) (mo_at : Int32) (mo_taken : Int32) (mo_left : Int32) (mo_fault : Int32) (mo_lengths : Nat → Int32) (mo_codes : Nat → Int32) (mo_out : Nat → Int32) (mo_times : Nat → Int32) : va_W := [(a_mo, .inr (11, [.int mo_thrown, .int mo_width, .int mo_height, .int mo_many, .ref a_mo_h, .ref a_mo_v, .ref a_mo_across, .ref a_mo_down, .ref a_mo_ownAcross, .ref a_mo_ownDown, .ref a_mo_base, .int mo_unitsAcross, .int mo_unitsDown, .ref a_mo_coefficients, .ref a_mo_before0, .ref a_mo_draftCounts, .ref a_mo_draft, .int mo_drafts, .ref a_mo_words, .ref a_mo_lengths, .ref a_mo_codes, .ref a_mo_directOf, .ref a_mo_otherOf, .int mo_mask, .int mo_first, .int mo_last, .int mo_before, .int mo_bits, .int mo_interval, .ref a_mo_data, .int mo_size, .ref a_mo_out, .int mo_outs, .int mo_part, .int mo_parted, .int mo_failed, .int mo_counting, .ref a_mo_times, .ref a_mo_prediction, .int mo_run, .ref a_mo_runBits, .int mo_runMany, .ref a_mo_toCome, .int mo_comes, .int mo_at, .int mo_taken, .int mo_left, .int mo_fault, .ref a_mo_timesKept])), (a_mo_lengths, .inl (cI, 2048, .inl mo_lengths)), (a_mo_codes, .inl (cI, 2048, .inl mo_codes)), (a_mo_out, .inl (cB, 16384, .inl mo_out)), (a_mo_times, .inl (cI, 2048, .inl mo_times))]
def rm_M_word : Room := { frames := 3, cells := 0, slots := 0, locals := 65 }
set_option maxHeartbeats 1000000 in
set_option maxRecDepth 100000 in
theorem c_M_word (l : Launch) (dC : Nat → ClassId) (dI : Nat → Nat → Nat) (cI cB cS cT : ClassId) (N : Nat) (a_mo : Nat) (a_mo_lengths : Nat) (a_mo_codes : Nat) (a_mo_out : Nat) (a_mo_times : Nat) (a_mo_h : Nat) (a_mo_v : Nat) (a_mo_across : Nat) (a_mo_down : Nat) (a_mo_ownAcross : Nat) (a_mo_ownDown : Nat) (a_mo_base : Nat) (a_mo_coefficients : Nat) (a_mo_before0 : Nat) (a_mo_draftCounts : Nat) (a_mo_draft : Nat) (a_mo_words : Nat) (a_mo_directOf : Nat) (a_mo_otherOf : Nat) (a_mo_data : Nat) (a_mo_prediction : Nat) (a_mo_runBits : Nat) (a_mo_toCome : Nat) (a_mo_timesKept : Nat) (mo_thrown : Int32) (mo_width : Int32) (mo_height : Int32) (mo_many : Int32) (mo_unitsAcross : Int32) (mo_unitsDown : Int32) (mo_drafts : Int32) (mo_mask : Int32) (mo_first : Int32) (mo_last : Int32) (mo_before : Int32) (mo_bits : Int32) (mo_interval : Int32) (mo_size : Int32) (mo_outs : Int32) (mo_part : Int32) (mo_parted : Int32) (mo_failed : Int32) (mo_counting : Int32) (mo_run : Int32) (mo_runMany : Int32) (mo_comes : Int32) (mo_at : Int32) (mo_taken : Int32) (mo_left : Int32) (mo_fault : Int32) (mo_lengths : Nat → Int32) (mo_codes : Nat → Int32) (mo_out : Nat → Int32) (mo_times : Nat → Int32) (p0 : Int32) (p1 : Int32) (sz : Nat) (z : Int32 × Int32 × Int32 × Int32 × (Nat → Int32) × (Nat → Int32)) (hf : f_M_word N p0 p1 mo_outs mo_part mo_parted mo_failed mo_counting mo_lengths mo_codes mo_out mo_times = some z) : Met l y_m1061 ws_m1061 rm_M_word (gPre (dC, dI) [.ref a_mo, .int p0, .int p1] (gT cI cB cS cT) (w_M_word cI cB cS cT a_mo a_mo_lengths a_mo_codes a_mo_out a_mo_times a_mo_h a_mo_v a_mo_across a_mo_down a_mo_ownAcross a_mo_ownDown a_mo_base a_mo_coefficients a_mo_before0 a_mo_draftCounts a_mo_draft a_mo_words a_mo_directOf a_mo_otherOf a_mo_data a_mo_prediction a_mo_runBits a_mo_toCome a_mo_timesKept mo_thrown mo_width mo_height mo_many mo_unitsAcross mo_unitsDown mo_drafts mo_mask mo_first mo_last mo_before mo_bits mo_interval mo_size mo_outs mo_part mo_parted mo_failed mo_counting mo_run mo_runMany mo_comes mo_at mo_taken mo_left mo_fault mo_lengths mo_codes mo_out mo_times) sz) (gQv (dC, dI) (gT cI cB cS cT) (w_M_word cI cB cS cT a_mo a_mo_lengths a_mo_codes a_mo_out a_mo_times a_mo_h a_mo_v a_mo_across a_mo_down a_mo_ownAcross a_mo_ownDown a_mo_base a_mo_coefficients a_mo_before0 a_mo_draftCounts a_mo_draft a_mo_words a_mo_directOf a_mo_otherOf a_mo_data a_mo_prediction a_mo_runBits a_mo_toCome a_mo_timesKept mo_thrown mo_width mo_height mo_many mo_unitsAcross mo_unitsDown mo_drafts mo_mask mo_first mo_last mo_before mo_bits mo_interval mo_size mo_outs mo_part mo_parted mo_failed mo_counting mo_run mo_runMany mo_comes mo_at mo_taken mo_left mo_fault mo_lengths mo_codes mo_out mo_times) (w_M_word cI cB cS cT a_mo a_mo_lengths a_mo_codes a_mo_out a_mo_times a_mo_h a_mo_v a_mo_across a_mo_down a_mo_ownAcross a_mo_ownDown a_mo_base a_mo_coefficients a_mo_before0 a_mo_draftCounts a_mo_draft a_mo_words a_mo_directOf a_mo_otherOf a_mo_data a_mo_prediction a_mo_runBits a_mo_toCome a_mo_timesKept mo_thrown mo_width mo_height mo_many mo_unitsAcross mo_unitsDown mo_drafts mo_mask mo_first mo_last mo_before mo_bits mo_interval mo_size z.1 z.2.1 z.2.2.1 z.2.2.2.1 mo_counting mo_run mo_runMany mo_comes mo_at mo_taken mo_left mo_fault mo_lengths mo_codes z.2.2.2.2.1 z.2.2.2.2.2) sz) 0 0 (va_A (w_M_word cI cB cS cT a_mo a_mo_lengths a_mo_codes a_mo_out a_mo_times a_mo_h a_mo_v a_mo_across a_mo_down a_mo_ownAcross a_mo_ownDown a_mo_base a_mo_coefficients a_mo_before0 a_mo_draftCounts a_mo_draft a_mo_words a_mo_directOf a_mo_otherOf a_mo_data a_mo_prediction a_mo_runBits a_mo_toCome a_mo_timesKept mo_thrown mo_width mo_height mo_many mo_unitsAcross mo_unitsDown mo_drafts mo_mask mo_first mo_last mo_before mo_bits mo_interval mo_size mo_outs mo_part mo_parted mo_failed mo_counting mo_run mo_runMany mo_comes mo_at mo_taken mo_left mo_fault mo_lengths mo_codes mo_out mo_times) sz) := by
  refine Met.ofW (cc := prog_14_method_25_code) (maxL := 4) (ret := none) (by decide) rfl ?_
  intro p e s m args below meth c s₁ B hml hv
  obtain ⟨hargs, hsz, hP, hKN, hD0⟩ := hv
  have hK := hKN.1
  have hx := B.exec
  have hb := B.bytes
  have hr := B.returns
  have hts := atoms_spec (ws := ws_m1061) B.pre
  have hown : s.vm.findClass "ScanCoderModel" = some m.cls := findClass_of_methodNamed B.named
  have hlocks := B.notSynchronized
  have k0 := hts _ (List.mem_cons_of_mem _ tw_871)
  have k1 := hts _ (List.mem_cons_of_mem _ tw_870)
  have k2 := hts _ (List.mem_cons_of_mem _ tw_869)
  have k3 := hts _ (List.mem_cons_of_mem _ tw_854)
  have k4 := hts _ (List.mem_cons_of_mem _ tw_853)
  have n0 : ∀ w ∈ u_ws "ScanCoderModel" T_11 49, w ∈ ws_m1061 := fun w h => List.mem_cons_of_mem _ (in_11 w h)
  subst hsz
  have hD := hD0.self (sz := s.heap.size)
  obtain ⟨A, hAe⟩ : ∃ A : Nat → Prop, va_A (w_M_word cI cB cS cT a_mo a_mo_lengths a_mo_codes a_mo_out a_mo_times a_mo_h a_mo_v a_mo_across a_mo_down a_mo_ownAcross a_mo_ownDown a_mo_base a_mo_coefficients a_mo_before0 a_mo_draftCounts a_mo_draft a_mo_words a_mo_directOf a_mo_otherOf a_mo_data a_mo_prediction a_mo_runBits a_mo_toCome a_mo_timesKept mo_thrown mo_width mo_height mo_many mo_unitsAcross mo_unitsDown mo_drafts mo_mask mo_first mo_last mo_before mo_bits mo_interval mo_size mo_outs mo_part mo_parted mo_failed mo_counting mo_run mo_runMany mo_comes mo_at mo_taken mo_left mo_fault mo_lengths mo_codes mo_out mo_times) s.heap.size = A := ⟨_, rfl⟩
  rw [hAe] at hD
  have hA : ∀ q : Nat, s.heap.size ≤ q → A q := fun q h => by rw [← hAe]; exact Or.inr h
  have hS : va_S A s.heap s.heap [] := va_S.rf
  have hl := lv_entry ([.ref a_mo, .int p0, .int p1]) (n := 4) (Nat.le_of_ble_eq_true rfl)
  have hfr : entryFrame m args 4 = F0 m 0 ((lg_sl ([.ref a_mo, .int p0, .int p1]) ++ List.replicate (4 - (lg_sl ([.ref a_mo, .int p0, .int p1])).length) Slot.unset).toArray) [] := by rw [hargs]; exact lg_entry_eq _ _ _
  rw [hfr]
  generalize (lg_sl ([.ref a_mo, .int p0, .int p1]) ++ List.replicate (4 - (lg_sl ([.ref a_mo, .int p0, .int p1])).length) Slot.unset).toArray = ls at hl ⊢
  have hl : lv_has ls 4 [(0, .ref a_mo), (1, .int p0), (2, .int p1)] := hl
  refine gen_Q (fun Q hQ => ?_)
  clear hfr
  have J47 : ∀ (v3_j47 : Int32) (mo_times_j47 : Nat → Int32) (s1_j47 : Int32), f_M_word_J47 N s1_j47 v3_j47 mo_codes mo_lengths mo_outs mo_part mo_parted mo_counting mo_out mo_times_j47 = some z → GW (dC, dI) A p l e (headSpec ws_m1061 rm_M_word).room s m args below meth c 0 0 Q 4 47 (w_M_word cI cB cS cT a_mo a_mo_lengths a_mo_codes a_mo_out a_mo_times a_mo_h a_mo_v a_mo_across a_mo_down a_mo_ownAcross a_mo_ownDown a_mo_base a_mo_coefficients a_mo_before0 a_mo_draftCounts a_mo_draft a_mo_words a_mo_directOf a_mo_otherOf a_mo_data a_mo_prediction a_mo_runBits a_mo_toCome a_mo_timesKept mo_thrown mo_width mo_height mo_many mo_unitsAcross mo_unitsDown mo_drafts mo_mask mo_first mo_last mo_before mo_bits mo_interval mo_size mo_outs mo_part mo_parted mo_failed mo_counting mo_run mo_runMany mo_comes mo_at mo_taken mo_left mo_fault mo_lengths mo_codes mo_out mo_times_j47) [(0, .ref a_mo), (3, .int v3_j47)] [.int s1_j47, .ref a_mo] := by
    intro v3_j47 mo_times_j47 s1_j47 hf H locs ls hP hD hS hl
    unfold f_M_word_J47 at hf
    obtain ⟨hi, hf⟩ := ob_ok hf
    refine va_put (D := (dC, dI)) (ci := 11) (v := .int s1_j47) (ty := .boolean) (C := "ScanCoderModel") (T := T_11) (N := 49) hx hb hts n0 ty_11 tyok_11 nm_11 hown hK hP hD hS 0 rfl rfl 35 (by decide) k2 (fun _ h9 => h9) rfl (by decide +kernel) (nb_ok hi).1 (nb_ok hi).2 (Nat.le_of_ble_eq_true rfl) d_m1061_47 (fun H locs hP hD hS => ?_)
    have hP : va_P (dC, dI) vwCl (w_M_word cI cB cS cT a_mo a_mo_lengths a_mo_codes a_mo_out a_mo_times a_mo_h a_mo_v a_mo_across a_mo_down a_mo_ownAcross a_mo_ownDown a_mo_base a_mo_coefficients a_mo_before0 a_mo_draftCounts a_mo_draft a_mo_words a_mo_directOf a_mo_otherOf a_mo_data a_mo_prediction a_mo_runBits a_mo_toCome a_mo_timesKept mo_thrown mo_width mo_height mo_many mo_unitsAcross mo_unitsDown mo_drafts mo_mask mo_first mo_last mo_before mo_bits mo_interval mo_size mo_outs mo_part mo_parted s1_j47 mo_counting mo_run mo_runMany mo_comes mo_at mo_taken mo_left mo_fault mo_lengths mo_codes mo_out mo_times_j47) H := hP
    have hD : va_D A (w_M_word cI cB cS cT a_mo a_mo_lengths a_mo_codes a_mo_out a_mo_times a_mo_h a_mo_v a_mo_across a_mo_down a_mo_ownAcross a_mo_ownDown a_mo_base a_mo_coefficients a_mo_before0 a_mo_draftCounts a_mo_draft a_mo_words a_mo_directOf a_mo_otherOf a_mo_data a_mo_prediction a_mo_runBits a_mo_toCome a_mo_timesKept mo_thrown mo_width mo_height mo_many mo_unitsAcross mo_unitsDown mo_drafts mo_mask mo_first mo_last mo_before mo_bits mo_interval mo_size mo_outs mo_part mo_parted s1_j47 mo_counting mo_run mo_runMany mo_comes mo_at mo_taken mo_left mo_fault mo_lengths mo_codes mo_out mo_times_j47) := hD
    refine lv_aload_n hx hb d_m1061_50 rfl (lv_at hl 0 rfl) ?_
    refine lv_aload_n hx hb d_m1061_51 rfl (lv_at hl 0 rfl) ?_
    refine va_get (D := (dC, dI)) (ci := 11) (v := .ref a_mo_codes) (C := "ScanCoderModel") (T := T_11) (N := 49) hx hb hts n0 hown hK hP 0 rfl rfl 20 (by decide) k3 (fun _ h9 => h9) rfl d_m1061_52 ?_
    refine lv_iload_n hx hb d_m1061_55 rfl (lv_at hl 1 rfl) ?_
    obtain ⟨hi, hf⟩ := ob_if hf
    refine va_iald hx hb hK hP 2 0 rfl rfl hi d_m1061_56 ?_
    refine lv_aload_n hx hb d_m1061_57 rfl (lv_at hl 0 rfl) ?_
    refine va_get (D := (dC, dI)) (ci := 11) (v := .ref a_mo_lengths) (C := "ScanCoderModel") (T := T_11) (N := 49) hx hb hts n0 hown hK hP 0 rfl rfl 19 (by decide) k4 (fun _ h9 => h9) rfl d_m1061_58 ?_
    refine lv_iload_n hx hb d_m1061_61 rfl (lv_at hl 1 rfl) ?_
    obtain ⟨hi, hf⟩ := ob_if hf
    refine va_iald hx hb hK hP 1 0 rfl rfl hi d_m1061_62 ?_
    obtain ⟨z1, hz1, hf⟩ := ob_bind hf
    refine g_callv (wc := (w_M_low cI cB cS cT a_mo a_mo_out a_mo_h a_mo_v a_mo_across a_mo_down a_mo_ownAcross a_mo_ownDown a_mo_base a_mo_coefficients a_mo_before0 a_mo_draftCounts a_mo_draft a_mo_words a_mo_lengths a_mo_codes a_mo_directOf a_mo_otherOf a_mo_data a_mo_times a_mo_prediction a_mo_runBits a_mo_toCome a_mo_timesKept mo_thrown mo_width mo_height mo_many mo_unitsAcross mo_unitsDown mo_drafts mo_mask mo_first mo_last mo_before mo_bits mo_interval mo_size mo_outs mo_part mo_parted s1_j47 mo_counting mo_run mo_runMany mo_comes mo_at mo_taken mo_left mo_fault mo_out)) (w1 := (w_M_low cI cB cS cT a_mo a_mo_out a_mo_h a_mo_v a_mo_across a_mo_down a_mo_ownAcross a_mo_ownDown a_mo_base a_mo_coefficients a_mo_before0 a_mo_draftCounts a_mo_draft a_mo_words a_mo_lengths a_mo_codes a_mo_directOf a_mo_otherOf a_mo_data a_mo_times a_mo_prediction a_mo_runBits a_mo_toCome a_mo_timesKept mo_thrown mo_width mo_height mo_many mo_unitsAcross mo_unitsDown mo_drafts mo_mask mo_first mo_last mo_before mo_bits mo_interval mo_size z1.1 z1.2.1 z1.2.2.1 z1.2.2.2.1 mo_counting mo_run mo_runMany mo_comes mo_at mo_taken mo_left mo_fault z1.2.2.2.2)) (w2 := (w_M_word cI cB cS cT a_mo a_mo_lengths a_mo_codes a_mo_out a_mo_times a_mo_h a_mo_v a_mo_across a_mo_down a_mo_ownAcross a_mo_ownDown a_mo_base a_mo_coefficients a_mo_before0 a_mo_draftCounts a_mo_draft a_mo_words a_mo_directOf a_mo_otherOf a_mo_data a_mo_prediction a_mo_runBits a_mo_toCome a_mo_timesKept mo_thrown mo_width mo_height mo_many mo_unitsAcross mo_unitsDown mo_drafts mo_mask mo_first mo_last mo_before mo_bits mo_interval mo_size z1.1 z1.2.1 z1.2.2.1 z1.2.2.2.1 mo_counting mo_run mo_runMany mo_comes mo_at mo_taken mo_left mo_fault mo_lengths mo_codes z1.2.2.2.2 mo_times_j47)) [0, 3] [some 0, none, none, some 1, none] hP hD hS hA rfl rfl rfl rfl (va_runV (As := [.int (mo_codes v3_j47.toNatClampNeg), .int (mo_lengths v3_j47.toNatClampNeg)]) (rest := []) ⟨hx, hb, hml, hown, hts⟩ (c_M_low l dC dI cI cB cS cT N a_mo a_mo_out a_mo_h a_mo_v a_mo_across a_mo_down a_mo_ownAcross a_mo_ownDown a_mo_base a_mo_coefficients a_mo_before0 a_mo_draftCounts a_mo_draft a_mo_words a_mo_lengths a_mo_codes a_mo_directOf a_mo_otherOf a_mo_data a_mo_times a_mo_prediction a_mo_runBits a_mo_toCome a_mo_timesKept mo_thrown mo_width mo_height mo_many mo_unitsAcross mo_unitsDown mo_drafts mo_mask mo_first mo_last mo_before mo_bits mo_interval mo_size mo_outs mo_part mo_parted s1_j47 mo_counting mo_run mo_runMany mo_comes mo_at mo_taken mo_left mo_fault mo_out (mo_codes v3_j47.toNatClampNeg) (mo_lengths v3_j47.toNatClampNeg) H.size z1 hz1) ⟨(callB_of 2 hts (gi tw_1065 rfl) rfl rfl rfl (hts _ (List.mem_cons_of_mem _ tw_16)) (hts _ (List.mem_cons_of_mem _ tw_1062)) (by decide +kernel) ⟨Nat.le_of_ble_eq_true rfl, Nat.le_of_ble_eq_true rfl⟩), hts _ (List.mem_cons_of_mem _ tw_1064), hts _ (List.mem_cons_of_mem _ ts_m1065)⟩ ⟨g_blind, va_recv hK hP (ci := 11) (q0 := 0) rfl rfl, g_at hKN (g_pm hP [0, 3] rfl) (hD.sub [0, 3] (by decide) rfl)⟩ rfl rfl hl.1 rfl (lv_room (Nat.le_of_ble_eq_true rfl)) d_m1061_63 ⟨Nat.zero_le _, Nat.zero_le _⟩) (fun H locs hP hD hS => ?_)
    refine W.eq (g2 := F0 m 66 ls []) rfl ?_
    obtain rfl := Option.some.inj hf
    subst hQ
    subst hAe
    exact W.vret hx hb hr (fun t ht hW => ⟨⟨(), rfl, trivial, by rw [ht]; exact hP, hD⟩, hS.F ht⟩) hS.2.2 d_m1061_66
  have J42 : ∀ (v3_j42 : Int32) (mo_times_j42 : Nat → Int32), f_M_word_J42 N v3_j42 mo_codes mo_lengths mo_outs mo_part mo_parted mo_counting mo_out mo_times_j42 = some z → GW (dC, dI) A p l e (headSpec ws_m1061 rm_M_word).room s m args below meth c 0 0 Q 4 42 (w_M_word cI cB cS cT a_mo a_mo_lengths a_mo_codes a_mo_out a_mo_times a_mo_h a_mo_v a_mo_across a_mo_down a_mo_ownAcross a_mo_ownDown a_mo_base a_mo_coefficients a_mo_before0 a_mo_draftCounts a_mo_draft a_mo_words a_mo_directOf a_mo_otherOf a_mo_data a_mo_prediction a_mo_runBits a_mo_toCome a_mo_timesKept mo_thrown mo_width mo_height mo_many mo_unitsAcross mo_unitsDown mo_drafts mo_mask mo_first mo_last mo_before mo_bits mo_interval mo_size mo_outs mo_part mo_parted mo_failed mo_counting mo_run mo_runMany mo_comes mo_at mo_taken mo_left mo_fault mo_lengths mo_codes mo_out mo_times_j42) [(0, .ref a_mo), (3, .int v3_j42)] [.ref a_mo] := by
    intro v3_j42 mo_times_j42 hf H locs ls hP hD hS hl
    unfold f_M_word_J42 at hf
    refine lv_iconst (v := (1 : Int32)) hx hb d_m1061_42 (by decide) ?_
    refine lv_goto (tgt := 47) hx hb d_m1061_43 (by decide) ?_
    exact J47 v3_j42 mo_times_j42 (1 : Int32) hf H locs ls hP hD hS hl
  have hgo : ∀ (H : Heap) (locs : List Loc), va_P (dC, dI) vwCl (w_M_word cI cB cS cT a_mo a_mo_lengths a_mo_codes a_mo_out a_mo_times a_mo_h a_mo_v a_mo_across a_mo_down a_mo_ownAcross a_mo_ownDown a_mo_base a_mo_coefficients a_mo_before0 a_mo_draftCounts a_mo_draft a_mo_words a_mo_directOf a_mo_otherOf a_mo_data a_mo_prediction a_mo_runBits a_mo_toCome a_mo_timesKept mo_thrown mo_width mo_height mo_many mo_unitsAcross mo_unitsDown mo_drafts mo_mask mo_first mo_last mo_before mo_bits mo_interval mo_size mo_outs mo_part mo_parted mo_failed mo_counting mo_run mo_runMany mo_comes mo_at mo_taken mo_left mo_fault mo_lengths mo_codes mo_out mo_times) H → va_S A s.heap H locs → W p l e (headSpec ws_m1061 rm_M_word).room s m args below meth c H locs 0 0 Q (F0 m 0 ls []) := by
    intro H locs hP hS
    unfold f_M_word at hf
    refine lv_sipush (v := (256 : Int32)) hx hb d_m1061_0 (by decide) ?_
    refine lv_iload_n hx hb d_m1061_3 rfl (lv_at hl 1 rfl) ?_
    refine lv_imul hx hb d_m1061_4 ?_
    refine lv_iload_n hx hb d_m1061_5 rfl (lv_at hl 2 rfl) ?_
    refine lv_iadd hx hb d_m1061_6 ?_
    refine lv_istore_n (lv' := [(3, .int (((256 : Int32) * p0) + p1)), (0, .ref a_mo), (1, .int p0), (2, .int p1)]) hx hb d_m1061_7 rfl hl (by decide) rfl (fun ls hl => ?_)
    refine lv_aload_n hx hb d_m1061_8 rfl (lv_at hl 1 rfl) ?_
    refine va_get (D := (dC, dI)) (ci := 11) (v := .ref a_mo_times) (C := "ScanCoderModel") (T := T_11) (N := 49) hx hb hts n0 hown hK hP 0 rfl rfl 37 (by decide) k0 (fun _ h9 => h9) rfl d_m1061_9 ?_
    refine lv_iload_n hx hb d_m1061_12 rfl (lv_at hl 0 rfl) ?_
    refine lv_dup2_11 hx hb d_m1061_13 rfl rfl ?_
    obtain ⟨hi, hf⟩ := ob_if hf
    refine va_iald hx hb hK hP 4 0 rfl rfl hi d_m1061_14 ?_
    refine lv_iconst (v := (1 : Int32)) hx hb d_m1061_15 (by decide) ?_
    refine lv_iadd hx hb d_m1061_16 ?_
    obtain ⟨hi, hf⟩ := ob_if hf
    refine va_iast hx hb hK hP hD hS 4 0 rfl rfl hi d_m1061_17 (fun H locs hP hD hS => ?_)
    have hP : va_P (dC, dI) vwCl (w_M_word cI cB cS cT a_mo a_mo_lengths a_mo_codes a_mo_out a_mo_times a_mo_h a_mo_v a_mo_across a_mo_down a_mo_ownAcross a_mo_ownDown a_mo_base a_mo_coefficients a_mo_before0 a_mo_draftCounts a_mo_draft a_mo_words a_mo_directOf a_mo_otherOf a_mo_data a_mo_prediction a_mo_runBits a_mo_toCome a_mo_timesKept mo_thrown mo_width mo_height mo_many mo_unitsAcross mo_unitsDown mo_drafts mo_mask mo_first mo_last mo_before mo_bits mo_interval mo_size mo_outs mo_part mo_parted mo_failed mo_counting mo_run mo_runMany mo_comes mo_at mo_taken mo_left mo_fault mo_lengths mo_codes mo_out (upd mo_times (((256 : Int32) * p0) + p1).toNatClampNeg ((mo_times (((256 : Int32) * p0) + p1).toNatClampNeg) + (1 : Int32)))) H := hP
    have hD : va_D A (w_M_word cI cB cS cT a_mo a_mo_lengths a_mo_codes a_mo_out a_mo_times a_mo_h a_mo_v a_mo_across a_mo_down a_mo_ownAcross a_mo_ownDown a_mo_base a_mo_coefficients a_mo_before0 a_mo_draftCounts a_mo_draft a_mo_words a_mo_directOf a_mo_otherOf a_mo_data a_mo_prediction a_mo_runBits a_mo_toCome a_mo_timesKept mo_thrown mo_width mo_height mo_many mo_unitsAcross mo_unitsDown mo_drafts mo_mask mo_first mo_last mo_before mo_bits mo_interval mo_size mo_outs mo_part mo_parted mo_failed mo_counting mo_run mo_runMany mo_comes mo_at mo_taken mo_left mo_fault mo_lengths mo_codes mo_out (upd mo_times (((256 : Int32) * p0) + p1).toNatClampNeg ((mo_times (((256 : Int32) * p0) + p1).toNatClampNeg) + (1 : Int32)))) := hD
    refine lv_aload_n hx hb d_m1061_18 rfl (lv_at hl 1 rfl) ?_
    refine va_get (D := (dC, dI)) (ci := 11) (v := .int mo_counting) (C := "ScanCoderModel") (T := T_11) (N := 49) hx hb hts n0 hown hK hP 0 rfl rfl 36 (by decide) k1 (fun _ h9 => h9) rfl d_m1061_19 ?_
    refine lv_if_ne (tgt := 66) hx hb d_m1061_22 (by decide) (fun hc => ?_) (fun hc => ?_)
    · replace hf := (if_neg hc).symm.trans hf
      obtain rfl := Option.some.inj hf
      subst hQ
      subst hAe
      exact W.vret hx hb hr (fun t ht hW => ⟨⟨(), rfl, trivial, by rw [ht]; exact hP, hD⟩, hS.F ht⟩) hS.2.2 d_m1061_66
    · replace hf := (if_pos hc).symm.trans hf
      refine lv_aload_n hx hb d_m1061_25 rfl (lv_at hl 1 rfl) ?_
      refine lv_aload_n hx hb d_m1061_26 rfl (lv_at hl 1 rfl) ?_
      refine va_get (D := (dC, dI)) (ci := 11) (v := .int mo_failed) (C := "ScanCoderModel") (T := T_11) (N := 49) hx hb hts n0 hown hK hP 0 rfl rfl 35 (by decide) k2 (fun _ h9 => h9) rfl d_m1061_27 ?_
      refine lv_if_ne (tgt := 42) hx hb d_m1061_30 (by decide) (fun hc => ?_) (fun hc => ?_)
      · replace hf := (if_neg hc).symm.trans hf
        exact J42 (((256 : Int32) * p0) + p1) (upd mo_times (((256 : Int32) * p0) + p1).toNatClampNeg ((mo_times (((256 : Int32) * p0) + p1).toNatClampNeg) + (1 : Int32))) hf H locs ls hP hD hS (lv_sub hl [1, 0] rfl)
      · replace hf := (if_pos hc).symm.trans hf
        refine lv_aload_n hx hb d_m1061_33 rfl (lv_at hl 1 rfl) ?_
        refine va_get (D := (dC, dI)) (ci := 11) (v := .ref a_mo_lengths) (C := "ScanCoderModel") (T := T_11) (N := 49) hx hb hts n0 hown hK hP 0 rfl rfl 19 (by decide) k4 (fun _ h9 => h9) rfl d_m1061_34 ?_
        refine lv_iload_n hx hb d_m1061_37 rfl (lv_at hl 0 rfl) ?_
        obtain ⟨hi, hf⟩ := ob_if hf
        refine va_iald hx hb hK hP 1 0 rfl rfl hi d_m1061_38 ?_
        refine lv_if_ne (tgt := 46) hx hb d_m1061_39 (by decide) (fun hc => ?_) (fun hc => ?_)
        · replace hf := (if_neg hc).symm.trans hf
          refine lv_iconst (v := (0 : Int32)) hx hb d_m1061_46 (by decide) ?_
          exact J47 (((256 : Int32) * p0) + p1) (upd mo_times (((256 : Int32) * p0) + p1).toNatClampNeg ((mo_times (((256 : Int32) * p0) + p1).toNatClampNeg) + (1 : Int32))) (0 : Int32) hf H locs ls hP hD hS (lv_sub hl [1, 0] rfl)
        · replace hf := (if_pos hc).symm.trans hf
          exact J42 (((256 : Int32) * p0) + p1) (upd mo_times (((256 : Int32) * p0) + p1).toNatClampNeg ((mo_times (((256 : Int32) * p0) + p1).toNatClampNeg) + (1 : Int32))) hf H locs ls hP hD hS (lv_sub hl [1, 0] rfl)
  exact hgo _ _ hP hS
def f_M_number_J12 (N : Nat) (p0 : Int32) (s1_j12 : Int32) (mo_outs : Int32) (mo_part : Int32) (mo_parted : Int32) (mo_failed : Int32) (mo_counting : Int32) (mo_out : Nat → Int32) : Option (Int32 × Int32 × Int32 × Int32 × (Nat → Int32)) :=
  (f_M_sizeOf N p0).bind fun z1 =>
  (f_M_low N s1_j12 z1 mo_outs mo_part mo_parted mo_failed mo_counting mo_out).bind fun z2 =>
  some (z2.1, z2.2.1, z2.2.2.1, z2.2.2.2.1, z2.2.2.2.2)
def f_M_number (N : Nat) (p0 : Int32) (mo_outs : Int32) (mo_part : Int32) (mo_parted : Int32) (mo_failed : Int32) (mo_counting : Int32) (mo_out : Nat → Int32) : Option (Int32 × Int32 × Int32 × Int32 × (Nat → Int32)) :=
  if p0 ≤ 0 then
    f_M_number_J12 N p0 (p0 - (1 : Int32)) mo_outs mo_part mo_parted mo_failed mo_counting mo_out
  else
    f_M_number_J12 N p0 p0 mo_outs mo_part mo_parted mo_failed mo_counting mo_out
abbrev w_M_number (cI cB cS cT : ClassId) (a_mo : Nat) (a_mo_out : Nat) (a_mo_h : Nat) (a_mo_v : Nat) (a_mo_across : Nat) (a_mo_down : Nat) (a_mo_ownAcross : Nat) (a_mo_ownDown : Nat) (a_mo_base : Nat) (a_mo_coefficients : Nat) (a_mo_before0 : Nat) (a_mo_draftCounts : Nat) (a_mo_draft : Nat) (a_mo_words : Nat) (a_mo_lengths : Nat) (a_mo_codes : Nat) (a_mo_directOf : Nat) (a_mo_otherOf : Nat) (a_mo_data : Nat) (a_mo_times : Nat) (a_mo_prediction : Nat) (a_mo_runBits : Nat) (a_mo_toCome : Nat) (a_mo_timesKept : Nat) (mo_thrown : Int32) (mo_width : Int32) (mo_height : Int32) (mo_many : Int32) (mo_unitsAcross : Int32) (mo_unitsDown : Int32) (mo_drafts : Int32) (mo_mask : Int32) (mo_first : Int32) (mo_last : Int32) (mo_before : Int32) (mo_bits : Int32) (mo_interval : Int32) (mo_size : Int32) (mo_outs : Int32) (mo_part : Int32) (mo_parted : Int32) (mo_failed : Int32) (mo_counting : Int32) (mo_run : Int32) (mo_runMany : Int32) (mo_comes : Int32) (mo_at : Int32) (mo_taken : Int32) (mo_left : Int32) (mo_fault : Int32) (mo_out : Nat → Int32) : va_W := [(a_mo, .inr (11, [.int mo_thrown, .int mo_width, .int mo_height, .int mo_many, .ref a_mo_h, .ref a_mo_v, .ref a_mo_across, .ref a_mo_down, .ref a_mo_ownAcross, .ref a_mo_ownDown, .ref a_mo_base, .int mo_unitsAcross, .int mo_unitsDown, .ref a_mo_coefficients, .ref a_mo_before0, .ref a_mo_draftCounts, .ref a_mo_draft, .int mo_drafts, .ref a_mo_words, .ref a_mo_lengths, .ref a_mo_codes, .ref a_mo_directOf, .ref a_mo_otherOf, .int mo_mask, .int mo_first, .int mo_last, .int mo_before, .int mo_bits, .int mo_interval, .ref a_mo_data, .int mo_size, .ref a_mo_out, .int mo_outs, .int mo_part, .int mo_parted, .int mo_failed, .int mo_counting, .ref a_mo_times, .ref a_mo_prediction, .int mo_run, .ref a_mo_runBits, .int mo_runMany, .ref a_mo_toCome, .int mo_comes, .int mo_at, .int mo_taken, .int mo_left, .int mo_fault, .ref a_mo_timesKept])), (a_mo_out, .inl (cB, 16384, .inl mo_out))]
def rm_M_number : Room := { frames := 3, cells := 0, slots := 0, locals := 65 }
set_option maxHeartbeats 1000000 in
set_option maxRecDepth 100000 in
theorem c_M_number (l : Launch) (dC : Nat → ClassId) (dI : Nat → Nat → Nat) (cI cB cS cT : ClassId) (N : Nat) (a_mo : Nat) (a_mo_out : Nat) (a_mo_h : Nat) (a_mo_v : Nat) (a_mo_across : Nat) (a_mo_down : Nat) (a_mo_ownAcross : Nat) (a_mo_ownDown : Nat) (a_mo_base : Nat) (a_mo_coefficients : Nat) (a_mo_before0 : Nat) (a_mo_draftCounts : Nat) (a_mo_draft : Nat) (a_mo_words : Nat) (a_mo_lengths : Nat) (a_mo_codes : Nat) (a_mo_directOf : Nat) (a_mo_otherOf : Nat) (a_mo_data : Nat) (a_mo_times : Nat) (a_mo_prediction : Nat) (a_mo_runBits : Nat) (a_mo_toCome : Nat) (a_mo_timesKept : Nat) (mo_thrown : Int32) (mo_width : Int32) (mo_height : Int32) (mo_many : Int32) (mo_unitsAcross : Int32) (mo_unitsDown : Int32) (mo_drafts : Int32) (mo_mask : Int32) (mo_first : Int32) (mo_last : Int32) (mo_before : Int32) (mo_bits : Int32) (mo_interval : Int32) (mo_size : Int32) (mo_outs : Int32) (mo_part : Int32) (mo_parted : Int32) (mo_failed : Int32) (mo_counting : Int32) (mo_run : Int32) (mo_runMany : Int32) (mo_comes : Int32) (mo_at : Int32) (mo_taken : Int32) (mo_left : Int32) (mo_fault : Int32) (mo_out : Nat → Int32) (p0 : Int32) (sz : Nat) (z : Int32 × Int32 × Int32 × Int32 × (Nat → Int32)) (hf : f_M_number N p0 mo_outs mo_part mo_parted mo_failed mo_counting mo_out = some z) : Met l y_m1097 ws_m1097 rm_M_number (gPre (dC, dI) [.ref a_mo, .int p0] (gT cI cB cS cT) (w_M_number cI cB cS cT a_mo a_mo_out a_mo_h a_mo_v a_mo_across a_mo_down a_mo_ownAcross a_mo_ownDown a_mo_base a_mo_coefficients a_mo_before0 a_mo_draftCounts a_mo_draft a_mo_words a_mo_lengths a_mo_codes a_mo_directOf a_mo_otherOf a_mo_data a_mo_times a_mo_prediction a_mo_runBits a_mo_toCome a_mo_timesKept mo_thrown mo_width mo_height mo_many mo_unitsAcross mo_unitsDown mo_drafts mo_mask mo_first mo_last mo_before mo_bits mo_interval mo_size mo_outs mo_part mo_parted mo_failed mo_counting mo_run mo_runMany mo_comes mo_at mo_taken mo_left mo_fault mo_out) sz) (gQv (dC, dI) (gT cI cB cS cT) (w_M_number cI cB cS cT a_mo a_mo_out a_mo_h a_mo_v a_mo_across a_mo_down a_mo_ownAcross a_mo_ownDown a_mo_base a_mo_coefficients a_mo_before0 a_mo_draftCounts a_mo_draft a_mo_words a_mo_lengths a_mo_codes a_mo_directOf a_mo_otherOf a_mo_data a_mo_times a_mo_prediction a_mo_runBits a_mo_toCome a_mo_timesKept mo_thrown mo_width mo_height mo_many mo_unitsAcross mo_unitsDown mo_drafts mo_mask mo_first mo_last mo_before mo_bits mo_interval mo_size mo_outs mo_part mo_parted mo_failed mo_counting mo_run mo_runMany mo_comes mo_at mo_taken mo_left mo_fault mo_out) (w_M_number cI cB cS cT a_mo a_mo_out a_mo_h a_mo_v a_mo_across a_mo_down a_mo_ownAcross a_mo_ownDown a_mo_base a_mo_coefficients a_mo_before0 a_mo_draftCounts a_mo_draft a_mo_words a_mo_lengths a_mo_codes a_mo_directOf a_mo_otherOf a_mo_data a_mo_times a_mo_prediction a_mo_runBits a_mo_toCome a_mo_timesKept mo_thrown mo_width mo_height mo_many mo_unitsAcross mo_unitsDown mo_drafts mo_mask mo_first mo_last mo_before mo_bits mo_interval mo_size z.1 z.2.1 z.2.2.1 z.2.2.2.1 mo_counting mo_run mo_runMany mo_comes mo_at mo_taken mo_left mo_fault z.2.2.2.2) sz) 0 0 (va_A (w_M_number cI cB cS cT a_mo a_mo_out a_mo_h a_mo_v a_mo_across a_mo_down a_mo_ownAcross a_mo_ownDown a_mo_base a_mo_coefficients a_mo_before0 a_mo_draftCounts a_mo_draft a_mo_words a_mo_lengths a_mo_codes a_mo_directOf a_mo_otherOf a_mo_data a_mo_times a_mo_prediction a_mo_runBits a_mo_toCome a_mo_timesKept mo_thrown mo_width mo_height mo_many mo_unitsAcross mo_unitsDown mo_drafts mo_mask mo_first mo_last mo_before mo_bits mo_interval mo_size mo_outs mo_part mo_parted mo_failed mo_counting mo_run mo_runMany mo_comes mo_at mo_taken mo_left mo_fault mo_out) sz) := by
  refine Met.ofW (cc := prog_14_method_26_code) (maxL := 2) (ret := none) (by decide) rfl ?_
  intro p e s m args below meth c s₁ B hml hv
  obtain ⟨hargs, hsz, hP, hKN, hD0⟩ := hv
  have hK := hKN.1
  have hx := B.exec
  have hb := B.bytes
  have hr := B.returns
  have hts := atoms_spec (ws := ws_m1097) B.pre
  have hown : s.vm.findClass "ScanCoderModel" = some m.cls := findClass_of_methodNamed B.named
  have hlocks := B.notSynchronized
  subst hsz
  have hD := hD0.self (sz := s.heap.size)
  obtain ⟨A, hAe⟩ : ∃ A : Nat → Prop, va_A (w_M_number cI cB cS cT a_mo a_mo_out a_mo_h a_mo_v a_mo_across a_mo_down a_mo_ownAcross a_mo_ownDown a_mo_base a_mo_coefficients a_mo_before0 a_mo_draftCounts a_mo_draft a_mo_words a_mo_lengths a_mo_codes a_mo_directOf a_mo_otherOf a_mo_data a_mo_times a_mo_prediction a_mo_runBits a_mo_toCome a_mo_timesKept mo_thrown mo_width mo_height mo_many mo_unitsAcross mo_unitsDown mo_drafts mo_mask mo_first mo_last mo_before mo_bits mo_interval mo_size mo_outs mo_part mo_parted mo_failed mo_counting mo_run mo_runMany mo_comes mo_at mo_taken mo_left mo_fault mo_out) s.heap.size = A := ⟨_, rfl⟩
  rw [hAe] at hD
  have hA : ∀ q : Nat, s.heap.size ≤ q → A q := fun q h => by rw [← hAe]; exact Or.inr h
  have hS : va_S A s.heap s.heap [] := va_S.rf
  have hl := lv_entry ([.ref a_mo, .int p0]) (n := 2) (Nat.le_of_ble_eq_true rfl)
  have hfr : entryFrame m args 2 = F0 m 0 ((lg_sl ([.ref a_mo, .int p0]) ++ List.replicate (2 - (lg_sl ([.ref a_mo, .int p0])).length) Slot.unset).toArray) [] := by rw [hargs]; exact lg_entry_eq _ _ _
  rw [hfr]
  generalize (lg_sl ([.ref a_mo, .int p0]) ++ List.replicate (2 - (lg_sl ([.ref a_mo, .int p0])).length) Slot.unset).toArray = ls at hl ⊢
  have hl : lv_has ls 2 [(0, .ref a_mo), (1, .int p0)] := hl
  refine gen_Q (fun Q hQ => ?_)
  clear hfr
  have J12 : ∀ (s1_j12 : Int32), f_M_number_J12 N p0 s1_j12 mo_outs mo_part mo_parted mo_failed mo_counting mo_out = some z → GW (dC, dI) A p l e (headSpec ws_m1097 rm_M_number).room s m args below meth c 0 0 Q 2 12 (w_M_number cI cB cS cT a_mo a_mo_out a_mo_h a_mo_v a_mo_across a_mo_down a_mo_ownAcross a_mo_ownDown a_mo_base a_mo_coefficients a_mo_before0 a_mo_draftCounts a_mo_draft a_mo_words a_mo_lengths a_mo_codes a_mo_directOf a_mo_otherOf a_mo_data a_mo_times a_mo_prediction a_mo_runBits a_mo_toCome a_mo_timesKept mo_thrown mo_width mo_height mo_many mo_unitsAcross mo_unitsDown mo_drafts mo_mask mo_first mo_last mo_before mo_bits mo_interval mo_size mo_outs mo_part mo_parted mo_failed mo_counting mo_run mo_runMany mo_comes mo_at mo_taken mo_left mo_fault mo_out) [(1, .int p0)] [.int s1_j12, .ref a_mo] := by
    intro s1_j12 hf H locs ls hP hD hS hl
    unfold f_M_number_J12 at hf
    refine lv_iload_n hx hb d_m1097_12 rfl (lv_at hl 0 rfl) ?_
    obtain ⟨z1, hz1, hf⟩ := ob_bind hf
    refine vp_callSi (g_run (va_runS (As := [.int p0]) (rest := [.int s1_j12, .ref a_mo]) ⟨hx, hb, hml, hown, hts⟩ (c_M_sizeOf l dC dI cI cB cS cT N p0 z1 hz1) ⟨(callB_of 1 hts (gi tw_1057 rfl) rfl rfl rfl (hts _ (List.mem_cons_of_mem _ tw_16)) (hts _ (List.mem_cons_of_mem _ tw_1055)) (by decide +kernel) ⟨Nat.le_of_ble_eq_true rfl, Nat.le_of_ble_eq_true rfl⟩), hts _ (List.mem_cons_of_mem _ tw_1056)⟩ ⟨gp_blind, gp_at hKN (g_pm hP [] rfl)⟩ rfl rfl hl.1 rfl (lv_room (Nat.le_of_ble_eq_true rfl)) d_m1097_13 ⟨Nat.zero_le _, Nat.zero_le _⟩)) (fun r hrz1 => ?_)
    have hrz1 := hrz1.symm
    subst hrz1
    refine W.eq (g2 := F0 m 16 ls [.int z1, .int s1_j12, .ref a_mo]) rfl ?_
    obtain ⟨z2, hz2, hf⟩ := ob_bind hf
    refine g_callv (wc := (w_M_low cI cB cS cT a_mo a_mo_out a_mo_h a_mo_v a_mo_across a_mo_down a_mo_ownAcross a_mo_ownDown a_mo_base a_mo_coefficients a_mo_before0 a_mo_draftCounts a_mo_draft a_mo_words a_mo_lengths a_mo_codes a_mo_directOf a_mo_otherOf a_mo_data a_mo_times a_mo_prediction a_mo_runBits a_mo_toCome a_mo_timesKept mo_thrown mo_width mo_height mo_many mo_unitsAcross mo_unitsDown mo_drafts mo_mask mo_first mo_last mo_before mo_bits mo_interval mo_size mo_outs mo_part mo_parted mo_failed mo_counting mo_run mo_runMany mo_comes mo_at mo_taken mo_left mo_fault mo_out)) (w1 := (w_M_low cI cB cS cT a_mo a_mo_out a_mo_h a_mo_v a_mo_across a_mo_down a_mo_ownAcross a_mo_ownDown a_mo_base a_mo_coefficients a_mo_before0 a_mo_draftCounts a_mo_draft a_mo_words a_mo_lengths a_mo_codes a_mo_directOf a_mo_otherOf a_mo_data a_mo_times a_mo_prediction a_mo_runBits a_mo_toCome a_mo_timesKept mo_thrown mo_width mo_height mo_many mo_unitsAcross mo_unitsDown mo_drafts mo_mask mo_first mo_last mo_before mo_bits mo_interval mo_size z2.1 z2.2.1 z2.2.2.1 z2.2.2.2.1 mo_counting mo_run mo_runMany mo_comes mo_at mo_taken mo_left mo_fault z2.2.2.2.2)) (w2 := (w_M_number cI cB cS cT a_mo a_mo_out a_mo_h a_mo_v a_mo_across a_mo_down a_mo_ownAcross a_mo_ownDown a_mo_base a_mo_coefficients a_mo_before0 a_mo_draftCounts a_mo_draft a_mo_words a_mo_lengths a_mo_codes a_mo_directOf a_mo_otherOf a_mo_data a_mo_times a_mo_prediction a_mo_runBits a_mo_toCome a_mo_timesKept mo_thrown mo_width mo_height mo_many mo_unitsAcross mo_unitsDown mo_drafts mo_mask mo_first mo_last mo_before mo_bits mo_interval mo_size z2.1 z2.2.1 z2.2.2.1 z2.2.2.2.1 mo_counting mo_run mo_runMany mo_comes mo_at mo_taken mo_left mo_fault z2.2.2.2.2)) [0, 1] [some 0, some 1] hP hD hS hA rfl rfl rfl rfl (va_runV (As := [.int s1_j12, .int z1]) (rest := []) ⟨hx, hb, hml, hown, hts⟩ (c_M_low l dC dI cI cB cS cT N a_mo a_mo_out a_mo_h a_mo_v a_mo_across a_mo_down a_mo_ownAcross a_mo_ownDown a_mo_base a_mo_coefficients a_mo_before0 a_mo_draftCounts a_mo_draft a_mo_words a_mo_lengths a_mo_codes a_mo_directOf a_mo_otherOf a_mo_data a_mo_times a_mo_prediction a_mo_runBits a_mo_toCome a_mo_timesKept mo_thrown mo_width mo_height mo_many mo_unitsAcross mo_unitsDown mo_drafts mo_mask mo_first mo_last mo_before mo_bits mo_interval mo_size mo_outs mo_part mo_parted mo_failed mo_counting mo_run mo_runMany mo_comes mo_at mo_taken mo_left mo_fault mo_out s1_j12 z1 H.size z2 hz2) ⟨(callB_of 2 hts (gi tw_1065 rfl) rfl rfl rfl (hts _ (List.mem_cons_of_mem _ tw_16)) (hts _ (List.mem_cons_of_mem _ tw_1062)) (by decide +kernel) ⟨Nat.le_of_ble_eq_true rfl, Nat.le_of_ble_eq_true rfl⟩), hts _ (List.mem_cons_of_mem _ tw_1064), hts _ (List.mem_cons_of_mem _ ts_m1065)⟩ ⟨g_blind, va_recv hK hP (ci := 11) (q0 := 0) rfl rfl, g_at hKN (g_pm hP [0, 1] rfl) (hD.sub [0, 1] (by decide) rfl)⟩ rfl rfl hl.1 rfl (lv_room (Nat.le_of_ble_eq_true rfl)) d_m1097_16 ⟨Nat.zero_le _, Nat.zero_le _⟩) (fun H locs hP hD hS => ?_)
    refine W.eq (g2 := F0 m 19 ls []) rfl ?_
    obtain rfl := Option.some.inj hf
    subst hQ
    subst hAe
    exact W.vret hx hb hr (fun t ht hW => ⟨⟨(), rfl, trivial, by rw [ht]; exact hP, hD⟩, hS.F ht⟩) hS.2.2 d_m1097_19
  have hgo : ∀ (H : Heap) (locs : List Loc), va_P (dC, dI) vwCl (w_M_number cI cB cS cT a_mo a_mo_out a_mo_h a_mo_v a_mo_across a_mo_down a_mo_ownAcross a_mo_ownDown a_mo_base a_mo_coefficients a_mo_before0 a_mo_draftCounts a_mo_draft a_mo_words a_mo_lengths a_mo_codes a_mo_directOf a_mo_otherOf a_mo_data a_mo_times a_mo_prediction a_mo_runBits a_mo_toCome a_mo_timesKept mo_thrown mo_width mo_height mo_many mo_unitsAcross mo_unitsDown mo_drafts mo_mask mo_first mo_last mo_before mo_bits mo_interval mo_size mo_outs mo_part mo_parted mo_failed mo_counting mo_run mo_runMany mo_comes mo_at mo_taken mo_left mo_fault mo_out) H → va_S A s.heap H locs → W p l e (headSpec ws_m1097 rm_M_number).room s m args below meth c H locs 0 0 Q (F0 m 0 ls []) := by
    intro H locs hP hS
    unfold f_M_number at hf
    refine lv_aload_n hx hb d_m1097_0 rfl (lv_at hl 0 rfl) ?_
    refine lv_iload_n hx hb d_m1097_1 rfl (lv_at hl 1 rfl) ?_
    refine lv_if_le (tgt := 9) hx hb d_m1097_2 (by decide) (fun hc => ?_) (fun hc => ?_)
    · replace hf := (if_pos hc).symm.trans hf
      refine lv_iload_n hx hb d_m1097_9 rfl (lv_at hl 1 rfl) ?_
      refine lv_iconst (v := (1 : Int32)) hx hb d_m1097_10 (by decide) ?_
      refine lv_isub hx hb d_m1097_11 ?_
      exact J12 (p0 - (1 : Int32)) hf H locs ls hP hD hS (lv_sub hl [1] rfl)
    · replace hf := (if_neg hc).symm.trans hf
      refine lv_iload_n hx hb d_m1097_5 rfl (lv_at hl 1 rfl) ?_
      refine lv_goto (tgt := 12) hx hb d_m1097_6 (by decide) ?_
      exact J12 p0 hf H locs ls hP hD hS (lv_sub hl [1] rfl)
  exact hgo _ _ hP hS
def f_M_sendRun_L37b (mo_runMany : Int32) (mo_runBits : Nat → Int32) (mo_counting : Int32) (N : Nat) (rec : (Int32 × Int32 × Int32 × Int32 × Int32 × (Nat → Int32)) → Option (Int32 × Int32 × Int32 × Int32 × (Nat → Int32))) (v3_37 : Int32) (mo_outs_37 : Int32) (mo_part_37 : Int32) (mo_parted_37 : Int32) (mo_failed_37 : Int32) (mo_out_37 : Nat → Int32) : Option (Int32 × Int32 × Int32 × Int32 × (Nat → Int32)) :=
  if mo_runMany ≤ v3_37 then
    some (mo_outs_37, mo_part_37, mo_parted_37, mo_failed_37, mo_out_37)
  else
    if v3_37 < 0 ∨ 1100 ≤ v3_37.toNatClampNeg then none else
    (f_M_bit (mo_runBits v3_37.toNatClampNeg) mo_outs_37 mo_part_37 mo_parted_37 mo_failed_37 mo_counting mo_out_37).bind fun z4 =>
    rec (v3_37 + (1 : Int32), z4.1, z4.2.1, z4.2.2.1, z4.2.2.2.1, z4.2.2.2.2)
def f_M_sendRun_L37 (mo_runMany : Int32) (mo_runBits : Nat → Int32) (mo_counting : Int32) (N : Nat) (k : Nat) : (Int32 × Int32 × Int32 × Int32 × Int32 × (Nat → Int32)) → Option (Int32 × Int32 × Int32 × Int32 × (Nat → Int32)) := it (fun rec a => f_M_sendRun_L37b mo_runMany mo_runBits mo_counting N rec a.1 a.2.1 a.2.2.1 a.2.2.2.1 a.2.2.2.2.1 a.2.2.2.2.2) k
def f_M_sendRun (N : Nat) (p0 : Int32) (mo_outs : Int32) (mo_part : Int32) (mo_parted : Int32) (mo_failed : Int32) (mo_counting : Int32) (mo_run : Int32) (mo_runMany : Int32) (mo_lengths : Nat → Int32) (mo_codes : Nat → Int32) (mo_out : Nat → Int32) (mo_times : Nat → Int32) (mo_runBits : Nat → Int32) : Option (Int32 × Int32 × Int32 × Int32 × Int32 × Int32 × (Nat → Int32) × (Nat → Int32)) :=
  if mo_run ≤ 0 then
    some (mo_outs, mo_part, mo_parted, mo_failed, mo_run, mo_runMany, mo_out, mo_times)
  else
    (f_M_sizeOf N mo_run).bind fun z1 =>
    (f_M_word N p0 ((16 : Int32) * (z1 - (1 : Int32))) mo_outs mo_part mo_parted mo_failed mo_counting mo_lengths mo_codes mo_out mo_times).bind fun z2 =>
    (f_M_low N mo_run (z1 - (1 : Int32)) z2.1 z2.2.1 z2.2.2.1 z2.2.2.2.1 mo_counting z2.2.2.2.2.1).bind fun z3 =>
    (f_M_sendRun_L37 mo_runMany mo_runBits mo_counting N N ((0 : Int32), z3.1, z3.2.1, z3.2.2.1, z3.2.2.2.1, z3.2.2.2.2)).bind fun z5 =>
      some (z5.1, z5.2.1, z5.2.2.1, z5.2.2.2.1, (0 : Int32), (0 : Int32), z5.2.2.2.2, z2.2.2.2.2.2)
abbrev w_M_sendRun (cI cB cS cT : ClassId) (a_mo : Nat) (a_mo_lengths : Nat) (a_mo_codes : Nat) (a_mo_out : Nat) (a_mo_times : Nat) (a_mo_runBits : Nat) (a_mo_h : Nat) (a_mo_v : Nat) (a_mo_across : Nat) (a_mo_down : Nat) (a_mo_ownAcross : Nat) (a_mo_ownDown : Nat) (a_mo_base : Nat) (a_mo_coefficients : Nat) (a_mo_before0 : Nat) (a_mo_draftCounts : Nat) (a_mo_draft : Nat) (a_mo_words : Nat) (a_mo_directOf : Nat) (a_mo_otherOf : Nat) (a_mo_data : Nat) (a_mo_prediction : Nat) (a_mo_toCome : Nat) (a_mo_timesKept : Nat) (mo_thrown : Int32) (mo_width : Int32) (mo_height : Int32) (mo_many : Int32) (mo_unitsAcross : Int32) (mo_unitsDown : Int32) (mo_drafts : Int32) (mo_mask : Int32) (mo_first : Int32) (mo_last : Int32) (mo_before : Int32) (mo_bits : Int32) (mo_interval : Int32) (mo_size : Int32) (mo_outs : Int32) (mo_part : Int32) (mo_parted : Int32) (mo_failed : Int32) (mo_counting : Int32) (mo_run : Int32) (mo_runMany : Int32) (mo_comes : Int32) (mo_at : Int32) (mo_taken : Int32) (mo_left : Int32) (mo_fault : Int32) (mo_lengths : Nat → Int32) (mo_codes : Nat → Int32) (mo_out : Nat → Int32) (mo_times : Nat → Int32) (mo_runBits : Nat → Int32) : va_W := [(a_mo, .inr (11, [.int mo_thrown, .int mo_width, .int mo_height, .int mo_many, .ref a_mo_h, .ref a_mo_v, .ref a_mo_across, .ref a_mo_down, .ref a_mo_ownAcross, .ref a_mo_ownDown, .ref a_mo_base, .int mo_unitsAcross, .int mo_unitsDown, .ref a_mo_coefficients, .ref a_mo_before0, .ref a_mo_draftCounts, .ref a_mo_draft, .int mo_drafts, .ref a_mo_words, .ref a_mo_lengths, .ref a_mo_codes, .ref a_mo_directOf, .ref a_mo_otherOf, .int mo_mask, .int mo_first, .int mo_last, .int mo_before, .int mo_bits, .int mo_interval, .ref a_mo_data, .int mo_size, .ref a_mo_out, .int mo_outs, .int mo_part, .int mo_parted, .int mo_failed, .int mo_counting, .ref a_mo_times, .ref a_mo_prediction, .int mo_run, .ref a_mo_runBits, .int mo_runMany, .ref a_mo_toCome, .int mo_comes, .int mo_at, .int mo_taken, .int mo_left, .int mo_fault, .ref a_mo_timesKept])), (a_mo_lengths, .inl (cI, 2048, .inl mo_lengths)), (a_mo_codes, .inl (cI, 2048, .inl mo_codes)), (a_mo_out, .inl (cB, 16384, .inl mo_out)), (a_mo_times, .inl (cI, 2048, .inl mo_times)), (a_mo_runBits, .inl (cB, 1100, .inl mo_runBits))]
def rm_M_sendRun : Room := { frames := 4, cells := 0, slots := 0, locals := 88 }
set_option maxHeartbeats 1000000 in
set_option maxRecDepth 100000 in
theorem c_M_sendRun (l : Launch) (dC : Nat → ClassId) (dI : Nat → Nat → Nat) (cI cB cS cT : ClassId) (N : Nat) (a_mo : Nat) (a_mo_lengths : Nat) (a_mo_codes : Nat) (a_mo_out : Nat) (a_mo_times : Nat) (a_mo_runBits : Nat) (a_mo_h : Nat) (a_mo_v : Nat) (a_mo_across : Nat) (a_mo_down : Nat) (a_mo_ownAcross : Nat) (a_mo_ownDown : Nat) (a_mo_base : Nat) (a_mo_coefficients : Nat) (a_mo_before0 : Nat) (a_mo_draftCounts : Nat) (a_mo_draft : Nat) (a_mo_words : Nat) (a_mo_directOf : Nat) (a_mo_otherOf : Nat) (a_mo_data : Nat) (a_mo_prediction : Nat) (a_mo_toCome : Nat) (a_mo_timesKept : Nat) (mo_thrown : Int32) (mo_width : Int32) (mo_height : Int32) (mo_many : Int32) (mo_unitsAcross : Int32) (mo_unitsDown : Int32) (mo_drafts : Int32) (mo_mask : Int32) (mo_first : Int32) (mo_last : Int32) (mo_before : Int32) (mo_bits : Int32) (mo_interval : Int32) (mo_size : Int32) (mo_outs : Int32) (mo_part : Int32) (mo_parted : Int32) (mo_failed : Int32) (mo_counting : Int32) (mo_run : Int32) (mo_runMany : Int32) (mo_comes : Int32) (mo_at : Int32) (mo_taken : Int32) (mo_left : Int32) (mo_fault : Int32) (mo_lengths : Nat → Int32) (mo_codes : Nat → Int32) (mo_out : Nat → Int32) (mo_times : Nat → Int32) (mo_runBits : Nat → Int32) (p0 : Int32) (sz : Nat) (z : Int32 × Int32 × Int32 × Int32 × Int32 × Int32 × (Nat → Int32) × (Nat → Int32)) (hf : f_M_sendRun N p0 mo_outs mo_part mo_parted mo_failed mo_counting mo_run mo_runMany mo_lengths mo_codes mo_out mo_times mo_runBits = some z) : Met l y_m1054 ws_m1054 rm_M_sendRun (gPre (dC, dI) [.ref a_mo, .int p0] (gT cI cB cS cT) (w_M_sendRun cI cB cS cT a_mo a_mo_lengths a_mo_codes a_mo_out a_mo_times a_mo_runBits a_mo_h a_mo_v a_mo_across a_mo_down a_mo_ownAcross a_mo_ownDown a_mo_base a_mo_coefficients a_mo_before0 a_mo_draftCounts a_mo_draft a_mo_words a_mo_directOf a_mo_otherOf a_mo_data a_mo_prediction a_mo_toCome a_mo_timesKept mo_thrown mo_width mo_height mo_many mo_unitsAcross mo_unitsDown mo_drafts mo_mask mo_first mo_last mo_before mo_bits mo_interval mo_size mo_outs mo_part mo_parted mo_failed mo_counting mo_run mo_runMany mo_comes mo_at mo_taken mo_left mo_fault mo_lengths mo_codes mo_out mo_times mo_runBits) sz) (gQv (dC, dI) (gT cI cB cS cT) (w_M_sendRun cI cB cS cT a_mo a_mo_lengths a_mo_codes a_mo_out a_mo_times a_mo_runBits a_mo_h a_mo_v a_mo_across a_mo_down a_mo_ownAcross a_mo_ownDown a_mo_base a_mo_coefficients a_mo_before0 a_mo_draftCounts a_mo_draft a_mo_words a_mo_directOf a_mo_otherOf a_mo_data a_mo_prediction a_mo_toCome a_mo_timesKept mo_thrown mo_width mo_height mo_many mo_unitsAcross mo_unitsDown mo_drafts mo_mask mo_first mo_last mo_before mo_bits mo_interval mo_size mo_outs mo_part mo_parted mo_failed mo_counting mo_run mo_runMany mo_comes mo_at mo_taken mo_left mo_fault mo_lengths mo_codes mo_out mo_times mo_runBits) (w_M_sendRun cI cB cS cT a_mo a_mo_lengths a_mo_codes a_mo_out a_mo_times a_mo_runBits a_mo_h a_mo_v a_mo_across a_mo_down a_mo_ownAcross a_mo_ownDown a_mo_base a_mo_coefficients a_mo_before0 a_mo_draftCounts a_mo_draft a_mo_words a_mo_directOf a_mo_otherOf a_mo_data a_mo_prediction a_mo_toCome a_mo_timesKept mo_thrown mo_width mo_height mo_many mo_unitsAcross mo_unitsDown mo_drafts mo_mask mo_first mo_last mo_before mo_bits mo_interval mo_size z.1 z.2.1 z.2.2.1 z.2.2.2.1 mo_counting z.2.2.2.2.1 z.2.2.2.2.2.1 mo_comes mo_at mo_taken mo_left mo_fault mo_lengths mo_codes z.2.2.2.2.2.2.1 z.2.2.2.2.2.2.2 mo_runBits) sz) 0 0 (va_A (w_M_sendRun cI cB cS cT a_mo a_mo_lengths a_mo_codes a_mo_out a_mo_times a_mo_runBits a_mo_h a_mo_v a_mo_across a_mo_down a_mo_ownAcross a_mo_ownDown a_mo_base a_mo_coefficients a_mo_before0 a_mo_draftCounts a_mo_draft a_mo_words a_mo_directOf a_mo_otherOf a_mo_data a_mo_prediction a_mo_toCome a_mo_timesKept mo_thrown mo_width mo_height mo_many mo_unitsAcross mo_unitsDown mo_drafts mo_mask mo_first mo_last mo_before mo_bits mo_interval mo_size mo_outs mo_part mo_parted mo_failed mo_counting mo_run mo_runMany mo_comes mo_at mo_taken mo_left mo_fault mo_lengths mo_codes mo_out mo_times mo_runBits) sz) := by
  refine Met.ofW (cc := prog_14_method_27_code) (maxL := 4) (ret := none) (by decide) rfl ?_
  intro p e s m args below meth c s₁ B hml hv
  obtain ⟨hargs, hsz, hP, hKN, hD0⟩ := hv
  have hK := hKN.1
  have hx := B.exec
  have hb := B.bytes
  have hr := B.returns
  have hts := atoms_spec (ws := ws_m1054) B.pre
  have hown : s.vm.findClass "ScanCoderModel" = some m.cls := findClass_of_methodNamed B.named
  have hlocks := B.notSynchronized
  have k0 := hts _ (List.mem_cons_of_mem _ tw_873)
  have k1 := hts _ (List.mem_cons_of_mem _ tw_875)
  have k2 := hts _ (List.mem_cons_of_mem _ tw_874)
  have n0 : ∀ w ∈ u_ws "ScanCoderModel" T_11 49, w ∈ ws_m1054 := fun w h => List.mem_cons_of_mem _ (in_11 w h)
  subst hsz
  have hD := hD0.self (sz := s.heap.size)
  obtain ⟨A, hAe⟩ : ∃ A : Nat → Prop, va_A (w_M_sendRun cI cB cS cT a_mo a_mo_lengths a_mo_codes a_mo_out a_mo_times a_mo_runBits a_mo_h a_mo_v a_mo_across a_mo_down a_mo_ownAcross a_mo_ownDown a_mo_base a_mo_coefficients a_mo_before0 a_mo_draftCounts a_mo_draft a_mo_words a_mo_directOf a_mo_otherOf a_mo_data a_mo_prediction a_mo_toCome a_mo_timesKept mo_thrown mo_width mo_height mo_many mo_unitsAcross mo_unitsDown mo_drafts mo_mask mo_first mo_last mo_before mo_bits mo_interval mo_size mo_outs mo_part mo_parted mo_failed mo_counting mo_run mo_runMany mo_comes mo_at mo_taken mo_left mo_fault mo_lengths mo_codes mo_out mo_times mo_runBits) s.heap.size = A := ⟨_, rfl⟩
  rw [hAe] at hD
  have hA : ∀ q : Nat, s.heap.size ≤ q → A q := fun q h => by rw [← hAe]; exact Or.inr h
  have hS : va_S A s.heap s.heap [] := va_S.rf
  have hl := lv_entry ([.ref a_mo, .int p0]) (n := 4) (Nat.le_of_ble_eq_true rfl)
  have hfr : entryFrame m args 4 = F0 m 0 ((lg_sl ([.ref a_mo, .int p0]) ++ List.replicate (4 - (lg_sl ([.ref a_mo, .int p0])).length) Slot.unset).toArray) [] := by rw [hargs]; exact lg_entry_eq _ _ _
  rw [hfr]
  generalize (lg_sl ([.ref a_mo, .int p0]) ++ List.replicate (4 - (lg_sl ([.ref a_mo, .int p0])).length) Slot.unset).toArray = ls at hl ⊢
  have hl : lv_has ls 4 [(0, .ref a_mo), (1, .int p0)] := hl
  refine gen_Q (fun Q hQ => ?_)
  clear hfr
  have L37 : ∀ (mo_times_37 : Nat → Int32) (z : Int32 × Int32 × Int32 × Int32 × (Nat → Int32)), (GW (dC, dI) A p l e (headSpec ws_m1054 rm_M_sendRun).room s m args below meth c 0 0 Q 4 61 (w_M_sendRun cI cB cS cT a_mo a_mo_lengths a_mo_codes a_mo_out a_mo_times a_mo_runBits a_mo_h a_mo_v a_mo_across a_mo_down a_mo_ownAcross a_mo_ownDown a_mo_base a_mo_coefficients a_mo_before0 a_mo_draftCounts a_mo_draft a_mo_words a_mo_directOf a_mo_otherOf a_mo_data a_mo_prediction a_mo_toCome a_mo_timesKept mo_thrown mo_width mo_height mo_many mo_unitsAcross mo_unitsDown mo_drafts mo_mask mo_first mo_last mo_before mo_bits mo_interval mo_size z.1 z.2.1 z.2.2.1 z.2.2.2.1 mo_counting mo_run mo_runMany mo_comes mo_at mo_taken mo_left mo_fault mo_lengths mo_codes z.2.2.2.2 mo_times_37 mo_runBits) [(0, .ref a_mo)] []) → ∀ (k : Nat) (v3_37 : Int32) (mo_outs_37 : Int32) (mo_part_37 : Int32) (mo_parted_37 : Int32) (mo_failed_37 : Int32) (mo_out_37 : Nat → Int32), f_M_sendRun_L37 mo_runMany mo_runBits mo_counting N k (v3_37, mo_outs_37, mo_part_37, mo_parted_37, mo_failed_37, mo_out_37) = some z → GW (dC, dI) A p l e (headSpec ws_m1054 rm_M_sendRun).room s m args below meth c 0 0 Q 4 37 (w_M_sendRun cI cB cS cT a_mo a_mo_lengths a_mo_codes a_mo_out a_mo_times a_mo_runBits a_mo_h a_mo_v a_mo_across a_mo_down a_mo_ownAcross a_mo_ownDown a_mo_base a_mo_coefficients a_mo_before0 a_mo_draftCounts a_mo_draft a_mo_words a_mo_directOf a_mo_otherOf a_mo_data a_mo_prediction a_mo_toCome a_mo_timesKept mo_thrown mo_width mo_height mo_many mo_unitsAcross mo_unitsDown mo_drafts mo_mask mo_first mo_last mo_before mo_bits mo_interval mo_size mo_outs_37 mo_part_37 mo_parted_37 mo_failed_37 mo_counting mo_run mo_runMany mo_comes mo_at mo_taken mo_left mo_fault mo_lengths mo_codes mo_out_37 mo_times_37 mo_runBits) [(0, .ref a_mo), (3, .int v3_37)] [] := by
    intro mo_times_37 z hE0 k
    induction k with
    | zero =>
      intro v3_37 mo_outs_37 mo_part_37 mo_parted_37 mo_failed_37 mo_out_37 hf
      exact (it_zero hf).elim
    | succ k ih =>
      intro v3_37 mo_outs_37 mo_part_37 mo_parted_37 mo_failed_37 mo_out_37 hf H locs ls hP hD hS hl
      have hf : f_M_sendRun_L37b mo_runMany mo_runBits mo_counting N (f_M_sendRun_L37 mo_runMany mo_runBits mo_counting N k) v3_37 mo_outs_37 mo_part_37 mo_parted_37 mo_failed_37 mo_out_37 = some z := hf
      unfold f_M_sendRun_L37b at hf
      refine lv_iload_n hx hb d_m1054_37 rfl (lv_at hl 1 rfl) ?_
      refine lv_aload_n hx hb d_m1054_38 rfl (lv_at hl 0 rfl) ?_
      refine va_get (D := (dC, dI)) (ci := 11) (v := .int mo_runMany) (C := "ScanCoderModel") (T := T_11) (N := 49) hx hb hts n0 hown hK hP 0 rfl rfl 41 (by decide) k1 (fun _ h9 => h9) rfl d_m1054_39 ?_
      refine lv_icmp_ge (tgt := 61) hx hb d_m1054_42 (by decide) (fun hc => ?_) (fun hc => ?_)
      · replace hf := (if_pos hc).symm.trans hf
        obtain rfl := Option.some.inj hf
        exact hE0  H locs ls hP hD hS (lv_sub hl [0] rfl)
      · replace hf := (if_neg hc).symm.trans hf
        refine lv_aload_n hx hb d_m1054_45 rfl (lv_at hl 0 rfl) ?_
        refine lv_aload_n hx hb d_m1054_46 rfl (lv_at hl 0 rfl) ?_
        refine va_get (D := (dC, dI)) (ci := 11) (v := .ref a_mo_runBits) (C := "ScanCoderModel") (T := T_11) (N := 49) hx hb hts n0 hown hK hP 0 rfl rfl 40 (by decide) k2 (fun _ h9 => h9) rfl d_m1054_47 ?_
        refine lv_iload_n hx hb d_m1054_50 rfl (lv_at hl 1 rfl) ?_
        obtain ⟨hi, hf⟩ := ob_if hf
        refine va_bald hx hb hK hP 5 1 rfl rfl hi d_m1054_51 ?_
        obtain ⟨z4, hz4, hf⟩ := ob_bind hf
        refine g_callv (wc := (w_M_bit cI cB cS cT a_mo a_mo_out a_mo_h a_mo_v a_mo_across a_mo_down a_mo_ownAcross a_mo_ownDown a_mo_base a_mo_coefficients a_mo_before0 a_mo_draftCounts a_mo_draft a_mo_words a_mo_lengths a_mo_codes a_mo_directOf a_mo_otherOf a_mo_data a_mo_times a_mo_prediction a_mo_runBits a_mo_toCome a_mo_timesKept mo_thrown mo_width mo_height mo_many mo_unitsAcross mo_unitsDown mo_drafts mo_mask mo_first mo_last mo_before mo_bits mo_interval mo_size mo_outs_37 mo_part_37 mo_parted_37 mo_failed_37 mo_counting mo_run mo_runMany mo_comes mo_at mo_taken mo_left mo_fault mo_out_37)) (w1 := (w_M_bit cI cB cS cT a_mo a_mo_out a_mo_h a_mo_v a_mo_across a_mo_down a_mo_ownAcross a_mo_ownDown a_mo_base a_mo_coefficients a_mo_before0 a_mo_draftCounts a_mo_draft a_mo_words a_mo_lengths a_mo_codes a_mo_directOf a_mo_otherOf a_mo_data a_mo_times a_mo_prediction a_mo_runBits a_mo_toCome a_mo_timesKept mo_thrown mo_width mo_height mo_many mo_unitsAcross mo_unitsDown mo_drafts mo_mask mo_first mo_last mo_before mo_bits mo_interval mo_size z4.1 z4.2.1 z4.2.2.1 z4.2.2.2.1 mo_counting mo_run mo_runMany mo_comes mo_at mo_taken mo_left mo_fault z4.2.2.2.2)) (w2 := (w_M_sendRun cI cB cS cT a_mo a_mo_lengths a_mo_codes a_mo_out a_mo_times a_mo_runBits a_mo_h a_mo_v a_mo_across a_mo_down a_mo_ownAcross a_mo_ownDown a_mo_base a_mo_coefficients a_mo_before0 a_mo_draftCounts a_mo_draft a_mo_words a_mo_directOf a_mo_otherOf a_mo_data a_mo_prediction a_mo_toCome a_mo_timesKept mo_thrown mo_width mo_height mo_many mo_unitsAcross mo_unitsDown mo_drafts mo_mask mo_first mo_last mo_before mo_bits mo_interval mo_size z4.1 z4.2.1 z4.2.2.1 z4.2.2.2.1 mo_counting mo_run mo_runMany mo_comes mo_at mo_taken mo_left mo_fault mo_lengths mo_codes z4.2.2.2.2 mo_times_37 mo_runBits)) [0, 3] [some 0, none, none, some 1, none, none] hP hD hS hA rfl rfl rfl rfl (va_runV (As := [.int (mo_runBits v3_37.toNatClampNeg)]) (rest := []) ⟨hx, hb, hml, hown, hts⟩ (c_M_bit l dC dI cI cB cS cT a_mo a_mo_out a_mo_h a_mo_v a_mo_across a_mo_down a_mo_ownAcross a_mo_ownDown a_mo_base a_mo_coefficients a_mo_before0 a_mo_draftCounts a_mo_draft a_mo_words a_mo_lengths a_mo_codes a_mo_directOf a_mo_otherOf a_mo_data a_mo_times a_mo_prediction a_mo_runBits a_mo_toCome a_mo_timesKept mo_thrown mo_width mo_height mo_many mo_unitsAcross mo_unitsDown mo_drafts mo_mask mo_first mo_last mo_before mo_bits mo_interval mo_size mo_outs_37 mo_part_37 mo_parted_37 mo_failed_37 mo_counting mo_run mo_runMany mo_comes mo_at mo_taken mo_left mo_fault mo_out_37 (mo_runBits v3_37.toNatClampNeg) H.size z4 hz4) ⟨(callB_of 1 hts (gi tw_1069 rfl) rfl rfl rfl (hts _ (List.mem_cons_of_mem _ tw_16)) (hts _ (List.mem_cons_of_mem _ tw_1066)) (by decide +kernel) ⟨Nat.le_of_ble_eq_true rfl, Nat.le_of_ble_eq_true rfl⟩), hts _ (List.mem_cons_of_mem _ tw_1068), hts _ (List.mem_cons_of_mem _ ts_m1069)⟩ ⟨g_blind, va_recv hK hP (ci := 11) (q0 := 0) rfl rfl, g_at hKN (g_pm hP [0, 3] rfl) (hD.sub [0, 3] (by decide) rfl)⟩ rfl rfl hl.1 rfl (lv_room (Nat.le_of_ble_eq_true rfl)) d_m1054_52 ⟨Nat.zero_le _, Nat.zero_le _⟩) (fun H locs hP hD hS => ?_)
        refine W.eq (g2 := F0 m 55 ls []) rfl ?_
        refine lv_iinc (v := v3_37 + (1 : Int32)) (lv' := [(3, .int (v3_37 + (1 : Int32))), (0, .ref a_mo)]) hx hb d_m1054_55 hl (k := 1) rfl rfl (by decide) rfl (fun ls hl => ?_)
        refine lv_goto (tgt := 37) hx hb d_m1054_58 (by decide) ?_
        exact ih (v3_37 + (1 : Int32)) z4.1 z4.2.1 z4.2.2.1 z4.2.2.2.1 z4.2.2.2.2 hf H locs ls hP hD hS (lv_sub hl [1, 0] rfl)
  have hgo : ∀ (H : Heap) (locs : List Loc), va_P (dC, dI) vwCl (w_M_sendRun cI cB cS cT a_mo a_mo_lengths a_mo_codes a_mo_out a_mo_times a_mo_runBits a_mo_h a_mo_v a_mo_across a_mo_down a_mo_ownAcross a_mo_ownDown a_mo_base a_mo_coefficients a_mo_before0 a_mo_draftCounts a_mo_draft a_mo_words a_mo_directOf a_mo_otherOf a_mo_data a_mo_prediction a_mo_toCome a_mo_timesKept mo_thrown mo_width mo_height mo_many mo_unitsAcross mo_unitsDown mo_drafts mo_mask mo_first mo_last mo_before mo_bits mo_interval mo_size mo_outs mo_part mo_parted mo_failed mo_counting mo_run mo_runMany mo_comes mo_at mo_taken mo_left mo_fault mo_lengths mo_codes mo_out mo_times mo_runBits) H → va_S A s.heap H locs → W p l e (headSpec ws_m1054 rm_M_sendRun).room s m args below meth c H locs 0 0 Q (F0 m 0 ls []) := by
    intro H locs hP hS
    unfold f_M_sendRun at hf
    refine lv_aload_n hx hb d_m1054_0 rfl (lv_at hl 0 rfl) ?_
    refine va_get (D := (dC, dI)) (ci := 11) (v := .int mo_run) (C := "ScanCoderModel") (T := T_11) (N := 49) hx hb hts n0 hown hK hP 0 rfl rfl 39 (by decide) k0 (fun _ h9 => h9) rfl d_m1054_1 ?_
    refine lv_if_le (tgt := 71) hx hb d_m1054_4 (by decide) (fun hc => ?_) (fun hc => ?_)
    · replace hf := (if_pos hc).symm.trans hf
      obtain rfl := Option.some.inj hf
      subst hQ
      subst hAe
      exact W.vret hx hb hr (fun t ht hW => ⟨⟨(), rfl, trivial, by rw [ht]; exact hP, hD⟩, hS.F ht⟩) hS.2.2 d_m1054_71
    · replace hf := (if_neg hc).symm.trans hf
      refine lv_aload_n hx hb d_m1054_7 rfl (lv_at hl 0 rfl) ?_
      refine va_get (D := (dC, dI)) (ci := 11) (v := .int mo_run) (C := "ScanCoderModel") (T := T_11) (N := 49) hx hb hts n0 hown hK hP 0 rfl rfl 39 (by decide) k0 (fun _ h9 => h9) rfl d_m1054_8 ?_
      obtain ⟨z1, hz1, hf⟩ := ob_bind hf
      refine vp_callSi (g_run (va_runS (As := [.int mo_run]) (rest := []) ⟨hx, hb, hml, hown, hts⟩ (c_M_sizeOf l dC dI cI cB cS cT N mo_run z1 hz1) ⟨(callB_of 1 hts (gi tw_1057 rfl) rfl rfl rfl (hts _ (List.mem_cons_of_mem _ tw_16)) (hts _ (List.mem_cons_of_mem _ tw_1055)) (by decide +kernel) ⟨Nat.le_of_ble_eq_true rfl, Nat.le_of_ble_eq_true rfl⟩), hts _ (List.mem_cons_of_mem _ tw_1056)⟩ ⟨gp_blind, gp_at hKN (g_pm hP [] rfl)⟩ rfl rfl hl.1 rfl (lv_room (Nat.le_of_ble_eq_true rfl)) d_m1054_11 ⟨Nat.zero_le _, Nat.zero_le _⟩)) (fun r hrz1 => ?_)
      have hrz1 := hrz1.symm
      subst hrz1
      refine W.eq (g2 := F0 m 14 ls [.int z1]) rfl ?_
      refine lv_iconst (v := (1 : Int32)) hx hb d_m1054_14 (by decide) ?_
      refine lv_isub hx hb d_m1054_15 ?_
      refine lv_istore_n (lv' := [(2, .int (z1 - (1 : Int32))), (0, .ref a_mo), (1, .int p0)]) hx hb d_m1054_16 rfl hl (by decide) rfl (fun ls hl => ?_)
      refine lv_aload_n hx hb d_m1054_17 rfl (lv_at hl 1 rfl) ?_
      refine lv_iload_n hx hb d_m1054_18 rfl (lv_at hl 2 rfl) ?_
      refine lv_bipush (v := (16 : Int32)) hx hb d_m1054_19 (by decide) ?_
      refine lv_iload_n hx hb d_m1054_21 rfl (lv_at hl 0 rfl) ?_
      refine lv_imul hx hb d_m1054_22 ?_
      obtain ⟨z2, hz2, hf⟩ := ob_bind hf
      refine g_callv (wc := (w_M_word cI cB cS cT a_mo a_mo_lengths a_mo_codes a_mo_out a_mo_times a_mo_h a_mo_v a_mo_across a_mo_down a_mo_ownAcross a_mo_ownDown a_mo_base a_mo_coefficients a_mo_before0 a_mo_draftCounts a_mo_draft a_mo_words a_mo_directOf a_mo_otherOf a_mo_data a_mo_prediction a_mo_runBits a_mo_toCome a_mo_timesKept mo_thrown mo_width mo_height mo_many mo_unitsAcross mo_unitsDown mo_drafts mo_mask mo_first mo_last mo_before mo_bits mo_interval mo_size mo_outs mo_part mo_parted mo_failed mo_counting mo_run mo_runMany mo_comes mo_at mo_taken mo_left mo_fault mo_lengths mo_codes mo_out mo_times)) (w1 := (w_M_word cI cB cS cT a_mo a_mo_lengths a_mo_codes a_mo_out a_mo_times a_mo_h a_mo_v a_mo_across a_mo_down a_mo_ownAcross a_mo_ownDown a_mo_base a_mo_coefficients a_mo_before0 a_mo_draftCounts a_mo_draft a_mo_words a_mo_directOf a_mo_otherOf a_mo_data a_mo_prediction a_mo_runBits a_mo_toCome a_mo_timesKept mo_thrown mo_width mo_height mo_many mo_unitsAcross mo_unitsDown mo_drafts mo_mask mo_first mo_last mo_before mo_bits mo_interval mo_size z2.1 z2.2.1 z2.2.2.1 z2.2.2.2.1 mo_counting mo_run mo_runMany mo_comes mo_at mo_taken mo_left mo_fault mo_lengths mo_codes z2.2.2.2.2.1 z2.2.2.2.2.2)) (w2 := (w_M_sendRun cI cB cS cT a_mo a_mo_lengths a_mo_codes a_mo_out a_mo_times a_mo_runBits a_mo_h a_mo_v a_mo_across a_mo_down a_mo_ownAcross a_mo_ownDown a_mo_base a_mo_coefficients a_mo_before0 a_mo_draftCounts a_mo_draft a_mo_words a_mo_directOf a_mo_otherOf a_mo_data a_mo_prediction a_mo_toCome a_mo_timesKept mo_thrown mo_width mo_height mo_many mo_unitsAcross mo_unitsDown mo_drafts mo_mask mo_first mo_last mo_before mo_bits mo_interval mo_size z2.1 z2.2.1 z2.2.2.1 z2.2.2.2.1 mo_counting mo_run mo_runMany mo_comes mo_at mo_taken mo_left mo_fault mo_lengths mo_codes z2.2.2.2.2.1 z2.2.2.2.2.2 mo_runBits)) [0, 1, 2, 3, 4] [some 0, some 1, some 2, some 3, some 4, none] hP hD hS hA rfl rfl rfl rfl (va_runV (As := [.int p0, .int ((16 : Int32) * (z1 - (1 : Int32)))]) (rest := []) ⟨hx, hb, hml, hown, hts⟩ (c_M_word l dC dI cI cB cS cT N a_mo a_mo_lengths a_mo_codes a_mo_out a_mo_times a_mo_h a_mo_v a_mo_across a_mo_down a_mo_ownAcross a_mo_ownDown a_mo_base a_mo_coefficients a_mo_before0 a_mo_draftCounts a_mo_draft a_mo_words a_mo_directOf a_mo_otherOf a_mo_data a_mo_prediction a_mo_runBits a_mo_toCome a_mo_timesKept mo_thrown mo_width mo_height mo_many mo_unitsAcross mo_unitsDown mo_drafts mo_mask mo_first mo_last mo_before mo_bits mo_interval mo_size mo_outs mo_part mo_parted mo_failed mo_counting mo_run mo_runMany mo_comes mo_at mo_taken mo_left mo_fault mo_lengths mo_codes mo_out mo_times p0 ((16 : Int32) * (z1 - (1 : Int32))) H.size z2 hz2) ⟨(callB_of 2 hts (gi tw_1061 rfl) rfl rfl rfl (hts _ (List.mem_cons_of_mem _ tw_16)) (hts _ (List.mem_cons_of_mem _ tw_1058)) (by decide +kernel) ⟨Nat.le_of_ble_eq_true rfl, Nat.le_of_ble_eq_true rfl⟩), hts _ (List.mem_cons_of_mem _ tw_1060), hts _ (List.mem_cons_of_mem _ ts_m1061)⟩ ⟨g_blind, va_recv hK hP (ci := 11) (q0 := 0) rfl rfl, g_at hKN (g_pm hP [0, 1, 2, 3, 4] rfl) (hD.sub [0, 1, 2, 3, 4] (by decide) rfl)⟩ rfl rfl hl.1 rfl (lv_room (Nat.le_of_ble_eq_true rfl)) d_m1054_23 ⟨Nat.zero_le _, Nat.zero_le _⟩) (fun H locs hP hD hS => ?_)
      refine W.eq (g2 := F0 m 26 ls []) rfl ?_
      refine lv_aload_n hx hb d_m1054_26 rfl (lv_at hl 1 rfl) ?_
      refine lv_aload_n hx hb d_m1054_27 rfl (lv_at hl 1 rfl) ?_
      refine va_get (D := (dC, dI)) (ci := 11) (v := .int mo_run) (C := "ScanCoderModel") (T := T_11) (N := 49) hx hb hts n0 hown hK hP 0 rfl rfl 39 (by decide) k0 (fun _ h9 => h9) rfl d_m1054_28 ?_
      refine lv_iload_n hx hb d_m1054_31 rfl (lv_at hl 0 rfl) ?_
      obtain ⟨z3, hz3, hf⟩ := ob_bind hf
      refine g_callv (wc := (w_M_low cI cB cS cT a_mo a_mo_out a_mo_h a_mo_v a_mo_across a_mo_down a_mo_ownAcross a_mo_ownDown a_mo_base a_mo_coefficients a_mo_before0 a_mo_draftCounts a_mo_draft a_mo_words a_mo_lengths a_mo_codes a_mo_directOf a_mo_otherOf a_mo_data a_mo_times a_mo_prediction a_mo_runBits a_mo_toCome a_mo_timesKept mo_thrown mo_width mo_height mo_many mo_unitsAcross mo_unitsDown mo_drafts mo_mask mo_first mo_last mo_before mo_bits mo_interval mo_size z2.1 z2.2.1 z2.2.2.1 z2.2.2.2.1 mo_counting mo_run mo_runMany mo_comes mo_at mo_taken mo_left mo_fault z2.2.2.2.2.1)) (w1 := (w_M_low cI cB cS cT a_mo a_mo_out a_mo_h a_mo_v a_mo_across a_mo_down a_mo_ownAcross a_mo_ownDown a_mo_base a_mo_coefficients a_mo_before0 a_mo_draftCounts a_mo_draft a_mo_words a_mo_lengths a_mo_codes a_mo_directOf a_mo_otherOf a_mo_data a_mo_times a_mo_prediction a_mo_runBits a_mo_toCome a_mo_timesKept mo_thrown mo_width mo_height mo_many mo_unitsAcross mo_unitsDown mo_drafts mo_mask mo_first mo_last mo_before mo_bits mo_interval mo_size z3.1 z3.2.1 z3.2.2.1 z3.2.2.2.1 mo_counting mo_run mo_runMany mo_comes mo_at mo_taken mo_left mo_fault z3.2.2.2.2)) (w2 := (w_M_sendRun cI cB cS cT a_mo a_mo_lengths a_mo_codes a_mo_out a_mo_times a_mo_runBits a_mo_h a_mo_v a_mo_across a_mo_down a_mo_ownAcross a_mo_ownDown a_mo_base a_mo_coefficients a_mo_before0 a_mo_draftCounts a_mo_draft a_mo_words a_mo_directOf a_mo_otherOf a_mo_data a_mo_prediction a_mo_toCome a_mo_timesKept mo_thrown mo_width mo_height mo_many mo_unitsAcross mo_unitsDown mo_drafts mo_mask mo_first mo_last mo_before mo_bits mo_interval mo_size z3.1 z3.2.1 z3.2.2.1 z3.2.2.2.1 mo_counting mo_run mo_runMany mo_comes mo_at mo_taken mo_left mo_fault mo_lengths mo_codes z3.2.2.2.2 z2.2.2.2.2.2 mo_runBits)) [0, 3] [some 0, none, none, some 1, none, none] hP hD hS hA rfl rfl rfl rfl (va_runV (As := [.int mo_run, .int (z1 - (1 : Int32))]) (rest := []) ⟨hx, hb, hml, hown, hts⟩ (c_M_low l dC dI cI cB cS cT N a_mo a_mo_out a_mo_h a_mo_v a_mo_across a_mo_down a_mo_ownAcross a_mo_ownDown a_mo_base a_mo_coefficients a_mo_before0 a_mo_draftCounts a_mo_draft a_mo_words a_mo_lengths a_mo_codes a_mo_directOf a_mo_otherOf a_mo_data a_mo_times a_mo_prediction a_mo_runBits a_mo_toCome a_mo_timesKept mo_thrown mo_width mo_height mo_many mo_unitsAcross mo_unitsDown mo_drafts mo_mask mo_first mo_last mo_before mo_bits mo_interval mo_size z2.1 z2.2.1 z2.2.2.1 z2.2.2.2.1 mo_counting mo_run mo_runMany mo_comes mo_at mo_taken mo_left mo_fault z2.2.2.2.2.1 mo_run (z1 - (1 : Int32)) H.size z3 hz3) ⟨(callB_of 2 hts (gi tw_1065 rfl) rfl rfl rfl (hts _ (List.mem_cons_of_mem _ tw_16)) (hts _ (List.mem_cons_of_mem _ tw_1062)) (by decide +kernel) ⟨Nat.le_of_ble_eq_true rfl, Nat.le_of_ble_eq_true rfl⟩), hts _ (List.mem_cons_of_mem _ tw_1064), hts _ (List.mem_cons_of_mem _ ts_m1065)⟩ ⟨g_blind, va_recv hK hP (ci := 11) (q0 := 0) rfl rfl, g_at hKN (g_pm hP [0, 3] rfl) (hD.sub [0, 3] (by decide) rfl)⟩ rfl rfl hl.1 rfl (lv_room (Nat.le_of_ble_eq_true rfl)) d_m1054_32 ⟨Nat.zero_le _, Nat.zero_le _⟩) (fun H locs hP hD hS => ?_)
      refine W.eq (g2 := F0 m 35 ls []) rfl ?_
      refine lv_iconst (v := (0 : Int32)) hx hb d_m1054_35 (by decide) ?_
      refine lv_istore_n (lv' := [(3, .int (0 : Int32)), (2, .int (z1 - (1 : Int32))), (0, .ref a_mo), (1, .int p0)]) hx hb d_m1054_36 rfl hl (by decide) rfl (fun ls hl => ?_)
      obtain ⟨z5, hz5, hf⟩ := ob_bind hf
      refine L37 z2.2.2.2.2.2 z5 ?_ N (0 : Int32) z3.1 z3.2.1 z3.2.2.1 z3.2.2.2.1 z3.2.2.2.2 hz5 H locs ls hP hD hS (lv_sub hl [2, 0] rfl)
      · intro H locs ls hP hD hS hl
        refine lv_aload_n hx hb d_m1054_61 rfl (lv_at hl 0 rfl) ?_
        refine lv_iconst (v := (0 : Int32)) hx hb d_m1054_62 (by decide) ?_
        refine va_put (D := (dC, dI)) (ci := 11) (v := .int (0 : Int32)) (ty := .int) (C := "ScanCoderModel") (T := T_11) (N := 49) hx hb hts n0 ty_11 tyok_11 nm_11 hown hK hP hD hS 0 rfl rfl 39 (by decide) k0 (fun _ h9 => h9) rfl (by decide +kernel) rfl rfl (Nat.le_of_ble_eq_true rfl) d_m1054_63 (fun H locs hP hD hS => ?_)
        have hP : va_P (dC, dI) vwCl (w_M_sendRun cI cB cS cT a_mo a_mo_lengths a_mo_codes a_mo_out a_mo_times a_mo_runBits a_mo_h a_mo_v a_mo_across a_mo_down a_mo_ownAcross a_mo_ownDown a_mo_base a_mo_coefficients a_mo_before0 a_mo_draftCounts a_mo_draft a_mo_words a_mo_directOf a_mo_otherOf a_mo_data a_mo_prediction a_mo_toCome a_mo_timesKept mo_thrown mo_width mo_height mo_many mo_unitsAcross mo_unitsDown mo_drafts mo_mask mo_first mo_last mo_before mo_bits mo_interval mo_size z5.1 z5.2.1 z5.2.2.1 z5.2.2.2.1 mo_counting (0 : Int32) mo_runMany mo_comes mo_at mo_taken mo_left mo_fault mo_lengths mo_codes z5.2.2.2.2 z2.2.2.2.2.2 mo_runBits) H := hP
        have hD : va_D A (w_M_sendRun cI cB cS cT a_mo a_mo_lengths a_mo_codes a_mo_out a_mo_times a_mo_runBits a_mo_h a_mo_v a_mo_across a_mo_down a_mo_ownAcross a_mo_ownDown a_mo_base a_mo_coefficients a_mo_before0 a_mo_draftCounts a_mo_draft a_mo_words a_mo_directOf a_mo_otherOf a_mo_data a_mo_prediction a_mo_toCome a_mo_timesKept mo_thrown mo_width mo_height mo_many mo_unitsAcross mo_unitsDown mo_drafts mo_mask mo_first mo_last mo_before mo_bits mo_interval mo_size z5.1 z5.2.1 z5.2.2.1 z5.2.2.2.1 mo_counting (0 : Int32) mo_runMany mo_comes mo_at mo_taken mo_left mo_fault mo_lengths mo_codes z5.2.2.2.2 z2.2.2.2.2.2 mo_runBits) := hD
        refine lv_aload_n hx hb d_m1054_66 rfl (lv_at hl 0 rfl) ?_
        refine lv_iconst (v := (0 : Int32)) hx hb d_m1054_67 (by decide) ?_
        refine va_put (D := (dC, dI)) (ci := 11) (v := .int (0 : Int32)) (ty := .int) (C := "ScanCoderModel") (T := T_11) (N := 49) hx hb hts n0 ty_11 tyok_11 nm_11 hown hK hP hD hS 0 rfl rfl 41 (by decide) k1 (fun _ h9 => h9) rfl (by decide +kernel) rfl rfl (Nat.le_of_ble_eq_true rfl) d_m1054_68 (fun H locs hP hD hS => ?_)
        have hP : va_P (dC, dI) vwCl (w_M_sendRun cI cB cS cT a_mo a_mo_lengths a_mo_codes a_mo_out a_mo_times a_mo_runBits a_mo_h a_mo_v a_mo_across a_mo_down a_mo_ownAcross a_mo_ownDown a_mo_base a_mo_coefficients a_mo_before0 a_mo_draftCounts a_mo_draft a_mo_words a_mo_directOf a_mo_otherOf a_mo_data a_mo_prediction a_mo_toCome a_mo_timesKept mo_thrown mo_width mo_height mo_many mo_unitsAcross mo_unitsDown mo_drafts mo_mask mo_first mo_last mo_before mo_bits mo_interval mo_size z5.1 z5.2.1 z5.2.2.1 z5.2.2.2.1 mo_counting (0 : Int32) (0 : Int32) mo_comes mo_at mo_taken mo_left mo_fault mo_lengths mo_codes z5.2.2.2.2 z2.2.2.2.2.2 mo_runBits) H := hP
        have hD : va_D A (w_M_sendRun cI cB cS cT a_mo a_mo_lengths a_mo_codes a_mo_out a_mo_times a_mo_runBits a_mo_h a_mo_v a_mo_across a_mo_down a_mo_ownAcross a_mo_ownDown a_mo_base a_mo_coefficients a_mo_before0 a_mo_draftCounts a_mo_draft a_mo_words a_mo_directOf a_mo_otherOf a_mo_data a_mo_prediction a_mo_toCome a_mo_timesKept mo_thrown mo_width mo_height mo_many mo_unitsAcross mo_unitsDown mo_drafts mo_mask mo_first mo_last mo_before mo_bits mo_interval mo_size z5.1 z5.2.1 z5.2.2.1 z5.2.2.2.1 mo_counting (0 : Int32) (0 : Int32) mo_comes mo_at mo_taken mo_left mo_fault mo_lengths mo_codes z5.2.2.2.2 z2.2.2.2.2.2 mo_runBits) := hD
        obtain rfl := Option.some.inj hf
        subst hQ
        subst hAe
        exact W.vret hx hb hr (fun t ht hW => ⟨⟨(), rfl, trivial, by rw [ht]; exact hP, hD⟩, hS.F ht⟩) hS.2.2 d_m1054_71
  exact hgo _ _ hP hS
def f_M_sendComing_L2b (mo_comes : Int32) (mo_toCome : Nat → Int32) (mo_counting : Int32) (N : Nat) (rec : (Int32 × Int32 × Int32 × Int32 × Int32 × (Nat → Int32)) → Option (Int32 × Int32 × Int32 × Int32 × (Nat → Int32))) (v1_2 : Int32) (mo_outs_2 : Int32) (mo_part_2 : Int32) (mo_parted_2 : Int32) (mo_failed_2 : Int32) (mo_out_2 : Nat → Int32) : Option (Int32 × Int32 × Int32 × Int32 × (Nat → Int32)) :=
  if mo_comes ≤ v1_2 then
    some (mo_outs_2, mo_part_2, mo_parted_2, mo_failed_2, mo_out_2)
  else
    if v1_2 < 0 ∨ 70 ≤ v1_2.toNatClampNeg then none else
    (f_M_bit (mo_toCome v1_2.toNatClampNeg) mo_outs_2 mo_part_2 mo_parted_2 mo_failed_2 mo_counting mo_out_2).bind fun z1 =>
    rec (v1_2 + (1 : Int32), z1.1, z1.2.1, z1.2.2.1, z1.2.2.2.1, z1.2.2.2.2)
def f_M_sendComing_L2 (mo_comes : Int32) (mo_toCome : Nat → Int32) (mo_counting : Int32) (N : Nat) (k : Nat) : (Int32 × Int32 × Int32 × Int32 × Int32 × (Nat → Int32)) → Option (Int32 × Int32 × Int32 × Int32 × (Nat → Int32)) := it (fun rec a => f_M_sendComing_L2b mo_comes mo_toCome mo_counting N rec a.1 a.2.1 a.2.2.1 a.2.2.2.1 a.2.2.2.2.1 a.2.2.2.2.2) k
def f_M_sendComing (N : Nat) (mo_outs : Int32) (mo_part : Int32) (mo_parted : Int32) (mo_failed : Int32) (mo_counting : Int32) (mo_comes : Int32) (mo_out : Nat → Int32) (mo_toCome : Nat → Int32) : Option (Int32 × Int32 × Int32 × Int32 × Int32 × (Nat → Int32)) :=
  (f_M_sendComing_L2 mo_comes mo_toCome mo_counting N N ((0 : Int32), mo_outs, mo_part, mo_parted, mo_failed, mo_out)).bind fun z2 =>
    some (z2.1, z2.2.1, z2.2.2.1, z2.2.2.2.1, (0 : Int32), z2.2.2.2.2)
abbrev w_M_sendComing (cI cB cS cT : ClassId) (a_mo : Nat) (a_mo_out : Nat) (a_mo_toCome : Nat) (a_mo_h : Nat) (a_mo_v : Nat) (a_mo_across : Nat) (a_mo_down : Nat) (a_mo_ownAcross : Nat) (a_mo_ownDown : Nat) (a_mo_base : Nat) (a_mo_coefficients : Nat) (a_mo_before0 : Nat) (a_mo_draftCounts : Nat) (a_mo_draft : Nat) (a_mo_words : Nat) (a_mo_lengths : Nat) (a_mo_codes : Nat) (a_mo_directOf : Nat) (a_mo_otherOf : Nat) (a_mo_data : Nat) (a_mo_times : Nat) (a_mo_prediction : Nat) (a_mo_runBits : Nat) (a_mo_timesKept : Nat) (mo_thrown : Int32) (mo_width : Int32) (mo_height : Int32) (mo_many : Int32) (mo_unitsAcross : Int32) (mo_unitsDown : Int32) (mo_drafts : Int32) (mo_mask : Int32) (mo_first : Int32) (mo_last : Int32) (mo_before : Int32) (mo_bits : Int32) (mo_interval : Int32) (mo_size : Int32) (mo_outs : Int32) (mo_part : Int32) (mo_parted : Int32) (mo_failed : Int32) (mo_counting : Int32) (mo_run : Int32) (mo_runMany : Int32) (mo_comes : Int32) (mo_at : Int32) (mo_taken : Int32) (mo_left : Int32) (mo_fault : Int32) (mo_out : Nat → Int32) (mo_toCome : Nat → Int32) : va_W := [(a_mo, .inr (11, [.int mo_thrown, .int mo_width, .int mo_height, .int mo_many, .ref a_mo_h, .ref a_mo_v, .ref a_mo_across, .ref a_mo_down, .ref a_mo_ownAcross, .ref a_mo_ownDown, .ref a_mo_base, .int mo_unitsAcross, .int mo_unitsDown, .ref a_mo_coefficients, .ref a_mo_before0, .ref a_mo_draftCounts, .ref a_mo_draft, .int mo_drafts, .ref a_mo_words, .ref a_mo_lengths, .ref a_mo_codes, .ref a_mo_directOf, .ref a_mo_otherOf, .int mo_mask, .int mo_first, .int mo_last, .int mo_before, .int mo_bits, .int mo_interval, .ref a_mo_data, .int mo_size, .ref a_mo_out, .int mo_outs, .int mo_part, .int mo_parted, .int mo_failed, .int mo_counting, .ref a_mo_times, .ref a_mo_prediction, .int mo_run, .ref a_mo_runBits, .int mo_runMany, .ref a_mo_toCome, .int mo_comes, .int mo_at, .int mo_taken, .int mo_left, .int mo_fault, .ref a_mo_timesKept])), (a_mo_out, .inl (cB, 16384, .inl mo_out)), (a_mo_toCome, .inl (cB, 70, .inl mo_toCome))]
def rm_M_sendComing : Room := { frames := 2, cells := 0, slots := 0, locals := 42 }
set_option maxHeartbeats 1000000 in
set_option maxRecDepth 100000 in
theorem c_M_sendComing (l : Launch) (dC : Nat → ClassId) (dI : Nat → Nat → Nat) (cI cB cS cT : ClassId) (N : Nat) (a_mo : Nat) (a_mo_out : Nat) (a_mo_toCome : Nat) (a_mo_h : Nat) (a_mo_v : Nat) (a_mo_across : Nat) (a_mo_down : Nat) (a_mo_ownAcross : Nat) (a_mo_ownDown : Nat) (a_mo_base : Nat) (a_mo_coefficients : Nat) (a_mo_before0 : Nat) (a_mo_draftCounts : Nat) (a_mo_draft : Nat) (a_mo_words : Nat) (a_mo_lengths : Nat) (a_mo_codes : Nat) (a_mo_directOf : Nat) (a_mo_otherOf : Nat) (a_mo_data : Nat) (a_mo_times : Nat) (a_mo_prediction : Nat) (a_mo_runBits : Nat) (a_mo_timesKept : Nat) (mo_thrown : Int32) (mo_width : Int32) (mo_height : Int32) (mo_many : Int32) (mo_unitsAcross : Int32) (mo_unitsDown : Int32) (mo_drafts : Int32) (mo_mask : Int32) (mo_first : Int32) (mo_last : Int32) (mo_before : Int32) (mo_bits : Int32) (mo_interval : Int32) (mo_size : Int32) (mo_outs : Int32) (mo_part : Int32) (mo_parted : Int32) (mo_failed : Int32) (mo_counting : Int32) (mo_run : Int32) (mo_runMany : Int32) (mo_comes : Int32) (mo_at : Int32) (mo_taken : Int32) (mo_left : Int32) (mo_fault : Int32) (mo_out : Nat → Int32) (mo_toCome : Nat → Int32) (sz : Nat) (z : Int32 × Int32 × Int32 × Int32 × Int32 × (Nat → Int32)) (hf : f_M_sendComing N mo_outs mo_part mo_parted mo_failed mo_counting mo_comes mo_out mo_toCome = some z) : Met l y_m1116 ws_m1116 rm_M_sendComing (gPre (dC, dI) [.ref a_mo] (gT cI cB cS cT) (w_M_sendComing cI cB cS cT a_mo a_mo_out a_mo_toCome a_mo_h a_mo_v a_mo_across a_mo_down a_mo_ownAcross a_mo_ownDown a_mo_base a_mo_coefficients a_mo_before0 a_mo_draftCounts a_mo_draft a_mo_words a_mo_lengths a_mo_codes a_mo_directOf a_mo_otherOf a_mo_data a_mo_times a_mo_prediction a_mo_runBits a_mo_timesKept mo_thrown mo_width mo_height mo_many mo_unitsAcross mo_unitsDown mo_drafts mo_mask mo_first mo_last mo_before mo_bits mo_interval mo_size mo_outs mo_part mo_parted mo_failed mo_counting mo_run mo_runMany mo_comes mo_at mo_taken mo_left mo_fault mo_out mo_toCome) sz) (gQv (dC, dI) (gT cI cB cS cT) (w_M_sendComing cI cB cS cT a_mo a_mo_out a_mo_toCome a_mo_h a_mo_v a_mo_across a_mo_down a_mo_ownAcross a_mo_ownDown a_mo_base a_mo_coefficients a_mo_before0 a_mo_draftCounts a_mo_draft a_mo_words a_mo_lengths a_mo_codes a_mo_directOf a_mo_otherOf a_mo_data a_mo_times a_mo_prediction a_mo_runBits a_mo_timesKept mo_thrown mo_width mo_height mo_many mo_unitsAcross mo_unitsDown mo_drafts mo_mask mo_first mo_last mo_before mo_bits mo_interval mo_size mo_outs mo_part mo_parted mo_failed mo_counting mo_run mo_runMany mo_comes mo_at mo_taken mo_left mo_fault mo_out mo_toCome) (w_M_sendComing cI cB cS cT a_mo a_mo_out a_mo_toCome a_mo_h a_mo_v a_mo_across a_mo_down a_mo_ownAcross a_mo_ownDown a_mo_base a_mo_coefficients a_mo_before0 a_mo_draftCounts a_mo_draft a_mo_words a_mo_lengths a_mo_codes a_mo_directOf a_mo_otherOf a_mo_data a_mo_times a_mo_prediction a_mo_runBits a_mo_timesKept mo_thrown mo_width mo_height mo_many mo_unitsAcross mo_unitsDown mo_drafts mo_mask mo_first mo_last mo_before mo_bits mo_interval mo_size z.1 z.2.1 z.2.2.1 z.2.2.2.1 mo_counting mo_run mo_runMany z.2.2.2.2.1 mo_at mo_taken mo_left mo_fault z.2.2.2.2.2 mo_toCome) sz) 0 0 (va_A (w_M_sendComing cI cB cS cT a_mo a_mo_out a_mo_toCome a_mo_h a_mo_v a_mo_across a_mo_down a_mo_ownAcross a_mo_ownDown a_mo_base a_mo_coefficients a_mo_before0 a_mo_draftCounts a_mo_draft a_mo_words a_mo_lengths a_mo_codes a_mo_directOf a_mo_otherOf a_mo_data a_mo_times a_mo_prediction a_mo_runBits a_mo_timesKept mo_thrown mo_width mo_height mo_many mo_unitsAcross mo_unitsDown mo_drafts mo_mask mo_first mo_last mo_before mo_bits mo_interval mo_size mo_outs mo_part mo_parted mo_failed mo_counting mo_run mo_runMany mo_comes mo_at mo_taken mo_left mo_fault mo_out mo_toCome) sz) := by
  refine Met.ofW (cc := prog_14_method_28_code) (maxL := 2) (ret := none) (by decide) rfl ?_
  intro p e s m args below meth c s₁ B hml hv
  obtain ⟨hargs, hsz, hP, hKN, hD0⟩ := hv
  have hK := hKN.1
  have hx := B.exec
  have hb := B.bytes
  have hr := B.returns
  have hts := atoms_spec (ws := ws_m1116) B.pre
  have hown : s.vm.findClass "ScanCoderModel" = some m.cls := findClass_of_methodNamed B.named
  have hlocks := B.notSynchronized
  have k0 := hts _ (List.mem_cons_of_mem _ tw_877)
  have k1 := hts _ (List.mem_cons_of_mem _ tw_876)
  have n0 : ∀ w ∈ u_ws "ScanCoderModel" T_11 49, w ∈ ws_m1116 := fun w h => List.mem_cons_of_mem _ (in_11 w h)
  subst hsz
  have hD := hD0.self (sz := s.heap.size)
  obtain ⟨A, hAe⟩ : ∃ A : Nat → Prop, va_A (w_M_sendComing cI cB cS cT a_mo a_mo_out a_mo_toCome a_mo_h a_mo_v a_mo_across a_mo_down a_mo_ownAcross a_mo_ownDown a_mo_base a_mo_coefficients a_mo_before0 a_mo_draftCounts a_mo_draft a_mo_words a_mo_lengths a_mo_codes a_mo_directOf a_mo_otherOf a_mo_data a_mo_times a_mo_prediction a_mo_runBits a_mo_timesKept mo_thrown mo_width mo_height mo_many mo_unitsAcross mo_unitsDown mo_drafts mo_mask mo_first mo_last mo_before mo_bits mo_interval mo_size mo_outs mo_part mo_parted mo_failed mo_counting mo_run mo_runMany mo_comes mo_at mo_taken mo_left mo_fault mo_out mo_toCome) s.heap.size = A := ⟨_, rfl⟩
  rw [hAe] at hD
  have hA : ∀ q : Nat, s.heap.size ≤ q → A q := fun q h => by rw [← hAe]; exact Or.inr h
  have hS : va_S A s.heap s.heap [] := va_S.rf
  have hl := lv_entry ([.ref a_mo]) (n := 2) (Nat.le_of_ble_eq_true rfl)
  have hfr : entryFrame m args 2 = F0 m 0 ((lg_sl ([.ref a_mo]) ++ List.replicate (2 - (lg_sl ([.ref a_mo])).length) Slot.unset).toArray) [] := by rw [hargs]; exact lg_entry_eq _ _ _
  rw [hfr]
  generalize (lg_sl ([.ref a_mo]) ++ List.replicate (2 - (lg_sl ([.ref a_mo])).length) Slot.unset).toArray = ls at hl ⊢
  have hl : lv_has ls 2 [(0, .ref a_mo)] := hl
  refine gen_Q (fun Q hQ => ?_)
  clear hfr
  have L2 : ∀  (z : Int32 × Int32 × Int32 × Int32 × (Nat → Int32)), (GW (dC, dI) A p l e (headSpec ws_m1116 rm_M_sendComing).room s m args below meth c 0 0 Q 2 26 (w_M_sendComing cI cB cS cT a_mo a_mo_out a_mo_toCome a_mo_h a_mo_v a_mo_across a_mo_down a_mo_ownAcross a_mo_ownDown a_mo_base a_mo_coefficients a_mo_before0 a_mo_draftCounts a_mo_draft a_mo_words a_mo_lengths a_mo_codes a_mo_directOf a_mo_otherOf a_mo_data a_mo_times a_mo_prediction a_mo_runBits a_mo_timesKept mo_thrown mo_width mo_height mo_many mo_unitsAcross mo_unitsDown mo_drafts mo_mask mo_first mo_last mo_before mo_bits mo_interval mo_size z.1 z.2.1 z.2.2.1 z.2.2.2.1 mo_counting mo_run mo_runMany mo_comes mo_at mo_taken mo_left mo_fault z.2.2.2.2 mo_toCome) [(0, .ref a_mo)] []) → ∀ (k : Nat) (v1_2 : Int32) (mo_outs_2 : Int32) (mo_part_2 : Int32) (mo_parted_2 : Int32) (mo_failed_2 : Int32) (mo_out_2 : Nat → Int32), f_M_sendComing_L2 mo_comes mo_toCome mo_counting N k (v1_2, mo_outs_2, mo_part_2, mo_parted_2, mo_failed_2, mo_out_2) = some z → GW (dC, dI) A p l e (headSpec ws_m1116 rm_M_sendComing).room s m args below meth c 0 0 Q 2 2 (w_M_sendComing cI cB cS cT a_mo a_mo_out a_mo_toCome a_mo_h a_mo_v a_mo_across a_mo_down a_mo_ownAcross a_mo_ownDown a_mo_base a_mo_coefficients a_mo_before0 a_mo_draftCounts a_mo_draft a_mo_words a_mo_lengths a_mo_codes a_mo_directOf a_mo_otherOf a_mo_data a_mo_times a_mo_prediction a_mo_runBits a_mo_timesKept mo_thrown mo_width mo_height mo_many mo_unitsAcross mo_unitsDown mo_drafts mo_mask mo_first mo_last mo_before mo_bits mo_interval mo_size mo_outs_2 mo_part_2 mo_parted_2 mo_failed_2 mo_counting mo_run mo_runMany mo_comes mo_at mo_taken mo_left mo_fault mo_out_2 mo_toCome) [(0, .ref a_mo), (1, .int v1_2)] [] := by
    intro  z hE0 k
    induction k with
    | zero =>
      intro v1_2 mo_outs_2 mo_part_2 mo_parted_2 mo_failed_2 mo_out_2 hf
      exact (it_zero hf).elim
    | succ k ih =>
      intro v1_2 mo_outs_2 mo_part_2 mo_parted_2 mo_failed_2 mo_out_2 hf H locs ls hP hD hS hl
      have hf : f_M_sendComing_L2b mo_comes mo_toCome mo_counting N (f_M_sendComing_L2 mo_comes mo_toCome mo_counting N k) v1_2 mo_outs_2 mo_part_2 mo_parted_2 mo_failed_2 mo_out_2 = some z := hf
      unfold f_M_sendComing_L2b at hf
      refine lv_iload_n hx hb d_m1116_2 rfl (lv_at hl 1 rfl) ?_
      refine lv_aload_n hx hb d_m1116_3 rfl (lv_at hl 0 rfl) ?_
      refine va_get (D := (dC, dI)) (ci := 11) (v := .int mo_comes) (C := "ScanCoderModel") (T := T_11) (N := 49) hx hb hts n0 hown hK hP 0 rfl rfl 43 (by decide) k0 (fun _ h9 => h9) rfl d_m1116_4 ?_
      refine lv_icmp_ge (tgt := 26) hx hb d_m1116_7 (by decide) (fun hc => ?_) (fun hc => ?_)
      · replace hf := (if_pos hc).symm.trans hf
        obtain rfl := Option.some.inj hf
        exact hE0  H locs ls hP hD hS (lv_sub hl [0] rfl)
      · replace hf := (if_neg hc).symm.trans hf
        refine lv_aload_n hx hb d_m1116_10 rfl (lv_at hl 0 rfl) ?_
        refine lv_aload_n hx hb d_m1116_11 rfl (lv_at hl 0 rfl) ?_
        refine va_get (D := (dC, dI)) (ci := 11) (v := .ref a_mo_toCome) (C := "ScanCoderModel") (T := T_11) (N := 49) hx hb hts n0 hown hK hP 0 rfl rfl 42 (by decide) k1 (fun _ h9 => h9) rfl d_m1116_12 ?_
        refine lv_iload_n hx hb d_m1116_15 rfl (lv_at hl 1 rfl) ?_
        obtain ⟨hi, hf⟩ := ob_if hf
        refine va_bald hx hb hK hP 2 1 rfl rfl hi d_m1116_16 ?_
        obtain ⟨z1, hz1, hf⟩ := ob_bind hf
        refine g_callv (wc := (w_M_bit cI cB cS cT a_mo a_mo_out a_mo_h a_mo_v a_mo_across a_mo_down a_mo_ownAcross a_mo_ownDown a_mo_base a_mo_coefficients a_mo_before0 a_mo_draftCounts a_mo_draft a_mo_words a_mo_lengths a_mo_codes a_mo_directOf a_mo_otherOf a_mo_data a_mo_times a_mo_prediction a_mo_runBits a_mo_toCome a_mo_timesKept mo_thrown mo_width mo_height mo_many mo_unitsAcross mo_unitsDown mo_drafts mo_mask mo_first mo_last mo_before mo_bits mo_interval mo_size mo_outs_2 mo_part_2 mo_parted_2 mo_failed_2 mo_counting mo_run mo_runMany mo_comes mo_at mo_taken mo_left mo_fault mo_out_2)) (w1 := (w_M_bit cI cB cS cT a_mo a_mo_out a_mo_h a_mo_v a_mo_across a_mo_down a_mo_ownAcross a_mo_ownDown a_mo_base a_mo_coefficients a_mo_before0 a_mo_draftCounts a_mo_draft a_mo_words a_mo_lengths a_mo_codes a_mo_directOf a_mo_otherOf a_mo_data a_mo_times a_mo_prediction a_mo_runBits a_mo_toCome a_mo_timesKept mo_thrown mo_width mo_height mo_many mo_unitsAcross mo_unitsDown mo_drafts mo_mask mo_first mo_last mo_before mo_bits mo_interval mo_size z1.1 z1.2.1 z1.2.2.1 z1.2.2.2.1 mo_counting mo_run mo_runMany mo_comes mo_at mo_taken mo_left mo_fault z1.2.2.2.2)) (w2 := (w_M_sendComing cI cB cS cT a_mo a_mo_out a_mo_toCome a_mo_h a_mo_v a_mo_across a_mo_down a_mo_ownAcross a_mo_ownDown a_mo_base a_mo_coefficients a_mo_before0 a_mo_draftCounts a_mo_draft a_mo_words a_mo_lengths a_mo_codes a_mo_directOf a_mo_otherOf a_mo_data a_mo_times a_mo_prediction a_mo_runBits a_mo_timesKept mo_thrown mo_width mo_height mo_many mo_unitsAcross mo_unitsDown mo_drafts mo_mask mo_first mo_last mo_before mo_bits mo_interval mo_size z1.1 z1.2.1 z1.2.2.1 z1.2.2.2.1 mo_counting mo_run mo_runMany mo_comes mo_at mo_taken mo_left mo_fault z1.2.2.2.2 mo_toCome)) [0, 1] [some 0, some 1, none] hP hD hS hA rfl rfl rfl rfl (va_runV (As := [.int (mo_toCome v1_2.toNatClampNeg)]) (rest := []) ⟨hx, hb, hml, hown, hts⟩ (c_M_bit l dC dI cI cB cS cT a_mo a_mo_out a_mo_h a_mo_v a_mo_across a_mo_down a_mo_ownAcross a_mo_ownDown a_mo_base a_mo_coefficients a_mo_before0 a_mo_draftCounts a_mo_draft a_mo_words a_mo_lengths a_mo_codes a_mo_directOf a_mo_otherOf a_mo_data a_mo_times a_mo_prediction a_mo_runBits a_mo_toCome a_mo_timesKept mo_thrown mo_width mo_height mo_many mo_unitsAcross mo_unitsDown mo_drafts mo_mask mo_first mo_last mo_before mo_bits mo_interval mo_size mo_outs_2 mo_part_2 mo_parted_2 mo_failed_2 mo_counting mo_run mo_runMany mo_comes mo_at mo_taken mo_left mo_fault mo_out_2 (mo_toCome v1_2.toNatClampNeg) H.size z1 hz1) ⟨(callB_of 1 hts (gi tw_1069 rfl) rfl rfl rfl (hts _ (List.mem_cons_of_mem _ tw_16)) (hts _ (List.mem_cons_of_mem _ tw_1066)) (by decide +kernel) ⟨Nat.le_of_ble_eq_true rfl, Nat.le_of_ble_eq_true rfl⟩), hts _ (List.mem_cons_of_mem _ tw_1068), hts _ (List.mem_cons_of_mem _ ts_m1069)⟩ ⟨g_blind, va_recv hK hP (ci := 11) (q0 := 0) rfl rfl, g_at hKN (g_pm hP [0, 1] rfl) (hD.sub [0, 1] (by decide) rfl)⟩ rfl rfl hl.1 rfl (lv_room (Nat.le_of_ble_eq_true rfl)) d_m1116_17 ⟨Nat.zero_le _, Nat.zero_le _⟩) (fun H locs hP hD hS => ?_)
        refine W.eq (g2 := F0 m 20 ls []) rfl ?_
        refine lv_iinc (v := v1_2 + (1 : Int32)) (lv' := [(1, .int (v1_2 + (1 : Int32))), (0, .ref a_mo)]) hx hb d_m1116_20 hl (k := 1) rfl rfl (by decide) rfl (fun ls hl => ?_)
        refine lv_goto (tgt := 2) hx hb d_m1116_23 (by decide) ?_
        exact ih (v1_2 + (1 : Int32)) z1.1 z1.2.1 z1.2.2.1 z1.2.2.2.1 z1.2.2.2.2 hf H locs ls hP hD hS (lv_sub hl [1, 0] rfl)
  have hgo : ∀ (H : Heap) (locs : List Loc), va_P (dC, dI) vwCl (w_M_sendComing cI cB cS cT a_mo a_mo_out a_mo_toCome a_mo_h a_mo_v a_mo_across a_mo_down a_mo_ownAcross a_mo_ownDown a_mo_base a_mo_coefficients a_mo_before0 a_mo_draftCounts a_mo_draft a_mo_words a_mo_lengths a_mo_codes a_mo_directOf a_mo_otherOf a_mo_data a_mo_times a_mo_prediction a_mo_runBits a_mo_timesKept mo_thrown mo_width mo_height mo_many mo_unitsAcross mo_unitsDown mo_drafts mo_mask mo_first mo_last mo_before mo_bits mo_interval mo_size mo_outs mo_part mo_parted mo_failed mo_counting mo_run mo_runMany mo_comes mo_at mo_taken mo_left mo_fault mo_out mo_toCome) H → va_S A s.heap H locs → W p l e (headSpec ws_m1116 rm_M_sendComing).room s m args below meth c H locs 0 0 Q (F0 m 0 ls []) := by
    intro H locs hP hS
    unfold f_M_sendComing at hf
    refine lv_iconst (v := (0 : Int32)) hx hb d_m1116_0 (by decide) ?_
    refine lv_istore_n (lv' := [(1, .int (0 : Int32)), (0, .ref a_mo)]) hx hb d_m1116_1 rfl hl (by decide) rfl (fun ls hl => ?_)
    obtain ⟨z2, hz2, hf⟩ := ob_bind hf
    refine L2  z2 ?_ N (0 : Int32) mo_outs mo_part mo_parted mo_failed mo_out hz2 H locs ls hP hD hS (lv_sub hl [1, 0] rfl)
    · intro H locs ls hP hD hS hl
      refine lv_aload_n hx hb d_m1116_26 rfl (lv_at hl 0 rfl) ?_
      refine lv_iconst (v := (0 : Int32)) hx hb d_m1116_27 (by decide) ?_
      refine va_put (D := (dC, dI)) (ci := 11) (v := .int (0 : Int32)) (ty := .int) (C := "ScanCoderModel") (T := T_11) (N := 49) hx hb hts n0 ty_11 tyok_11 nm_11 hown hK hP hD hS 0 rfl rfl 43 (by decide) k0 (fun _ h9 => h9) rfl (by decide +kernel) rfl rfl (Nat.le_of_ble_eq_true rfl) d_m1116_28 (fun H locs hP hD hS => ?_)
      have hP : va_P (dC, dI) vwCl (w_M_sendComing cI cB cS cT a_mo a_mo_out a_mo_toCome a_mo_h a_mo_v a_mo_across a_mo_down a_mo_ownAcross a_mo_ownDown a_mo_base a_mo_coefficients a_mo_before0 a_mo_draftCounts a_mo_draft a_mo_words a_mo_lengths a_mo_codes a_mo_directOf a_mo_otherOf a_mo_data a_mo_times a_mo_prediction a_mo_runBits a_mo_timesKept mo_thrown mo_width mo_height mo_many mo_unitsAcross mo_unitsDown mo_drafts mo_mask mo_first mo_last mo_before mo_bits mo_interval mo_size z2.1 z2.2.1 z2.2.2.1 z2.2.2.2.1 mo_counting mo_run mo_runMany (0 : Int32) mo_at mo_taken mo_left mo_fault z2.2.2.2.2 mo_toCome) H := hP
      have hD : va_D A (w_M_sendComing cI cB cS cT a_mo a_mo_out a_mo_toCome a_mo_h a_mo_v a_mo_across a_mo_down a_mo_ownAcross a_mo_ownDown a_mo_base a_mo_coefficients a_mo_before0 a_mo_draftCounts a_mo_draft a_mo_words a_mo_lengths a_mo_codes a_mo_directOf a_mo_otherOf a_mo_data a_mo_times a_mo_prediction a_mo_runBits a_mo_timesKept mo_thrown mo_width mo_height mo_many mo_unitsAcross mo_unitsDown mo_drafts mo_mask mo_first mo_last mo_before mo_bits mo_interval mo_size z2.1 z2.2.1 z2.2.2.1 z2.2.2.2.1 mo_counting mo_run mo_runMany (0 : Int32) mo_at mo_taken mo_left mo_fault z2.2.2.2.2 mo_toCome) := hD
      obtain rfl := Option.some.inj hf
      subst hQ
      subst hAe
      exact W.vret hx hb hr (fun t ht hW => ⟨⟨(), rfl, trivial, by rw [ht]; exact hP, hD⟩, hS.F ht⟩) hS.2.2 d_m1116_31
  exact hgo _ _ hP hS

def f_M_writeDirect (N : Nat) (p0 : Int32) (p1 : Int32) (mo_before : Int32) (mo_bits : Int32) (mo_outs : Int32) (mo_part : Int32) (mo_parted : Int32) (mo_failed : Int32) (mo_counting : Int32) (mo_base : Nat → Int32) (mo_coefficients : Nat → Int32) (mo_lengths : Nat → Int32) (mo_codes : Nat → Int32) (mo_directOf : Nat → Int32) (mo_out : Nat → Int32) (mo_times : Nat → Int32) (mo_prediction : Nat → Int32) : Option (Int32 × Int32 × Int32 × Int32 × (Nat → Int32) × (Nat → Int32) × (Nat → Int32)) :=
  if p0 < 0 ∨ 4 ≤ p0.toNatClampNeg then none else
  if mo_before ≤ 0 then
    if ((64 : Int32) * ((mo_base p0.toNatClampNeg) + p1)) < 0 ∨ 12288 ≤ ((64 : Int32) * ((mo_base p0.toNatClampNeg) + p1)).toNatClampNeg then none else
    if p0 < 0 ∨ 4 ≤ p0.toNatClampNeg then none else
    if p0 < 0 ∨ 4 ≤ p0.toNatClampNeg then none else
    if p0 < 0 ∨ 4 ≤ p0.toNatClampNeg then none else
    (f_M_sizeOf N (((mo_coefficients ((64 : Int32) * ((mo_base p0.toNatClampNeg) + p1)).toNatClampNeg) >>> (mo_bits &&& 31)) - (mo_prediction p0.toNatClampNeg))).bind fun z1 =>
    (f_M_word N (mo_directOf p0.toNatClampNeg) z1 mo_outs mo_part mo_parted mo_failed mo_counting mo_lengths mo_codes mo_out mo_times).bind fun z2 =>
    (f_M_number N (((mo_coefficients ((64 : Int32) * ((mo_base p0.toNatClampNeg) + p1)).toNatClampNeg) >>> (mo_bits &&& 31)) - (mo_prediction p0.toNatClampNeg)) z2.1 z2.2.1 z2.2.2.1 z2.2.2.2.1 mo_counting z2.2.2.2.2.1).bind fun z3 =>
    some (z3.1, z3.2.1, z3.2.2.1, z3.2.2.2.1, z3.2.2.2.2, z2.2.2.2.2.2, upd mo_prediction p0.toNatClampNeg ((mo_coefficients ((64 : Int32) * ((mo_base p0.toNatClampNeg) + p1)).toNatClampNeg) >>> (mo_bits &&& 31)))
  else
    if ((64 : Int32) * ((mo_base p0.toNatClampNeg) + p1)) < 0 ∨ 12288 ≤ ((64 : Int32) * ((mo_base p0.toNatClampNeg) + p1)).toNatClampNeg then none else
    (f_M_bit (((mo_coefficients ((64 : Int32) * ((mo_base p0.toNatClampNeg) + p1)).toNatClampNeg) >>> (mo_bits &&& 31)) &&& (1 : Int32)) mo_outs mo_part mo_parted mo_failed mo_counting mo_out).bind fun z4 =>
    some (z4.1, z4.2.1, z4.2.2.1, z4.2.2.2.1, z4.2.2.2.2, mo_times, mo_prediction)
abbrev w_M_writeDirect (cI cB cS cT : ClassId) (a_mo : Nat) (a_mo_base : Nat) (a_mo_coefficients : Nat) (a_mo_lengths : Nat) (a_mo_codes : Nat) (a_mo_directOf : Nat) (a_mo_out : Nat) (a_mo_times : Nat) (a_mo_prediction : Nat) (a_mo_h : Nat) (a_mo_v : Nat) (a_mo_across : Nat) (a_mo_down : Nat) (a_mo_ownAcross : Nat) (a_mo_ownDown : Nat) (a_mo_before0 : Nat) (a_mo_draftCounts : Nat) (a_mo_draft : Nat) (a_mo_words : Nat) (a_mo_otherOf : Nat) (a_mo_data : Nat) (a_mo_runBits : Nat) (a_mo_toCome : Nat) (a_mo_timesKept : Nat) (mo_thrown : Int32) (mo_width : Int32) (mo_height : Int32) (mo_many : Int32) (mo_unitsAcross : Int32) (mo_unitsDown : Int32) (mo_drafts : Int32) (mo_mask : Int32) (mo_first : Int32) (mo_last : Int32) (mo_before : Int32) (mo_bits : Int32) (mo_interval : Int32) (mo_size : Int32) (mo_outs : Int32) (mo_part : Int32) (mo_parted : Int32) (mo_failed : Int32) (mo_counting : Int32) (mo_run : Int32) (mo_runMany : Int32) (mo_comes : Int32) (mo_at : Int32) (mo_taken : Int32) (mo_left : Int32) (mo_fault : Int32) (mo_base : Nat → Int32) (mo_coefficients : Nat → Int32) (mo_lengths : Nat → Int32) (mo_codes : Nat → Int32) (mo_directOf : Nat → Int32) (mo_out : Nat → Int32) (mo_times : Nat → Int32) (mo_prediction : Nat → Int32) : va_W := [(a_mo, .inr (11, [.int mo_thrown, .int mo_width, .int mo_height, .int mo_many, .ref a_mo_h, .ref a_mo_v, .ref a_mo_across, .ref a_mo_down, .ref a_mo_ownAcross, .ref a_mo_ownDown, .ref a_mo_base, .int mo_unitsAcross, .int mo_unitsDown, .ref a_mo_coefficients, .ref a_mo_before0, .ref a_mo_draftCounts, .ref a_mo_draft, .int mo_drafts, .ref a_mo_words, .ref a_mo_lengths, .ref a_mo_codes, .ref a_mo_directOf, .ref a_mo_otherOf, .int mo_mask, .int mo_first, .int mo_last, .int mo_before, .int mo_bits, .int mo_interval, .ref a_mo_data, .int mo_size, .ref a_mo_out, .int mo_outs, .int mo_part, .int mo_parted, .int mo_failed, .int mo_counting, .ref a_mo_times, .ref a_mo_prediction, .int mo_run, .ref a_mo_runBits, .int mo_runMany, .ref a_mo_toCome, .int mo_comes, .int mo_at, .int mo_taken, .int mo_left, .int mo_fault, .ref a_mo_timesKept])), (a_mo_base, .inl (cI, 4, .inl mo_base)), (a_mo_coefficients, .inl (cS, 12288, .inl mo_coefficients)), (a_mo_lengths, .inl (cI, 2048, .inl mo_lengths)), (a_mo_codes, .inl (cI, 2048, .inl mo_codes)), (a_mo_directOf, .inl (cI, 4, .inl mo_directOf)), (a_mo_out, .inl (cB, 16384, .inl mo_out)), (a_mo_times, .inl (cI, 2048, .inl mo_times)), (a_mo_prediction, .inl (cI, 4, .inl mo_prediction))]
def rm_M_writeDirect : Room := { frames := 4, cells := 0, slots := 0, locals := 88 }
set_option maxHeartbeats 1000000 in
set_option maxRecDepth 100000 in
theorem c_M_writeDirect (l : Launch) (dC : Nat → ClassId) (dI : Nat → Nat → Nat) (cI cB cS cT : ClassId) (N : Nat) (a_mo : Nat) (a_mo_base : Nat) (a_mo_coefficients : Nat) (a_mo_lengths : Nat) (a_mo_codes : Nat) (a_mo_directOf : Nat) (a_mo_out : Nat) (a_mo_times : Nat) (a_mo_prediction : Nat) (a_mo_h : Nat) (a_mo_v : Nat) (a_mo_across : Nat) (a_mo_down : Nat) (a_mo_ownAcross : Nat) (a_mo_ownDown : Nat) (a_mo_before0 : Nat) (a_mo_draftCounts : Nat) (a_mo_draft : Nat) (a_mo_words : Nat) (a_mo_otherOf : Nat) (a_mo_data : Nat) (a_mo_runBits : Nat) (a_mo_toCome : Nat) (a_mo_timesKept : Nat) (mo_thrown : Int32) (mo_width : Int32) (mo_height : Int32) (mo_many : Int32) (mo_unitsAcross : Int32) (mo_unitsDown : Int32) (mo_drafts : Int32) (mo_mask : Int32) (mo_first : Int32) (mo_last : Int32) (mo_before : Int32) (mo_bits : Int32) (mo_interval : Int32) (mo_size : Int32) (mo_outs : Int32) (mo_part : Int32) (mo_parted : Int32) (mo_failed : Int32) (mo_counting : Int32) (mo_run : Int32) (mo_runMany : Int32) (mo_comes : Int32) (mo_at : Int32) (mo_taken : Int32) (mo_left : Int32) (mo_fault : Int32) (mo_base : Nat → Int32) (mo_coefficients : Nat → Int32) (mo_lengths : Nat → Int32) (mo_codes : Nat → Int32) (mo_directOf : Nat → Int32) (mo_out : Nat → Int32) (mo_times : Nat → Int32) (mo_prediction : Nat → Int32) (p0 : Int32) (p1 : Int32) (sz : Nat) (z : Int32 × Int32 × Int32 × Int32 × (Nat → Int32) × (Nat → Int32) × (Nat → Int32)) (hf : f_M_writeDirect N p0 p1 mo_before mo_bits mo_outs mo_part mo_parted mo_failed mo_counting mo_base mo_coefficients mo_lengths mo_codes mo_directOf mo_out mo_times mo_prediction = some z) : Met l y_m1093 ws_m1093 rm_M_writeDirect (gPre (dC, dI) [.ref a_mo, .int p0, .int p1] (gT cI cB cS cT) (w_M_writeDirect cI cB cS cT a_mo a_mo_base a_mo_coefficients a_mo_lengths a_mo_codes a_mo_directOf a_mo_out a_mo_times a_mo_prediction a_mo_h a_mo_v a_mo_across a_mo_down a_mo_ownAcross a_mo_ownDown a_mo_before0 a_mo_draftCounts a_mo_draft a_mo_words a_mo_otherOf a_mo_data a_mo_runBits a_mo_toCome a_mo_timesKept mo_thrown mo_width mo_height mo_many mo_unitsAcross mo_unitsDown mo_drafts mo_mask mo_first mo_last mo_before mo_bits mo_interval mo_size mo_outs mo_part mo_parted mo_failed mo_counting mo_run mo_runMany mo_comes mo_at mo_taken mo_left mo_fault mo_base mo_coefficients mo_lengths mo_codes mo_directOf mo_out mo_times mo_prediction) sz) (gQv (dC, dI) (gT cI cB cS cT) (w_M_writeDirect cI cB cS cT a_mo a_mo_base a_mo_coefficients a_mo_lengths a_mo_codes a_mo_directOf a_mo_out a_mo_times a_mo_prediction a_mo_h a_mo_v a_mo_across a_mo_down a_mo_ownAcross a_mo_ownDown a_mo_before0 a_mo_draftCounts a_mo_draft a_mo_words a_mo_otherOf a_mo_data a_mo_runBits a_mo_toCome a_mo_timesKept mo_thrown mo_width mo_height mo_many mo_unitsAcross mo_unitsDown mo_drafts mo_mask mo_first mo_last mo_before mo_bits mo_interval mo_size mo_outs mo_part mo_parted mo_failed mo_counting mo_run mo_runMany mo_comes mo_at mo_taken mo_left mo_fault mo_base mo_coefficients mo_lengths mo_codes mo_directOf mo_out mo_times mo_prediction) (w_M_writeDirect cI cB cS cT a_mo a_mo_base a_mo_coefficients a_mo_lengths a_mo_codes a_mo_directOf a_mo_out a_mo_times a_mo_prediction a_mo_h a_mo_v a_mo_across a_mo_down a_mo_ownAcross a_mo_ownDown a_mo_before0 a_mo_draftCounts a_mo_draft a_mo_words a_mo_otherOf a_mo_data a_mo_runBits a_mo_toCome a_mo_timesKept mo_thrown mo_width mo_height mo_many mo_unitsAcross mo_unitsDown mo_drafts mo_mask mo_first mo_last mo_before mo_bits mo_interval mo_size z.1 z.2.1 z.2.2.1 z.2.2.2.1 mo_counting mo_run mo_runMany mo_comes mo_at mo_taken mo_left mo_fault mo_base mo_coefficients mo_lengths mo_codes mo_directOf z.2.2.2.2.1 z.2.2.2.2.2.1 z.2.2.2.2.2.2) sz) 0 0 (va_A (w_M_writeDirect cI cB cS cT a_mo a_mo_base a_mo_coefficients a_mo_lengths a_mo_codes a_mo_directOf a_mo_out a_mo_times a_mo_prediction a_mo_h a_mo_v a_mo_across a_mo_down a_mo_ownAcross a_mo_ownDown a_mo_before0 a_mo_draftCounts a_mo_draft a_mo_words a_mo_otherOf a_mo_data a_mo_runBits a_mo_toCome a_mo_timesKept mo_thrown mo_width mo_height mo_many mo_unitsAcross mo_unitsDown mo_drafts mo_mask mo_first mo_last mo_before mo_bits mo_interval mo_size mo_outs mo_part mo_parted mo_failed mo_counting mo_run mo_runMany mo_comes mo_at mo_taken mo_left mo_fault mo_base mo_coefficients mo_lengths mo_codes mo_directOf mo_out mo_times mo_prediction) sz) := by
  refine Met.ofW (cc := prog_14_method_29_code) (maxL := 6) (ret := none) (by decide) rfl ?_
  intro p e s m args below meth c s₁ B hml hv
  obtain ⟨hargs, hsz, hP, hKN, hD0⟩ := hv
  have hK := hKN.1
  have hx := B.exec
  have hb := B.bytes
  have hr := B.returns
  have hts := atoms_spec (ws := ws_m1093) B.pre
  have hown : s.vm.findClass "ScanCoderModel" = some m.cls := findClass_of_methodNamed B.named
  have hlocks := B.notSynchronized
  have k0 := hts _ (List.mem_cons_of_mem _ tw_844)
  have k1 := hts _ (List.mem_cons_of_mem _ tw_860)
  have k2 := hts _ (List.mem_cons_of_mem _ tw_847)
  have k3 := hts _ (List.mem_cons_of_mem _ tw_861)
  have k4 := hts _ (List.mem_cons_of_mem _ tw_872)
  have k5 := hts _ (List.mem_cons_of_mem _ tw_855)
  have n0 : ∀ w ∈ u_ws "ScanCoderModel" T_11 49, w ∈ ws_m1093 := fun w h => List.mem_cons_of_mem _ (in_11 w h)
  subst hsz
  have hD := hD0.self (sz := s.heap.size)
  obtain ⟨A, hAe⟩ : ∃ A : Nat → Prop, va_A (w_M_writeDirect cI cB cS cT a_mo a_mo_base a_mo_coefficients a_mo_lengths a_mo_codes a_mo_directOf a_mo_out a_mo_times a_mo_prediction a_mo_h a_mo_v a_mo_across a_mo_down a_mo_ownAcross a_mo_ownDown a_mo_before0 a_mo_draftCounts a_mo_draft a_mo_words a_mo_otherOf a_mo_data a_mo_runBits a_mo_toCome a_mo_timesKept mo_thrown mo_width mo_height mo_many mo_unitsAcross mo_unitsDown mo_drafts mo_mask mo_first mo_last mo_before mo_bits mo_interval mo_size mo_outs mo_part mo_parted mo_failed mo_counting mo_run mo_runMany mo_comes mo_at mo_taken mo_left mo_fault mo_base mo_coefficients mo_lengths mo_codes mo_directOf mo_out mo_times mo_prediction) s.heap.size = A := ⟨_, rfl⟩
  rw [hAe] at hD
  have hA : ∀ q : Nat, s.heap.size ≤ q → A q := fun q h => by rw [← hAe]; exact Or.inr h
  have hS : va_S A s.heap s.heap [] := va_S.rf
  have hl := lv_entry ([.ref a_mo, .int p0, .int p1]) (n := 6) (Nat.le_of_ble_eq_true rfl)
  have hfr : entryFrame m args 6 = F0 m 0 ((lg_sl ([.ref a_mo, .int p0, .int p1]) ++ List.replicate (6 - (lg_sl ([.ref a_mo, .int p0, .int p1])).length) Slot.unset).toArray) [] := by rw [hargs]; exact lg_entry_eq _ _ _
  rw [hfr]
  generalize (lg_sl ([.ref a_mo, .int p0, .int p1]) ++ List.replicate (6 - (lg_sl ([.ref a_mo, .int p0, .int p1])).length) Slot.unset).toArray = ls at hl ⊢
  have hl : lv_has ls 6 [(0, .ref a_mo), (1, .int p0), (2, .int p1)] := hl
  refine gen_Q (fun Q hQ => ?_)
  clear hfr
  have hgo : ∀ (H : Heap) (locs : List Loc), va_P (dC, dI) vwCl (w_M_writeDirect cI cB cS cT a_mo a_mo_base a_mo_coefficients a_mo_lengths a_mo_codes a_mo_directOf a_mo_out a_mo_times a_mo_prediction a_mo_h a_mo_v a_mo_across a_mo_down a_mo_ownAcross a_mo_ownDown a_mo_before0 a_mo_draftCounts a_mo_draft a_mo_words a_mo_otherOf a_mo_data a_mo_runBits a_mo_toCome a_mo_timesKept mo_thrown mo_width mo_height mo_many mo_unitsAcross mo_unitsDown mo_drafts mo_mask mo_first mo_last mo_before mo_bits mo_interval mo_size mo_outs mo_part mo_parted mo_failed mo_counting mo_run mo_runMany mo_comes mo_at mo_taken mo_left mo_fault mo_base mo_coefficients mo_lengths mo_codes mo_directOf mo_out mo_times mo_prediction) H → va_S A s.heap H locs → W p l e (headSpec ws_m1093 rm_M_writeDirect).room s m args below meth c H locs 0 0 Q (F0 m 0 ls []) := by
    intro H locs hP hS
    unfold f_M_writeDirect at hf
    refine lv_bipush (v := (64 : Int32)) hx hb d_m1093_0 (by decide) ?_
    refine lv_aload_n hx hb d_m1093_2 rfl (lv_at hl 0 rfl) ?_
    refine va_get (D := (dC, dI)) (ci := 11) (v := .ref a_mo_base) (C := "ScanCoderModel") (T := T_11) (N := 49) hx hb hts n0 hown hK hP 0 rfl rfl 10 (by decide) k0 (fun _ h9 => h9) rfl d_m1093_3 ?_
    refine lv_iload_n hx hb d_m1093_6 rfl (lv_at hl 1 rfl) ?_
    obtain ⟨hi, hf⟩ := ob_if hf
    refine va_iald hx hb hK hP 1 0 rfl rfl hi d_m1093_7 ?_
    refine lv_iload_n hx hb d_m1093_8 rfl (lv_at hl 2 rfl) ?_
    refine lv_iadd hx hb d_m1093_9 ?_
    refine lv_imul hx hb d_m1093_10 ?_
    refine lv_istore_n (lv' := [(3, .int ((64 : Int32) * ((mo_base p0.toNatClampNeg) + p1))), (0, .ref a_mo), (1, .int p0), (2, .int p1)]) hx hb d_m1093_11 rfl hl (by decide) rfl (fun ls hl => ?_)
    refine lv_aload_n hx hb d_m1093_12 rfl (lv_at hl 1 rfl) ?_
    refine va_get (D := (dC, dI)) (ci := 11) (v := .int mo_before) (C := "ScanCoderModel") (T := T_11) (N := 49) hx hb hts n0 hown hK hP 0 rfl rfl 26 (by decide) k1 (fun _ h9 => h9) rfl d_m1093_13 ?_
    refine lv_if_le (tgt := 37) hx hb d_m1093_16 (by decide) (fun hc => ?_) (fun hc => ?_)
    · replace hf := (if_pos hc).symm.trans hf
      refine lv_aload_n hx hb d_m1093_37 rfl (lv_at hl 1 rfl) ?_
      refine va_get (D := (dC, dI)) (ci := 11) (v := .ref a_mo_coefficients) (C := "ScanCoderModel") (T := T_11) (N := 49) hx hb hts n0 hown hK hP 0 rfl rfl 13 (by decide) k2 (fun _ h9 => h9) rfl d_m1093_38 ?_
      refine lv_iload_n hx hb d_m1093_41 rfl (lv_at hl 0 rfl) ?_
      obtain ⟨hi, hf⟩ := ob_if hf
      refine va_sald hx hb hK hP 2 2 rfl rfl hi d_m1093_42 ?_
      refine lv_aload_n hx hb d_m1093_43 rfl (lv_at hl 1 rfl) ?_
      refine va_get (D := (dC, dI)) (ci := 11) (v := .int mo_bits) (C := "ScanCoderModel") (T := T_11) (N := 49) hx hb hts n0 hown hK hP 0 rfl rfl 27 (by decide) k3 (fun _ h9 => h9) rfl d_m1093_44 ?_
      refine lv_ishr hx hb d_m1093_47 ?_
      refine lv_istore (lv' := [(4, .int ((mo_coefficients ((64 : Int32) * ((mo_base p0.toNatClampNeg) + p1)).toNatClampNeg) >>> (mo_bits &&& 31))), (3, .int ((64 : Int32) * ((mo_base p0.toNatClampNeg) + p1))), (0, .ref a_mo), (1, .int p0), (2, .int p1)]) hx hb d_m1093_48 hl (by decide) rfl (fun ls hl => ?_)
      refine lv_iload hx hb d_m1093_50 (lv_at hl 0 rfl) ?_
      refine lv_aload_n hx hb d_m1093_52 rfl (lv_at hl 2 rfl) ?_
      refine va_get (D := (dC, dI)) (ci := 11) (v := .ref a_mo_prediction) (C := "ScanCoderModel") (T := T_11) (N := 49) hx hb hts n0 hown hK hP 0 rfl rfl 38 (by decide) k4 (fun _ h9 => h9) rfl d_m1093_53 ?_
      refine lv_iload_n hx hb d_m1093_56 rfl (lv_at hl 3 rfl) ?_
      obtain ⟨hi, hf⟩ := ob_if hf
      refine va_iald hx hb hK hP 8 0 rfl rfl hi d_m1093_57 ?_
      refine lv_isub hx hb d_m1093_58 ?_
      refine lv_istore (lv' := [(5, .int (((mo_coefficients ((64 : Int32) * ((mo_base p0.toNatClampNeg) + p1)).toNatClampNeg) >>> (mo_bits &&& 31)) - (mo_prediction p0.toNatClampNeg))), (4, .int ((mo_coefficients ((64 : Int32) * ((mo_base p0.toNatClampNeg) + p1)).toNatClampNeg) >>> (mo_bits &&& 31))), (3, .int ((64 : Int32) * ((mo_base p0.toNatClampNeg) + p1))), (0, .ref a_mo), (1, .int p0), (2, .int p1)]) hx hb d_m1093_59 hl (by decide) rfl (fun ls hl => ?_)
      refine lv_aload_n hx hb d_m1093_61 rfl (lv_at hl 3 rfl) ?_
      refine va_get (D := (dC, dI)) (ci := 11) (v := .ref a_mo_prediction) (C := "ScanCoderModel") (T := T_11) (N := 49) hx hb hts n0 hown hK hP 0 rfl rfl 38 (by decide) k4 (fun _ h9 => h9) rfl d_m1093_62 ?_
      refine lv_iload_n hx hb d_m1093_65 rfl (lv_at hl 4 rfl) ?_
      refine lv_iload hx hb d_m1093_66 (lv_at hl 1 rfl) ?_
      obtain ⟨hi, hf⟩ := ob_if hf
      refine va_iast hx hb hK hP hD hS 8 0 rfl rfl hi d_m1093_68 (fun H locs hP hD hS => ?_)
      have hP : va_P (dC, dI) vwCl (w_M_writeDirect cI cB cS cT a_mo a_mo_base a_mo_coefficients a_mo_lengths a_mo_codes a_mo_directOf a_mo_out a_mo_times a_mo_prediction a_mo_h a_mo_v a_mo_across a_mo_down a_mo_ownAcross a_mo_ownDown a_mo_before0 a_mo_draftCounts a_mo_draft a_mo_words a_mo_otherOf a_mo_data a_mo_runBits a_mo_toCome a_mo_timesKept mo_thrown mo_width mo_height mo_many mo_unitsAcross mo_unitsDown mo_drafts mo_mask mo_first mo_last mo_before mo_bits mo_interval mo_size mo_outs mo_part mo_parted mo_failed mo_counting mo_run mo_runMany mo_comes mo_at mo_taken mo_left mo_fault mo_base mo_coefficients mo_lengths mo_codes mo_directOf mo_out mo_times (upd mo_prediction p0.toNatClampNeg ((mo_coefficients ((64 : Int32) * ((mo_base p0.toNatClampNeg) + p1)).toNatClampNeg) >>> (mo_bits &&& 31)))) H := hP
      have hD : va_D A (w_M_writeDirect cI cB cS cT a_mo a_mo_base a_mo_coefficients a_mo_lengths a_mo_codes a_mo_directOf a_mo_out a_mo_times a_mo_prediction a_mo_h a_mo_v a_mo_across a_mo_down a_mo_ownAcross a_mo_ownDown a_mo_before0 a_mo_draftCounts a_mo_draft a_mo_words a_mo_otherOf a_mo_data a_mo_runBits a_mo_toCome a_mo_timesKept mo_thrown mo_width mo_height mo_many mo_unitsAcross mo_unitsDown mo_drafts mo_mask mo_first mo_last mo_before mo_bits mo_interval mo_size mo_outs mo_part mo_parted mo_failed mo_counting mo_run mo_runMany mo_comes mo_at mo_taken mo_left mo_fault mo_base mo_coefficients mo_lengths mo_codes mo_directOf mo_out mo_times (upd mo_prediction p0.toNatClampNeg ((mo_coefficients ((64 : Int32) * ((mo_base p0.toNatClampNeg) + p1)).toNatClampNeg) >>> (mo_bits &&& 31)))) := hD
      refine lv_aload_n hx hb d_m1093_69 rfl (lv_at hl 3 rfl) ?_
      refine lv_aload_n hx hb d_m1093_70 rfl (lv_at hl 3 rfl) ?_
      refine va_get (D := (dC, dI)) (ci := 11) (v := .ref a_mo_directOf) (C := "ScanCoderModel") (T := T_11) (N := 49) hx hb hts n0 hown hK hP 0 rfl rfl 21 (by decide) k5 (fun _ h9 => h9) rfl d_m1093_71 ?_
      refine lv_iload_n hx hb d_m1093_74 rfl (lv_at hl 4 rfl) ?_
      obtain ⟨hi, hf⟩ := ob_if hf
      refine va_iald hx hb hK hP 5 0 rfl rfl hi d_m1093_75 ?_
      refine lv_iload hx hb d_m1093_76 (lv_at hl 0 rfl) ?_
      obtain ⟨z1, hz1, hf⟩ := ob_bind hf
      refine vp_callSi (g_run (va_runS (As := [.int (((mo_coefficients ((64 : Int32) * ((mo_base p0.toNatClampNeg) + p1)).toNatClampNeg) >>> (mo_bits &&& 31)) - (mo_prediction p0.toNatClampNeg))]) (rest := [.int (mo_directOf p0.toNatClampNeg), .ref a_mo]) ⟨hx, hb, hml, hown, hts⟩ (c_M_sizeOf l dC dI cI cB cS cT N (((mo_coefficients ((64 : Int32) * ((mo_base p0.toNatClampNeg) + p1)).toNatClampNeg) >>> (mo_bits &&& 31)) - (mo_prediction p0.toNatClampNeg)) z1 hz1) ⟨(callB_of 1 hts (gi tw_1057 rfl) rfl rfl rfl (hts _ (List.mem_cons_of_mem _ tw_16)) (hts _ (List.mem_cons_of_mem _ tw_1055)) (by decide +kernel) ⟨Nat.le_of_ble_eq_true rfl, Nat.le_of_ble_eq_true rfl⟩), hts _ (List.mem_cons_of_mem _ tw_1056)⟩ ⟨gp_blind, gp_at hKN (g_pm hP [] rfl)⟩ rfl rfl hl.1 rfl (lv_room (Nat.le_of_ble_eq_true rfl)) d_m1093_78 ⟨Nat.zero_le _, Nat.zero_le _⟩)) (fun r hrz1 => ?_)
      have hrz1 := hrz1.symm
      subst hrz1
      refine W.eq (g2 := F0 m 81 ls [.int z1, .int (mo_directOf p0.toNatClampNeg), .ref a_mo]) rfl ?_
      obtain ⟨z2, hz2, hf⟩ := ob_bind hf
      refine g_callv (wc := (w_M_word cI cB cS cT a_mo a_mo_lengths a_mo_codes a_mo_out a_mo_times a_mo_h a_mo_v a_mo_across a_mo_down a_mo_ownAcross a_mo_ownDown a_mo_base a_mo_coefficients a_mo_before0 a_mo_draftCounts a_mo_draft a_mo_words a_mo_directOf a_mo_otherOf a_mo_data a_mo_prediction a_mo_runBits a_mo_toCome a_mo_timesKept mo_thrown mo_width mo_height mo_many mo_unitsAcross mo_unitsDown mo_drafts mo_mask mo_first mo_last mo_before mo_bits mo_interval mo_size mo_outs mo_part mo_parted mo_failed mo_counting mo_run mo_runMany mo_comes mo_at mo_taken mo_left mo_fault mo_lengths mo_codes mo_out mo_times)) (w1 := (w_M_word cI cB cS cT a_mo a_mo_lengths a_mo_codes a_mo_out a_mo_times a_mo_h a_mo_v a_mo_across a_mo_down a_mo_ownAcross a_mo_ownDown a_mo_base a_mo_coefficients a_mo_before0 a_mo_draftCounts a_mo_draft a_mo_words a_mo_directOf a_mo_otherOf a_mo_data a_mo_prediction a_mo_runBits a_mo_toCome a_mo_timesKept mo_thrown mo_width mo_height mo_many mo_unitsAcross mo_unitsDown mo_drafts mo_mask mo_first mo_last mo_before mo_bits mo_interval mo_size z2.1 z2.2.1 z2.2.2.1 z2.2.2.2.1 mo_counting mo_run mo_runMany mo_comes mo_at mo_taken mo_left mo_fault mo_lengths mo_codes z2.2.2.2.2.1 z2.2.2.2.2.2)) (w2 := (w_M_writeDirect cI cB cS cT a_mo a_mo_base a_mo_coefficients a_mo_lengths a_mo_codes a_mo_directOf a_mo_out a_mo_times a_mo_prediction a_mo_h a_mo_v a_mo_across a_mo_down a_mo_ownAcross a_mo_ownDown a_mo_before0 a_mo_draftCounts a_mo_draft a_mo_words a_mo_otherOf a_mo_data a_mo_runBits a_mo_toCome a_mo_timesKept mo_thrown mo_width mo_height mo_many mo_unitsAcross mo_unitsDown mo_drafts mo_mask mo_first mo_last mo_before mo_bits mo_interval mo_size z2.1 z2.2.1 z2.2.2.1 z2.2.2.2.1 mo_counting mo_run mo_runMany mo_comes mo_at mo_taken mo_left mo_fault mo_base mo_coefficients mo_lengths mo_codes mo_directOf z2.2.2.2.2.1 z2.2.2.2.2.2 (upd mo_prediction p0.toNatClampNeg ((mo_coefficients ((64 : Int32) * ((mo_base p0.toNatClampNeg) + p1)).toNatClampNeg) >>> (mo_bits &&& 31))))) [0, 3, 4, 6, 7] [some 0, none, none, some 1, some 2, none, some 3, some 4, none] hP hD hS hA rfl rfl rfl rfl (va_runV (As := [.int (mo_directOf p0.toNatClampNeg), .int z1]) (rest := []) ⟨hx, hb, hml, hown, hts⟩ (c_M_word l dC dI cI cB cS cT N a_mo a_mo_lengths a_mo_codes a_mo_out a_mo_times a_mo_h a_mo_v a_mo_across a_mo_down a_mo_ownAcross a_mo_ownDown a_mo_base a_mo_coefficients a_mo_before0 a_mo_draftCounts a_mo_draft a_mo_words a_mo_directOf a_mo_otherOf a_mo_data a_mo_prediction a_mo_runBits a_mo_toCome a_mo_timesKept mo_thrown mo_width mo_height mo_many mo_unitsAcross mo_unitsDown mo_drafts mo_mask mo_first mo_last mo_before mo_bits mo_interval mo_size mo_outs mo_part mo_parted mo_failed mo_counting mo_run mo_runMany mo_comes mo_at mo_taken mo_left mo_fault mo_lengths mo_codes mo_out mo_times (mo_directOf p0.toNatClampNeg) z1 H.size z2 hz2) ⟨(callB_of 2 hts (gi tw_1061 rfl) rfl rfl rfl (hts _ (List.mem_cons_of_mem _ tw_16)) (hts _ (List.mem_cons_of_mem _ tw_1058)) (by decide +kernel) ⟨Nat.le_of_ble_eq_true rfl, Nat.le_of_ble_eq_true rfl⟩), hts _ (List.mem_cons_of_mem _ tw_1060), hts _ (List.mem_cons_of_mem _ ts_m1061)⟩ ⟨g_blind, va_recv hK hP (ci := 11) (q0 := 0) rfl rfl, g_at hKN (g_pm hP [0, 3, 4, 6, 7] rfl) (hD.sub [0, 3, 4, 6, 7] (by decide) rfl)⟩ rfl rfl hl.1 rfl (lv_room (Nat.le_of_ble_eq_true rfl)) d_m1093_81 ⟨Nat.zero_le _, Nat.zero_le _⟩) (fun H locs hP hD hS => ?_)
      refine W.eq (g2 := F0 m 84 ls []) rfl ?_
      refine lv_aload_n hx hb d_m1093_84 rfl (lv_at hl 3 rfl) ?_
      refine lv_iload hx hb d_m1093_85 (lv_at hl 0 rfl) ?_
      obtain ⟨z3, hz3, hf⟩ := ob_bind hf
      refine g_callv (wc := (w_M_number cI cB cS cT a_mo a_mo_out a_mo_h a_mo_v a_mo_across a_mo_down a_mo_ownAcross a_mo_ownDown a_mo_base a_mo_coefficients a_mo_before0 a_mo_draftCounts a_mo_draft a_mo_words a_mo_lengths a_mo_codes a_mo_directOf a_mo_otherOf a_mo_data a_mo_times a_mo_prediction a_mo_runBits a_mo_toCome a_mo_timesKept mo_thrown mo_width mo_height mo_many mo_unitsAcross mo_unitsDown mo_drafts mo_mask mo_first mo_last mo_before mo_bits mo_interval mo_size z2.1 z2.2.1 z2.2.2.1 z2.2.2.2.1 mo_counting mo_run mo_runMany mo_comes mo_at mo_taken mo_left mo_fault z2.2.2.2.2.1)) (w1 := (w_M_number cI cB cS cT a_mo a_mo_out a_mo_h a_mo_v a_mo_across a_mo_down a_mo_ownAcross a_mo_ownDown a_mo_base a_mo_coefficients a_mo_before0 a_mo_draftCounts a_mo_draft a_mo_words a_mo_lengths a_mo_codes a_mo_directOf a_mo_otherOf a_mo_data a_mo_times a_mo_prediction a_mo_runBits a_mo_toCome a_mo_timesKept mo_thrown mo_width mo_height mo_many mo_unitsAcross mo_unitsDown mo_drafts mo_mask mo_first mo_last mo_before mo_bits mo_interval mo_size z3.1 z3.2.1 z3.2.2.1 z3.2.2.2.1 mo_counting mo_run mo_runMany mo_comes mo_at mo_taken mo_left mo_fault z3.2.2.2.2)) (w2 := (w_M_writeDirect cI cB cS cT a_mo a_mo_base a_mo_coefficients a_mo_lengths a_mo_codes a_mo_directOf a_mo_out a_mo_times a_mo_prediction a_mo_h a_mo_v a_mo_across a_mo_down a_mo_ownAcross a_mo_ownDown a_mo_before0 a_mo_draftCounts a_mo_draft a_mo_words a_mo_otherOf a_mo_data a_mo_runBits a_mo_toCome a_mo_timesKept mo_thrown mo_width mo_height mo_many mo_unitsAcross mo_unitsDown mo_drafts mo_mask mo_first mo_last mo_before mo_bits mo_interval mo_size z3.1 z3.2.1 z3.2.2.1 z3.2.2.2.1 mo_counting mo_run mo_runMany mo_comes mo_at mo_taken mo_left mo_fault mo_base mo_coefficients mo_lengths mo_codes mo_directOf z3.2.2.2.2 z2.2.2.2.2.2 (upd mo_prediction p0.toNatClampNeg ((mo_coefficients ((64 : Int32) * ((mo_base p0.toNatClampNeg) + p1)).toNatClampNeg) >>> (mo_bits &&& 31))))) [0, 6] [some 0, none, none, none, none, none, some 1, none, none] hP hD hS hA rfl rfl rfl rfl (va_runV (As := [.int (((mo_coefficients ((64 : Int32) * ((mo_base p0.toNatClampNeg) + p1)).toNatClampNeg) >>> (mo_bits &&& 31)) - (mo_prediction p0.toNatClampNeg))]) (rest := []) ⟨hx, hb, hml, hown, hts⟩ (c_M_number l dC dI cI cB cS cT N a_mo a_mo_out a_mo_h a_mo_v a_mo_across a_mo_down a_mo_ownAcross a_mo_ownDown a_mo_base a_mo_coefficients a_mo_before0 a_mo_draftCounts a_mo_draft a_mo_words a_mo_lengths a_mo_codes a_mo_directOf a_mo_otherOf a_mo_data a_mo_times a_mo_prediction a_mo_runBits a_mo_toCome a_mo_timesKept mo_thrown mo_width mo_height mo_many mo_unitsAcross mo_unitsDown mo_drafts mo_mask mo_first mo_last mo_before mo_bits mo_interval mo_size z2.1 z2.2.1 z2.2.2.1 z2.2.2.2.1 mo_counting mo_run mo_runMany mo_comes mo_at mo_taken mo_left mo_fault z2.2.2.2.2.1 (((mo_coefficients ((64 : Int32) * ((mo_base p0.toNatClampNeg) + p1)).toNatClampNeg) >>> (mo_bits &&& 31)) - (mo_prediction p0.toNatClampNeg)) H.size z3 hz3) ⟨(callB_of 1 hts (gi tw_1097 rfl) rfl rfl rfl (hts _ (List.mem_cons_of_mem _ tw_16)) (hts _ (List.mem_cons_of_mem _ tw_1094)) (by decide +kernel) ⟨Nat.le_of_ble_eq_true rfl, Nat.le_of_ble_eq_true rfl⟩), hts _ (List.mem_cons_of_mem _ tw_1096), hts _ (List.mem_cons_of_mem _ ts_m1097)⟩ ⟨g_blind, va_recv hK hP (ci := 11) (q0 := 0) rfl rfl, g_at hKN (g_pm hP [0, 6] rfl) (hD.sub [0, 6] (by decide) rfl)⟩ rfl rfl hl.1 rfl (lv_room (Nat.le_of_ble_eq_true rfl)) d_m1093_87 ⟨Nat.zero_le _, Nat.zero_le _⟩) (fun H locs hP hD hS => ?_)
      refine W.eq (g2 := F0 m 90 ls []) rfl ?_
      obtain rfl := Option.some.inj hf
      subst hQ
      subst hAe
      exact W.vret hx hb hr (fun t ht hW => ⟨⟨(), rfl, trivial, by rw [ht]; exact hP, hD⟩, hS.F ht⟩) hS.2.2 d_m1093_90
    · replace hf := (if_neg hc).symm.trans hf
      refine lv_aload_n hx hb d_m1093_19 rfl (lv_at hl 1 rfl) ?_
      refine lv_aload_n hx hb d_m1093_20 rfl (lv_at hl 1 rfl) ?_
      refine va_get (D := (dC, dI)) (ci := 11) (v := .ref a_mo_coefficients) (C := "ScanCoderModel") (T := T_11) (N := 49) hx hb hts n0 hown hK hP 0 rfl rfl 13 (by decide) k2 (fun _ h9 => h9) rfl d_m1093_21 ?_
      refine lv_iload_n hx hb d_m1093_24 rfl (lv_at hl 0 rfl) ?_
      obtain ⟨hi, hf⟩ := ob_if hf
      refine va_sald hx hb hK hP 2 2 rfl rfl hi d_m1093_25 ?_
      refine lv_aload_n hx hb d_m1093_26 rfl (lv_at hl 1 rfl) ?_
      refine va_get (D := (dC, dI)) (ci := 11) (v := .int mo_bits) (C := "ScanCoderModel") (T := T_11) (N := 49) hx hb hts n0 hown hK hP 0 rfl rfl 27 (by decide) k3 (fun _ h9 => h9) rfl d_m1093_27 ?_
      refine lv_ishr hx hb d_m1093_30 ?_
      refine lv_iconst (v := (1 : Int32)) hx hb d_m1093_31 (by decide) ?_
      refine lv_iand hx hb d_m1093_32 ?_
      obtain ⟨z4, hz4, hf⟩ := ob_bind hf
      refine g_callv (wc := (w_M_bit cI cB cS cT a_mo a_mo_out a_mo_h a_mo_v a_mo_across a_mo_down a_mo_ownAcross a_mo_ownDown a_mo_base a_mo_coefficients a_mo_before0 a_mo_draftCounts a_mo_draft a_mo_words a_mo_lengths a_mo_codes a_mo_directOf a_mo_otherOf a_mo_data a_mo_times a_mo_prediction a_mo_runBits a_mo_toCome a_mo_timesKept mo_thrown mo_width mo_height mo_many mo_unitsAcross mo_unitsDown mo_drafts mo_mask mo_first mo_last mo_before mo_bits mo_interval mo_size mo_outs mo_part mo_parted mo_failed mo_counting mo_run mo_runMany mo_comes mo_at mo_taken mo_left mo_fault mo_out)) (w1 := (w_M_bit cI cB cS cT a_mo a_mo_out a_mo_h a_mo_v a_mo_across a_mo_down a_mo_ownAcross a_mo_ownDown a_mo_base a_mo_coefficients a_mo_before0 a_mo_draftCounts a_mo_draft a_mo_words a_mo_lengths a_mo_codes a_mo_directOf a_mo_otherOf a_mo_data a_mo_times a_mo_prediction a_mo_runBits a_mo_toCome a_mo_timesKept mo_thrown mo_width mo_height mo_many mo_unitsAcross mo_unitsDown mo_drafts mo_mask mo_first mo_last mo_before mo_bits mo_interval mo_size z4.1 z4.2.1 z4.2.2.1 z4.2.2.2.1 mo_counting mo_run mo_runMany mo_comes mo_at mo_taken mo_left mo_fault z4.2.2.2.2)) (w2 := (w_M_writeDirect cI cB cS cT a_mo a_mo_base a_mo_coefficients a_mo_lengths a_mo_codes a_mo_directOf a_mo_out a_mo_times a_mo_prediction a_mo_h a_mo_v a_mo_across a_mo_down a_mo_ownAcross a_mo_ownDown a_mo_before0 a_mo_draftCounts a_mo_draft a_mo_words a_mo_otherOf a_mo_data a_mo_runBits a_mo_toCome a_mo_timesKept mo_thrown mo_width mo_height mo_many mo_unitsAcross mo_unitsDown mo_drafts mo_mask mo_first mo_last mo_before mo_bits mo_interval mo_size z4.1 z4.2.1 z4.2.2.1 z4.2.2.2.1 mo_counting mo_run mo_runMany mo_comes mo_at mo_taken mo_left mo_fault mo_base mo_coefficients mo_lengths mo_codes mo_directOf z4.2.2.2.2 mo_times mo_prediction)) [0, 6] [some 0, none, none, none, none, none, some 1, none, none] hP hD hS hA rfl rfl rfl rfl (va_runV (As := [.int (((mo_coefficients ((64 : Int32) * ((mo_base p0.toNatClampNeg) + p1)).toNatClampNeg) >>> (mo_bits &&& 31)) &&& (1 : Int32))]) (rest := []) ⟨hx, hb, hml, hown, hts⟩ (c_M_bit l dC dI cI cB cS cT a_mo a_mo_out a_mo_h a_mo_v a_mo_across a_mo_down a_mo_ownAcross a_mo_ownDown a_mo_base a_mo_coefficients a_mo_before0 a_mo_draftCounts a_mo_draft a_mo_words a_mo_lengths a_mo_codes a_mo_directOf a_mo_otherOf a_mo_data a_mo_times a_mo_prediction a_mo_runBits a_mo_toCome a_mo_timesKept mo_thrown mo_width mo_height mo_many mo_unitsAcross mo_unitsDown mo_drafts mo_mask mo_first mo_last mo_before mo_bits mo_interval mo_size mo_outs mo_part mo_parted mo_failed mo_counting mo_run mo_runMany mo_comes mo_at mo_taken mo_left mo_fault mo_out (((mo_coefficients ((64 : Int32) * ((mo_base p0.toNatClampNeg) + p1)).toNatClampNeg) >>> (mo_bits &&& 31)) &&& (1 : Int32)) H.size z4 hz4) ⟨(callB_of 1 hts (gi tw_1069 rfl) rfl rfl rfl (hts _ (List.mem_cons_of_mem _ tw_16)) (hts _ (List.mem_cons_of_mem _ tw_1066)) (by decide +kernel) ⟨Nat.le_of_ble_eq_true rfl, Nat.le_of_ble_eq_true rfl⟩), hts _ (List.mem_cons_of_mem _ tw_1068), hts _ (List.mem_cons_of_mem _ ts_m1069)⟩ ⟨g_blind, va_recv hK hP (ci := 11) (q0 := 0) rfl rfl, g_at hKN (g_pm hP [0, 6] rfl) (hD.sub [0, 6] (by decide) rfl)⟩ rfl rfl hl.1 rfl (lv_room (Nat.le_of_ble_eq_true rfl)) d_m1093_33 ⟨Nat.zero_le _, Nat.zero_le _⟩) (fun H locs hP hD hS => ?_)
      refine W.eq (g2 := F0 m 36 ls []) rfl ?_
      obtain rfl := Option.some.inj hf
      subst hQ
      subst hAe
      exact W.vret hx hb hr (fun t ht hW => ⟨⟨(), rfl, trivial, by rw [ht]; exact hP, hD⟩, hS.F ht⟩) hS.2.2 d_m1093_36
  exact hgo _ _ hP hS

def f_M_cutOff (p0 : Int32) (p1 : Int32) : Option (Int32) :=
  if 0 ≤ p0 then
    some (p0 >>> (p1 &&& 31))
  else
    some (-((-p0) >>> (p1 &&& 31)))
abbrev w_M_cutOff (cI cB cS cT : ClassId)  : va_W := []
def rm_M_cutOff : Room := { frames := 0, cells := 0, slots := 0, locals := 0 }
set_option maxHeartbeats 1000000 in
set_option maxRecDepth 100000 in
theorem c_M_cutOff (l : Launch) (dC : Nat → ClassId) (dI : Nat → Nat → Nat) (cI cB cS cT : ClassId) (p0 : Int32) (p1 : Int32) (z : Int32) (hf : f_M_cutOff p0 p1 = some z) : Met l y_m1104 ws_m1104 rm_M_cutOff (gPreP (dC, dI) [.int p0, .int p1] (gT cI cB cS cT) (w_M_cutOff cI cB cS cT)) (vp_Si (fun r => r = z)) 0 0 (fun _ => False) := by
  refine Met.ofW (cc := prog_14_method_30_code) (maxL := 2) (ret := (some .int)) (by decide) rfl ?_
  intro p e s m args below meth c s₁ B hml hv
  obtain ⟨hargs, hP, hKN⟩ := hv
  have hK := hKN.1
  have hx := B.exec
  have hb := B.bytes
  have hr := B.returns
  have hts := atoms_spec (ws := ws_m1104) B.pre
  have hown : s.vm.findClass "ScanCoderModel" = some m.cls := findClass_of_methodNamed B.named
  have hlocks := B.notSynchronized
  have hl := lv_entry ([.int p0, .int p1]) (n := 2) (Nat.le_of_ble_eq_true rfl)
  have hfr : entryFrame m args 2 = F0 m 0 ((lg_sl ([.int p0, .int p1]) ++ List.replicate (2 - (lg_sl ([.int p0, .int p1])).length) Slot.unset).toArray) [] := by rw [hargs]; exact lg_entry_eq _ _ _
  rw [hfr]
  generalize (lg_sl ([.int p0, .int p1]) ++ List.replicate (2 - (lg_sl ([.int p0, .int p1])).length) Slot.unset).toArray = ls at hl ⊢
  have hl : lv_has ls 2 [(0, .int p0), (1, .int p1)] := hl
  refine gen_Q (fun Q hQ => ?_)
  clear hfr
  unfold f_M_cutOff at hf
  refine lv_iload_n hx hb d_m1104_0 rfl (lv_at hl 0 rfl) ?_
  refine lv_if_ge (tgt := 12) hx hb d_m1104_1 (by decide) (fun hc => ?_) (fun hc => ?_)
  · replace hf := (if_pos hc).symm.trans hf
    refine lv_iload_n hx hb d_m1104_12 rfl (lv_at hl 0 rfl) ?_
    refine lv_iload_n hx hb d_m1104_13 rfl (lv_at hl 1 rfl) ?_
    refine lv_ishr hx hb d_m1104_14 ?_
    obtain rfl := Option.some.inj hf
    subst hQ
    exact W.iret (v := p0 >>> (p1 &&& 31)) hx hb hr (fun t ht hW => ⟨p0 >>> (p1 &&& 31), rfl, rfl, ht⟩) (fun q h => by cases h) d_m1104_15
  · replace hf := (if_neg hc).symm.trans hf
    refine lv_iload_n hx hb d_m1104_4 rfl (lv_at hl 0 rfl) ?_
    refine lv_ineg hx hb d_m1104_5 ?_
    refine lv_iload_n hx hb d_m1104_6 rfl (lv_at hl 1 rfl) ?_
    refine lv_ishr hx hb d_m1104_7 ?_
    refine lv_ineg hx hb d_m1104_8 ?_
    refine lv_goto (tgt := 15) hx hb d_m1104_9 (by decide) ?_
    obtain rfl := Option.some.inj hf
    subst hQ
    exact W.iret (v := -((-p0) >>> (p1 &&& 31))) hx hb hr (fun t ht hW => ⟨-((-p0) >>> (p1 &&& 31)), rfl, rfl, ht⟩) (fun q h => by cases h) d_m1104_15
def f_M_writeOthers_L87b (v4_28 : Int32) (mo_counting : Int32) (mo_lengths : Nat → Int32) (mo_codes : Nat → Int32) (N : Nat) (rec : (Int32 × Int32 × Int32 × Int32 × Int32 × (Nat → Int32) × (Nat → Int32)) → Option (Int32 × Int32 × Int32 × Int32 × Int32 × (Nat → Int32) × (Nat → Int32))) (v6_87 : Int32) (mo_outs_87 : Int32) (mo_part_87 : Int32) (mo_parted_87 : Int32) (mo_failed_87 : Int32) (mo_out_87 : Nat → Int32) (mo_times_87 : Nat → Int32) : Option (Int32 × Int32 × Int32 × Int32 × Int32 × (Nat → Int32) × (Nat → Int32)) :=
  if v6_87 ≤ (15 : Int32) then
    some (v6_87, mo_outs_87, mo_part_87, mo_parted_87, mo_failed_87, mo_out_87, mo_times_87)
  else
    (f_M_word N v4_28 (240 : Int32) mo_outs_87 mo_part_87 mo_parted_87 mo_failed_87 mo_counting mo_lengths mo_codes mo_out_87 mo_times_87).bind fun z2 =>
    rec (v6_87 + (-16 : Int32), z2.1, z2.2.1, z2.2.2.1, z2.2.2.2.1, z2.2.2.2.2.1, z2.2.2.2.2.2)
def f_M_writeOthers_L87 (v4_28 : Int32) (mo_counting : Int32) (mo_lengths : Nat → Int32) (mo_codes : Nat → Int32) (N : Nat) (k : Nat) : (Int32 × Int32 × Int32 × Int32 × Int32 × (Nat → Int32) × (Nat → Int32)) → Option (Int32 × Int32 × Int32 × Int32 × Int32 × (Nat → Int32) × (Nat → Int32)) := it (fun rec a => f_M_writeOthers_L87b v4_28 mo_counting mo_lengths mo_codes N rec a.1 a.2.1 a.2.2.1 a.2.2.2.1 a.2.2.2.2.1 a.2.2.2.2.2.1 a.2.2.2.2.2.2) k
def f_M_writeOthers_J28_135 (N : Nat) (rec : (Int32 × Int32 × Int32 × Int32 × Int32 × Int32 × Int32 × Int32 × (Nat → Int32) × (Nat → Int32)) → Option (Int32 × Int32 × Int32 × Int32 × Int32 × Int32 × Int32 × (Nat → Int32) × (Nat → Int32))) (v6_j135 : Int32) (v7_28 : Int32) (mo_outs_j135 : Int32) (mo_part_j135 : Int32) (mo_parted_j135 : Int32) (mo_failed_j135 : Int32) (mo_run_j135 : Int32) (mo_runMany_j135 : Int32) (mo_out_j135 : Nat → Int32) (mo_times_j135 : Nat → Int32) : Option (Int32 × Int32 × Int32 × Int32 × Int32 × Int32 × Int32 × (Nat → Int32) × (Nat → Int32)) :=
  rec (v6_j135, v7_28 + (1 : Int32), mo_outs_j135, mo_part_j135, mo_parted_j135, mo_failed_j135, mo_run_j135, mo_runMany_j135, mo_out_j135, mo_times_j135)
def f_M_writeOthers_L28b (mo_last : Int32) (p0 : Int32) (mo_base : Nat → Int32) (p1 : Int32) (mo_coefficients : Nat → Int32) (mo_bits : Int32) (v5_28 : Int32) (v4_28 : Int32) (mo_counting : Int32) (mo_lengths : Nat → Int32) (mo_codes : Nat → Int32) (mo_runBits : Nat → Int32) (N : Nat) (rec : (Int32 × Int32 × Int32 × Int32 × Int32 × Int32 × Int32 × Int32 × (Nat → Int32) × (Nat → Int32)) → Option (Int32 × Int32 × Int32 × Int32 × Int32 × Int32 × Int32 × (Nat → Int32) × (Nat → Int32))) (v6_28 : Int32) (v7_28 : Int32) (mo_outs_28 : Int32) (mo_part_28 : Int32) (mo_parted_28 : Int32) (mo_failed_28 : Int32) (mo_run_28 : Int32) (mo_runMany_28 : Int32) (mo_out_28 : Nat → Int32) (mo_times_28 : Nat → Int32) : Option (Int32 × Int32 × Int32 × Int32 × Int32 × Int32 × Int32 × (Nat → Int32) × (Nat → Int32)) :=
  if mo_last < v7_28 then
    some (v6_28, mo_outs_28, mo_part_28, mo_parted_28, mo_failed_28, mo_run_28, mo_runMany_28, mo_out_28, mo_times_28)
  else
    if p0 < 0 ∨ 4 ≤ p0.toNatClampNeg then none else
    if (((64 : Int32) * ((mo_base p0.toNatClampNeg) + p1)) + v7_28) < 0 ∨ 12288 ≤ (((64 : Int32) * ((mo_base p0.toNatClampNeg) + p1)) + v7_28).toNatClampNeg then none else
    (f_M_cutOff (mo_coefficients (((64 : Int32) * ((mo_base p0.toNatClampNeg) + p1)) + v7_28).toNatClampNeg) mo_bits).bind fun z1 =>
    if z1 = 0 then
      f_M_writeOthers_J28_135 N rec (v6_28 + (1 : Int32)) v7_28 mo_outs_28 mo_part_28 mo_parted_28 mo_failed_28 mo_run_28 mo_runMany_28 mo_out_28 mo_times_28
    else
      if v5_28 = 0 then
        (f_M_writeOthers_L87 v4_28 mo_counting mo_lengths mo_codes N N (v6_28, mo_outs_28, mo_part_28, mo_parted_28, mo_failed_28, mo_out_28, mo_times_28)).bind fun z3 =>
          (f_M_sizeOf N z1).bind fun z4 =>
        (f_M_word N v4_28 (((16 : Int32) * z3.1) + z4) z3.2.1 z3.2.2.1 z3.2.2.2.1 z3.2.2.2.2.1 mo_counting mo_lengths mo_codes z3.2.2.2.2.2.1 z3.2.2.2.2.2.2).bind fun z5 =>
        (f_M_number N z1 z5.1 z5.2.1 z5.2.2.1 z5.2.2.2.1 mo_counting z5.2.2.2.2.1).bind fun z6 =>
        f_M_writeOthers_J28_135 N rec (0 : Int32) v7_28 z6.1 z6.2.1 z6.2.2.1 z6.2.2.2.1 mo_run_28 mo_runMany_28 z6.2.2.2.2 z5.2.2.2.2.2
      else
        (f_M_sendRun N v4_28 mo_outs_28 mo_part_28 mo_parted_28 mo_failed_28 mo_counting mo_run_28 mo_runMany_28 mo_lengths mo_codes mo_out_28 mo_times_28 mo_runBits).bind fun z7 =>
        (f_M_writeOthers_L87 v4_28 mo_counting mo_lengths mo_codes N N (v6_28, z7.1, z7.2.1, z7.2.2.1, z7.2.2.2.1, z7.2.2.2.2.2.2.1, z7.2.2.2.2.2.2.2)).bind fun z8 =>
          (f_M_sizeOf N z1).bind fun z9 =>
        (f_M_word N v4_28 (((16 : Int32) * z8.1) + z9) z8.2.1 z8.2.2.1 z8.2.2.2.1 z8.2.2.2.2.1 mo_counting mo_lengths mo_codes z8.2.2.2.2.2.1 z8.2.2.2.2.2.2).bind fun z10 =>
        (f_M_number N z1 z10.1 z10.2.1 z10.2.2.1 z10.2.2.2.1 mo_counting z10.2.2.2.2.1).bind fun z11 =>
        f_M_writeOthers_J28_135 N rec (0 : Int32) v7_28 z11.1 z11.2.1 z11.2.2.1 z11.2.2.2.1 z7.2.2.2.2.1 z7.2.2.2.2.2.1 z11.2.2.2.2 z10.2.2.2.2.2
def f_M_writeOthers_L28 (mo_last : Int32) (p0 : Int32) (mo_base : Nat → Int32) (p1 : Int32) (mo_coefficients : Nat → Int32) (mo_bits : Int32) (v5_28 : Int32) (v4_28 : Int32) (mo_counting : Int32) (mo_lengths : Nat → Int32) (mo_codes : Nat → Int32) (mo_runBits : Nat → Int32) (N : Nat) (k : Nat) : (Int32 × Int32 × Int32 × Int32 × Int32 × Int32 × Int32 × Int32 × (Nat → Int32) × (Nat → Int32)) → Option (Int32 × Int32 × Int32 × Int32 × Int32 × Int32 × Int32 × (Nat → Int32) × (Nat → Int32)) := it (fun rec a => f_M_writeOthers_L28b mo_last p0 mo_base p1 mo_coefficients mo_bits v5_28 v4_28 mo_counting mo_lengths mo_codes mo_runBits N rec a.1 a.2.1 a.2.2.1 a.2.2.2.1 a.2.2.2.2.1 a.2.2.2.2.2.1 a.2.2.2.2.2.2.1 a.2.2.2.2.2.2.2.1 a.2.2.2.2.2.2.2.2.1 a.2.2.2.2.2.2.2.2.2) k
def f_M_writeOthers_J158 (N : Nat) (v6_j158 : Int32) (mo_outs_j158 : Int32) (mo_part_j158 : Int32) (mo_parted_j158 : Int32) (mo_failed_j158 : Int32) (mo_run_j158 : Int32) (mo_runMany_j158 : Int32) (mo_out_j158 : Nat → Int32) (mo_times_j158 : Nat → Int32) (v5_j158 : Int32) (v4_j158 : Int32) (mo_counting : Int32) (mo_lengths : Nat → Int32) (mo_codes : Nat → Int32) (mo_runBits : Nat → Int32) : Option (Int32 × Int32 × Int32 × Int32 × Int32 × Int32 × (Nat → Int32) × (Nat → Int32)) :=
  if v6_j158 ≤ 0 then
    some (mo_outs_j158, mo_part_j158, mo_parted_j158, mo_failed_j158, mo_run_j158, mo_runMany_j158, mo_out_j158, mo_times_j158)
  else
    if v5_j158 = 0 then
      some (mo_outs_j158, mo_part_j158, mo_parted_j158, mo_failed_j158, mo_run_j158, mo_runMany_j158, mo_out_j158, mo_times_j158)
    else
      if (mo_run_j158 + (1 : Int32)) = (32767 : Int32) then
        (f_M_sendRun N v4_j158 mo_outs_j158 mo_part_j158 mo_parted_j158 mo_failed_j158 mo_counting (mo_run_j158 + (1 : Int32)) mo_runMany_j158 mo_lengths mo_codes mo_out_j158 mo_times_j158 mo_runBits).bind fun z13 =>
        some (z13.1, z13.2.1, z13.2.2.1, z13.2.2.2.1, z13.2.2.2.2.1, z13.2.2.2.2.2.1, z13.2.2.2.2.2.2.1, z13.2.2.2.2.2.2.2)
      else
        some (mo_outs_j158, mo_part_j158, mo_parted_j158, mo_failed_j158, mo_run_j158 + (1 : Int32), mo_runMany_j158, mo_out_j158, mo_times_j158)
def f_M_writeOthers_J20 (N : Nat) (mo_last : Int32) (p0 : Int32) (mo_base : Nat → Int32) (p1 : Int32) (mo_coefficients : Nat → Int32) (mo_bits : Int32) (s0_j20 : Int32) (v4_j20 : Int32) (mo_counting : Int32) (mo_lengths : Nat → Int32) (mo_codes : Nat → Int32) (mo_runBits : Nat → Int32) (p2 : Int32) (mo_outs : Int32) (mo_part : Int32) (mo_parted : Int32) (mo_failed : Int32) (mo_run : Int32) (mo_runMany : Int32) (mo_out : Nat → Int32) (mo_times : Nat → Int32) : Option (Int32 × Int32 × Int32 × Int32 × Int32 × Int32 × (Nat → Int32) × (Nat → Int32)) :=
  (f_M_writeOthers_L28 mo_last p0 mo_base p1 mo_coefficients mo_bits s0_j20 v4_j20 mo_counting mo_lengths mo_codes mo_runBits N N ((0 : Int32), p2, mo_outs, mo_part, mo_parted, mo_failed, mo_run, mo_runMany, mo_out, mo_times)).bind fun z12 =>
    if z12.1 ≤ 0 then
    f_M_writeOthers_J158 N z12.1 z12.2.1 z12.2.2.1 z12.2.2.2.1 z12.2.2.2.2.1 z12.2.2.2.2.2.1 z12.2.2.2.2.2.2.1 z12.2.2.2.2.2.2.2.1 z12.2.2.2.2.2.2.2.2 s0_j20 v4_j20 mo_counting mo_lengths mo_codes mo_runBits
  else
    if s0_j20 = 0 then
      (f_M_word N v4_j20 (0 : Int32) z12.2.1 z12.2.2.1 z12.2.2.2.1 z12.2.2.2.2.1 mo_counting mo_lengths mo_codes z12.2.2.2.2.2.2.2.1 z12.2.2.2.2.2.2.2.2).bind fun z14 =>
      f_M_writeOthers_J158 N z12.1 z14.1 z14.2.1 z14.2.2.1 z14.2.2.2.1 z12.2.2.2.2.2.1 z12.2.2.2.2.2.2.1 z14.2.2.2.2.1 z14.2.2.2.2.2 s0_j20 v4_j20 mo_counting mo_lengths mo_codes mo_runBits
    else
      f_M_writeOthers_J158 N z12.1 z12.2.1 z12.2.2.1 z12.2.2.2.1 z12.2.2.2.2.1 z12.2.2.2.2.2.1 z12.2.2.2.2.2.2.1 z12.2.2.2.2.2.2.2.1 z12.2.2.2.2.2.2.2.2 s0_j20 v4_j20 mo_counting mo_lengths mo_codes mo_runBits
def f_M_writeOthers (N : Nat) (p0 : Int32) (p1 : Int32) (p2 : Int32) (mo_first : Int32) (mo_last : Int32) (mo_bits : Int32) (mo_outs : Int32) (mo_part : Int32) (mo_parted : Int32) (mo_failed : Int32) (mo_counting : Int32) (mo_run : Int32) (mo_runMany : Int32) (mo_base : Nat → Int32) (mo_coefficients : Nat → Int32) (mo_lengths : Nat → Int32) (mo_codes : Nat → Int32) (mo_otherOf : Nat → Int32) (mo_out : Nat → Int32) (mo_times : Nat → Int32) (mo_runBits : Nat → Int32) : Option (Int32 × Int32 × Int32 × Int32 × Int32 × Int32 × (Nat → Int32) × (Nat → Int32)) :=
  if p0 < 0 ∨ 4 ≤ p0.toNatClampNeg then none else
  if mo_first ≤ 0 then
    f_M_writeOthers_J20 N mo_last p0 mo_base p1 mo_coefficients mo_bits (0 : Int32) (mo_otherOf p0.toNatClampNeg) mo_counting mo_lengths mo_codes mo_runBits p2 mo_outs mo_part mo_parted mo_failed mo_run mo_runMany mo_out mo_times
  else
    f_M_writeOthers_J20 N mo_last p0 mo_base p1 mo_coefficients mo_bits (1 : Int32) (mo_otherOf p0.toNatClampNeg) mo_counting mo_lengths mo_codes mo_runBits p2 mo_outs mo_part mo_parted mo_failed mo_run mo_runMany mo_out mo_times
abbrev w_M_writeOthers (cI cB cS cT : ClassId) (a_mo : Nat) (a_mo_base : Nat) (a_mo_coefficients : Nat) (a_mo_lengths : Nat) (a_mo_codes : Nat) (a_mo_otherOf : Nat) (a_mo_out : Nat) (a_mo_times : Nat) (a_mo_runBits : Nat) (a_mo_h : Nat) (a_mo_v : Nat) (a_mo_across : Nat) (a_mo_down : Nat) (a_mo_ownAcross : Nat) (a_mo_ownDown : Nat) (a_mo_before0 : Nat) (a_mo_draftCounts : Nat) (a_mo_draft : Nat) (a_mo_words : Nat) (a_mo_directOf : Nat) (a_mo_data : Nat) (a_mo_prediction : Nat) (a_mo_toCome : Nat) (a_mo_timesKept : Nat) (mo_thrown : Int32) (mo_width : Int32) (mo_height : Int32) (mo_many : Int32) (mo_unitsAcross : Int32) (mo_unitsDown : Int32) (mo_drafts : Int32) (mo_mask : Int32) (mo_first : Int32) (mo_last : Int32) (mo_before : Int32) (mo_bits : Int32) (mo_interval : Int32) (mo_size : Int32) (mo_outs : Int32) (mo_part : Int32) (mo_parted : Int32) (mo_failed : Int32) (mo_counting : Int32) (mo_run : Int32) (mo_runMany : Int32) (mo_comes : Int32) (mo_at : Int32) (mo_taken : Int32) (mo_left : Int32) (mo_fault : Int32) (mo_base : Nat → Int32) (mo_coefficients : Nat → Int32) (mo_lengths : Nat → Int32) (mo_codes : Nat → Int32) (mo_otherOf : Nat → Int32) (mo_out : Nat → Int32) (mo_times : Nat → Int32) (mo_runBits : Nat → Int32) : va_W := [(a_mo, .inr (11, [.int mo_thrown, .int mo_width, .int mo_height, .int mo_many, .ref a_mo_h, .ref a_mo_v, .ref a_mo_across, .ref a_mo_down, .ref a_mo_ownAcross, .ref a_mo_ownDown, .ref a_mo_base, .int mo_unitsAcross, .int mo_unitsDown, .ref a_mo_coefficients, .ref a_mo_before0, .ref a_mo_draftCounts, .ref a_mo_draft, .int mo_drafts, .ref a_mo_words, .ref a_mo_lengths, .ref a_mo_codes, .ref a_mo_directOf, .ref a_mo_otherOf, .int mo_mask, .int mo_first, .int mo_last, .int mo_before, .int mo_bits, .int mo_interval, .ref a_mo_data, .int mo_size, .ref a_mo_out, .int mo_outs, .int mo_part, .int mo_parted, .int mo_failed, .int mo_counting, .ref a_mo_times, .ref a_mo_prediction, .int mo_run, .ref a_mo_runBits, .int mo_runMany, .ref a_mo_toCome, .int mo_comes, .int mo_at, .int mo_taken, .int mo_left, .int mo_fault, .ref a_mo_timesKept])), (a_mo_base, .inl (cI, 4, .inl mo_base)), (a_mo_coefficients, .inl (cS, 12288, .inl mo_coefficients)), (a_mo_lengths, .inl (cI, 2048, .inl mo_lengths)), (a_mo_codes, .inl (cI, 2048, .inl mo_codes)), (a_mo_otherOf, .inl (cI, 4, .inl mo_otherOf)), (a_mo_out, .inl (cB, 16384, .inl mo_out)), (a_mo_times, .inl (cI, 2048, .inl mo_times)), (a_mo_runBits, .inl (cB, 1100, .inl mo_runBits))]
def rm_M_writeOthers : Room := { frames := 5, cells := 0, slots := 0, locals := 111 }
set_option maxHeartbeats 1000000 in
set_option maxRecDepth 100000 in
theorem c_M_writeOthers (l : Launch) (dC : Nat → ClassId) (dI : Nat → Nat → Nat) (cI cB cS cT : ClassId) (N : Nat) (a_mo : Nat) (a_mo_base : Nat) (a_mo_coefficients : Nat) (a_mo_lengths : Nat) (a_mo_codes : Nat) (a_mo_otherOf : Nat) (a_mo_out : Nat) (a_mo_times : Nat) (a_mo_runBits : Nat) (a_mo_h : Nat) (a_mo_v : Nat) (a_mo_across : Nat) (a_mo_down : Nat) (a_mo_ownAcross : Nat) (a_mo_ownDown : Nat) (a_mo_before0 : Nat) (a_mo_draftCounts : Nat) (a_mo_draft : Nat) (a_mo_words : Nat) (a_mo_directOf : Nat) (a_mo_data : Nat) (a_mo_prediction : Nat) (a_mo_toCome : Nat) (a_mo_timesKept : Nat) (mo_thrown : Int32) (mo_width : Int32) (mo_height : Int32) (mo_many : Int32) (mo_unitsAcross : Int32) (mo_unitsDown : Int32) (mo_drafts : Int32) (mo_mask : Int32) (mo_first : Int32) (mo_last : Int32) (mo_before : Int32) (mo_bits : Int32) (mo_interval : Int32) (mo_size : Int32) (mo_outs : Int32) (mo_part : Int32) (mo_parted : Int32) (mo_failed : Int32) (mo_counting : Int32) (mo_run : Int32) (mo_runMany : Int32) (mo_comes : Int32) (mo_at : Int32) (mo_taken : Int32) (mo_left : Int32) (mo_fault : Int32) (mo_base : Nat → Int32) (mo_coefficients : Nat → Int32) (mo_lengths : Nat → Int32) (mo_codes : Nat → Int32) (mo_otherOf : Nat → Int32) (mo_out : Nat → Int32) (mo_times : Nat → Int32) (mo_runBits : Nat → Int32) (p0 : Int32) (p1 : Int32) (p2 : Int32) (sz : Nat) (z : Int32 × Int32 × Int32 × Int32 × Int32 × Int32 × (Nat → Int32) × (Nat → Int32)) (hf : f_M_writeOthers N p0 p1 p2 mo_first mo_last mo_bits mo_outs mo_part mo_parted mo_failed mo_counting mo_run mo_runMany mo_base mo_coefficients mo_lengths mo_codes mo_otherOf mo_out mo_times mo_runBits = some z) : Met l y_m1101 ws_m1101 rm_M_writeOthers (gPre (dC, dI) [.ref a_mo, .int p0, .int p1, .int p2] (gT cI cB cS cT) (w_M_writeOthers cI cB cS cT a_mo a_mo_base a_mo_coefficients a_mo_lengths a_mo_codes a_mo_otherOf a_mo_out a_mo_times a_mo_runBits a_mo_h a_mo_v a_mo_across a_mo_down a_mo_ownAcross a_mo_ownDown a_mo_before0 a_mo_draftCounts a_mo_draft a_mo_words a_mo_directOf a_mo_data a_mo_prediction a_mo_toCome a_mo_timesKept mo_thrown mo_width mo_height mo_many mo_unitsAcross mo_unitsDown mo_drafts mo_mask mo_first mo_last mo_before mo_bits mo_interval mo_size mo_outs mo_part mo_parted mo_failed mo_counting mo_run mo_runMany mo_comes mo_at mo_taken mo_left mo_fault mo_base mo_coefficients mo_lengths mo_codes mo_otherOf mo_out mo_times mo_runBits) sz) (gQv (dC, dI) (gT cI cB cS cT) (w_M_writeOthers cI cB cS cT a_mo a_mo_base a_mo_coefficients a_mo_lengths a_mo_codes a_mo_otherOf a_mo_out a_mo_times a_mo_runBits a_mo_h a_mo_v a_mo_across a_mo_down a_mo_ownAcross a_mo_ownDown a_mo_before0 a_mo_draftCounts a_mo_draft a_mo_words a_mo_directOf a_mo_data a_mo_prediction a_mo_toCome a_mo_timesKept mo_thrown mo_width mo_height mo_many mo_unitsAcross mo_unitsDown mo_drafts mo_mask mo_first mo_last mo_before mo_bits mo_interval mo_size mo_outs mo_part mo_parted mo_failed mo_counting mo_run mo_runMany mo_comes mo_at mo_taken mo_left mo_fault mo_base mo_coefficients mo_lengths mo_codes mo_otherOf mo_out mo_times mo_runBits) (w_M_writeOthers cI cB cS cT a_mo a_mo_base a_mo_coefficients a_mo_lengths a_mo_codes a_mo_otherOf a_mo_out a_mo_times a_mo_runBits a_mo_h a_mo_v a_mo_across a_mo_down a_mo_ownAcross a_mo_ownDown a_mo_before0 a_mo_draftCounts a_mo_draft a_mo_words a_mo_directOf a_mo_data a_mo_prediction a_mo_toCome a_mo_timesKept mo_thrown mo_width mo_height mo_many mo_unitsAcross mo_unitsDown mo_drafts mo_mask mo_first mo_last mo_before mo_bits mo_interval mo_size z.1 z.2.1 z.2.2.1 z.2.2.2.1 mo_counting z.2.2.2.2.1 z.2.2.2.2.2.1 mo_comes mo_at mo_taken mo_left mo_fault mo_base mo_coefficients mo_lengths mo_codes mo_otherOf z.2.2.2.2.2.2.1 z.2.2.2.2.2.2.2 mo_runBits) sz) 0 0 (va_A (w_M_writeOthers cI cB cS cT a_mo a_mo_base a_mo_coefficients a_mo_lengths a_mo_codes a_mo_otherOf a_mo_out a_mo_times a_mo_runBits a_mo_h a_mo_v a_mo_across a_mo_down a_mo_ownAcross a_mo_ownDown a_mo_before0 a_mo_draftCounts a_mo_draft a_mo_words a_mo_directOf a_mo_data a_mo_prediction a_mo_toCome a_mo_timesKept mo_thrown mo_width mo_height mo_many mo_unitsAcross mo_unitsDown mo_drafts mo_mask mo_first mo_last mo_before mo_bits mo_interval mo_size mo_outs mo_part mo_parted mo_failed mo_counting mo_run mo_runMany mo_comes mo_at mo_taken mo_left mo_fault mo_base mo_coefficients mo_lengths mo_codes mo_otherOf mo_out mo_times mo_runBits) sz) := by
  refine Met.ofW (cc := prog_14_method_31_code) (maxL := 9) (ret := none) (by decide) rfl ?_
  intro p e s m args below meth c s₁ B hml hv
  obtain ⟨hargs, hsz, hP, hKN, hD0⟩ := hv
  have hK := hKN.1
  have hx := B.exec
  have hb := B.bytes
  have hr := B.returns
  have hts := atoms_spec (ws := ws_m1101) B.pre
  have hown : s.vm.findClass "ScanCoderModel" = some m.cls := findClass_of_methodNamed B.named
  have hlocks := B.notSynchronized
  have k0 := hts _ (List.mem_cons_of_mem _ tw_856)
  have k1 := hts _ (List.mem_cons_of_mem _ tw_858)
  have k2 := hts _ (List.mem_cons_of_mem _ tw_859)
  have k3 := hts _ (List.mem_cons_of_mem _ tw_847)
  have k4 := hts _ (List.mem_cons_of_mem _ tw_844)
  have k5 := hts _ (List.mem_cons_of_mem _ tw_861)
  have k6 := hts _ (List.mem_cons_of_mem _ tw_873)
  have n0 : ∀ w ∈ u_ws "ScanCoderModel" T_11 49, w ∈ ws_m1101 := fun w h => List.mem_cons_of_mem _ (in_11 w h)
  subst hsz
  have hD := hD0.self (sz := s.heap.size)
  obtain ⟨A, hAe⟩ : ∃ A : Nat → Prop, va_A (w_M_writeOthers cI cB cS cT a_mo a_mo_base a_mo_coefficients a_mo_lengths a_mo_codes a_mo_otherOf a_mo_out a_mo_times a_mo_runBits a_mo_h a_mo_v a_mo_across a_mo_down a_mo_ownAcross a_mo_ownDown a_mo_before0 a_mo_draftCounts a_mo_draft a_mo_words a_mo_directOf a_mo_data a_mo_prediction a_mo_toCome a_mo_timesKept mo_thrown mo_width mo_height mo_many mo_unitsAcross mo_unitsDown mo_drafts mo_mask mo_first mo_last mo_before mo_bits mo_interval mo_size mo_outs mo_part mo_parted mo_failed mo_counting mo_run mo_runMany mo_comes mo_at mo_taken mo_left mo_fault mo_base mo_coefficients mo_lengths mo_codes mo_otherOf mo_out mo_times mo_runBits) s.heap.size = A := ⟨_, rfl⟩
  rw [hAe] at hD
  have hA : ∀ q : Nat, s.heap.size ≤ q → A q := fun q h => by rw [← hAe]; exact Or.inr h
  have hS : va_S A s.heap s.heap [] := va_S.rf
  have hl := lv_entry ([.ref a_mo, .int p0, .int p1, .int p2]) (n := 9) (Nat.le_of_ble_eq_true rfl)
  have hfr : entryFrame m args 9 = F0 m 0 ((lg_sl ([.ref a_mo, .int p0, .int p1, .int p2]) ++ List.replicate (9 - (lg_sl ([.ref a_mo, .int p0, .int p1, .int p2])).length) Slot.unset).toArray) [] := by rw [hargs]; exact lg_entry_eq _ _ _
  rw [hfr]
  generalize (lg_sl ([.ref a_mo, .int p0, .int p1, .int p2]) ++ List.replicate (9 - (lg_sl ([.ref a_mo, .int p0, .int p1, .int p2])).length) Slot.unset).toArray = ls at hl ⊢
  have hl : lv_has ls 9 [(0, .ref a_mo), (1, .int p0), (2, .int p1), (3, .int p2)] := hl
  refine gen_Q (fun Q hQ => ?_)
  clear hfr
  have L87 : ∀ (v8_87 : Int32) (mo_run_87 : Int32) (mo_runMany_87 : Int32) (v4_28 : Int32) (v5_28 : Int32) (v7_28 : Int32) (z : Int32 × Int32 × Int32 × Int32 × Int32 × (Nat → Int32) × (Nat → Int32)), (GW (dC, dI) A p l e (headSpec ws_m1101 rm_M_writeOthers).room s m args below meth c 0 0 Q 9 109 (w_M_writeOthers cI cB cS cT a_mo a_mo_base a_mo_coefficients a_mo_lengths a_mo_codes a_mo_otherOf a_mo_out a_mo_times a_mo_runBits a_mo_h a_mo_v a_mo_across a_mo_down a_mo_ownAcross a_mo_ownDown a_mo_before0 a_mo_draftCounts a_mo_draft a_mo_words a_mo_directOf a_mo_data a_mo_prediction a_mo_toCome a_mo_timesKept mo_thrown mo_width mo_height mo_many mo_unitsAcross mo_unitsDown mo_drafts mo_mask mo_first mo_last mo_before mo_bits mo_interval mo_size z.2.1 z.2.2.1 z.2.2.2.1 z.2.2.2.2.1 mo_counting mo_run_87 mo_runMany_87 mo_comes mo_at mo_taken mo_left mo_fault mo_base mo_coefficients mo_lengths mo_codes mo_otherOf z.2.2.2.2.2.1 z.2.2.2.2.2.2 mo_runBits) [(0, .ref a_mo), (1, .int p0), (2, .int p1), (4, .int v4_28), (5, .int v5_28), (6, .int z.1), (7, .int v7_28), (8, .int v8_87)] []) → ∀ (k : Nat) (v6_87 : Int32) (mo_outs_87 : Int32) (mo_part_87 : Int32) (mo_parted_87 : Int32) (mo_failed_87 : Int32) (mo_out_87 : Nat → Int32) (mo_times_87 : Nat → Int32), f_M_writeOthers_L87 v4_28 mo_counting mo_lengths mo_codes N k (v6_87, mo_outs_87, mo_part_87, mo_parted_87, mo_failed_87, mo_out_87, mo_times_87) = some z → GW (dC, dI) A p l e (headSpec ws_m1101 rm_M_writeOthers).room s m args below meth c 0 0 Q 9 87 (w_M_writeOthers cI cB cS cT a_mo a_mo_base a_mo_coefficients a_mo_lengths a_mo_codes a_mo_otherOf a_mo_out a_mo_times a_mo_runBits a_mo_h a_mo_v a_mo_across a_mo_down a_mo_ownAcross a_mo_ownDown a_mo_before0 a_mo_draftCounts a_mo_draft a_mo_words a_mo_directOf a_mo_data a_mo_prediction a_mo_toCome a_mo_timesKept mo_thrown mo_width mo_height mo_many mo_unitsAcross mo_unitsDown mo_drafts mo_mask mo_first mo_last mo_before mo_bits mo_interval mo_size mo_outs_87 mo_part_87 mo_parted_87 mo_failed_87 mo_counting mo_run_87 mo_runMany_87 mo_comes mo_at mo_taken mo_left mo_fault mo_base mo_coefficients mo_lengths mo_codes mo_otherOf mo_out_87 mo_times_87 mo_runBits) [(0, .ref a_mo), (1, .int p0), (2, .int p1), (4, .int v4_28), (5, .int v5_28), (6, .int v6_87), (7, .int v7_28), (8, .int v8_87)] [] := by
    intro v8_87 mo_run_87 mo_runMany_87 v4_28 v5_28 v7_28 z hE0 k
    induction k with
    | zero =>
      intro v6_87 mo_outs_87 mo_part_87 mo_parted_87 mo_failed_87 mo_out_87 mo_times_87 hf
      exact (it_zero hf).elim
    | succ k ih =>
      intro v6_87 mo_outs_87 mo_part_87 mo_parted_87 mo_failed_87 mo_out_87 mo_times_87 hf H locs ls hP hD hS hl
      have hf : f_M_writeOthers_L87b v4_28 mo_counting mo_lengths mo_codes N (f_M_writeOthers_L87 v4_28 mo_counting mo_lengths mo_codes N k) v6_87 mo_outs_87 mo_part_87 mo_parted_87 mo_failed_87 mo_out_87 mo_times_87 = some z := hf
      unfold f_M_writeOthers_L87b at hf
      refine lv_iload hx hb d_m1101_87 (lv_at hl 5 rfl) ?_
      refine lv_bipush (v := (15 : Int32)) hx hb d_m1101_89 (by decide) ?_
      refine lv_icmp_le (tgt := 109) hx hb d_m1101_91 (by decide) (fun hc => ?_) (fun hc => ?_)
      · replace hf := (if_pos hc).symm.trans hf
        obtain rfl := Option.some.inj hf
        exact hE0  H locs ls hP hD hS hl
      · replace hf := (if_neg hc).symm.trans hf
        refine lv_aload_n hx hb d_m1101_94 rfl (lv_at hl 0 rfl) ?_
        refine lv_iload hx hb d_m1101_95 (lv_at hl 3 rfl) ?_
        refine lv_sipush (v := (240 : Int32)) hx hb d_m1101_97 (by decide) ?_
        obtain ⟨z2, hz2, hf⟩ := ob_bind hf
        refine g_callv (wc := (w_M_word cI cB cS cT a_mo a_mo_lengths a_mo_codes a_mo_out a_mo_times a_mo_h a_mo_v a_mo_across a_mo_down a_mo_ownAcross a_mo_ownDown a_mo_base a_mo_coefficients a_mo_before0 a_mo_draftCounts a_mo_draft a_mo_words a_mo_directOf a_mo_otherOf a_mo_data a_mo_prediction a_mo_runBits a_mo_toCome a_mo_timesKept mo_thrown mo_width mo_height mo_many mo_unitsAcross mo_unitsDown mo_drafts mo_mask mo_first mo_last mo_before mo_bits mo_interval mo_size mo_outs_87 mo_part_87 mo_parted_87 mo_failed_87 mo_counting mo_run_87 mo_runMany_87 mo_comes mo_at mo_taken mo_left mo_fault mo_lengths mo_codes mo_out_87 mo_times_87)) (w1 := (w_M_word cI cB cS cT a_mo a_mo_lengths a_mo_codes a_mo_out a_mo_times a_mo_h a_mo_v a_mo_across a_mo_down a_mo_ownAcross a_mo_ownDown a_mo_base a_mo_coefficients a_mo_before0 a_mo_draftCounts a_mo_draft a_mo_words a_mo_directOf a_mo_otherOf a_mo_data a_mo_prediction a_mo_runBits a_mo_toCome a_mo_timesKept mo_thrown mo_width mo_height mo_many mo_unitsAcross mo_unitsDown mo_drafts mo_mask mo_first mo_last mo_before mo_bits mo_interval mo_size z2.1 z2.2.1 z2.2.2.1 z2.2.2.2.1 mo_counting mo_run_87 mo_runMany_87 mo_comes mo_at mo_taken mo_left mo_fault mo_lengths mo_codes z2.2.2.2.2.1 z2.2.2.2.2.2)) (w2 := (w_M_writeOthers cI cB cS cT a_mo a_mo_base a_mo_coefficients a_mo_lengths a_mo_codes a_mo_otherOf a_mo_out a_mo_times a_mo_runBits a_mo_h a_mo_v a_mo_across a_mo_down a_mo_ownAcross a_mo_ownDown a_mo_before0 a_mo_draftCounts a_mo_draft a_mo_words a_mo_directOf a_mo_data a_mo_prediction a_mo_toCome a_mo_timesKept mo_thrown mo_width mo_height mo_many mo_unitsAcross mo_unitsDown mo_drafts mo_mask mo_first mo_last mo_before mo_bits mo_interval mo_size z2.1 z2.2.1 z2.2.2.1 z2.2.2.2.1 mo_counting mo_run_87 mo_runMany_87 mo_comes mo_at mo_taken mo_left mo_fault mo_base mo_coefficients mo_lengths mo_codes mo_otherOf z2.2.2.2.2.1 z2.2.2.2.2.2 mo_runBits)) [0, 3, 4, 6, 7] [some 0, none, none, some 1, some 2, none, some 3, some 4, none] hP hD hS hA rfl rfl rfl rfl (va_runV (As := [.int v4_28, .int (240 : Int32)]) (rest := []) ⟨hx, hb, hml, hown, hts⟩ (c_M_word l dC dI cI cB cS cT N a_mo a_mo_lengths a_mo_codes a_mo_out a_mo_times a_mo_h a_mo_v a_mo_across a_mo_down a_mo_ownAcross a_mo_ownDown a_mo_base a_mo_coefficients a_mo_before0 a_mo_draftCounts a_mo_draft a_mo_words a_mo_directOf a_mo_otherOf a_mo_data a_mo_prediction a_mo_runBits a_mo_toCome a_mo_timesKept mo_thrown mo_width mo_height mo_many mo_unitsAcross mo_unitsDown mo_drafts mo_mask mo_first mo_last mo_before mo_bits mo_interval mo_size mo_outs_87 mo_part_87 mo_parted_87 mo_failed_87 mo_counting mo_run_87 mo_runMany_87 mo_comes mo_at mo_taken mo_left mo_fault mo_lengths mo_codes mo_out_87 mo_times_87 v4_28 (240 : Int32) H.size z2 hz2) ⟨(callB_of 2 hts (gi tw_1061 rfl) rfl rfl rfl (hts _ (List.mem_cons_of_mem _ tw_16)) (hts _ (List.mem_cons_of_mem _ tw_1058)) (by decide +kernel) ⟨Nat.le_of_ble_eq_true rfl, Nat.le_of_ble_eq_true rfl⟩), hts _ (List.mem_cons_of_mem _ tw_1060), hts _ (List.mem_cons_of_mem _ ts_m1061)⟩ ⟨g_blind, va_recv hK hP (ci := 11) (q0 := 0) rfl rfl, g_at hKN (g_pm hP [0, 3, 4, 6, 7] rfl) (hD.sub [0, 3, 4, 6, 7] (by decide) rfl)⟩ rfl rfl hl.1 rfl (lv_room (Nat.le_of_ble_eq_true rfl)) d_m1101_100 ⟨Nat.zero_le _, Nat.zero_le _⟩) (fun H locs hP hD hS => ?_)
        refine W.eq (g2 := F0 m 103 ls []) rfl ?_
        refine lv_iinc (v := v6_87 + (-16 : Int32)) (lv' := [(6, .int (v6_87 + (-16 : Int32))), (0, .ref a_mo), (1, .int p0), (2, .int p1), (4, .int v4_28), (5, .int v5_28), (7, .int v7_28), (8, .int v8_87)]) hx hb d_m1101_103 hl (k := 5) rfl rfl (by decide) rfl (fun ls hl => ?_)
        refine lv_goto (tgt := 87) hx hb d_m1101_106 (by decide) ?_
        exact ih (v6_87 + (-16 : Int32)) z2.1 z2.2.1 z2.2.2.1 z2.2.2.2.1 z2.2.2.2.2.1 z2.2.2.2.2.2 hf H locs ls hP hD hS (lv_sub hl [1, 2, 3, 4, 5, 0, 6, 7] rfl)
  have L28 : ∀ (v4_28 : Int32) (v5_28 : Int32) (z : Int32 × Int32 × Int32 × Int32 × Int32 × Int32 × Int32 × (Nat → Int32) × (Nat → Int32)), (GW (dC, dI) A p l e (headSpec ws_m1101 rm_M_writeOthers).room s m args below meth c 0 0 Q 9 141 (w_M_writeOthers cI cB cS cT a_mo a_mo_base a_mo_coefficients a_mo_lengths a_mo_codes a_mo_otherOf a_mo_out a_mo_times a_mo_runBits a_mo_h a_mo_v a_mo_across a_mo_down a_mo_ownAcross a_mo_ownDown a_mo_before0 a_mo_draftCounts a_mo_draft a_mo_words a_mo_directOf a_mo_data a_mo_prediction a_mo_toCome a_mo_timesKept mo_thrown mo_width mo_height mo_many mo_unitsAcross mo_unitsDown mo_drafts mo_mask mo_first mo_last mo_before mo_bits mo_interval mo_size z.2.1 z.2.2.1 z.2.2.2.1 z.2.2.2.2.1 mo_counting z.2.2.2.2.2.1 z.2.2.2.2.2.2.1 mo_comes mo_at mo_taken mo_left mo_fault mo_base mo_coefficients mo_lengths mo_codes mo_otherOf z.2.2.2.2.2.2.2.1 z.2.2.2.2.2.2.2.2 mo_runBits) [(0, .ref a_mo), (4, .int v4_28), (5, .int v5_28), (6, .int z.1)] []) → ∀ (k : Nat) (v6_28 : Int32) (v7_28 : Int32) (mo_outs_28 : Int32) (mo_part_28 : Int32) (mo_parted_28 : Int32) (mo_failed_28 : Int32) (mo_run_28 : Int32) (mo_runMany_28 : Int32) (mo_out_28 : Nat → Int32) (mo_times_28 : Nat → Int32), f_M_writeOthers_L28 mo_last p0 mo_base p1 mo_coefficients mo_bits v5_28 v4_28 mo_counting mo_lengths mo_codes mo_runBits N k (v6_28, v7_28, mo_outs_28, mo_part_28, mo_parted_28, mo_failed_28, mo_run_28, mo_runMany_28, mo_out_28, mo_times_28) = some z → GW (dC, dI) A p l e (headSpec ws_m1101 rm_M_writeOthers).room s m args below meth c 0 0 Q 9 28 (w_M_writeOthers cI cB cS cT a_mo a_mo_base a_mo_coefficients a_mo_lengths a_mo_codes a_mo_otherOf a_mo_out a_mo_times a_mo_runBits a_mo_h a_mo_v a_mo_across a_mo_down a_mo_ownAcross a_mo_ownDown a_mo_before0 a_mo_draftCounts a_mo_draft a_mo_words a_mo_directOf a_mo_data a_mo_prediction a_mo_toCome a_mo_timesKept mo_thrown mo_width mo_height mo_many mo_unitsAcross mo_unitsDown mo_drafts mo_mask mo_first mo_last mo_before mo_bits mo_interval mo_size mo_outs_28 mo_part_28 mo_parted_28 mo_failed_28 mo_counting mo_run_28 mo_runMany_28 mo_comes mo_at mo_taken mo_left mo_fault mo_base mo_coefficients mo_lengths mo_codes mo_otherOf mo_out_28 mo_times_28 mo_runBits) [(0, .ref a_mo), (1, .int p0), (2, .int p1), (4, .int v4_28), (5, .int v5_28), (6, .int v6_28), (7, .int v7_28)] [] := by
    intro v4_28 v5_28 z hE0 k
    induction k with
    | zero =>
      intro v6_28 v7_28 mo_outs_28 mo_part_28 mo_parted_28 mo_failed_28 mo_run_28 mo_runMany_28 mo_out_28 mo_times_28 hf
      exact (it_zero hf).elim
    | succ k ih =>
      intro v6_28 v7_28 mo_outs_28 mo_part_28 mo_parted_28 mo_failed_28 mo_run_28 mo_runMany_28 mo_out_28 mo_times_28 hf H locs ls hP hD hS hl
      have J28_135 : ∀ (v6_j135 : Int32) (mo_outs_j135 : Int32) (mo_part_j135 : Int32) (mo_parted_j135 : Int32) (mo_failed_j135 : Int32) (mo_run_j135 : Int32) (mo_runMany_j135 : Int32) (mo_out_j135 : Nat → Int32) (mo_times_j135 : Nat → Int32), f_M_writeOthers_J28_135 N (f_M_writeOthers_L28 mo_last p0 mo_base p1 mo_coefficients mo_bits v5_28 v4_28 mo_counting mo_lengths mo_codes mo_runBits N k) v6_j135 v7_28 mo_outs_j135 mo_part_j135 mo_parted_j135 mo_failed_j135 mo_run_j135 mo_runMany_j135 mo_out_j135 mo_times_j135 = some z → GW (dC, dI) A p l e (headSpec ws_m1101 rm_M_writeOthers).room s m args below meth c 0 0 Q 9 135 (w_M_writeOthers cI cB cS cT a_mo a_mo_base a_mo_coefficients a_mo_lengths a_mo_codes a_mo_otherOf a_mo_out a_mo_times a_mo_runBits a_mo_h a_mo_v a_mo_across a_mo_down a_mo_ownAcross a_mo_ownDown a_mo_before0 a_mo_draftCounts a_mo_draft a_mo_words a_mo_directOf a_mo_data a_mo_prediction a_mo_toCome a_mo_timesKept mo_thrown mo_width mo_height mo_many mo_unitsAcross mo_unitsDown mo_drafts mo_mask mo_first mo_last mo_before mo_bits mo_interval mo_size mo_outs_j135 mo_part_j135 mo_parted_j135 mo_failed_j135 mo_counting mo_run_j135 mo_runMany_j135 mo_comes mo_at mo_taken mo_left mo_fault mo_base mo_coefficients mo_lengths mo_codes mo_otherOf mo_out_j135 mo_times_j135 mo_runBits) [(0, .ref a_mo), (1, .int p0), (2, .int p1), (4, .int v4_28), (5, .int v5_28), (6, .int v6_j135), (7, .int v7_28)] [] := by
        intro v6_j135 mo_outs_j135 mo_part_j135 mo_parted_j135 mo_failed_j135 mo_run_j135 mo_runMany_j135 mo_out_j135 mo_times_j135 hf H locs ls hP hD hS hl
        unfold f_M_writeOthers_J28_135 at hf
        refine lv_iinc (v := v7_28 + (1 : Int32)) (lv' := [(7, .int (v7_28 + (1 : Int32))), (0, .ref a_mo), (1, .int p0), (2, .int p1), (4, .int v4_28), (5, .int v5_28), (6, .int v6_j135)]) hx hb d_m1101_135 hl (k := 6) rfl rfl (by decide) rfl (fun ls hl => ?_)
        refine lv_goto (tgt := 28) hx hb d_m1101_138 (by decide) ?_
        exact ih v6_j135 (v7_28 + (1 : Int32)) mo_outs_j135 mo_part_j135 mo_parted_j135 mo_failed_j135 mo_run_j135 mo_runMany_j135 mo_out_j135 mo_times_j135 hf H locs ls hP hD hS (lv_sub hl [1, 2, 3, 4, 5, 6, 0] rfl)
      have hf : f_M_writeOthers_L28b mo_last p0 mo_base p1 mo_coefficients mo_bits v5_28 v4_28 mo_counting mo_lengths mo_codes mo_runBits N (f_M_writeOthers_L28 mo_last p0 mo_base p1 mo_coefficients mo_bits v5_28 v4_28 mo_counting mo_lengths mo_codes mo_runBits N k) v6_28 v7_28 mo_outs_28 mo_part_28 mo_parted_28 mo_failed_28 mo_run_28 mo_runMany_28 mo_out_28 mo_times_28 = some z := hf
      unfold f_M_writeOthers_L28b at hf
      refine lv_iload hx hb d_m1101_28 (lv_at hl 6 rfl) ?_
      refine lv_aload_n hx hb d_m1101_30 rfl (lv_at hl 0 rfl) ?_
      refine va_get (D := (dC, dI)) (ci := 11) (v := .int mo_last) (C := "ScanCoderModel") (T := T_11) (N := 49) hx hb hts n0 hown hK hP 0 rfl rfl 25 (by decide) k2 (fun _ h9 => h9) rfl d_m1101_31 ?_
      refine lv_icmp_gt (tgt := 141) hx hb d_m1101_34 (by decide) (fun hc => ?_) (fun hc => ?_)
      · replace hf := (if_pos hc).symm.trans hf
        obtain rfl := Option.some.inj hf
        exact hE0  H locs ls hP hD hS (lv_sub hl [0, 3, 4, 5] rfl)
      · replace hf := (if_neg hc).symm.trans hf
        refine lv_aload_n hx hb d_m1101_37 rfl (lv_at hl 0 rfl) ?_
        refine va_get (D := (dC, dI)) (ci := 11) (v := .ref a_mo_coefficients) (C := "ScanCoderModel") (T := T_11) (N := 49) hx hb hts n0 hown hK hP 0 rfl rfl 13 (by decide) k3 (fun _ h9 => h9) rfl d_m1101_38 ?_
        refine lv_bipush (v := (64 : Int32)) hx hb d_m1101_41 (by decide) ?_
        refine lv_aload_n hx hb d_m1101_43 rfl (lv_at hl 0 rfl) ?_
        refine va_get (D := (dC, dI)) (ci := 11) (v := .ref a_mo_base) (C := "ScanCoderModel") (T := T_11) (N := 49) hx hb hts n0 hown hK hP 0 rfl rfl 10 (by decide) k4 (fun _ h9 => h9) rfl d_m1101_44 ?_
        refine lv_iload_n hx hb d_m1101_47 rfl (lv_at hl 1 rfl) ?_
        obtain ⟨hi, hf⟩ := ob_if hf
        refine va_iald hx hb hK hP 1 0 rfl rfl hi d_m1101_48 ?_
        refine lv_iload_n hx hb d_m1101_49 rfl (lv_at hl 2 rfl) ?_
        refine lv_iadd hx hb d_m1101_50 ?_
        refine lv_imul hx hb d_m1101_51 ?_
        refine lv_iload hx hb d_m1101_52 (lv_at hl 6 rfl) ?_
        refine lv_iadd hx hb d_m1101_54 ?_
        obtain ⟨hi, hf⟩ := ob_if hf
        refine va_sald hx hb hK hP 2 2 rfl rfl hi d_m1101_55 ?_
        refine lv_aload_n hx hb d_m1101_56 rfl (lv_at hl 0 rfl) ?_
        refine va_get (D := (dC, dI)) (ci := 11) (v := .int mo_bits) (C := "ScanCoderModel") (T := T_11) (N := 49) hx hb hts n0 hown hK hP 0 rfl rfl 27 (by decide) k5 (fun _ h9 => h9) rfl d_m1101_57 ?_
        obtain ⟨z1, hz1, hf⟩ := ob_bind hf
        refine vp_callSi (g_run (va_runS (As := [.int (mo_coefficients (((64 : Int32) * ((mo_base p0.toNatClampNeg) + p1)) + v7_28).toNatClampNeg), .int mo_bits]) (rest := []) ⟨hx, hb, hml, hown, hts⟩ (c_M_cutOff l dC dI cI cB cS cT (mo_coefficients (((64 : Int32) * ((mo_base p0.toNatClampNeg) + p1)) + v7_28).toNatClampNeg) mo_bits z1 hz1) ⟨(callB_of 2 hts (gi tw_1104 rfl) rfl rfl rfl (hts _ (List.mem_cons_of_mem _ tw_16)) (hts _ (List.mem_cons_of_mem _ tw_1102)) (by decide +kernel) ⟨Nat.le_of_ble_eq_true rfl, Nat.le_of_ble_eq_true rfl⟩), hts _ (List.mem_cons_of_mem _ tw_1103)⟩ ⟨gp_blind, gp_at hKN (g_pm hP [] rfl)⟩ rfl rfl hl.1 rfl (lv_room (Nat.le_of_ble_eq_true rfl)) d_m1101_60 ⟨Nat.zero_le _, Nat.zero_le _⟩)) (fun r hrz1 => ?_)
        have hrz1 := hrz1.symm
        subst hrz1
        refine W.eq (g2 := F0 m 63 ls [.int z1]) rfl ?_
        refine lv_istore (lv' := [(8, .int z1), (0, .ref a_mo), (1, .int p0), (2, .int p1), (4, .int v4_28), (5, .int v5_28), (6, .int v6_28), (7, .int v7_28)]) hx hb d_m1101_63 hl (by decide) rfl (fun ls hl => ?_)
        refine lv_iload hx hb d_m1101_65 (lv_at hl 0 rfl) ?_
        refine lv_if_ne (tgt := 76) hx hb d_m1101_67 (by decide) (fun hc => ?_) (fun hc => ?_)
        · replace hf := (if_neg hc).symm.trans hf
          refine lv_iload hx hb d_m1101_76 (lv_at hl 5 rfl) ?_
          refine lv_if_eq (tgt := 87) hx hb d_m1101_78 (by decide) (fun hc => ?_) (fun hc => ?_)
          · replace hf := (if_pos hc).symm.trans hf
            obtain ⟨z3, hz3, hf⟩ := ob_bind hf
            refine L87 z1 mo_run_28 mo_runMany_28 v4_28 v5_28 v7_28 z3 ?_ N v6_28 mo_outs_28 mo_part_28 mo_parted_28 mo_failed_28 mo_out_28 mo_times_28 hz3 H locs ls hP hD hS (lv_sub hl [1, 2, 3, 4, 5, 6, 7, 0] rfl)
            · intro H locs ls hP hD hS hl
              refine lv_aload_n hx hb d_m1101_109 rfl (lv_at hl 0 rfl) ?_
              refine lv_iload hx hb d_m1101_110 (lv_at hl 3 rfl) ?_
              refine lv_bipush (v := (16 : Int32)) hx hb d_m1101_112 (by decide) ?_
              refine lv_iload hx hb d_m1101_114 (lv_at hl 5 rfl) ?_
              refine lv_imul hx hb d_m1101_116 ?_
              refine lv_iload hx hb d_m1101_117 (lv_at hl 7 rfl) ?_
              obtain ⟨z4, hz4, hf⟩ := ob_bind hf
              refine vp_callSi (g_run (va_runS (As := [.int z1]) (rest := [.int ((16 : Int32) * z3.1), .int v4_28, .ref a_mo]) ⟨hx, hb, hml, hown, hts⟩ (c_M_sizeOf l dC dI cI cB cS cT N z1 z4 hz4) ⟨(callB_of 1 hts (gi tw_1057 rfl) rfl rfl rfl (hts _ (List.mem_cons_of_mem _ tw_16)) (hts _ (List.mem_cons_of_mem _ tw_1055)) (by decide +kernel) ⟨Nat.le_of_ble_eq_true rfl, Nat.le_of_ble_eq_true rfl⟩), hts _ (List.mem_cons_of_mem _ tw_1056)⟩ ⟨gp_blind, gp_at hKN (g_pm hP [] rfl)⟩ rfl rfl hl.1 rfl (lv_room (Nat.le_of_ble_eq_true rfl)) d_m1101_119 ⟨Nat.zero_le _, Nat.zero_le _⟩)) (fun r hrz4 => ?_)
              have hrz4 := hrz4.symm
              subst hrz4
              refine W.eq (g2 := F0 m 122 ls [.int z4, .int ((16 : Int32) * z3.1), .int v4_28, .ref a_mo]) rfl ?_
              refine lv_iadd hx hb d_m1101_122 ?_
              obtain ⟨z5, hz5, hf⟩ := ob_bind hf
              refine g_callv (wc := (w_M_word cI cB cS cT a_mo a_mo_lengths a_mo_codes a_mo_out a_mo_times a_mo_h a_mo_v a_mo_across a_mo_down a_mo_ownAcross a_mo_ownDown a_mo_base a_mo_coefficients a_mo_before0 a_mo_draftCounts a_mo_draft a_mo_words a_mo_directOf a_mo_otherOf a_mo_data a_mo_prediction a_mo_runBits a_mo_toCome a_mo_timesKept mo_thrown mo_width mo_height mo_many mo_unitsAcross mo_unitsDown mo_drafts mo_mask mo_first mo_last mo_before mo_bits mo_interval mo_size z3.2.1 z3.2.2.1 z3.2.2.2.1 z3.2.2.2.2.1 mo_counting mo_run_28 mo_runMany_28 mo_comes mo_at mo_taken mo_left mo_fault mo_lengths mo_codes z3.2.2.2.2.2.1 z3.2.2.2.2.2.2)) (w1 := (w_M_word cI cB cS cT a_mo a_mo_lengths a_mo_codes a_mo_out a_mo_times a_mo_h a_mo_v a_mo_across a_mo_down a_mo_ownAcross a_mo_ownDown a_mo_base a_mo_coefficients a_mo_before0 a_mo_draftCounts a_mo_draft a_mo_words a_mo_directOf a_mo_otherOf a_mo_data a_mo_prediction a_mo_runBits a_mo_toCome a_mo_timesKept mo_thrown mo_width mo_height mo_many mo_unitsAcross mo_unitsDown mo_drafts mo_mask mo_first mo_last mo_before mo_bits mo_interval mo_size z5.1 z5.2.1 z5.2.2.1 z5.2.2.2.1 mo_counting mo_run_28 mo_runMany_28 mo_comes mo_at mo_taken mo_left mo_fault mo_lengths mo_codes z5.2.2.2.2.1 z5.2.2.2.2.2)) (w2 := (w_M_writeOthers cI cB cS cT a_mo a_mo_base a_mo_coefficients a_mo_lengths a_mo_codes a_mo_otherOf a_mo_out a_mo_times a_mo_runBits a_mo_h a_mo_v a_mo_across a_mo_down a_mo_ownAcross a_mo_ownDown a_mo_before0 a_mo_draftCounts a_mo_draft a_mo_words a_mo_directOf a_mo_data a_mo_prediction a_mo_toCome a_mo_timesKept mo_thrown mo_width mo_height mo_many mo_unitsAcross mo_unitsDown mo_drafts mo_mask mo_first mo_last mo_before mo_bits mo_interval mo_size z5.1 z5.2.1 z5.2.2.1 z5.2.2.2.1 mo_counting mo_run_28 mo_runMany_28 mo_comes mo_at mo_taken mo_left mo_fault mo_base mo_coefficients mo_lengths mo_codes mo_otherOf z5.2.2.2.2.1 z5.2.2.2.2.2 mo_runBits)) [0, 3, 4, 6, 7] [some 0, none, none, some 1, some 2, none, some 3, some 4, none] hP hD hS hA rfl rfl rfl rfl (va_runV (As := [.int v4_28, .int (((16 : Int32) * z3.1) + z4)]) (rest := []) ⟨hx, hb, hml, hown, hts⟩ (c_M_word l dC dI cI cB cS cT N a_mo a_mo_lengths a_mo_codes a_mo_out a_mo_times a_mo_h a_mo_v a_mo_across a_mo_down a_mo_ownAcross a_mo_ownDown a_mo_base a_mo_coefficients a_mo_before0 a_mo_draftCounts a_mo_draft a_mo_words a_mo_directOf a_mo_otherOf a_mo_data a_mo_prediction a_mo_runBits a_mo_toCome a_mo_timesKept mo_thrown mo_width mo_height mo_many mo_unitsAcross mo_unitsDown mo_drafts mo_mask mo_first mo_last mo_before mo_bits mo_interval mo_size z3.2.1 z3.2.2.1 z3.2.2.2.1 z3.2.2.2.2.1 mo_counting mo_run_28 mo_runMany_28 mo_comes mo_at mo_taken mo_left mo_fault mo_lengths mo_codes z3.2.2.2.2.2.1 z3.2.2.2.2.2.2 v4_28 (((16 : Int32) * z3.1) + z4) H.size z5 hz5) ⟨(callB_of 2 hts (gi tw_1061 rfl) rfl rfl rfl (hts _ (List.mem_cons_of_mem _ tw_16)) (hts _ (List.mem_cons_of_mem _ tw_1058)) (by decide +kernel) ⟨Nat.le_of_ble_eq_true rfl, Nat.le_of_ble_eq_true rfl⟩), hts _ (List.mem_cons_of_mem _ tw_1060), hts _ (List.mem_cons_of_mem _ ts_m1061)⟩ ⟨g_blind, va_recv hK hP (ci := 11) (q0 := 0) rfl rfl, g_at hKN (g_pm hP [0, 3, 4, 6, 7] rfl) (hD.sub [0, 3, 4, 6, 7] (by decide) rfl)⟩ rfl rfl hl.1 rfl (lv_room (Nat.le_of_ble_eq_true rfl)) d_m1101_123 ⟨Nat.zero_le _, Nat.zero_le _⟩) (fun H locs hP hD hS => ?_)
              refine W.eq (g2 := F0 m 126 ls []) rfl ?_
              refine lv_aload_n hx hb d_m1101_126 rfl (lv_at hl 0 rfl) ?_
              refine lv_iload hx hb d_m1101_127 (lv_at hl 7 rfl) ?_
              obtain ⟨z6, hz6, hf⟩ := ob_bind hf
              refine g_callv (wc := (w_M_number cI cB cS cT a_mo a_mo_out a_mo_h a_mo_v a_mo_across a_mo_down a_mo_ownAcross a_mo_ownDown a_mo_base a_mo_coefficients a_mo_before0 a_mo_draftCounts a_mo_draft a_mo_words a_mo_lengths a_mo_codes a_mo_directOf a_mo_otherOf a_mo_data a_mo_times a_mo_prediction a_mo_runBits a_mo_toCome a_mo_timesKept mo_thrown mo_width mo_height mo_many mo_unitsAcross mo_unitsDown mo_drafts mo_mask mo_first mo_last mo_before mo_bits mo_interval mo_size z5.1 z5.2.1 z5.2.2.1 z5.2.2.2.1 mo_counting mo_run_28 mo_runMany_28 mo_comes mo_at mo_taken mo_left mo_fault z5.2.2.2.2.1)) (w1 := (w_M_number cI cB cS cT a_mo a_mo_out a_mo_h a_mo_v a_mo_across a_mo_down a_mo_ownAcross a_mo_ownDown a_mo_base a_mo_coefficients a_mo_before0 a_mo_draftCounts a_mo_draft a_mo_words a_mo_lengths a_mo_codes a_mo_directOf a_mo_otherOf a_mo_data a_mo_times a_mo_prediction a_mo_runBits a_mo_toCome a_mo_timesKept mo_thrown mo_width mo_height mo_many mo_unitsAcross mo_unitsDown mo_drafts mo_mask mo_first mo_last mo_before mo_bits mo_interval mo_size z6.1 z6.2.1 z6.2.2.1 z6.2.2.2.1 mo_counting mo_run_28 mo_runMany_28 mo_comes mo_at mo_taken mo_left mo_fault z6.2.2.2.2)) (w2 := (w_M_writeOthers cI cB cS cT a_mo a_mo_base a_mo_coefficients a_mo_lengths a_mo_codes a_mo_otherOf a_mo_out a_mo_times a_mo_runBits a_mo_h a_mo_v a_mo_across a_mo_down a_mo_ownAcross a_mo_ownDown a_mo_before0 a_mo_draftCounts a_mo_draft a_mo_words a_mo_directOf a_mo_data a_mo_prediction a_mo_toCome a_mo_timesKept mo_thrown mo_width mo_height mo_many mo_unitsAcross mo_unitsDown mo_drafts mo_mask mo_first mo_last mo_before mo_bits mo_interval mo_size z6.1 z6.2.1 z6.2.2.1 z6.2.2.2.1 mo_counting mo_run_28 mo_runMany_28 mo_comes mo_at mo_taken mo_left mo_fault mo_base mo_coefficients mo_lengths mo_codes mo_otherOf z6.2.2.2.2 z5.2.2.2.2.2 mo_runBits)) [0, 6] [some 0, none, none, none, none, none, some 1, none, none] hP hD hS hA rfl rfl rfl rfl (va_runV (As := [.int z1]) (rest := []) ⟨hx, hb, hml, hown, hts⟩ (c_M_number l dC dI cI cB cS cT N a_mo a_mo_out a_mo_h a_mo_v a_mo_across a_mo_down a_mo_ownAcross a_mo_ownDown a_mo_base a_mo_coefficients a_mo_before0 a_mo_draftCounts a_mo_draft a_mo_words a_mo_lengths a_mo_codes a_mo_directOf a_mo_otherOf a_mo_data a_mo_times a_mo_prediction a_mo_runBits a_mo_toCome a_mo_timesKept mo_thrown mo_width mo_height mo_many mo_unitsAcross mo_unitsDown mo_drafts mo_mask mo_first mo_last mo_before mo_bits mo_interval mo_size z5.1 z5.2.1 z5.2.2.1 z5.2.2.2.1 mo_counting mo_run_28 mo_runMany_28 mo_comes mo_at mo_taken mo_left mo_fault z5.2.2.2.2.1 z1 H.size z6 hz6) ⟨(callB_of 1 hts (gi tw_1097 rfl) rfl rfl rfl (hts _ (List.mem_cons_of_mem _ tw_16)) (hts _ (List.mem_cons_of_mem _ tw_1094)) (by decide +kernel) ⟨Nat.le_of_ble_eq_true rfl, Nat.le_of_ble_eq_true rfl⟩), hts _ (List.mem_cons_of_mem _ tw_1096), hts _ (List.mem_cons_of_mem _ ts_m1097)⟩ ⟨g_blind, va_recv hK hP (ci := 11) (q0 := 0) rfl rfl, g_at hKN (g_pm hP [0, 6] rfl) (hD.sub [0, 6] (by decide) rfl)⟩ rfl rfl hl.1 rfl (lv_room (Nat.le_of_ble_eq_true rfl)) d_m1101_129 ⟨Nat.zero_le _, Nat.zero_le _⟩) (fun H locs hP hD hS => ?_)
              refine W.eq (g2 := F0 m 132 ls []) rfl ?_
              refine lv_iconst (v := (0 : Int32)) hx hb d_m1101_132 (by decide) ?_
              refine lv_istore (lv' := [(6, .int (0 : Int32)), (0, .ref a_mo), (1, .int p0), (2, .int p1), (4, .int v4_28), (5, .int v5_28), (7, .int v7_28), (8, .int z1)]) hx hb d_m1101_133 hl (by decide) rfl (fun ls hl => ?_)
              exact J28_135 (0 : Int32) z6.1 z6.2.1 z6.2.2.1 z6.2.2.2.1 mo_run_28 mo_runMany_28 z6.2.2.2.2 z5.2.2.2.2.2 hf H locs ls hP hD hS (lv_sub hl [1, 2, 3, 4, 5, 0, 6] rfl)
          · replace hf := (if_neg hc).symm.trans hf
            refine lv_aload_n hx hb d_m1101_81 rfl (lv_at hl 1 rfl) ?_
            refine lv_iload hx hb d_m1101_82 (lv_at hl 4 rfl) ?_
            obtain ⟨z7, hz7, hf⟩ := ob_bind hf
            refine g_callv (wc := (w_M_sendRun cI cB cS cT a_mo a_mo_lengths a_mo_codes a_mo_out a_mo_times a_mo_runBits a_mo_h a_mo_v a_mo_across a_mo_down a_mo_ownAcross a_mo_ownDown a_mo_base a_mo_coefficients a_mo_before0 a_mo_draftCounts a_mo_draft a_mo_words a_mo_directOf a_mo_otherOf a_mo_data a_mo_prediction a_mo_toCome a_mo_timesKept mo_thrown mo_width mo_height mo_many mo_unitsAcross mo_unitsDown mo_drafts mo_mask mo_first mo_last mo_before mo_bits mo_interval mo_size mo_outs_28 mo_part_28 mo_parted_28 mo_failed_28 mo_counting mo_run_28 mo_runMany_28 mo_comes mo_at mo_taken mo_left mo_fault mo_lengths mo_codes mo_out_28 mo_times_28 mo_runBits)) (w1 := (w_M_sendRun cI cB cS cT a_mo a_mo_lengths a_mo_codes a_mo_out a_mo_times a_mo_runBits a_mo_h a_mo_v a_mo_across a_mo_down a_mo_ownAcross a_mo_ownDown a_mo_base a_mo_coefficients a_mo_before0 a_mo_draftCounts a_mo_draft a_mo_words a_mo_directOf a_mo_otherOf a_mo_data a_mo_prediction a_mo_toCome a_mo_timesKept mo_thrown mo_width mo_height mo_many mo_unitsAcross mo_unitsDown mo_drafts mo_mask mo_first mo_last mo_before mo_bits mo_interval mo_size z7.1 z7.2.1 z7.2.2.1 z7.2.2.2.1 mo_counting z7.2.2.2.2.1 z7.2.2.2.2.2.1 mo_comes mo_at mo_taken mo_left mo_fault mo_lengths mo_codes z7.2.2.2.2.2.2.1 z7.2.2.2.2.2.2.2 mo_runBits)) (w2 := (w_M_writeOthers cI cB cS cT a_mo a_mo_base a_mo_coefficients a_mo_lengths a_mo_codes a_mo_otherOf a_mo_out a_mo_times a_mo_runBits a_mo_h a_mo_v a_mo_across a_mo_down a_mo_ownAcross a_mo_ownDown a_mo_before0 a_mo_draftCounts a_mo_draft a_mo_words a_mo_directOf a_mo_data a_mo_prediction a_mo_toCome a_mo_timesKept mo_thrown mo_width mo_height mo_many mo_unitsAcross mo_unitsDown mo_drafts mo_mask mo_first mo_last mo_before mo_bits mo_interval mo_size z7.1 z7.2.1 z7.2.2.1 z7.2.2.2.1 mo_counting z7.2.2.2.2.1 z7.2.2.2.2.2.1 mo_comes mo_at mo_taken mo_left mo_fault mo_base mo_coefficients mo_lengths mo_codes mo_otherOf z7.2.2.2.2.2.2.1 z7.2.2.2.2.2.2.2 mo_runBits)) [0, 3, 4, 6, 7, 8] [some 0, none, none, some 1, some 2, none, some 3, some 4, some 5] hP hD hS hA rfl rfl rfl rfl (va_runV (As := [.int v4_28]) (rest := []) ⟨hx, hb, hml, hown, hts⟩ (c_M_sendRun l dC dI cI cB cS cT N a_mo a_mo_lengths a_mo_codes a_mo_out a_mo_times a_mo_runBits a_mo_h a_mo_v a_mo_across a_mo_down a_mo_ownAcross a_mo_ownDown a_mo_base a_mo_coefficients a_mo_before0 a_mo_draftCounts a_mo_draft a_mo_words a_mo_directOf a_mo_otherOf a_mo_data a_mo_prediction a_mo_toCome a_mo_timesKept mo_thrown mo_width mo_height mo_many mo_unitsAcross mo_unitsDown mo_drafts mo_mask mo_first mo_last mo_before mo_bits mo_interval mo_size mo_outs_28 mo_part_28 mo_parted_28 mo_failed_28 mo_counting mo_run_28 mo_runMany_28 mo_comes mo_at mo_taken mo_left mo_fault mo_lengths mo_codes mo_out_28 mo_times_28 mo_runBits v4_28 H.size z7 hz7) ⟨(callB_of 1 hts (gi tw_1054 rfl) rfl rfl rfl (hts _ (List.mem_cons_of_mem _ tw_16)) (hts _ (List.mem_cons_of_mem _ tw_1051)) (by decide +kernel) ⟨Nat.le_of_ble_eq_true rfl, Nat.le_of_ble_eq_true rfl⟩), hts _ (List.mem_cons_of_mem _ tw_1053), hts _ (List.mem_cons_of_mem _ ts_m1054)⟩ ⟨g_blind, va_recv hK hP (ci := 11) (q0 := 0) rfl rfl, g_at hKN (g_pm hP [0, 3, 4, 6, 7, 8] rfl) (hD.sub [0, 3, 4, 6, 7, 8] (by decide) rfl)⟩ rfl rfl hl.1 rfl (lv_room (Nat.le_of_ble_eq_true rfl)) d_m1101_84 ⟨Nat.zero_le _, Nat.zero_le _⟩) (fun H locs hP hD hS => ?_)
            refine W.eq (g2 := F0 m 87 ls []) rfl ?_
            obtain ⟨z8, hz8, hf⟩ := ob_bind hf
            refine L87 z1 z7.2.2.2.2.1 z7.2.2.2.2.2.1 v4_28 v5_28 v7_28 z8 ?_ N v6_28 z7.1 z7.2.1 z7.2.2.1 z7.2.2.2.1 z7.2.2.2.2.2.2.1 z7.2.2.2.2.2.2.2 hz8 H locs ls hP hD hS (lv_sub hl [1, 2, 3, 4, 5, 6, 7, 0] rfl)
            · intro H locs ls hP hD hS hl
              refine lv_aload_n hx hb d_m1101_109 rfl (lv_at hl 0 rfl) ?_
              refine lv_iload hx hb d_m1101_110 (lv_at hl 3 rfl) ?_
              refine lv_bipush (v := (16 : Int32)) hx hb d_m1101_112 (by decide) ?_
              refine lv_iload hx hb d_m1101_114 (lv_at hl 5 rfl) ?_
              refine lv_imul hx hb d_m1101_116 ?_
              refine lv_iload hx hb d_m1101_117 (lv_at hl 7 rfl) ?_
              obtain ⟨z9, hz9, hf⟩ := ob_bind hf
              refine vp_callSi (g_run (va_runS (As := [.int z1]) (rest := [.int ((16 : Int32) * z8.1), .int v4_28, .ref a_mo]) ⟨hx, hb, hml, hown, hts⟩ (c_M_sizeOf l dC dI cI cB cS cT N z1 z9 hz9) ⟨(callB_of 1 hts (gi tw_1057 rfl) rfl rfl rfl (hts _ (List.mem_cons_of_mem _ tw_16)) (hts _ (List.mem_cons_of_mem _ tw_1055)) (by decide +kernel) ⟨Nat.le_of_ble_eq_true rfl, Nat.le_of_ble_eq_true rfl⟩), hts _ (List.mem_cons_of_mem _ tw_1056)⟩ ⟨gp_blind, gp_at hKN (g_pm hP [] rfl)⟩ rfl rfl hl.1 rfl (lv_room (Nat.le_of_ble_eq_true rfl)) d_m1101_119 ⟨Nat.zero_le _, Nat.zero_le _⟩)) (fun r hrz9 => ?_)
              have hrz9 := hrz9.symm
              subst hrz9
              refine W.eq (g2 := F0 m 122 ls [.int z9, .int ((16 : Int32) * z8.1), .int v4_28, .ref a_mo]) rfl ?_
              refine lv_iadd hx hb d_m1101_122 ?_
              obtain ⟨z10, hz10, hf⟩ := ob_bind hf
              refine g_callv (wc := (w_M_word cI cB cS cT a_mo a_mo_lengths a_mo_codes a_mo_out a_mo_times a_mo_h a_mo_v a_mo_across a_mo_down a_mo_ownAcross a_mo_ownDown a_mo_base a_mo_coefficients a_mo_before0 a_mo_draftCounts a_mo_draft a_mo_words a_mo_directOf a_mo_otherOf a_mo_data a_mo_prediction a_mo_runBits a_mo_toCome a_mo_timesKept mo_thrown mo_width mo_height mo_many mo_unitsAcross mo_unitsDown mo_drafts mo_mask mo_first mo_last mo_before mo_bits mo_interval mo_size z8.2.1 z8.2.2.1 z8.2.2.2.1 z8.2.2.2.2.1 mo_counting z7.2.2.2.2.1 z7.2.2.2.2.2.1 mo_comes mo_at mo_taken mo_left mo_fault mo_lengths mo_codes z8.2.2.2.2.2.1 z8.2.2.2.2.2.2)) (w1 := (w_M_word cI cB cS cT a_mo a_mo_lengths a_mo_codes a_mo_out a_mo_times a_mo_h a_mo_v a_mo_across a_mo_down a_mo_ownAcross a_mo_ownDown a_mo_base a_mo_coefficients a_mo_before0 a_mo_draftCounts a_mo_draft a_mo_words a_mo_directOf a_mo_otherOf a_mo_data a_mo_prediction a_mo_runBits a_mo_toCome a_mo_timesKept mo_thrown mo_width mo_height mo_many mo_unitsAcross mo_unitsDown mo_drafts mo_mask mo_first mo_last mo_before mo_bits mo_interval mo_size z10.1 z10.2.1 z10.2.2.1 z10.2.2.2.1 mo_counting z7.2.2.2.2.1 z7.2.2.2.2.2.1 mo_comes mo_at mo_taken mo_left mo_fault mo_lengths mo_codes z10.2.2.2.2.1 z10.2.2.2.2.2)) (w2 := (w_M_writeOthers cI cB cS cT a_mo a_mo_base a_mo_coefficients a_mo_lengths a_mo_codes a_mo_otherOf a_mo_out a_mo_times a_mo_runBits a_mo_h a_mo_v a_mo_across a_mo_down a_mo_ownAcross a_mo_ownDown a_mo_before0 a_mo_draftCounts a_mo_draft a_mo_words a_mo_directOf a_mo_data a_mo_prediction a_mo_toCome a_mo_timesKept mo_thrown mo_width mo_height mo_many mo_unitsAcross mo_unitsDown mo_drafts mo_mask mo_first mo_last mo_before mo_bits mo_interval mo_size z10.1 z10.2.1 z10.2.2.1 z10.2.2.2.1 mo_counting z7.2.2.2.2.1 z7.2.2.2.2.2.1 mo_comes mo_at mo_taken mo_left mo_fault mo_base mo_coefficients mo_lengths mo_codes mo_otherOf z10.2.2.2.2.1 z10.2.2.2.2.2 mo_runBits)) [0, 3, 4, 6, 7] [some 0, none, none, some 1, some 2, none, some 3, some 4, none] hP hD hS hA rfl rfl rfl rfl (va_runV (As := [.int v4_28, .int (((16 : Int32) * z8.1) + z9)]) (rest := []) ⟨hx, hb, hml, hown, hts⟩ (c_M_word l dC dI cI cB cS cT N a_mo a_mo_lengths a_mo_codes a_mo_out a_mo_times a_mo_h a_mo_v a_mo_across a_mo_down a_mo_ownAcross a_mo_ownDown a_mo_base a_mo_coefficients a_mo_before0 a_mo_draftCounts a_mo_draft a_mo_words a_mo_directOf a_mo_otherOf a_mo_data a_mo_prediction a_mo_runBits a_mo_toCome a_mo_timesKept mo_thrown mo_width mo_height mo_many mo_unitsAcross mo_unitsDown mo_drafts mo_mask mo_first mo_last mo_before mo_bits mo_interval mo_size z8.2.1 z8.2.2.1 z8.2.2.2.1 z8.2.2.2.2.1 mo_counting z7.2.2.2.2.1 z7.2.2.2.2.2.1 mo_comes mo_at mo_taken mo_left mo_fault mo_lengths mo_codes z8.2.2.2.2.2.1 z8.2.2.2.2.2.2 v4_28 (((16 : Int32) * z8.1) + z9) H.size z10 hz10) ⟨(callB_of 2 hts (gi tw_1061 rfl) rfl rfl rfl (hts _ (List.mem_cons_of_mem _ tw_16)) (hts _ (List.mem_cons_of_mem _ tw_1058)) (by decide +kernel) ⟨Nat.le_of_ble_eq_true rfl, Nat.le_of_ble_eq_true rfl⟩), hts _ (List.mem_cons_of_mem _ tw_1060), hts _ (List.mem_cons_of_mem _ ts_m1061)⟩ ⟨g_blind, va_recv hK hP (ci := 11) (q0 := 0) rfl rfl, g_at hKN (g_pm hP [0, 3, 4, 6, 7] rfl) (hD.sub [0, 3, 4, 6, 7] (by decide) rfl)⟩ rfl rfl hl.1 rfl (lv_room (Nat.le_of_ble_eq_true rfl)) d_m1101_123 ⟨Nat.zero_le _, Nat.zero_le _⟩) (fun H locs hP hD hS => ?_)
              refine W.eq (g2 := F0 m 126 ls []) rfl ?_
              refine lv_aload_n hx hb d_m1101_126 rfl (lv_at hl 0 rfl) ?_
              refine lv_iload hx hb d_m1101_127 (lv_at hl 7 rfl) ?_
              obtain ⟨z11, hz11, hf⟩ := ob_bind hf
              refine g_callv (wc := (w_M_number cI cB cS cT a_mo a_mo_out a_mo_h a_mo_v a_mo_across a_mo_down a_mo_ownAcross a_mo_ownDown a_mo_base a_mo_coefficients a_mo_before0 a_mo_draftCounts a_mo_draft a_mo_words a_mo_lengths a_mo_codes a_mo_directOf a_mo_otherOf a_mo_data a_mo_times a_mo_prediction a_mo_runBits a_mo_toCome a_mo_timesKept mo_thrown mo_width mo_height mo_many mo_unitsAcross mo_unitsDown mo_drafts mo_mask mo_first mo_last mo_before mo_bits mo_interval mo_size z10.1 z10.2.1 z10.2.2.1 z10.2.2.2.1 mo_counting z7.2.2.2.2.1 z7.2.2.2.2.2.1 mo_comes mo_at mo_taken mo_left mo_fault z10.2.2.2.2.1)) (w1 := (w_M_number cI cB cS cT a_mo a_mo_out a_mo_h a_mo_v a_mo_across a_mo_down a_mo_ownAcross a_mo_ownDown a_mo_base a_mo_coefficients a_mo_before0 a_mo_draftCounts a_mo_draft a_mo_words a_mo_lengths a_mo_codes a_mo_directOf a_mo_otherOf a_mo_data a_mo_times a_mo_prediction a_mo_runBits a_mo_toCome a_mo_timesKept mo_thrown mo_width mo_height mo_many mo_unitsAcross mo_unitsDown mo_drafts mo_mask mo_first mo_last mo_before mo_bits mo_interval mo_size z11.1 z11.2.1 z11.2.2.1 z11.2.2.2.1 mo_counting z7.2.2.2.2.1 z7.2.2.2.2.2.1 mo_comes mo_at mo_taken mo_left mo_fault z11.2.2.2.2)) (w2 := (w_M_writeOthers cI cB cS cT a_mo a_mo_base a_mo_coefficients a_mo_lengths a_mo_codes a_mo_otherOf a_mo_out a_mo_times a_mo_runBits a_mo_h a_mo_v a_mo_across a_mo_down a_mo_ownAcross a_mo_ownDown a_mo_before0 a_mo_draftCounts a_mo_draft a_mo_words a_mo_directOf a_mo_data a_mo_prediction a_mo_toCome a_mo_timesKept mo_thrown mo_width mo_height mo_many mo_unitsAcross mo_unitsDown mo_drafts mo_mask mo_first mo_last mo_before mo_bits mo_interval mo_size z11.1 z11.2.1 z11.2.2.1 z11.2.2.2.1 mo_counting z7.2.2.2.2.1 z7.2.2.2.2.2.1 mo_comes mo_at mo_taken mo_left mo_fault mo_base mo_coefficients mo_lengths mo_codes mo_otherOf z11.2.2.2.2 z10.2.2.2.2.2 mo_runBits)) [0, 6] [some 0, none, none, none, none, none, some 1, none, none] hP hD hS hA rfl rfl rfl rfl (va_runV (As := [.int z1]) (rest := []) ⟨hx, hb, hml, hown, hts⟩ (c_M_number l dC dI cI cB cS cT N a_mo a_mo_out a_mo_h a_mo_v a_mo_across a_mo_down a_mo_ownAcross a_mo_ownDown a_mo_base a_mo_coefficients a_mo_before0 a_mo_draftCounts a_mo_draft a_mo_words a_mo_lengths a_mo_codes a_mo_directOf a_mo_otherOf a_mo_data a_mo_times a_mo_prediction a_mo_runBits a_mo_toCome a_mo_timesKept mo_thrown mo_width mo_height mo_many mo_unitsAcross mo_unitsDown mo_drafts mo_mask mo_first mo_last mo_before mo_bits mo_interval mo_size z10.1 z10.2.1 z10.2.2.1 z10.2.2.2.1 mo_counting z7.2.2.2.2.1 z7.2.2.2.2.2.1 mo_comes mo_at mo_taken mo_left mo_fault z10.2.2.2.2.1 z1 H.size z11 hz11) ⟨(callB_of 1 hts (gi tw_1097 rfl) rfl rfl rfl (hts _ (List.mem_cons_of_mem _ tw_16)) (hts _ (List.mem_cons_of_mem _ tw_1094)) (by decide +kernel) ⟨Nat.le_of_ble_eq_true rfl, Nat.le_of_ble_eq_true rfl⟩), hts _ (List.mem_cons_of_mem _ tw_1096), hts _ (List.mem_cons_of_mem _ ts_m1097)⟩ ⟨g_blind, va_recv hK hP (ci := 11) (q0 := 0) rfl rfl, g_at hKN (g_pm hP [0, 6] rfl) (hD.sub [0, 6] (by decide) rfl)⟩ rfl rfl hl.1 rfl (lv_room (Nat.le_of_ble_eq_true rfl)) d_m1101_129 ⟨Nat.zero_le _, Nat.zero_le _⟩) (fun H locs hP hD hS => ?_)
              refine W.eq (g2 := F0 m 132 ls []) rfl ?_
              refine lv_iconst (v := (0 : Int32)) hx hb d_m1101_132 (by decide) ?_
              refine lv_istore (lv' := [(6, .int (0 : Int32)), (0, .ref a_mo), (1, .int p0), (2, .int p1), (4, .int v4_28), (5, .int v5_28), (7, .int v7_28), (8, .int z1)]) hx hb d_m1101_133 hl (by decide) rfl (fun ls hl => ?_)
              exact J28_135 (0 : Int32) z11.1 z11.2.1 z11.2.2.1 z11.2.2.2.1 z7.2.2.2.2.1 z7.2.2.2.2.2.1 z11.2.2.2.2 z10.2.2.2.2.2 hf H locs ls hP hD hS (lv_sub hl [1, 2, 3, 4, 5, 0, 6] rfl)
        · replace hf := (if_pos hc).symm.trans hf
          refine lv_iinc (v := v6_28 + (1 : Int32)) (lv' := [(6, .int (v6_28 + (1 : Int32))), (8, .int z1), (0, .ref a_mo), (1, .int p0), (2, .int p1), (4, .int v4_28), (5, .int v5_28), (7, .int v7_28)]) hx hb d_m1101_70 hl (k := 6) rfl rfl (by decide) rfl (fun ls hl => ?_)
          refine lv_goto (tgt := 135) hx hb d_m1101_73 (by decide) ?_
          exact J28_135 (v6_28 + (1 : Int32)) mo_outs_28 mo_part_28 mo_parted_28 mo_failed_28 mo_run_28 mo_runMany_28 mo_out_28 mo_times_28 hf H locs ls hP hD hS (lv_sub hl [2, 3, 4, 5, 6, 0, 7] rfl)
  have J158 : ∀ (v4_j158 : Int32) (v5_j158 : Int32) (v6_j158 : Int32) (mo_outs_j158 : Int32) (mo_part_j158 : Int32) (mo_parted_j158 : Int32) (mo_failed_j158 : Int32) (mo_run_j158 : Int32) (mo_runMany_j158 : Int32) (mo_out_j158 : Nat → Int32) (mo_times_j158 : Nat → Int32), f_M_writeOthers_J158 N v6_j158 mo_outs_j158 mo_part_j158 mo_parted_j158 mo_failed_j158 mo_run_j158 mo_runMany_j158 mo_out_j158 mo_times_j158 v5_j158 v4_j158 mo_counting mo_lengths mo_codes mo_runBits = some z → GW (dC, dI) A p l e (headSpec ws_m1101 rm_M_writeOthers).room s m args below meth c 0 0 Q 9 158 (w_M_writeOthers cI cB cS cT a_mo a_mo_base a_mo_coefficients a_mo_lengths a_mo_codes a_mo_otherOf a_mo_out a_mo_times a_mo_runBits a_mo_h a_mo_v a_mo_across a_mo_down a_mo_ownAcross a_mo_ownDown a_mo_before0 a_mo_draftCounts a_mo_draft a_mo_words a_mo_directOf a_mo_data a_mo_prediction a_mo_toCome a_mo_timesKept mo_thrown mo_width mo_height mo_many mo_unitsAcross mo_unitsDown mo_drafts mo_mask mo_first mo_last mo_before mo_bits mo_interval mo_size mo_outs_j158 mo_part_j158 mo_parted_j158 mo_failed_j158 mo_counting mo_run_j158 mo_runMany_j158 mo_comes mo_at mo_taken mo_left mo_fault mo_base mo_coefficients mo_lengths mo_codes mo_otherOf mo_out_j158 mo_times_j158 mo_runBits) [(0, .ref a_mo), (4, .int v4_j158), (5, .int v5_j158), (6, .int v6_j158)] [] := by
    intro v4_j158 v5_j158 v6_j158 mo_outs_j158 mo_part_j158 mo_parted_j158 mo_failed_j158 mo_run_j158 mo_runMany_j158 mo_out_j158 mo_times_j158 hf H locs ls hP hD hS hl
    unfold f_M_writeOthers_J158 at hf
    refine lv_iload hx hb d_m1101_158 (lv_at hl 3 rfl) ?_
    refine lv_if_le (tgt := 194) hx hb d_m1101_160 (by decide) (fun hc => ?_) (fun hc => ?_)
    · replace hf := (if_pos hc).symm.trans hf
      obtain rfl := Option.some.inj hf
      subst hQ
      subst hAe
      exact W.vret hx hb hr (fun t ht hW => ⟨⟨(), rfl, trivial, by rw [ht]; exact hP, hD⟩, hS.F ht⟩) hS.2.2 d_m1101_194
    · replace hf := (if_neg hc).symm.trans hf
      refine lv_iload hx hb d_m1101_163 (lv_at hl 2 rfl) ?_
      refine lv_if_eq (tgt := 194) hx hb d_m1101_165 (by decide) (fun hc => ?_) (fun hc => ?_)
      · replace hf := (if_pos hc).symm.trans hf
        obtain rfl := Option.some.inj hf
        subst hQ
        subst hAe
        exact W.vret hx hb hr (fun t ht hW => ⟨⟨(), rfl, trivial, by rw [ht]; exact hP, hD⟩, hS.F ht⟩) hS.2.2 d_m1101_194
      · replace hf := (if_neg hc).symm.trans hf
        refine lv_aload_n hx hb d_m1101_168 rfl (lv_at hl 0 rfl) ?_
        refine lv_dup hx hb d_m1101_169 rfl ?_
        refine va_get (D := (dC, dI)) (ci := 11) (v := .int mo_run_j158) (C := "ScanCoderModel") (T := T_11) (N := 49) hx hb hts n0 hown hK hP 0 rfl rfl 39 (by decide) k6 (fun _ h9 => h9) rfl d_m1101_170 ?_
        refine lv_iconst (v := (1 : Int32)) hx hb d_m1101_173 (by decide) ?_
        refine lv_iadd hx hb d_m1101_174 ?_
        refine va_put (D := (dC, dI)) (ci := 11) (v := .int (mo_run_j158 + (1 : Int32))) (ty := .int) (C := "ScanCoderModel") (T := T_11) (N := 49) hx hb hts n0 ty_11 tyok_11 nm_11 hown hK hP hD hS 0 rfl rfl 39 (by decide) k6 (fun _ h9 => h9) rfl (by decide +kernel) rfl rfl (Nat.le_of_ble_eq_true rfl) d_m1101_175 (fun H locs hP hD hS => ?_)
        have hP : va_P (dC, dI) vwCl (w_M_writeOthers cI cB cS cT a_mo a_mo_base a_mo_coefficients a_mo_lengths a_mo_codes a_mo_otherOf a_mo_out a_mo_times a_mo_runBits a_mo_h a_mo_v a_mo_across a_mo_down a_mo_ownAcross a_mo_ownDown a_mo_before0 a_mo_draftCounts a_mo_draft a_mo_words a_mo_directOf a_mo_data a_mo_prediction a_mo_toCome a_mo_timesKept mo_thrown mo_width mo_height mo_many mo_unitsAcross mo_unitsDown mo_drafts mo_mask mo_first mo_last mo_before mo_bits mo_interval mo_size mo_outs_j158 mo_part_j158 mo_parted_j158 mo_failed_j158 mo_counting (mo_run_j158 + (1 : Int32)) mo_runMany_j158 mo_comes mo_at mo_taken mo_left mo_fault mo_base mo_coefficients mo_lengths mo_codes mo_otherOf mo_out_j158 mo_times_j158 mo_runBits) H := hP
        have hD : va_D A (w_M_writeOthers cI cB cS cT a_mo a_mo_base a_mo_coefficients a_mo_lengths a_mo_codes a_mo_otherOf a_mo_out a_mo_times a_mo_runBits a_mo_h a_mo_v a_mo_across a_mo_down a_mo_ownAcross a_mo_ownDown a_mo_before0 a_mo_draftCounts a_mo_draft a_mo_words a_mo_directOf a_mo_data a_mo_prediction a_mo_toCome a_mo_timesKept mo_thrown mo_width mo_height mo_many mo_unitsAcross mo_unitsDown mo_drafts mo_mask mo_first mo_last mo_before mo_bits mo_interval mo_size mo_outs_j158 mo_part_j158 mo_parted_j158 mo_failed_j158 mo_counting (mo_run_j158 + (1 : Int32)) mo_runMany_j158 mo_comes mo_at mo_taken mo_left mo_fault mo_base mo_coefficients mo_lengths mo_codes mo_otherOf mo_out_j158 mo_times_j158 mo_runBits) := hD
        refine lv_aload_n hx hb d_m1101_178 rfl (lv_at hl 0 rfl) ?_
        refine va_get (D := (dC, dI)) (ci := 11) (v := .int (mo_run_j158 + (1 : Int32))) (C := "ScanCoderModel") (T := T_11) (N := 49) hx hb hts n0 hown hK hP 0 rfl rfl 39 (by decide) k6 (fun _ h9 => h9) rfl d_m1101_179 ?_
        refine lv_sipush (v := (32767 : Int32)) hx hb d_m1101_182 (by decide) ?_
        refine lv_icmp_ne (tgt := 194) hx hb d_m1101_185 (by decide) (fun hc => ?_) (fun hc => ?_)
        · replace hf := (if_neg hc).symm.trans hf
          obtain rfl := Option.some.inj hf
          subst hQ
          subst hAe
          exact W.vret hx hb hr (fun t ht hW => ⟨⟨(), rfl, trivial, by rw [ht]; exact hP, hD⟩, hS.F ht⟩) hS.2.2 d_m1101_194
        · replace hf := (if_pos hc).symm.trans hf
          refine lv_aload_n hx hb d_m1101_188 rfl (lv_at hl 0 rfl) ?_
          refine lv_iload hx hb d_m1101_189 (lv_at hl 1 rfl) ?_
          obtain ⟨z13, hz13, hf⟩ := ob_bind hf
          refine g_callv (wc := (w_M_sendRun cI cB cS cT a_mo a_mo_lengths a_mo_codes a_mo_out a_mo_times a_mo_runBits a_mo_h a_mo_v a_mo_across a_mo_down a_mo_ownAcross a_mo_ownDown a_mo_base a_mo_coefficients a_mo_before0 a_mo_draftCounts a_mo_draft a_mo_words a_mo_directOf a_mo_otherOf a_mo_data a_mo_prediction a_mo_toCome a_mo_timesKept mo_thrown mo_width mo_height mo_many mo_unitsAcross mo_unitsDown mo_drafts mo_mask mo_first mo_last mo_before mo_bits mo_interval mo_size mo_outs_j158 mo_part_j158 mo_parted_j158 mo_failed_j158 mo_counting (mo_run_j158 + (1 : Int32)) mo_runMany_j158 mo_comes mo_at mo_taken mo_left mo_fault mo_lengths mo_codes mo_out_j158 mo_times_j158 mo_runBits)) (w1 := (w_M_sendRun cI cB cS cT a_mo a_mo_lengths a_mo_codes a_mo_out a_mo_times a_mo_runBits a_mo_h a_mo_v a_mo_across a_mo_down a_mo_ownAcross a_mo_ownDown a_mo_base a_mo_coefficients a_mo_before0 a_mo_draftCounts a_mo_draft a_mo_words a_mo_directOf a_mo_otherOf a_mo_data a_mo_prediction a_mo_toCome a_mo_timesKept mo_thrown mo_width mo_height mo_many mo_unitsAcross mo_unitsDown mo_drafts mo_mask mo_first mo_last mo_before mo_bits mo_interval mo_size z13.1 z13.2.1 z13.2.2.1 z13.2.2.2.1 mo_counting z13.2.2.2.2.1 z13.2.2.2.2.2.1 mo_comes mo_at mo_taken mo_left mo_fault mo_lengths mo_codes z13.2.2.2.2.2.2.1 z13.2.2.2.2.2.2.2 mo_runBits)) (w2 := (w_M_writeOthers cI cB cS cT a_mo a_mo_base a_mo_coefficients a_mo_lengths a_mo_codes a_mo_otherOf a_mo_out a_mo_times a_mo_runBits a_mo_h a_mo_v a_mo_across a_mo_down a_mo_ownAcross a_mo_ownDown a_mo_before0 a_mo_draftCounts a_mo_draft a_mo_words a_mo_directOf a_mo_data a_mo_prediction a_mo_toCome a_mo_timesKept mo_thrown mo_width mo_height mo_many mo_unitsAcross mo_unitsDown mo_drafts mo_mask mo_first mo_last mo_before mo_bits mo_interval mo_size z13.1 z13.2.1 z13.2.2.1 z13.2.2.2.1 mo_counting z13.2.2.2.2.1 z13.2.2.2.2.2.1 mo_comes mo_at mo_taken mo_left mo_fault mo_base mo_coefficients mo_lengths mo_codes mo_otherOf z13.2.2.2.2.2.2.1 z13.2.2.2.2.2.2.2 mo_runBits)) [0, 3, 4, 6, 7, 8] [some 0, none, none, some 1, some 2, none, some 3, some 4, some 5] hP hD hS hA rfl rfl rfl rfl (va_runV (As := [.int v4_j158]) (rest := []) ⟨hx, hb, hml, hown, hts⟩ (c_M_sendRun l dC dI cI cB cS cT N a_mo a_mo_lengths a_mo_codes a_mo_out a_mo_times a_mo_runBits a_mo_h a_mo_v a_mo_across a_mo_down a_mo_ownAcross a_mo_ownDown a_mo_base a_mo_coefficients a_mo_before0 a_mo_draftCounts a_mo_draft a_mo_words a_mo_directOf a_mo_otherOf a_mo_data a_mo_prediction a_mo_toCome a_mo_timesKept mo_thrown mo_width mo_height mo_many mo_unitsAcross mo_unitsDown mo_drafts mo_mask mo_first mo_last mo_before mo_bits mo_interval mo_size mo_outs_j158 mo_part_j158 mo_parted_j158 mo_failed_j158 mo_counting (mo_run_j158 + (1 : Int32)) mo_runMany_j158 mo_comes mo_at mo_taken mo_left mo_fault mo_lengths mo_codes mo_out_j158 mo_times_j158 mo_runBits v4_j158 H.size z13 hz13) ⟨(callB_of 1 hts (gi tw_1054 rfl) rfl rfl rfl (hts _ (List.mem_cons_of_mem _ tw_16)) (hts _ (List.mem_cons_of_mem _ tw_1051)) (by decide +kernel) ⟨Nat.le_of_ble_eq_true rfl, Nat.le_of_ble_eq_true rfl⟩), hts _ (List.mem_cons_of_mem _ tw_1053), hts _ (List.mem_cons_of_mem _ ts_m1054)⟩ ⟨g_blind, va_recv hK hP (ci := 11) (q0 := 0) rfl rfl, g_at hKN (g_pm hP [0, 3, 4, 6, 7, 8] rfl) (hD.sub [0, 3, 4, 6, 7, 8] (by decide) rfl)⟩ rfl rfl hl.1 rfl (lv_room (Nat.le_of_ble_eq_true rfl)) d_m1101_191 ⟨Nat.zero_le _, Nat.zero_le _⟩) (fun H locs hP hD hS => ?_)
          refine W.eq (g2 := F0 m 194 ls []) rfl ?_
          obtain rfl := Option.some.inj hf
          subst hQ
          subst hAe
          exact W.vret hx hb hr (fun t ht hW => ⟨⟨(), rfl, trivial, by rw [ht]; exact hP, hD⟩, hS.F ht⟩) hS.2.2 d_m1101_194
  have J20 : ∀ (v4_j20 : Int32) (s0_j20 : Int32), f_M_writeOthers_J20 N mo_last p0 mo_base p1 mo_coefficients mo_bits s0_j20 v4_j20 mo_counting mo_lengths mo_codes mo_runBits p2 mo_outs mo_part mo_parted mo_failed mo_run mo_runMany mo_out mo_times = some z → GW (dC, dI) A p l e (headSpec ws_m1101 rm_M_writeOthers).room s m args below meth c 0 0 Q 9 20 (w_M_writeOthers cI cB cS cT a_mo a_mo_base a_mo_coefficients a_mo_lengths a_mo_codes a_mo_otherOf a_mo_out a_mo_times a_mo_runBits a_mo_h a_mo_v a_mo_across a_mo_down a_mo_ownAcross a_mo_ownDown a_mo_before0 a_mo_draftCounts a_mo_draft a_mo_words a_mo_directOf a_mo_data a_mo_prediction a_mo_toCome a_mo_timesKept mo_thrown mo_width mo_height mo_many mo_unitsAcross mo_unitsDown mo_drafts mo_mask mo_first mo_last mo_before mo_bits mo_interval mo_size mo_outs mo_part mo_parted mo_failed mo_counting mo_run mo_runMany mo_comes mo_at mo_taken mo_left mo_fault mo_base mo_coefficients mo_lengths mo_codes mo_otherOf mo_out mo_times mo_runBits) [(0, .ref a_mo), (1, .int p0), (2, .int p1), (3, .int p2), (4, .int v4_j20)] [.int s0_j20] := by
    intro v4_j20 s0_j20 hf H locs ls hP hD hS hl
    unfold f_M_writeOthers_J20 at hf
    refine lv_istore (lv' := [(5, .int s0_j20), (0, .ref a_mo), (1, .int p0), (2, .int p1), (3, .int p2), (4, .int v4_j20)]) hx hb d_m1101_20 hl (by decide) rfl (fun ls hl => ?_)
    refine lv_iconst (v := (0 : Int32)) hx hb d_m1101_22 (by decide) ?_
    refine lv_istore (lv' := [(6, .int (0 : Int32)), (5, .int s0_j20), (0, .ref a_mo), (1, .int p0), (2, .int p1), (3, .int p2), (4, .int v4_j20)]) hx hb d_m1101_23 hl (by decide) rfl (fun ls hl => ?_)
    refine lv_iload_n hx hb d_m1101_25 rfl (lv_at hl 5 rfl) ?_
    refine lv_istore (lv' := [(7, .int p2), (6, .int (0 : Int32)), (5, .int s0_j20), (0, .ref a_mo), (1, .int p0), (2, .int p1), (3, .int p2), (4, .int v4_j20)]) hx hb d_m1101_26 hl (by decide) rfl (fun ls hl => ?_)
    obtain ⟨z12, hz12, hf⟩ := ob_bind hf
    refine L28 v4_j20 s0_j20 z12 ?_ N (0 : Int32) p2 mo_outs mo_part mo_parted mo_failed mo_run mo_runMany mo_out mo_times hz12 H locs ls hP hD hS (lv_sub hl [3, 4, 5, 7, 2, 1, 0] rfl)
    · intro H locs ls hP hD hS hl
      refine lv_iload hx hb d_m1101_141 (lv_at hl 3 rfl) ?_
      refine lv_if_le (tgt := 158) hx hb d_m1101_143 (by decide) (fun hc => ?_) (fun hc => ?_)
      · replace hf := (if_pos hc).symm.trans hf
        exact J158 v4_j20 s0_j20 z12.1 z12.2.1 z12.2.2.1 z12.2.2.2.1 z12.2.2.2.2.1 z12.2.2.2.2.2.1 z12.2.2.2.2.2.2.1 z12.2.2.2.2.2.2.2.1 z12.2.2.2.2.2.2.2.2 hf H locs ls hP hD hS hl
      · replace hf := (if_neg hc).symm.trans hf
        refine lv_iload hx hb d_m1101_146 (lv_at hl 2 rfl) ?_
        refine lv_if_ne (tgt := 158) hx hb d_m1101_148 (by decide) (fun hc => ?_) (fun hc => ?_)
        · replace hf := (if_neg hc).symm.trans hf
          exact J158 v4_j20 s0_j20 z12.1 z12.2.1 z12.2.2.1 z12.2.2.2.1 z12.2.2.2.2.1 z12.2.2.2.2.2.1 z12.2.2.2.2.2.2.1 z12.2.2.2.2.2.2.2.1 z12.2.2.2.2.2.2.2.2 hf H locs ls hP hD hS hl
        · replace hf := (if_pos hc).symm.trans hf
          refine lv_aload_n hx hb d_m1101_151 rfl (lv_at hl 0 rfl) ?_
          refine lv_iload hx hb d_m1101_152 (lv_at hl 1 rfl) ?_
          refine lv_iconst (v := (0 : Int32)) hx hb d_m1101_154 (by decide) ?_
          obtain ⟨z14, hz14, hf⟩ := ob_bind hf
          refine g_callv (wc := (w_M_word cI cB cS cT a_mo a_mo_lengths a_mo_codes a_mo_out a_mo_times a_mo_h a_mo_v a_mo_across a_mo_down a_mo_ownAcross a_mo_ownDown a_mo_base a_mo_coefficients a_mo_before0 a_mo_draftCounts a_mo_draft a_mo_words a_mo_directOf a_mo_otherOf a_mo_data a_mo_prediction a_mo_runBits a_mo_toCome a_mo_timesKept mo_thrown mo_width mo_height mo_many mo_unitsAcross mo_unitsDown mo_drafts mo_mask mo_first mo_last mo_before mo_bits mo_interval mo_size z12.2.1 z12.2.2.1 z12.2.2.2.1 z12.2.2.2.2.1 mo_counting z12.2.2.2.2.2.1 z12.2.2.2.2.2.2.1 mo_comes mo_at mo_taken mo_left mo_fault mo_lengths mo_codes z12.2.2.2.2.2.2.2.1 z12.2.2.2.2.2.2.2.2)) (w1 := (w_M_word cI cB cS cT a_mo a_mo_lengths a_mo_codes a_mo_out a_mo_times a_mo_h a_mo_v a_mo_across a_mo_down a_mo_ownAcross a_mo_ownDown a_mo_base a_mo_coefficients a_mo_before0 a_mo_draftCounts a_mo_draft a_mo_words a_mo_directOf a_mo_otherOf a_mo_data a_mo_prediction a_mo_runBits a_mo_toCome a_mo_timesKept mo_thrown mo_width mo_height mo_many mo_unitsAcross mo_unitsDown mo_drafts mo_mask mo_first mo_last mo_before mo_bits mo_interval mo_size z14.1 z14.2.1 z14.2.2.1 z14.2.2.2.1 mo_counting z12.2.2.2.2.2.1 z12.2.2.2.2.2.2.1 mo_comes mo_at mo_taken mo_left mo_fault mo_lengths mo_codes z14.2.2.2.2.1 z14.2.2.2.2.2)) (w2 := (w_M_writeOthers cI cB cS cT a_mo a_mo_base a_mo_coefficients a_mo_lengths a_mo_codes a_mo_otherOf a_mo_out a_mo_times a_mo_runBits a_mo_h a_mo_v a_mo_across a_mo_down a_mo_ownAcross a_mo_ownDown a_mo_before0 a_mo_draftCounts a_mo_draft a_mo_words a_mo_directOf a_mo_data a_mo_prediction a_mo_toCome a_mo_timesKept mo_thrown mo_width mo_height mo_many mo_unitsAcross mo_unitsDown mo_drafts mo_mask mo_first mo_last mo_before mo_bits mo_interval mo_size z14.1 z14.2.1 z14.2.2.1 z14.2.2.2.1 mo_counting z12.2.2.2.2.2.1 z12.2.2.2.2.2.2.1 mo_comes mo_at mo_taken mo_left mo_fault mo_base mo_coefficients mo_lengths mo_codes mo_otherOf z14.2.2.2.2.1 z14.2.2.2.2.2 mo_runBits)) [0, 3, 4, 6, 7] [some 0, none, none, some 1, some 2, none, some 3, some 4, none] hP hD hS hA rfl rfl rfl rfl (va_runV (As := [.int v4_j20, .int (0 : Int32)]) (rest := []) ⟨hx, hb, hml, hown, hts⟩ (c_M_word l dC dI cI cB cS cT N a_mo a_mo_lengths a_mo_codes a_mo_out a_mo_times a_mo_h a_mo_v a_mo_across a_mo_down a_mo_ownAcross a_mo_ownDown a_mo_base a_mo_coefficients a_mo_before0 a_mo_draftCounts a_mo_draft a_mo_words a_mo_directOf a_mo_otherOf a_mo_data a_mo_prediction a_mo_runBits a_mo_toCome a_mo_timesKept mo_thrown mo_width mo_height mo_many mo_unitsAcross mo_unitsDown mo_drafts mo_mask mo_first mo_last mo_before mo_bits mo_interval mo_size z12.2.1 z12.2.2.1 z12.2.2.2.1 z12.2.2.2.2.1 mo_counting z12.2.2.2.2.2.1 z12.2.2.2.2.2.2.1 mo_comes mo_at mo_taken mo_left mo_fault mo_lengths mo_codes z12.2.2.2.2.2.2.2.1 z12.2.2.2.2.2.2.2.2 v4_j20 (0 : Int32) H.size z14 hz14) ⟨(callB_of 2 hts (gi tw_1061 rfl) rfl rfl rfl (hts _ (List.mem_cons_of_mem _ tw_16)) (hts _ (List.mem_cons_of_mem _ tw_1058)) (by decide +kernel) ⟨Nat.le_of_ble_eq_true rfl, Nat.le_of_ble_eq_true rfl⟩), hts _ (List.mem_cons_of_mem _ tw_1060), hts _ (List.mem_cons_of_mem _ ts_m1061)⟩ ⟨g_blind, va_recv hK hP (ci := 11) (q0 := 0) rfl rfl, g_at hKN (g_pm hP [0, 3, 4, 6, 7] rfl) (hD.sub [0, 3, 4, 6, 7] (by decide) rfl)⟩ rfl rfl hl.1 rfl (lv_room (Nat.le_of_ble_eq_true rfl)) d_m1101_155 ⟨Nat.zero_le _, Nat.zero_le _⟩) (fun H locs hP hD hS => ?_)
          refine W.eq (g2 := F0 m 158 ls []) rfl ?_
          exact J158 v4_j20 s0_j20 z12.1 z14.1 z14.2.1 z14.2.2.1 z14.2.2.2.1 z12.2.2.2.2.2.1 z12.2.2.2.2.2.2.1 z14.2.2.2.2.1 z14.2.2.2.2.2 hf H locs ls hP hD hS hl
  have hgo : ∀ (H : Heap) (locs : List Loc), va_P (dC, dI) vwCl (w_M_writeOthers cI cB cS cT a_mo a_mo_base a_mo_coefficients a_mo_lengths a_mo_codes a_mo_otherOf a_mo_out a_mo_times a_mo_runBits a_mo_h a_mo_v a_mo_across a_mo_down a_mo_ownAcross a_mo_ownDown a_mo_before0 a_mo_draftCounts a_mo_draft a_mo_words a_mo_directOf a_mo_data a_mo_prediction a_mo_toCome a_mo_timesKept mo_thrown mo_width mo_height mo_many mo_unitsAcross mo_unitsDown mo_drafts mo_mask mo_first mo_last mo_before mo_bits mo_interval mo_size mo_outs mo_part mo_parted mo_failed mo_counting mo_run mo_runMany mo_comes mo_at mo_taken mo_left mo_fault mo_base mo_coefficients mo_lengths mo_codes mo_otherOf mo_out mo_times mo_runBits) H → va_S A s.heap H locs → W p l e (headSpec ws_m1101 rm_M_writeOthers).room s m args below meth c H locs 0 0 Q (F0 m 0 ls []) := by
    intro H locs hP hS
    unfold f_M_writeOthers at hf
    refine lv_aload_n hx hb d_m1101_0 rfl (lv_at hl 0 rfl) ?_
    refine va_get (D := (dC, dI)) (ci := 11) (v := .ref a_mo_otherOf) (C := "ScanCoderModel") (T := T_11) (N := 49) hx hb hts n0 hown hK hP 0 rfl rfl 22 (by decide) k0 (fun _ h9 => h9) rfl d_m1101_1 ?_
    refine lv_iload_n hx hb d_m1101_4 rfl (lv_at hl 1 rfl) ?_
    obtain ⟨hi, hf⟩ := ob_if hf
    refine va_iald hx hb hK hP 5 0 rfl rfl hi d_m1101_5 ?_
    refine lv_istore (lv' := [(4, .int (mo_otherOf p0.toNatClampNeg)), (0, .ref a_mo), (1, .int p0), (2, .int p1), (3, .int p2)]) hx hb d_m1101_6 hl (by decide) rfl (fun ls hl => ?_)
    refine lv_aload_n hx hb d_m1101_8 rfl (lv_at hl 1 rfl) ?_
    refine va_get (D := (dC, dI)) (ci := 11) (v := .int mo_first) (C := "ScanCoderModel") (T := T_11) (N := 49) hx hb hts n0 hown hK hP 0 rfl rfl 24 (by decide) k1 (fun _ h9 => h9) rfl d_m1101_9 ?_
    refine lv_if_le (tgt := 19) hx hb d_m1101_12 (by decide) (fun hc => ?_) (fun hc => ?_)
    · replace hf := (if_pos hc).symm.trans hf
      refine lv_iconst (v := (0 : Int32)) hx hb d_m1101_19 (by decide) ?_
      exact J20 (mo_otherOf p0.toNatClampNeg) (0 : Int32) hf H locs ls hP hD hS (lv_sub hl [1, 2, 3, 4, 0] rfl)
    · replace hf := (if_neg hc).symm.trans hf
      refine lv_iconst (v := (1 : Int32)) hx hb d_m1101_15 (by decide) ?_
      refine lv_goto (tgt := 20) hx hb d_m1101_16 (by decide) ?_
      exact J20 (mo_otherOf p0.toNatClampNeg) (1 : Int32) hf H locs ls hP hD hS (lv_sub hl [1, 2, 3, 4, 0] rfl)
  exact hgo _ _ hP hS
def f_M_amount_J33 (s0_j33 : Int32) (mo_bits : Int32) : Option (Int32) :=
  some (s0_j33 >>> (mo_bits &&& 31))
def f_M_amount (p0 : Int32) (p1 : Int32) (p2 : Int32) (mo_bits : Int32) (mo_base : Nat → Int32) (mo_coefficients : Nat → Int32) : Option (Int32) :=
  if p0 < 0 ∨ 4 ≤ p0.toNatClampNeg then none else
  if (((64 : Int32) * ((mo_base p0.toNatClampNeg) + p1)) + p2) < 0 ∨ 12288 ≤ (((64 : Int32) * ((mo_base p0.toNatClampNeg) + p1)) + p2).toNatClampNeg then none else
  if 0 ≤ (mo_coefficients (((64 : Int32) * ((mo_base p0.toNatClampNeg) + p1)) + p2).toNatClampNeg) then
    f_M_amount_J33 (mo_coefficients (((64 : Int32) * ((mo_base p0.toNatClampNeg) + p1)) + p2).toNatClampNeg) mo_bits
  else
    f_M_amount_J33 (-(mo_coefficients (((64 : Int32) * ((mo_base p0.toNatClampNeg) + p1)) + p2).toNatClampNeg)) mo_bits
abbrev w_M_amount (cI cB cS cT : ClassId) (a_mo : Nat) (a_mo_base : Nat) (a_mo_coefficients : Nat) (a_mo_h : Nat) (a_mo_v : Nat) (a_mo_across : Nat) (a_mo_down : Nat) (a_mo_ownAcross : Nat) (a_mo_ownDown : Nat) (a_mo_before0 : Nat) (a_mo_draftCounts : Nat) (a_mo_draft : Nat) (a_mo_words : Nat) (a_mo_lengths : Nat) (a_mo_codes : Nat) (a_mo_directOf : Nat) (a_mo_otherOf : Nat) (a_mo_data : Nat) (a_mo_out : Nat) (a_mo_times : Nat) (a_mo_prediction : Nat) (a_mo_runBits : Nat) (a_mo_toCome : Nat) (a_mo_timesKept : Nat) (mo_thrown : Int32) (mo_width : Int32) (mo_height : Int32) (mo_many : Int32) (mo_unitsAcross : Int32) (mo_unitsDown : Int32) (mo_drafts : Int32) (mo_mask : Int32) (mo_first : Int32) (mo_last : Int32) (mo_before : Int32) (mo_bits : Int32) (mo_interval : Int32) (mo_size : Int32) (mo_outs : Int32) (mo_part : Int32) (mo_parted : Int32) (mo_failed : Int32) (mo_counting : Int32) (mo_run : Int32) (mo_runMany : Int32) (mo_comes : Int32) (mo_at : Int32) (mo_taken : Int32) (mo_left : Int32) (mo_fault : Int32) (mo_base : Nat → Int32) (mo_coefficients : Nat → Int32) : va_W := [(a_mo, .inr (11, [.int mo_thrown, .int mo_width, .int mo_height, .int mo_many, .ref a_mo_h, .ref a_mo_v, .ref a_mo_across, .ref a_mo_down, .ref a_mo_ownAcross, .ref a_mo_ownDown, .ref a_mo_base, .int mo_unitsAcross, .int mo_unitsDown, .ref a_mo_coefficients, .ref a_mo_before0, .ref a_mo_draftCounts, .ref a_mo_draft, .int mo_drafts, .ref a_mo_words, .ref a_mo_lengths, .ref a_mo_codes, .ref a_mo_directOf, .ref a_mo_otherOf, .int mo_mask, .int mo_first, .int mo_last, .int mo_before, .int mo_bits, .int mo_interval, .ref a_mo_data, .int mo_size, .ref a_mo_out, .int mo_outs, .int mo_part, .int mo_parted, .int mo_failed, .int mo_counting, .ref a_mo_times, .ref a_mo_prediction, .int mo_run, .ref a_mo_runBits, .int mo_runMany, .ref a_mo_toCome, .int mo_comes, .int mo_at, .int mo_taken, .int mo_left, .int mo_fault, .ref a_mo_timesKept])), (a_mo_base, .inl (cI, 4, .inl mo_base)), (a_mo_coefficients, .inl (cS, 12288, .inl mo_coefficients))]
def rm_M_amount : Room := { frames := 0, cells := 0, slots := 0, locals := 0 }
set_option maxHeartbeats 1000000 in
set_option maxRecDepth 100000 in
theorem c_M_amount (l : Launch) (dC : Nat → ClassId) (dI : Nat → Nat → Nat) (cI cB cS cT : ClassId) (a_mo : Nat) (a_mo_base : Nat) (a_mo_coefficients : Nat) (a_mo_h : Nat) (a_mo_v : Nat) (a_mo_across : Nat) (a_mo_down : Nat) (a_mo_ownAcross : Nat) (a_mo_ownDown : Nat) (a_mo_before0 : Nat) (a_mo_draftCounts : Nat) (a_mo_draft : Nat) (a_mo_words : Nat) (a_mo_lengths : Nat) (a_mo_codes : Nat) (a_mo_directOf : Nat) (a_mo_otherOf : Nat) (a_mo_data : Nat) (a_mo_out : Nat) (a_mo_times : Nat) (a_mo_prediction : Nat) (a_mo_runBits : Nat) (a_mo_toCome : Nat) (a_mo_timesKept : Nat) (mo_thrown : Int32) (mo_width : Int32) (mo_height : Int32) (mo_many : Int32) (mo_unitsAcross : Int32) (mo_unitsDown : Int32) (mo_drafts : Int32) (mo_mask : Int32) (mo_first : Int32) (mo_last : Int32) (mo_before : Int32) (mo_bits : Int32) (mo_interval : Int32) (mo_size : Int32) (mo_outs : Int32) (mo_part : Int32) (mo_parted : Int32) (mo_failed : Int32) (mo_counting : Int32) (mo_run : Int32) (mo_runMany : Int32) (mo_comes : Int32) (mo_at : Int32) (mo_taken : Int32) (mo_left : Int32) (mo_fault : Int32) (mo_base : Nat → Int32) (mo_coefficients : Nat → Int32) (p0 : Int32) (p1 : Int32) (p2 : Int32) (z : Int32) (hf : f_M_amount p0 p1 p2 mo_bits mo_base mo_coefficients = some z) : Met l y_m1112 ws_m1112 rm_M_amount (gPreP (dC, dI) [.ref a_mo, .int p0, .int p1, .int p2] (gT cI cB cS cT) (w_M_amount cI cB cS cT a_mo a_mo_base a_mo_coefficients a_mo_h a_mo_v a_mo_across a_mo_down a_mo_ownAcross a_mo_ownDown a_mo_before0 a_mo_draftCounts a_mo_draft a_mo_words a_mo_lengths a_mo_codes a_mo_directOf a_mo_otherOf a_mo_data a_mo_out a_mo_times a_mo_prediction a_mo_runBits a_mo_toCome a_mo_timesKept mo_thrown mo_width mo_height mo_many mo_unitsAcross mo_unitsDown mo_drafts mo_mask mo_first mo_last mo_before mo_bits mo_interval mo_size mo_outs mo_part mo_parted mo_failed mo_counting mo_run mo_runMany mo_comes mo_at mo_taken mo_left mo_fault mo_base mo_coefficients)) (vp_Si (fun r => r = z)) 0 0 (fun _ => False) := by
  refine Met.ofW (cc := prog_14_method_32_code) (maxL := 5) (ret := (some .int)) (by decide) rfl ?_
  intro p e s m args below meth c s₁ B hml hv
  obtain ⟨hargs, hP, hKN⟩ := hv
  have hK := hKN.1
  have hx := B.exec
  have hb := B.bytes
  have hr := B.returns
  have hts := atoms_spec (ws := ws_m1112) B.pre
  have hown : s.vm.findClass "ScanCoderModel" = some m.cls := findClass_of_methodNamed B.named
  have hlocks := B.notSynchronized
  have k0 := hts _ (List.mem_cons_of_mem _ tw_847)
  have k1 := hts _ (List.mem_cons_of_mem _ tw_844)
  have k2 := hts _ (List.mem_cons_of_mem _ tw_861)
  have n0 : ∀ w ∈ u_ws "ScanCoderModel" T_11 49, w ∈ ws_m1112 := fun w h => List.mem_cons_of_mem _ (in_11 w h)
  have hl := lv_entry ([.ref a_mo, .int p0, .int p1, .int p2]) (n := 5) (Nat.le_of_ble_eq_true rfl)
  have hfr : entryFrame m args 5 = F0 m 0 ((lg_sl ([.ref a_mo, .int p0, .int p1, .int p2]) ++ List.replicate (5 - (lg_sl ([.ref a_mo, .int p0, .int p1, .int p2])).length) Slot.unset).toArray) [] := by rw [hargs]; exact lg_entry_eq _ _ _
  rw [hfr]
  generalize (lg_sl ([.ref a_mo, .int p0, .int p1, .int p2]) ++ List.replicate (5 - (lg_sl ([.ref a_mo, .int p0, .int p1, .int p2])).length) Slot.unset).toArray = ls at hl ⊢
  have hl : lv_has ls 5 [(0, .ref a_mo), (1, .int p0), (2, .int p1), (3, .int p2)] := hl
  refine gen_Q (fun Q hQ => ?_)
  clear hfr
  have J33 : ∀ (s0_j33 : Int32), f_M_amount_J33 s0_j33 mo_bits = some z → GP p l e (headSpec ws_m1112 rm_M_amount).room s m args below meth c Q 5 33 [(0, .ref a_mo)] [.int s0_j33] := by
    intro s0_j33 hf ls hl
    unfold f_M_amount_J33 at hf
    refine lv_aload_n hx hb d_m1112_33 rfl (lv_at hl 0 rfl) ?_
    refine va_get (D := (dC, dI)) (ci := 11) (v := .int mo_bits) (C := "ScanCoderModel") (T := T_11) (N := 49) hx hb hts n0 hown hK hP 0 rfl rfl 27 (by decide) k2 (fun _ h9 => h9) rfl d_m1112_34 ?_
    refine lv_ishr hx hb d_m1112_37 ?_
    obtain rfl := Option.some.inj hf
    subst hQ
    exact W.iret (v := s0_j33 >>> (mo_bits &&& 31)) hx hb hr (fun t ht hW => ⟨s0_j33 >>> (mo_bits &&& 31), rfl, rfl, ht⟩) (fun q h => by cases h) d_m1112_38
  unfold f_M_amount at hf
  refine lv_aload_n hx hb d_m1112_0 rfl (lv_at hl 0 rfl) ?_
  refine va_get (D := (dC, dI)) (ci := 11) (v := .ref a_mo_coefficients) (C := "ScanCoderModel") (T := T_11) (N := 49) hx hb hts n0 hown hK hP 0 rfl rfl 13 (by decide) k0 (fun _ h9 => h9) rfl d_m1112_1 ?_
  refine lv_bipush (v := (64 : Int32)) hx hb d_m1112_4 (by decide) ?_
  refine lv_aload_n hx hb d_m1112_6 rfl (lv_at hl 0 rfl) ?_
  refine va_get (D := (dC, dI)) (ci := 11) (v := .ref a_mo_base) (C := "ScanCoderModel") (T := T_11) (N := 49) hx hb hts n0 hown hK hP 0 rfl rfl 10 (by decide) k1 (fun _ h9 => h9) rfl d_m1112_7 ?_
  refine lv_iload_n hx hb d_m1112_10 rfl (lv_at hl 1 rfl) ?_
  obtain ⟨hi, hf⟩ := ob_if hf
  refine va_iald hx hb hK hP 1 0 rfl rfl hi d_m1112_11 ?_
  refine lv_iload_n hx hb d_m1112_12 rfl (lv_at hl 2 rfl) ?_
  refine lv_iadd hx hb d_m1112_13 ?_
  refine lv_imul hx hb d_m1112_14 ?_
  refine lv_iload_n hx hb d_m1112_15 rfl (lv_at hl 3 rfl) ?_
  refine lv_iadd hx hb d_m1112_16 ?_
  obtain ⟨hi, hf⟩ := ob_if hf
  refine va_sald hx hb hK hP 2 2 rfl rfl hi d_m1112_17 ?_
  refine lv_istore (lv' := [(4, .int (mo_coefficients (((64 : Int32) * ((mo_base p0.toNatClampNeg) + p1)) + p2).toNatClampNeg)), (0, .ref a_mo), (1, .int p0), (2, .int p1), (3, .int p2)]) hx hb d_m1112_18 hl (by decide) rfl (fun ls hl => ?_)
  refine lv_iload hx hb d_m1112_20 (lv_at hl 0 rfl) ?_
  refine lv_if_ge (tgt := 31) hx hb d_m1112_22 (by decide) (fun hc => ?_) (fun hc => ?_)
  · replace hf := (if_pos hc).symm.trans hf
    refine lv_iload hx hb d_m1112_31 (lv_at hl 0 rfl) ?_
    exact J33 (mo_coefficients (((64 : Int32) * ((mo_base p0.toNatClampNeg) + p1)) + p2).toNatClampNeg) hf ls (lv_sub hl [1] rfl)
  · replace hf := (if_neg hc).symm.trans hf
    refine lv_iload hx hb d_m1112_25 (lv_at hl 0 rfl) ?_
    refine lv_ineg hx hb d_m1112_27 ?_
    refine lv_goto (tgt := 33) hx hb d_m1112_28 (by decide) ?_
    exact J33 (-(mo_coefficients (((64 : Int32) * ((mo_base p0.toNatClampNeg) + p1)) + p2).toNatClampNeg)) hf ls (lv_sub hl [1] rfl)
def f_M_writeMore_J16_44 (N : Nat) (rec : (Int32 × Int32) → Option (Int32)) (s0_j44 : Int32) (v5_16 : Int32) : Option (Int32) :=
  rec (s0_j44, v5_16 + (1 : Int32))
def f_M_writeMore_L16b (mo_last : Int32) (p0 : Int32) (p1 : Int32) (mo_bits : Int32) (mo_base : Nat → Int32) (mo_coefficients : Nat → Int32) (N : Nat) (rec : (Int32 × Int32) → Option (Int32)) (v4_16 : Int32) (v5_16 : Int32) : Option (Int32) :=
  if mo_last < v5_16 then
    some v4_16
  else
    (f_M_amount p0 p1 v5_16 mo_bits mo_base mo_coefficients).bind fun z1 =>
    if z1 = (1 : Int32) then
      f_M_writeMore_J16_44 N rec v5_16 v5_16
    else
      f_M_writeMore_J16_44 N rec v4_16 v5_16
def f_M_writeMore_L16 (mo_last : Int32) (p0 : Int32) (p1 : Int32) (mo_bits : Int32) (mo_base : Nat → Int32) (mo_coefficients : Nat → Int32) (N : Nat) (k : Nat) : (Int32 × Int32) → Option (Int32) := it (fun rec a => f_M_writeMore_L16b mo_last p0 p1 mo_bits mo_base mo_coefficients N rec a.1 a.2) k
def f_M_writeMore_L96b (v4_66 : Int32) (v6_66 : Int32) (v3_66 : Int32) (mo_counting : Int32) (mo_lengths : Nat → Int32) (mo_codes : Nat → Int32) (mo_runBits : Nat → Int32) (mo_toCome_66 : Nat → Int32) (N : Nat) (rec : (Int32 × Int32 × Int32 × Int32 × Int32 × Int32 × Int32 × Int32 × (Nat → Int32) × (Nat → Int32)) → Option (Int32 × Int32 × Int32 × Int32 × Int32 × Int32 × Int32 × Int32 × (Nat → Int32) × (Nat → Int32))) (v5_96 : Int32) (mo_outs_96 : Int32) (mo_part_96 : Int32) (mo_parted_96 : Int32) (mo_failed_96 : Int32) (mo_run_96 : Int32) (mo_runMany_96 : Int32) (mo_comes_96 : Int32) (mo_out_96 : Nat → Int32) (mo_times_96 : Nat → Int32) : Option (Int32 × Int32 × Int32 × Int32 × Int32 × Int32 × Int32 × Int32 × (Nat → Int32) × (Nat → Int32)) :=
  if v5_96 ≤ (15 : Int32) then
    some (v5_96, mo_outs_96, mo_part_96, mo_parted_96, mo_failed_96, mo_run_96, mo_runMany_96, mo_comes_96, mo_out_96, mo_times_96)
  else
    if v4_66 < v6_66 then
      some (v5_96, mo_outs_96, mo_part_96, mo_parted_96, mo_failed_96, mo_run_96, mo_runMany_96, mo_comes_96, mo_out_96, mo_times_96)
    else
      (f_M_sendRun N v3_66 mo_outs_96 mo_part_96 mo_parted_96 mo_failed_96 mo_counting mo_run_96 mo_runMany_96 mo_lengths mo_codes mo_out_96 mo_times_96 mo_runBits).bind fun z4 =>
      (f_M_word N v3_66 (240 : Int32) z4.1 z4.2.1 z4.2.2.1 z4.2.2.2.1 mo_counting mo_lengths mo_codes z4.2.2.2.2.2.2.1 z4.2.2.2.2.2.2.2).bind fun z5 =>
      (f_M_sendComing N z5.1 z5.2.1 z5.2.2.1 z5.2.2.2.1 mo_counting mo_comes_96 z5.2.2.2.2.1 mo_toCome_66).bind fun z6 =>
      rec (v5_96 + (-16 : Int32), z6.1, z6.2.1, z6.2.2.1, z6.2.2.2.1, z4.2.2.2.2.1, z4.2.2.2.2.2.1, z6.2.2.2.2.1, z6.2.2.2.2.2, z5.2.2.2.2.2)
def f_M_writeMore_L96 (v4_66 : Int32) (v6_66 : Int32) (v3_66 : Int32) (mo_counting : Int32) (mo_lengths : Nat → Int32) (mo_codes : Nat → Int32) (mo_runBits : Nat → Int32) (mo_toCome_66 : Nat → Int32) (N : Nat) (k : Nat) : (Int32 × Int32 × Int32 × Int32 × Int32 × Int32 × Int32 × Int32 × (Nat → Int32) × (Nat → Int32)) → Option (Int32 × Int32 × Int32 × Int32 × Int32 × Int32 × Int32 × Int32 × (Nat → Int32) × (Nat → Int32)) := it (fun rec a => f_M_writeMore_L96b v4_66 v6_66 v3_66 mo_counting mo_lengths mo_codes mo_runBits mo_toCome_66 N rec a.1 a.2.1 a.2.2.1 a.2.2.2.1 a.2.2.2.2.1 a.2.2.2.2.2.1 a.2.2.2.2.2.2.1 a.2.2.2.2.2.2.2.1 a.2.2.2.2.2.2.2.2.1 a.2.2.2.2.2.2.2.2.2) k
def f_M_writeMore_J66_221 (N : Nat) (rec : (Int32 × Int32 × Int32 × Int32 × Int32 × Int32 × Int32 × Int32 × Int32 × (Nat → Int32) × (Nat → Int32) × (Nat → Int32)) → Option (Int32 × Int32 × Int32 × Int32 × Int32 × Int32 × Int32 × Int32 × (Nat → Int32) × (Nat → Int32) × (Nat → Int32))) (v5_j221 : Int32) (v6_66 : Int32) (mo_outs_j221 : Int32) (mo_part_j221 : Int32) (mo_parted_j221 : Int32) (mo_failed_j221 : Int32) (mo_run_j221 : Int32) (mo_runMany_j221 : Int32) (mo_comes_j221 : Int32) (mo_out_j221 : Nat → Int32) (mo_times_j221 : Nat → Int32) (mo_toCome_j221 : Nat → Int32) : Option (Int32 × Int32 × Int32 × Int32 × Int32 × Int32 × Int32 × Int32 × (Nat → Int32) × (Nat → Int32) × (Nat → Int32)) :=
  rec (v5_j221, v6_66 + (1 : Int32), mo_outs_j221, mo_part_j221, mo_parted_j221, mo_failed_j221, mo_run_j221, mo_runMany_j221, mo_comes_j221, mo_out_j221, mo_times_j221, mo_toCome_j221)
def f_M_writeMore_J66_211 (N : Nat) (rec : (Int32 × Int32 × Int32 × Int32 × Int32 × Int32 × Int32 × Int32 × Int32 × (Nat → Int32) × (Nat → Int32) × (Nat → Int32)) → Option (Int32 × Int32 × Int32 × Int32 × Int32 × Int32 × Int32 × Int32 × (Nat → Int32) × (Nat → Int32) × (Nat → Int32))) (s1_j211 : Int32) (mo_outs_j211 : Int32) (mo_part_j211 : Int32) (mo_parted_j211 : Int32) (mo_failed_j211 : Int32) (mo_counting : Int32) (mo_out_j211 : Nat → Int32) (mo_comes_j211 : Int32) (mo_toCome_66 : Nat → Int32) (v6_66 : Int32) (mo_run_j211 : Int32) (mo_runMany_j211 : Int32) (mo_times_j211 : Nat → Int32) : Option (Int32 × Int32 × Int32 × Int32 × Int32 × Int32 × Int32 × Int32 × (Nat → Int32) × (Nat → Int32) × (Nat → Int32)) :=
  (f_M_bit s1_j211 mo_outs_j211 mo_part_j211 mo_parted_j211 mo_failed_j211 mo_counting mo_out_j211).bind fun z10 =>
  (f_M_sendComing N z10.1 z10.2.1 z10.2.2.1 z10.2.2.2.1 mo_counting mo_comes_j211 z10.2.2.2.2 mo_toCome_66).bind fun z11 =>
  f_M_writeMore_J66_221 N rec (0 : Int32) v6_66 z11.1 z11.2.1 z11.2.2.1 z11.2.2.2.1 mo_run_j211 mo_runMany_j211 z11.2.2.2.2.1 z11.2.2.2.2.2 mo_times_j211 mo_toCome_66
def f_M_writeMore_J66_133 (N : Nat) (rec : (Int32 × Int32 × Int32 × Int32 × Int32 × Int32 × Int32 × Int32 × Int32 × (Nat → Int32) × (Nat → Int32) × (Nat → Int32)) → Option (Int32 × Int32 × Int32 × Int32 × Int32 × Int32 × Int32 × Int32 × (Nat → Int32) × (Nat → Int32) × (Nat → Int32))) (v7_j133 : Int32) (v3_66 : Int32) (mo_outs_j133 : Int32) (mo_part_j133 : Int32) (mo_parted_j133 : Int32) (mo_failed_j133 : Int32) (mo_counting : Int32) (mo_run_j133 : Int32) (mo_runMany_j133 : Int32) (mo_lengths : Nat → Int32) (mo_codes : Nat → Int32) (mo_out_j133 : Nat → Int32) (mo_times_j133 : Nat → Int32) (mo_runBits : Nat → Int32) (v5_j133 : Int32) (p0 : Int32) (mo_base : Nat → Int32) (p1 : Int32) (v6_66 : Int32) (mo_coefficients : Nat → Int32) (mo_comes_j133 : Int32) (mo_toCome_66 : Nat → Int32) : Option (Int32 × Int32 × Int32 × Int32 × Int32 × Int32 × Int32 × Int32 × (Nat → Int32) × (Nat → Int32) × (Nat → Int32)) :=
  if v7_j133 ≤ (1 : Int32) then
    (f_M_sendRun N v3_66 mo_outs_j133 mo_part_j133 mo_parted_j133 mo_failed_j133 mo_counting mo_run_j133 mo_runMany_j133 mo_lengths mo_codes mo_out_j133 mo_times_j133 mo_runBits).bind fun z8 =>
    (f_M_word N v3_66 (((16 : Int32) * v5_j133) + (1 : Int32)) z8.1 z8.2.1 z8.2.2.1 z8.2.2.2.1 mo_counting mo_lengths mo_codes z8.2.2.2.2.2.2.1 z8.2.2.2.2.2.2.2).bind fun z9 =>
    if p0 < 0 ∨ 4 ≤ p0.toNatClampNeg then none else
    if (((64 : Int32) * ((mo_base p0.toNatClampNeg) + p1)) + v6_66) < 0 ∨ 12288 ≤ (((64 : Int32) * ((mo_base p0.toNatClampNeg) + p1)) + v6_66).toNatClampNeg then none else
    if 0 ≤ (mo_coefficients (((64 : Int32) * ((mo_base p0.toNatClampNeg) + p1)) + v6_66).toNatClampNeg) then
      f_M_writeMore_J66_211 N rec (1 : Int32) z9.1 z9.2.1 z9.2.2.1 z9.2.2.2.1 mo_counting z9.2.2.2.2.1 mo_comes_j133 mo_toCome_66 v6_66 z8.2.2.2.2.1 z8.2.2.2.2.2.1 z9.2.2.2.2.2
    else
      f_M_writeMore_J66_211 N rec (0 : Int32) z9.1 z9.2.1 z9.2.2.1 z9.2.2.2.1 mo_counting z9.2.2.2.2.1 mo_comes_j133 mo_toCome_66 v6_66 z8.2.2.2.2.1 z8.2.2.2.2.2.1 z9.2.2.2.2.2
  else
    if mo_comes_j133 < 0 ∨ 70 ≤ mo_comes_j133.toNatClampNeg then none else
    f_M_writeMore_J66_221 N rec v5_j133 v6_66 mo_outs_j133 mo_part_j133 mo_parted_j133 mo_failed_j133 mo_run_j133 mo_runMany_j133 (mo_comes_j133 + (1 : Int32)) mo_out_j133 mo_times_j133 (upd mo_toCome_66 mo_comes_j133.toNatClampNeg (vp_nar .byte ((v7_j133 &&& (1 : Int32)).toInt8.toInt32)))
def f_M_writeMore_L66b (mo_last : Int32) (p0 : Int32) (p1 : Int32) (mo_bits : Int32) (mo_base : Nat → Int32) (mo_coefficients : Nat → Int32) (v4_66 : Int32) (v3_66 : Int32) (mo_counting : Int32) (mo_lengths : Nat → Int32) (mo_codes : Nat → Int32) (mo_runBits : Nat → Int32) (N : Nat) (rec : (Int32 × Int32 × Int32 × Int32 × Int32 × Int32 × Int32 × Int32 × Int32 × (Nat → Int32) × (Nat → Int32) × (Nat → Int32)) → Option (Int32 × Int32 × Int32 × Int32 × Int32 × Int32 × Int32 × Int32 × (Nat → Int32) × (Nat → Int32) × (Nat → Int32))) (v5_66 : Int32) (v6_66 : Int32) (mo_outs_66 : Int32) (mo_part_66 : Int32) (mo_parted_66 : Int32) (mo_failed_66 : Int32) (mo_run_66 : Int32) (mo_runMany_66 : Int32) (mo_comes_66 : Int32) (mo_out_66 : Nat → Int32) (mo_times_66 : Nat → Int32) (mo_toCome_66 : Nat → Int32) : Option (Int32 × Int32 × Int32 × Int32 × Int32 × Int32 × Int32 × Int32 × (Nat → Int32) × (Nat → Int32) × (Nat → Int32)) :=
  if mo_last < v6_66 then
    some (v5_66, mo_outs_66, mo_part_66, mo_parted_66, mo_failed_66, mo_run_66, mo_runMany_66, mo_comes_66, mo_out_66, mo_times_66, mo_toCome_66)
  else
    (f_M_amount p0 p1 v6_66 mo_bits mo_base mo_coefficients).bind fun z3 =>
    if z3 = 0 then
      f_M_writeMore_J66_221 N rec (v5_66 + (1 : Int32)) v6_66 mo_outs_66 mo_part_66 mo_parted_66 mo_failed_66 mo_run_66 mo_runMany_66 mo_comes_66 mo_out_66 mo_times_66 mo_toCome_66
    else
      (f_M_writeMore_L96 v4_66 v6_66 v3_66 mo_counting mo_lengths mo_codes mo_runBits mo_toCome_66 N N (v5_66, mo_outs_66, mo_part_66, mo_parted_66, mo_failed_66, mo_run_66, mo_runMany_66, mo_comes_66, mo_out_66, mo_times_66)).bind fun z7 =>
        f_M_writeMore_J66_133 N rec z3 v3_66 z7.2.1 z7.2.2.1 z7.2.2.2.1 z7.2.2.2.2.1 mo_counting z7.2.2.2.2.2.1 z7.2.2.2.2.2.2.1 mo_lengths mo_codes z7.2.2.2.2.2.2.2.2.1 z7.2.2.2.2.2.2.2.2.2 mo_runBits z7.1 p0 mo_base p1 v6_66 mo_coefficients z7.2.2.2.2.2.2.2.1 mo_toCome_66
def f_M_writeMore_L66 (mo_last : Int32) (p0 : Int32) (p1 : Int32) (mo_bits : Int32) (mo_base : Nat → Int32) (mo_coefficients : Nat → Int32) (v4_66 : Int32) (v3_66 : Int32) (mo_counting : Int32) (mo_lengths : Nat → Int32) (mo_codes : Nat → Int32) (mo_runBits : Nat → Int32) (N : Nat) (k : Nat) : (Int32 × Int32 × Int32 × Int32 × Int32 × Int32 × Int32 × Int32 × Int32 × (Nat → Int32) × (Nat → Int32) × (Nat → Int32)) → Option (Int32 × Int32 × Int32 × Int32 × Int32 × Int32 × Int32 × Int32 × (Nat → Int32) × (Nat → Int32) × (Nat → Int32)) := it (fun rec a => f_M_writeMore_L66b mo_last p0 p1 mo_bits mo_base mo_coefficients v4_66 v3_66 mo_counting mo_lengths mo_codes mo_runBits N rec a.1 a.2.1 a.2.2.1 a.2.2.2.1 a.2.2.2.2.1 a.2.2.2.2.2.1 a.2.2.2.2.2.2.1 a.2.2.2.2.2.2.2.1 a.2.2.2.2.2.2.2.2.1 a.2.2.2.2.2.2.2.2.2.1 a.2.2.2.2.2.2.2.2.2.2.1 a.2.2.2.2.2.2.2.2.2.2.2) k
def f_M_writeMore_L252b (mo_comes_252 : Int32) (mo_toCome_252 : Nat → Int32) (N : Nat) (rec : (Int32 × Int32 × (Nat → Int32)) → Option (Int32 × (Nat → Int32))) (v6_252 : Int32) (mo_runMany_252 : Int32) (mo_runBits_252 : Nat → Int32) : Option (Int32 × (Nat → Int32)) :=
  if mo_comes_252 ≤ v6_252 then
    some (mo_runMany_252, mo_runBits_252)
  else
    if v6_252 < 0 ∨ 70 ≤ v6_252.toNatClampNeg then none else
    if mo_runMany_252 < 0 ∨ 1100 ≤ mo_runMany_252.toNatClampNeg then none else
    rec (v6_252 + (1 : Int32), mo_runMany_252 + (1 : Int32), upd mo_runBits_252 mo_runMany_252.toNatClampNeg (vp_nar .byte (mo_toCome_252 v6_252.toNatClampNeg)))
def f_M_writeMore_L252 (mo_comes_252 : Int32) (mo_toCome_252 : Nat → Int32) (N : Nat) (k : Nat) : (Int32 × Int32 × (Nat → Int32)) → Option (Int32 × (Nat → Int32)) := it (fun rec a => f_M_writeMore_L252b mo_comes_252 mo_toCome_252 N rec a.1 a.2.1 a.2.2) k
def f_M_writeMore_J318 (N : Nat) (v3_j318 : Int32) (mo_outs_j318 : Int32) (mo_part_j318 : Int32) (mo_parted_j318 : Int32) (mo_failed_j318 : Int32) (mo_counting : Int32) (mo_run_j318 : Int32) (mo_runMany_j318 : Int32) (mo_lengths : Nat → Int32) (mo_codes : Nat → Int32) (mo_out_j318 : Nat → Int32) (mo_times_j318 : Nat → Int32) (mo_runBits_j318 : Nat → Int32) (mo_comes_j318 : Int32) (mo_toCome_j318 : Nat → Int32) : Option (Int32 × Int32 × Int32 × Int32 × Int32 × Int32 × Int32 × (Nat → Int32) × (Nat → Int32) × (Nat → Int32) × (Nat → Int32)) :=
  (f_M_sendRun N v3_j318 mo_outs_j318 mo_part_j318 mo_parted_j318 mo_failed_j318 mo_counting mo_run_j318 mo_runMany_j318 mo_lengths mo_codes mo_out_j318 mo_times_j318 mo_runBits_j318).bind fun z14 =>
  some (z14.1, z14.2.1, z14.2.2.1, z14.2.2.2.1, z14.2.2.2.2.1, z14.2.2.2.2.2.1, mo_comes_j318, z14.2.2.2.2.2.2.1, z14.2.2.2.2.2.2.2, mo_runBits_j318, mo_toCome_j318)
def f_M_writeMore_J239 (N : Nat) (mo_comes_j239 : Int32) (mo_toCome_j239 : Nat → Int32) (mo_runMany_j239 : Int32) (mo_runBits : Nat → Int32) (mo_run_j239 : Int32) (v3_j239 : Int32) (mo_outs_j239 : Int32) (mo_part_j239 : Int32) (mo_parted_j239 : Int32) (mo_failed_j239 : Int32) (mo_counting : Int32) (mo_lengths : Nat → Int32) (mo_codes : Nat → Int32) (mo_out_j239 : Nat → Int32) (mo_times_j239 : Nat → Int32) : Option (Int32 × Int32 × Int32 × Int32 × Int32 × Int32 × Int32 × (Nat → Int32) × (Nat → Int32) × (Nat → Int32) × (Nat → Int32)) :=
  (f_M_writeMore_L252 mo_comes_j239 mo_toCome_j239 N N ((0 : Int32), mo_runMany_j239, mo_runBits)).bind fun z13 =>
    if (mo_run_j239 + (1 : Int32)) = (32767 : Int32) then
    f_M_writeMore_J318 N v3_j239 mo_outs_j239 mo_part_j239 mo_parted_j239 mo_failed_j239 mo_counting (mo_run_j239 + (1 : Int32)) z13.1 mo_lengths mo_codes mo_out_j239 mo_times_j239 z13.2 (0 : Int32) mo_toCome_j239
  else
    if z13.1 ≤ (900 : Int32) then
      some (mo_outs_j239, mo_part_j239, mo_parted_j239, mo_failed_j239, mo_run_j239 + (1 : Int32), z13.1, (0 : Int32), mo_out_j239, mo_times_j239, z13.2, mo_toCome_j239)
    else
      f_M_writeMore_J318 N v3_j239 mo_outs_j239 mo_part_j239 mo_parted_j239 mo_failed_j239 mo_counting (mo_run_j239 + (1 : Int32)) z13.1 mo_lengths mo_codes mo_out_j239 mo_times_j239 z13.2 (0 : Int32) mo_toCome_j239
def f_M_writeMore (N : Nat) (p0 : Int32) (p1 : Int32) (mo_first : Int32) (mo_last : Int32) (mo_bits : Int32) (mo_outs : Int32) (mo_part : Int32) (mo_parted : Int32) (mo_failed : Int32) (mo_counting : Int32) (mo_run : Int32) (mo_runMany : Int32) (mo_base : Nat → Int32) (mo_coefficients : Nat → Int32) (mo_lengths : Nat → Int32) (mo_codes : Nat → Int32) (mo_otherOf : Nat → Int32) (mo_out : Nat → Int32) (mo_times : Nat → Int32) (mo_runBits : Nat → Int32) (mo_toCome : Nat → Int32) : Option (Int32 × Int32 × Int32 × Int32 × Int32 × Int32 × Int32 × (Nat → Int32) × (Nat → Int32) × (Nat → Int32) × (Nat → Int32)) :=
  if p0 < 0 ∨ 4 ≤ p0.toNatClampNeg then none else
  (f_M_writeMore_L16 mo_last p0 p1 mo_bits mo_base mo_coefficients N N ((-1 : Int32), mo_first)).bind fun z2 =>
    (f_M_writeMore_L66 mo_last p0 p1 mo_bits mo_base mo_coefficients z2 (mo_otherOf p0.toNatClampNeg) mo_counting mo_lengths mo_codes mo_runBits N N ((0 : Int32), mo_first, mo_outs, mo_part, mo_parted, mo_failed, mo_run, mo_runMany, (0 : Int32), mo_out, mo_times, mo_toCome)).bind fun z12 =>
    if 0 < z12.1 then
    f_M_writeMore_J239 N z12.2.2.2.2.2.2.2.1 z12.2.2.2.2.2.2.2.2.2.2 z12.2.2.2.2.2.2.1 mo_runBits z12.2.2.2.2.2.1 (mo_otherOf p0.toNatClampNeg) z12.2.1 z12.2.2.1 z12.2.2.2.1 z12.2.2.2.2.1 mo_counting mo_lengths mo_codes z12.2.2.2.2.2.2.2.2.1 z12.2.2.2.2.2.2.2.2.2.1
  else
    if z12.2.2.2.2.2.2.2.1 ≤ 0 then
      some (z12.2.1, z12.2.2.1, z12.2.2.2.1, z12.2.2.2.2.1, z12.2.2.2.2.2.1, z12.2.2.2.2.2.2.1, z12.2.2.2.2.2.2.2.1, z12.2.2.2.2.2.2.2.2.1, z12.2.2.2.2.2.2.2.2.2.1, mo_runBits, z12.2.2.2.2.2.2.2.2.2.2)
    else
      f_M_writeMore_J239 N z12.2.2.2.2.2.2.2.1 z12.2.2.2.2.2.2.2.2.2.2 z12.2.2.2.2.2.2.1 mo_runBits z12.2.2.2.2.2.1 (mo_otherOf p0.toNatClampNeg) z12.2.1 z12.2.2.1 z12.2.2.2.1 z12.2.2.2.2.1 mo_counting mo_lengths mo_codes z12.2.2.2.2.2.2.2.2.1 z12.2.2.2.2.2.2.2.2.2.1
abbrev w_M_writeMore (cI cB cS cT : ClassId) (a_mo : Nat) (a_mo_base : Nat) (a_mo_coefficients : Nat) (a_mo_lengths : Nat) (a_mo_codes : Nat) (a_mo_otherOf : Nat) (a_mo_out : Nat) (a_mo_times : Nat) (a_mo_runBits : Nat) (a_mo_toCome : Nat) (a_mo_h : Nat) (a_mo_v : Nat) (a_mo_across : Nat) (a_mo_down : Nat) (a_mo_ownAcross : Nat) (a_mo_ownDown : Nat) (a_mo_before0 : Nat) (a_mo_draftCounts : Nat) (a_mo_draft : Nat) (a_mo_words : Nat) (a_mo_directOf : Nat) (a_mo_data : Nat) (a_mo_prediction : Nat) (a_mo_timesKept : Nat) (mo_thrown : Int32) (mo_width : Int32) (mo_height : Int32) (mo_many : Int32) (mo_unitsAcross : Int32) (mo_unitsDown : Int32) (mo_drafts : Int32) (mo_mask : Int32) (mo_first : Int32) (mo_last : Int32) (mo_before : Int32) (mo_bits : Int32) (mo_interval : Int32) (mo_size : Int32) (mo_outs : Int32) (mo_part : Int32) (mo_parted : Int32) (mo_failed : Int32) (mo_counting : Int32) (mo_run : Int32) (mo_runMany : Int32) (mo_comes : Int32) (mo_at : Int32) (mo_taken : Int32) (mo_left : Int32) (mo_fault : Int32) (mo_base : Nat → Int32) (mo_coefficients : Nat → Int32) (mo_lengths : Nat → Int32) (mo_codes : Nat → Int32) (mo_otherOf : Nat → Int32) (mo_out : Nat → Int32) (mo_times : Nat → Int32) (mo_runBits : Nat → Int32) (mo_toCome : Nat → Int32) : va_W := [(a_mo, .inr (11, [.int mo_thrown, .int mo_width, .int mo_height, .int mo_many, .ref a_mo_h, .ref a_mo_v, .ref a_mo_across, .ref a_mo_down, .ref a_mo_ownAcross, .ref a_mo_ownDown, .ref a_mo_base, .int mo_unitsAcross, .int mo_unitsDown, .ref a_mo_coefficients, .ref a_mo_before0, .ref a_mo_draftCounts, .ref a_mo_draft, .int mo_drafts, .ref a_mo_words, .ref a_mo_lengths, .ref a_mo_codes, .ref a_mo_directOf, .ref a_mo_otherOf, .int mo_mask, .int mo_first, .int mo_last, .int mo_before, .int mo_bits, .int mo_interval, .ref a_mo_data, .int mo_size, .ref a_mo_out, .int mo_outs, .int mo_part, .int mo_parted, .int mo_failed, .int mo_counting, .ref a_mo_times, .ref a_mo_prediction, .int mo_run, .ref a_mo_runBits, .int mo_runMany, .ref a_mo_toCome, .int mo_comes, .int mo_at, .int mo_taken, .int mo_left, .int mo_fault, .ref a_mo_timesKept])), (a_mo_base, .inl (cI, 4, .inl mo_base)), (a_mo_coefficients, .inl (cS, 12288, .inl mo_coefficients)), (a_mo_lengths, .inl (cI, 2048, .inl mo_lengths)), (a_mo_codes, .inl (cI, 2048, .inl mo_codes)), (a_mo_otherOf, .inl (cI, 4, .inl mo_otherOf)), (a_mo_out, .inl (cB, 16384, .inl mo_out)), (a_mo_times, .inl (cI, 2048, .inl mo_times)), (a_mo_runBits, .inl (cB, 1100, .inl mo_runBits)), (a_mo_toCome, .inl (cB, 70, .inl mo_toCome))]
def rm_M_writeMore : Room := { frames := 5, cells := 0, slots := 0, locals := 111 }
set_option maxHeartbeats 1000000 in
set_option maxRecDepth 100000 in
theorem c_M_writeMore (l : Launch) (dC : Nat → ClassId) (dI : Nat → Nat → Nat) (cI cB cS cT : ClassId) (N : Nat) (a_mo : Nat) (a_mo_base : Nat) (a_mo_coefficients : Nat) (a_mo_lengths : Nat) (a_mo_codes : Nat) (a_mo_otherOf : Nat) (a_mo_out : Nat) (a_mo_times : Nat) (a_mo_runBits : Nat) (a_mo_toCome : Nat) (a_mo_h : Nat) (a_mo_v : Nat) (a_mo_across : Nat) (a_mo_down : Nat) (a_mo_ownAcross : Nat) (a_mo_ownDown : Nat) (a_mo_before0 : Nat) (a_mo_draftCounts : Nat) (a_mo_draft : Nat) (a_mo_words : Nat) (a_mo_directOf : Nat) (a_mo_data : Nat) (a_mo_prediction : Nat) (a_mo_timesKept : Nat) (mo_thrown : Int32) (mo_width : Int32) (mo_height : Int32) (mo_many : Int32) (mo_unitsAcross : Int32) (mo_unitsDown : Int32) (mo_drafts : Int32) (mo_mask : Int32) (mo_first : Int32) (mo_last : Int32) (mo_before : Int32) (mo_bits : Int32) (mo_interval : Int32) (mo_size : Int32) (mo_outs : Int32) (mo_part : Int32) (mo_parted : Int32) (mo_failed : Int32) (mo_counting : Int32) (mo_run : Int32) (mo_runMany : Int32) (mo_comes : Int32) (mo_at : Int32) (mo_taken : Int32) (mo_left : Int32) (mo_fault : Int32) (mo_base : Nat → Int32) (mo_coefficients : Nat → Int32) (mo_lengths : Nat → Int32) (mo_codes : Nat → Int32) (mo_otherOf : Nat → Int32) (mo_out : Nat → Int32) (mo_times : Nat → Int32) (mo_runBits : Nat → Int32) (mo_toCome : Nat → Int32) (p0 : Int32) (p1 : Int32) (sz : Nat) (z : Int32 × Int32 × Int32 × Int32 × Int32 × Int32 × Int32 × (Nat → Int32) × (Nat → Int32) × (Nat → Int32) × (Nat → Int32)) (hf : f_M_writeMore N p0 p1 mo_first mo_last mo_bits mo_outs mo_part mo_parted mo_failed mo_counting mo_run mo_runMany mo_base mo_coefficients mo_lengths mo_codes mo_otherOf mo_out mo_times mo_runBits mo_toCome = some z) : Met l y_m1108 ws_m1108 rm_M_writeMore (gPre (dC, dI) [.ref a_mo, .int p0, .int p1] (gT cI cB cS cT) (w_M_writeMore cI cB cS cT a_mo a_mo_base a_mo_coefficients a_mo_lengths a_mo_codes a_mo_otherOf a_mo_out a_mo_times a_mo_runBits a_mo_toCome a_mo_h a_mo_v a_mo_across a_mo_down a_mo_ownAcross a_mo_ownDown a_mo_before0 a_mo_draftCounts a_mo_draft a_mo_words a_mo_directOf a_mo_data a_mo_prediction a_mo_timesKept mo_thrown mo_width mo_height mo_many mo_unitsAcross mo_unitsDown mo_drafts mo_mask mo_first mo_last mo_before mo_bits mo_interval mo_size mo_outs mo_part mo_parted mo_failed mo_counting mo_run mo_runMany mo_comes mo_at mo_taken mo_left mo_fault mo_base mo_coefficients mo_lengths mo_codes mo_otherOf mo_out mo_times mo_runBits mo_toCome) sz) (gQv (dC, dI) (gT cI cB cS cT) (w_M_writeMore cI cB cS cT a_mo a_mo_base a_mo_coefficients a_mo_lengths a_mo_codes a_mo_otherOf a_mo_out a_mo_times a_mo_runBits a_mo_toCome a_mo_h a_mo_v a_mo_across a_mo_down a_mo_ownAcross a_mo_ownDown a_mo_before0 a_mo_draftCounts a_mo_draft a_mo_words a_mo_directOf a_mo_data a_mo_prediction a_mo_timesKept mo_thrown mo_width mo_height mo_many mo_unitsAcross mo_unitsDown mo_drafts mo_mask mo_first mo_last mo_before mo_bits mo_interval mo_size mo_outs mo_part mo_parted mo_failed mo_counting mo_run mo_runMany mo_comes mo_at mo_taken mo_left mo_fault mo_base mo_coefficients mo_lengths mo_codes mo_otherOf mo_out mo_times mo_runBits mo_toCome) (w_M_writeMore cI cB cS cT a_mo a_mo_base a_mo_coefficients a_mo_lengths a_mo_codes a_mo_otherOf a_mo_out a_mo_times a_mo_runBits a_mo_toCome a_mo_h a_mo_v a_mo_across a_mo_down a_mo_ownAcross a_mo_ownDown a_mo_before0 a_mo_draftCounts a_mo_draft a_mo_words a_mo_directOf a_mo_data a_mo_prediction a_mo_timesKept mo_thrown mo_width mo_height mo_many mo_unitsAcross mo_unitsDown mo_drafts mo_mask mo_first mo_last mo_before mo_bits mo_interval mo_size z.1 z.2.1 z.2.2.1 z.2.2.2.1 mo_counting z.2.2.2.2.1 z.2.2.2.2.2.1 z.2.2.2.2.2.2.1 mo_at mo_taken mo_left mo_fault mo_base mo_coefficients mo_lengths mo_codes mo_otherOf z.2.2.2.2.2.2.2.1 z.2.2.2.2.2.2.2.2.1 z.2.2.2.2.2.2.2.2.2.1 z.2.2.2.2.2.2.2.2.2.2) sz) 0 0 (va_A (w_M_writeMore cI cB cS cT a_mo a_mo_base a_mo_coefficients a_mo_lengths a_mo_codes a_mo_otherOf a_mo_out a_mo_times a_mo_runBits a_mo_toCome a_mo_h a_mo_v a_mo_across a_mo_down a_mo_ownAcross a_mo_ownDown a_mo_before0 a_mo_draftCounts a_mo_draft a_mo_words a_mo_directOf a_mo_data a_mo_prediction a_mo_timesKept mo_thrown mo_width mo_height mo_many mo_unitsAcross mo_unitsDown mo_drafts mo_mask mo_first mo_last mo_before mo_bits mo_interval mo_size mo_outs mo_part mo_parted mo_failed mo_counting mo_run mo_runMany mo_comes mo_at mo_taken mo_left mo_fault mo_base mo_coefficients mo_lengths mo_codes mo_otherOf mo_out mo_times mo_runBits mo_toCome) sz) := by
  refine Met.ofW (cc := prog_14_method_33_code) (maxL := 8) (ret := none) (by decide) rfl ?_
  intro p e s m args below meth c s₁ B hml hv
  obtain ⟨hargs, hsz, hP, hKN, hD0⟩ := hv
  have hK := hKN.1
  have hx := B.exec
  have hb := B.bytes
  have hr := B.returns
  have hts := atoms_spec (ws := ws_m1108) B.pre
  have hown : s.vm.findClass "ScanCoderModel" = some m.cls := findClass_of_methodNamed B.named
  have hlocks := B.notSynchronized
  have k0 := hts _ (List.mem_cons_of_mem _ tw_856)
  have k1 := hts _ (List.mem_cons_of_mem _ tw_858)
  have k2 := hts _ (List.mem_cons_of_mem _ tw_859)
  have k3 := hts _ (List.mem_cons_of_mem _ tw_877)
  have k4 := hts _ (List.mem_cons_of_mem _ tw_847)
  have k5 := hts _ (List.mem_cons_of_mem _ tw_844)
  have k6 := hts _ (List.mem_cons_of_mem _ tw_876)
  have k7 := hts _ (List.mem_cons_of_mem _ tw_873)
  have k8 := hts _ (List.mem_cons_of_mem _ tw_874)
  have k9 := hts _ (List.mem_cons_of_mem _ tw_875)
  have n0 : ∀ w ∈ u_ws "ScanCoderModel" T_11 49, w ∈ ws_m1108 := fun w h => List.mem_cons_of_mem _ (in_11 w h)
  subst hsz
  have hD := hD0.self (sz := s.heap.size)
  obtain ⟨A, hAe⟩ : ∃ A : Nat → Prop, va_A (w_M_writeMore cI cB cS cT a_mo a_mo_base a_mo_coefficients a_mo_lengths a_mo_codes a_mo_otherOf a_mo_out a_mo_times a_mo_runBits a_mo_toCome a_mo_h a_mo_v a_mo_across a_mo_down a_mo_ownAcross a_mo_ownDown a_mo_before0 a_mo_draftCounts a_mo_draft a_mo_words a_mo_directOf a_mo_data a_mo_prediction a_mo_timesKept mo_thrown mo_width mo_height mo_many mo_unitsAcross mo_unitsDown mo_drafts mo_mask mo_first mo_last mo_before mo_bits mo_interval mo_size mo_outs mo_part mo_parted mo_failed mo_counting mo_run mo_runMany mo_comes mo_at mo_taken mo_left mo_fault mo_base mo_coefficients mo_lengths mo_codes mo_otherOf mo_out mo_times mo_runBits mo_toCome) s.heap.size = A := ⟨_, rfl⟩
  rw [hAe] at hD
  have hA : ∀ q : Nat, s.heap.size ≤ q → A q := fun q h => by rw [← hAe]; exact Or.inr h
  have hS : va_S A s.heap s.heap [] := va_S.rf
  have hl := lv_entry ([.ref a_mo, .int p0, .int p1]) (n := 8) (Nat.le_of_ble_eq_true rfl)
  have hfr : entryFrame m args 8 = F0 m 0 ((lg_sl ([.ref a_mo, .int p0, .int p1]) ++ List.replicate (8 - (lg_sl ([.ref a_mo, .int p0, .int p1])).length) Slot.unset).toArray) [] := by rw [hargs]; exact lg_entry_eq _ _ _
  rw [hfr]
  generalize (lg_sl ([.ref a_mo, .int p0, .int p1]) ++ List.replicate (8 - (lg_sl ([.ref a_mo, .int p0, .int p1])).length) Slot.unset).toArray = ls at hl ⊢
  have hl : lv_has ls 8 [(0, .ref a_mo), (1, .int p0), (2, .int p1)] := hl
  refine gen_Q (fun Q hQ => ?_)
  clear hfr
  have L16 : ∀ (v3_16 : Int32) (z : Int32), (GW (dC, dI) A p l e (headSpec ws_m1108 rm_M_writeMore).room s m args below meth c 0 0 Q 8 52 (w_M_writeMore cI cB cS cT a_mo a_mo_base a_mo_coefficients a_mo_lengths a_mo_codes a_mo_otherOf a_mo_out a_mo_times a_mo_runBits a_mo_toCome a_mo_h a_mo_v a_mo_across a_mo_down a_mo_ownAcross a_mo_ownDown a_mo_before0 a_mo_draftCounts a_mo_draft a_mo_words a_mo_directOf a_mo_data a_mo_prediction a_mo_timesKept mo_thrown mo_width mo_height mo_many mo_unitsAcross mo_unitsDown mo_drafts mo_mask mo_first mo_last mo_before mo_bits mo_interval mo_size mo_outs mo_part mo_parted mo_failed mo_counting mo_run mo_runMany mo_comes mo_at mo_taken mo_left mo_fault mo_base mo_coefficients mo_lengths mo_codes mo_otherOf mo_out mo_times mo_runBits mo_toCome) [(0, .ref a_mo), (1, .int p0), (2, .int p1), (3, .int v3_16), (4, .int z)] []) → ∀ (k : Nat) (v4_16 : Int32) (v5_16 : Int32), f_M_writeMore_L16 mo_last p0 p1 mo_bits mo_base mo_coefficients N k (v4_16, v5_16) = some z → GW (dC, dI) A p l e (headSpec ws_m1108 rm_M_writeMore).room s m args below meth c 0 0 Q 8 16 (w_M_writeMore cI cB cS cT a_mo a_mo_base a_mo_coefficients a_mo_lengths a_mo_codes a_mo_otherOf a_mo_out a_mo_times a_mo_runBits a_mo_toCome a_mo_h a_mo_v a_mo_across a_mo_down a_mo_ownAcross a_mo_ownDown a_mo_before0 a_mo_draftCounts a_mo_draft a_mo_words a_mo_directOf a_mo_data a_mo_prediction a_mo_timesKept mo_thrown mo_width mo_height mo_many mo_unitsAcross mo_unitsDown mo_drafts mo_mask mo_first mo_last mo_before mo_bits mo_interval mo_size mo_outs mo_part mo_parted mo_failed mo_counting mo_run mo_runMany mo_comes mo_at mo_taken mo_left mo_fault mo_base mo_coefficients mo_lengths mo_codes mo_otherOf mo_out mo_times mo_runBits mo_toCome) [(0, .ref a_mo), (1, .int p0), (2, .int p1), (3, .int v3_16), (4, .int v4_16), (5, .int v5_16)] [] := by
    intro v3_16 z hE0 k
    induction k with
    | zero =>
      intro v4_16 v5_16 hf
      exact (it_zero hf).elim
    | succ k ih =>
      intro v4_16 v5_16 hf H locs ls hP hD hS hl
      have J16_44 : ∀ (s0_j44 : Int32), f_M_writeMore_J16_44 N (f_M_writeMore_L16 mo_last p0 p1 mo_bits mo_base mo_coefficients N k) s0_j44 v5_16 = some z → GW (dC, dI) A p l e (headSpec ws_m1108 rm_M_writeMore).room s m args below meth c 0 0 Q 8 44 (w_M_writeMore cI cB cS cT a_mo a_mo_base a_mo_coefficients a_mo_lengths a_mo_codes a_mo_otherOf a_mo_out a_mo_times a_mo_runBits a_mo_toCome a_mo_h a_mo_v a_mo_across a_mo_down a_mo_ownAcross a_mo_ownDown a_mo_before0 a_mo_draftCounts a_mo_draft a_mo_words a_mo_directOf a_mo_data a_mo_prediction a_mo_timesKept mo_thrown mo_width mo_height mo_many mo_unitsAcross mo_unitsDown mo_drafts mo_mask mo_first mo_last mo_before mo_bits mo_interval mo_size mo_outs mo_part mo_parted mo_failed mo_counting mo_run mo_runMany mo_comes mo_at mo_taken mo_left mo_fault mo_base mo_coefficients mo_lengths mo_codes mo_otherOf mo_out mo_times mo_runBits mo_toCome) [(0, .ref a_mo), (1, .int p0), (2, .int p1), (3, .int v3_16), (5, .int v5_16)] [.int s0_j44] := by
        intro s0_j44 hf H locs ls hP hD hS hl
        unfold f_M_writeMore_J16_44 at hf
        refine lv_istore (lv' := [(4, .int s0_j44), (0, .ref a_mo), (1, .int p0), (2, .int p1), (3, .int v3_16), (5, .int v5_16)]) hx hb d_m1108_44 hl (by decide) rfl (fun ls hl => ?_)
        refine lv_iinc (v := v5_16 + (1 : Int32)) (lv' := [(5, .int (v5_16 + (1 : Int32))), (4, .int s0_j44), (0, .ref a_mo), (1, .int p0), (2, .int p1), (3, .int v3_16)]) hx hb d_m1108_46 hl (k := 5) rfl rfl (by decide) rfl (fun ls hl => ?_)
        refine lv_goto (tgt := 16) hx hb d_m1108_49 (by decide) ?_
        exact ih s0_j44 (v5_16 + (1 : Int32)) hf H locs ls hP hD hS (lv_sub hl [2, 3, 4, 5, 1, 0] rfl)
      have hf : f_M_writeMore_L16b mo_last p0 p1 mo_bits mo_base mo_coefficients N (f_M_writeMore_L16 mo_last p0 p1 mo_bits mo_base mo_coefficients N k) v4_16 v5_16 = some z := hf
      unfold f_M_writeMore_L16b at hf
      refine lv_iload hx hb d_m1108_16 (lv_at hl 5 rfl) ?_
      refine lv_aload_n hx hb d_m1108_18 rfl (lv_at hl 0 rfl) ?_
      refine va_get (D := (dC, dI)) (ci := 11) (v := .int mo_last) (C := "ScanCoderModel") (T := T_11) (N := 49) hx hb hts n0 hown hK hP 0 rfl rfl 25 (by decide) k2 (fun _ h9 => h9) rfl d_m1108_19 ?_
      refine lv_icmp_gt (tgt := 52) hx hb d_m1108_22 (by decide) (fun hc => ?_) (fun hc => ?_)
      · replace hf := (if_pos hc).symm.trans hf
        obtain rfl := Option.some.inj hf
        exact hE0  H locs ls hP hD hS (lv_sub hl [0, 1, 2, 3, 4] rfl)
      · replace hf := (if_neg hc).symm.trans hf
        refine lv_aload_n hx hb d_m1108_25 rfl (lv_at hl 0 rfl) ?_
        refine lv_iload_n hx hb d_m1108_26 rfl (lv_at hl 1 rfl) ?_
        refine lv_iload_n hx hb d_m1108_27 rfl (lv_at hl 2 rfl) ?_
        refine lv_iload hx hb d_m1108_28 (lv_at hl 5 rfl) ?_
        obtain ⟨z1, hz1, hf⟩ := ob_bind hf
        refine vp_callSi (g_run (va_runV (As := [.int p0, .int p1, .int v5_16]) (rest := []) ⟨hx, hb, hml, hown, hts⟩ (c_M_amount l dC dI cI cB cS cT a_mo a_mo_base a_mo_coefficients a_mo_h a_mo_v a_mo_across a_mo_down a_mo_ownAcross a_mo_ownDown a_mo_before0 a_mo_draftCounts a_mo_draft a_mo_words a_mo_lengths a_mo_codes a_mo_directOf a_mo_otherOf a_mo_data a_mo_out a_mo_times a_mo_prediction a_mo_runBits a_mo_toCome a_mo_timesKept mo_thrown mo_width mo_height mo_many mo_unitsAcross mo_unitsDown mo_drafts mo_mask mo_first mo_last mo_before mo_bits mo_interval mo_size mo_outs mo_part mo_parted mo_failed mo_counting mo_run mo_runMany mo_comes mo_at mo_taken mo_left mo_fault mo_base mo_coefficients p0 p1 v5_16 z1 hz1) ⟨(callB_of 3 hts (gi tw_1112 rfl) rfl rfl rfl (hts _ (List.mem_cons_of_mem _ tw_16)) (hts _ (List.mem_cons_of_mem _ tw_1109)) (by decide +kernel) ⟨Nat.le_of_ble_eq_true rfl, Nat.le_of_ble_eq_true rfl⟩), hts _ (List.mem_cons_of_mem _ tw_1111), hts _ (List.mem_cons_of_mem _ ts_m1112)⟩ ⟨gp_blind, va_recv hK hP (ci := 11) (q0 := 0) rfl rfl, gp_at hKN (g_pm hP [0, 1, 2] rfl)⟩ rfl rfl hl.1 rfl (lv_room (Nat.le_of_ble_eq_true rfl)) d_m1108_30 ⟨Nat.zero_le _, Nat.zero_le _⟩)) (fun r hrz1 => ?_)
        have hrz1 := hrz1.symm
        subst hrz1
        refine W.eq (g2 := F0 m 33 ls [.int z1]) rfl ?_
        refine lv_iconst (v := (1 : Int32)) hx hb d_m1108_33 (by decide) ?_
        refine lv_icmp_ne (tgt := 42) hx hb d_m1108_34 (by decide) (fun hc => ?_) (fun hc => ?_)
        · replace hf := (if_neg hc).symm.trans hf
          refine lv_iload hx hb d_m1108_42 (lv_at hl 4 rfl) ?_
          exact J16_44 v4_16 hf H locs ls hP hD hS (lv_sub hl [0, 1, 2, 3, 5] rfl)
        · replace hf := (if_pos hc).symm.trans hf
          refine lv_iload hx hb d_m1108_37 (lv_at hl 5 rfl) ?_
          refine lv_goto (tgt := 44) hx hb d_m1108_39 (by decide) ?_
          exact J16_44 v5_16 hf H locs ls hP hD hS (lv_sub hl [0, 1, 2, 3, 5] rfl)
  have L96 : ∀ (v7_96 : Int32) (v4_66 : Int32) (v6_66 : Int32) (v3_66 : Int32) (mo_toCome_66 : Nat → Int32) (z : Int32 × Int32 × Int32 × Int32 × Int32 × Int32 × Int32 × Int32 × (Nat → Int32) × (Nat → Int32)), (GW (dC, dI) A p l e (headSpec ws_m1108 rm_M_writeMore).room s m args below meth c 0 0 Q 8 133 (w_M_writeMore cI cB cS cT a_mo a_mo_base a_mo_coefficients a_mo_lengths a_mo_codes a_mo_otherOf a_mo_out a_mo_times a_mo_runBits a_mo_toCome a_mo_h a_mo_v a_mo_across a_mo_down a_mo_ownAcross a_mo_ownDown a_mo_before0 a_mo_draftCounts a_mo_draft a_mo_words a_mo_directOf a_mo_data a_mo_prediction a_mo_timesKept mo_thrown mo_width mo_height mo_many mo_unitsAcross mo_unitsDown mo_drafts mo_mask mo_first mo_last mo_before mo_bits mo_interval mo_size z.2.1 z.2.2.1 z.2.2.2.1 z.2.2.2.2.1 mo_counting z.2.2.2.2.2.1 z.2.2.2.2.2.2.1 z.2.2.2.2.2.2.2.1 mo_at mo_taken mo_left mo_fault mo_base mo_coefficients mo_lengths mo_codes mo_otherOf z.2.2.2.2.2.2.2.2.1 z.2.2.2.2.2.2.2.2.2 mo_runBits mo_toCome_66) [(0, .ref a_mo), (1, .int p0), (2, .int p1), (3, .int v3_66), (4, .int v4_66), (5, .int z.1), (6, .int v6_66), (7, .int v7_96)] []) → ∀ (k : Nat) (v5_96 : Int32) (mo_outs_96 : Int32) (mo_part_96 : Int32) (mo_parted_96 : Int32) (mo_failed_96 : Int32) (mo_run_96 : Int32) (mo_runMany_96 : Int32) (mo_comes_96 : Int32) (mo_out_96 : Nat → Int32) (mo_times_96 : Nat → Int32), f_M_writeMore_L96 v4_66 v6_66 v3_66 mo_counting mo_lengths mo_codes mo_runBits mo_toCome_66 N k (v5_96, mo_outs_96, mo_part_96, mo_parted_96, mo_failed_96, mo_run_96, mo_runMany_96, mo_comes_96, mo_out_96, mo_times_96) = some z → GW (dC, dI) A p l e (headSpec ws_m1108 rm_M_writeMore).room s m args below meth c 0 0 Q 8 96 (w_M_writeMore cI cB cS cT a_mo a_mo_base a_mo_coefficients a_mo_lengths a_mo_codes a_mo_otherOf a_mo_out a_mo_times a_mo_runBits a_mo_toCome a_mo_h a_mo_v a_mo_across a_mo_down a_mo_ownAcross a_mo_ownDown a_mo_before0 a_mo_draftCounts a_mo_draft a_mo_words a_mo_directOf a_mo_data a_mo_prediction a_mo_timesKept mo_thrown mo_width mo_height mo_many mo_unitsAcross mo_unitsDown mo_drafts mo_mask mo_first mo_last mo_before mo_bits mo_interval mo_size mo_outs_96 mo_part_96 mo_parted_96 mo_failed_96 mo_counting mo_run_96 mo_runMany_96 mo_comes_96 mo_at mo_taken mo_left mo_fault mo_base mo_coefficients mo_lengths mo_codes mo_otherOf mo_out_96 mo_times_96 mo_runBits mo_toCome_66) [(0, .ref a_mo), (1, .int p0), (2, .int p1), (3, .int v3_66), (4, .int v4_66), (5, .int v5_96), (6, .int v6_66), (7, .int v7_96)] [] := by
    intro v7_96 v4_66 v6_66 v3_66 mo_toCome_66 z hE0 k
    induction k with
    | zero =>
      intro v5_96 mo_outs_96 mo_part_96 mo_parted_96 mo_failed_96 mo_run_96 mo_runMany_96 mo_comes_96 mo_out_96 mo_times_96 hf
      exact (it_zero hf).elim
    | succ k ih =>
      intro v5_96 mo_outs_96 mo_part_96 mo_parted_96 mo_failed_96 mo_run_96 mo_runMany_96 mo_comes_96 mo_out_96 mo_times_96 hf H locs ls hP hD hS hl
      have hf : f_M_writeMore_L96b v4_66 v6_66 v3_66 mo_counting mo_lengths mo_codes mo_runBits mo_toCome_66 N (f_M_writeMore_L96 v4_66 v6_66 v3_66 mo_counting mo_lengths mo_codes mo_runBits mo_toCome_66 N k) v5_96 mo_outs_96 mo_part_96 mo_parted_96 mo_failed_96 mo_run_96 mo_runMany_96 mo_comes_96 mo_out_96 mo_times_96 = some z := hf
      unfold f_M_writeMore_L96b at hf
      refine lv_iload hx hb d_m1108_96 (lv_at hl 5 rfl) ?_
      refine lv_bipush (v := (15 : Int32)) hx hb d_m1108_98 (by decide) ?_
      refine lv_icmp_le (tgt := 133) hx hb d_m1108_100 (by decide) (fun hc => ?_) (fun hc => ?_)
      · replace hf := (if_pos hc).symm.trans hf
        obtain rfl := Option.some.inj hf
        exact hE0  H locs ls hP hD hS hl
      · replace hf := (if_neg hc).symm.trans hf
        refine lv_iload hx hb d_m1108_103 (lv_at hl 6 rfl) ?_
        refine lv_iload hx hb d_m1108_105 (lv_at hl 4 rfl) ?_
        refine lv_icmp_gt (tgt := 133) hx hb d_m1108_107 (by decide) (fun hc => ?_) (fun hc => ?_)
        · replace hf := (if_pos hc).symm.trans hf
          obtain rfl := Option.some.inj hf
          exact hE0  H locs ls hP hD hS hl
        · replace hf := (if_neg hc).symm.trans hf
          refine lv_aload_n hx hb d_m1108_110 rfl (lv_at hl 0 rfl) ?_
          refine lv_iload_n hx hb d_m1108_111 rfl (lv_at hl 3 rfl) ?_
          obtain ⟨z4, hz4, hf⟩ := ob_bind hf
          refine g_callv (wc := (w_M_sendRun cI cB cS cT a_mo a_mo_lengths a_mo_codes a_mo_out a_mo_times a_mo_runBits a_mo_h a_mo_v a_mo_across a_mo_down a_mo_ownAcross a_mo_ownDown a_mo_base a_mo_coefficients a_mo_before0 a_mo_draftCounts a_mo_draft a_mo_words a_mo_directOf a_mo_otherOf a_mo_data a_mo_prediction a_mo_toCome a_mo_timesKept mo_thrown mo_width mo_height mo_many mo_unitsAcross mo_unitsDown mo_drafts mo_mask mo_first mo_last mo_before mo_bits mo_interval mo_size mo_outs_96 mo_part_96 mo_parted_96 mo_failed_96 mo_counting mo_run_96 mo_runMany_96 mo_comes_96 mo_at mo_taken mo_left mo_fault mo_lengths mo_codes mo_out_96 mo_times_96 mo_runBits)) (w1 := (w_M_sendRun cI cB cS cT a_mo a_mo_lengths a_mo_codes a_mo_out a_mo_times a_mo_runBits a_mo_h a_mo_v a_mo_across a_mo_down a_mo_ownAcross a_mo_ownDown a_mo_base a_mo_coefficients a_mo_before0 a_mo_draftCounts a_mo_draft a_mo_words a_mo_directOf a_mo_otherOf a_mo_data a_mo_prediction a_mo_toCome a_mo_timesKept mo_thrown mo_width mo_height mo_many mo_unitsAcross mo_unitsDown mo_drafts mo_mask mo_first mo_last mo_before mo_bits mo_interval mo_size z4.1 z4.2.1 z4.2.2.1 z4.2.2.2.1 mo_counting z4.2.2.2.2.1 z4.2.2.2.2.2.1 mo_comes_96 mo_at mo_taken mo_left mo_fault mo_lengths mo_codes z4.2.2.2.2.2.2.1 z4.2.2.2.2.2.2.2 mo_runBits)) (w2 := (w_M_writeMore cI cB cS cT a_mo a_mo_base a_mo_coefficients a_mo_lengths a_mo_codes a_mo_otherOf a_mo_out a_mo_times a_mo_runBits a_mo_toCome a_mo_h a_mo_v a_mo_across a_mo_down a_mo_ownAcross a_mo_ownDown a_mo_before0 a_mo_draftCounts a_mo_draft a_mo_words a_mo_directOf a_mo_data a_mo_prediction a_mo_timesKept mo_thrown mo_width mo_height mo_many mo_unitsAcross mo_unitsDown mo_drafts mo_mask mo_first mo_last mo_before mo_bits mo_interval mo_size z4.1 z4.2.1 z4.2.2.1 z4.2.2.2.1 mo_counting z4.2.2.2.2.1 z4.2.2.2.2.2.1 mo_comes_96 mo_at mo_taken mo_left mo_fault mo_base mo_coefficients mo_lengths mo_codes mo_otherOf z4.2.2.2.2.2.2.1 z4.2.2.2.2.2.2.2 mo_runBits mo_toCome_66)) [0, 3, 4, 6, 7, 8] [some 0, none, none, some 1, some 2, none, some 3, some 4, some 5, none] hP hD hS hA rfl rfl rfl rfl (va_runV (As := [.int v3_66]) (rest := []) ⟨hx, hb, hml, hown, hts⟩ (c_M_sendRun l dC dI cI cB cS cT N a_mo a_mo_lengths a_mo_codes a_mo_out a_mo_times a_mo_runBits a_mo_h a_mo_v a_mo_across a_mo_down a_mo_ownAcross a_mo_ownDown a_mo_base a_mo_coefficients a_mo_before0 a_mo_draftCounts a_mo_draft a_mo_words a_mo_directOf a_mo_otherOf a_mo_data a_mo_prediction a_mo_toCome a_mo_timesKept mo_thrown mo_width mo_height mo_many mo_unitsAcross mo_unitsDown mo_drafts mo_mask mo_first mo_last mo_before mo_bits mo_interval mo_size mo_outs_96 mo_part_96 mo_parted_96 mo_failed_96 mo_counting mo_run_96 mo_runMany_96 mo_comes_96 mo_at mo_taken mo_left mo_fault mo_lengths mo_codes mo_out_96 mo_times_96 mo_runBits v3_66 H.size z4 hz4) ⟨(callB_of 1 hts (gi tw_1054 rfl) rfl rfl rfl (hts _ (List.mem_cons_of_mem _ tw_16)) (hts _ (List.mem_cons_of_mem _ tw_1051)) (by decide +kernel) ⟨Nat.le_of_ble_eq_true rfl, Nat.le_of_ble_eq_true rfl⟩), hts _ (List.mem_cons_of_mem _ tw_1053), hts _ (List.mem_cons_of_mem _ ts_m1054)⟩ ⟨g_blind, va_recv hK hP (ci := 11) (q0 := 0) rfl rfl, g_at hKN (g_pm hP [0, 3, 4, 6, 7, 8] rfl) (hD.sub [0, 3, 4, 6, 7, 8] (by decide) rfl)⟩ rfl rfl hl.1 rfl (lv_room (Nat.le_of_ble_eq_true rfl)) d_m1108_112 ⟨Nat.zero_le _, Nat.zero_le _⟩) (fun H locs hP hD hS => ?_)
          refine W.eq (g2 := F0 m 115 ls []) rfl ?_
          refine lv_aload_n hx hb d_m1108_115 rfl (lv_at hl 0 rfl) ?_
          refine lv_iload_n hx hb d_m1108_116 rfl (lv_at hl 3 rfl) ?_
          refine lv_sipush (v := (240 : Int32)) hx hb d_m1108_117 (by decide) ?_
          obtain ⟨z5, hz5, hf⟩ := ob_bind hf
          refine g_callv (wc := (w_M_word cI cB cS cT a_mo a_mo_lengths a_mo_codes a_mo_out a_mo_times a_mo_h a_mo_v a_mo_across a_mo_down a_mo_ownAcross a_mo_ownDown a_mo_base a_mo_coefficients a_mo_before0 a_mo_draftCounts a_mo_draft a_mo_words a_mo_directOf a_mo_otherOf a_mo_data a_mo_prediction a_mo_runBits a_mo_toCome a_mo_timesKept mo_thrown mo_width mo_height mo_many mo_unitsAcross mo_unitsDown mo_drafts mo_mask mo_first mo_last mo_before mo_bits mo_interval mo_size z4.1 z4.2.1 z4.2.2.1 z4.2.2.2.1 mo_counting z4.2.2.2.2.1 z4.2.2.2.2.2.1 mo_comes_96 mo_at mo_taken mo_left mo_fault mo_lengths mo_codes z4.2.2.2.2.2.2.1 z4.2.2.2.2.2.2.2)) (w1 := (w_M_word cI cB cS cT a_mo a_mo_lengths a_mo_codes a_mo_out a_mo_times a_mo_h a_mo_v a_mo_across a_mo_down a_mo_ownAcross a_mo_ownDown a_mo_base a_mo_coefficients a_mo_before0 a_mo_draftCounts a_mo_draft a_mo_words a_mo_directOf a_mo_otherOf a_mo_data a_mo_prediction a_mo_runBits a_mo_toCome a_mo_timesKept mo_thrown mo_width mo_height mo_many mo_unitsAcross mo_unitsDown mo_drafts mo_mask mo_first mo_last mo_before mo_bits mo_interval mo_size z5.1 z5.2.1 z5.2.2.1 z5.2.2.2.1 mo_counting z4.2.2.2.2.1 z4.2.2.2.2.2.1 mo_comes_96 mo_at mo_taken mo_left mo_fault mo_lengths mo_codes z5.2.2.2.2.1 z5.2.2.2.2.2)) (w2 := (w_M_writeMore cI cB cS cT a_mo a_mo_base a_mo_coefficients a_mo_lengths a_mo_codes a_mo_otherOf a_mo_out a_mo_times a_mo_runBits a_mo_toCome a_mo_h a_mo_v a_mo_across a_mo_down a_mo_ownAcross a_mo_ownDown a_mo_before0 a_mo_draftCounts a_mo_draft a_mo_words a_mo_directOf a_mo_data a_mo_prediction a_mo_timesKept mo_thrown mo_width mo_height mo_many mo_unitsAcross mo_unitsDown mo_drafts mo_mask mo_first mo_last mo_before mo_bits mo_interval mo_size z5.1 z5.2.1 z5.2.2.1 z5.2.2.2.1 mo_counting z4.2.2.2.2.1 z4.2.2.2.2.2.1 mo_comes_96 mo_at mo_taken mo_left mo_fault mo_base mo_coefficients mo_lengths mo_codes mo_otherOf z5.2.2.2.2.1 z5.2.2.2.2.2 mo_runBits mo_toCome_66)) [0, 3, 4, 6, 7] [some 0, none, none, some 1, some 2, none, some 3, some 4, none, none] hP hD hS hA rfl rfl rfl rfl (va_runV (As := [.int v3_66, .int (240 : Int32)]) (rest := []) ⟨hx, hb, hml, hown, hts⟩ (c_M_word l dC dI cI cB cS cT N a_mo a_mo_lengths a_mo_codes a_mo_out a_mo_times a_mo_h a_mo_v a_mo_across a_mo_down a_mo_ownAcross a_mo_ownDown a_mo_base a_mo_coefficients a_mo_before0 a_mo_draftCounts a_mo_draft a_mo_words a_mo_directOf a_mo_otherOf a_mo_data a_mo_prediction a_mo_runBits a_mo_toCome a_mo_timesKept mo_thrown mo_width mo_height mo_many mo_unitsAcross mo_unitsDown mo_drafts mo_mask mo_first mo_last mo_before mo_bits mo_interval mo_size z4.1 z4.2.1 z4.2.2.1 z4.2.2.2.1 mo_counting z4.2.2.2.2.1 z4.2.2.2.2.2.1 mo_comes_96 mo_at mo_taken mo_left mo_fault mo_lengths mo_codes z4.2.2.2.2.2.2.1 z4.2.2.2.2.2.2.2 v3_66 (240 : Int32) H.size z5 hz5) ⟨(callB_of 2 hts (gi tw_1061 rfl) rfl rfl rfl (hts _ (List.mem_cons_of_mem _ tw_16)) (hts _ (List.mem_cons_of_mem _ tw_1058)) (by decide +kernel) ⟨Nat.le_of_ble_eq_true rfl, Nat.le_of_ble_eq_true rfl⟩), hts _ (List.mem_cons_of_mem _ tw_1060), hts _ (List.mem_cons_of_mem _ ts_m1061)⟩ ⟨g_blind, va_recv hK hP (ci := 11) (q0 := 0) rfl rfl, g_at hKN (g_pm hP [0, 3, 4, 6, 7] rfl) (hD.sub [0, 3, 4, 6, 7] (by decide) rfl)⟩ rfl rfl hl.1 rfl (lv_room (Nat.le_of_ble_eq_true rfl)) d_m1108_120 ⟨Nat.zero_le _, Nat.zero_le _⟩) (fun H locs hP hD hS => ?_)
          refine W.eq (g2 := F0 m 123 ls []) rfl ?_
          refine lv_aload_n hx hb d_m1108_123 rfl (lv_at hl 0 rfl) ?_
          obtain ⟨z6, hz6, hf⟩ := ob_bind hf
          refine g_callv (wc := (w_M_sendComing cI cB cS cT a_mo a_mo_out a_mo_toCome a_mo_h a_mo_v a_mo_across a_mo_down a_mo_ownAcross a_mo_ownDown a_mo_base a_mo_coefficients a_mo_before0 a_mo_draftCounts a_mo_draft a_mo_words a_mo_lengths a_mo_codes a_mo_directOf a_mo_otherOf a_mo_data a_mo_times a_mo_prediction a_mo_runBits a_mo_timesKept mo_thrown mo_width mo_height mo_many mo_unitsAcross mo_unitsDown mo_drafts mo_mask mo_first mo_last mo_before mo_bits mo_interval mo_size z5.1 z5.2.1 z5.2.2.1 z5.2.2.2.1 mo_counting z4.2.2.2.2.1 z4.2.2.2.2.2.1 mo_comes_96 mo_at mo_taken mo_left mo_fault z5.2.2.2.2.1 mo_toCome_66)) (w1 := (w_M_sendComing cI cB cS cT a_mo a_mo_out a_mo_toCome a_mo_h a_mo_v a_mo_across a_mo_down a_mo_ownAcross a_mo_ownDown a_mo_base a_mo_coefficients a_mo_before0 a_mo_draftCounts a_mo_draft a_mo_words a_mo_lengths a_mo_codes a_mo_directOf a_mo_otherOf a_mo_data a_mo_times a_mo_prediction a_mo_runBits a_mo_timesKept mo_thrown mo_width mo_height mo_many mo_unitsAcross mo_unitsDown mo_drafts mo_mask mo_first mo_last mo_before mo_bits mo_interval mo_size z6.1 z6.2.1 z6.2.2.1 z6.2.2.2.1 mo_counting z4.2.2.2.2.1 z4.2.2.2.2.2.1 z6.2.2.2.2.1 mo_at mo_taken mo_left mo_fault z6.2.2.2.2.2 mo_toCome_66)) (w2 := (w_M_writeMore cI cB cS cT a_mo a_mo_base a_mo_coefficients a_mo_lengths a_mo_codes a_mo_otherOf a_mo_out a_mo_times a_mo_runBits a_mo_toCome a_mo_h a_mo_v a_mo_across a_mo_down a_mo_ownAcross a_mo_ownDown a_mo_before0 a_mo_draftCounts a_mo_draft a_mo_words a_mo_directOf a_mo_data a_mo_prediction a_mo_timesKept mo_thrown mo_width mo_height mo_many mo_unitsAcross mo_unitsDown mo_drafts mo_mask mo_first mo_last mo_before mo_bits mo_interval mo_size z6.1 z6.2.1 z6.2.2.1 z6.2.2.2.1 mo_counting z4.2.2.2.2.1 z4.2.2.2.2.2.1 z6.2.2.2.2.1 mo_at mo_taken mo_left mo_fault mo_base mo_coefficients mo_lengths mo_codes mo_otherOf z6.2.2.2.2.2 z5.2.2.2.2.2 mo_runBits mo_toCome_66)) [0, 6, 9] [some 0, none, none, none, none, none, some 1, none, none, some 2] hP hD hS hA rfl rfl rfl rfl (va_runV (As := []) (rest := []) ⟨hx, hb, hml, hown, hts⟩ (c_M_sendComing l dC dI cI cB cS cT N a_mo a_mo_out a_mo_toCome a_mo_h a_mo_v a_mo_across a_mo_down a_mo_ownAcross a_mo_ownDown a_mo_base a_mo_coefficients a_mo_before0 a_mo_draftCounts a_mo_draft a_mo_words a_mo_lengths a_mo_codes a_mo_directOf a_mo_otherOf a_mo_data a_mo_times a_mo_prediction a_mo_runBits a_mo_timesKept mo_thrown mo_width mo_height mo_many mo_unitsAcross mo_unitsDown mo_drafts mo_mask mo_first mo_last mo_before mo_bits mo_interval mo_size z5.1 z5.2.1 z5.2.2.1 z5.2.2.2.1 mo_counting z4.2.2.2.2.1 z4.2.2.2.2.2.1 mo_comes_96 mo_at mo_taken mo_left mo_fault z5.2.2.2.2.1 mo_toCome_66 H.size z6 hz6) ⟨(callB_of 0 hts (gi tw_1116 rfl) rfl rfl rfl (hts _ (List.mem_cons_of_mem _ tw_16)) (hts _ (List.mem_cons_of_mem _ tw_1113)) (by decide +kernel) ⟨Nat.le_of_ble_eq_true rfl, Nat.le_of_ble_eq_true rfl⟩), hts _ (List.mem_cons_of_mem _ tw_1115), hts _ (List.mem_cons_of_mem _ ts_m1116)⟩ ⟨g_blind, va_recv hK hP (ci := 11) (q0 := 0) rfl rfl, g_at hKN (g_pm hP [0, 6, 9] rfl) (hD.sub [0, 6, 9] (by decide) rfl)⟩ rfl rfl hl.1 rfl (lv_room (Nat.le_of_ble_eq_true rfl)) d_m1108_124 ⟨Nat.zero_le _, Nat.zero_le _⟩) (fun H locs hP hD hS => ?_)
          refine W.eq (g2 := F0 m 127 ls []) rfl ?_
          refine lv_iinc (v := v5_96 + (-16 : Int32)) (lv' := [(5, .int (v5_96 + (-16 : Int32))), (0, .ref a_mo), (1, .int p0), (2, .int p1), (3, .int v3_66), (4, .int v4_66), (6, .int v6_66), (7, .int v7_96)]) hx hb d_m1108_127 hl (k := 5) rfl rfl (by decide) rfl (fun ls hl => ?_)
          refine lv_goto (tgt := 96) hx hb d_m1108_130 (by decide) ?_
          exact ih (v5_96 + (-16 : Int32)) z6.1 z6.2.1 z6.2.2.1 z6.2.2.2.1 z4.2.2.2.2.1 z4.2.2.2.2.2.1 z6.2.2.2.2.1 z6.2.2.2.2.2 z5.2.2.2.2.2 hf H locs ls hP hD hS (lv_sub hl [1, 2, 3, 4, 5, 0, 6, 7] rfl)
  have L66 : ∀ (v3_66 : Int32) (v4_66 : Int32) (z : Int32 × Int32 × Int32 × Int32 × Int32 × Int32 × Int32 × Int32 × (Nat → Int32) × (Nat → Int32) × (Nat → Int32)), (GW (dC, dI) A p l e (headSpec ws_m1108 rm_M_writeMore).room s m args below meth c 0 0 Q 8 227 (w_M_writeMore cI cB cS cT a_mo a_mo_base a_mo_coefficients a_mo_lengths a_mo_codes a_mo_otherOf a_mo_out a_mo_times a_mo_runBits a_mo_toCome a_mo_h a_mo_v a_mo_across a_mo_down a_mo_ownAcross a_mo_ownDown a_mo_before0 a_mo_draftCounts a_mo_draft a_mo_words a_mo_directOf a_mo_data a_mo_prediction a_mo_timesKept mo_thrown mo_width mo_height mo_many mo_unitsAcross mo_unitsDown mo_drafts mo_mask mo_first mo_last mo_before mo_bits mo_interval mo_size z.2.1 z.2.2.1 z.2.2.2.1 z.2.2.2.2.1 mo_counting z.2.2.2.2.2.1 z.2.2.2.2.2.2.1 z.2.2.2.2.2.2.2.1 mo_at mo_taken mo_left mo_fault mo_base mo_coefficients mo_lengths mo_codes mo_otherOf z.2.2.2.2.2.2.2.2.1 z.2.2.2.2.2.2.2.2.2.1 mo_runBits z.2.2.2.2.2.2.2.2.2.2) [(0, .ref a_mo), (3, .int v3_66), (5, .int z.1)] []) → ∀ (k : Nat) (v5_66 : Int32) (v6_66 : Int32) (mo_outs_66 : Int32) (mo_part_66 : Int32) (mo_parted_66 : Int32) (mo_failed_66 : Int32) (mo_run_66 : Int32) (mo_runMany_66 : Int32) (mo_comes_66 : Int32) (mo_out_66 : Nat → Int32) (mo_times_66 : Nat → Int32) (mo_toCome_66 : Nat → Int32), f_M_writeMore_L66 mo_last p0 p1 mo_bits mo_base mo_coefficients v4_66 v3_66 mo_counting mo_lengths mo_codes mo_runBits N k (v5_66, v6_66, mo_outs_66, mo_part_66, mo_parted_66, mo_failed_66, mo_run_66, mo_runMany_66, mo_comes_66, mo_out_66, mo_times_66, mo_toCome_66) = some z → GW (dC, dI) A p l e (headSpec ws_m1108 rm_M_writeMore).room s m args below meth c 0 0 Q 8 66 (w_M_writeMore cI cB cS cT a_mo a_mo_base a_mo_coefficients a_mo_lengths a_mo_codes a_mo_otherOf a_mo_out a_mo_times a_mo_runBits a_mo_toCome a_mo_h a_mo_v a_mo_across a_mo_down a_mo_ownAcross a_mo_ownDown a_mo_before0 a_mo_draftCounts a_mo_draft a_mo_words a_mo_directOf a_mo_data a_mo_prediction a_mo_timesKept mo_thrown mo_width mo_height mo_many mo_unitsAcross mo_unitsDown mo_drafts mo_mask mo_first mo_last mo_before mo_bits mo_interval mo_size mo_outs_66 mo_part_66 mo_parted_66 mo_failed_66 mo_counting mo_run_66 mo_runMany_66 mo_comes_66 mo_at mo_taken mo_left mo_fault mo_base mo_coefficients mo_lengths mo_codes mo_otherOf mo_out_66 mo_times_66 mo_runBits mo_toCome_66) [(0, .ref a_mo), (1, .int p0), (2, .int p1), (3, .int v3_66), (4, .int v4_66), (5, .int v5_66), (6, .int v6_66)] [] := by
    intro v3_66 v4_66 z hE0 k
    induction k with
    | zero =>
      intro v5_66 v6_66 mo_outs_66 mo_part_66 mo_parted_66 mo_failed_66 mo_run_66 mo_runMany_66 mo_comes_66 mo_out_66 mo_times_66 mo_toCome_66 hf
      exact (it_zero hf).elim
    | succ k ih =>
      intro v5_66 v6_66 mo_outs_66 mo_part_66 mo_parted_66 mo_failed_66 mo_run_66 mo_runMany_66 mo_comes_66 mo_out_66 mo_times_66 mo_toCome_66 hf H locs ls hP hD hS hl
      have J66_221 : ∀ (v5_j221 : Int32) (mo_outs_j221 : Int32) (mo_part_j221 : Int32) (mo_parted_j221 : Int32) (mo_failed_j221 : Int32) (mo_run_j221 : Int32) (mo_runMany_j221 : Int32) (mo_comes_j221 : Int32) (mo_out_j221 : Nat → Int32) (mo_times_j221 : Nat → Int32) (mo_toCome_j221 : Nat → Int32), f_M_writeMore_J66_221 N (f_M_writeMore_L66 mo_last p0 p1 mo_bits mo_base mo_coefficients v4_66 v3_66 mo_counting mo_lengths mo_codes mo_runBits N k) v5_j221 v6_66 mo_outs_j221 mo_part_j221 mo_parted_j221 mo_failed_j221 mo_run_j221 mo_runMany_j221 mo_comes_j221 mo_out_j221 mo_times_j221 mo_toCome_j221 = some z → GW (dC, dI) A p l e (headSpec ws_m1108 rm_M_writeMore).room s m args below meth c 0 0 Q 8 221 (w_M_writeMore cI cB cS cT a_mo a_mo_base a_mo_coefficients a_mo_lengths a_mo_codes a_mo_otherOf a_mo_out a_mo_times a_mo_runBits a_mo_toCome a_mo_h a_mo_v a_mo_across a_mo_down a_mo_ownAcross a_mo_ownDown a_mo_before0 a_mo_draftCounts a_mo_draft a_mo_words a_mo_directOf a_mo_data a_mo_prediction a_mo_timesKept mo_thrown mo_width mo_height mo_many mo_unitsAcross mo_unitsDown mo_drafts mo_mask mo_first mo_last mo_before mo_bits mo_interval mo_size mo_outs_j221 mo_part_j221 mo_parted_j221 mo_failed_j221 mo_counting mo_run_j221 mo_runMany_j221 mo_comes_j221 mo_at mo_taken mo_left mo_fault mo_base mo_coefficients mo_lengths mo_codes mo_otherOf mo_out_j221 mo_times_j221 mo_runBits mo_toCome_j221) [(0, .ref a_mo), (1, .int p0), (2, .int p1), (3, .int v3_66), (4, .int v4_66), (5, .int v5_j221), (6, .int v6_66)] [] := by
        intro v5_j221 mo_outs_j221 mo_part_j221 mo_parted_j221 mo_failed_j221 mo_run_j221 mo_runMany_j221 mo_comes_j221 mo_out_j221 mo_times_j221 mo_toCome_j221 hf H locs ls hP hD hS hl
        unfold f_M_writeMore_J66_221 at hf
        refine lv_iinc (v := v6_66 + (1 : Int32)) (lv' := [(6, .int (v6_66 + (1 : Int32))), (0, .ref a_mo), (1, .int p0), (2, .int p1), (3, .int v3_66), (4, .int v4_66), (5, .int v5_j221)]) hx hb d_m1108_221 hl (k := 6) rfl rfl (by decide) rfl (fun ls hl => ?_)
        refine lv_goto (tgt := 66) hx hb d_m1108_224 (by decide) ?_
        exact ih v5_j221 (v6_66 + (1 : Int32)) mo_outs_j221 mo_part_j221 mo_parted_j221 mo_failed_j221 mo_run_j221 mo_runMany_j221 mo_comes_j221 mo_out_j221 mo_times_j221 mo_toCome_j221 hf H locs ls hP hD hS (lv_sub hl [1, 2, 3, 4, 5, 6, 0] rfl)
      have J66_211 : ∀ (mo_outs_j211 : Int32) (mo_part_j211 : Int32) (mo_parted_j211 : Int32) (mo_failed_j211 : Int32) (mo_run_j211 : Int32) (mo_runMany_j211 : Int32) (mo_comes_j211 : Int32) (mo_out_j211 : Nat → Int32) (mo_times_j211 : Nat → Int32) (s1_j211 : Int32), f_M_writeMore_J66_211 N (f_M_writeMore_L66 mo_last p0 p1 mo_bits mo_base mo_coefficients v4_66 v3_66 mo_counting mo_lengths mo_codes mo_runBits N k) s1_j211 mo_outs_j211 mo_part_j211 mo_parted_j211 mo_failed_j211 mo_counting mo_out_j211 mo_comes_j211 mo_toCome_66 v6_66 mo_run_j211 mo_runMany_j211 mo_times_j211 = some z → GW (dC, dI) A p l e (headSpec ws_m1108 rm_M_writeMore).room s m args below meth c 0 0 Q 8 211 (w_M_writeMore cI cB cS cT a_mo a_mo_base a_mo_coefficients a_mo_lengths a_mo_codes a_mo_otherOf a_mo_out a_mo_times a_mo_runBits a_mo_toCome a_mo_h a_mo_v a_mo_across a_mo_down a_mo_ownAcross a_mo_ownDown a_mo_before0 a_mo_draftCounts a_mo_draft a_mo_words a_mo_directOf a_mo_data a_mo_prediction a_mo_timesKept mo_thrown mo_width mo_height mo_many mo_unitsAcross mo_unitsDown mo_drafts mo_mask mo_first mo_last mo_before mo_bits mo_interval mo_size mo_outs_j211 mo_part_j211 mo_parted_j211 mo_failed_j211 mo_counting mo_run_j211 mo_runMany_j211 mo_comes_j211 mo_at mo_taken mo_left mo_fault mo_base mo_coefficients mo_lengths mo_codes mo_otherOf mo_out_j211 mo_times_j211 mo_runBits mo_toCome_66) [(0, .ref a_mo), (1, .int p0), (2, .int p1), (3, .int v3_66), (4, .int v4_66), (6, .int v6_66)] [.int s1_j211, .ref a_mo] := by
        intro mo_outs_j211 mo_part_j211 mo_parted_j211 mo_failed_j211 mo_run_j211 mo_runMany_j211 mo_comes_j211 mo_out_j211 mo_times_j211 s1_j211 hf H locs ls hP hD hS hl
        unfold f_M_writeMore_J66_211 at hf
        obtain ⟨z10, hz10, hf⟩ := ob_bind hf
        refine g_callv (wc := (w_M_bit cI cB cS cT a_mo a_mo_out a_mo_h a_mo_v a_mo_across a_mo_down a_mo_ownAcross a_mo_ownDown a_mo_base a_mo_coefficients a_mo_before0 a_mo_draftCounts a_mo_draft a_mo_words a_mo_lengths a_mo_codes a_mo_directOf a_mo_otherOf a_mo_data a_mo_times a_mo_prediction a_mo_runBits a_mo_toCome a_mo_timesKept mo_thrown mo_width mo_height mo_many mo_unitsAcross mo_unitsDown mo_drafts mo_mask mo_first mo_last mo_before mo_bits mo_interval mo_size mo_outs_j211 mo_part_j211 mo_parted_j211 mo_failed_j211 mo_counting mo_run_j211 mo_runMany_j211 mo_comes_j211 mo_at mo_taken mo_left mo_fault mo_out_j211)) (w1 := (w_M_bit cI cB cS cT a_mo a_mo_out a_mo_h a_mo_v a_mo_across a_mo_down a_mo_ownAcross a_mo_ownDown a_mo_base a_mo_coefficients a_mo_before0 a_mo_draftCounts a_mo_draft a_mo_words a_mo_lengths a_mo_codes a_mo_directOf a_mo_otherOf a_mo_data a_mo_times a_mo_prediction a_mo_runBits a_mo_toCome a_mo_timesKept mo_thrown mo_width mo_height mo_many mo_unitsAcross mo_unitsDown mo_drafts mo_mask mo_first mo_last mo_before mo_bits mo_interval mo_size z10.1 z10.2.1 z10.2.2.1 z10.2.2.2.1 mo_counting mo_run_j211 mo_runMany_j211 mo_comes_j211 mo_at mo_taken mo_left mo_fault z10.2.2.2.2)) (w2 := (w_M_writeMore cI cB cS cT a_mo a_mo_base a_mo_coefficients a_mo_lengths a_mo_codes a_mo_otherOf a_mo_out a_mo_times a_mo_runBits a_mo_toCome a_mo_h a_mo_v a_mo_across a_mo_down a_mo_ownAcross a_mo_ownDown a_mo_before0 a_mo_draftCounts a_mo_draft a_mo_words a_mo_directOf a_mo_data a_mo_prediction a_mo_timesKept mo_thrown mo_width mo_height mo_many mo_unitsAcross mo_unitsDown mo_drafts mo_mask mo_first mo_last mo_before mo_bits mo_interval mo_size z10.1 z10.2.1 z10.2.2.1 z10.2.2.2.1 mo_counting mo_run_j211 mo_runMany_j211 mo_comes_j211 mo_at mo_taken mo_left mo_fault mo_base mo_coefficients mo_lengths mo_codes mo_otherOf z10.2.2.2.2 mo_times_j211 mo_runBits mo_toCome_66)) [0, 6] [some 0, none, none, none, none, none, some 1, none, none, none] hP hD hS hA rfl rfl rfl rfl (va_runV (As := [.int s1_j211]) (rest := []) ⟨hx, hb, hml, hown, hts⟩ (c_M_bit l dC dI cI cB cS cT a_mo a_mo_out a_mo_h a_mo_v a_mo_across a_mo_down a_mo_ownAcross a_mo_ownDown a_mo_base a_mo_coefficients a_mo_before0 a_mo_draftCounts a_mo_draft a_mo_words a_mo_lengths a_mo_codes a_mo_directOf a_mo_otherOf a_mo_data a_mo_times a_mo_prediction a_mo_runBits a_mo_toCome a_mo_timesKept mo_thrown mo_width mo_height mo_many mo_unitsAcross mo_unitsDown mo_drafts mo_mask mo_first mo_last mo_before mo_bits mo_interval mo_size mo_outs_j211 mo_part_j211 mo_parted_j211 mo_failed_j211 mo_counting mo_run_j211 mo_runMany_j211 mo_comes_j211 mo_at mo_taken mo_left mo_fault mo_out_j211 s1_j211 H.size z10 hz10) ⟨(callB_of 1 hts (gi tw_1069 rfl) rfl rfl rfl (hts _ (List.mem_cons_of_mem _ tw_16)) (hts _ (List.mem_cons_of_mem _ tw_1066)) (by decide +kernel) ⟨Nat.le_of_ble_eq_true rfl, Nat.le_of_ble_eq_true rfl⟩), hts _ (List.mem_cons_of_mem _ tw_1068), hts _ (List.mem_cons_of_mem _ ts_m1069)⟩ ⟨g_blind, va_recv hK hP (ci := 11) (q0 := 0) rfl rfl, g_at hKN (g_pm hP [0, 6] rfl) (hD.sub [0, 6] (by decide) rfl)⟩ rfl rfl hl.1 rfl (lv_room (Nat.le_of_ble_eq_true rfl)) d_m1108_211 ⟨Nat.zero_le _, Nat.zero_le _⟩) (fun H locs hP hD hS => ?_)
        refine W.eq (g2 := F0 m 214 ls []) rfl ?_
        refine lv_aload_n hx hb d_m1108_214 rfl (lv_at hl 0 rfl) ?_
        obtain ⟨z11, hz11, hf⟩ := ob_bind hf
        refine g_callv (wc := (w_M_sendComing cI cB cS cT a_mo a_mo_out a_mo_toCome a_mo_h a_mo_v a_mo_across a_mo_down a_mo_ownAcross a_mo_ownDown a_mo_base a_mo_coefficients a_mo_before0 a_mo_draftCounts a_mo_draft a_mo_words a_mo_lengths a_mo_codes a_mo_directOf a_mo_otherOf a_mo_data a_mo_times a_mo_prediction a_mo_runBits a_mo_timesKept mo_thrown mo_width mo_height mo_many mo_unitsAcross mo_unitsDown mo_drafts mo_mask mo_first mo_last mo_before mo_bits mo_interval mo_size z10.1 z10.2.1 z10.2.2.1 z10.2.2.2.1 mo_counting mo_run_j211 mo_runMany_j211 mo_comes_j211 mo_at mo_taken mo_left mo_fault z10.2.2.2.2 mo_toCome_66)) (w1 := (w_M_sendComing cI cB cS cT a_mo a_mo_out a_mo_toCome a_mo_h a_mo_v a_mo_across a_mo_down a_mo_ownAcross a_mo_ownDown a_mo_base a_mo_coefficients a_mo_before0 a_mo_draftCounts a_mo_draft a_mo_words a_mo_lengths a_mo_codes a_mo_directOf a_mo_otherOf a_mo_data a_mo_times a_mo_prediction a_mo_runBits a_mo_timesKept mo_thrown mo_width mo_height mo_many mo_unitsAcross mo_unitsDown mo_drafts mo_mask mo_first mo_last mo_before mo_bits mo_interval mo_size z11.1 z11.2.1 z11.2.2.1 z11.2.2.2.1 mo_counting mo_run_j211 mo_runMany_j211 z11.2.2.2.2.1 mo_at mo_taken mo_left mo_fault z11.2.2.2.2.2 mo_toCome_66)) (w2 := (w_M_writeMore cI cB cS cT a_mo a_mo_base a_mo_coefficients a_mo_lengths a_mo_codes a_mo_otherOf a_mo_out a_mo_times a_mo_runBits a_mo_toCome a_mo_h a_mo_v a_mo_across a_mo_down a_mo_ownAcross a_mo_ownDown a_mo_before0 a_mo_draftCounts a_mo_draft a_mo_words a_mo_directOf a_mo_data a_mo_prediction a_mo_timesKept mo_thrown mo_width mo_height mo_many mo_unitsAcross mo_unitsDown mo_drafts mo_mask mo_first mo_last mo_before mo_bits mo_interval mo_size z11.1 z11.2.1 z11.2.2.1 z11.2.2.2.1 mo_counting mo_run_j211 mo_runMany_j211 z11.2.2.2.2.1 mo_at mo_taken mo_left mo_fault mo_base mo_coefficients mo_lengths mo_codes mo_otherOf z11.2.2.2.2.2 mo_times_j211 mo_runBits mo_toCome_66)) [0, 6, 9] [some 0, none, none, none, none, none, some 1, none, none, some 2] hP hD hS hA rfl rfl rfl rfl (va_runV (As := []) (rest := []) ⟨hx, hb, hml, hown, hts⟩ (c_M_sendComing l dC dI cI cB cS cT N a_mo a_mo_out a_mo_toCome a_mo_h a_mo_v a_mo_across a_mo_down a_mo_ownAcross a_mo_ownDown a_mo_base a_mo_coefficients a_mo_before0 a_mo_draftCounts a_mo_draft a_mo_words a_mo_lengths a_mo_codes a_mo_directOf a_mo_otherOf a_mo_data a_mo_times a_mo_prediction a_mo_runBits a_mo_timesKept mo_thrown mo_width mo_height mo_many mo_unitsAcross mo_unitsDown mo_drafts mo_mask mo_first mo_last mo_before mo_bits mo_interval mo_size z10.1 z10.2.1 z10.2.2.1 z10.2.2.2.1 mo_counting mo_run_j211 mo_runMany_j211 mo_comes_j211 mo_at mo_taken mo_left mo_fault z10.2.2.2.2 mo_toCome_66 H.size z11 hz11) ⟨(callB_of 0 hts (gi tw_1116 rfl) rfl rfl rfl (hts _ (List.mem_cons_of_mem _ tw_16)) (hts _ (List.mem_cons_of_mem _ tw_1113)) (by decide +kernel) ⟨Nat.le_of_ble_eq_true rfl, Nat.le_of_ble_eq_true rfl⟩), hts _ (List.mem_cons_of_mem _ tw_1115), hts _ (List.mem_cons_of_mem _ ts_m1116)⟩ ⟨g_blind, va_recv hK hP (ci := 11) (q0 := 0) rfl rfl, g_at hKN (g_pm hP [0, 6, 9] rfl) (hD.sub [0, 6, 9] (by decide) rfl)⟩ rfl rfl hl.1 rfl (lv_room (Nat.le_of_ble_eq_true rfl)) d_m1108_215 ⟨Nat.zero_le _, Nat.zero_le _⟩) (fun H locs hP hD hS => ?_)
        refine W.eq (g2 := F0 m 218 ls []) rfl ?_
        refine lv_iconst (v := (0 : Int32)) hx hb d_m1108_218 (by decide) ?_
        refine lv_istore (lv' := [(5, .int (0 : Int32)), (0, .ref a_mo), (1, .int p0), (2, .int p1), (3, .int v3_66), (4, .int v4_66), (6, .int v6_66)]) hx hb d_m1108_219 hl (by decide) rfl (fun ls hl => ?_)
        exact J66_221 (0 : Int32) z11.1 z11.2.1 z11.2.2.1 z11.2.2.2.1 mo_run_j211 mo_runMany_j211 z11.2.2.2.2.1 z11.2.2.2.2.2 mo_times_j211 mo_toCome_66 hf H locs ls hP hD hS (lv_sub hl [1, 2, 3, 4, 5, 0, 6] rfl)
      have J66_133 : ∀ (v5_j133 : Int32) (v7_j133 : Int32) (mo_outs_j133 : Int32) (mo_part_j133 : Int32) (mo_parted_j133 : Int32) (mo_failed_j133 : Int32) (mo_run_j133 : Int32) (mo_runMany_j133 : Int32) (mo_comes_j133 : Int32) (mo_out_j133 : Nat → Int32) (mo_times_j133 : Nat → Int32), f_M_writeMore_J66_133 N (f_M_writeMore_L66 mo_last p0 p1 mo_bits mo_base mo_coefficients v4_66 v3_66 mo_counting mo_lengths mo_codes mo_runBits N k) v7_j133 v3_66 mo_outs_j133 mo_part_j133 mo_parted_j133 mo_failed_j133 mo_counting mo_run_j133 mo_runMany_j133 mo_lengths mo_codes mo_out_j133 mo_times_j133 mo_runBits v5_j133 p0 mo_base p1 v6_66 mo_coefficients mo_comes_j133 mo_toCome_66 = some z → GW (dC, dI) A p l e (headSpec ws_m1108 rm_M_writeMore).room s m args below meth c 0 0 Q 8 133 (w_M_writeMore cI cB cS cT a_mo a_mo_base a_mo_coefficients a_mo_lengths a_mo_codes a_mo_otherOf a_mo_out a_mo_times a_mo_runBits a_mo_toCome a_mo_h a_mo_v a_mo_across a_mo_down a_mo_ownAcross a_mo_ownDown a_mo_before0 a_mo_draftCounts a_mo_draft a_mo_words a_mo_directOf a_mo_data a_mo_prediction a_mo_timesKept mo_thrown mo_width mo_height mo_many mo_unitsAcross mo_unitsDown mo_drafts mo_mask mo_first mo_last mo_before mo_bits mo_interval mo_size mo_outs_j133 mo_part_j133 mo_parted_j133 mo_failed_j133 mo_counting mo_run_j133 mo_runMany_j133 mo_comes_j133 mo_at mo_taken mo_left mo_fault mo_base mo_coefficients mo_lengths mo_codes mo_otherOf mo_out_j133 mo_times_j133 mo_runBits mo_toCome_66) [(0, .ref a_mo), (1, .int p0), (2, .int p1), (3, .int v3_66), (4, .int v4_66), (5, .int v5_j133), (6, .int v6_66), (7, .int v7_j133)] [] := by
        intro v5_j133 v7_j133 mo_outs_j133 mo_part_j133 mo_parted_j133 mo_failed_j133 mo_run_j133 mo_runMany_j133 mo_comes_j133 mo_out_j133 mo_times_j133 hf H locs ls hP hD hS hl
        unfold f_M_writeMore_J66_133 at hf
        refine lv_iload hx hb d_m1108_133 (lv_at hl 7 rfl) ?_
        refine lv_iconst (v := (1 : Int32)) hx hb d_m1108_135 (by decide) ?_
        refine lv_icmp_le (tgt := 166) hx hb d_m1108_136 (by decide) (fun hc => ?_) (fun hc => ?_)
        · replace hf := (if_pos hc).symm.trans hf
          refine lv_aload_n hx hb d_m1108_166 rfl (lv_at hl 0 rfl) ?_
          refine lv_iload_n hx hb d_m1108_167 rfl (lv_at hl 3 rfl) ?_
          obtain ⟨z8, hz8, hf⟩ := ob_bind hf
          refine g_callv (wc := (w_M_sendRun cI cB cS cT a_mo a_mo_lengths a_mo_codes a_mo_out a_mo_times a_mo_runBits a_mo_h a_mo_v a_mo_across a_mo_down a_mo_ownAcross a_mo_ownDown a_mo_base a_mo_coefficients a_mo_before0 a_mo_draftCounts a_mo_draft a_mo_words a_mo_directOf a_mo_otherOf a_mo_data a_mo_prediction a_mo_toCome a_mo_timesKept mo_thrown mo_width mo_height mo_many mo_unitsAcross mo_unitsDown mo_drafts mo_mask mo_first mo_last mo_before mo_bits mo_interval mo_size mo_outs_j133 mo_part_j133 mo_parted_j133 mo_failed_j133 mo_counting mo_run_j133 mo_runMany_j133 mo_comes_j133 mo_at mo_taken mo_left mo_fault mo_lengths mo_codes mo_out_j133 mo_times_j133 mo_runBits)) (w1 := (w_M_sendRun cI cB cS cT a_mo a_mo_lengths a_mo_codes a_mo_out a_mo_times a_mo_runBits a_mo_h a_mo_v a_mo_across a_mo_down a_mo_ownAcross a_mo_ownDown a_mo_base a_mo_coefficients a_mo_before0 a_mo_draftCounts a_mo_draft a_mo_words a_mo_directOf a_mo_otherOf a_mo_data a_mo_prediction a_mo_toCome a_mo_timesKept mo_thrown mo_width mo_height mo_many mo_unitsAcross mo_unitsDown mo_drafts mo_mask mo_first mo_last mo_before mo_bits mo_interval mo_size z8.1 z8.2.1 z8.2.2.1 z8.2.2.2.1 mo_counting z8.2.2.2.2.1 z8.2.2.2.2.2.1 mo_comes_j133 mo_at mo_taken mo_left mo_fault mo_lengths mo_codes z8.2.2.2.2.2.2.1 z8.2.2.2.2.2.2.2 mo_runBits)) (w2 := (w_M_writeMore cI cB cS cT a_mo a_mo_base a_mo_coefficients a_mo_lengths a_mo_codes a_mo_otherOf a_mo_out a_mo_times a_mo_runBits a_mo_toCome a_mo_h a_mo_v a_mo_across a_mo_down a_mo_ownAcross a_mo_ownDown a_mo_before0 a_mo_draftCounts a_mo_draft a_mo_words a_mo_directOf a_mo_data a_mo_prediction a_mo_timesKept mo_thrown mo_width mo_height mo_many mo_unitsAcross mo_unitsDown mo_drafts mo_mask mo_first mo_last mo_before mo_bits mo_interval mo_size z8.1 z8.2.1 z8.2.2.1 z8.2.2.2.1 mo_counting z8.2.2.2.2.1 z8.2.2.2.2.2.1 mo_comes_j133 mo_at mo_taken mo_left mo_fault mo_base mo_coefficients mo_lengths mo_codes mo_otherOf z8.2.2.2.2.2.2.1 z8.2.2.2.2.2.2.2 mo_runBits mo_toCome_66)) [0, 3, 4, 6, 7, 8] [some 0, none, none, some 1, some 2, none, some 3, some 4, some 5, none] hP hD hS hA rfl rfl rfl rfl (va_runV (As := [.int v3_66]) (rest := []) ⟨hx, hb, hml, hown, hts⟩ (c_M_sendRun l dC dI cI cB cS cT N a_mo a_mo_lengths a_mo_codes a_mo_out a_mo_times a_mo_runBits a_mo_h a_mo_v a_mo_across a_mo_down a_mo_ownAcross a_mo_ownDown a_mo_base a_mo_coefficients a_mo_before0 a_mo_draftCounts a_mo_draft a_mo_words a_mo_directOf a_mo_otherOf a_mo_data a_mo_prediction a_mo_toCome a_mo_timesKept mo_thrown mo_width mo_height mo_many mo_unitsAcross mo_unitsDown mo_drafts mo_mask mo_first mo_last mo_before mo_bits mo_interval mo_size mo_outs_j133 mo_part_j133 mo_parted_j133 mo_failed_j133 mo_counting mo_run_j133 mo_runMany_j133 mo_comes_j133 mo_at mo_taken mo_left mo_fault mo_lengths mo_codes mo_out_j133 mo_times_j133 mo_runBits v3_66 H.size z8 hz8) ⟨(callB_of 1 hts (gi tw_1054 rfl) rfl rfl rfl (hts _ (List.mem_cons_of_mem _ tw_16)) (hts _ (List.mem_cons_of_mem _ tw_1051)) (by decide +kernel) ⟨Nat.le_of_ble_eq_true rfl, Nat.le_of_ble_eq_true rfl⟩), hts _ (List.mem_cons_of_mem _ tw_1053), hts _ (List.mem_cons_of_mem _ ts_m1054)⟩ ⟨g_blind, va_recv hK hP (ci := 11) (q0 := 0) rfl rfl, g_at hKN (g_pm hP [0, 3, 4, 6, 7, 8] rfl) (hD.sub [0, 3, 4, 6, 7, 8] (by decide) rfl)⟩ rfl rfl hl.1 rfl (lv_room (Nat.le_of_ble_eq_true rfl)) d_m1108_168 ⟨Nat.zero_le _, Nat.zero_le _⟩) (fun H locs hP hD hS => ?_)
          refine W.eq (g2 := F0 m 171 ls []) rfl ?_
          refine lv_aload_n hx hb d_m1108_171 rfl (lv_at hl 0 rfl) ?_
          refine lv_iload_n hx hb d_m1108_172 rfl (lv_at hl 3 rfl) ?_
          refine lv_bipush (v := (16 : Int32)) hx hb d_m1108_173 (by decide) ?_
          refine lv_iload hx hb d_m1108_175 (lv_at hl 5 rfl) ?_
          refine lv_imul hx hb d_m1108_177 ?_
          refine lv_iconst (v := (1 : Int32)) hx hb d_m1108_178 (by decide) ?_
          refine lv_iadd hx hb d_m1108_179 ?_
          obtain ⟨z9, hz9, hf⟩ := ob_bind hf
          refine g_callv (wc := (w_M_word cI cB cS cT a_mo a_mo_lengths a_mo_codes a_mo_out a_mo_times a_mo_h a_mo_v a_mo_across a_mo_down a_mo_ownAcross a_mo_ownDown a_mo_base a_mo_coefficients a_mo_before0 a_mo_draftCounts a_mo_draft a_mo_words a_mo_directOf a_mo_otherOf a_mo_data a_mo_prediction a_mo_runBits a_mo_toCome a_mo_timesKept mo_thrown mo_width mo_height mo_many mo_unitsAcross mo_unitsDown mo_drafts mo_mask mo_first mo_last mo_before mo_bits mo_interval mo_size z8.1 z8.2.1 z8.2.2.1 z8.2.2.2.1 mo_counting z8.2.2.2.2.1 z8.2.2.2.2.2.1 mo_comes_j133 mo_at mo_taken mo_left mo_fault mo_lengths mo_codes z8.2.2.2.2.2.2.1 z8.2.2.2.2.2.2.2)) (w1 := (w_M_word cI cB cS cT a_mo a_mo_lengths a_mo_codes a_mo_out a_mo_times a_mo_h a_mo_v a_mo_across a_mo_down a_mo_ownAcross a_mo_ownDown a_mo_base a_mo_coefficients a_mo_before0 a_mo_draftCounts a_mo_draft a_mo_words a_mo_directOf a_mo_otherOf a_mo_data a_mo_prediction a_mo_runBits a_mo_toCome a_mo_timesKept mo_thrown mo_width mo_height mo_many mo_unitsAcross mo_unitsDown mo_drafts mo_mask mo_first mo_last mo_before mo_bits mo_interval mo_size z9.1 z9.2.1 z9.2.2.1 z9.2.2.2.1 mo_counting z8.2.2.2.2.1 z8.2.2.2.2.2.1 mo_comes_j133 mo_at mo_taken mo_left mo_fault mo_lengths mo_codes z9.2.2.2.2.1 z9.2.2.2.2.2)) (w2 := (w_M_writeMore cI cB cS cT a_mo a_mo_base a_mo_coefficients a_mo_lengths a_mo_codes a_mo_otherOf a_mo_out a_mo_times a_mo_runBits a_mo_toCome a_mo_h a_mo_v a_mo_across a_mo_down a_mo_ownAcross a_mo_ownDown a_mo_before0 a_mo_draftCounts a_mo_draft a_mo_words a_mo_directOf a_mo_data a_mo_prediction a_mo_timesKept mo_thrown mo_width mo_height mo_many mo_unitsAcross mo_unitsDown mo_drafts mo_mask mo_first mo_last mo_before mo_bits mo_interval mo_size z9.1 z9.2.1 z9.2.2.1 z9.2.2.2.1 mo_counting z8.2.2.2.2.1 z8.2.2.2.2.2.1 mo_comes_j133 mo_at mo_taken mo_left mo_fault mo_base mo_coefficients mo_lengths mo_codes mo_otherOf z9.2.2.2.2.1 z9.2.2.2.2.2 mo_runBits mo_toCome_66)) [0, 3, 4, 6, 7] [some 0, none, none, some 1, some 2, none, some 3, some 4, none, none] hP hD hS hA rfl rfl rfl rfl (va_runV (As := [.int v3_66, .int (((16 : Int32) * v5_j133) + (1 : Int32))]) (rest := []) ⟨hx, hb, hml, hown, hts⟩ (c_M_word l dC dI cI cB cS cT N a_mo a_mo_lengths a_mo_codes a_mo_out a_mo_times a_mo_h a_mo_v a_mo_across a_mo_down a_mo_ownAcross a_mo_ownDown a_mo_base a_mo_coefficients a_mo_before0 a_mo_draftCounts a_mo_draft a_mo_words a_mo_directOf a_mo_otherOf a_mo_data a_mo_prediction a_mo_runBits a_mo_toCome a_mo_timesKept mo_thrown mo_width mo_height mo_many mo_unitsAcross mo_unitsDown mo_drafts mo_mask mo_first mo_last mo_before mo_bits mo_interval mo_size z8.1 z8.2.1 z8.2.2.1 z8.2.2.2.1 mo_counting z8.2.2.2.2.1 z8.2.2.2.2.2.1 mo_comes_j133 mo_at mo_taken mo_left mo_fault mo_lengths mo_codes z8.2.2.2.2.2.2.1 z8.2.2.2.2.2.2.2 v3_66 (((16 : Int32) * v5_j133) + (1 : Int32)) H.size z9 hz9) ⟨(callB_of 2 hts (gi tw_1061 rfl) rfl rfl rfl (hts _ (List.mem_cons_of_mem _ tw_16)) (hts _ (List.mem_cons_of_mem _ tw_1058)) (by decide +kernel) ⟨Nat.le_of_ble_eq_true rfl, Nat.le_of_ble_eq_true rfl⟩), hts _ (List.mem_cons_of_mem _ tw_1060), hts _ (List.mem_cons_of_mem _ ts_m1061)⟩ ⟨g_blind, va_recv hK hP (ci := 11) (q0 := 0) rfl rfl, g_at hKN (g_pm hP [0, 3, 4, 6, 7] rfl) (hD.sub [0, 3, 4, 6, 7] (by decide) rfl)⟩ rfl rfl hl.1 rfl (lv_room (Nat.le_of_ble_eq_true rfl)) d_m1108_180 ⟨Nat.zero_le _, Nat.zero_le _⟩) (fun H locs hP hD hS => ?_)
          refine W.eq (g2 := F0 m 183 ls []) rfl ?_
          refine lv_aload_n hx hb d_m1108_183 rfl (lv_at hl 0 rfl) ?_
          refine lv_aload_n hx hb d_m1108_184 rfl (lv_at hl 0 rfl) ?_
          refine va_get (D := (dC, dI)) (ci := 11) (v := .ref a_mo_coefficients) (C := "ScanCoderModel") (T := T_11) (N := 49) hx hb hts n0 hown hK hP 0 rfl rfl 13 (by decide) k4 (fun _ h9 => h9) rfl d_m1108_185 ?_
          refine lv_bipush (v := (64 : Int32)) hx hb d_m1108_188 (by decide) ?_
          refine lv_aload_n hx hb d_m1108_190 rfl (lv_at hl 0 rfl) ?_
          refine va_get (D := (dC, dI)) (ci := 11) (v := .ref a_mo_base) (C := "ScanCoderModel") (T := T_11) (N := 49) hx hb hts n0 hown hK hP 0 rfl rfl 10 (by decide) k5 (fun _ h9 => h9) rfl d_m1108_191 ?_
          refine lv_iload_n hx hb d_m1108_194 rfl (lv_at hl 1 rfl) ?_
          obtain ⟨hi, hf⟩ := ob_if hf
          refine va_iald hx hb hK hP 1 0 rfl rfl hi d_m1108_195 ?_
          refine lv_iload_n hx hb d_m1108_196 rfl (lv_at hl 2 rfl) ?_
          refine lv_iadd hx hb d_m1108_197 ?_
          refine lv_imul hx hb d_m1108_198 ?_
          refine lv_iload hx hb d_m1108_199 (lv_at hl 6 rfl) ?_
          refine lv_iadd hx hb d_m1108_201 ?_
          obtain ⟨hi, hf⟩ := ob_if hf
          refine va_sald hx hb hK hP 2 2 rfl rfl hi d_m1108_202 ?_
          refine lv_if_ge (tgt := 210) hx hb d_m1108_203 (by decide) (fun hc => ?_) (fun hc => ?_)
          · replace hf := (if_pos hc).symm.trans hf
            refine lv_iconst (v := (1 : Int32)) hx hb d_m1108_210 (by decide) ?_
            exact J66_211 z9.1 z9.2.1 z9.2.2.1 z9.2.2.2.1 z8.2.2.2.2.1 z8.2.2.2.2.2.1 mo_comes_j133 z9.2.2.2.2.1 z9.2.2.2.2.2 (1 : Int32) hf H locs ls hP hD hS (lv_sub hl [0, 1, 2, 3, 4, 6] rfl)
          · replace hf := (if_neg hc).symm.trans hf
            refine lv_iconst (v := (0 : Int32)) hx hb d_m1108_206 (by decide) ?_
            refine lv_goto (tgt := 211) hx hb d_m1108_207 (by decide) ?_
            exact J66_211 z9.1 z9.2.1 z9.2.2.1 z9.2.2.2.1 z8.2.2.2.2.1 z8.2.2.2.2.2.1 mo_comes_j133 z9.2.2.2.2.1 z9.2.2.2.2.2 (0 : Int32) hf H locs ls hP hD hS (lv_sub hl [0, 1, 2, 3, 4, 6] rfl)
        · replace hf := (if_neg hc).symm.trans hf
          refine lv_aload_n hx hb d_m1108_139 rfl (lv_at hl 0 rfl) ?_
          refine va_get (D := (dC, dI)) (ci := 11) (v := .ref a_mo_toCome) (C := "ScanCoderModel") (T := T_11) (N := 49) hx hb hts n0 hown hK hP 0 rfl rfl 42 (by decide) k6 (fun _ h9 => h9) rfl d_m1108_140 ?_
          refine lv_aload_n hx hb d_m1108_143 rfl (lv_at hl 0 rfl) ?_
          refine va_get (D := (dC, dI)) (ci := 11) (v := .int mo_comes_j133) (C := "ScanCoderModel") (T := T_11) (N := 49) hx hb hts n0 hown hK hP 0 rfl rfl 43 (by decide) k3 (fun _ h9 => h9) rfl d_m1108_144 ?_
          refine lv_iload hx hb d_m1108_147 (lv_at hl 7 rfl) ?_
          refine lv_iconst (v := (1 : Int32)) hx hb d_m1108_149 (by decide) ?_
          refine lv_iand hx hb d_m1108_150 ?_
          refine lv_i2b hx hb d_m1108_151 rfl ?_
          obtain ⟨hi, hf⟩ := ob_if hf
          refine va_bast hx hb hK hP hD hS 9 1 rfl rfl hi d_m1108_152 (fun H locs hP hD hS => ?_)
          have hP : va_P (dC, dI) vwCl (w_M_writeMore cI cB cS cT a_mo a_mo_base a_mo_coefficients a_mo_lengths a_mo_codes a_mo_otherOf a_mo_out a_mo_times a_mo_runBits a_mo_toCome a_mo_h a_mo_v a_mo_across a_mo_down a_mo_ownAcross a_mo_ownDown a_mo_before0 a_mo_draftCounts a_mo_draft a_mo_words a_mo_directOf a_mo_data a_mo_prediction a_mo_timesKept mo_thrown mo_width mo_height mo_many mo_unitsAcross mo_unitsDown mo_drafts mo_mask mo_first mo_last mo_before mo_bits mo_interval mo_size mo_outs_j133 mo_part_j133 mo_parted_j133 mo_failed_j133 mo_counting mo_run_j133 mo_runMany_j133 mo_comes_j133 mo_at mo_taken mo_left mo_fault mo_base mo_coefficients mo_lengths mo_codes mo_otherOf mo_out_j133 mo_times_j133 mo_runBits (upd mo_toCome_66 mo_comes_j133.toNatClampNeg (vp_nar .byte ((v7_j133 &&& (1 : Int32)).toInt8.toInt32)))) H := hP
          have hD : va_D A (w_M_writeMore cI cB cS cT a_mo a_mo_base a_mo_coefficients a_mo_lengths a_mo_codes a_mo_otherOf a_mo_out a_mo_times a_mo_runBits a_mo_toCome a_mo_h a_mo_v a_mo_across a_mo_down a_mo_ownAcross a_mo_ownDown a_mo_before0 a_mo_draftCounts a_mo_draft a_mo_words a_mo_directOf a_mo_data a_mo_prediction a_mo_timesKept mo_thrown mo_width mo_height mo_many mo_unitsAcross mo_unitsDown mo_drafts mo_mask mo_first mo_last mo_before mo_bits mo_interval mo_size mo_outs_j133 mo_part_j133 mo_parted_j133 mo_failed_j133 mo_counting mo_run_j133 mo_runMany_j133 mo_comes_j133 mo_at mo_taken mo_left mo_fault mo_base mo_coefficients mo_lengths mo_codes mo_otherOf mo_out_j133 mo_times_j133 mo_runBits (upd mo_toCome_66 mo_comes_j133.toNatClampNeg (vp_nar .byte ((v7_j133 &&& (1 : Int32)).toInt8.toInt32)))) := hD
          refine lv_aload_n hx hb d_m1108_153 rfl (lv_at hl 0 rfl) ?_
          refine lv_dup hx hb d_m1108_154 rfl ?_
          refine va_get (D := (dC, dI)) (ci := 11) (v := .int mo_comes_j133) (C := "ScanCoderModel") (T := T_11) (N := 49) hx hb hts n0 hown hK hP 0 rfl rfl 43 (by decide) k3 (fun _ h9 => h9) rfl d_m1108_155 ?_
          refine lv_iconst (v := (1 : Int32)) hx hb d_m1108_158 (by decide) ?_
          refine lv_iadd hx hb d_m1108_159 ?_
          refine va_put (D := (dC, dI)) (ci := 11) (v := .int (mo_comes_j133 + (1 : Int32))) (ty := .int) (C := "ScanCoderModel") (T := T_11) (N := 49) hx hb hts n0 ty_11 tyok_11 nm_11 hown hK hP hD hS 0 rfl rfl 43 (by decide) k3 (fun _ h9 => h9) rfl (by decide +kernel) rfl rfl (Nat.le_of_ble_eq_true rfl) d_m1108_160 (fun H locs hP hD hS => ?_)
          have hP : va_P (dC, dI) vwCl (w_M_writeMore cI cB cS cT a_mo a_mo_base a_mo_coefficients a_mo_lengths a_mo_codes a_mo_otherOf a_mo_out a_mo_times a_mo_runBits a_mo_toCome a_mo_h a_mo_v a_mo_across a_mo_down a_mo_ownAcross a_mo_ownDown a_mo_before0 a_mo_draftCounts a_mo_draft a_mo_words a_mo_directOf a_mo_data a_mo_prediction a_mo_timesKept mo_thrown mo_width mo_height mo_many mo_unitsAcross mo_unitsDown mo_drafts mo_mask mo_first mo_last mo_before mo_bits mo_interval mo_size mo_outs_j133 mo_part_j133 mo_parted_j133 mo_failed_j133 mo_counting mo_run_j133 mo_runMany_j133 (mo_comes_j133 + (1 : Int32)) mo_at mo_taken mo_left mo_fault mo_base mo_coefficients mo_lengths mo_codes mo_otherOf mo_out_j133 mo_times_j133 mo_runBits (upd mo_toCome_66 mo_comes_j133.toNatClampNeg (vp_nar .byte ((v7_j133 &&& (1 : Int32)).toInt8.toInt32)))) H := hP
          have hD : va_D A (w_M_writeMore cI cB cS cT a_mo a_mo_base a_mo_coefficients a_mo_lengths a_mo_codes a_mo_otherOf a_mo_out a_mo_times a_mo_runBits a_mo_toCome a_mo_h a_mo_v a_mo_across a_mo_down a_mo_ownAcross a_mo_ownDown a_mo_before0 a_mo_draftCounts a_mo_draft a_mo_words a_mo_directOf a_mo_data a_mo_prediction a_mo_timesKept mo_thrown mo_width mo_height mo_many mo_unitsAcross mo_unitsDown mo_drafts mo_mask mo_first mo_last mo_before mo_bits mo_interval mo_size mo_outs_j133 mo_part_j133 mo_parted_j133 mo_failed_j133 mo_counting mo_run_j133 mo_runMany_j133 (mo_comes_j133 + (1 : Int32)) mo_at mo_taken mo_left mo_fault mo_base mo_coefficients mo_lengths mo_codes mo_otherOf mo_out_j133 mo_times_j133 mo_runBits (upd mo_toCome_66 mo_comes_j133.toNatClampNeg (vp_nar .byte ((v7_j133 &&& (1 : Int32)).toInt8.toInt32)))) := hD
          refine lv_goto (tgt := 221) hx hb d_m1108_163 (by decide) ?_
          exact J66_221 v5_j133 mo_outs_j133 mo_part_j133 mo_parted_j133 mo_failed_j133 mo_run_j133 mo_runMany_j133 (mo_comes_j133 + (1 : Int32)) mo_out_j133 mo_times_j133 (upd mo_toCome_66 mo_comes_j133.toNatClampNeg (vp_nar .byte ((v7_j133 &&& (1 : Int32)).toInt8.toInt32))) hf H locs ls hP hD hS (lv_sub hl [0, 1, 2, 3, 4, 5, 6] rfl)
      have hf : f_M_writeMore_L66b mo_last p0 p1 mo_bits mo_base mo_coefficients v4_66 v3_66 mo_counting mo_lengths mo_codes mo_runBits N (f_M_writeMore_L66 mo_last p0 p1 mo_bits mo_base mo_coefficients v4_66 v3_66 mo_counting mo_lengths mo_codes mo_runBits N k) v5_66 v6_66 mo_outs_66 mo_part_66 mo_parted_66 mo_failed_66 mo_run_66 mo_runMany_66 mo_comes_66 mo_out_66 mo_times_66 mo_toCome_66 = some z := hf
      unfold f_M_writeMore_L66b at hf
      refine lv_iload hx hb d_m1108_66 (lv_at hl 6 rfl) ?_
      refine lv_aload_n hx hb d_m1108_68 rfl (lv_at hl 0 rfl) ?_
      refine va_get (D := (dC, dI)) (ci := 11) (v := .int mo_last) (C := "ScanCoderModel") (T := T_11) (N := 49) hx hb hts n0 hown hK hP 0 rfl rfl 25 (by decide) k2 (fun _ h9 => h9) rfl d_m1108_69 ?_
      refine lv_icmp_gt (tgt := 227) hx hb d_m1108_72 (by decide) (fun hc => ?_) (fun hc => ?_)
      · replace hf := (if_pos hc).symm.trans hf
        obtain rfl := Option.some.inj hf
        exact hE0  H locs ls hP hD hS (lv_sub hl [0, 3, 5] rfl)
      · replace hf := (if_neg hc).symm.trans hf
        refine lv_aload_n hx hb d_m1108_75 rfl (lv_at hl 0 rfl) ?_
        refine lv_iload_n hx hb d_m1108_76 rfl (lv_at hl 1 rfl) ?_
        refine lv_iload_n hx hb d_m1108_77 rfl (lv_at hl 2 rfl) ?_
        refine lv_iload hx hb d_m1108_78 (lv_at hl 6 rfl) ?_
        obtain ⟨z3, hz3, hf⟩ := ob_bind hf
        refine vp_callSi (g_run (va_runV (As := [.int p0, .int p1, .int v6_66]) (rest := []) ⟨hx, hb, hml, hown, hts⟩ (c_M_amount l dC dI cI cB cS cT a_mo a_mo_base a_mo_coefficients a_mo_h a_mo_v a_mo_across a_mo_down a_mo_ownAcross a_mo_ownDown a_mo_before0 a_mo_draftCounts a_mo_draft a_mo_words a_mo_lengths a_mo_codes a_mo_directOf a_mo_otherOf a_mo_data a_mo_out a_mo_times a_mo_prediction a_mo_runBits a_mo_toCome a_mo_timesKept mo_thrown mo_width mo_height mo_many mo_unitsAcross mo_unitsDown mo_drafts mo_mask mo_first mo_last mo_before mo_bits mo_interval mo_size mo_outs_66 mo_part_66 mo_parted_66 mo_failed_66 mo_counting mo_run_66 mo_runMany_66 mo_comes_66 mo_at mo_taken mo_left mo_fault mo_base mo_coefficients p0 p1 v6_66 z3 hz3) ⟨(callB_of 3 hts (gi tw_1112 rfl) rfl rfl rfl (hts _ (List.mem_cons_of_mem _ tw_16)) (hts _ (List.mem_cons_of_mem _ tw_1109)) (by decide +kernel) ⟨Nat.le_of_ble_eq_true rfl, Nat.le_of_ble_eq_true rfl⟩), hts _ (List.mem_cons_of_mem _ tw_1111), hts _ (List.mem_cons_of_mem _ ts_m1112)⟩ ⟨gp_blind, va_recv hK hP (ci := 11) (q0 := 0) rfl rfl, gp_at hKN (g_pm hP [0, 1, 2] rfl)⟩ rfl rfl hl.1 rfl (lv_room (Nat.le_of_ble_eq_true rfl)) d_m1108_80 ⟨Nat.zero_le _, Nat.zero_le _⟩)) (fun r hrz3 => ?_)
        have hrz3 := hrz3.symm
        subst hrz3
        refine W.eq (g2 := F0 m 83 ls [.int z3]) rfl ?_
        refine lv_istore (lv' := [(7, .int z3), (0, .ref a_mo), (1, .int p0), (2, .int p1), (3, .int v3_66), (4, .int v4_66), (5, .int v5_66), (6, .int v6_66)]) hx hb d_m1108_83 hl (by decide) rfl (fun ls hl => ?_)
        refine lv_iload hx hb d_m1108_85 (lv_at hl 0 rfl) ?_
        refine lv_if_ne (tgt := 96) hx hb d_m1108_87 (by decide) (fun hc => ?_) (fun hc => ?_)
        · replace hf := (if_neg hc).symm.trans hf
          obtain ⟨z7, hz7, hf⟩ := ob_bind hf
          refine L96 z3 v4_66 v6_66 v3_66 mo_toCome_66 z7 ?_ N v5_66 mo_outs_66 mo_part_66 mo_parted_66 mo_failed_66 mo_run_66 mo_runMany_66 mo_comes_66 mo_out_66 mo_times_66 hz7 H locs ls hP hD hS (lv_sub hl [1, 2, 3, 4, 5, 6, 7, 0] rfl)
          · intro H locs ls hP hD hS hl
            exact J66_133 z7.1 z3 z7.2.1 z7.2.2.1 z7.2.2.2.1 z7.2.2.2.2.1 z7.2.2.2.2.2.1 z7.2.2.2.2.2.2.1 z7.2.2.2.2.2.2.2.1 z7.2.2.2.2.2.2.2.2.1 z7.2.2.2.2.2.2.2.2.2 hf H locs ls hP hD hS hl
        · replace hf := (if_pos hc).symm.trans hf
          refine lv_iinc (v := v5_66 + (1 : Int32)) (lv' := [(5, .int (v5_66 + (1 : Int32))), (7, .int z3), (0, .ref a_mo), (1, .int p0), (2, .int p1), (3, .int v3_66), (4, .int v4_66), (6, .int v6_66)]) hx hb d_m1108_90 hl (k := 6) rfl rfl (by decide) rfl (fun ls hl => ?_)
          refine lv_goto (tgt := 221) hx hb d_m1108_93 (by decide) ?_
          exact J66_221 (v5_66 + (1 : Int32)) mo_outs_66 mo_part_66 mo_parted_66 mo_failed_66 mo_run_66 mo_runMany_66 mo_comes_66 mo_out_66 mo_times_66 mo_toCome_66 hf H locs ls hP hD hS (lv_sub hl [2, 3, 4, 5, 6, 0, 7] rfl)
  have L252 : ∀ (v3_252 : Int32) (mo_outs_252 : Int32) (mo_part_252 : Int32) (mo_parted_252 : Int32) (mo_failed_252 : Int32) (mo_run_252 : Int32) (mo_comes_252 : Int32) (mo_out_252 : Nat → Int32) (mo_times_252 : Nat → Int32) (mo_toCome_252 : Nat → Int32) (z : Int32 × (Nat → Int32)), (GW (dC, dI) A p l e (headSpec ws_m1108 rm_M_writeMore).room s m args below meth c 0 0 Q 8 293 (w_M_writeMore cI cB cS cT a_mo a_mo_base a_mo_coefficients a_mo_lengths a_mo_codes a_mo_otherOf a_mo_out a_mo_times a_mo_runBits a_mo_toCome a_mo_h a_mo_v a_mo_across a_mo_down a_mo_ownAcross a_mo_ownDown a_mo_before0 a_mo_draftCounts a_mo_draft a_mo_words a_mo_directOf a_mo_data a_mo_prediction a_mo_timesKept mo_thrown mo_width mo_height mo_many mo_unitsAcross mo_unitsDown mo_drafts mo_mask mo_first mo_last mo_before mo_bits mo_interval mo_size mo_outs_252 mo_part_252 mo_parted_252 mo_failed_252 mo_counting mo_run_252 z.1 mo_comes_252 mo_at mo_taken mo_left mo_fault mo_base mo_coefficients mo_lengths mo_codes mo_otherOf mo_out_252 mo_times_252 z.2 mo_toCome_252) [(0, .ref a_mo), (3, .int v3_252)] []) → ∀ (k : Nat) (v6_252 : Int32) (mo_runMany_252 : Int32) (mo_runBits_252 : Nat → Int32), f_M_writeMore_L252 mo_comes_252 mo_toCome_252 N k (v6_252, mo_runMany_252, mo_runBits_252) = some z → GW (dC, dI) A p l e (headSpec ws_m1108 rm_M_writeMore).room s m args below meth c 0 0 Q 8 252 (w_M_writeMore cI cB cS cT a_mo a_mo_base a_mo_coefficients a_mo_lengths a_mo_codes a_mo_otherOf a_mo_out a_mo_times a_mo_runBits a_mo_toCome a_mo_h a_mo_v a_mo_across a_mo_down a_mo_ownAcross a_mo_ownDown a_mo_before0 a_mo_draftCounts a_mo_draft a_mo_words a_mo_directOf a_mo_data a_mo_prediction a_mo_timesKept mo_thrown mo_width mo_height mo_many mo_unitsAcross mo_unitsDown mo_drafts mo_mask mo_first mo_last mo_before mo_bits mo_interval mo_size mo_outs_252 mo_part_252 mo_parted_252 mo_failed_252 mo_counting mo_run_252 mo_runMany_252 mo_comes_252 mo_at mo_taken mo_left mo_fault mo_base mo_coefficients mo_lengths mo_codes mo_otherOf mo_out_252 mo_times_252 mo_runBits_252 mo_toCome_252) [(0, .ref a_mo), (3, .int v3_252), (6, .int v6_252)] [] := by
    intro v3_252 mo_outs_252 mo_part_252 mo_parted_252 mo_failed_252 mo_run_252 mo_comes_252 mo_out_252 mo_times_252 mo_toCome_252 z hE0 k
    induction k with
    | zero =>
      intro v6_252 mo_runMany_252 mo_runBits_252 hf
      exact (it_zero hf).elim
    | succ k ih =>
      intro v6_252 mo_runMany_252 mo_runBits_252 hf H locs ls hP hD hS hl
      have hf : f_M_writeMore_L252b mo_comes_252 mo_toCome_252 N (f_M_writeMore_L252 mo_comes_252 mo_toCome_252 N k) v6_252 mo_runMany_252 mo_runBits_252 = some z := hf
      unfold f_M_writeMore_L252b at hf
      refine lv_iload hx hb d_m1108_252 (lv_at hl 2 rfl) ?_
      refine lv_aload_n hx hb d_m1108_254 rfl (lv_at hl 0 rfl) ?_
      refine va_get (D := (dC, dI)) (ci := 11) (v := .int mo_comes_252) (C := "ScanCoderModel") (T := T_11) (N := 49) hx hb hts n0 hown hK hP 0 rfl rfl 43 (by decide) k3 (fun _ h9 => h9) rfl d_m1108_255 ?_
      refine lv_icmp_ge (tgt := 293) hx hb d_m1108_258 (by decide) (fun hc => ?_) (fun hc => ?_)
      · replace hf := (if_pos hc).symm.trans hf
        obtain rfl := Option.some.inj hf
        exact hE0  H locs ls hP hD hS (lv_sub hl [0, 1] rfl)
      · replace hf := (if_neg hc).symm.trans hf
        refine lv_aload_n hx hb d_m1108_261 rfl (lv_at hl 0 rfl) ?_
        refine va_get (D := (dC, dI)) (ci := 11) (v := .ref a_mo_runBits) (C := "ScanCoderModel") (T := T_11) (N := 49) hx hb hts n0 hown hK hP 0 rfl rfl 40 (by decide) k8 (fun _ h9 => h9) rfl d_m1108_262 ?_
        refine lv_aload_n hx hb d_m1108_265 rfl (lv_at hl 0 rfl) ?_
        refine va_get (D := (dC, dI)) (ci := 11) (v := .int mo_runMany_252) (C := "ScanCoderModel") (T := T_11) (N := 49) hx hb hts n0 hown hK hP 0 rfl rfl 41 (by decide) k9 (fun _ h9 => h9) rfl d_m1108_266 ?_
        refine lv_aload_n hx hb d_m1108_269 rfl (lv_at hl 0 rfl) ?_
        refine va_get (D := (dC, dI)) (ci := 11) (v := .ref a_mo_toCome) (C := "ScanCoderModel") (T := T_11) (N := 49) hx hb hts n0 hown hK hP 0 rfl rfl 42 (by decide) k6 (fun _ h9 => h9) rfl d_m1108_270 ?_
        refine lv_iload hx hb d_m1108_273 (lv_at hl 2 rfl) ?_
        obtain ⟨hi, hf⟩ := ob_if hf
        refine va_bald hx hb hK hP 9 1 rfl rfl hi d_m1108_275 ?_
        obtain ⟨hi, hf⟩ := ob_if hf
        refine va_bast hx hb hK hP hD hS 8 1 rfl rfl hi d_m1108_276 (fun H locs hP hD hS => ?_)
        have hP : va_P (dC, dI) vwCl (w_M_writeMore cI cB cS cT a_mo a_mo_base a_mo_coefficients a_mo_lengths a_mo_codes a_mo_otherOf a_mo_out a_mo_times a_mo_runBits a_mo_toCome a_mo_h a_mo_v a_mo_across a_mo_down a_mo_ownAcross a_mo_ownDown a_mo_before0 a_mo_draftCounts a_mo_draft a_mo_words a_mo_directOf a_mo_data a_mo_prediction a_mo_timesKept mo_thrown mo_width mo_height mo_many mo_unitsAcross mo_unitsDown mo_drafts mo_mask mo_first mo_last mo_before mo_bits mo_interval mo_size mo_outs_252 mo_part_252 mo_parted_252 mo_failed_252 mo_counting mo_run_252 mo_runMany_252 mo_comes_252 mo_at mo_taken mo_left mo_fault mo_base mo_coefficients mo_lengths mo_codes mo_otherOf mo_out_252 mo_times_252 (upd mo_runBits_252 mo_runMany_252.toNatClampNeg (vp_nar .byte (mo_toCome_252 v6_252.toNatClampNeg))) mo_toCome_252) H := hP
        have hD : va_D A (w_M_writeMore cI cB cS cT a_mo a_mo_base a_mo_coefficients a_mo_lengths a_mo_codes a_mo_otherOf a_mo_out a_mo_times a_mo_runBits a_mo_toCome a_mo_h a_mo_v a_mo_across a_mo_down a_mo_ownAcross a_mo_ownDown a_mo_before0 a_mo_draftCounts a_mo_draft a_mo_words a_mo_directOf a_mo_data a_mo_prediction a_mo_timesKept mo_thrown mo_width mo_height mo_many mo_unitsAcross mo_unitsDown mo_drafts mo_mask mo_first mo_last mo_before mo_bits mo_interval mo_size mo_outs_252 mo_part_252 mo_parted_252 mo_failed_252 mo_counting mo_run_252 mo_runMany_252 mo_comes_252 mo_at mo_taken mo_left mo_fault mo_base mo_coefficients mo_lengths mo_codes mo_otherOf mo_out_252 mo_times_252 (upd mo_runBits_252 mo_runMany_252.toNatClampNeg (vp_nar .byte (mo_toCome_252 v6_252.toNatClampNeg))) mo_toCome_252) := hD
        refine lv_aload_n hx hb d_m1108_277 rfl (lv_at hl 0 rfl) ?_
        refine lv_dup hx hb d_m1108_278 rfl ?_
        refine va_get (D := (dC, dI)) (ci := 11) (v := .int mo_runMany_252) (C := "ScanCoderModel") (T := T_11) (N := 49) hx hb hts n0 hown hK hP 0 rfl rfl 41 (by decide) k9 (fun _ h9 => h9) rfl d_m1108_279 ?_
        refine lv_iconst (v := (1 : Int32)) hx hb d_m1108_282 (by decide) ?_
        refine lv_iadd hx hb d_m1108_283 ?_
        refine va_put (D := (dC, dI)) (ci := 11) (v := .int (mo_runMany_252 + (1 : Int32))) (ty := .int) (C := "ScanCoderModel") (T := T_11) (N := 49) hx hb hts n0 ty_11 tyok_11 nm_11 hown hK hP hD hS 0 rfl rfl 41 (by decide) k9 (fun _ h9 => h9) rfl (by decide +kernel) rfl rfl (Nat.le_of_ble_eq_true rfl) d_m1108_284 (fun H locs hP hD hS => ?_)
        have hP : va_P (dC, dI) vwCl (w_M_writeMore cI cB cS cT a_mo a_mo_base a_mo_coefficients a_mo_lengths a_mo_codes a_mo_otherOf a_mo_out a_mo_times a_mo_runBits a_mo_toCome a_mo_h a_mo_v a_mo_across a_mo_down a_mo_ownAcross a_mo_ownDown a_mo_before0 a_mo_draftCounts a_mo_draft a_mo_words a_mo_directOf a_mo_data a_mo_prediction a_mo_timesKept mo_thrown mo_width mo_height mo_many mo_unitsAcross mo_unitsDown mo_drafts mo_mask mo_first mo_last mo_before mo_bits mo_interval mo_size mo_outs_252 mo_part_252 mo_parted_252 mo_failed_252 mo_counting mo_run_252 (mo_runMany_252 + (1 : Int32)) mo_comes_252 mo_at mo_taken mo_left mo_fault mo_base mo_coefficients mo_lengths mo_codes mo_otherOf mo_out_252 mo_times_252 (upd mo_runBits_252 mo_runMany_252.toNatClampNeg (vp_nar .byte (mo_toCome_252 v6_252.toNatClampNeg))) mo_toCome_252) H := hP
        have hD : va_D A (w_M_writeMore cI cB cS cT a_mo a_mo_base a_mo_coefficients a_mo_lengths a_mo_codes a_mo_otherOf a_mo_out a_mo_times a_mo_runBits a_mo_toCome a_mo_h a_mo_v a_mo_across a_mo_down a_mo_ownAcross a_mo_ownDown a_mo_before0 a_mo_draftCounts a_mo_draft a_mo_words a_mo_directOf a_mo_data a_mo_prediction a_mo_timesKept mo_thrown mo_width mo_height mo_many mo_unitsAcross mo_unitsDown mo_drafts mo_mask mo_first mo_last mo_before mo_bits mo_interval mo_size mo_outs_252 mo_part_252 mo_parted_252 mo_failed_252 mo_counting mo_run_252 (mo_runMany_252 + (1 : Int32)) mo_comes_252 mo_at mo_taken mo_left mo_fault mo_base mo_coefficients mo_lengths mo_codes mo_otherOf mo_out_252 mo_times_252 (upd mo_runBits_252 mo_runMany_252.toNatClampNeg (vp_nar .byte (mo_toCome_252 v6_252.toNatClampNeg))) mo_toCome_252) := hD
        refine lv_iinc (v := v6_252 + (1 : Int32)) (lv' := [(6, .int (v6_252 + (1 : Int32))), (0, .ref a_mo), (3, .int v3_252)]) hx hb d_m1108_287 hl (k := 2) rfl rfl (by decide) rfl (fun ls hl => ?_)
        refine lv_goto (tgt := 252) hx hb d_m1108_290 (by decide) ?_
        exact ih (v6_252 + (1 : Int32)) (mo_runMany_252 + (1 : Int32)) (upd mo_runBits_252 mo_runMany_252.toNatClampNeg (vp_nar .byte (mo_toCome_252 v6_252.toNatClampNeg))) hf H locs ls hP hD hS (lv_sub hl [1, 2, 0] rfl)
  have J318 : ∀ (v3_j318 : Int32) (mo_outs_j318 : Int32) (mo_part_j318 : Int32) (mo_parted_j318 : Int32) (mo_failed_j318 : Int32) (mo_run_j318 : Int32) (mo_runMany_j318 : Int32) (mo_comes_j318 : Int32) (mo_out_j318 : Nat → Int32) (mo_times_j318 : Nat → Int32) (mo_runBits_j318 : Nat → Int32) (mo_toCome_j318 : Nat → Int32), f_M_writeMore_J318 N v3_j318 mo_outs_j318 mo_part_j318 mo_parted_j318 mo_failed_j318 mo_counting mo_run_j318 mo_runMany_j318 mo_lengths mo_codes mo_out_j318 mo_times_j318 mo_runBits_j318 mo_comes_j318 mo_toCome_j318 = some z → GW (dC, dI) A p l e (headSpec ws_m1108 rm_M_writeMore).room s m args below meth c 0 0 Q 8 318 (w_M_writeMore cI cB cS cT a_mo a_mo_base a_mo_coefficients a_mo_lengths a_mo_codes a_mo_otherOf a_mo_out a_mo_times a_mo_runBits a_mo_toCome a_mo_h a_mo_v a_mo_across a_mo_down a_mo_ownAcross a_mo_ownDown a_mo_before0 a_mo_draftCounts a_mo_draft a_mo_words a_mo_directOf a_mo_data a_mo_prediction a_mo_timesKept mo_thrown mo_width mo_height mo_many mo_unitsAcross mo_unitsDown mo_drafts mo_mask mo_first mo_last mo_before mo_bits mo_interval mo_size mo_outs_j318 mo_part_j318 mo_parted_j318 mo_failed_j318 mo_counting mo_run_j318 mo_runMany_j318 mo_comes_j318 mo_at mo_taken mo_left mo_fault mo_base mo_coefficients mo_lengths mo_codes mo_otherOf mo_out_j318 mo_times_j318 mo_runBits_j318 mo_toCome_j318) [(0, .ref a_mo), (3, .int v3_j318)] [] := by
    intro v3_j318 mo_outs_j318 mo_part_j318 mo_parted_j318 mo_failed_j318 mo_run_j318 mo_runMany_j318 mo_comes_j318 mo_out_j318 mo_times_j318 mo_runBits_j318 mo_toCome_j318 hf H locs ls hP hD hS hl
    unfold f_M_writeMore_J318 at hf
    refine lv_aload_n hx hb d_m1108_318 rfl (lv_at hl 0 rfl) ?_
    refine lv_iload_n hx hb d_m1108_319 rfl (lv_at hl 1 rfl) ?_
    obtain ⟨z14, hz14, hf⟩ := ob_bind hf
    refine g_callv (wc := (w_M_sendRun cI cB cS cT a_mo a_mo_lengths a_mo_codes a_mo_out a_mo_times a_mo_runBits a_mo_h a_mo_v a_mo_across a_mo_down a_mo_ownAcross a_mo_ownDown a_mo_base a_mo_coefficients a_mo_before0 a_mo_draftCounts a_mo_draft a_mo_words a_mo_directOf a_mo_otherOf a_mo_data a_mo_prediction a_mo_toCome a_mo_timesKept mo_thrown mo_width mo_height mo_many mo_unitsAcross mo_unitsDown mo_drafts mo_mask mo_first mo_last mo_before mo_bits mo_interval mo_size mo_outs_j318 mo_part_j318 mo_parted_j318 mo_failed_j318 mo_counting mo_run_j318 mo_runMany_j318 mo_comes_j318 mo_at mo_taken mo_left mo_fault mo_lengths mo_codes mo_out_j318 mo_times_j318 mo_runBits_j318)) (w1 := (w_M_sendRun cI cB cS cT a_mo a_mo_lengths a_mo_codes a_mo_out a_mo_times a_mo_runBits a_mo_h a_mo_v a_mo_across a_mo_down a_mo_ownAcross a_mo_ownDown a_mo_base a_mo_coefficients a_mo_before0 a_mo_draftCounts a_mo_draft a_mo_words a_mo_directOf a_mo_otherOf a_mo_data a_mo_prediction a_mo_toCome a_mo_timesKept mo_thrown mo_width mo_height mo_many mo_unitsAcross mo_unitsDown mo_drafts mo_mask mo_first mo_last mo_before mo_bits mo_interval mo_size z14.1 z14.2.1 z14.2.2.1 z14.2.2.2.1 mo_counting z14.2.2.2.2.1 z14.2.2.2.2.2.1 mo_comes_j318 mo_at mo_taken mo_left mo_fault mo_lengths mo_codes z14.2.2.2.2.2.2.1 z14.2.2.2.2.2.2.2 mo_runBits_j318)) (w2 := (w_M_writeMore cI cB cS cT a_mo a_mo_base a_mo_coefficients a_mo_lengths a_mo_codes a_mo_otherOf a_mo_out a_mo_times a_mo_runBits a_mo_toCome a_mo_h a_mo_v a_mo_across a_mo_down a_mo_ownAcross a_mo_ownDown a_mo_before0 a_mo_draftCounts a_mo_draft a_mo_words a_mo_directOf a_mo_data a_mo_prediction a_mo_timesKept mo_thrown mo_width mo_height mo_many mo_unitsAcross mo_unitsDown mo_drafts mo_mask mo_first mo_last mo_before mo_bits mo_interval mo_size z14.1 z14.2.1 z14.2.2.1 z14.2.2.2.1 mo_counting z14.2.2.2.2.1 z14.2.2.2.2.2.1 mo_comes_j318 mo_at mo_taken mo_left mo_fault mo_base mo_coefficients mo_lengths mo_codes mo_otherOf z14.2.2.2.2.2.2.1 z14.2.2.2.2.2.2.2 mo_runBits_j318 mo_toCome_j318)) [0, 3, 4, 6, 7, 8] [some 0, none, none, some 1, some 2, none, some 3, some 4, some 5, none] hP hD hS hA rfl rfl rfl rfl (va_runV (As := [.int v3_j318]) (rest := []) ⟨hx, hb, hml, hown, hts⟩ (c_M_sendRun l dC dI cI cB cS cT N a_mo a_mo_lengths a_mo_codes a_mo_out a_mo_times a_mo_runBits a_mo_h a_mo_v a_mo_across a_mo_down a_mo_ownAcross a_mo_ownDown a_mo_base a_mo_coefficients a_mo_before0 a_mo_draftCounts a_mo_draft a_mo_words a_mo_directOf a_mo_otherOf a_mo_data a_mo_prediction a_mo_toCome a_mo_timesKept mo_thrown mo_width mo_height mo_many mo_unitsAcross mo_unitsDown mo_drafts mo_mask mo_first mo_last mo_before mo_bits mo_interval mo_size mo_outs_j318 mo_part_j318 mo_parted_j318 mo_failed_j318 mo_counting mo_run_j318 mo_runMany_j318 mo_comes_j318 mo_at mo_taken mo_left mo_fault mo_lengths mo_codes mo_out_j318 mo_times_j318 mo_runBits_j318 v3_j318 H.size z14 hz14) ⟨(callB_of 1 hts (gi tw_1054 rfl) rfl rfl rfl (hts _ (List.mem_cons_of_mem _ tw_16)) (hts _ (List.mem_cons_of_mem _ tw_1051)) (by decide +kernel) ⟨Nat.le_of_ble_eq_true rfl, Nat.le_of_ble_eq_true rfl⟩), hts _ (List.mem_cons_of_mem _ tw_1053), hts _ (List.mem_cons_of_mem _ ts_m1054)⟩ ⟨g_blind, va_recv hK hP (ci := 11) (q0 := 0) rfl rfl, g_at hKN (g_pm hP [0, 3, 4, 6, 7, 8] rfl) (hD.sub [0, 3, 4, 6, 7, 8] (by decide) rfl)⟩ rfl rfl hl.1 rfl (lv_room (Nat.le_of_ble_eq_true rfl)) d_m1108_320 ⟨Nat.zero_le _, Nat.zero_le _⟩) (fun H locs hP hD hS => ?_)
    refine W.eq (g2 := F0 m 323 ls []) rfl ?_
    obtain rfl := Option.some.inj hf
    subst hQ
    subst hAe
    exact W.vret hx hb hr (fun t ht hW => ⟨⟨(), rfl, trivial, by rw [ht]; exact hP, hD⟩, hS.F ht⟩) hS.2.2 d_m1108_323
  have J239 : ∀ (v3_j239 : Int32) (mo_outs_j239 : Int32) (mo_part_j239 : Int32) (mo_parted_j239 : Int32) (mo_failed_j239 : Int32) (mo_run_j239 : Int32) (mo_runMany_j239 : Int32) (mo_comes_j239 : Int32) (mo_out_j239 : Nat → Int32) (mo_times_j239 : Nat → Int32) (mo_toCome_j239 : Nat → Int32), f_M_writeMore_J239 N mo_comes_j239 mo_toCome_j239 mo_runMany_j239 mo_runBits mo_run_j239 v3_j239 mo_outs_j239 mo_part_j239 mo_parted_j239 mo_failed_j239 mo_counting mo_lengths mo_codes mo_out_j239 mo_times_j239 = some z → GW (dC, dI) A p l e (headSpec ws_m1108 rm_M_writeMore).room s m args below meth c 0 0 Q 8 239 (w_M_writeMore cI cB cS cT a_mo a_mo_base a_mo_coefficients a_mo_lengths a_mo_codes a_mo_otherOf a_mo_out a_mo_times a_mo_runBits a_mo_toCome a_mo_h a_mo_v a_mo_across a_mo_down a_mo_ownAcross a_mo_ownDown a_mo_before0 a_mo_draftCounts a_mo_draft a_mo_words a_mo_directOf a_mo_data a_mo_prediction a_mo_timesKept mo_thrown mo_width mo_height mo_many mo_unitsAcross mo_unitsDown mo_drafts mo_mask mo_first mo_last mo_before mo_bits mo_interval mo_size mo_outs_j239 mo_part_j239 mo_parted_j239 mo_failed_j239 mo_counting mo_run_j239 mo_runMany_j239 mo_comes_j239 mo_at mo_taken mo_left mo_fault mo_base mo_coefficients mo_lengths mo_codes mo_otherOf mo_out_j239 mo_times_j239 mo_runBits mo_toCome_j239) [(0, .ref a_mo), (3, .int v3_j239)] [] := by
    intro v3_j239 mo_outs_j239 mo_part_j239 mo_parted_j239 mo_failed_j239 mo_run_j239 mo_runMany_j239 mo_comes_j239 mo_out_j239 mo_times_j239 mo_toCome_j239 hf H locs ls hP hD hS hl
    unfold f_M_writeMore_J239 at hf
    refine lv_aload_n hx hb d_m1108_239 rfl (lv_at hl 0 rfl) ?_
    refine lv_dup hx hb d_m1108_240 rfl ?_
    refine va_get (D := (dC, dI)) (ci := 11) (v := .int mo_run_j239) (C := "ScanCoderModel") (T := T_11) (N := 49) hx hb hts n0 hown hK hP 0 rfl rfl 39 (by decide) k7 (fun _ h9 => h9) rfl d_m1108_241 ?_
    refine lv_iconst (v := (1 : Int32)) hx hb d_m1108_244 (by decide) ?_
    refine lv_iadd hx hb d_m1108_245 ?_
    refine va_put (D := (dC, dI)) (ci := 11) (v := .int (mo_run_j239 + (1 : Int32))) (ty := .int) (C := "ScanCoderModel") (T := T_11) (N := 49) hx hb hts n0 ty_11 tyok_11 nm_11 hown hK hP hD hS 0 rfl rfl 39 (by decide) k7 (fun _ h9 => h9) rfl (by decide +kernel) rfl rfl (Nat.le_of_ble_eq_true rfl) d_m1108_246 (fun H locs hP hD hS => ?_)
    have hP : va_P (dC, dI) vwCl (w_M_writeMore cI cB cS cT a_mo a_mo_base a_mo_coefficients a_mo_lengths a_mo_codes a_mo_otherOf a_mo_out a_mo_times a_mo_runBits a_mo_toCome a_mo_h a_mo_v a_mo_across a_mo_down a_mo_ownAcross a_mo_ownDown a_mo_before0 a_mo_draftCounts a_mo_draft a_mo_words a_mo_directOf a_mo_data a_mo_prediction a_mo_timesKept mo_thrown mo_width mo_height mo_many mo_unitsAcross mo_unitsDown mo_drafts mo_mask mo_first mo_last mo_before mo_bits mo_interval mo_size mo_outs_j239 mo_part_j239 mo_parted_j239 mo_failed_j239 mo_counting (mo_run_j239 + (1 : Int32)) mo_runMany_j239 mo_comes_j239 mo_at mo_taken mo_left mo_fault mo_base mo_coefficients mo_lengths mo_codes mo_otherOf mo_out_j239 mo_times_j239 mo_runBits mo_toCome_j239) H := hP
    have hD : va_D A (w_M_writeMore cI cB cS cT a_mo a_mo_base a_mo_coefficients a_mo_lengths a_mo_codes a_mo_otherOf a_mo_out a_mo_times a_mo_runBits a_mo_toCome a_mo_h a_mo_v a_mo_across a_mo_down a_mo_ownAcross a_mo_ownDown a_mo_before0 a_mo_draftCounts a_mo_draft a_mo_words a_mo_directOf a_mo_data a_mo_prediction a_mo_timesKept mo_thrown mo_width mo_height mo_many mo_unitsAcross mo_unitsDown mo_drafts mo_mask mo_first mo_last mo_before mo_bits mo_interval mo_size mo_outs_j239 mo_part_j239 mo_parted_j239 mo_failed_j239 mo_counting (mo_run_j239 + (1 : Int32)) mo_runMany_j239 mo_comes_j239 mo_at mo_taken mo_left mo_fault mo_base mo_coefficients mo_lengths mo_codes mo_otherOf mo_out_j239 mo_times_j239 mo_runBits mo_toCome_j239) := hD
    refine lv_iconst (v := (0 : Int32)) hx hb d_m1108_249 (by decide) ?_
    refine lv_istore (lv' := [(6, .int (0 : Int32)), (0, .ref a_mo), (3, .int v3_j239)]) hx hb d_m1108_250 hl (by decide) rfl (fun ls hl => ?_)
    obtain ⟨z13, hz13, hf⟩ := ob_bind hf
    refine L252 v3_j239 mo_outs_j239 mo_part_j239 mo_parted_j239 mo_failed_j239 (mo_run_j239 + (1 : Int32)) mo_comes_j239 mo_out_j239 mo_times_j239 mo_toCome_j239 z13 ?_ N (0 : Int32) mo_runMany_j239 mo_runBits hz13 H locs ls hP hD hS (lv_sub hl [1, 2, 0] rfl)
    · intro H locs ls hP hD hS hl
      refine lv_aload_n hx hb d_m1108_293 rfl (lv_at hl 0 rfl) ?_
      refine lv_iconst (v := (0 : Int32)) hx hb d_m1108_294 (by decide) ?_
      refine va_put (D := (dC, dI)) (ci := 11) (v := .int (0 : Int32)) (ty := .int) (C := "ScanCoderModel") (T := T_11) (N := 49) hx hb hts n0 ty_11 tyok_11 nm_11 hown hK hP hD hS 0 rfl rfl 43 (by decide) k3 (fun _ h9 => h9) rfl (by decide +kernel) rfl rfl (Nat.le_of_ble_eq_true rfl) d_m1108_295 (fun H locs hP hD hS => ?_)
      have hP : va_P (dC, dI) vwCl (w_M_writeMore cI cB cS cT a_mo a_mo_base a_mo_coefficients a_mo_lengths a_mo_codes a_mo_otherOf a_mo_out a_mo_times a_mo_runBits a_mo_toCome a_mo_h a_mo_v a_mo_across a_mo_down a_mo_ownAcross a_mo_ownDown a_mo_before0 a_mo_draftCounts a_mo_draft a_mo_words a_mo_directOf a_mo_data a_mo_prediction a_mo_timesKept mo_thrown mo_width mo_height mo_many mo_unitsAcross mo_unitsDown mo_drafts mo_mask mo_first mo_last mo_before mo_bits mo_interval mo_size mo_outs_j239 mo_part_j239 mo_parted_j239 mo_failed_j239 mo_counting (mo_run_j239 + (1 : Int32)) z13.1 (0 : Int32) mo_at mo_taken mo_left mo_fault mo_base mo_coefficients mo_lengths mo_codes mo_otherOf mo_out_j239 mo_times_j239 z13.2 mo_toCome_j239) H := hP
      have hD : va_D A (w_M_writeMore cI cB cS cT a_mo a_mo_base a_mo_coefficients a_mo_lengths a_mo_codes a_mo_otherOf a_mo_out a_mo_times a_mo_runBits a_mo_toCome a_mo_h a_mo_v a_mo_across a_mo_down a_mo_ownAcross a_mo_ownDown a_mo_before0 a_mo_draftCounts a_mo_draft a_mo_words a_mo_directOf a_mo_data a_mo_prediction a_mo_timesKept mo_thrown mo_width mo_height mo_many mo_unitsAcross mo_unitsDown mo_drafts mo_mask mo_first mo_last mo_before mo_bits mo_interval mo_size mo_outs_j239 mo_part_j239 mo_parted_j239 mo_failed_j239 mo_counting (mo_run_j239 + (1 : Int32)) z13.1 (0 : Int32) mo_at mo_taken mo_left mo_fault mo_base mo_coefficients mo_lengths mo_codes mo_otherOf mo_out_j239 mo_times_j239 z13.2 mo_toCome_j239) := hD
      refine lv_aload_n hx hb d_m1108_298 rfl (lv_at hl 0 rfl) ?_
      refine va_get (D := (dC, dI)) (ci := 11) (v := .int (mo_run_j239 + (1 : Int32))) (C := "ScanCoderModel") (T := T_11) (N := 49) hx hb hts n0 hown hK hP 0 rfl rfl 39 (by decide) k7 (fun _ h9 => h9) rfl d_m1108_299 ?_
      refine lv_sipush (v := (32767 : Int32)) hx hb d_m1108_302 (by decide) ?_
      refine lv_icmp_eq (tgt := 318) hx hb d_m1108_305 (by decide) (fun hc => ?_) (fun hc => ?_)
      · replace hf := (if_pos hc).symm.trans hf
        exact J318 v3_j239 mo_outs_j239 mo_part_j239 mo_parted_j239 mo_failed_j239 (mo_run_j239 + (1 : Int32)) z13.1 (0 : Int32) mo_out_j239 mo_times_j239 z13.2 mo_toCome_j239 hf H locs ls hP hD hS hl
      · replace hf := (if_neg hc).symm.trans hf
        refine lv_aload_n hx hb d_m1108_308 rfl (lv_at hl 0 rfl) ?_
        refine va_get (D := (dC, dI)) (ci := 11) (v := .int z13.1) (C := "ScanCoderModel") (T := T_11) (N := 49) hx hb hts n0 hown hK hP 0 rfl rfl 41 (by decide) k9 (fun _ h9 => h9) rfl d_m1108_309 ?_
        refine lv_sipush (v := (900 : Int32)) hx hb d_m1108_312 (by decide) ?_
        refine lv_icmp_le (tgt := 323) hx hb d_m1108_315 (by decide) (fun hc => ?_) (fun hc => ?_)
        · replace hf := (if_pos hc).symm.trans hf
          obtain rfl := Option.some.inj hf
          subst hQ
          subst hAe
          exact W.vret hx hb hr (fun t ht hW => ⟨⟨(), rfl, trivial, by rw [ht]; exact hP, hD⟩, hS.F ht⟩) hS.2.2 d_m1108_323
        · replace hf := (if_neg hc).symm.trans hf
          exact J318 v3_j239 mo_outs_j239 mo_part_j239 mo_parted_j239 mo_failed_j239 (mo_run_j239 + (1 : Int32)) z13.1 (0 : Int32) mo_out_j239 mo_times_j239 z13.2 mo_toCome_j239 hf H locs ls hP hD hS hl
  have hgo : ∀ (H : Heap) (locs : List Loc), va_P (dC, dI) vwCl (w_M_writeMore cI cB cS cT a_mo a_mo_base a_mo_coefficients a_mo_lengths a_mo_codes a_mo_otherOf a_mo_out a_mo_times a_mo_runBits a_mo_toCome a_mo_h a_mo_v a_mo_across a_mo_down a_mo_ownAcross a_mo_ownDown a_mo_before0 a_mo_draftCounts a_mo_draft a_mo_words a_mo_directOf a_mo_data a_mo_prediction a_mo_timesKept mo_thrown mo_width mo_height mo_many mo_unitsAcross mo_unitsDown mo_drafts mo_mask mo_first mo_last mo_before mo_bits mo_interval mo_size mo_outs mo_part mo_parted mo_failed mo_counting mo_run mo_runMany mo_comes mo_at mo_taken mo_left mo_fault mo_base mo_coefficients mo_lengths mo_codes mo_otherOf mo_out mo_times mo_runBits mo_toCome) H → va_S A s.heap H locs → W p l e (headSpec ws_m1108 rm_M_writeMore).room s m args below meth c H locs 0 0 Q (F0 m 0 ls []) := by
    intro H locs hP hS
    unfold f_M_writeMore at hf
    refine lv_aload_n hx hb d_m1108_0 rfl (lv_at hl 0 rfl) ?_
    refine va_get (D := (dC, dI)) (ci := 11) (v := .ref a_mo_otherOf) (C := "ScanCoderModel") (T := T_11) (N := 49) hx hb hts n0 hown hK hP 0 rfl rfl 22 (by decide) k0 (fun _ h9 => h9) rfl d_m1108_1 ?_
    refine lv_iload_n hx hb d_m1108_4 rfl (lv_at hl 1 rfl) ?_
    obtain ⟨hi, hf⟩ := ob_if hf
    refine va_iald hx hb hK hP 5 0 rfl rfl hi d_m1108_5 ?_
    refine lv_istore_n (lv' := [(3, .int (mo_otherOf p0.toNatClampNeg)), (0, .ref a_mo), (1, .int p0), (2, .int p1)]) hx hb d_m1108_6 rfl hl (by decide) rfl (fun ls hl => ?_)
    refine lv_iconst (v := (-1 : Int32)) hx hb d_m1108_7 (by decide) ?_
    refine lv_istore (lv' := [(4, .int (-1 : Int32)), (3, .int (mo_otherOf p0.toNatClampNeg)), (0, .ref a_mo), (1, .int p0), (2, .int p1)]) hx hb d_m1108_8 hl (by decide) rfl (fun ls hl => ?_)
    refine lv_aload_n hx hb d_m1108_10 rfl (lv_at hl 2 rfl) ?_
    refine va_get (D := (dC, dI)) (ci := 11) (v := .int mo_first) (C := "ScanCoderModel") (T := T_11) (N := 49) hx hb hts n0 hown hK hP 0 rfl rfl 24 (by decide) k1 (fun _ h9 => h9) rfl d_m1108_11 ?_
    refine lv_istore (lv' := [(5, .int mo_first), (4, .int (-1 : Int32)), (3, .int (mo_otherOf p0.toNatClampNeg)), (0, .ref a_mo), (1, .int p0), (2, .int p1)]) hx hb d_m1108_14 hl (by decide) rfl (fun ls hl => ?_)
    obtain ⟨z2, hz2, hf⟩ := ob_bind hf
    refine L16 (mo_otherOf p0.toNatClampNeg) z2 ?_ N (-1 : Int32) mo_first hz2 H locs ls hP hD hS (lv_sub hl [3, 4, 5, 2, 1, 0] rfl)
    · intro H locs ls hP hD hS hl
      refine lv_iconst (v := (0 : Int32)) hx hb d_m1108_52 (by decide) ?_
      refine lv_istore (lv' := [(5, .int (0 : Int32)), (0, .ref a_mo), (1, .int p0), (2, .int p1), (3, .int (mo_otherOf p0.toNatClampNeg)), (4, .int z2)]) hx hb d_m1108_53 hl (by decide) rfl (fun ls hl => ?_)
      refine lv_aload_n hx hb d_m1108_55 rfl (lv_at hl 1 rfl) ?_
      refine lv_iconst (v := (0 : Int32)) hx hb d_m1108_56 (by decide) ?_
      refine va_put (D := (dC, dI)) (ci := 11) (v := .int (0 : Int32)) (ty := .int) (C := "ScanCoderModel") (T := T_11) (N := 49) hx hb hts n0 ty_11 tyok_11 nm_11 hown hK hP hD hS 0 rfl rfl 43 (by decide) k3 (fun _ h9 => h9) rfl (by decide +kernel) rfl rfl (Nat.le_of_ble_eq_true rfl) d_m1108_57 (fun H locs hP hD hS => ?_)
      have hP : va_P (dC, dI) vwCl (w_M_writeMore cI cB cS cT a_mo a_mo_base a_mo_coefficients a_mo_lengths a_mo_codes a_mo_otherOf a_mo_out a_mo_times a_mo_runBits a_mo_toCome a_mo_h a_mo_v a_mo_across a_mo_down a_mo_ownAcross a_mo_ownDown a_mo_before0 a_mo_draftCounts a_mo_draft a_mo_words a_mo_directOf a_mo_data a_mo_prediction a_mo_timesKept mo_thrown mo_width mo_height mo_many mo_unitsAcross mo_unitsDown mo_drafts mo_mask mo_first mo_last mo_before mo_bits mo_interval mo_size mo_outs mo_part mo_parted mo_failed mo_counting mo_run mo_runMany (0 : Int32) mo_at mo_taken mo_left mo_fault mo_base mo_coefficients mo_lengths mo_codes mo_otherOf mo_out mo_times mo_runBits mo_toCome) H := hP
      have hD : va_D A (w_M_writeMore cI cB cS cT a_mo a_mo_base a_mo_coefficients a_mo_lengths a_mo_codes a_mo_otherOf a_mo_out a_mo_times a_mo_runBits a_mo_toCome a_mo_h a_mo_v a_mo_across a_mo_down a_mo_ownAcross a_mo_ownDown a_mo_before0 a_mo_draftCounts a_mo_draft a_mo_words a_mo_directOf a_mo_data a_mo_prediction a_mo_timesKept mo_thrown mo_width mo_height mo_many mo_unitsAcross mo_unitsDown mo_drafts mo_mask mo_first mo_last mo_before mo_bits mo_interval mo_size mo_outs mo_part mo_parted mo_failed mo_counting mo_run mo_runMany (0 : Int32) mo_at mo_taken mo_left mo_fault mo_base mo_coefficients mo_lengths mo_codes mo_otherOf mo_out mo_times mo_runBits mo_toCome) := hD
      refine lv_aload_n hx hb d_m1108_60 rfl (lv_at hl 1 rfl) ?_
      refine va_get (D := (dC, dI)) (ci := 11) (v := .int mo_first) (C := "ScanCoderModel") (T := T_11) (N := 49) hx hb hts n0 hown hK hP 0 rfl rfl 24 (by decide) k1 (fun _ h9 => h9) rfl d_m1108_61 ?_
      refine lv_istore (lv' := [(6, .int mo_first), (5, .int (0 : Int32)), (0, .ref a_mo), (1, .int p0), (2, .int p1), (3, .int (mo_otherOf p0.toNatClampNeg)), (4, .int z2)]) hx hb d_m1108_64 hl (by decide) rfl (fun ls hl => ?_)
      obtain ⟨z12, hz12, hf⟩ := ob_bind hf
      refine L66 (mo_otherOf p0.toNatClampNeg) z2 z12 ?_ N (0 : Int32) mo_first mo_outs mo_part mo_parted mo_failed mo_run mo_runMany (0 : Int32) mo_out mo_times mo_toCome hz12 H locs ls hP hD hS (lv_sub hl [2, 3, 4, 5, 6, 1, 0] rfl)
      · intro H locs ls hP hD hS hl
        refine lv_iload hx hb d_m1108_227 (lv_at hl 2 rfl) ?_
        refine lv_if_gt (tgt := 239) hx hb d_m1108_229 (by decide) (fun hc => ?_) (fun hc => ?_)
        · replace hf := (if_pos hc).symm.trans hf
          exact J239 (mo_otherOf p0.toNatClampNeg) z12.2.1 z12.2.2.1 z12.2.2.2.1 z12.2.2.2.2.1 z12.2.2.2.2.2.1 z12.2.2.2.2.2.2.1 z12.2.2.2.2.2.2.2.1 z12.2.2.2.2.2.2.2.2.1 z12.2.2.2.2.2.2.2.2.2.1 z12.2.2.2.2.2.2.2.2.2.2 hf H locs ls hP hD hS (lv_sub hl [0, 1] rfl)
        · replace hf := (if_neg hc).symm.trans hf
          refine lv_aload_n hx hb d_m1108_232 rfl (lv_at hl 0 rfl) ?_
          refine va_get (D := (dC, dI)) (ci := 11) (v := .int z12.2.2.2.2.2.2.2.1) (C := "ScanCoderModel") (T := T_11) (N := 49) hx hb hts n0 hown hK hP 0 rfl rfl 43 (by decide) k3 (fun _ h9 => h9) rfl d_m1108_233 ?_
          refine lv_if_le (tgt := 323) hx hb d_m1108_236 (by decide) (fun hc => ?_) (fun hc => ?_)
          · replace hf := (if_pos hc).symm.trans hf
            obtain rfl := Option.some.inj hf
            subst hQ
            subst hAe
            exact W.vret hx hb hr (fun t ht hW => ⟨⟨(), rfl, trivial, by rw [ht]; exact hP, hD⟩, hS.F ht⟩) hS.2.2 d_m1108_323
          · replace hf := (if_neg hc).symm.trans hf
            exact J239 (mo_otherOf p0.toNatClampNeg) z12.2.1 z12.2.2.1 z12.2.2.2.1 z12.2.2.2.2.1 z12.2.2.2.2.2.1 z12.2.2.2.2.2.2.1 z12.2.2.2.2.2.2.2.1 z12.2.2.2.2.2.2.2.2.1 z12.2.2.2.2.2.2.2.2.2.1 z12.2.2.2.2.2.2.2.2.2.2 hf H locs ls hP hD hS (lv_sub hl [0, 1] rfl)
  exact hgo _ _ hP hS
def f_M_writeBlock_J51 (N : Nat) (mo_last : Int32) (mo_outs_j51 : Int32) (mo_part_j51 : Int32) (mo_parted_j51 : Int32) (mo_failed_j51 : Int32) (mo_run : Int32) (mo_runMany : Int32) (mo_comes : Int32) (mo_out_j51 : Nat → Int32) (mo_times_j51 : Nat → Int32) (mo_prediction_j51 : Nat → Int32) (mo_runBits : Nat → Int32) (mo_toCome : Nat → Int32) (p0 : Int32) (p1 : Int32) (mo_first : Int32) (mo_bits : Int32) (mo_counting : Int32) (mo_base : Nat → Int32) (mo_coefficients : Nat → Int32) (mo_lengths : Nat → Int32) (mo_codes : Nat → Int32) (mo_otherOf : Nat → Int32) : Option (Int32 × Int32 × Int32 × Int32 × Int32 × Int32 × Int32 × (Nat → Int32) × (Nat → Int32) × (Nat → Int32) × (Nat → Int32) × (Nat → Int32)) :=
  if mo_last ≤ 0 then
    some (mo_outs_j51, mo_part_j51, mo_parted_j51, mo_failed_j51, mo_run, mo_runMany, mo_comes, mo_out_j51, mo_times_j51, mo_prediction_j51, mo_runBits, mo_toCome)
  else
    (f_M_writeMore N p0 p1 mo_first mo_last mo_bits mo_outs_j51 mo_part_j51 mo_parted_j51 mo_failed_j51 mo_counting mo_run mo_runMany mo_base mo_coefficients mo_lengths mo_codes mo_otherOf mo_out_j51 mo_times_j51 mo_runBits mo_toCome).bind fun z1 =>
    some (z1.1, z1.2.1, z1.2.2.1, z1.2.2.2.1, z1.2.2.2.2.1, z1.2.2.2.2.2.1, z1.2.2.2.2.2.2.1, z1.2.2.2.2.2.2.2.1, z1.2.2.2.2.2.2.2.2.1, mo_prediction_j51, z1.2.2.2.2.2.2.2.2.2.1, z1.2.2.2.2.2.2.2.2.2.2)
def f_M_writeBlock_J45 (N : Nat) (s1_j45 : Int32) (s2_j45 : Int32) (s3_j45 : Int32) (mo_first : Int32) (mo_last : Int32) (mo_bits : Int32) (mo_outs_j45 : Int32) (mo_part_j45 : Int32) (mo_parted_j45 : Int32) (mo_failed_j45 : Int32) (mo_counting : Int32) (mo_run : Int32) (mo_runMany : Int32) (mo_base : Nat → Int32) (mo_coefficients : Nat → Int32) (mo_lengths : Nat → Int32) (mo_codes : Nat → Int32) (mo_otherOf : Nat → Int32) (mo_out_j45 : Nat → Int32) (mo_times_j45 : Nat → Int32) (mo_runBits : Nat → Int32) (mo_comes : Int32) (mo_prediction_j45 : Nat → Int32) (mo_toCome : Nat → Int32) : Option (Int32 × Int32 × Int32 × Int32 × Int32 × Int32 × Int32 × (Nat → Int32) × (Nat → Int32) × (Nat → Int32) × (Nat → Int32) × (Nat → Int32)) :=
  (f_M_writeOthers N s1_j45 s2_j45 s3_j45 mo_first mo_last mo_bits mo_outs_j45 mo_part_j45 mo_parted_j45 mo_failed_j45 mo_counting mo_run mo_runMany mo_base mo_coefficients mo_lengths mo_codes mo_otherOf mo_out_j45 mo_times_j45 mo_runBits).bind fun z2 =>
  some (z2.1, z2.2.1, z2.2.2.1, z2.2.2.2.1, z2.2.2.2.2.1, z2.2.2.2.2.2.1, mo_comes, z2.2.2.2.2.2.2.1, z2.2.2.2.2.2.2.2, mo_prediction_j45, mo_runBits, mo_toCome)
def f_M_writeBlock_J13 (N : Nat) (mo_last : Int32) (mo_outs_j13 : Int32) (mo_part_j13 : Int32) (mo_parted_j13 : Int32) (mo_failed_j13 : Int32) (mo_run : Int32) (mo_runMany : Int32) (mo_comes : Int32) (mo_out_j13 : Nat → Int32) (mo_times_j13 : Nat → Int32) (mo_prediction_j13 : Nat → Int32) (mo_runBits : Nat → Int32) (mo_toCome : Nat → Int32) (p0 : Int32) (p1 : Int32) (mo_first : Int32) (mo_bits : Int32) (mo_counting : Int32) (mo_base : Nat → Int32) (mo_coefficients : Nat → Int32) (mo_lengths : Nat → Int32) (mo_codes : Nat → Int32) (mo_otherOf : Nat → Int32) (mo_before : Int32) : Option (Int32 × Int32 × Int32 × Int32 × Int32 × Int32 × Int32 × (Nat → Int32) × (Nat → Int32) × (Nat → Int32) × (Nat → Int32) × (Nat → Int32)) :=
  if mo_last ≤ 0 then
    f_M_writeBlock_J51 N mo_last mo_outs_j13 mo_part_j13 mo_parted_j13 mo_failed_j13 mo_run mo_runMany mo_comes mo_out_j13 mo_times_j13 mo_prediction_j13 mo_runBits mo_toCome p0 p1 mo_first mo_bits mo_counting mo_base mo_coefficients mo_lengths mo_codes mo_otherOf
  else
    if mo_before = 0 then
      if mo_first = 0 then
        f_M_writeBlock_J45 N p0 p1 (1 : Int32) mo_first mo_last mo_bits mo_outs_j13 mo_part_j13 mo_parted_j13 mo_failed_j13 mo_counting mo_run mo_runMany mo_base mo_coefficients mo_lengths mo_codes mo_otherOf mo_out_j13 mo_times_j13 mo_runBits mo_comes mo_prediction_j13 mo_toCome
      else
        f_M_writeBlock_J45 N p0 p1 mo_first mo_first mo_last mo_bits mo_outs_j13 mo_part_j13 mo_parted_j13 mo_failed_j13 mo_counting mo_run mo_runMany mo_base mo_coefficients mo_lengths mo_codes mo_otherOf mo_out_j13 mo_times_j13 mo_runBits mo_comes mo_prediction_j13 mo_toCome
    else
      f_M_writeBlock_J51 N mo_last mo_outs_j13 mo_part_j13 mo_parted_j13 mo_failed_j13 mo_run mo_runMany mo_comes mo_out_j13 mo_times_j13 mo_prediction_j13 mo_runBits mo_toCome p0 p1 mo_first mo_bits mo_counting mo_base mo_coefficients mo_lengths mo_codes mo_otherOf
def f_M_writeBlock (N : Nat) (p0 : Int32) (p1 : Int32) (mo_first : Int32) (mo_last : Int32) (mo_before : Int32) (mo_bits : Int32) (mo_outs : Int32) (mo_part : Int32) (mo_parted : Int32) (mo_failed : Int32) (mo_counting : Int32) (mo_run : Int32) (mo_runMany : Int32) (mo_comes : Int32) (mo_base : Nat → Int32) (mo_coefficients : Nat → Int32) (mo_lengths : Nat → Int32) (mo_codes : Nat → Int32) (mo_directOf : Nat → Int32) (mo_otherOf : Nat → Int32) (mo_out : Nat → Int32) (mo_times : Nat → Int32) (mo_prediction : Nat → Int32) (mo_runBits : Nat → Int32) (mo_toCome : Nat → Int32) : Option (Int32 × Int32 × Int32 × Int32 × Int32 × Int32 × Int32 × (Nat → Int32) × (Nat → Int32) × (Nat → Int32) × (Nat → Int32) × (Nat → Int32)) :=
  if mo_first = 0 then
    (f_M_writeDirect N p0 p1 mo_before mo_bits mo_outs mo_part mo_parted mo_failed mo_counting mo_base mo_coefficients mo_lengths mo_codes mo_directOf mo_out mo_times mo_prediction).bind fun z3 =>
    f_M_writeBlock_J13 N mo_last z3.1 z3.2.1 z3.2.2.1 z3.2.2.2.1 mo_run mo_runMany mo_comes z3.2.2.2.2.1 z3.2.2.2.2.2.1 z3.2.2.2.2.2.2 mo_runBits mo_toCome p0 p1 mo_first mo_bits mo_counting mo_base mo_coefficients mo_lengths mo_codes mo_otherOf mo_before
  else
    f_M_writeBlock_J13 N mo_last mo_outs mo_part mo_parted mo_failed mo_run mo_runMany mo_comes mo_out mo_times mo_prediction mo_runBits mo_toCome p0 p1 mo_first mo_bits mo_counting mo_base mo_coefficients mo_lengths mo_codes mo_otherOf mo_before
abbrev w_M_writeBlock (cI cB cS cT : ClassId) (a_mo : Nat) (a_mo_base : Nat) (a_mo_coefficients : Nat) (a_mo_lengths : Nat) (a_mo_codes : Nat) (a_mo_directOf : Nat) (a_mo_otherOf : Nat) (a_mo_out : Nat) (a_mo_times : Nat) (a_mo_prediction : Nat) (a_mo_runBits : Nat) (a_mo_toCome : Nat) (a_mo_h : Nat) (a_mo_v : Nat) (a_mo_across : Nat) (a_mo_down : Nat) (a_mo_ownAcross : Nat) (a_mo_ownDown : Nat) (a_mo_before0 : Nat) (a_mo_draftCounts : Nat) (a_mo_draft : Nat) (a_mo_words : Nat) (a_mo_data : Nat) (a_mo_timesKept : Nat) (mo_thrown : Int32) (mo_width : Int32) (mo_height : Int32) (mo_many : Int32) (mo_unitsAcross : Int32) (mo_unitsDown : Int32) (mo_drafts : Int32) (mo_mask : Int32) (mo_first : Int32) (mo_last : Int32) (mo_before : Int32) (mo_bits : Int32) (mo_interval : Int32) (mo_size : Int32) (mo_outs : Int32) (mo_part : Int32) (mo_parted : Int32) (mo_failed : Int32) (mo_counting : Int32) (mo_run : Int32) (mo_runMany : Int32) (mo_comes : Int32) (mo_at : Int32) (mo_taken : Int32) (mo_left : Int32) (mo_fault : Int32) (mo_base : Nat → Int32) (mo_coefficients : Nat → Int32) (mo_lengths : Nat → Int32) (mo_codes : Nat → Int32) (mo_directOf : Nat → Int32) (mo_otherOf : Nat → Int32) (mo_out : Nat → Int32) (mo_times : Nat → Int32) (mo_prediction : Nat → Int32) (mo_runBits : Nat → Int32) (mo_toCome : Nat → Int32) : va_W := [(a_mo, .inr (11, [.int mo_thrown, .int mo_width, .int mo_height, .int mo_many, .ref a_mo_h, .ref a_mo_v, .ref a_mo_across, .ref a_mo_down, .ref a_mo_ownAcross, .ref a_mo_ownDown, .ref a_mo_base, .int mo_unitsAcross, .int mo_unitsDown, .ref a_mo_coefficients, .ref a_mo_before0, .ref a_mo_draftCounts, .ref a_mo_draft, .int mo_drafts, .ref a_mo_words, .ref a_mo_lengths, .ref a_mo_codes, .ref a_mo_directOf, .ref a_mo_otherOf, .int mo_mask, .int mo_first, .int mo_last, .int mo_before, .int mo_bits, .int mo_interval, .ref a_mo_data, .int mo_size, .ref a_mo_out, .int mo_outs, .int mo_part, .int mo_parted, .int mo_failed, .int mo_counting, .ref a_mo_times, .ref a_mo_prediction, .int mo_run, .ref a_mo_runBits, .int mo_runMany, .ref a_mo_toCome, .int mo_comes, .int mo_at, .int mo_taken, .int mo_left, .int mo_fault, .ref a_mo_timesKept])), (a_mo_base, .inl (cI, 4, .inl mo_base)), (a_mo_coefficients, .inl (cS, 12288, .inl mo_coefficients)), (a_mo_lengths, .inl (cI, 2048, .inl mo_lengths)), (a_mo_codes, .inl (cI, 2048, .inl mo_codes)), (a_mo_directOf, .inl (cI, 4, .inl mo_directOf)), (a_mo_otherOf, .inl (cI, 4, .inl mo_otherOf)), (a_mo_out, .inl (cB, 16384, .inl mo_out)), (a_mo_times, .inl (cI, 2048, .inl mo_times)), (a_mo_prediction, .inl (cI, 4, .inl mo_prediction)), (a_mo_runBits, .inl (cB, 1100, .inl mo_runBits)), (a_mo_toCome, .inl (cB, 70, .inl mo_toCome))]
def rm_M_writeBlock : Room := { frames := 6, cells := 0, slots := 0, locals := 139 }
set_option maxHeartbeats 1000000 in
set_option maxRecDepth 100000 in
theorem c_M_writeBlock (l : Launch) (dC : Nat → ClassId) (dI : Nat → Nat → Nat) (cI cB cS cT : ClassId) (N : Nat) (a_mo : Nat) (a_mo_base : Nat) (a_mo_coefficients : Nat) (a_mo_lengths : Nat) (a_mo_codes : Nat) (a_mo_directOf : Nat) (a_mo_otherOf : Nat) (a_mo_out : Nat) (a_mo_times : Nat) (a_mo_prediction : Nat) (a_mo_runBits : Nat) (a_mo_toCome : Nat) (a_mo_h : Nat) (a_mo_v : Nat) (a_mo_across : Nat) (a_mo_down : Nat) (a_mo_ownAcross : Nat) (a_mo_ownDown : Nat) (a_mo_before0 : Nat) (a_mo_draftCounts : Nat) (a_mo_draft : Nat) (a_mo_words : Nat) (a_mo_data : Nat) (a_mo_timesKept : Nat) (mo_thrown : Int32) (mo_width : Int32) (mo_height : Int32) (mo_many : Int32) (mo_unitsAcross : Int32) (mo_unitsDown : Int32) (mo_drafts : Int32) (mo_mask : Int32) (mo_first : Int32) (mo_last : Int32) (mo_before : Int32) (mo_bits : Int32) (mo_interval : Int32) (mo_size : Int32) (mo_outs : Int32) (mo_part : Int32) (mo_parted : Int32) (mo_failed : Int32) (mo_counting : Int32) (mo_run : Int32) (mo_runMany : Int32) (mo_comes : Int32) (mo_at : Int32) (mo_taken : Int32) (mo_left : Int32) (mo_fault : Int32) (mo_base : Nat → Int32) (mo_coefficients : Nat → Int32) (mo_lengths : Nat → Int32) (mo_codes : Nat → Int32) (mo_directOf : Nat → Int32) (mo_otherOf : Nat → Int32) (mo_out : Nat → Int32) (mo_times : Nat → Int32) (mo_prediction : Nat → Int32) (mo_runBits : Nat → Int32) (mo_toCome : Nat → Int32) (p0 : Int32) (p1 : Int32) (sz : Nat) (z : Int32 × Int32 × Int32 × Int32 × Int32 × Int32 × Int32 × (Nat → Int32) × (Nat → Int32) × (Nat → Int32) × (Nat → Int32) × (Nat → Int32)) (hf : f_M_writeBlock N p0 p1 mo_first mo_last mo_before mo_bits mo_outs mo_part mo_parted mo_failed mo_counting mo_run mo_runMany mo_comes mo_base mo_coefficients mo_lengths mo_codes mo_directOf mo_otherOf mo_out mo_times mo_prediction mo_runBits mo_toCome = some z) : Met l y_m1089 ws_m1089 rm_M_writeBlock (gPre (dC, dI) [.ref a_mo, .int p0, .int p1] (gT cI cB cS cT) (w_M_writeBlock cI cB cS cT a_mo a_mo_base a_mo_coefficients a_mo_lengths a_mo_codes a_mo_directOf a_mo_otherOf a_mo_out a_mo_times a_mo_prediction a_mo_runBits a_mo_toCome a_mo_h a_mo_v a_mo_across a_mo_down a_mo_ownAcross a_mo_ownDown a_mo_before0 a_mo_draftCounts a_mo_draft a_mo_words a_mo_data a_mo_timesKept mo_thrown mo_width mo_height mo_many mo_unitsAcross mo_unitsDown mo_drafts mo_mask mo_first mo_last mo_before mo_bits mo_interval mo_size mo_outs mo_part mo_parted mo_failed mo_counting mo_run mo_runMany mo_comes mo_at mo_taken mo_left mo_fault mo_base mo_coefficients mo_lengths mo_codes mo_directOf mo_otherOf mo_out mo_times mo_prediction mo_runBits mo_toCome) sz) (gQv (dC, dI) (gT cI cB cS cT) (w_M_writeBlock cI cB cS cT a_mo a_mo_base a_mo_coefficients a_mo_lengths a_mo_codes a_mo_directOf a_mo_otherOf a_mo_out a_mo_times a_mo_prediction a_mo_runBits a_mo_toCome a_mo_h a_mo_v a_mo_across a_mo_down a_mo_ownAcross a_mo_ownDown a_mo_before0 a_mo_draftCounts a_mo_draft a_mo_words a_mo_data a_mo_timesKept mo_thrown mo_width mo_height mo_many mo_unitsAcross mo_unitsDown mo_drafts mo_mask mo_first mo_last mo_before mo_bits mo_interval mo_size mo_outs mo_part mo_parted mo_failed mo_counting mo_run mo_runMany mo_comes mo_at mo_taken mo_left mo_fault mo_base mo_coefficients mo_lengths mo_codes mo_directOf mo_otherOf mo_out mo_times mo_prediction mo_runBits mo_toCome) (w_M_writeBlock cI cB cS cT a_mo a_mo_base a_mo_coefficients a_mo_lengths a_mo_codes a_mo_directOf a_mo_otherOf a_mo_out a_mo_times a_mo_prediction a_mo_runBits a_mo_toCome a_mo_h a_mo_v a_mo_across a_mo_down a_mo_ownAcross a_mo_ownDown a_mo_before0 a_mo_draftCounts a_mo_draft a_mo_words a_mo_data a_mo_timesKept mo_thrown mo_width mo_height mo_many mo_unitsAcross mo_unitsDown mo_drafts mo_mask mo_first mo_last mo_before mo_bits mo_interval mo_size z.1 z.2.1 z.2.2.1 z.2.2.2.1 mo_counting z.2.2.2.2.1 z.2.2.2.2.2.1 z.2.2.2.2.2.2.1 mo_at mo_taken mo_left mo_fault mo_base mo_coefficients mo_lengths mo_codes mo_directOf mo_otherOf z.2.2.2.2.2.2.2.1 z.2.2.2.2.2.2.2.2.1 z.2.2.2.2.2.2.2.2.2.1 z.2.2.2.2.2.2.2.2.2.2.1 z.2.2.2.2.2.2.2.2.2.2.2) sz) 0 0 (va_A (w_M_writeBlock cI cB cS cT a_mo a_mo_base a_mo_coefficients a_mo_lengths a_mo_codes a_mo_directOf a_mo_otherOf a_mo_out a_mo_times a_mo_prediction a_mo_runBits a_mo_toCome a_mo_h a_mo_v a_mo_across a_mo_down a_mo_ownAcross a_mo_ownDown a_mo_before0 a_mo_draftCounts a_mo_draft a_mo_words a_mo_data a_mo_timesKept mo_thrown mo_width mo_height mo_many mo_unitsAcross mo_unitsDown mo_drafts mo_mask mo_first mo_last mo_before mo_bits mo_interval mo_size mo_outs mo_part mo_parted mo_failed mo_counting mo_run mo_runMany mo_comes mo_at mo_taken mo_left mo_fault mo_base mo_coefficients mo_lengths mo_codes mo_directOf mo_otherOf mo_out mo_times mo_prediction mo_runBits mo_toCome) sz) := by
  refine Met.ofW (cc := prog_14_method_34_code) (maxL := 3) (ret := none) (by decide) rfl ?_
  intro p e s m args below meth c s₁ B hml hv
  obtain ⟨hargs, hsz, hP, hKN, hD0⟩ := hv
  have hK := hKN.1
  have hx := B.exec
  have hb := B.bytes
  have hr := B.returns
  have hts := atoms_spec (ws := ws_m1089) B.pre
  have hown : s.vm.findClass "ScanCoderModel" = some m.cls := findClass_of_methodNamed B.named
  have hlocks := B.notSynchronized
  have k0 := hts _ (List.mem_cons_of_mem _ tw_858)
  have k1 := hts _ (List.mem_cons_of_mem _ tw_859)
  have k2 := hts _ (List.mem_cons_of_mem _ tw_860)
  have n0 : ∀ w ∈ u_ws "ScanCoderModel" T_11 49, w ∈ ws_m1089 := fun w h => List.mem_cons_of_mem _ (in_11 w h)
  subst hsz
  have hD := hD0.self (sz := s.heap.size)
  obtain ⟨A, hAe⟩ : ∃ A : Nat → Prop, va_A (w_M_writeBlock cI cB cS cT a_mo a_mo_base a_mo_coefficients a_mo_lengths a_mo_codes a_mo_directOf a_mo_otherOf a_mo_out a_mo_times a_mo_prediction a_mo_runBits a_mo_toCome a_mo_h a_mo_v a_mo_across a_mo_down a_mo_ownAcross a_mo_ownDown a_mo_before0 a_mo_draftCounts a_mo_draft a_mo_words a_mo_data a_mo_timesKept mo_thrown mo_width mo_height mo_many mo_unitsAcross mo_unitsDown mo_drafts mo_mask mo_first mo_last mo_before mo_bits mo_interval mo_size mo_outs mo_part mo_parted mo_failed mo_counting mo_run mo_runMany mo_comes mo_at mo_taken mo_left mo_fault mo_base mo_coefficients mo_lengths mo_codes mo_directOf mo_otherOf mo_out mo_times mo_prediction mo_runBits mo_toCome) s.heap.size = A := ⟨_, rfl⟩
  rw [hAe] at hD
  have hA : ∀ q : Nat, s.heap.size ≤ q → A q := fun q h => by rw [← hAe]; exact Or.inr h
  have hS : va_S A s.heap s.heap [] := va_S.rf
  have hl := lv_entry ([.ref a_mo, .int p0, .int p1]) (n := 3) (Nat.le_of_ble_eq_true rfl)
  have hfr : entryFrame m args 3 = F0 m 0 ((lg_sl ([.ref a_mo, .int p0, .int p1]) ++ List.replicate (3 - (lg_sl ([.ref a_mo, .int p0, .int p1])).length) Slot.unset).toArray) [] := by rw [hargs]; exact lg_entry_eq _ _ _
  rw [hfr]
  generalize (lg_sl ([.ref a_mo, .int p0, .int p1]) ++ List.replicate (3 - (lg_sl ([.ref a_mo, .int p0, .int p1])).length) Slot.unset).toArray = ls at hl ⊢
  have hl : lv_has ls 3 [(0, .ref a_mo), (1, .int p0), (2, .int p1)] := hl
  refine gen_Q (fun Q hQ => ?_)
  clear hfr
  have J51 : ∀ (mo_outs_j51 : Int32) (mo_part_j51 : Int32) (mo_parted_j51 : Int32) (mo_failed_j51 : Int32) (mo_out_j51 : Nat → Int32) (mo_times_j51 : Nat → Int32) (mo_prediction_j51 : Nat → Int32), f_M_writeBlock_J51 N mo_last mo_outs_j51 mo_part_j51 mo_parted_j51 mo_failed_j51 mo_run mo_runMany mo_comes mo_out_j51 mo_times_j51 mo_prediction_j51 mo_runBits mo_toCome p0 p1 mo_first mo_bits mo_counting mo_base mo_coefficients mo_lengths mo_codes mo_otherOf = some z → GW (dC, dI) A p l e (headSpec ws_m1089 rm_M_writeBlock).room s m args below meth c 0 0 Q 3 51 (w_M_writeBlock cI cB cS cT a_mo a_mo_base a_mo_coefficients a_mo_lengths a_mo_codes a_mo_directOf a_mo_otherOf a_mo_out a_mo_times a_mo_prediction a_mo_runBits a_mo_toCome a_mo_h a_mo_v a_mo_across a_mo_down a_mo_ownAcross a_mo_ownDown a_mo_before0 a_mo_draftCounts a_mo_draft a_mo_words a_mo_data a_mo_timesKept mo_thrown mo_width mo_height mo_many mo_unitsAcross mo_unitsDown mo_drafts mo_mask mo_first mo_last mo_before mo_bits mo_interval mo_size mo_outs_j51 mo_part_j51 mo_parted_j51 mo_failed_j51 mo_counting mo_run mo_runMany mo_comes mo_at mo_taken mo_left mo_fault mo_base mo_coefficients mo_lengths mo_codes mo_directOf mo_otherOf mo_out_j51 mo_times_j51 mo_prediction_j51 mo_runBits mo_toCome) [(0, .ref a_mo), (1, .int p0), (2, .int p1)] [] := by
    intro mo_outs_j51 mo_part_j51 mo_parted_j51 mo_failed_j51 mo_out_j51 mo_times_j51 mo_prediction_j51 hf H locs ls hP hD hS hl
    unfold f_M_writeBlock_J51 at hf
    refine lv_aload_n hx hb d_m1089_51 rfl (lv_at hl 0 rfl) ?_
    refine va_get (D := (dC, dI)) (ci := 11) (v := .int mo_last) (C := "ScanCoderModel") (T := T_11) (N := 49) hx hb hts n0 hown hK hP 0 rfl rfl 25 (by decide) k1 (fun _ h9 => h9) rfl d_m1089_52 ?_
    refine lv_if_le (tgt := 64) hx hb d_m1089_55 (by decide) (fun hc => ?_) (fun hc => ?_)
    · replace hf := (if_pos hc).symm.trans hf
      obtain rfl := Option.some.inj hf
      subst hQ
      subst hAe
      exact W.vret hx hb hr (fun t ht hW => ⟨⟨(), rfl, trivial, by rw [ht]; exact hP, hD⟩, hS.F ht⟩) hS.2.2 d_m1089_64
    · replace hf := (if_neg hc).symm.trans hf
      refine lv_aload_n hx hb d_m1089_58 rfl (lv_at hl 0 rfl) ?_
      refine lv_iload_n hx hb d_m1089_59 rfl (lv_at hl 1 rfl) ?_
      refine lv_iload_n hx hb d_m1089_60 rfl (lv_at hl 2 rfl) ?_
      obtain ⟨z1, hz1, hf⟩ := ob_bind hf
      refine g_callv (wc := (w_M_writeMore cI cB cS cT a_mo a_mo_base a_mo_coefficients a_mo_lengths a_mo_codes a_mo_otherOf a_mo_out a_mo_times a_mo_runBits a_mo_toCome a_mo_h a_mo_v a_mo_across a_mo_down a_mo_ownAcross a_mo_ownDown a_mo_before0 a_mo_draftCounts a_mo_draft a_mo_words a_mo_directOf a_mo_data a_mo_prediction a_mo_timesKept mo_thrown mo_width mo_height mo_many mo_unitsAcross mo_unitsDown mo_drafts mo_mask mo_first mo_last mo_before mo_bits mo_interval mo_size mo_outs_j51 mo_part_j51 mo_parted_j51 mo_failed_j51 mo_counting mo_run mo_runMany mo_comes mo_at mo_taken mo_left mo_fault mo_base mo_coefficients mo_lengths mo_codes mo_otherOf mo_out_j51 mo_times_j51 mo_runBits mo_toCome)) (w1 := (w_M_writeMore cI cB cS cT a_mo a_mo_base a_mo_coefficients a_mo_lengths a_mo_codes a_mo_otherOf a_mo_out a_mo_times a_mo_runBits a_mo_toCome a_mo_h a_mo_v a_mo_across a_mo_down a_mo_ownAcross a_mo_ownDown a_mo_before0 a_mo_draftCounts a_mo_draft a_mo_words a_mo_directOf a_mo_data a_mo_prediction a_mo_timesKept mo_thrown mo_width mo_height mo_many mo_unitsAcross mo_unitsDown mo_drafts mo_mask mo_first mo_last mo_before mo_bits mo_interval mo_size z1.1 z1.2.1 z1.2.2.1 z1.2.2.2.1 mo_counting z1.2.2.2.2.1 z1.2.2.2.2.2.1 z1.2.2.2.2.2.2.1 mo_at mo_taken mo_left mo_fault mo_base mo_coefficients mo_lengths mo_codes mo_otherOf z1.2.2.2.2.2.2.2.1 z1.2.2.2.2.2.2.2.2.1 z1.2.2.2.2.2.2.2.2.2.1 z1.2.2.2.2.2.2.2.2.2.2)) (w2 := (w_M_writeBlock cI cB cS cT a_mo a_mo_base a_mo_coefficients a_mo_lengths a_mo_codes a_mo_directOf a_mo_otherOf a_mo_out a_mo_times a_mo_prediction a_mo_runBits a_mo_toCome a_mo_h a_mo_v a_mo_across a_mo_down a_mo_ownAcross a_mo_ownDown a_mo_before0 a_mo_draftCounts a_mo_draft a_mo_words a_mo_data a_mo_timesKept mo_thrown mo_width mo_height mo_many mo_unitsAcross mo_unitsDown mo_drafts mo_mask mo_first mo_last mo_before mo_bits mo_interval mo_size z1.1 z1.2.1 z1.2.2.1 z1.2.2.2.1 mo_counting z1.2.2.2.2.1 z1.2.2.2.2.2.1 z1.2.2.2.2.2.2.1 mo_at mo_taken mo_left mo_fault mo_base mo_coefficients mo_lengths mo_codes mo_directOf mo_otherOf z1.2.2.2.2.2.2.2.1 z1.2.2.2.2.2.2.2.2.1 mo_prediction_j51 z1.2.2.2.2.2.2.2.2.2.1 z1.2.2.2.2.2.2.2.2.2.2)) [0, 1, 2, 3, 4, 6, 7, 8, 10, 11] [some 0, some 1, some 2, some 3, some 4, none, some 5, some 6, some 7, none, some 8, some 9] hP hD hS hA rfl rfl rfl rfl (va_runV (As := [.int p0, .int p1]) (rest := []) ⟨hx, hb, hml, hown, hts⟩ (c_M_writeMore l dC dI cI cB cS cT N a_mo a_mo_base a_mo_coefficients a_mo_lengths a_mo_codes a_mo_otherOf a_mo_out a_mo_times a_mo_runBits a_mo_toCome a_mo_h a_mo_v a_mo_across a_mo_down a_mo_ownAcross a_mo_ownDown a_mo_before0 a_mo_draftCounts a_mo_draft a_mo_words a_mo_directOf a_mo_data a_mo_prediction a_mo_timesKept mo_thrown mo_width mo_height mo_many mo_unitsAcross mo_unitsDown mo_drafts mo_mask mo_first mo_last mo_before mo_bits mo_interval mo_size mo_outs_j51 mo_part_j51 mo_parted_j51 mo_failed_j51 mo_counting mo_run mo_runMany mo_comes mo_at mo_taken mo_left mo_fault mo_base mo_coefficients mo_lengths mo_codes mo_otherOf mo_out_j51 mo_times_j51 mo_runBits mo_toCome p0 p1 H.size z1 hz1) ⟨(callB_of 2 hts (gi tw_1108 rfl) rfl rfl rfl (hts _ (List.mem_cons_of_mem _ tw_16)) (hts _ (List.mem_cons_of_mem _ tw_1105)) (by decide +kernel) ⟨Nat.le_of_ble_eq_true rfl, Nat.le_of_ble_eq_true rfl⟩), hts _ (List.mem_cons_of_mem _ tw_1107), hts _ (List.mem_cons_of_mem _ ts_m1108)⟩ ⟨g_blind, va_recv hK hP (ci := 11) (q0 := 0) rfl rfl, g_at hKN (g_pm hP [0, 1, 2, 3, 4, 6, 7, 8, 10, 11] rfl) (hD.sub [0, 1, 2, 3, 4, 6, 7, 8, 10, 11] (by decide) rfl)⟩ rfl rfl hl.1 rfl (lv_room (Nat.le_of_ble_eq_true rfl)) d_m1089_61 ⟨Nat.zero_le _, Nat.zero_le _⟩) (fun H locs hP hD hS => ?_)
      refine W.eq (g2 := F0 m 64 ls []) rfl ?_
      obtain rfl := Option.some.inj hf
      subst hQ
      subst hAe
      exact W.vret hx hb hr (fun t ht hW => ⟨⟨(), rfl, trivial, by rw [ht]; exact hP, hD⟩, hS.F ht⟩) hS.2.2 d_m1089_64
  have J45 : ∀ (mo_outs_j45 : Int32) (mo_part_j45 : Int32) (mo_parted_j45 : Int32) (mo_failed_j45 : Int32) (mo_out_j45 : Nat → Int32) (mo_times_j45 : Nat → Int32) (mo_prediction_j45 : Nat → Int32) (s1_j45 : Int32) (s2_j45 : Int32) (s3_j45 : Int32), f_M_writeBlock_J45 N s1_j45 s2_j45 s3_j45 mo_first mo_last mo_bits mo_outs_j45 mo_part_j45 mo_parted_j45 mo_failed_j45 mo_counting mo_run mo_runMany mo_base mo_coefficients mo_lengths mo_codes mo_otherOf mo_out_j45 mo_times_j45 mo_runBits mo_comes mo_prediction_j45 mo_toCome = some z → GW (dC, dI) A p l e (headSpec ws_m1089 rm_M_writeBlock).room s m args below meth c 0 0 Q 3 45 (w_M_writeBlock cI cB cS cT a_mo a_mo_base a_mo_coefficients a_mo_lengths a_mo_codes a_mo_directOf a_mo_otherOf a_mo_out a_mo_times a_mo_prediction a_mo_runBits a_mo_toCome a_mo_h a_mo_v a_mo_across a_mo_down a_mo_ownAcross a_mo_ownDown a_mo_before0 a_mo_draftCounts a_mo_draft a_mo_words a_mo_data a_mo_timesKept mo_thrown mo_width mo_height mo_many mo_unitsAcross mo_unitsDown mo_drafts mo_mask mo_first mo_last mo_before mo_bits mo_interval mo_size mo_outs_j45 mo_part_j45 mo_parted_j45 mo_failed_j45 mo_counting mo_run mo_runMany mo_comes mo_at mo_taken mo_left mo_fault mo_base mo_coefficients mo_lengths mo_codes mo_directOf mo_otherOf mo_out_j45 mo_times_j45 mo_prediction_j45 mo_runBits mo_toCome) [] [.int s3_j45, .int s2_j45, .int s1_j45, .ref a_mo] := by
    intro mo_outs_j45 mo_part_j45 mo_parted_j45 mo_failed_j45 mo_out_j45 mo_times_j45 mo_prediction_j45 s1_j45 s2_j45 s3_j45 hf H locs ls hP hD hS hl
    unfold f_M_writeBlock_J45 at hf
    obtain ⟨z2, hz2, hf⟩ := ob_bind hf
    refine g_callv (wc := (w_M_writeOthers cI cB cS cT a_mo a_mo_base a_mo_coefficients a_mo_lengths a_mo_codes a_mo_otherOf a_mo_out a_mo_times a_mo_runBits a_mo_h a_mo_v a_mo_across a_mo_down a_mo_ownAcross a_mo_ownDown a_mo_before0 a_mo_draftCounts a_mo_draft a_mo_words a_mo_directOf a_mo_data a_mo_prediction a_mo_toCome a_mo_timesKept mo_thrown mo_width mo_height mo_many mo_unitsAcross mo_unitsDown mo_drafts mo_mask mo_first mo_last mo_before mo_bits mo_interval mo_size mo_outs_j45 mo_part_j45 mo_parted_j45 mo_failed_j45 mo_counting mo_run mo_runMany mo_comes mo_at mo_taken mo_left mo_fault mo_base mo_coefficients mo_lengths mo_codes mo_otherOf mo_out_j45 mo_times_j45 mo_runBits)) (w1 := (w_M_writeOthers cI cB cS cT a_mo a_mo_base a_mo_coefficients a_mo_lengths a_mo_codes a_mo_otherOf a_mo_out a_mo_times a_mo_runBits a_mo_h a_mo_v a_mo_across a_mo_down a_mo_ownAcross a_mo_ownDown a_mo_before0 a_mo_draftCounts a_mo_draft a_mo_words a_mo_directOf a_mo_data a_mo_prediction a_mo_toCome a_mo_timesKept mo_thrown mo_width mo_height mo_many mo_unitsAcross mo_unitsDown mo_drafts mo_mask mo_first mo_last mo_before mo_bits mo_interval mo_size z2.1 z2.2.1 z2.2.2.1 z2.2.2.2.1 mo_counting z2.2.2.2.2.1 z2.2.2.2.2.2.1 mo_comes mo_at mo_taken mo_left mo_fault mo_base mo_coefficients mo_lengths mo_codes mo_otherOf z2.2.2.2.2.2.2.1 z2.2.2.2.2.2.2.2 mo_runBits)) (w2 := (w_M_writeBlock cI cB cS cT a_mo a_mo_base a_mo_coefficients a_mo_lengths a_mo_codes a_mo_directOf a_mo_otherOf a_mo_out a_mo_times a_mo_prediction a_mo_runBits a_mo_toCome a_mo_h a_mo_v a_mo_across a_mo_down a_mo_ownAcross a_mo_ownDown a_mo_before0 a_mo_draftCounts a_mo_draft a_mo_words a_mo_data a_mo_timesKept mo_thrown mo_width mo_height mo_many mo_unitsAcross mo_unitsDown mo_drafts mo_mask mo_first mo_last mo_before mo_bits mo_interval mo_size z2.1 z2.2.1 z2.2.2.1 z2.2.2.2.1 mo_counting z2.2.2.2.2.1 z2.2.2.2.2.2.1 mo_comes mo_at mo_taken mo_left mo_fault mo_base mo_coefficients mo_lengths mo_codes mo_directOf mo_otherOf z2.2.2.2.2.2.2.1 z2.2.2.2.2.2.2.2 mo_prediction_j45 mo_runBits mo_toCome)) [0, 1, 2, 3, 4, 6, 7, 8, 10] [some 0, some 1, some 2, some 3, some 4, none, some 5, some 6, some 7, none, some 8, none] hP hD hS hA rfl rfl rfl rfl (va_runV (As := [.int s1_j45, .int s2_j45, .int s3_j45]) (rest := []) ⟨hx, hb, hml, hown, hts⟩ (c_M_writeOthers l dC dI cI cB cS cT N a_mo a_mo_base a_mo_coefficients a_mo_lengths a_mo_codes a_mo_otherOf a_mo_out a_mo_times a_mo_runBits a_mo_h a_mo_v a_mo_across a_mo_down a_mo_ownAcross a_mo_ownDown a_mo_before0 a_mo_draftCounts a_mo_draft a_mo_words a_mo_directOf a_mo_data a_mo_prediction a_mo_toCome a_mo_timesKept mo_thrown mo_width mo_height mo_many mo_unitsAcross mo_unitsDown mo_drafts mo_mask mo_first mo_last mo_before mo_bits mo_interval mo_size mo_outs_j45 mo_part_j45 mo_parted_j45 mo_failed_j45 mo_counting mo_run mo_runMany mo_comes mo_at mo_taken mo_left mo_fault mo_base mo_coefficients mo_lengths mo_codes mo_otherOf mo_out_j45 mo_times_j45 mo_runBits s1_j45 s2_j45 s3_j45 H.size z2 hz2) ⟨(callB_of 3 hts (gi tw_1101 rfl) rfl rfl rfl (hts _ (List.mem_cons_of_mem _ tw_16)) (hts _ (List.mem_cons_of_mem _ tw_1098)) (by decide +kernel) ⟨Nat.le_of_ble_eq_true rfl, Nat.le_of_ble_eq_true rfl⟩), hts _ (List.mem_cons_of_mem _ tw_1100), hts _ (List.mem_cons_of_mem _ ts_m1101)⟩ ⟨g_blind, va_recv hK hP (ci := 11) (q0 := 0) rfl rfl, g_at hKN (g_pm hP [0, 1, 2, 3, 4, 6, 7, 8, 10] rfl) (hD.sub [0, 1, 2, 3, 4, 6, 7, 8, 10] (by decide) rfl)⟩ rfl rfl hl.1 rfl (lv_room (Nat.le_of_ble_eq_true rfl)) d_m1089_45 ⟨Nat.zero_le _, Nat.zero_le _⟩) (fun H locs hP hD hS => ?_)
    refine W.eq (g2 := F0 m 48 ls []) rfl ?_
    refine lv_goto (tgt := 64) hx hb d_m1089_48 (by decide) ?_
    obtain rfl := Option.some.inj hf
    subst hQ
    subst hAe
    exact W.vret hx hb hr (fun t ht hW => ⟨⟨(), rfl, trivial, by rw [ht]; exact hP, hD⟩, hS.F ht⟩) hS.2.2 d_m1089_64
  have J13 : ∀ (mo_outs_j13 : Int32) (mo_part_j13 : Int32) (mo_parted_j13 : Int32) (mo_failed_j13 : Int32) (mo_out_j13 : Nat → Int32) (mo_times_j13 : Nat → Int32) (mo_prediction_j13 : Nat → Int32), f_M_writeBlock_J13 N mo_last mo_outs_j13 mo_part_j13 mo_parted_j13 mo_failed_j13 mo_run mo_runMany mo_comes mo_out_j13 mo_times_j13 mo_prediction_j13 mo_runBits mo_toCome p0 p1 mo_first mo_bits mo_counting mo_base mo_coefficients mo_lengths mo_codes mo_otherOf mo_before = some z → GW (dC, dI) A p l e (headSpec ws_m1089 rm_M_writeBlock).room s m args below meth c 0 0 Q 3 13 (w_M_writeBlock cI cB cS cT a_mo a_mo_base a_mo_coefficients a_mo_lengths a_mo_codes a_mo_directOf a_mo_otherOf a_mo_out a_mo_times a_mo_prediction a_mo_runBits a_mo_toCome a_mo_h a_mo_v a_mo_across a_mo_down a_mo_ownAcross a_mo_ownDown a_mo_before0 a_mo_draftCounts a_mo_draft a_mo_words a_mo_data a_mo_timesKept mo_thrown mo_width mo_height mo_many mo_unitsAcross mo_unitsDown mo_drafts mo_mask mo_first mo_last mo_before mo_bits mo_interval mo_size mo_outs_j13 mo_part_j13 mo_parted_j13 mo_failed_j13 mo_counting mo_run mo_runMany mo_comes mo_at mo_taken mo_left mo_fault mo_base mo_coefficients mo_lengths mo_codes mo_directOf mo_otherOf mo_out_j13 mo_times_j13 mo_prediction_j13 mo_runBits mo_toCome) [(0, .ref a_mo), (1, .int p0), (2, .int p1)] [] := by
    intro mo_outs_j13 mo_part_j13 mo_parted_j13 mo_failed_j13 mo_out_j13 mo_times_j13 mo_prediction_j13 hf H locs ls hP hD hS hl
    unfold f_M_writeBlock_J13 at hf
    refine lv_aload_n hx hb d_m1089_13 rfl (lv_at hl 0 rfl) ?_
    refine va_get (D := (dC, dI)) (ci := 11) (v := .int mo_last) (C := "ScanCoderModel") (T := T_11) (N := 49) hx hb hts n0 hown hK hP 0 rfl rfl 25 (by decide) k1 (fun _ h9 => h9) rfl d_m1089_14 ?_
    refine lv_if_le (tgt := 51) hx hb d_m1089_17 (by decide) (fun hc => ?_) (fun hc => ?_)
    · replace hf := (if_pos hc).symm.trans hf
      exact J51 mo_outs_j13 mo_part_j13 mo_parted_j13 mo_failed_j13 mo_out_j13 mo_times_j13 mo_prediction_j13 hf H locs ls hP hD hS hl
    · replace hf := (if_neg hc).symm.trans hf
      refine lv_aload_n hx hb d_m1089_20 rfl (lv_at hl 0 rfl) ?_
      refine va_get (D := (dC, dI)) (ci := 11) (v := .int mo_before) (C := "ScanCoderModel") (T := T_11) (N := 49) hx hb hts n0 hown hK hP 0 rfl rfl 26 (by decide) k2 (fun _ h9 => h9) rfl d_m1089_21 ?_
      refine lv_if_ne (tgt := 51) hx hb d_m1089_24 (by decide) (fun hc => ?_) (fun hc => ?_)
      · replace hf := (if_neg hc).symm.trans hf
        exact J51 mo_outs_j13 mo_part_j13 mo_parted_j13 mo_failed_j13 mo_out_j13 mo_times_j13 mo_prediction_j13 hf H locs ls hP hD hS hl
      · replace hf := (if_pos hc).symm.trans hf
        refine lv_aload_n hx hb d_m1089_27 rfl (lv_at hl 0 rfl) ?_
        refine lv_iload_n hx hb d_m1089_28 rfl (lv_at hl 1 rfl) ?_
        refine lv_iload_n hx hb d_m1089_29 rfl (lv_at hl 2 rfl) ?_
        refine lv_aload_n hx hb d_m1089_30 rfl (lv_at hl 0 rfl) ?_
        refine va_get (D := (dC, dI)) (ci := 11) (v := .int mo_first) (C := "ScanCoderModel") (T := T_11) (N := 49) hx hb hts n0 hown hK hP 0 rfl rfl 24 (by decide) k0 (fun _ h9 => h9) rfl d_m1089_31 ?_
        refine lv_if_ne (tgt := 41) hx hb d_m1089_34 (by decide) (fun hc => ?_) (fun hc => ?_)
        · replace hf := (if_neg hc).symm.trans hf
          refine lv_aload_n hx hb d_m1089_41 rfl (lv_at hl 0 rfl) ?_
          refine va_get (D := (dC, dI)) (ci := 11) (v := .int mo_first) (C := "ScanCoderModel") (T := T_11) (N := 49) hx hb hts n0 hown hK hP 0 rfl rfl 24 (by decide) k0 (fun _ h9 => h9) rfl d_m1089_42 ?_
          exact J45 mo_outs_j13 mo_part_j13 mo_parted_j13 mo_failed_j13 mo_out_j13 mo_times_j13 mo_prediction_j13 p0 p1 mo_first hf H locs ls hP hD hS (lv_sub hl [] rfl)
        · replace hf := (if_pos hc).symm.trans hf
          refine lv_iconst (v := (1 : Int32)) hx hb d_m1089_37 (by decide) ?_
          refine lv_goto (tgt := 45) hx hb d_m1089_38 (by decide) ?_
          exact J45 mo_outs_j13 mo_part_j13 mo_parted_j13 mo_failed_j13 mo_out_j13 mo_times_j13 mo_prediction_j13 p0 p1 (1 : Int32) hf H locs ls hP hD hS (lv_sub hl [] rfl)
  have hgo : ∀ (H : Heap) (locs : List Loc), va_P (dC, dI) vwCl (w_M_writeBlock cI cB cS cT a_mo a_mo_base a_mo_coefficients a_mo_lengths a_mo_codes a_mo_directOf a_mo_otherOf a_mo_out a_mo_times a_mo_prediction a_mo_runBits a_mo_toCome a_mo_h a_mo_v a_mo_across a_mo_down a_mo_ownAcross a_mo_ownDown a_mo_before0 a_mo_draftCounts a_mo_draft a_mo_words a_mo_data a_mo_timesKept mo_thrown mo_width mo_height mo_many mo_unitsAcross mo_unitsDown mo_drafts mo_mask mo_first mo_last mo_before mo_bits mo_interval mo_size mo_outs mo_part mo_parted mo_failed mo_counting mo_run mo_runMany mo_comes mo_at mo_taken mo_left mo_fault mo_base mo_coefficients mo_lengths mo_codes mo_directOf mo_otherOf mo_out mo_times mo_prediction mo_runBits mo_toCome) H → va_S A s.heap H locs → W p l e (headSpec ws_m1089 rm_M_writeBlock).room s m args below meth c H locs 0 0 Q (F0 m 0 ls []) := by
    intro H locs hP hS
    unfold f_M_writeBlock at hf
    refine lv_aload_n hx hb d_m1089_0 rfl (lv_at hl 0 rfl) ?_
    refine va_get (D := (dC, dI)) (ci := 11) (v := .int mo_first) (C := "ScanCoderModel") (T := T_11) (N := 49) hx hb hts n0 hown hK hP 0 rfl rfl 24 (by decide) k0 (fun _ h9 => h9) rfl d_m1089_1 ?_
    refine lv_if_ne (tgt := 13) hx hb d_m1089_4 (by decide) (fun hc => ?_) (fun hc => ?_)
    · replace hf := (if_neg hc).symm.trans hf
      exact J13 mo_outs mo_part mo_parted mo_failed mo_out mo_times mo_prediction hf H locs ls hP hD hS hl
    · replace hf := (if_pos hc).symm.trans hf
      refine lv_aload_n hx hb d_m1089_7 rfl (lv_at hl 0 rfl) ?_
      refine lv_iload_n hx hb d_m1089_8 rfl (lv_at hl 1 rfl) ?_
      refine lv_iload_n hx hb d_m1089_9 rfl (lv_at hl 2 rfl) ?_
      obtain ⟨z3, hz3, hf⟩ := ob_bind hf
      refine g_callv (wc := (w_M_writeDirect cI cB cS cT a_mo a_mo_base a_mo_coefficients a_mo_lengths a_mo_codes a_mo_directOf a_mo_out a_mo_times a_mo_prediction a_mo_h a_mo_v a_mo_across a_mo_down a_mo_ownAcross a_mo_ownDown a_mo_before0 a_mo_draftCounts a_mo_draft a_mo_words a_mo_otherOf a_mo_data a_mo_runBits a_mo_toCome a_mo_timesKept mo_thrown mo_width mo_height mo_many mo_unitsAcross mo_unitsDown mo_drafts mo_mask mo_first mo_last mo_before mo_bits mo_interval mo_size mo_outs mo_part mo_parted mo_failed mo_counting mo_run mo_runMany mo_comes mo_at mo_taken mo_left mo_fault mo_base mo_coefficients mo_lengths mo_codes mo_directOf mo_out mo_times mo_prediction)) (w1 := (w_M_writeDirect cI cB cS cT a_mo a_mo_base a_mo_coefficients a_mo_lengths a_mo_codes a_mo_directOf a_mo_out a_mo_times a_mo_prediction a_mo_h a_mo_v a_mo_across a_mo_down a_mo_ownAcross a_mo_ownDown a_mo_before0 a_mo_draftCounts a_mo_draft a_mo_words a_mo_otherOf a_mo_data a_mo_runBits a_mo_toCome a_mo_timesKept mo_thrown mo_width mo_height mo_many mo_unitsAcross mo_unitsDown mo_drafts mo_mask mo_first mo_last mo_before mo_bits mo_interval mo_size z3.1 z3.2.1 z3.2.2.1 z3.2.2.2.1 mo_counting mo_run mo_runMany mo_comes mo_at mo_taken mo_left mo_fault mo_base mo_coefficients mo_lengths mo_codes mo_directOf z3.2.2.2.2.1 z3.2.2.2.2.2.1 z3.2.2.2.2.2.2)) (w2 := (w_M_writeBlock cI cB cS cT a_mo a_mo_base a_mo_coefficients a_mo_lengths a_mo_codes a_mo_directOf a_mo_otherOf a_mo_out a_mo_times a_mo_prediction a_mo_runBits a_mo_toCome a_mo_h a_mo_v a_mo_across a_mo_down a_mo_ownAcross a_mo_ownDown a_mo_before0 a_mo_draftCounts a_mo_draft a_mo_words a_mo_data a_mo_timesKept mo_thrown mo_width mo_height mo_many mo_unitsAcross mo_unitsDown mo_drafts mo_mask mo_first mo_last mo_before mo_bits mo_interval mo_size z3.1 z3.2.1 z3.2.2.1 z3.2.2.2.1 mo_counting mo_run mo_runMany mo_comes mo_at mo_taken mo_left mo_fault mo_base mo_coefficients mo_lengths mo_codes mo_directOf mo_otherOf z3.2.2.2.2.1 z3.2.2.2.2.2.1 z3.2.2.2.2.2.2 mo_runBits mo_toCome)) [0, 1, 2, 3, 4, 5, 7, 8, 9] [some 0, some 1, some 2, some 3, some 4, some 5, none, some 6, some 7, some 8, none, none] hP hD hS hA rfl rfl rfl rfl (va_runV (As := [.int p0, .int p1]) (rest := []) ⟨hx, hb, hml, hown, hts⟩ (c_M_writeDirect l dC dI cI cB cS cT N a_mo a_mo_base a_mo_coefficients a_mo_lengths a_mo_codes a_mo_directOf a_mo_out a_mo_times a_mo_prediction a_mo_h a_mo_v a_mo_across a_mo_down a_mo_ownAcross a_mo_ownDown a_mo_before0 a_mo_draftCounts a_mo_draft a_mo_words a_mo_otherOf a_mo_data a_mo_runBits a_mo_toCome a_mo_timesKept mo_thrown mo_width mo_height mo_many mo_unitsAcross mo_unitsDown mo_drafts mo_mask mo_first mo_last mo_before mo_bits mo_interval mo_size mo_outs mo_part mo_parted mo_failed mo_counting mo_run mo_runMany mo_comes mo_at mo_taken mo_left mo_fault mo_base mo_coefficients mo_lengths mo_codes mo_directOf mo_out mo_times mo_prediction p0 p1 H.size z3 hz3) ⟨(callB_of 2 hts (gi tw_1093 rfl) rfl rfl rfl (hts _ (List.mem_cons_of_mem _ tw_16)) (hts _ (List.mem_cons_of_mem _ tw_1090)) (by decide +kernel) ⟨Nat.le_of_ble_eq_true rfl, Nat.le_of_ble_eq_true rfl⟩), hts _ (List.mem_cons_of_mem _ tw_1092), hts _ (List.mem_cons_of_mem _ ts_m1093)⟩ ⟨g_blind, va_recv hK hP (ci := 11) (q0 := 0) rfl rfl, g_at hKN (g_pm hP [0, 1, 2, 3, 4, 5, 7, 8, 9] rfl) (hD.sub [0, 1, 2, 3, 4, 5, 7, 8, 9] (by decide) rfl)⟩ rfl rfl hl.1 rfl (lv_room (Nat.le_of_ble_eq_true rfl)) d_m1089_10 ⟨Nat.zero_le _, Nat.zero_le _⟩) (fun H locs hP hD hS => ?_)
      refine W.eq (g2 := F0 m 13 ls []) rfl ?_
      exact J13 z3.1 z3.2.1 z3.2.2.1 z3.2.2.2.1 z3.2.2.2.2.1 z3.2.2.2.2.2.1 z3.2.2.2.2.2.2 hf H locs ls hP hD hS hl
  exact hgo _ _ hP hS

def f_M_blockOf (N : Nat) (p0 : Int32) (p1 : Int32) (p2 : Int32) (mo_unitsAcross : Int32) (mo_mask : Int32) (mo_h : Nat → Int32) (mo_v : Nat → Int32) (mo_across : Nat → Int32) (mo_ownAcross : Nat → Int32) : Option (Int32) :=
  (f_M_ones N mo_mask).bind fun z1 =>
  if z1 = (1 : Int32) then
    if p0 < 0 ∨ 4 ≤ p0.toNatClampNeg then none else
    if (mo_ownAcross p0.toNatClampNeg) = 0 then none else if p0 < 0 ∨ 4 ≤ p0.toNatClampNeg then none else
    if p0 < 0 ∨ 4 ≤ p0.toNatClampNeg then none else
    if (mo_ownAcross p0.toNatClampNeg) = 0 then none else some (((p1 / (mo_ownAcross p0.toNatClampNeg)) * (mo_across p0.toNatClampNeg)) + (p1 - p1 / (mo_ownAcross p0.toNatClampNeg) * (mo_ownAcross p0.toNatClampNeg)))
  else
    if mo_unitsAcross = 0 then none else if p0 < 0 ∨ 4 ≤ p0.toNatClampNeg then none else
    if p0 < 0 ∨ 4 ≤ p0.toNatClampNeg then none else
    if (mo_h p0.toNatClampNeg) = 0 then none else if mo_unitsAcross = 0 then none else if p0 < 0 ∨ 4 ≤ p0.toNatClampNeg then none else
    if p0 < 0 ∨ 4 ≤ p0.toNatClampNeg then none else
    if (mo_h p0.toNatClampNeg) = 0 then none else if p0 < 0 ∨ 4 ≤ p0.toNatClampNeg then none else
    some (((((p1 / mo_unitsAcross) * (mo_v p0.toNatClampNeg)) + (p2 / (mo_h p0.toNatClampNeg))) * (mo_across p0.toNatClampNeg)) + (((p1 - p1 / mo_unitsAcross * mo_unitsAcross) * (mo_h p0.toNatClampNeg)) + (p2 - p2 / (mo_h p0.toNatClampNeg) * (mo_h p0.toNatClampNeg))))
abbrev w_M_blockOf (cI cB cS cT : ClassId) (a_mo : Nat) (a_mo_h : Nat) (a_mo_v : Nat) (a_mo_across : Nat) (a_mo_ownAcross : Nat) (a_mo_down : Nat) (a_mo_ownDown : Nat) (a_mo_base : Nat) (a_mo_coefficients : Nat) (a_mo_before0 : Nat) (a_mo_draftCounts : Nat) (a_mo_draft : Nat) (a_mo_words : Nat) (a_mo_lengths : Nat) (a_mo_codes : Nat) (a_mo_directOf : Nat) (a_mo_otherOf : Nat) (a_mo_data : Nat) (a_mo_out : Nat) (a_mo_times : Nat) (a_mo_prediction : Nat) (a_mo_runBits : Nat) (a_mo_toCome : Nat) (a_mo_timesKept : Nat) (mo_thrown : Int32) (mo_width : Int32) (mo_height : Int32) (mo_many : Int32) (mo_unitsAcross : Int32) (mo_unitsDown : Int32) (mo_drafts : Int32) (mo_mask : Int32) (mo_first : Int32) (mo_last : Int32) (mo_before : Int32) (mo_bits : Int32) (mo_interval : Int32) (mo_size : Int32) (mo_outs : Int32) (mo_part : Int32) (mo_parted : Int32) (mo_failed : Int32) (mo_counting : Int32) (mo_run : Int32) (mo_runMany : Int32) (mo_comes : Int32) (mo_at : Int32) (mo_taken : Int32) (mo_left : Int32) (mo_fault : Int32) (mo_h : Nat → Int32) (mo_v : Nat → Int32) (mo_across : Nat → Int32) (mo_ownAcross : Nat → Int32) : va_W := [(a_mo, .inr (11, [.int mo_thrown, .int mo_width, .int mo_height, .int mo_many, .ref a_mo_h, .ref a_mo_v, .ref a_mo_across, .ref a_mo_down, .ref a_mo_ownAcross, .ref a_mo_ownDown, .ref a_mo_base, .int mo_unitsAcross, .int mo_unitsDown, .ref a_mo_coefficients, .ref a_mo_before0, .ref a_mo_draftCounts, .ref a_mo_draft, .int mo_drafts, .ref a_mo_words, .ref a_mo_lengths, .ref a_mo_codes, .ref a_mo_directOf, .ref a_mo_otherOf, .int mo_mask, .int mo_first, .int mo_last, .int mo_before, .int mo_bits, .int mo_interval, .ref a_mo_data, .int mo_size, .ref a_mo_out, .int mo_outs, .int mo_part, .int mo_parted, .int mo_failed, .int mo_counting, .ref a_mo_times, .ref a_mo_prediction, .int mo_run, .ref a_mo_runBits, .int mo_runMany, .ref a_mo_toCome, .int mo_comes, .int mo_at, .int mo_taken, .int mo_left, .int mo_fault, .ref a_mo_timesKept])), (a_mo_h, .inl (cI, 4, .inl mo_h)), (a_mo_v, .inl (cI, 4, .inl mo_v)), (a_mo_across, .inl (cI, 4, .inl mo_across)), (a_mo_ownAcross, .inl (cI, 4, .inl mo_ownAcross))]
def rm_M_blockOf : Room := { frames := 1, cells := 0, slots := 0, locals := 22 }
set_option maxHeartbeats 1000000 in
set_option maxRecDepth 100000 in
theorem c_M_blockOf (l : Launch) (dC : Nat → ClassId) (dI : Nat → Nat → Nat) (cI cB cS cT : ClassId) (N : Nat) (a_mo : Nat) (a_mo_h : Nat) (a_mo_v : Nat) (a_mo_across : Nat) (a_mo_ownAcross : Nat) (a_mo_down : Nat) (a_mo_ownDown : Nat) (a_mo_base : Nat) (a_mo_coefficients : Nat) (a_mo_before0 : Nat) (a_mo_draftCounts : Nat) (a_mo_draft : Nat) (a_mo_words : Nat) (a_mo_lengths : Nat) (a_mo_codes : Nat) (a_mo_directOf : Nat) (a_mo_otherOf : Nat) (a_mo_data : Nat) (a_mo_out : Nat) (a_mo_times : Nat) (a_mo_prediction : Nat) (a_mo_runBits : Nat) (a_mo_toCome : Nat) (a_mo_timesKept : Nat) (mo_thrown : Int32) (mo_width : Int32) (mo_height : Int32) (mo_many : Int32) (mo_unitsAcross : Int32) (mo_unitsDown : Int32) (mo_drafts : Int32) (mo_mask : Int32) (mo_first : Int32) (mo_last : Int32) (mo_before : Int32) (mo_bits : Int32) (mo_interval : Int32) (mo_size : Int32) (mo_outs : Int32) (mo_part : Int32) (mo_parted : Int32) (mo_failed : Int32) (mo_counting : Int32) (mo_run : Int32) (mo_runMany : Int32) (mo_comes : Int32) (mo_at : Int32) (mo_taken : Int32) (mo_left : Int32) (mo_fault : Int32) (mo_h : Nat → Int32) (mo_v : Nat → Int32) (mo_across : Nat → Int32) (mo_ownAcross : Nat → Int32) (p0 : Int32) (p1 : Int32) (p2 : Int32) (z : Int32) (hf : f_M_blockOf N p0 p1 p2 mo_unitsAcross mo_mask mo_h mo_v mo_across mo_ownAcross = some z) : Met l y_m1085 ws_m1085 rm_M_blockOf (gPreP (dC, dI) [.ref a_mo, .int p0, .int p1, .int p2] (gT cI cB cS cT) (w_M_blockOf cI cB cS cT a_mo a_mo_h a_mo_v a_mo_across a_mo_ownAcross a_mo_down a_mo_ownDown a_mo_base a_mo_coefficients a_mo_before0 a_mo_draftCounts a_mo_draft a_mo_words a_mo_lengths a_mo_codes a_mo_directOf a_mo_otherOf a_mo_data a_mo_out a_mo_times a_mo_prediction a_mo_runBits a_mo_toCome a_mo_timesKept mo_thrown mo_width mo_height mo_many mo_unitsAcross mo_unitsDown mo_drafts mo_mask mo_first mo_last mo_before mo_bits mo_interval mo_size mo_outs mo_part mo_parted mo_failed mo_counting mo_run mo_runMany mo_comes mo_at mo_taken mo_left mo_fault mo_h mo_v mo_across mo_ownAcross)) (vp_Si (fun r => r = z)) 0 0 (fun _ => False) := by
  refine Met.ofW (cc := prog_14_method_35_code) (maxL := 6) (ret := (some .int)) (by decide) rfl ?_
  intro p e s m args below meth c s₁ B hml hv
  obtain ⟨hargs, hP, hKN⟩ := hv
  have hK := hKN.1
  have hx := B.exec
  have hb := B.bytes
  have hr := B.returns
  have hts := atoms_spec (ws := ws_m1085) B.pre
  have hown : s.vm.findClass "ScanCoderModel" = some m.cls := findClass_of_methodNamed B.named
  have hlocks := B.notSynchronized
  have k0 := hts _ (List.mem_cons_of_mem _ tw_857)
  have k1 := hts _ (List.mem_cons_of_mem _ tw_845)
  have k2 := hts _ (List.mem_cons_of_mem _ tw_838)
  have k3 := hts _ (List.mem_cons_of_mem _ tw_839)
  have k4 := hts _ (List.mem_cons_of_mem _ tw_840)
  have k5 := hts _ (List.mem_cons_of_mem _ tw_842)
  have n0 : ∀ w ∈ u_ws "ScanCoderModel" T_11 49, w ∈ ws_m1085 := fun w h => List.mem_cons_of_mem _ (in_11 w h)
  have hl := lv_entry ([.ref a_mo, .int p0, .int p1, .int p2]) (n := 6) (Nat.le_of_ble_eq_true rfl)
  have hfr : entryFrame m args 6 = F0 m 0 ((lg_sl ([.ref a_mo, .int p0, .int p1, .int p2]) ++ List.replicate (6 - (lg_sl ([.ref a_mo, .int p0, .int p1, .int p2])).length) Slot.unset).toArray) [] := by rw [hargs]; exact lg_entry_eq _ _ _
  rw [hfr]
  generalize (lg_sl ([.ref a_mo, .int p0, .int p1, .int p2]) ++ List.replicate (6 - (lg_sl ([.ref a_mo, .int p0, .int p1, .int p2])).length) Slot.unset).toArray = ls at hl ⊢
  have hl : lv_has ls 6 [(0, .ref a_mo), (1, .int p0), (2, .int p1), (3, .int p2)] := hl
  refine gen_Q (fun Q hQ => ?_)
  clear hfr
  unfold f_M_blockOf at hf
  refine lv_aload_n hx hb d_m1085_0 rfl (lv_at hl 0 rfl) ?_
  refine va_get (D := (dC, dI)) (ci := 11) (v := .int mo_mask) (C := "ScanCoderModel") (T := T_11) (N := 49) hx hb hts n0 hown hK hP 0 rfl rfl 23 (by decide) k0 (fun _ h9 => h9) rfl d_m1085_1 ?_
  obtain ⟨z1, hz1, hf⟩ := ob_bind hf
  refine vp_callSi (g_run (va_runS (As := [.int mo_mask]) (rest := []) ⟨hx, hb, hml, hown, hts⟩ (c_M_ones l dC dI cI cB cS cT N mo_mask z1 hz1) ⟨(callB_of 1 hts (gi tw_1010 rfl) rfl rfl rfl (hts _ (List.mem_cons_of_mem _ tw_16)) (hts _ (List.mem_cons_of_mem _ tw_1008)) (by decide +kernel) ⟨Nat.le_of_ble_eq_true rfl, Nat.le_of_ble_eq_true rfl⟩), hts _ (List.mem_cons_of_mem _ tw_1009)⟩ ⟨gp_blind, gp_at hKN (g_pm hP [] rfl)⟩ rfl rfl hl.1 rfl (lv_room (Nat.le_of_ble_eq_true rfl)) d_m1085_4 ⟨Nat.zero_le _, Nat.zero_le _⟩)) (fun r hrz1 => ?_)
  have hrz1 := hrz1.symm
  subst hrz1
  refine W.eq (g2 := F0 m 7 ls [.int z1]) rfl ?_
  refine lv_iconst (v := (1 : Int32)) hx hb d_m1085_7 (by decide) ?_
  refine lv_icmp_ne (tgt := 36) hx hb d_m1085_8 (by decide) (fun hc => ?_) (fun hc => ?_)
  · replace hf := (if_neg hc).symm.trans hf
    refine lv_iload_n hx hb d_m1085_36 rfl (lv_at hl 2 rfl) ?_
    refine lv_aload_n hx hb d_m1085_37 rfl (lv_at hl 0 rfl) ?_
    refine va_get (D := (dC, dI)) (ci := 11) (v := .int mo_unitsAcross) (C := "ScanCoderModel") (T := T_11) (N := 49) hx hb hts n0 hown hK hP 0 rfl rfl 11 (by decide) k1 (fun _ h9 => h9) rfl d_m1085_38 ?_
    obtain ⟨hi, hf⟩ := ob_if hf
    refine lv_irem hx hb d_m1085_41 hi ?_
    refine lv_aload_n hx hb d_m1085_42 rfl (lv_at hl 0 rfl) ?_
    refine va_get (D := (dC, dI)) (ci := 11) (v := .ref a_mo_h) (C := "ScanCoderModel") (T := T_11) (N := 49) hx hb hts n0 hown hK hP 0 rfl rfl 4 (by decide) k2 (fun _ h9 => h9) rfl d_m1085_43 ?_
    refine lv_iload_n hx hb d_m1085_46 rfl (lv_at hl 1 rfl) ?_
    obtain ⟨hi, hf⟩ := ob_if hf
    refine va_iald hx hb hK hP 1 0 rfl rfl hi d_m1085_47 ?_
    refine lv_imul hx hb d_m1085_48 ?_
    refine lv_iload_n hx hb d_m1085_49 rfl (lv_at hl 3 rfl) ?_
    refine lv_aload_n hx hb d_m1085_50 rfl (lv_at hl 0 rfl) ?_
    refine va_get (D := (dC, dI)) (ci := 11) (v := .ref a_mo_h) (C := "ScanCoderModel") (T := T_11) (N := 49) hx hb hts n0 hown hK hP 0 rfl rfl 4 (by decide) k2 (fun _ h9 => h9) rfl d_m1085_51 ?_
    refine lv_iload_n hx hb d_m1085_54 rfl (lv_at hl 1 rfl) ?_
    obtain ⟨hi, hf⟩ := ob_if hf
    refine va_iald hx hb hK hP 1 0 rfl rfl hi d_m1085_55 ?_
    obtain ⟨hi, hf⟩ := ob_if hf
    refine lv_irem hx hb d_m1085_56 hi ?_
    refine lv_iadd hx hb d_m1085_57 ?_
    refine lv_istore (lv' := [(4, .int (((p1 - p1 / mo_unitsAcross * mo_unitsAcross) * (mo_h p0.toNatClampNeg)) + (p2 - p2 / (mo_h p0.toNatClampNeg) * (mo_h p0.toNatClampNeg)))), (0, .ref a_mo), (1, .int p0), (2, .int p1), (3, .int p2)]) hx hb d_m1085_58 hl (by decide) rfl (fun ls hl => ?_)
    refine lv_iload_n hx hb d_m1085_60 rfl (lv_at hl 3 rfl) ?_
    refine lv_aload_n hx hb d_m1085_61 rfl (lv_at hl 1 rfl) ?_
    refine va_get (D := (dC, dI)) (ci := 11) (v := .int mo_unitsAcross) (C := "ScanCoderModel") (T := T_11) (N := 49) hx hb hts n0 hown hK hP 0 rfl rfl 11 (by decide) k1 (fun _ h9 => h9) rfl d_m1085_62 ?_
    obtain ⟨hi, hf⟩ := ob_if hf
    refine lv_idiv hx hb d_m1085_65 hi ?_
    refine lv_aload_n hx hb d_m1085_66 rfl (lv_at hl 1 rfl) ?_
    refine va_get (D := (dC, dI)) (ci := 11) (v := .ref a_mo_v) (C := "ScanCoderModel") (T := T_11) (N := 49) hx hb hts n0 hown hK hP 0 rfl rfl 5 (by decide) k3 (fun _ h9 => h9) rfl d_m1085_67 ?_
    refine lv_iload_n hx hb d_m1085_70 rfl (lv_at hl 2 rfl) ?_
    obtain ⟨hi, hf⟩ := ob_if hf
    refine va_iald hx hb hK hP 2 0 rfl rfl hi d_m1085_71 ?_
    refine lv_imul hx hb d_m1085_72 ?_
    refine lv_iload_n hx hb d_m1085_73 rfl (lv_at hl 4 rfl) ?_
    refine lv_aload_n hx hb d_m1085_74 rfl (lv_at hl 1 rfl) ?_
    refine va_get (D := (dC, dI)) (ci := 11) (v := .ref a_mo_h) (C := "ScanCoderModel") (T := T_11) (N := 49) hx hb hts n0 hown hK hP 0 rfl rfl 4 (by decide) k2 (fun _ h9 => h9) rfl d_m1085_75 ?_
    refine lv_iload_n hx hb d_m1085_78 rfl (lv_at hl 2 rfl) ?_
    obtain ⟨hi, hf⟩ := ob_if hf
    refine va_iald hx hb hK hP 1 0 rfl rfl hi d_m1085_79 ?_
    obtain ⟨hi, hf⟩ := ob_if hf
    refine lv_idiv hx hb d_m1085_80 hi ?_
    refine lv_iadd hx hb d_m1085_81 ?_
    refine lv_istore (lv' := [(5, .int (((p1 / mo_unitsAcross) * (mo_v p0.toNatClampNeg)) + (p2 / (mo_h p0.toNatClampNeg)))), (4, .int (((p1 - p1 / mo_unitsAcross * mo_unitsAcross) * (mo_h p0.toNatClampNeg)) + (p2 - p2 / (mo_h p0.toNatClampNeg) * (mo_h p0.toNatClampNeg)))), (0, .ref a_mo), (1, .int p0), (2, .int p1), (3, .int p2)]) hx hb d_m1085_82 hl (by decide) rfl (fun ls hl => ?_)
    refine lv_iload hx hb d_m1085_84 (lv_at hl 0 rfl) ?_
    refine lv_aload_n hx hb d_m1085_86 rfl (lv_at hl 2 rfl) ?_
    refine va_get (D := (dC, dI)) (ci := 11) (v := .ref a_mo_across) (C := "ScanCoderModel") (T := T_11) (N := 49) hx hb hts n0 hown hK hP 0 rfl rfl 6 (by decide) k4 (fun _ h9 => h9) rfl d_m1085_87 ?_
    refine lv_iload_n hx hb d_m1085_90 rfl (lv_at hl 3 rfl) ?_
    obtain ⟨hi, hf⟩ := ob_if hf
    refine va_iald hx hb hK hP 3 0 rfl rfl hi d_m1085_91 ?_
    refine lv_imul hx hb d_m1085_92 ?_
    refine lv_iload hx hb d_m1085_93 (lv_at hl 1 rfl) ?_
    refine lv_iadd hx hb d_m1085_95 ?_
    obtain rfl := Option.some.inj hf
    subst hQ
    exact W.iret (v := ((((p1 / mo_unitsAcross) * (mo_v p0.toNatClampNeg)) + (p2 / (mo_h p0.toNatClampNeg))) * (mo_across p0.toNatClampNeg)) + (((p1 - p1 / mo_unitsAcross * mo_unitsAcross) * (mo_h p0.toNatClampNeg)) + (p2 - p2 / (mo_h p0.toNatClampNeg) * (mo_h p0.toNatClampNeg)))) hx hb hr (fun t ht hW => ⟨((((p1 / mo_unitsAcross) * (mo_v p0.toNatClampNeg)) + (p2 / (mo_h p0.toNatClampNeg))) * (mo_across p0.toNatClampNeg)) + (((p1 - p1 / mo_unitsAcross * mo_unitsAcross) * (mo_h p0.toNatClampNeg)) + (p2 - p2 / (mo_h p0.toNatClampNeg) * (mo_h p0.toNatClampNeg))), rfl, rfl, ht⟩) (fun q h => by cases h) d_m1085_96
  · replace hf := (if_pos hc).symm.trans hf
    refine lv_iload_n hx hb d_m1085_11 rfl (lv_at hl 2 rfl) ?_
    refine lv_aload_n hx hb d_m1085_12 rfl (lv_at hl 0 rfl) ?_
    refine va_get (D := (dC, dI)) (ci := 11) (v := .ref a_mo_ownAcross) (C := "ScanCoderModel") (T := T_11) (N := 49) hx hb hts n0 hown hK hP 0 rfl rfl 8 (by decide) k5 (fun _ h9 => h9) rfl d_m1085_13 ?_
    refine lv_iload_n hx hb d_m1085_16 rfl (lv_at hl 1 rfl) ?_
    obtain ⟨hi, hf⟩ := ob_if hf
    refine va_iald hx hb hK hP 4 0 rfl rfl hi d_m1085_17 ?_
    obtain ⟨hi, hf⟩ := ob_if hf
    refine lv_idiv hx hb d_m1085_18 hi ?_
    refine lv_aload_n hx hb d_m1085_19 rfl (lv_at hl 0 rfl) ?_
    refine va_get (D := (dC, dI)) (ci := 11) (v := .ref a_mo_across) (C := "ScanCoderModel") (T := T_11) (N := 49) hx hb hts n0 hown hK hP 0 rfl rfl 6 (by decide) k4 (fun _ h9 => h9) rfl d_m1085_20 ?_
    refine lv_iload_n hx hb d_m1085_23 rfl (lv_at hl 1 rfl) ?_
    obtain ⟨hi, hf⟩ := ob_if hf
    refine va_iald hx hb hK hP 3 0 rfl rfl hi d_m1085_24 ?_
    refine lv_imul hx hb d_m1085_25 ?_
    refine lv_iload_n hx hb d_m1085_26 rfl (lv_at hl 2 rfl) ?_
    refine lv_aload_n hx hb d_m1085_27 rfl (lv_at hl 0 rfl) ?_
    refine va_get (D := (dC, dI)) (ci := 11) (v := .ref a_mo_ownAcross) (C := "ScanCoderModel") (T := T_11) (N := 49) hx hb hts n0 hown hK hP 0 rfl rfl 8 (by decide) k5 (fun _ h9 => h9) rfl d_m1085_28 ?_
    refine lv_iload_n hx hb d_m1085_31 rfl (lv_at hl 1 rfl) ?_
    obtain ⟨hi, hf⟩ := ob_if hf
    refine va_iald hx hb hK hP 4 0 rfl rfl hi d_m1085_32 ?_
    obtain ⟨hi, hf⟩ := ob_if hf
    refine lv_irem hx hb d_m1085_33 hi ?_
    refine lv_iadd hx hb d_m1085_34 ?_
    obtain rfl := Option.some.inj hf
    subst hQ
    exact W.iret (v := ((p1 / (mo_ownAcross p0.toNatClampNeg)) * (mo_across p0.toNatClampNeg)) + (p1 - p1 / (mo_ownAcross p0.toNatClampNeg) * (mo_ownAcross p0.toNatClampNeg))) hx hb hr (fun t ht hW => ⟨((p1 / (mo_ownAcross p0.toNatClampNeg)) * (mo_across p0.toNatClampNeg)) + (p1 - p1 / (mo_ownAcross p0.toNatClampNeg) * (mo_ownAcross p0.toNatClampNeg)), rfl, rfl, ht⟩) (fun q h => by cases h) d_m1085_35

def f_M_blocksIn (N : Nat) (p0 : Int32) (mo_mask : Int32) (mo_h : Nat → Int32) (mo_v : Nat → Int32) : Option (Int32) :=
  if ((mo_mask >>> (p0 &&& 31)) &&& (1 : Int32)) = 0 then
    some (0 : Int32)
  else
    (f_M_ones N mo_mask).bind fun z1 =>
    if z1 = (1 : Int32) then
      some (1 : Int32)
    else
      if p0 < 0 ∨ 4 ≤ p0.toNatClampNeg then none else
      if p0 < 0 ∨ 4 ≤ p0.toNatClampNeg then none else
      some ((mo_h p0.toNatClampNeg) * (mo_v p0.toNatClampNeg))
abbrev w_M_blocksIn (cI cB cS cT : ClassId) (a_mo : Nat) (a_mo_h : Nat) (a_mo_v : Nat) (a_mo_across : Nat) (a_mo_down : Nat) (a_mo_ownAcross : Nat) (a_mo_ownDown : Nat) (a_mo_base : Nat) (a_mo_coefficients : Nat) (a_mo_before0 : Nat) (a_mo_draftCounts : Nat) (a_mo_draft : Nat) (a_mo_words : Nat) (a_mo_lengths : Nat) (a_mo_codes : Nat) (a_mo_directOf : Nat) (a_mo_otherOf : Nat) (a_mo_data : Nat) (a_mo_out : Nat) (a_mo_times : Nat) (a_mo_prediction : Nat) (a_mo_runBits : Nat) (a_mo_toCome : Nat) (a_mo_timesKept : Nat) (mo_thrown : Int32) (mo_width : Int32) (mo_height : Int32) (mo_many : Int32) (mo_unitsAcross : Int32) (mo_unitsDown : Int32) (mo_drafts : Int32) (mo_mask : Int32) (mo_first : Int32) (mo_last : Int32) (mo_before : Int32) (mo_bits : Int32) (mo_interval : Int32) (mo_size : Int32) (mo_outs : Int32) (mo_part : Int32) (mo_parted : Int32) (mo_failed : Int32) (mo_counting : Int32) (mo_run : Int32) (mo_runMany : Int32) (mo_comes : Int32) (mo_at : Int32) (mo_taken : Int32) (mo_left : Int32) (mo_fault : Int32) (mo_h : Nat → Int32) (mo_v : Nat → Int32) : va_W := [(a_mo, .inr (11, [.int mo_thrown, .int mo_width, .int mo_height, .int mo_many, .ref a_mo_h, .ref a_mo_v, .ref a_mo_across, .ref a_mo_down, .ref a_mo_ownAcross, .ref a_mo_ownDown, .ref a_mo_base, .int mo_unitsAcross, .int mo_unitsDown, .ref a_mo_coefficients, .ref a_mo_before0, .ref a_mo_draftCounts, .ref a_mo_draft, .int mo_drafts, .ref a_mo_words, .ref a_mo_lengths, .ref a_mo_codes, .ref a_mo_directOf, .ref a_mo_otherOf, .int mo_mask, .int mo_first, .int mo_last, .int mo_before, .int mo_bits, .int mo_interval, .ref a_mo_data, .int mo_size, .ref a_mo_out, .int mo_outs, .int mo_part, .int mo_parted, .int mo_failed, .int mo_counting, .ref a_mo_times, .ref a_mo_prediction, .int mo_run, .ref a_mo_runBits, .int mo_runMany, .ref a_mo_toCome, .int mo_comes, .int mo_at, .int mo_taken, .int mo_left, .int mo_fault, .ref a_mo_timesKept])), (a_mo_h, .inl (cI, 4, .inl mo_h)), (a_mo_v, .inl (cI, 4, .inl mo_v))]
def rm_M_blocksIn : Room := { frames := 1, cells := 0, slots := 0, locals := 22 }
set_option maxHeartbeats 1000000 in
set_option maxRecDepth 100000 in
theorem c_M_blocksIn (l : Launch) (dC : Nat → ClassId) (dI : Nat → Nat → Nat) (cI cB cS cT : ClassId) (N : Nat) (a_mo : Nat) (a_mo_h : Nat) (a_mo_v : Nat) (a_mo_across : Nat) (a_mo_down : Nat) (a_mo_ownAcross : Nat) (a_mo_ownDown : Nat) (a_mo_base : Nat) (a_mo_coefficients : Nat) (a_mo_before0 : Nat) (a_mo_draftCounts : Nat) (a_mo_draft : Nat) (a_mo_words : Nat) (a_mo_lengths : Nat) (a_mo_codes : Nat) (a_mo_directOf : Nat) (a_mo_otherOf : Nat) (a_mo_data : Nat) (a_mo_out : Nat) (a_mo_times : Nat) (a_mo_prediction : Nat) (a_mo_runBits : Nat) (a_mo_toCome : Nat) (a_mo_timesKept : Nat) (mo_thrown : Int32) (mo_width : Int32) (mo_height : Int32) (mo_many : Int32) (mo_unitsAcross : Int32) (mo_unitsDown : Int32) (mo_drafts : Int32) (mo_mask : Int32) (mo_first : Int32) (mo_last : Int32) (mo_before : Int32) (mo_bits : Int32) (mo_interval : Int32) (mo_size : Int32) (mo_outs : Int32) (mo_part : Int32) (mo_parted : Int32) (mo_failed : Int32) (mo_counting : Int32) (mo_run : Int32) (mo_runMany : Int32) (mo_comes : Int32) (mo_at : Int32) (mo_taken : Int32) (mo_left : Int32) (mo_fault : Int32) (mo_h : Nat → Int32) (mo_v : Nat → Int32) (p0 : Int32) (z : Int32) (hf : f_M_blocksIn N p0 mo_mask mo_h mo_v = some z) : Met l y_m1081 ws_m1081 rm_M_blocksIn (gPreP (dC, dI) [.ref a_mo, .int p0] (gT cI cB cS cT) (w_M_blocksIn cI cB cS cT a_mo a_mo_h a_mo_v a_mo_across a_mo_down a_mo_ownAcross a_mo_ownDown a_mo_base a_mo_coefficients a_mo_before0 a_mo_draftCounts a_mo_draft a_mo_words a_mo_lengths a_mo_codes a_mo_directOf a_mo_otherOf a_mo_data a_mo_out a_mo_times a_mo_prediction a_mo_runBits a_mo_toCome a_mo_timesKept mo_thrown mo_width mo_height mo_many mo_unitsAcross mo_unitsDown mo_drafts mo_mask mo_first mo_last mo_before mo_bits mo_interval mo_size mo_outs mo_part mo_parted mo_failed mo_counting mo_run mo_runMany mo_comes mo_at mo_taken mo_left mo_fault mo_h mo_v)) (vp_Si (fun r => r = z)) 0 0 (fun _ => False) := by
  refine Met.ofW (cc := prog_14_method_36_code) (maxL := 2) (ret := (some .int)) (by decide) rfl ?_
  intro p e s m args below meth c s₁ B hml hv
  obtain ⟨hargs, hP, hKN⟩ := hv
  have hK := hKN.1
  have hx := B.exec
  have hb := B.bytes
  have hr := B.returns
  have hts := atoms_spec (ws := ws_m1081) B.pre
  have hown : s.vm.findClass "ScanCoderModel" = some m.cls := findClass_of_methodNamed B.named
  have hlocks := B.notSynchronized
  have k0 := hts _ (List.mem_cons_of_mem _ tw_857)
  have k1 := hts _ (List.mem_cons_of_mem _ tw_838)
  have k2 := hts _ (List.mem_cons_of_mem _ tw_839)
  have n0 : ∀ w ∈ u_ws "ScanCoderModel" T_11 49, w ∈ ws_m1081 := fun w h => List.mem_cons_of_mem _ (in_11 w h)
  have hl := lv_entry ([.ref a_mo, .int p0]) (n := 2) (Nat.le_of_ble_eq_true rfl)
  have hfr : entryFrame m args 2 = F0 m 0 ((lg_sl ([.ref a_mo, .int p0]) ++ List.replicate (2 - (lg_sl ([.ref a_mo, .int p0])).length) Slot.unset).toArray) [] := by rw [hargs]; exact lg_entry_eq _ _ _
  rw [hfr]
  generalize (lg_sl ([.ref a_mo, .int p0]) ++ List.replicate (2 - (lg_sl ([.ref a_mo, .int p0])).length) Slot.unset).toArray = ls at hl ⊢
  have hl : lv_has ls 2 [(0, .ref a_mo), (1, .int p0)] := hl
  refine gen_Q (fun Q hQ => ?_)
  clear hfr
  unfold f_M_blocksIn at hf
  refine lv_aload_n hx hb d_m1081_0 rfl (lv_at hl 0 rfl) ?_
  refine va_get (D := (dC, dI)) (ci := 11) (v := .int mo_mask) (C := "ScanCoderModel") (T := T_11) (N := 49) hx hb hts n0 hown hK hP 0 rfl rfl 23 (by decide) k0 (fun _ h9 => h9) rfl d_m1081_1 ?_
  refine lv_iload_n hx hb d_m1081_4 rfl (lv_at hl 1 rfl) ?_
  refine lv_ishr hx hb d_m1081_5 ?_
  refine lv_iconst (v := (1 : Int32)) hx hb d_m1081_6 (by decide) ?_
  refine lv_iand hx hb d_m1081_7 ?_
  refine lv_if_ne (tgt := 15) hx hb d_m1081_8 (by decide) (fun hc => ?_) (fun hc => ?_)
  · replace hf := (if_neg hc).symm.trans hf
    refine lv_aload_n hx hb d_m1081_15 rfl (lv_at hl 0 rfl) ?_
    refine va_get (D := (dC, dI)) (ci := 11) (v := .int mo_mask) (C := "ScanCoderModel") (T := T_11) (N := 49) hx hb hts n0 hown hK hP 0 rfl rfl 23 (by decide) k0 (fun _ h9 => h9) rfl d_m1081_16 ?_
    obtain ⟨z1, hz1, hf⟩ := ob_bind hf
    refine vp_callSi (g_run (va_runS (As := [.int mo_mask]) (rest := []) ⟨hx, hb, hml, hown, hts⟩ (c_M_ones l dC dI cI cB cS cT N mo_mask z1 hz1) ⟨(callB_of 1 hts (gi tw_1010 rfl) rfl rfl rfl (hts _ (List.mem_cons_of_mem _ tw_16)) (hts _ (List.mem_cons_of_mem _ tw_1008)) (by decide +kernel) ⟨Nat.le_of_ble_eq_true rfl, Nat.le_of_ble_eq_true rfl⟩), hts _ (List.mem_cons_of_mem _ tw_1009)⟩ ⟨gp_blind, gp_at hKN (g_pm hP [] rfl)⟩ rfl rfl hl.1 rfl (lv_room (Nat.le_of_ble_eq_true rfl)) d_m1081_19 ⟨Nat.zero_le _, Nat.zero_le _⟩)) (fun r hrz1 => ?_)
    have hrz1 := hrz1.symm
    subst hrz1
    refine W.eq (g2 := F0 m 22 ls [.int z1]) rfl ?_
    refine lv_iconst (v := (1 : Int32)) hx hb d_m1081_22 (by decide) ?_
    refine lv_icmp_ne (tgt := 30) hx hb d_m1081_23 (by decide) (fun hc => ?_) (fun hc => ?_)
    · replace hf := (if_neg hc).symm.trans hf
      refine lv_aload_n hx hb d_m1081_30 rfl (lv_at hl 0 rfl) ?_
      refine va_get (D := (dC, dI)) (ci := 11) (v := .ref a_mo_h) (C := "ScanCoderModel") (T := T_11) (N := 49) hx hb hts n0 hown hK hP 0 rfl rfl 4 (by decide) k1 (fun _ h9 => h9) rfl d_m1081_31 ?_
      refine lv_iload_n hx hb d_m1081_34 rfl (lv_at hl 1 rfl) ?_
      obtain ⟨hi, hf⟩ := ob_if hf
      refine va_iald hx hb hK hP 1 0 rfl rfl hi d_m1081_35 ?_
      refine lv_aload_n hx hb d_m1081_36 rfl (lv_at hl 0 rfl) ?_
      refine va_get (D := (dC, dI)) (ci := 11) (v := .ref a_mo_v) (C := "ScanCoderModel") (T := T_11) (N := 49) hx hb hts n0 hown hK hP 0 rfl rfl 5 (by decide) k2 (fun _ h9 => h9) rfl d_m1081_37 ?_
      refine lv_iload_n hx hb d_m1081_40 rfl (lv_at hl 1 rfl) ?_
      obtain ⟨hi, hf⟩ := ob_if hf
      refine va_iald hx hb hK hP 2 0 rfl rfl hi d_m1081_41 ?_
      refine lv_imul hx hb d_m1081_42 ?_
      obtain rfl := Option.some.inj hf
      subst hQ
      exact W.iret (v := (mo_h p0.toNatClampNeg) * (mo_v p0.toNatClampNeg)) hx hb hr (fun t ht hW => ⟨(mo_h p0.toNatClampNeg) * (mo_v p0.toNatClampNeg), rfl, rfl, ht⟩) (fun q h => by cases h) d_m1081_43
    · replace hf := (if_pos hc).symm.trans hf
      refine lv_iconst (v := (1 : Int32)) hx hb d_m1081_26 (by decide) ?_
      refine lv_goto (tgt := 43) hx hb d_m1081_27 (by decide) ?_
      obtain rfl := Option.some.inj hf
      subst hQ
      exact W.iret (v := (1 : Int32)) hx hb hr (fun t ht hW => ⟨(1 : Int32), rfl, rfl, ht⟩) (fun q h => by cases h) d_m1081_43
  · replace hf := (if_pos hc).symm.trans hf
    refine lv_iconst (v := (0 : Int32)) hx hb d_m1081_11 (by decide) ?_
    refine lv_goto (tgt := 43) hx hb d_m1081_12 (by decide) ?_
    obtain rfl := Option.some.inj hf
    subst hQ
    exact W.iret (v := (0 : Int32)) hx hb hr (fun t ht hW => ⟨(0 : Int32), rfl, rfl, ht⟩) (fun q h => by cases h) d_m1081_43
def f_M_align_L0b (mo_counting : Int32) (N : Nat) (rec : (Int32 × Int32 × Int32 × Int32 × (Nat → Int32)) → Option (Int32 × Int32 × Int32 × Int32 × (Nat → Int32))) (mo_outs_0 : Int32) (mo_part_0 : Int32) (mo_parted_0 : Int32) (mo_failed_0 : Int32) (mo_out_0 : Nat → Int32) : Option (Int32 × Int32 × Int32 × Int32 × (Nat → Int32)) :=
  if mo_parted_0 ≤ 0 then
    some (mo_outs_0, mo_part_0, mo_parted_0, mo_failed_0, mo_out_0)
  else
    (f_M_bit (1 : Int32) mo_outs_0 mo_part_0 mo_parted_0 mo_failed_0 mo_counting mo_out_0).bind fun z1 =>
    rec (z1.1, z1.2.1, z1.2.2.1, z1.2.2.2.1, z1.2.2.2.2)
def f_M_align_L0 (mo_counting : Int32) (N : Nat) (k : Nat) : (Int32 × Int32 × Int32 × Int32 × (Nat → Int32)) → Option (Int32 × Int32 × Int32 × Int32 × (Nat → Int32)) := it (fun rec a => f_M_align_L0b mo_counting N rec a.1 a.2.1 a.2.2.1 a.2.2.2.1 a.2.2.2.2) k
def f_M_align (N : Nat) (mo_outs : Int32) (mo_part : Int32) (mo_parted : Int32) (mo_failed : Int32) (mo_counting : Int32) (mo_out : Nat → Int32) : Option (Int32 × Int32 × Int32 × Int32 × (Nat → Int32)) :=
  (f_M_align_L0 mo_counting N N (mo_outs, mo_part, mo_parted, mo_failed, mo_out)).bind fun z2 =>
    some (z2.1, z2.2.1, z2.2.2.1, z2.2.2.2.1, z2.2.2.2.2)
abbrev w_M_align (cI cB cS cT : ClassId) (a_mo : Nat) (a_mo_out : Nat) (a_mo_h : Nat) (a_mo_v : Nat) (a_mo_across : Nat) (a_mo_down : Nat) (a_mo_ownAcross : Nat) (a_mo_ownDown : Nat) (a_mo_base : Nat) (a_mo_coefficients : Nat) (a_mo_before0 : Nat) (a_mo_draftCounts : Nat) (a_mo_draft : Nat) (a_mo_words : Nat) (a_mo_lengths : Nat) (a_mo_codes : Nat) (a_mo_directOf : Nat) (a_mo_otherOf : Nat) (a_mo_data : Nat) (a_mo_times : Nat) (a_mo_prediction : Nat) (a_mo_runBits : Nat) (a_mo_toCome : Nat) (a_mo_timesKept : Nat) (mo_thrown : Int32) (mo_width : Int32) (mo_height : Int32) (mo_many : Int32) (mo_unitsAcross : Int32) (mo_unitsDown : Int32) (mo_drafts : Int32) (mo_mask : Int32) (mo_first : Int32) (mo_last : Int32) (mo_before : Int32) (mo_bits : Int32) (mo_interval : Int32) (mo_size : Int32) (mo_outs : Int32) (mo_part : Int32) (mo_parted : Int32) (mo_failed : Int32) (mo_counting : Int32) (mo_run : Int32) (mo_runMany : Int32) (mo_comes : Int32) (mo_at : Int32) (mo_taken : Int32) (mo_left : Int32) (mo_fault : Int32) (mo_out : Nat → Int32) : va_W := [(a_mo, .inr (11, [.int mo_thrown, .int mo_width, .int mo_height, .int mo_many, .ref a_mo_h, .ref a_mo_v, .ref a_mo_across, .ref a_mo_down, .ref a_mo_ownAcross, .ref a_mo_ownDown, .ref a_mo_base, .int mo_unitsAcross, .int mo_unitsDown, .ref a_mo_coefficients, .ref a_mo_before0, .ref a_mo_draftCounts, .ref a_mo_draft, .int mo_drafts, .ref a_mo_words, .ref a_mo_lengths, .ref a_mo_codes, .ref a_mo_directOf, .ref a_mo_otherOf, .int mo_mask, .int mo_first, .int mo_last, .int mo_before, .int mo_bits, .int mo_interval, .ref a_mo_data, .int mo_size, .ref a_mo_out, .int mo_outs, .int mo_part, .int mo_parted, .int mo_failed, .int mo_counting, .ref a_mo_times, .ref a_mo_prediction, .int mo_run, .ref a_mo_runBits, .int mo_runMany, .ref a_mo_toCome, .int mo_comes, .int mo_at, .int mo_taken, .int mo_left, .int mo_fault, .ref a_mo_timesKept])), (a_mo_out, .inl (cB, 16384, .inl mo_out))]
def rm_M_align : Room := { frames := 2, cells := 0, slots := 0, locals := 42 }
set_option maxHeartbeats 1000000 in
set_option maxRecDepth 100000 in
theorem c_M_align (l : Launch) (dC : Nat → ClassId) (dI : Nat → Nat → Nat) (cI cB cS cT : ClassId) (N : Nat) (a_mo : Nat) (a_mo_out : Nat) (a_mo_h : Nat) (a_mo_v : Nat) (a_mo_across : Nat) (a_mo_down : Nat) (a_mo_ownAcross : Nat) (a_mo_ownDown : Nat) (a_mo_base : Nat) (a_mo_coefficients : Nat) (a_mo_before0 : Nat) (a_mo_draftCounts : Nat) (a_mo_draft : Nat) (a_mo_words : Nat) (a_mo_lengths : Nat) (a_mo_codes : Nat) (a_mo_directOf : Nat) (a_mo_otherOf : Nat) (a_mo_data : Nat) (a_mo_times : Nat) (a_mo_prediction : Nat) (a_mo_runBits : Nat) (a_mo_toCome : Nat) (a_mo_timesKept : Nat) (mo_thrown : Int32) (mo_width : Int32) (mo_height : Int32) (mo_many : Int32) (mo_unitsAcross : Int32) (mo_unitsDown : Int32) (mo_drafts : Int32) (mo_mask : Int32) (mo_first : Int32) (mo_last : Int32) (mo_before : Int32) (mo_bits : Int32) (mo_interval : Int32) (mo_size : Int32) (mo_outs : Int32) (mo_part : Int32) (mo_parted : Int32) (mo_failed : Int32) (mo_counting : Int32) (mo_run : Int32) (mo_runMany : Int32) (mo_comes : Int32) (mo_at : Int32) (mo_taken : Int32) (mo_left : Int32) (mo_fault : Int32) (mo_out : Nat → Int32) (sz : Nat) (z : Int32 × Int32 × Int32 × Int32 × (Nat → Int32)) (hf : f_M_align N mo_outs mo_part mo_parted mo_failed mo_counting mo_out = some z) : Met l y_m1077 ws_m1077 rm_M_align (gPre (dC, dI) [.ref a_mo] (gT cI cB cS cT) (w_M_align cI cB cS cT a_mo a_mo_out a_mo_h a_mo_v a_mo_across a_mo_down a_mo_ownAcross a_mo_ownDown a_mo_base a_mo_coefficients a_mo_before0 a_mo_draftCounts a_mo_draft a_mo_words a_mo_lengths a_mo_codes a_mo_directOf a_mo_otherOf a_mo_data a_mo_times a_mo_prediction a_mo_runBits a_mo_toCome a_mo_timesKept mo_thrown mo_width mo_height mo_many mo_unitsAcross mo_unitsDown mo_drafts mo_mask mo_first mo_last mo_before mo_bits mo_interval mo_size mo_outs mo_part mo_parted mo_failed mo_counting mo_run mo_runMany mo_comes mo_at mo_taken mo_left mo_fault mo_out) sz) (gQv (dC, dI) (gT cI cB cS cT) (w_M_align cI cB cS cT a_mo a_mo_out a_mo_h a_mo_v a_mo_across a_mo_down a_mo_ownAcross a_mo_ownDown a_mo_base a_mo_coefficients a_mo_before0 a_mo_draftCounts a_mo_draft a_mo_words a_mo_lengths a_mo_codes a_mo_directOf a_mo_otherOf a_mo_data a_mo_times a_mo_prediction a_mo_runBits a_mo_toCome a_mo_timesKept mo_thrown mo_width mo_height mo_many mo_unitsAcross mo_unitsDown mo_drafts mo_mask mo_first mo_last mo_before mo_bits mo_interval mo_size mo_outs mo_part mo_parted mo_failed mo_counting mo_run mo_runMany mo_comes mo_at mo_taken mo_left mo_fault mo_out) (w_M_align cI cB cS cT a_mo a_mo_out a_mo_h a_mo_v a_mo_across a_mo_down a_mo_ownAcross a_mo_ownDown a_mo_base a_mo_coefficients a_mo_before0 a_mo_draftCounts a_mo_draft a_mo_words a_mo_lengths a_mo_codes a_mo_directOf a_mo_otherOf a_mo_data a_mo_times a_mo_prediction a_mo_runBits a_mo_toCome a_mo_timesKept mo_thrown mo_width mo_height mo_many mo_unitsAcross mo_unitsDown mo_drafts mo_mask mo_first mo_last mo_before mo_bits mo_interval mo_size z.1 z.2.1 z.2.2.1 z.2.2.2.1 mo_counting mo_run mo_runMany mo_comes mo_at mo_taken mo_left mo_fault z.2.2.2.2) sz) 0 0 (va_A (w_M_align cI cB cS cT a_mo a_mo_out a_mo_h a_mo_v a_mo_across a_mo_down a_mo_ownAcross a_mo_ownDown a_mo_base a_mo_coefficients a_mo_before0 a_mo_draftCounts a_mo_draft a_mo_words a_mo_lengths a_mo_codes a_mo_directOf a_mo_otherOf a_mo_data a_mo_times a_mo_prediction a_mo_runBits a_mo_toCome a_mo_timesKept mo_thrown mo_width mo_height mo_many mo_unitsAcross mo_unitsDown mo_drafts mo_mask mo_first mo_last mo_before mo_bits mo_interval mo_size mo_outs mo_part mo_parted mo_failed mo_counting mo_run mo_runMany mo_comes mo_at mo_taken mo_left mo_fault mo_out) sz) := by
  refine Met.ofW (cc := prog_14_method_37_code) (maxL := 1) (ret := none) (by decide) rfl ?_
  intro p e s m args below meth c s₁ B hml hv
  obtain ⟨hargs, hsz, hP, hKN, hD0⟩ := hv
  have hK := hKN.1
  have hx := B.exec
  have hb := B.bytes
  have hr := B.returns
  have hts := atoms_spec (ws := ws_m1077) B.pre
  have hown : s.vm.findClass "ScanCoderModel" = some m.cls := findClass_of_methodNamed B.named
  have hlocks := B.notSynchronized
  have k0 := hts _ (List.mem_cons_of_mem _ tw_868)
  have n0 : ∀ w ∈ u_ws "ScanCoderModel" T_11 49, w ∈ ws_m1077 := fun w h => List.mem_cons_of_mem _ (in_11 w h)
  subst hsz
  have hD := hD0.self (sz := s.heap.size)
  obtain ⟨A, hAe⟩ : ∃ A : Nat → Prop, va_A (w_M_align cI cB cS cT a_mo a_mo_out a_mo_h a_mo_v a_mo_across a_mo_down a_mo_ownAcross a_mo_ownDown a_mo_base a_mo_coefficients a_mo_before0 a_mo_draftCounts a_mo_draft a_mo_words a_mo_lengths a_mo_codes a_mo_directOf a_mo_otherOf a_mo_data a_mo_times a_mo_prediction a_mo_runBits a_mo_toCome a_mo_timesKept mo_thrown mo_width mo_height mo_many mo_unitsAcross mo_unitsDown mo_drafts mo_mask mo_first mo_last mo_before mo_bits mo_interval mo_size mo_outs mo_part mo_parted mo_failed mo_counting mo_run mo_runMany mo_comes mo_at mo_taken mo_left mo_fault mo_out) s.heap.size = A := ⟨_, rfl⟩
  rw [hAe] at hD
  have hA : ∀ q : Nat, s.heap.size ≤ q → A q := fun q h => by rw [← hAe]; exact Or.inr h
  have hS : va_S A s.heap s.heap [] := va_S.rf
  have hl := lv_entry ([.ref a_mo]) (n := 1) (Nat.le_of_ble_eq_true rfl)
  have hfr : entryFrame m args 1 = F0 m 0 ((lg_sl ([.ref a_mo]) ++ List.replicate (1 - (lg_sl ([.ref a_mo])).length) Slot.unset).toArray) [] := by rw [hargs]; exact lg_entry_eq _ _ _
  rw [hfr]
  generalize (lg_sl ([.ref a_mo]) ++ List.replicate (1 - (lg_sl ([.ref a_mo])).length) Slot.unset).toArray = ls at hl ⊢
  have hl : lv_has ls 1 [(0, .ref a_mo)] := hl
  refine gen_Q (fun Q hQ => ?_)
  clear hfr
  have L0 : ∀  (z : Int32 × Int32 × Int32 × Int32 × (Nat → Int32)), (GW (dC, dI) A p l e (headSpec ws_m1077 rm_M_align).room s m args below meth c 0 0 Q 1 15 (w_M_align cI cB cS cT a_mo a_mo_out a_mo_h a_mo_v a_mo_across a_mo_down a_mo_ownAcross a_mo_ownDown a_mo_base a_mo_coefficients a_mo_before0 a_mo_draftCounts a_mo_draft a_mo_words a_mo_lengths a_mo_codes a_mo_directOf a_mo_otherOf a_mo_data a_mo_times a_mo_prediction a_mo_runBits a_mo_toCome a_mo_timesKept mo_thrown mo_width mo_height mo_many mo_unitsAcross mo_unitsDown mo_drafts mo_mask mo_first mo_last mo_before mo_bits mo_interval mo_size z.1 z.2.1 z.2.2.1 z.2.2.2.1 mo_counting mo_run mo_runMany mo_comes mo_at mo_taken mo_left mo_fault z.2.2.2.2) [] []) → ∀ (k : Nat) (mo_outs_0 : Int32) (mo_part_0 : Int32) (mo_parted_0 : Int32) (mo_failed_0 : Int32) (mo_out_0 : Nat → Int32), f_M_align_L0 mo_counting N k (mo_outs_0, mo_part_0, mo_parted_0, mo_failed_0, mo_out_0) = some z → GW (dC, dI) A p l e (headSpec ws_m1077 rm_M_align).room s m args below meth c 0 0 Q 1 0 (w_M_align cI cB cS cT a_mo a_mo_out a_mo_h a_mo_v a_mo_across a_mo_down a_mo_ownAcross a_mo_ownDown a_mo_base a_mo_coefficients a_mo_before0 a_mo_draftCounts a_mo_draft a_mo_words a_mo_lengths a_mo_codes a_mo_directOf a_mo_otherOf a_mo_data a_mo_times a_mo_prediction a_mo_runBits a_mo_toCome a_mo_timesKept mo_thrown mo_width mo_height mo_many mo_unitsAcross mo_unitsDown mo_drafts mo_mask mo_first mo_last mo_before mo_bits mo_interval mo_size mo_outs_0 mo_part_0 mo_parted_0 mo_failed_0 mo_counting mo_run mo_runMany mo_comes mo_at mo_taken mo_left mo_fault mo_out_0) [(0, .ref a_mo)] [] := by
    intro  z hE0 k
    induction k with
    | zero =>
      intro mo_outs_0 mo_part_0 mo_parted_0 mo_failed_0 mo_out_0 hf
      exact (it_zero hf).elim
    | succ k ih =>
      intro mo_outs_0 mo_part_0 mo_parted_0 mo_failed_0 mo_out_0 hf H locs ls hP hD hS hl
      have hf : f_M_align_L0b mo_counting N (f_M_align_L0 mo_counting N k) mo_outs_0 mo_part_0 mo_parted_0 mo_failed_0 mo_out_0 = some z := hf
      unfold f_M_align_L0b at hf
      refine lv_aload_n hx hb d_m1077_0 rfl (lv_at hl 0 rfl) ?_
      refine va_get (D := (dC, dI)) (ci := 11) (v := .int mo_parted_0) (C := "ScanCoderModel") (T := T_11) (N := 49) hx hb hts n0 hown hK hP 0 rfl rfl 34 (by decide) k0 (fun _ h9 => h9) rfl d_m1077_1 ?_
      refine lv_if_le (tgt := 15) hx hb d_m1077_4 (by decide) (fun hc => ?_) (fun hc => ?_)
      · replace hf := (if_pos hc).symm.trans hf
        obtain rfl := Option.some.inj hf
        exact hE0  H locs ls hP hD hS (lv_sub hl [] rfl)
      · replace hf := (if_neg hc).symm.trans hf
        refine lv_aload_n hx hb d_m1077_7 rfl (lv_at hl 0 rfl) ?_
        refine lv_iconst (v := (1 : Int32)) hx hb d_m1077_8 (by decide) ?_
        obtain ⟨z1, hz1, hf⟩ := ob_bind hf
        refine g_callv (wc := (w_M_bit cI cB cS cT a_mo a_mo_out a_mo_h a_mo_v a_mo_across a_mo_down a_mo_ownAcross a_mo_ownDown a_mo_base a_mo_coefficients a_mo_before0 a_mo_draftCounts a_mo_draft a_mo_words a_mo_lengths a_mo_codes a_mo_directOf a_mo_otherOf a_mo_data a_mo_times a_mo_prediction a_mo_runBits a_mo_toCome a_mo_timesKept mo_thrown mo_width mo_height mo_many mo_unitsAcross mo_unitsDown mo_drafts mo_mask mo_first mo_last mo_before mo_bits mo_interval mo_size mo_outs_0 mo_part_0 mo_parted_0 mo_failed_0 mo_counting mo_run mo_runMany mo_comes mo_at mo_taken mo_left mo_fault mo_out_0)) (w1 := (w_M_bit cI cB cS cT a_mo a_mo_out a_mo_h a_mo_v a_mo_across a_mo_down a_mo_ownAcross a_mo_ownDown a_mo_base a_mo_coefficients a_mo_before0 a_mo_draftCounts a_mo_draft a_mo_words a_mo_lengths a_mo_codes a_mo_directOf a_mo_otherOf a_mo_data a_mo_times a_mo_prediction a_mo_runBits a_mo_toCome a_mo_timesKept mo_thrown mo_width mo_height mo_many mo_unitsAcross mo_unitsDown mo_drafts mo_mask mo_first mo_last mo_before mo_bits mo_interval mo_size z1.1 z1.2.1 z1.2.2.1 z1.2.2.2.1 mo_counting mo_run mo_runMany mo_comes mo_at mo_taken mo_left mo_fault z1.2.2.2.2)) (w2 := (w_M_align cI cB cS cT a_mo a_mo_out a_mo_h a_mo_v a_mo_across a_mo_down a_mo_ownAcross a_mo_ownDown a_mo_base a_mo_coefficients a_mo_before0 a_mo_draftCounts a_mo_draft a_mo_words a_mo_lengths a_mo_codes a_mo_directOf a_mo_otherOf a_mo_data a_mo_times a_mo_prediction a_mo_runBits a_mo_toCome a_mo_timesKept mo_thrown mo_width mo_height mo_many mo_unitsAcross mo_unitsDown mo_drafts mo_mask mo_first mo_last mo_before mo_bits mo_interval mo_size z1.1 z1.2.1 z1.2.2.1 z1.2.2.2.1 mo_counting mo_run mo_runMany mo_comes mo_at mo_taken mo_left mo_fault z1.2.2.2.2)) [0, 1] [some 0, some 1] hP hD hS hA rfl rfl rfl rfl (va_runV (As := [.int (1 : Int32)]) (rest := []) ⟨hx, hb, hml, hown, hts⟩ (c_M_bit l dC dI cI cB cS cT a_mo a_mo_out a_mo_h a_mo_v a_mo_across a_mo_down a_mo_ownAcross a_mo_ownDown a_mo_base a_mo_coefficients a_mo_before0 a_mo_draftCounts a_mo_draft a_mo_words a_mo_lengths a_mo_codes a_mo_directOf a_mo_otherOf a_mo_data a_mo_times a_mo_prediction a_mo_runBits a_mo_toCome a_mo_timesKept mo_thrown mo_width mo_height mo_many mo_unitsAcross mo_unitsDown mo_drafts mo_mask mo_first mo_last mo_before mo_bits mo_interval mo_size mo_outs_0 mo_part_0 mo_parted_0 mo_failed_0 mo_counting mo_run mo_runMany mo_comes mo_at mo_taken mo_left mo_fault mo_out_0 (1 : Int32) H.size z1 hz1) ⟨(callB_of 1 hts (gi tw_1069 rfl) rfl rfl rfl (hts _ (List.mem_cons_of_mem _ tw_16)) (hts _ (List.mem_cons_of_mem _ tw_1066)) (by decide +kernel) ⟨Nat.le_of_ble_eq_true rfl, Nat.le_of_ble_eq_true rfl⟩), hts _ (List.mem_cons_of_mem _ tw_1068), hts _ (List.mem_cons_of_mem _ ts_m1069)⟩ ⟨g_blind, va_recv hK hP (ci := 11) (q0 := 0) rfl rfl, g_at hKN (g_pm hP [0, 1] rfl) (hD.sub [0, 1] (by decide) rfl)⟩ rfl rfl hl.1 rfl (lv_room (Nat.le_of_ble_eq_true rfl)) d_m1077_9 ⟨Nat.zero_le _, Nat.zero_le _⟩) (fun H locs hP hD hS => ?_)
        refine W.eq (g2 := F0 m 12 ls []) rfl ?_
        refine lv_goto (tgt := 0) hx hb d_m1077_12 (by decide) ?_
        exact ih z1.1 z1.2.1 z1.2.2.1 z1.2.2.2.1 z1.2.2.2.2 hf H locs ls hP hD hS hl
  have hgo : ∀ (H : Heap) (locs : List Loc), va_P (dC, dI) vwCl (w_M_align cI cB cS cT a_mo a_mo_out a_mo_h a_mo_v a_mo_across a_mo_down a_mo_ownAcross a_mo_ownDown a_mo_base a_mo_coefficients a_mo_before0 a_mo_draftCounts a_mo_draft a_mo_words a_mo_lengths a_mo_codes a_mo_directOf a_mo_otherOf a_mo_data a_mo_times a_mo_prediction a_mo_runBits a_mo_toCome a_mo_timesKept mo_thrown mo_width mo_height mo_many mo_unitsAcross mo_unitsDown mo_drafts mo_mask mo_first mo_last mo_before mo_bits mo_interval mo_size mo_outs mo_part mo_parted mo_failed mo_counting mo_run mo_runMany mo_comes mo_at mo_taken mo_left mo_fault mo_out) H → va_S A s.heap H locs → W p l e (headSpec ws_m1077 rm_M_align).room s m args below meth c H locs 0 0 Q (F0 m 0 ls []) := by
    intro H locs hP hS
    unfold f_M_align at hf
    obtain ⟨z2, hz2, hf⟩ := ob_bind hf
    refine L0  z2 ?_ N mo_outs mo_part mo_parted mo_failed mo_out hz2 H locs ls hP hD hS hl
    · intro H locs ls hP hD hS hl
      obtain rfl := Option.some.inj hf
      subst hQ
      subst hAe
      exact W.vret hx hb hr (fun t ht hW => ⟨⟨(), rfl, trivial, by rw [ht]; exact hP, hD⟩, hS.F ht⟩) hS.2.2 d_m1077_15
  exact hgo _ _ hP hS
