def f_M_wrong_J16 (s1_j16 : Int32) : Option (Int32 × Int32) :=
  some ((0 : Int32), s1_j16)
def f_M_wrong (p0 : Int32) (mo_fault : Int32) : Option (Int32 × Int32) :=
  if mo_fault = 0 then
    f_M_wrong_J16 p0
  else
    f_M_wrong_J16 mo_fault
abbrev w_M_wrong (cI cB cS cT : ClassId) (a_mo : Nat) (a_mo_h : Nat) (a_mo_v : Nat) (a_mo_across : Nat) (a_mo_down : Nat) (a_mo_ownAcross : Nat) (a_mo_ownDown : Nat) (a_mo_base : Nat) (a_mo_coefficients : Nat) (a_mo_before0 : Nat) (a_mo_draftCounts : Nat) (a_mo_draft : Nat) (a_mo_words : Nat) (a_mo_lengths : Nat) (a_mo_codes : Nat) (a_mo_directOf : Nat) (a_mo_otherOf : Nat) (a_mo_data : Nat) (a_mo_out : Nat) (a_mo_times : Nat) (a_mo_prediction : Nat) (a_mo_runBits : Nat) (a_mo_toCome : Nat) (a_mo_timesKept : Nat) (mo_thrown : Int32) (mo_width : Int32) (mo_height : Int32) (mo_many : Int32) (mo_unitsAcross : Int32) (mo_unitsDown : Int32) (mo_drafts : Int32) (mo_mask : Int32) (mo_first : Int32) (mo_last : Int32) (mo_before : Int32) (mo_bits : Int32) (mo_interval : Int32) (mo_size : Int32) (mo_outs : Int32) (mo_part : Int32) (mo_parted : Int32) (mo_failed : Int32) (mo_counting : Int32) (mo_run : Int32) (mo_runMany : Int32) (mo_comes : Int32) (mo_at : Int32) (mo_taken : Int32) (mo_left : Int32) (mo_fault : Int32) : va_W := [(a_mo, .inr (11, [.int mo_thrown, .int mo_width, .int mo_height, .int mo_many, .ref a_mo_h, .ref a_mo_v, .ref a_mo_across, .ref a_mo_down, .ref a_mo_ownAcross, .ref a_mo_ownDown, .ref a_mo_base, .int mo_unitsAcross, .int mo_unitsDown, .ref a_mo_coefficients, .ref a_mo_before0, .ref a_mo_draftCounts, .ref a_mo_draft, .int mo_drafts, .ref a_mo_words, .ref a_mo_lengths, .ref a_mo_codes, .ref a_mo_directOf, .ref a_mo_otherOf, .int mo_mask, .int mo_first, .int mo_last, .int mo_before, .int mo_bits, .int mo_interval, .ref a_mo_data, .int mo_size, .ref a_mo_out, .int mo_outs, .int mo_part, .int mo_parted, .int mo_failed, .int mo_counting, .ref a_mo_times, .ref a_mo_prediction, .int mo_run, .ref a_mo_runBits, .int mo_runMany, .ref a_mo_toCome, .int mo_comes, .int mo_at, .int mo_taken, .int mo_left, .int mo_fault, .ref a_mo_timesKept]))]
def rm_M_wrong : Room := { frames := 0, cells := 0, slots := 0, locals := 0 }
set_option maxHeartbeats 1000000 in
set_option maxRecDepth 100000 in
theorem c_M_wrong (l : Launch) (dC : Nat → ClassId) (dI : Nat → Nat → Nat) (cI cB cS cT : ClassId) (a_mo : Nat) (a_mo_h : Nat) (a_mo_v : Nat) (a_mo_across : Nat) (a_mo_down : Nat) (a_mo_ownAcross : Nat) (a_mo_ownDown : Nat) (a_mo_base : Nat) (a_mo_coefficients : Nat) (a_mo_before0 : Nat) (a_mo_draftCounts : Nat) (a_mo_draft : Nat) (a_mo_words : Nat) (a_mo_lengths : Nat) (a_mo_codes : Nat) (a_mo_directOf : Nat) (a_mo_otherOf : Nat) (a_mo_data : Nat) (a_mo_out : Nat) (a_mo_times : Nat) (a_mo_prediction : Nat) (a_mo_runBits : Nat) (a_mo_toCome : Nat) (a_mo_timesKept : Nat) (mo_thrown : Int32) (mo_width : Int32) (mo_height : Int32) (mo_many : Int32) (mo_unitsAcross : Int32) (mo_unitsDown : Int32) (mo_drafts : Int32) (mo_mask : Int32) (mo_first : Int32) (mo_last : Int32) (mo_before : Int32) (mo_bits : Int32) (mo_interval : Int32) (mo_size : Int32) (mo_outs : Int32) (mo_part : Int32) (mo_parted : Int32) (mo_failed : Int32) (mo_counting : Int32) (mo_run : Int32) (mo_runMany : Int32) (mo_comes : Int32) (mo_at : Int32) (mo_taken : Int32) (mo_left : Int32) (mo_fault : Int32) (p0 : Int32) (sz : Nat) (z : Int32 × Int32) (hf : f_M_wrong p0 mo_fault = some z) : Met l y_m1156 ws_m1156 rm_M_wrong (gPre (dC, dI) [.ref a_mo, .int p0] (gT cI cB cS cT) (w_M_wrong cI cB cS cT a_mo a_mo_h a_mo_v a_mo_across a_mo_down a_mo_ownAcross a_mo_ownDown a_mo_base a_mo_coefficients a_mo_before0 a_mo_draftCounts a_mo_draft a_mo_words a_mo_lengths a_mo_codes a_mo_directOf a_mo_otherOf a_mo_data a_mo_out a_mo_times a_mo_prediction a_mo_runBits a_mo_toCome a_mo_timesKept mo_thrown mo_width mo_height mo_many mo_unitsAcross mo_unitsDown mo_drafts mo_mask mo_first mo_last mo_before mo_bits mo_interval mo_size mo_outs mo_part mo_parted mo_failed mo_counting mo_run mo_runMany mo_comes mo_at mo_taken mo_left mo_fault) sz) (gQi (dC, dI) (gT cI cB cS cT) z.1 (w_M_wrong cI cB cS cT a_mo a_mo_h a_mo_v a_mo_across a_mo_down a_mo_ownAcross a_mo_ownDown a_mo_base a_mo_coefficients a_mo_before0 a_mo_draftCounts a_mo_draft a_mo_words a_mo_lengths a_mo_codes a_mo_directOf a_mo_otherOf a_mo_data a_mo_out a_mo_times a_mo_prediction a_mo_runBits a_mo_toCome a_mo_timesKept mo_thrown mo_width mo_height mo_many mo_unitsAcross mo_unitsDown mo_drafts mo_mask mo_first mo_last mo_before mo_bits mo_interval mo_size mo_outs mo_part mo_parted mo_failed mo_counting mo_run mo_runMany mo_comes mo_at mo_taken mo_left mo_fault) (w_M_wrong cI cB cS cT a_mo a_mo_h a_mo_v a_mo_across a_mo_down a_mo_ownAcross a_mo_ownDown a_mo_base a_mo_coefficients a_mo_before0 a_mo_draftCounts a_mo_draft a_mo_words a_mo_lengths a_mo_codes a_mo_directOf a_mo_otherOf a_mo_data a_mo_out a_mo_times a_mo_prediction a_mo_runBits a_mo_toCome a_mo_timesKept mo_thrown mo_width mo_height mo_many mo_unitsAcross mo_unitsDown mo_drafts mo_mask mo_first mo_last mo_before mo_bits mo_interval mo_size mo_outs mo_part mo_parted mo_failed mo_counting mo_run mo_runMany mo_comes mo_at mo_taken mo_left z.2) sz) 0 0 (va_A (w_M_wrong cI cB cS cT a_mo a_mo_h a_mo_v a_mo_across a_mo_down a_mo_ownAcross a_mo_ownDown a_mo_base a_mo_coefficients a_mo_before0 a_mo_draftCounts a_mo_draft a_mo_words a_mo_lengths a_mo_codes a_mo_directOf a_mo_otherOf a_mo_data a_mo_out a_mo_times a_mo_prediction a_mo_runBits a_mo_toCome a_mo_timesKept mo_thrown mo_width mo_height mo_many mo_unitsAcross mo_unitsDown mo_drafts mo_mask mo_first mo_last mo_before mo_bits mo_interval mo_size mo_outs mo_part mo_parted mo_failed mo_counting mo_run mo_runMany mo_comes mo_at mo_taken mo_left mo_fault) sz) := by
  refine Met.ofW (cc := prog_14_method_45_code) (maxL := 2) (ret := (some .int)) (by decide) rfl ?_
  intro p e s m args below meth c s₁ B hml hv
  obtain ⟨hargs, hsz, hP, hKN, hD0⟩ := hv
  have hK := hKN.1
  have hx := B.exec
  have hb := B.bytes
  have hr := B.returns
  have hts := atoms_spec (ws := ws_m1156) B.pre
  have hown : s.vm.findClass "ScanCoderModel" = some m.cls := findClass_of_methodNamed B.named
  have hlocks := B.notSynchronized
  have k0 := hts _ (List.mem_cons_of_mem _ tw_881)
  have n0 : ∀ w ∈ u_ws "ScanCoderModel" T_11 49, w ∈ ws_m1156 := fun w h => List.mem_cons_of_mem _ (in_11 w h)
  subst hsz
  have hD := hD0.self (sz := s.heap.size)
  obtain ⟨A, hAe⟩ : ∃ A : Nat → Prop, va_A (w_M_wrong cI cB cS cT a_mo a_mo_h a_mo_v a_mo_across a_mo_down a_mo_ownAcross a_mo_ownDown a_mo_base a_mo_coefficients a_mo_before0 a_mo_draftCounts a_mo_draft a_mo_words a_mo_lengths a_mo_codes a_mo_directOf a_mo_otherOf a_mo_data a_mo_out a_mo_times a_mo_prediction a_mo_runBits a_mo_toCome a_mo_timesKept mo_thrown mo_width mo_height mo_many mo_unitsAcross mo_unitsDown mo_drafts mo_mask mo_first mo_last mo_before mo_bits mo_interval mo_size mo_outs mo_part mo_parted mo_failed mo_counting mo_run mo_runMany mo_comes mo_at mo_taken mo_left mo_fault) s.heap.size = A := ⟨_, rfl⟩
  rw [hAe] at hD
  have hA : ∀ q : Nat, s.heap.size ≤ q → A q := fun q h => by rw [← hAe]; exact Or.inr h
  have hS : va_S A s.heap s.heap [] := va_S.rf
  have hl := lv_entry ([.ref a_mo, .int p0]) (n := 2) (Nat.le_of_ble_eq_true rfl)
  have hfr : entryFrame m args 2 = F0 m 0 ((lg_sl ([.ref a_mo, .int p0]) ++ List.replicate (2 - (lg_sl ([.ref a_mo, .int p0])).length) Slot.unset).toArray) [] := by rw [hargs]; exact lg_entry_eq _ _ _
  rw [hfr]
  generalize (lg_sl ([.ref a_mo, .int p0]) ++ List.replicate (2 - (lg_sl ([.ref a_mo, .int p0])).length) Slot.unset).toArray = ls at hl ⊢
  have hl : lv_has ls 2 [(0, .ref a_mo), (1, .int p0)] := hl
  refine gen_Q (fun Q hQ => ?_)
  clear hfr
  have J16 : ∀ (s1_j16 : Int32), f_M_wrong_J16 s1_j16 = some z → GW (dC, dI) A p l e (headSpec ws_m1156 rm_M_wrong).room s m args below meth c 0 0 Q 2 16 (w_M_wrong cI cB cS cT a_mo a_mo_h a_mo_v a_mo_across a_mo_down a_mo_ownAcross a_mo_ownDown a_mo_base a_mo_coefficients a_mo_before0 a_mo_draftCounts a_mo_draft a_mo_words a_mo_lengths a_mo_codes a_mo_directOf a_mo_otherOf a_mo_data a_mo_out a_mo_times a_mo_prediction a_mo_runBits a_mo_toCome a_mo_timesKept mo_thrown mo_width mo_height mo_many mo_unitsAcross mo_unitsDown mo_drafts mo_mask mo_first mo_last mo_before mo_bits mo_interval mo_size mo_outs mo_part mo_parted mo_failed mo_counting mo_run mo_runMany mo_comes mo_at mo_taken mo_left mo_fault) [] [.int s1_j16, .ref a_mo] := by
    intro s1_j16 hf H locs ls hP hD hS hl
    unfold f_M_wrong_J16 at hf
    refine va_put (D := (dC, dI)) (ci := 11) (v := .int s1_j16) (ty := .int) (C := "ScanCoderModel") (T := T_11) (N := 49) hx hb hts n0 ty_11 tyok_11 nm_11 hown hK hP hD hS 0 rfl rfl 47 (by decide) k0 (fun _ h9 => h9) rfl (by decide +kernel) rfl rfl (Nat.le_of_ble_eq_true rfl) d_m1156_16 (fun H locs hP hD hS => ?_)
    have hP : va_P (dC, dI) vwCl (w_M_wrong cI cB cS cT a_mo a_mo_h a_mo_v a_mo_across a_mo_down a_mo_ownAcross a_mo_ownDown a_mo_base a_mo_coefficients a_mo_before0 a_mo_draftCounts a_mo_draft a_mo_words a_mo_lengths a_mo_codes a_mo_directOf a_mo_otherOf a_mo_data a_mo_out a_mo_times a_mo_prediction a_mo_runBits a_mo_toCome a_mo_timesKept mo_thrown mo_width mo_height mo_many mo_unitsAcross mo_unitsDown mo_drafts mo_mask mo_first mo_last mo_before mo_bits mo_interval mo_size mo_outs mo_part mo_parted mo_failed mo_counting mo_run mo_runMany mo_comes mo_at mo_taken mo_left s1_j16) H := hP
    have hD : va_D A (w_M_wrong cI cB cS cT a_mo a_mo_h a_mo_v a_mo_across a_mo_down a_mo_ownAcross a_mo_ownDown a_mo_base a_mo_coefficients a_mo_before0 a_mo_draftCounts a_mo_draft a_mo_words a_mo_lengths a_mo_codes a_mo_directOf a_mo_otherOf a_mo_data a_mo_out a_mo_times a_mo_prediction a_mo_runBits a_mo_toCome a_mo_timesKept mo_thrown mo_width mo_height mo_many mo_unitsAcross mo_unitsDown mo_drafts mo_mask mo_first mo_last mo_before mo_bits mo_interval mo_size mo_outs mo_part mo_parted mo_failed mo_counting mo_run mo_runMany mo_comes mo_at mo_taken mo_left s1_j16) := hD
    refine lv_iconst (v := (0 : Int32)) hx hb d_m1156_19 (by decide) ?_
    obtain rfl := Option.some.inj hf
    subst hQ
    subst hAe
    exact W.iret (v := (0 : Int32)) hx hb hr (fun t ht hW => ⟨⟨(0 : Int32), (), rfl, rfl, by rw [ht]; exact hP, hD⟩, hS.F ht⟩) hS.2.2 d_m1156_20
  have hgo : ∀ (H : Heap) (locs : List Loc), va_P (dC, dI) vwCl (w_M_wrong cI cB cS cT a_mo a_mo_h a_mo_v a_mo_across a_mo_down a_mo_ownAcross a_mo_ownDown a_mo_base a_mo_coefficients a_mo_before0 a_mo_draftCounts a_mo_draft a_mo_words a_mo_lengths a_mo_codes a_mo_directOf a_mo_otherOf a_mo_data a_mo_out a_mo_times a_mo_prediction a_mo_runBits a_mo_toCome a_mo_timesKept mo_thrown mo_width mo_height mo_many mo_unitsAcross mo_unitsDown mo_drafts mo_mask mo_first mo_last mo_before mo_bits mo_interval mo_size mo_outs mo_part mo_parted mo_failed mo_counting mo_run mo_runMany mo_comes mo_at mo_taken mo_left mo_fault) H → va_S A s.heap H locs → W p l e (headSpec ws_m1156 rm_M_wrong).room s m args below meth c H locs 0 0 Q (F0 m 0 ls []) := by
    intro H locs hP hS
    unfold f_M_wrong at hf
    refine lv_aload_n hx hb d_m1156_0 rfl (lv_at hl 0 rfl) ?_
    refine lv_aload_n hx hb d_m1156_1 rfl (lv_at hl 0 rfl) ?_
    refine va_get (D := (dC, dI)) (ci := 11) (v := .int mo_fault) (C := "ScanCoderModel") (T := T_11) (N := 49) hx hb hts n0 hown hK hP 0 rfl rfl 47 (by decide) k0 (fun _ h9 => h9) rfl d_m1156_2 ?_
    refine lv_if_ne (tgt := 12) hx hb d_m1156_5 (by decide) (fun hc => ?_) (fun hc => ?_)
    · replace hf := (if_neg hc).symm.trans hf
      refine lv_aload_n hx hb d_m1156_12 rfl (lv_at hl 0 rfl) ?_
      refine va_get (D := (dC, dI)) (ci := 11) (v := .int mo_fault) (C := "ScanCoderModel") (T := T_11) (N := 49) hx hb hts n0 hown hK hP 0 rfl rfl 47 (by decide) k0 (fun _ h9 => h9) rfl d_m1156_13 ?_
      exact J16 mo_fault hf H locs ls hP hD hS (lv_sub hl [] rfl)
    · replace hf := (if_pos hc).symm.trans hf
      refine lv_iload_n hx hb d_m1156_8 rfl (lv_at hl 1 rfl) ?_
      refine lv_goto (tgt := 16) hx hb d_m1156_9 (by decide) ?_
      exact J16 p0 hf H locs ls hP hD hS (lv_sub hl [] rfl)
  exact hgo _ _ hP hS

def f_M_atRestart (mo_size : Int32) (mo_at : Int32) (mo_data : Nat → Int32) : Option (Int32) :=
  if mo_size ≤ (mo_at + (1 : Int32)) then
    some (0 : Int32)
  else
    if mo_at < 0 ∨ 16384 ≤ mo_at.toNatClampNeg then none else
    if ((mo_data mo_at.toNatClampNeg) &&& (255 : Int32)) = (255 : Int32) then
      if (mo_at + (1 : Int32)) < 0 ∨ 16384 ≤ (mo_at + (1 : Int32)).toNatClampNeg then none else
      if ((mo_data (mo_at + (1 : Int32)).toNatClampNeg) &&& (255 : Int32)) < (208 : Int32) then
        some (0 : Int32)
      else
        if (mo_at + (1 : Int32)) < 0 ∨ 16384 ≤ (mo_at + (1 : Int32)).toNatClampNeg then none else
        if (215 : Int32) < ((mo_data (mo_at + (1 : Int32)).toNatClampNeg) &&& (255 : Int32)) then
          some (0 : Int32)
        else
          some (1 : Int32)
    else
      some (0 : Int32)
abbrev w_M_atRestart (cI cB cS cT : ClassId) (a_mo : Nat) (a_mo_data : Nat) (a_mo_h : Nat) (a_mo_v : Nat) (a_mo_across : Nat) (a_mo_down : Nat) (a_mo_ownAcross : Nat) (a_mo_ownDown : Nat) (a_mo_base : Nat) (a_mo_coefficients : Nat) (a_mo_before0 : Nat) (a_mo_draftCounts : Nat) (a_mo_draft : Nat) (a_mo_words : Nat) (a_mo_lengths : Nat) (a_mo_codes : Nat) (a_mo_directOf : Nat) (a_mo_otherOf : Nat) (a_mo_out : Nat) (a_mo_times : Nat) (a_mo_prediction : Nat) (a_mo_runBits : Nat) (a_mo_toCome : Nat) (a_mo_timesKept : Nat) (mo_thrown : Int32) (mo_width : Int32) (mo_height : Int32) (mo_many : Int32) (mo_unitsAcross : Int32) (mo_unitsDown : Int32) (mo_drafts : Int32) (mo_mask : Int32) (mo_first : Int32) (mo_last : Int32) (mo_before : Int32) (mo_bits : Int32) (mo_interval : Int32) (mo_size : Int32) (mo_outs : Int32) (mo_part : Int32) (mo_parted : Int32) (mo_failed : Int32) (mo_counting : Int32) (mo_run : Int32) (mo_runMany : Int32) (mo_comes : Int32) (mo_at : Int32) (mo_taken : Int32) (mo_left : Int32) (mo_fault : Int32) (mo_data : Nat → Int32) : va_W := [(a_mo, .inr (11, [.int mo_thrown, .int mo_width, .int mo_height, .int mo_many, .ref a_mo_h, .ref a_mo_v, .ref a_mo_across, .ref a_mo_down, .ref a_mo_ownAcross, .ref a_mo_ownDown, .ref a_mo_base, .int mo_unitsAcross, .int mo_unitsDown, .ref a_mo_coefficients, .ref a_mo_before0, .ref a_mo_draftCounts, .ref a_mo_draft, .int mo_drafts, .ref a_mo_words, .ref a_mo_lengths, .ref a_mo_codes, .ref a_mo_directOf, .ref a_mo_otherOf, .int mo_mask, .int mo_first, .int mo_last, .int mo_before, .int mo_bits, .int mo_interval, .ref a_mo_data, .int mo_size, .ref a_mo_out, .int mo_outs, .int mo_part, .int mo_parted, .int mo_failed, .int mo_counting, .ref a_mo_times, .ref a_mo_prediction, .int mo_run, .ref a_mo_runBits, .int mo_runMany, .ref a_mo_toCome, .int mo_comes, .int mo_at, .int mo_taken, .int mo_left, .int mo_fault, .ref a_mo_timesKept])), (a_mo_data, .inl (cB, 16384, .inl mo_data))]
def rm_M_atRestart : Room := { frames := 0, cells := 0, slots := 0, locals := 0 }
set_option maxHeartbeats 1000000 in
set_option maxRecDepth 100000 in
theorem c_M_atRestart (l : Launch) (dC : Nat → ClassId) (dI : Nat → Nat → Nat) (cI cB cS cT : ClassId) (a_mo : Nat) (a_mo_data : Nat) (a_mo_h : Nat) (a_mo_v : Nat) (a_mo_across : Nat) (a_mo_down : Nat) (a_mo_ownAcross : Nat) (a_mo_ownDown : Nat) (a_mo_base : Nat) (a_mo_coefficients : Nat) (a_mo_before0 : Nat) (a_mo_draftCounts : Nat) (a_mo_draft : Nat) (a_mo_words : Nat) (a_mo_lengths : Nat) (a_mo_codes : Nat) (a_mo_directOf : Nat) (a_mo_otherOf : Nat) (a_mo_out : Nat) (a_mo_times : Nat) (a_mo_prediction : Nat) (a_mo_runBits : Nat) (a_mo_toCome : Nat) (a_mo_timesKept : Nat) (mo_thrown : Int32) (mo_width : Int32) (mo_height : Int32) (mo_many : Int32) (mo_unitsAcross : Int32) (mo_unitsDown : Int32) (mo_drafts : Int32) (mo_mask : Int32) (mo_first : Int32) (mo_last : Int32) (mo_before : Int32) (mo_bits : Int32) (mo_interval : Int32) (mo_size : Int32) (mo_outs : Int32) (mo_part : Int32) (mo_parted : Int32) (mo_failed : Int32) (mo_counting : Int32) (mo_run : Int32) (mo_runMany : Int32) (mo_comes : Int32) (mo_at : Int32) (mo_taken : Int32) (mo_left : Int32) (mo_fault : Int32) (mo_data : Nat → Int32) (z : Int32) (hf : f_M_atRestart mo_size mo_at mo_data = some z) : Met l y_m1152 ws_m1152 rm_M_atRestart (gPreP (dC, dI) [.ref a_mo] (gT cI cB cS cT) (w_M_atRestart cI cB cS cT a_mo a_mo_data a_mo_h a_mo_v a_mo_across a_mo_down a_mo_ownAcross a_mo_ownDown a_mo_base a_mo_coefficients a_mo_before0 a_mo_draftCounts a_mo_draft a_mo_words a_mo_lengths a_mo_codes a_mo_directOf a_mo_otherOf a_mo_out a_mo_times a_mo_prediction a_mo_runBits a_mo_toCome a_mo_timesKept mo_thrown mo_width mo_height mo_many mo_unitsAcross mo_unitsDown mo_drafts mo_mask mo_first mo_last mo_before mo_bits mo_interval mo_size mo_outs mo_part mo_parted mo_failed mo_counting mo_run mo_runMany mo_comes mo_at mo_taken mo_left mo_fault mo_data)) (vp_Si (fun r => r = z)) 0 0 (fun _ => False) := by
  refine Met.ofW (cc := prog_14_method_46_code) (maxL := 1) (ret := (some .boolean)) (by decide) rfl ?_
  intro p e s m args below meth c s₁ B hml hv
  obtain ⟨hargs, hP, hKN⟩ := hv
  have hK := hKN.1
  have hx := B.exec
  have hb := B.bytes
  have hr := B.returns
  have hts := atoms_spec (ws := ws_m1152) B.pre
  have hown : s.vm.findClass "ScanCoderModel" = some m.cls := findClass_of_methodNamed B.named
  have hlocks := B.notSynchronized
  have k0 := hts _ (List.mem_cons_of_mem _ tw_878)
  have k1 := hts _ (List.mem_cons_of_mem _ tw_864)
  have k2 := hts _ (List.mem_cons_of_mem _ tw_863)
  have n0 : ∀ w ∈ u_ws "ScanCoderModel" T_11 49, w ∈ ws_m1152 := fun w h => List.mem_cons_of_mem _ (in_11 w h)
  have hl := lv_entry ([.ref a_mo]) (n := 1) (Nat.le_of_ble_eq_true rfl)
  have hfr : entryFrame m args 1 = F0 m 0 ((lg_sl ([.ref a_mo]) ++ List.replicate (1 - (lg_sl ([.ref a_mo])).length) Slot.unset).toArray) [] := by rw [hargs]; exact lg_entry_eq _ _ _
  rw [hfr]
  generalize (lg_sl ([.ref a_mo]) ++ List.replicate (1 - (lg_sl ([.ref a_mo])).length) Slot.unset).toArray = ls at hl ⊢
  have hl : lv_has ls 1 [(0, .ref a_mo)] := hl
  refine gen_Q (fun Q hQ => ?_)
  clear hfr
  unfold f_M_atRestart at hf
  refine lv_aload_n hx hb d_m1152_0 rfl (lv_at hl 0 rfl) ?_
  refine va_get (D := (dC, dI)) (ci := 11) (v := .int mo_at) (C := "ScanCoderModel") (T := T_11) (N := 49) hx hb hts n0 hown hK hP 0 rfl rfl 44 (by decide) k0 (fun _ h9 => h9) rfl d_m1152_1 ?_
  refine lv_iconst (v := (1 : Int32)) hx hb d_m1152_4 (by decide) ?_
  refine lv_iadd hx hb d_m1152_5 ?_
  refine lv_aload_n hx hb d_m1152_6 rfl (lv_at hl 0 rfl) ?_
  refine va_get (D := (dC, dI)) (ci := 11) (v := .int mo_size) (C := "ScanCoderModel") (T := T_11) (N := 49) hx hb hts n0 hown hK hP 0 rfl rfl 30 (by decide) k1 (fun _ h9 => h9) rfl d_m1152_7 ?_
  refine lv_icmp_ge (tgt := 78) hx hb d_m1152_10 (by decide) (fun hc => ?_) (fun hc => ?_)
  · replace hf := (if_pos hc).symm.trans hf
    refine lv_iconst (v := (0 : Int32)) hx hb d_m1152_78 (by decide) ?_
    obtain rfl := Option.some.inj hf
    subst hQ
    exact W.zret (v := (0 : Int32)) hx hb hr (by decide) (fun t ht hW => ⟨(0 : Int32), rfl, rfl, ht⟩) (fun q h => by cases h) d_m1152_79
  · replace hf := (if_neg hc).symm.trans hf
    refine lv_aload_n hx hb d_m1152_13 rfl (lv_at hl 0 rfl) ?_
    refine va_get (D := (dC, dI)) (ci := 11) (v := .ref a_mo_data) (C := "ScanCoderModel") (T := T_11) (N := 49) hx hb hts n0 hown hK hP 0 rfl rfl 29 (by decide) k2 (fun _ h9 => h9) rfl d_m1152_14 ?_
    refine lv_aload_n hx hb d_m1152_17 rfl (lv_at hl 0 rfl) ?_
    refine va_get (D := (dC, dI)) (ci := 11) (v := .int mo_at) (C := "ScanCoderModel") (T := T_11) (N := 49) hx hb hts n0 hown hK hP 0 rfl rfl 44 (by decide) k0 (fun _ h9 => h9) rfl d_m1152_18 ?_
    obtain ⟨hi, hf⟩ := ob_if hf
    refine va_bald hx hb hK hP 1 1 rfl rfl hi d_m1152_21 ?_
    refine lv_sipush (v := (255 : Int32)) hx hb d_m1152_22 (by decide) ?_
    refine lv_iand hx hb d_m1152_25 ?_
    refine lv_sipush (v := (255 : Int32)) hx hb d_m1152_26 (by decide) ?_
    refine lv_icmp_ne (tgt := 78) hx hb d_m1152_29 (by decide) (fun hc => ?_) (fun hc => ?_)
    · replace hf := (if_neg hc).symm.trans hf
      refine lv_iconst (v := (0 : Int32)) hx hb d_m1152_78 (by decide) ?_
      obtain rfl := Option.some.inj hf
      subst hQ
      exact W.zret (v := (0 : Int32)) hx hb hr (by decide) (fun t ht hW => ⟨(0 : Int32), rfl, rfl, ht⟩) (fun q h => by cases h) d_m1152_79
    · replace hf := (if_pos hc).symm.trans hf
      refine lv_aload_n hx hb d_m1152_32 rfl (lv_at hl 0 rfl) ?_
      refine va_get (D := (dC, dI)) (ci := 11) (v := .ref a_mo_data) (C := "ScanCoderModel") (T := T_11) (N := 49) hx hb hts n0 hown hK hP 0 rfl rfl 29 (by decide) k2 (fun _ h9 => h9) rfl d_m1152_33 ?_
      refine lv_aload_n hx hb d_m1152_36 rfl (lv_at hl 0 rfl) ?_
      refine va_get (D := (dC, dI)) (ci := 11) (v := .int mo_at) (C := "ScanCoderModel") (T := T_11) (N := 49) hx hb hts n0 hown hK hP 0 rfl rfl 44 (by decide) k0 (fun _ h9 => h9) rfl d_m1152_37 ?_
      refine lv_iconst (v := (1 : Int32)) hx hb d_m1152_40 (by decide) ?_
      refine lv_iadd hx hb d_m1152_41 ?_
      obtain ⟨hi, hf⟩ := ob_if hf
      refine va_bald hx hb hK hP 1 1 rfl rfl hi d_m1152_42 ?_
      refine lv_sipush (v := (255 : Int32)) hx hb d_m1152_43 (by decide) ?_
      refine lv_iand hx hb d_m1152_46 ?_
      refine lv_sipush (v := (208 : Int32)) hx hb d_m1152_47 (by decide) ?_
      refine lv_icmp_lt (tgt := 78) hx hb d_m1152_50 (by decide) (fun hc => ?_) (fun hc => ?_)
      · replace hf := (if_pos hc).symm.trans hf
        refine lv_iconst (v := (0 : Int32)) hx hb d_m1152_78 (by decide) ?_
        obtain rfl := Option.some.inj hf
        subst hQ
        exact W.zret (v := (0 : Int32)) hx hb hr (by decide) (fun t ht hW => ⟨(0 : Int32), rfl, rfl, ht⟩) (fun q h => by cases h) d_m1152_79
      · replace hf := (if_neg hc).symm.trans hf
        refine lv_aload_n hx hb d_m1152_53 rfl (lv_at hl 0 rfl) ?_
        refine va_get (D := (dC, dI)) (ci := 11) (v := .ref a_mo_data) (C := "ScanCoderModel") (T := T_11) (N := 49) hx hb hts n0 hown hK hP 0 rfl rfl 29 (by decide) k2 (fun _ h9 => h9) rfl d_m1152_54 ?_
        refine lv_aload_n hx hb d_m1152_57 rfl (lv_at hl 0 rfl) ?_
        refine va_get (D := (dC, dI)) (ci := 11) (v := .int mo_at) (C := "ScanCoderModel") (T := T_11) (N := 49) hx hb hts n0 hown hK hP 0 rfl rfl 44 (by decide) k0 (fun _ h9 => h9) rfl d_m1152_58 ?_
        refine lv_iconst (v := (1 : Int32)) hx hb d_m1152_61 (by decide) ?_
        refine lv_iadd hx hb d_m1152_62 ?_
        obtain ⟨hi, hf⟩ := ob_if hf
        refine va_bald hx hb hK hP 1 1 rfl rfl hi d_m1152_63 ?_
        refine lv_sipush (v := (255 : Int32)) hx hb d_m1152_64 (by decide) ?_
        refine lv_iand hx hb d_m1152_67 ?_
        refine lv_sipush (v := (215 : Int32)) hx hb d_m1152_68 (by decide) ?_
        refine lv_icmp_gt (tgt := 78) hx hb d_m1152_71 (by decide) (fun hc => ?_) (fun hc => ?_)
        · replace hf := (if_pos hc).symm.trans hf
          refine lv_iconst (v := (0 : Int32)) hx hb d_m1152_78 (by decide) ?_
          obtain rfl := Option.some.inj hf
          subst hQ
          exact W.zret (v := (0 : Int32)) hx hb hr (by decide) (fun t ht hW => ⟨(0 : Int32), rfl, rfl, ht⟩) (fun q h => by cases h) d_m1152_79
        · replace hf := (if_neg hc).symm.trans hf
          refine lv_iconst (v := (1 : Int32)) hx hb d_m1152_74 (by decide) ?_
          refine lv_goto (tgt := 79) hx hb d_m1152_75 (by decide) ?_
          obtain rfl := Option.some.inj hf
          subst hQ
          exact W.zret (v := (1 : Int32)) hx hb hr (by decide) (fun t ht hW => ⟨(1 : Int32), rfl, rfl, ht⟩) (fun q h => by cases h) d_m1152_79
def f_M_take_J131 (mo_taken_j131 : Int32) (mo_left_j131 : Int32) (mo_at_j131 : Int32) (mo_fault : Int32) : Option (Int32 × Int32 × Int32 × Int32 × Int32) :=
  some ((mo_taken_j131 >>> ((mo_left_j131 - (1 : Int32)) &&& 31)) &&& (1 : Int32), mo_at_j131, mo_taken_j131, mo_left_j131 - (1 : Int32), mo_fault)
def f_M_take_J34 (mo_fault : Int32) (mo_at : Int32) (mo_taken : Int32) (mo_left : Int32) : Option (Int32 × Int32 × Int32 × Int32 × Int32) :=
  (f_M_wrong (1 : Int32) mo_fault).bind fun z1 =>
  some (z1.1, mo_at, mo_taken, mo_left, z1.2)
def f_M_take_J121 (mo_taken_j121 : Int32) (s1_j121 : Int32) (s2_j121 : Int32) (mo_fault : Int32) : Option (Int32 × Int32 × Int32 × Int32 × Int32) :=
  f_M_take_J131 mo_taken_j121 (8 : Int32) (s1_j121 + s2_j121) mo_fault
def f_M_take_J101 (mo_taken_j101 : Int32) (mo_at : Int32) (mo_fault : Int32) : Option (Int32 × Int32 × Int32 × Int32 × Int32) :=
  if mo_taken_j101 = (255 : Int32) then
    f_M_take_J121 mo_taken_j101 mo_at (2 : Int32) mo_fault
  else
    f_M_take_J121 mo_taken_j101 mo_at (1 : Int32) mo_fault
def f_M_take_J94 (mo_fault : Int32) (mo_at : Int32) (mo_taken_j94 : Int32) (mo_left : Int32) : Option (Int32 × Int32 × Int32 × Int32 × Int32) :=
  (f_M_wrong (6 : Int32) mo_fault).bind fun z3 =>
  some (z3.1, mo_at, mo_taken_j94, mo_left, z3.2)
def f_M_take (mo_size : Int32) (mo_at : Int32) (mo_taken : Int32) (mo_left : Int32) (mo_fault : Int32) (mo_data : Nat → Int32) : Option (Int32 × Int32 × Int32 × Int32 × Int32) :=
  if mo_fault ≤ 0 then
    if mo_left = 0 then
      if mo_at = mo_size then
        f_M_take_J34 mo_fault mo_at mo_taken mo_left
      else
        (f_M_atRestart mo_size mo_at mo_data).bind fun z2 =>
        if z2 = 0 then
          if mo_at < 0 ∨ 16384 ≤ mo_at.toNatClampNeg then none else
          if ((mo_data mo_at.toNatClampNeg) &&& (255 : Int32)) = (255 : Int32) then
            if (mo_at + (1 : Int32)) = mo_size then
              f_M_take_J94 mo_fault mo_at ((mo_data mo_at.toNatClampNeg) &&& (255 : Int32)) mo_left
            else
              if (mo_at + (1 : Int32)) < 0 ∨ 16384 ≤ (mo_at + (1 : Int32)).toNatClampNeg then none else
              if (mo_data (mo_at + (1 : Int32)).toNatClampNeg) = 0 then
                f_M_take_J101 ((mo_data mo_at.toNatClampNeg) &&& (255 : Int32)) mo_at mo_fault
              else
                f_M_take_J94 mo_fault mo_at ((mo_data mo_at.toNatClampNeg) &&& (255 : Int32)) mo_left
          else
            f_M_take_J101 ((mo_data mo_at.toNatClampNeg) &&& (255 : Int32)) mo_at mo_fault
        else
          f_M_take_J34 mo_fault mo_at mo_taken mo_left
    else
      f_M_take_J131 mo_taken mo_left mo_at mo_fault
  else
    some ((0 : Int32), mo_at, mo_taken, mo_left, mo_fault)
abbrev w_M_take (cI cB cS cT : ClassId) (a_mo : Nat) (a_mo_data : Nat) (a_mo_h : Nat) (a_mo_v : Nat) (a_mo_across : Nat) (a_mo_down : Nat) (a_mo_ownAcross : Nat) (a_mo_ownDown : Nat) (a_mo_base : Nat) (a_mo_coefficients : Nat) (a_mo_before0 : Nat) (a_mo_draftCounts : Nat) (a_mo_draft : Nat) (a_mo_words : Nat) (a_mo_lengths : Nat) (a_mo_codes : Nat) (a_mo_directOf : Nat) (a_mo_otherOf : Nat) (a_mo_out : Nat) (a_mo_times : Nat) (a_mo_prediction : Nat) (a_mo_runBits : Nat) (a_mo_toCome : Nat) (a_mo_timesKept : Nat) (mo_thrown : Int32) (mo_width : Int32) (mo_height : Int32) (mo_many : Int32) (mo_unitsAcross : Int32) (mo_unitsDown : Int32) (mo_drafts : Int32) (mo_mask : Int32) (mo_first : Int32) (mo_last : Int32) (mo_before : Int32) (mo_bits : Int32) (mo_interval : Int32) (mo_size : Int32) (mo_outs : Int32) (mo_part : Int32) (mo_parted : Int32) (mo_failed : Int32) (mo_counting : Int32) (mo_run : Int32) (mo_runMany : Int32) (mo_comes : Int32) (mo_at : Int32) (mo_taken : Int32) (mo_left : Int32) (mo_fault : Int32) (mo_data : Nat → Int32) : va_W := [(a_mo, .inr (11, [.int mo_thrown, .int mo_width, .int mo_height, .int mo_many, .ref a_mo_h, .ref a_mo_v, .ref a_mo_across, .ref a_mo_down, .ref a_mo_ownAcross, .ref a_mo_ownDown, .ref a_mo_base, .int mo_unitsAcross, .int mo_unitsDown, .ref a_mo_coefficients, .ref a_mo_before0, .ref a_mo_draftCounts, .ref a_mo_draft, .int mo_drafts, .ref a_mo_words, .ref a_mo_lengths, .ref a_mo_codes, .ref a_mo_directOf, .ref a_mo_otherOf, .int mo_mask, .int mo_first, .int mo_last, .int mo_before, .int mo_bits, .int mo_interval, .ref a_mo_data, .int mo_size, .ref a_mo_out, .int mo_outs, .int mo_part, .int mo_parted, .int mo_failed, .int mo_counting, .ref a_mo_times, .ref a_mo_prediction, .int mo_run, .ref a_mo_runBits, .int mo_runMany, .ref a_mo_toCome, .int mo_comes, .int mo_at, .int mo_taken, .int mo_left, .int mo_fault, .ref a_mo_timesKept])), (a_mo_data, .inl (cB, 16384, .inl mo_data))]
def rm_M_take : Room := { frames := 1, cells := 0, slots := 0, locals := 21 }
set_option maxHeartbeats 1000000 in
set_option maxRecDepth 100000 in
theorem c_M_take (l : Launch) (dC : Nat → ClassId) (dI : Nat → Nat → Nat) (cI cB cS cT : ClassId) (a_mo : Nat) (a_mo_data : Nat) (a_mo_h : Nat) (a_mo_v : Nat) (a_mo_across : Nat) (a_mo_down : Nat) (a_mo_ownAcross : Nat) (a_mo_ownDown : Nat) (a_mo_base : Nat) (a_mo_coefficients : Nat) (a_mo_before0 : Nat) (a_mo_draftCounts : Nat) (a_mo_draft : Nat) (a_mo_words : Nat) (a_mo_lengths : Nat) (a_mo_codes : Nat) (a_mo_directOf : Nat) (a_mo_otherOf : Nat) (a_mo_out : Nat) (a_mo_times : Nat) (a_mo_prediction : Nat) (a_mo_runBits : Nat) (a_mo_toCome : Nat) (a_mo_timesKept : Nat) (mo_thrown : Int32) (mo_width : Int32) (mo_height : Int32) (mo_many : Int32) (mo_unitsAcross : Int32) (mo_unitsDown : Int32) (mo_drafts : Int32) (mo_mask : Int32) (mo_first : Int32) (mo_last : Int32) (mo_before : Int32) (mo_bits : Int32) (mo_interval : Int32) (mo_size : Int32) (mo_outs : Int32) (mo_part : Int32) (mo_parted : Int32) (mo_failed : Int32) (mo_counting : Int32) (mo_run : Int32) (mo_runMany : Int32) (mo_comes : Int32) (mo_at : Int32) (mo_taken : Int32) (mo_left : Int32) (mo_fault : Int32) (mo_data : Nat → Int32) (sz : Nat) (z : Int32 × Int32 × Int32 × Int32 × Int32) (hf : f_M_take mo_size mo_at mo_taken mo_left mo_fault mo_data = some z) : Met l y_m1168 ws_m1168 rm_M_take (gPre (dC, dI) [.ref a_mo] (gT cI cB cS cT) (w_M_take cI cB cS cT a_mo a_mo_data a_mo_h a_mo_v a_mo_across a_mo_down a_mo_ownAcross a_mo_ownDown a_mo_base a_mo_coefficients a_mo_before0 a_mo_draftCounts a_mo_draft a_mo_words a_mo_lengths a_mo_codes a_mo_directOf a_mo_otherOf a_mo_out a_mo_times a_mo_prediction a_mo_runBits a_mo_toCome a_mo_timesKept mo_thrown mo_width mo_height mo_many mo_unitsAcross mo_unitsDown mo_drafts mo_mask mo_first mo_last mo_before mo_bits mo_interval mo_size mo_outs mo_part mo_parted mo_failed mo_counting mo_run mo_runMany mo_comes mo_at mo_taken mo_left mo_fault mo_data) sz) (gQi (dC, dI) (gT cI cB cS cT) z.1 (w_M_take cI cB cS cT a_mo a_mo_data a_mo_h a_mo_v a_mo_across a_mo_down a_mo_ownAcross a_mo_ownDown a_mo_base a_mo_coefficients a_mo_before0 a_mo_draftCounts a_mo_draft a_mo_words a_mo_lengths a_mo_codes a_mo_directOf a_mo_otherOf a_mo_out a_mo_times a_mo_prediction a_mo_runBits a_mo_toCome a_mo_timesKept mo_thrown mo_width mo_height mo_many mo_unitsAcross mo_unitsDown mo_drafts mo_mask mo_first mo_last mo_before mo_bits mo_interval mo_size mo_outs mo_part mo_parted mo_failed mo_counting mo_run mo_runMany mo_comes mo_at mo_taken mo_left mo_fault mo_data) (w_M_take cI cB cS cT a_mo a_mo_data a_mo_h a_mo_v a_mo_across a_mo_down a_mo_ownAcross a_mo_ownDown a_mo_base a_mo_coefficients a_mo_before0 a_mo_draftCounts a_mo_draft a_mo_words a_mo_lengths a_mo_codes a_mo_directOf a_mo_otherOf a_mo_out a_mo_times a_mo_prediction a_mo_runBits a_mo_toCome a_mo_timesKept mo_thrown mo_width mo_height mo_many mo_unitsAcross mo_unitsDown mo_drafts mo_mask mo_first mo_last mo_before mo_bits mo_interval mo_size mo_outs mo_part mo_parted mo_failed mo_counting mo_run mo_runMany mo_comes z.2.1 z.2.2.1 z.2.2.2.1 z.2.2.2.2 mo_data) sz) 0 0 (va_A (w_M_take cI cB cS cT a_mo a_mo_data a_mo_h a_mo_v a_mo_across a_mo_down a_mo_ownAcross a_mo_ownDown a_mo_base a_mo_coefficients a_mo_before0 a_mo_draftCounts a_mo_draft a_mo_words a_mo_lengths a_mo_codes a_mo_directOf a_mo_otherOf a_mo_out a_mo_times a_mo_prediction a_mo_runBits a_mo_toCome a_mo_timesKept mo_thrown mo_width mo_height mo_many mo_unitsAcross mo_unitsDown mo_drafts mo_mask mo_first mo_last mo_before mo_bits mo_interval mo_size mo_outs mo_part mo_parted mo_failed mo_counting mo_run mo_runMany mo_comes mo_at mo_taken mo_left mo_fault mo_data) sz) := by
  refine Met.ofW (cc := prog_14_method_47_code) (maxL := 1) (ret := (some .int)) (by decide) rfl ?_
  intro p e s m args below meth c s₁ B hml hv
  obtain ⟨hargs, hsz, hP, hKN, hD0⟩ := hv
  have hK := hKN.1
  have hx := B.exec
  have hb := B.bytes
  have hr := B.returns
  have hts := atoms_spec (ws := ws_m1168) B.pre
  have hown : s.vm.findClass "ScanCoderModel" = some m.cls := findClass_of_methodNamed B.named
  have hlocks := B.notSynchronized
  have k0 := hts _ (List.mem_cons_of_mem _ tw_881)
  have k1 := hts _ (List.mem_cons_of_mem _ tw_880)
  have k2 := hts _ (List.mem_cons_of_mem _ tw_879)
  have k3 := hts _ (List.mem_cons_of_mem _ tw_878)
  have k4 := hts _ (List.mem_cons_of_mem _ tw_864)
  have k5 := hts _ (List.mem_cons_of_mem _ tw_863)
  have n0 : ∀ w ∈ u_ws "ScanCoderModel" T_11 49, w ∈ ws_m1168 := fun w h => List.mem_cons_of_mem _ (in_11 w h)
  subst hsz
  have hD := hD0.self (sz := s.heap.size)
  obtain ⟨A, hAe⟩ : ∃ A : Nat → Prop, va_A (w_M_take cI cB cS cT a_mo a_mo_data a_mo_h a_mo_v a_mo_across a_mo_down a_mo_ownAcross a_mo_ownDown a_mo_base a_mo_coefficients a_mo_before0 a_mo_draftCounts a_mo_draft a_mo_words a_mo_lengths a_mo_codes a_mo_directOf a_mo_otherOf a_mo_out a_mo_times a_mo_prediction a_mo_runBits a_mo_toCome a_mo_timesKept mo_thrown mo_width mo_height mo_many mo_unitsAcross mo_unitsDown mo_drafts mo_mask mo_first mo_last mo_before mo_bits mo_interval mo_size mo_outs mo_part mo_parted mo_failed mo_counting mo_run mo_runMany mo_comes mo_at mo_taken mo_left mo_fault mo_data) s.heap.size = A := ⟨_, rfl⟩
  rw [hAe] at hD
  have hA : ∀ q : Nat, s.heap.size ≤ q → A q := fun q h => by rw [← hAe]; exact Or.inr h
  have hS : va_S A s.heap s.heap [] := va_S.rf
  have hl := lv_entry ([.ref a_mo]) (n := 1) (Nat.le_of_ble_eq_true rfl)
  have hfr : entryFrame m args 1 = F0 m 0 ((lg_sl ([.ref a_mo]) ++ List.replicate (1 - (lg_sl ([.ref a_mo])).length) Slot.unset).toArray) [] := by rw [hargs]; exact lg_entry_eq _ _ _
  rw [hfr]
  generalize (lg_sl ([.ref a_mo]) ++ List.replicate (1 - (lg_sl ([.ref a_mo])).length) Slot.unset).toArray = ls at hl ⊢
  have hl : lv_has ls 1 [(0, .ref a_mo)] := hl
  refine gen_Q (fun Q hQ => ?_)
  clear hfr
  have J131 : ∀ (mo_at_j131 : Int32) (mo_taken_j131 : Int32) (mo_left_j131 : Int32), f_M_take_J131 mo_taken_j131 mo_left_j131 mo_at_j131 mo_fault = some z → GW (dC, dI) A p l e (headSpec ws_m1168 rm_M_take).room s m args below meth c 0 0 Q 1 131 (w_M_take cI cB cS cT a_mo a_mo_data a_mo_h a_mo_v a_mo_across a_mo_down a_mo_ownAcross a_mo_ownDown a_mo_base a_mo_coefficients a_mo_before0 a_mo_draftCounts a_mo_draft a_mo_words a_mo_lengths a_mo_codes a_mo_directOf a_mo_otherOf a_mo_out a_mo_times a_mo_prediction a_mo_runBits a_mo_toCome a_mo_timesKept mo_thrown mo_width mo_height mo_many mo_unitsAcross mo_unitsDown mo_drafts mo_mask mo_first mo_last mo_before mo_bits mo_interval mo_size mo_outs mo_part mo_parted mo_failed mo_counting mo_run mo_runMany mo_comes mo_at_j131 mo_taken_j131 mo_left_j131 mo_fault mo_data) [(0, .ref a_mo)] [] := by
    intro mo_at_j131 mo_taken_j131 mo_left_j131 hf H locs ls hP hD hS hl
    unfold f_M_take_J131 at hf
    refine lv_aload_n hx hb d_m1168_131 rfl (lv_at hl 0 rfl) ?_
    refine lv_dup hx hb d_m1168_132 rfl ?_
    refine va_get (D := (dC, dI)) (ci := 11) (v := .int mo_left_j131) (C := "ScanCoderModel") (T := T_11) (N := 49) hx hb hts n0 hown hK hP 0 rfl rfl 46 (by decide) k1 (fun _ h9 => h9) rfl d_m1168_133 ?_
    refine lv_iconst (v := (1 : Int32)) hx hb d_m1168_136 (by decide) ?_
    refine lv_isub hx hb d_m1168_137 ?_
    refine va_put (D := (dC, dI)) (ci := 11) (v := .int (mo_left_j131 - (1 : Int32))) (ty := .int) (C := "ScanCoderModel") (T := T_11) (N := 49) hx hb hts n0 ty_11 tyok_11 nm_11 hown hK hP hD hS 0 rfl rfl 46 (by decide) k1 (fun _ h9 => h9) rfl (by decide +kernel) rfl rfl (Nat.le_of_ble_eq_true rfl) d_m1168_138 (fun H locs hP hD hS => ?_)
    have hP : va_P (dC, dI) vwCl (w_M_take cI cB cS cT a_mo a_mo_data a_mo_h a_mo_v a_mo_across a_mo_down a_mo_ownAcross a_mo_ownDown a_mo_base a_mo_coefficients a_mo_before0 a_mo_draftCounts a_mo_draft a_mo_words a_mo_lengths a_mo_codes a_mo_directOf a_mo_otherOf a_mo_out a_mo_times a_mo_prediction a_mo_runBits a_mo_toCome a_mo_timesKept mo_thrown mo_width mo_height mo_many mo_unitsAcross mo_unitsDown mo_drafts mo_mask mo_first mo_last mo_before mo_bits mo_interval mo_size mo_outs mo_part mo_parted mo_failed mo_counting mo_run mo_runMany mo_comes mo_at_j131 mo_taken_j131 (mo_left_j131 - (1 : Int32)) mo_fault mo_data) H := hP
    have hD : va_D A (w_M_take cI cB cS cT a_mo a_mo_data a_mo_h a_mo_v a_mo_across a_mo_down a_mo_ownAcross a_mo_ownDown a_mo_base a_mo_coefficients a_mo_before0 a_mo_draftCounts a_mo_draft a_mo_words a_mo_lengths a_mo_codes a_mo_directOf a_mo_otherOf a_mo_out a_mo_times a_mo_prediction a_mo_runBits a_mo_toCome a_mo_timesKept mo_thrown mo_width mo_height mo_many mo_unitsAcross mo_unitsDown mo_drafts mo_mask mo_first mo_last mo_before mo_bits mo_interval mo_size mo_outs mo_part mo_parted mo_failed mo_counting mo_run mo_runMany mo_comes mo_at_j131 mo_taken_j131 (mo_left_j131 - (1 : Int32)) mo_fault mo_data) := hD
    refine lv_aload_n hx hb d_m1168_141 rfl (lv_at hl 0 rfl) ?_
    refine va_get (D := (dC, dI)) (ci := 11) (v := .int mo_taken_j131) (C := "ScanCoderModel") (T := T_11) (N := 49) hx hb hts n0 hown hK hP 0 rfl rfl 45 (by decide) k2 (fun _ h9 => h9) rfl d_m1168_142 ?_
    refine lv_aload_n hx hb d_m1168_145 rfl (lv_at hl 0 rfl) ?_
    refine va_get (D := (dC, dI)) (ci := 11) (v := .int (mo_left_j131 - (1 : Int32))) (C := "ScanCoderModel") (T := T_11) (N := 49) hx hb hts n0 hown hK hP 0 rfl rfl 46 (by decide) k1 (fun _ h9 => h9) rfl d_m1168_146 ?_
    refine lv_ishr hx hb d_m1168_149 ?_
    refine lv_iconst (v := (1 : Int32)) hx hb d_m1168_150 (by decide) ?_
    refine lv_iand hx hb d_m1168_151 ?_
    obtain rfl := Option.some.inj hf
    subst hQ
    subst hAe
    exact W.iret (v := (mo_taken_j131 >>> ((mo_left_j131 - (1 : Int32)) &&& 31)) &&& (1 : Int32)) hx hb hr (fun t ht hW => ⟨⟨(mo_taken_j131 >>> ((mo_left_j131 - (1 : Int32)) &&& 31)) &&& (1 : Int32), (), rfl, rfl, by rw [ht]; exact hP, hD⟩, hS.F ht⟩) hS.2.2 d_m1168_152
  have J34 : ∀ (_ : Unit), f_M_take_J34 mo_fault mo_at mo_taken mo_left = some z → GW (dC, dI) A p l e (headSpec ws_m1168 rm_M_take).room s m args below meth c 0 0 Q 1 34 (w_M_take cI cB cS cT a_mo a_mo_data a_mo_h a_mo_v a_mo_across a_mo_down a_mo_ownAcross a_mo_ownDown a_mo_base a_mo_coefficients a_mo_before0 a_mo_draftCounts a_mo_draft a_mo_words a_mo_lengths a_mo_codes a_mo_directOf a_mo_otherOf a_mo_out a_mo_times a_mo_prediction a_mo_runBits a_mo_toCome a_mo_timesKept mo_thrown mo_width mo_height mo_many mo_unitsAcross mo_unitsDown mo_drafts mo_mask mo_first mo_last mo_before mo_bits mo_interval mo_size mo_outs mo_part mo_parted mo_failed mo_counting mo_run mo_runMany mo_comes mo_at mo_taken mo_left mo_fault mo_data) [(0, .ref a_mo)] [] := by
    intro _ hf H locs ls hP hD hS hl
    unfold f_M_take_J34 at hf
    refine lv_aload_n hx hb d_m1168_34 rfl (lv_at hl 0 rfl) ?_
    refine lv_iconst (v := (1 : Int32)) hx hb d_m1168_35 (by decide) ?_
    obtain ⟨z1, hz1, hf⟩ := ob_bind hf
    refine g_calli (wc := (w_M_wrong cI cB cS cT a_mo a_mo_h a_mo_v a_mo_across a_mo_down a_mo_ownAcross a_mo_ownDown a_mo_base a_mo_coefficients a_mo_before0 a_mo_draftCounts a_mo_draft a_mo_words a_mo_lengths a_mo_codes a_mo_directOf a_mo_otherOf a_mo_data a_mo_out a_mo_times a_mo_prediction a_mo_runBits a_mo_toCome a_mo_timesKept mo_thrown mo_width mo_height mo_many mo_unitsAcross mo_unitsDown mo_drafts mo_mask mo_first mo_last mo_before mo_bits mo_interval mo_size mo_outs mo_part mo_parted mo_failed mo_counting mo_run mo_runMany mo_comes mo_at mo_taken mo_left mo_fault)) (w1 := (w_M_wrong cI cB cS cT a_mo a_mo_h a_mo_v a_mo_across a_mo_down a_mo_ownAcross a_mo_ownDown a_mo_base a_mo_coefficients a_mo_before0 a_mo_draftCounts a_mo_draft a_mo_words a_mo_lengths a_mo_codes a_mo_directOf a_mo_otherOf a_mo_data a_mo_out a_mo_times a_mo_prediction a_mo_runBits a_mo_toCome a_mo_timesKept mo_thrown mo_width mo_height mo_many mo_unitsAcross mo_unitsDown mo_drafts mo_mask mo_first mo_last mo_before mo_bits mo_interval mo_size mo_outs mo_part mo_parted mo_failed mo_counting mo_run mo_runMany mo_comes mo_at mo_taken mo_left z1.2)) (w2 := (w_M_take cI cB cS cT a_mo a_mo_data a_mo_h a_mo_v a_mo_across a_mo_down a_mo_ownAcross a_mo_ownDown a_mo_base a_mo_coefficients a_mo_before0 a_mo_draftCounts a_mo_draft a_mo_words a_mo_lengths a_mo_codes a_mo_directOf a_mo_otherOf a_mo_out a_mo_times a_mo_prediction a_mo_runBits a_mo_toCome a_mo_timesKept mo_thrown mo_width mo_height mo_many mo_unitsAcross mo_unitsDown mo_drafts mo_mask mo_first mo_last mo_before mo_bits mo_interval mo_size mo_outs mo_part mo_parted mo_failed mo_counting mo_run mo_runMany mo_comes mo_at mo_taken mo_left z1.2 mo_data)) [0] [some 0, none] hP hD hS hA rfl rfl rfl rfl (va_runV (As := [.int (1 : Int32)]) (rest := []) ⟨hx, hb, hml, hown, hts⟩ (c_M_wrong l dC dI cI cB cS cT a_mo a_mo_h a_mo_v a_mo_across a_mo_down a_mo_ownAcross a_mo_ownDown a_mo_base a_mo_coefficients a_mo_before0 a_mo_draftCounts a_mo_draft a_mo_words a_mo_lengths a_mo_codes a_mo_directOf a_mo_otherOf a_mo_data a_mo_out a_mo_times a_mo_prediction a_mo_runBits a_mo_toCome a_mo_timesKept mo_thrown mo_width mo_height mo_many mo_unitsAcross mo_unitsDown mo_drafts mo_mask mo_first mo_last mo_before mo_bits mo_interval mo_size mo_outs mo_part mo_parted mo_failed mo_counting mo_run mo_runMany mo_comes mo_at mo_taken mo_left mo_fault (1 : Int32) H.size z1 hz1) ⟨(callB_of 1 hts (gi tw_1156 rfl) rfl rfl rfl (hts _ (List.mem_cons_of_mem _ tw_16)) (hts _ (List.mem_cons_of_mem _ tw_1153)) (by decide +kernel) ⟨Nat.le_of_ble_eq_true rfl, Nat.le_of_ble_eq_true rfl⟩), hts _ (List.mem_cons_of_mem _ tw_1155), hts _ (List.mem_cons_of_mem _ ts_m1156)⟩ ⟨g_blind, va_recv hK hP (ci := 11) (q0 := 0) rfl rfl, g_at hKN (g_pm hP [0] rfl) (hD.sub [0] (by decide) rfl)⟩ rfl rfl hl.1 rfl (lv_room (Nat.le_of_ble_eq_true rfl)) d_m1168_36 ⟨Nat.zero_le _, Nat.zero_le _⟩) (fun H locs hP hD hS => ?_)
    refine W.eq (g2 := F0 m 39 ls [.int z1.1]) rfl ?_
    obtain rfl := Option.some.inj hf
    subst hQ
    subst hAe
    exact W.iret (v := z1.1) hx hb hr (fun t ht hW => ⟨⟨z1.1, (), rfl, rfl, by rw [ht]; exact hP, hD⟩, hS.F ht⟩) hS.2.2 d_m1168_39
  have J121 : ∀ (mo_taken_j121 : Int32) (s1_j121 : Int32) (s2_j121 : Int32), f_M_take_J121 mo_taken_j121 s1_j121 s2_j121 mo_fault = some z → GW (dC, dI) A p l e (headSpec ws_m1168 rm_M_take).room s m args below meth c 0 0 Q 1 121 (w_M_take cI cB cS cT a_mo a_mo_data a_mo_h a_mo_v a_mo_across a_mo_down a_mo_ownAcross a_mo_ownDown a_mo_base a_mo_coefficients a_mo_before0 a_mo_draftCounts a_mo_draft a_mo_words a_mo_lengths a_mo_codes a_mo_directOf a_mo_otherOf a_mo_out a_mo_times a_mo_prediction a_mo_runBits a_mo_toCome a_mo_timesKept mo_thrown mo_width mo_height mo_many mo_unitsAcross mo_unitsDown mo_drafts mo_mask mo_first mo_last mo_before mo_bits mo_interval mo_size mo_outs mo_part mo_parted mo_failed mo_counting mo_run mo_runMany mo_comes mo_at mo_taken_j121 mo_left mo_fault mo_data) [(0, .ref a_mo)] [.int s2_j121, .int s1_j121, .ref a_mo] := by
    intro mo_taken_j121 s1_j121 s2_j121 hf H locs ls hP hD hS hl
    unfold f_M_take_J121 at hf
    refine lv_iadd hx hb d_m1168_121 ?_
    refine va_put (D := (dC, dI)) (ci := 11) (v := .int (s1_j121 + s2_j121)) (ty := .int) (C := "ScanCoderModel") (T := T_11) (N := 49) hx hb hts n0 ty_11 tyok_11 nm_11 hown hK hP hD hS 0 rfl rfl 44 (by decide) k3 (fun _ h9 => h9) rfl (by decide +kernel) rfl rfl (Nat.le_of_ble_eq_true rfl) d_m1168_122 (fun H locs hP hD hS => ?_)
    have hP : va_P (dC, dI) vwCl (w_M_take cI cB cS cT a_mo a_mo_data a_mo_h a_mo_v a_mo_across a_mo_down a_mo_ownAcross a_mo_ownDown a_mo_base a_mo_coefficients a_mo_before0 a_mo_draftCounts a_mo_draft a_mo_words a_mo_lengths a_mo_codes a_mo_directOf a_mo_otherOf a_mo_out a_mo_times a_mo_prediction a_mo_runBits a_mo_toCome a_mo_timesKept mo_thrown mo_width mo_height mo_many mo_unitsAcross mo_unitsDown mo_drafts mo_mask mo_first mo_last mo_before mo_bits mo_interval mo_size mo_outs mo_part mo_parted mo_failed mo_counting mo_run mo_runMany mo_comes (s1_j121 + s2_j121) mo_taken_j121 mo_left mo_fault mo_data) H := hP
    have hD : va_D A (w_M_take cI cB cS cT a_mo a_mo_data a_mo_h a_mo_v a_mo_across a_mo_down a_mo_ownAcross a_mo_ownDown a_mo_base a_mo_coefficients a_mo_before0 a_mo_draftCounts a_mo_draft a_mo_words a_mo_lengths a_mo_codes a_mo_directOf a_mo_otherOf a_mo_out a_mo_times a_mo_prediction a_mo_runBits a_mo_toCome a_mo_timesKept mo_thrown mo_width mo_height mo_many mo_unitsAcross mo_unitsDown mo_drafts mo_mask mo_first mo_last mo_before mo_bits mo_interval mo_size mo_outs mo_part mo_parted mo_failed mo_counting mo_run mo_runMany mo_comes (s1_j121 + s2_j121) mo_taken_j121 mo_left mo_fault mo_data) := hD
    refine lv_aload_n hx hb d_m1168_125 rfl (lv_at hl 0 rfl) ?_
    refine lv_bipush (v := (8 : Int32)) hx hb d_m1168_126 (by decide) ?_
    refine va_put (D := (dC, dI)) (ci := 11) (v := .int (8 : Int32)) (ty := .int) (C := "ScanCoderModel") (T := T_11) (N := 49) hx hb hts n0 ty_11 tyok_11 nm_11 hown hK hP hD hS 0 rfl rfl 46 (by decide) k1 (fun _ h9 => h9) rfl (by decide +kernel) rfl rfl (Nat.le_of_ble_eq_true rfl) d_m1168_128 (fun H locs hP hD hS => ?_)
    have hP : va_P (dC, dI) vwCl (w_M_take cI cB cS cT a_mo a_mo_data a_mo_h a_mo_v a_mo_across a_mo_down a_mo_ownAcross a_mo_ownDown a_mo_base a_mo_coefficients a_mo_before0 a_mo_draftCounts a_mo_draft a_mo_words a_mo_lengths a_mo_codes a_mo_directOf a_mo_otherOf a_mo_out a_mo_times a_mo_prediction a_mo_runBits a_mo_toCome a_mo_timesKept mo_thrown mo_width mo_height mo_many mo_unitsAcross mo_unitsDown mo_drafts mo_mask mo_first mo_last mo_before mo_bits mo_interval mo_size mo_outs mo_part mo_parted mo_failed mo_counting mo_run mo_runMany mo_comes (s1_j121 + s2_j121) mo_taken_j121 (8 : Int32) mo_fault mo_data) H := hP
    have hD : va_D A (w_M_take cI cB cS cT a_mo a_mo_data a_mo_h a_mo_v a_mo_across a_mo_down a_mo_ownAcross a_mo_ownDown a_mo_base a_mo_coefficients a_mo_before0 a_mo_draftCounts a_mo_draft a_mo_words a_mo_lengths a_mo_codes a_mo_directOf a_mo_otherOf a_mo_out a_mo_times a_mo_prediction a_mo_runBits a_mo_toCome a_mo_timesKept mo_thrown mo_width mo_height mo_many mo_unitsAcross mo_unitsDown mo_drafts mo_mask mo_first mo_last mo_before mo_bits mo_interval mo_size mo_outs mo_part mo_parted mo_failed mo_counting mo_run mo_runMany mo_comes (s1_j121 + s2_j121) mo_taken_j121 (8 : Int32) mo_fault mo_data) := hD
    exact J131 (s1_j121 + s2_j121) mo_taken_j121 (8 : Int32) hf H locs ls hP hD hS hl
  have J101 : ∀ (mo_taken_j101 : Int32), f_M_take_J101 mo_taken_j101 mo_at mo_fault = some z → GW (dC, dI) A p l e (headSpec ws_m1168 rm_M_take).room s m args below meth c 0 0 Q 1 101 (w_M_take cI cB cS cT a_mo a_mo_data a_mo_h a_mo_v a_mo_across a_mo_down a_mo_ownAcross a_mo_ownDown a_mo_base a_mo_coefficients a_mo_before0 a_mo_draftCounts a_mo_draft a_mo_words a_mo_lengths a_mo_codes a_mo_directOf a_mo_otherOf a_mo_out a_mo_times a_mo_prediction a_mo_runBits a_mo_toCome a_mo_timesKept mo_thrown mo_width mo_height mo_many mo_unitsAcross mo_unitsDown mo_drafts mo_mask mo_first mo_last mo_before mo_bits mo_interval mo_size mo_outs mo_part mo_parted mo_failed mo_counting mo_run mo_runMany mo_comes mo_at mo_taken_j101 mo_left mo_fault mo_data) [(0, .ref a_mo)] [] := by
    intro mo_taken_j101 hf H locs ls hP hD hS hl
    unfold f_M_take_J101 at hf
    refine lv_aload_n hx hb d_m1168_101 rfl (lv_at hl 0 rfl) ?_
    refine lv_dup hx hb d_m1168_102 rfl ?_
    refine va_get (D := (dC, dI)) (ci := 11) (v := .int mo_at) (C := "ScanCoderModel") (T := T_11) (N := 49) hx hb hts n0 hown hK hP 0 rfl rfl 44 (by decide) k3 (fun _ h9 => h9) rfl d_m1168_103 ?_
    refine lv_aload_n hx hb d_m1168_106 rfl (lv_at hl 0 rfl) ?_
    refine va_get (D := (dC, dI)) (ci := 11) (v := .int mo_taken_j101) (C := "ScanCoderModel") (T := T_11) (N := 49) hx hb hts n0 hown hK hP 0 rfl rfl 45 (by decide) k2 (fun _ h9 => h9) rfl d_m1168_107 ?_
    refine lv_sipush (v := (255 : Int32)) hx hb d_m1168_110 (by decide) ?_
    refine lv_icmp_ne (tgt := 120) hx hb d_m1168_113 (by decide) (fun hc => ?_) (fun hc => ?_)
    · replace hf := (if_neg hc).symm.trans hf
      refine lv_iconst (v := (1 : Int32)) hx hb d_m1168_120 (by decide) ?_
      exact J121 mo_taken_j101 mo_at (1 : Int32) hf H locs ls hP hD hS hl
    · replace hf := (if_pos hc).symm.trans hf
      refine lv_iconst (v := (2 : Int32)) hx hb d_m1168_116 (by decide) ?_
      refine lv_goto (tgt := 121) hx hb d_m1168_117 (by decide) ?_
      exact J121 mo_taken_j101 mo_at (2 : Int32) hf H locs ls hP hD hS hl
  have J94 : ∀ (mo_taken_j94 : Int32), f_M_take_J94 mo_fault mo_at mo_taken_j94 mo_left = some z → GW (dC, dI) A p l e (headSpec ws_m1168 rm_M_take).room s m args below meth c 0 0 Q 1 94 (w_M_take cI cB cS cT a_mo a_mo_data a_mo_h a_mo_v a_mo_across a_mo_down a_mo_ownAcross a_mo_ownDown a_mo_base a_mo_coefficients a_mo_before0 a_mo_draftCounts a_mo_draft a_mo_words a_mo_lengths a_mo_codes a_mo_directOf a_mo_otherOf a_mo_out a_mo_times a_mo_prediction a_mo_runBits a_mo_toCome a_mo_timesKept mo_thrown mo_width mo_height mo_many mo_unitsAcross mo_unitsDown mo_drafts mo_mask mo_first mo_last mo_before mo_bits mo_interval mo_size mo_outs mo_part mo_parted mo_failed mo_counting mo_run mo_runMany mo_comes mo_at mo_taken_j94 mo_left mo_fault mo_data) [(0, .ref a_mo)] [] := by
    intro mo_taken_j94 hf H locs ls hP hD hS hl
    unfold f_M_take_J94 at hf
    refine lv_aload_n hx hb d_m1168_94 rfl (lv_at hl 0 rfl) ?_
    refine lv_bipush (v := (6 : Int32)) hx hb d_m1168_95 (by decide) ?_
    obtain ⟨z3, hz3, hf⟩ := ob_bind hf
    refine g_calli (wc := (w_M_wrong cI cB cS cT a_mo a_mo_h a_mo_v a_mo_across a_mo_down a_mo_ownAcross a_mo_ownDown a_mo_base a_mo_coefficients a_mo_before0 a_mo_draftCounts a_mo_draft a_mo_words a_mo_lengths a_mo_codes a_mo_directOf a_mo_otherOf a_mo_data a_mo_out a_mo_times a_mo_prediction a_mo_runBits a_mo_toCome a_mo_timesKept mo_thrown mo_width mo_height mo_many mo_unitsAcross mo_unitsDown mo_drafts mo_mask mo_first mo_last mo_before mo_bits mo_interval mo_size mo_outs mo_part mo_parted mo_failed mo_counting mo_run mo_runMany mo_comes mo_at mo_taken_j94 mo_left mo_fault)) (w1 := (w_M_wrong cI cB cS cT a_mo a_mo_h a_mo_v a_mo_across a_mo_down a_mo_ownAcross a_mo_ownDown a_mo_base a_mo_coefficients a_mo_before0 a_mo_draftCounts a_mo_draft a_mo_words a_mo_lengths a_mo_codes a_mo_directOf a_mo_otherOf a_mo_data a_mo_out a_mo_times a_mo_prediction a_mo_runBits a_mo_toCome a_mo_timesKept mo_thrown mo_width mo_height mo_many mo_unitsAcross mo_unitsDown mo_drafts mo_mask mo_first mo_last mo_before mo_bits mo_interval mo_size mo_outs mo_part mo_parted mo_failed mo_counting mo_run mo_runMany mo_comes mo_at mo_taken_j94 mo_left z3.2)) (w2 := (w_M_take cI cB cS cT a_mo a_mo_data a_mo_h a_mo_v a_mo_across a_mo_down a_mo_ownAcross a_mo_ownDown a_mo_base a_mo_coefficients a_mo_before0 a_mo_draftCounts a_mo_draft a_mo_words a_mo_lengths a_mo_codes a_mo_directOf a_mo_otherOf a_mo_out a_mo_times a_mo_prediction a_mo_runBits a_mo_toCome a_mo_timesKept mo_thrown mo_width mo_height mo_many mo_unitsAcross mo_unitsDown mo_drafts mo_mask mo_first mo_last mo_before mo_bits mo_interval mo_size mo_outs mo_part mo_parted mo_failed mo_counting mo_run mo_runMany mo_comes mo_at mo_taken_j94 mo_left z3.2 mo_data)) [0] [some 0, none] hP hD hS hA rfl rfl rfl rfl (va_runV (As := [.int (6 : Int32)]) (rest := []) ⟨hx, hb, hml, hown, hts⟩ (c_M_wrong l dC dI cI cB cS cT a_mo a_mo_h a_mo_v a_mo_across a_mo_down a_mo_ownAcross a_mo_ownDown a_mo_base a_mo_coefficients a_mo_before0 a_mo_draftCounts a_mo_draft a_mo_words a_mo_lengths a_mo_codes a_mo_directOf a_mo_otherOf a_mo_data a_mo_out a_mo_times a_mo_prediction a_mo_runBits a_mo_toCome a_mo_timesKept mo_thrown mo_width mo_height mo_many mo_unitsAcross mo_unitsDown mo_drafts mo_mask mo_first mo_last mo_before mo_bits mo_interval mo_size mo_outs mo_part mo_parted mo_failed mo_counting mo_run mo_runMany mo_comes mo_at mo_taken_j94 mo_left mo_fault (6 : Int32) H.size z3 hz3) ⟨(callB_of 1 hts (gi tw_1156 rfl) rfl rfl rfl (hts _ (List.mem_cons_of_mem _ tw_16)) (hts _ (List.mem_cons_of_mem _ tw_1153)) (by decide +kernel) ⟨Nat.le_of_ble_eq_true rfl, Nat.le_of_ble_eq_true rfl⟩), hts _ (List.mem_cons_of_mem _ tw_1155), hts _ (List.mem_cons_of_mem _ ts_m1156)⟩ ⟨g_blind, va_recv hK hP (ci := 11) (q0 := 0) rfl rfl, g_at hKN (g_pm hP [0] rfl) (hD.sub [0] (by decide) rfl)⟩ rfl rfl hl.1 rfl (lv_room (Nat.le_of_ble_eq_true rfl)) d_m1168_97 ⟨Nat.zero_le _, Nat.zero_le _⟩) (fun H locs hP hD hS => ?_)
    refine W.eq (g2 := F0 m 100 ls [.int z3.1]) rfl ?_
    obtain rfl := Option.some.inj hf
    subst hQ
    subst hAe
    exact W.iret (v := z3.1) hx hb hr (fun t ht hW => ⟨⟨z3.1, (), rfl, rfl, by rw [ht]; exact hP, hD⟩, hS.F ht⟩) hS.2.2 d_m1168_100
  have hgo : ∀ (H : Heap) (locs : List Loc), va_P (dC, dI) vwCl (w_M_take cI cB cS cT a_mo a_mo_data a_mo_h a_mo_v a_mo_across a_mo_down a_mo_ownAcross a_mo_ownDown a_mo_base a_mo_coefficients a_mo_before0 a_mo_draftCounts a_mo_draft a_mo_words a_mo_lengths a_mo_codes a_mo_directOf a_mo_otherOf a_mo_out a_mo_times a_mo_prediction a_mo_runBits a_mo_toCome a_mo_timesKept mo_thrown mo_width mo_height mo_many mo_unitsAcross mo_unitsDown mo_drafts mo_mask mo_first mo_last mo_before mo_bits mo_interval mo_size mo_outs mo_part mo_parted mo_failed mo_counting mo_run mo_runMany mo_comes mo_at mo_taken mo_left mo_fault mo_data) H → va_S A s.heap H locs → W p l e (headSpec ws_m1168 rm_M_take).room s m args below meth c H locs 0 0 Q (F0 m 0 ls []) := by
    intro H locs hP hS
    unfold f_M_take at hf
    refine lv_aload_n hx hb d_m1168_0 rfl (lv_at hl 0 rfl) ?_
    refine va_get (D := (dC, dI)) (ci := 11) (v := .int mo_fault) (C := "ScanCoderModel") (T := T_11) (N := 49) hx hb hts n0 hown hK hP 0 rfl rfl 47 (by decide) k0 (fun _ h9 => h9) rfl d_m1168_1 ?_
    refine lv_if_le (tgt := 9) hx hb d_m1168_4 (by decide) (fun hc => ?_) (fun hc => ?_)
    · replace hf := (if_pos hc).symm.trans hf
      refine lv_aload_n hx hb d_m1168_9 rfl (lv_at hl 0 rfl) ?_
      refine va_get (D := (dC, dI)) (ci := 11) (v := .int mo_left) (C := "ScanCoderModel") (T := T_11) (N := 49) hx hb hts n0 hown hK hP 0 rfl rfl 46 (by decide) k1 (fun _ h9 => h9) rfl d_m1168_10 ?_
      refine lv_if_ne (tgt := 131) hx hb d_m1168_13 (by decide) (fun hc => ?_) (fun hc => ?_)
      · replace hf := (if_neg hc).symm.trans hf
        exact J131 mo_at mo_taken mo_left hf H locs ls hP hD hS hl
      · replace hf := (if_pos hc).symm.trans hf
        refine lv_aload_n hx hb d_m1168_16 rfl (lv_at hl 0 rfl) ?_
        refine va_get (D := (dC, dI)) (ci := 11) (v := .int mo_at) (C := "ScanCoderModel") (T := T_11) (N := 49) hx hb hts n0 hown hK hP 0 rfl rfl 44 (by decide) k3 (fun _ h9 => h9) rfl d_m1168_17 ?_
        refine lv_aload_n hx hb d_m1168_20 rfl (lv_at hl 0 rfl) ?_
        refine va_get (D := (dC, dI)) (ci := 11) (v := .int mo_size) (C := "ScanCoderModel") (T := T_11) (N := 49) hx hb hts n0 hown hK hP 0 rfl rfl 30 (by decide) k4 (fun _ h9 => h9) rfl d_m1168_21 ?_
        refine lv_icmp_eq (tgt := 34) hx hb d_m1168_24 (by decide) (fun hc => ?_) (fun hc => ?_)
        · replace hf := (if_pos hc).symm.trans hf
          exact J34 () hf H locs ls hP hD hS hl
        · replace hf := (if_neg hc).symm.trans hf
          refine lv_aload_n hx hb d_m1168_27 rfl (lv_at hl 0 rfl) ?_
          obtain ⟨z2, hz2, hf⟩ := ob_bind hf
          refine vp_callSi (g_run (va_runV (As := []) (rest := []) ⟨hx, hb, hml, hown, hts⟩ (c_M_atRestart l dC dI cI cB cS cT a_mo a_mo_data a_mo_h a_mo_v a_mo_across a_mo_down a_mo_ownAcross a_mo_ownDown a_mo_base a_mo_coefficients a_mo_before0 a_mo_draftCounts a_mo_draft a_mo_words a_mo_lengths a_mo_codes a_mo_directOf a_mo_otherOf a_mo_out a_mo_times a_mo_prediction a_mo_runBits a_mo_toCome a_mo_timesKept mo_thrown mo_width mo_height mo_many mo_unitsAcross mo_unitsDown mo_drafts mo_mask mo_first mo_last mo_before mo_bits mo_interval mo_size mo_outs mo_part mo_parted mo_failed mo_counting mo_run mo_runMany mo_comes mo_at mo_taken mo_left mo_fault mo_data z2 hz2) ⟨(callB_of 0 hts (gi tw_1152 rfl) rfl rfl rfl (hts _ (List.mem_cons_of_mem _ tw_16)) (hts _ (List.mem_cons_of_mem _ tw_1149)) (by decide +kernel) ⟨Nat.le_of_ble_eq_true rfl, Nat.le_of_ble_eq_true rfl⟩), hts _ (List.mem_cons_of_mem _ tw_1151), hts _ (List.mem_cons_of_mem _ ts_m1152)⟩ ⟨gp_blind, va_recv hK hP (ci := 11) (q0 := 0) rfl rfl, gp_at hKN (g_pm hP [0, 1] rfl)⟩ rfl rfl hl.1 rfl (lv_room (Nat.le_of_ble_eq_true rfl)) d_m1168_28 ⟨Nat.zero_le _, Nat.zero_le _⟩)) (fun r hrz2 => ?_)
          have hrz2 := hrz2.symm
          subst hrz2
          refine W.eq (g2 := F0 m 31 ls [.int z2]) rfl ?_
          refine lv_if_eq (tgt := 40) hx hb d_m1168_31 (by decide) (fun hc => ?_) (fun hc => ?_)
          · replace hf := (if_pos hc).symm.trans hf
            refine lv_aload_n hx hb d_m1168_40 rfl (lv_at hl 0 rfl) ?_
            refine lv_aload_n hx hb d_m1168_41 rfl (lv_at hl 0 rfl) ?_
            refine va_get (D := (dC, dI)) (ci := 11) (v := .ref a_mo_data) (C := "ScanCoderModel") (T := T_11) (N := 49) hx hb hts n0 hown hK hP 0 rfl rfl 29 (by decide) k5 (fun _ h9 => h9) rfl d_m1168_42 ?_
            refine lv_aload_n hx hb d_m1168_45 rfl (lv_at hl 0 rfl) ?_
            refine va_get (D := (dC, dI)) (ci := 11) (v := .int mo_at) (C := "ScanCoderModel") (T := T_11) (N := 49) hx hb hts n0 hown hK hP 0 rfl rfl 44 (by decide) k3 (fun _ h9 => h9) rfl d_m1168_46 ?_
            obtain ⟨hi, hf⟩ := ob_if hf
            refine va_bald hx hb hK hP 1 1 rfl rfl hi d_m1168_49 ?_
            refine lv_sipush (v := (255 : Int32)) hx hb d_m1168_50 (by decide) ?_
            refine lv_iand hx hb d_m1168_53 ?_
            refine va_put (D := (dC, dI)) (ci := 11) (v := .int ((mo_data mo_at.toNatClampNeg) &&& (255 : Int32))) (ty := .int) (C := "ScanCoderModel") (T := T_11) (N := 49) hx hb hts n0 ty_11 tyok_11 nm_11 hown hK hP hD hS 0 rfl rfl 45 (by decide) k2 (fun _ h9 => h9) rfl (by decide +kernel) rfl rfl (Nat.le_of_ble_eq_true rfl) d_m1168_54 (fun H locs hP hD hS => ?_)
            have hP : va_P (dC, dI) vwCl (w_M_take cI cB cS cT a_mo a_mo_data a_mo_h a_mo_v a_mo_across a_mo_down a_mo_ownAcross a_mo_ownDown a_mo_base a_mo_coefficients a_mo_before0 a_mo_draftCounts a_mo_draft a_mo_words a_mo_lengths a_mo_codes a_mo_directOf a_mo_otherOf a_mo_out a_mo_times a_mo_prediction a_mo_runBits a_mo_toCome a_mo_timesKept mo_thrown mo_width mo_height mo_many mo_unitsAcross mo_unitsDown mo_drafts mo_mask mo_first mo_last mo_before mo_bits mo_interval mo_size mo_outs mo_part mo_parted mo_failed mo_counting mo_run mo_runMany mo_comes mo_at ((mo_data mo_at.toNatClampNeg) &&& (255 : Int32)) mo_left mo_fault mo_data) H := hP
            have hD : va_D A (w_M_take cI cB cS cT a_mo a_mo_data a_mo_h a_mo_v a_mo_across a_mo_down a_mo_ownAcross a_mo_ownDown a_mo_base a_mo_coefficients a_mo_before0 a_mo_draftCounts a_mo_draft a_mo_words a_mo_lengths a_mo_codes a_mo_directOf a_mo_otherOf a_mo_out a_mo_times a_mo_prediction a_mo_runBits a_mo_toCome a_mo_timesKept mo_thrown mo_width mo_height mo_many mo_unitsAcross mo_unitsDown mo_drafts mo_mask mo_first mo_last mo_before mo_bits mo_interval mo_size mo_outs mo_part mo_parted mo_failed mo_counting mo_run mo_runMany mo_comes mo_at ((mo_data mo_at.toNatClampNeg) &&& (255 : Int32)) mo_left mo_fault mo_data) := hD
            refine lv_aload_n hx hb d_m1168_57 rfl (lv_at hl 0 rfl) ?_
            refine va_get (D := (dC, dI)) (ci := 11) (v := .int ((mo_data mo_at.toNatClampNeg) &&& (255 : Int32))) (C := "ScanCoderModel") (T := T_11) (N := 49) hx hb hts n0 hown hK hP 0 rfl rfl 45 (by decide) k2 (fun _ h9 => h9) rfl d_m1168_58 ?_
            refine lv_sipush (v := (255 : Int32)) hx hb d_m1168_61 (by decide) ?_
            refine lv_icmp_ne (tgt := 101) hx hb d_m1168_64 (by decide) (fun hc => ?_) (fun hc => ?_)
            · replace hf := (if_neg hc).symm.trans hf
              exact J101 ((mo_data mo_at.toNatClampNeg) &&& (255 : Int32)) hf H locs ls hP hD hS hl
            · replace hf := (if_pos hc).symm.trans hf
              refine lv_aload_n hx hb d_m1168_67 rfl (lv_at hl 0 rfl) ?_
              refine va_get (D := (dC, dI)) (ci := 11) (v := .int mo_at) (C := "ScanCoderModel") (T := T_11) (N := 49) hx hb hts n0 hown hK hP 0 rfl rfl 44 (by decide) k3 (fun _ h9 => h9) rfl d_m1168_68 ?_
              refine lv_iconst (v := (1 : Int32)) hx hb d_m1168_71 (by decide) ?_
              refine lv_iadd hx hb d_m1168_72 ?_
              refine lv_aload_n hx hb d_m1168_73 rfl (lv_at hl 0 rfl) ?_
              refine va_get (D := (dC, dI)) (ci := 11) (v := .int mo_size) (C := "ScanCoderModel") (T := T_11) (N := 49) hx hb hts n0 hown hK hP 0 rfl rfl 30 (by decide) k4 (fun _ h9 => h9) rfl d_m1168_74 ?_
              refine lv_icmp_eq (tgt := 94) hx hb d_m1168_77 (by decide) (fun hc => ?_) (fun hc => ?_)
              · replace hf := (if_pos hc).symm.trans hf
                exact J94 ((mo_data mo_at.toNatClampNeg) &&& (255 : Int32)) hf H locs ls hP hD hS hl
              · replace hf := (if_neg hc).symm.trans hf
                refine lv_aload_n hx hb d_m1168_80 rfl (lv_at hl 0 rfl) ?_
                refine va_get (D := (dC, dI)) (ci := 11) (v := .ref a_mo_data) (C := "ScanCoderModel") (T := T_11) (N := 49) hx hb hts n0 hown hK hP 0 rfl rfl 29 (by decide) k5 (fun _ h9 => h9) rfl d_m1168_81 ?_
                refine lv_aload_n hx hb d_m1168_84 rfl (lv_at hl 0 rfl) ?_
                refine va_get (D := (dC, dI)) (ci := 11) (v := .int mo_at) (C := "ScanCoderModel") (T := T_11) (N := 49) hx hb hts n0 hown hK hP 0 rfl rfl 44 (by decide) k3 (fun _ h9 => h9) rfl d_m1168_85 ?_
                refine lv_iconst (v := (1 : Int32)) hx hb d_m1168_88 (by decide) ?_
                refine lv_iadd hx hb d_m1168_89 ?_
                obtain ⟨hi, hf⟩ := ob_if hf
                refine va_bald hx hb hK hP 1 1 rfl rfl hi d_m1168_90 ?_
                refine lv_if_eq (tgt := 101) hx hb d_m1168_91 (by decide) (fun hc => ?_) (fun hc => ?_)
                · replace hf := (if_pos hc).symm.trans hf
                  exact J101 ((mo_data mo_at.toNatClampNeg) &&& (255 : Int32)) hf H locs ls hP hD hS hl
                · replace hf := (if_neg hc).symm.trans hf
                  exact J94 ((mo_data mo_at.toNatClampNeg) &&& (255 : Int32)) hf H locs ls hP hD hS hl
          · replace hf := (if_neg hc).symm.trans hf
            exact J34 () hf H locs ls hP hD hS hl
    · replace hf := (if_neg hc).symm.trans hf
      refine lv_iconst (v := (0 : Int32)) hx hb d_m1168_7 (by decide) ?_
      obtain rfl := Option.some.inj hf
      subst hQ
      subst hAe
      exact W.iret (v := (0 : Int32)) hx hb hr (fun t ht hW => ⟨⟨(0 : Int32), (), rfl, rfl, by rw [ht]; exact hP, hD⟩, hS.F ht⟩) hS.2.2 d_m1168_8
  exact hgo _ _ hP hS
def f_M_takes_L4b (p0 : Int32) (mo_size : Int32) (mo_data : Nat → Int32) (N : Nat) (rec : (Int32 × Int32 × Int32 × Int32 × Int32 × Int32) → Option (Int32 × Int32 × Int32 × Int32 × Int32)) (v2_4 : Int32) (v3_4 : Int32) (mo_at_4 : Int32) (mo_taken_4 : Int32) (mo_left_4 : Int32) (mo_fault_4 : Int32) : Option (Int32 × Int32 × Int32 × Int32 × Int32) :=
  if p0 ≤ v3_4 then
    some (v2_4, mo_at_4, mo_taken_4, mo_left_4, mo_fault_4)
  else
    (f_M_take mo_size mo_at_4 mo_taken_4 mo_left_4 mo_fault_4 mo_data).bind fun z1 =>
    rec (((2 : Int32) * v2_4) + z1.1, v3_4 + (1 : Int32), z1.2.1, z1.2.2.1, z1.2.2.2.1, z1.2.2.2.2)
def f_M_takes_L4 (p0 : Int32) (mo_size : Int32) (mo_data : Nat → Int32) (N : Nat) (k : Nat) : (Int32 × Int32 × Int32 × Int32 × Int32 × Int32) → Option (Int32 × Int32 × Int32 × Int32 × Int32) := it (fun rec a => f_M_takes_L4b p0 mo_size mo_data N rec a.1 a.2.1 a.2.2.1 a.2.2.2.1 a.2.2.2.2.1 a.2.2.2.2.2) k
def f_M_takes (N : Nat) (p0 : Int32) (mo_size : Int32) (mo_at : Int32) (mo_taken : Int32) (mo_left : Int32) (mo_fault : Int32) (mo_data : Nat → Int32) : Option (Int32 × Int32 × Int32 × Int32 × Int32) :=
  (f_M_takes_L4 p0 mo_size mo_data N N ((0 : Int32), (0 : Int32), mo_at, mo_taken, mo_left, mo_fault)).bind fun z2 =>
    some (z2.1, z2.2.1, z2.2.2.1, z2.2.2.2.1, z2.2.2.2.2)
abbrev w_M_takes (cI cB cS cT : ClassId) (a_mo : Nat) (a_mo_data : Nat) (a_mo_h : Nat) (a_mo_v : Nat) (a_mo_across : Nat) (a_mo_down : Nat) (a_mo_ownAcross : Nat) (a_mo_ownDown : Nat) (a_mo_base : Nat) (a_mo_coefficients : Nat) (a_mo_before0 : Nat) (a_mo_draftCounts : Nat) (a_mo_draft : Nat) (a_mo_words : Nat) (a_mo_lengths : Nat) (a_mo_codes : Nat) (a_mo_directOf : Nat) (a_mo_otherOf : Nat) (a_mo_out : Nat) (a_mo_times : Nat) (a_mo_prediction : Nat) (a_mo_runBits : Nat) (a_mo_toCome : Nat) (a_mo_timesKept : Nat) (mo_thrown : Int32) (mo_width : Int32) (mo_height : Int32) (mo_many : Int32) (mo_unitsAcross : Int32) (mo_unitsDown : Int32) (mo_drafts : Int32) (mo_mask : Int32) (mo_first : Int32) (mo_last : Int32) (mo_before : Int32) (mo_bits : Int32) (mo_interval : Int32) (mo_size : Int32) (mo_outs : Int32) (mo_part : Int32) (mo_parted : Int32) (mo_failed : Int32) (mo_counting : Int32) (mo_run : Int32) (mo_runMany : Int32) (mo_comes : Int32) (mo_at : Int32) (mo_taken : Int32) (mo_left : Int32) (mo_fault : Int32) (mo_data : Nat → Int32) : va_W := [(a_mo, .inr (11, [.int mo_thrown, .int mo_width, .int mo_height, .int mo_many, .ref a_mo_h, .ref a_mo_v, .ref a_mo_across, .ref a_mo_down, .ref a_mo_ownAcross, .ref a_mo_ownDown, .ref a_mo_base, .int mo_unitsAcross, .int mo_unitsDown, .ref a_mo_coefficients, .ref a_mo_before0, .ref a_mo_draftCounts, .ref a_mo_draft, .int mo_drafts, .ref a_mo_words, .ref a_mo_lengths, .ref a_mo_codes, .ref a_mo_directOf, .ref a_mo_otherOf, .int mo_mask, .int mo_first, .int mo_last, .int mo_before, .int mo_bits, .int mo_interval, .ref a_mo_data, .int mo_size, .ref a_mo_out, .int mo_outs, .int mo_part, .int mo_parted, .int mo_failed, .int mo_counting, .ref a_mo_times, .ref a_mo_prediction, .int mo_run, .ref a_mo_runBits, .int mo_runMany, .ref a_mo_toCome, .int mo_comes, .int mo_at, .int mo_taken, .int mo_left, .int mo_fault, .ref a_mo_timesKept])), (a_mo_data, .inl (cB, 16384, .inl mo_data))]
def rm_M_takes : Room := { frames := 2, cells := 0, slots := 0, locals := 41 }
set_option maxHeartbeats 1000000 in
set_option maxRecDepth 100000 in
theorem c_M_takes (l : Launch) (dC : Nat → ClassId) (dI : Nat → Nat → Nat) (cI cB cS cT : ClassId) (N : Nat) (a_mo : Nat) (a_mo_data : Nat) (a_mo_h : Nat) (a_mo_v : Nat) (a_mo_across : Nat) (a_mo_down : Nat) (a_mo_ownAcross : Nat) (a_mo_ownDown : Nat) (a_mo_base : Nat) (a_mo_coefficients : Nat) (a_mo_before0 : Nat) (a_mo_draftCounts : Nat) (a_mo_draft : Nat) (a_mo_words : Nat) (a_mo_lengths : Nat) (a_mo_codes : Nat) (a_mo_directOf : Nat) (a_mo_otherOf : Nat) (a_mo_out : Nat) (a_mo_times : Nat) (a_mo_prediction : Nat) (a_mo_runBits : Nat) (a_mo_toCome : Nat) (a_mo_timesKept : Nat) (mo_thrown : Int32) (mo_width : Int32) (mo_height : Int32) (mo_many : Int32) (mo_unitsAcross : Int32) (mo_unitsDown : Int32) (mo_drafts : Int32) (mo_mask : Int32) (mo_first : Int32) (mo_last : Int32) (mo_before : Int32) (mo_bits : Int32) (mo_interval : Int32) (mo_size : Int32) (mo_outs : Int32) (mo_part : Int32) (mo_parted : Int32) (mo_failed : Int32) (mo_counting : Int32) (mo_run : Int32) (mo_runMany : Int32) (mo_comes : Int32) (mo_at : Int32) (mo_taken : Int32) (mo_left : Int32) (mo_fault : Int32) (mo_data : Nat → Int32) (p0 : Int32) (sz : Nat) (z : Int32 × Int32 × Int32 × Int32 × Int32) (hf : f_M_takes N p0 mo_size mo_at mo_taken mo_left mo_fault mo_data = some z) : Met l y_m1180 ws_m1180 rm_M_takes (gPre (dC, dI) [.ref a_mo, .int p0] (gT cI cB cS cT) (w_M_takes cI cB cS cT a_mo a_mo_data a_mo_h a_mo_v a_mo_across a_mo_down a_mo_ownAcross a_mo_ownDown a_mo_base a_mo_coefficients a_mo_before0 a_mo_draftCounts a_mo_draft a_mo_words a_mo_lengths a_mo_codes a_mo_directOf a_mo_otherOf a_mo_out a_mo_times a_mo_prediction a_mo_runBits a_mo_toCome a_mo_timesKept mo_thrown mo_width mo_height mo_many mo_unitsAcross mo_unitsDown mo_drafts mo_mask mo_first mo_last mo_before mo_bits mo_interval mo_size mo_outs mo_part mo_parted mo_failed mo_counting mo_run mo_runMany mo_comes mo_at mo_taken mo_left mo_fault mo_data) sz) (gQi (dC, dI) (gT cI cB cS cT) z.1 (w_M_takes cI cB cS cT a_mo a_mo_data a_mo_h a_mo_v a_mo_across a_mo_down a_mo_ownAcross a_mo_ownDown a_mo_base a_mo_coefficients a_mo_before0 a_mo_draftCounts a_mo_draft a_mo_words a_mo_lengths a_mo_codes a_mo_directOf a_mo_otherOf a_mo_out a_mo_times a_mo_prediction a_mo_runBits a_mo_toCome a_mo_timesKept mo_thrown mo_width mo_height mo_many mo_unitsAcross mo_unitsDown mo_drafts mo_mask mo_first mo_last mo_before mo_bits mo_interval mo_size mo_outs mo_part mo_parted mo_failed mo_counting mo_run mo_runMany mo_comes mo_at mo_taken mo_left mo_fault mo_data) (w_M_takes cI cB cS cT a_mo a_mo_data a_mo_h a_mo_v a_mo_across a_mo_down a_mo_ownAcross a_mo_ownDown a_mo_base a_mo_coefficients a_mo_before0 a_mo_draftCounts a_mo_draft a_mo_words a_mo_lengths a_mo_codes a_mo_directOf a_mo_otherOf a_mo_out a_mo_times a_mo_prediction a_mo_runBits a_mo_toCome a_mo_timesKept mo_thrown mo_width mo_height mo_many mo_unitsAcross mo_unitsDown mo_drafts mo_mask mo_first mo_last mo_before mo_bits mo_interval mo_size mo_outs mo_part mo_parted mo_failed mo_counting mo_run mo_runMany mo_comes z.2.1 z.2.2.1 z.2.2.2.1 z.2.2.2.2 mo_data) sz) 0 0 (va_A (w_M_takes cI cB cS cT a_mo a_mo_data a_mo_h a_mo_v a_mo_across a_mo_down a_mo_ownAcross a_mo_ownDown a_mo_base a_mo_coefficients a_mo_before0 a_mo_draftCounts a_mo_draft a_mo_words a_mo_lengths a_mo_codes a_mo_directOf a_mo_otherOf a_mo_out a_mo_times a_mo_prediction a_mo_runBits a_mo_toCome a_mo_timesKept mo_thrown mo_width mo_height mo_many mo_unitsAcross mo_unitsDown mo_drafts mo_mask mo_first mo_last mo_before mo_bits mo_interval mo_size mo_outs mo_part mo_parted mo_failed mo_counting mo_run mo_runMany mo_comes mo_at mo_taken mo_left mo_fault mo_data) sz) := by
  refine Met.ofW (cc := prog_14_method_48_code) (maxL := 4) (ret := (some .int)) (by decide) rfl ?_
  intro p e s m args below meth c s₁ B hml hv
  obtain ⟨hargs, hsz, hP, hKN, hD0⟩ := hv
  have hK := hKN.1
  have hx := B.exec
  have hb := B.bytes
  have hr := B.returns
  have hts := atoms_spec (ws := ws_m1180) B.pre
  have hown : s.vm.findClass "ScanCoderModel" = some m.cls := findClass_of_methodNamed B.named
  have hlocks := B.notSynchronized
  subst hsz
  have hD := hD0.self (sz := s.heap.size)
  obtain ⟨A, hAe⟩ : ∃ A : Nat → Prop, va_A (w_M_takes cI cB cS cT a_mo a_mo_data a_mo_h a_mo_v a_mo_across a_mo_down a_mo_ownAcross a_mo_ownDown a_mo_base a_mo_coefficients a_mo_before0 a_mo_draftCounts a_mo_draft a_mo_words a_mo_lengths a_mo_codes a_mo_directOf a_mo_otherOf a_mo_out a_mo_times a_mo_prediction a_mo_runBits a_mo_toCome a_mo_timesKept mo_thrown mo_width mo_height mo_many mo_unitsAcross mo_unitsDown mo_drafts mo_mask mo_first mo_last mo_before mo_bits mo_interval mo_size mo_outs mo_part mo_parted mo_failed mo_counting mo_run mo_runMany mo_comes mo_at mo_taken mo_left mo_fault mo_data) s.heap.size = A := ⟨_, rfl⟩
  rw [hAe] at hD
  have hA : ∀ q : Nat, s.heap.size ≤ q → A q := fun q h => by rw [← hAe]; exact Or.inr h
  have hS : va_S A s.heap s.heap [] := va_S.rf
  have hl := lv_entry ([.ref a_mo, .int p0]) (n := 4) (Nat.le_of_ble_eq_true rfl)
  have hfr : entryFrame m args 4 = F0 m 0 ((lg_sl ([.ref a_mo, .int p0]) ++ List.replicate (4 - (lg_sl ([.ref a_mo, .int p0])).length) Slot.unset).toArray) [] := by rw [hargs]; exact lg_entry_eq _ _ _
  rw [hfr]
  generalize (lg_sl ([.ref a_mo, .int p0]) ++ List.replicate (4 - (lg_sl ([.ref a_mo, .int p0])).length) Slot.unset).toArray = ls at hl ⊢
  have hl : lv_has ls 4 [(0, .ref a_mo), (1, .int p0)] := hl
  refine gen_Q (fun Q hQ => ?_)
  clear hfr
  have L4 : ∀  (z : Int32 × Int32 × Int32 × Int32 × Int32), (GW (dC, dI) A p l e (headSpec ws_m1180 rm_M_takes).room s m args below meth c 0 0 Q 4 24 (w_M_takes cI cB cS cT a_mo a_mo_data a_mo_h a_mo_v a_mo_across a_mo_down a_mo_ownAcross a_mo_ownDown a_mo_base a_mo_coefficients a_mo_before0 a_mo_draftCounts a_mo_draft a_mo_words a_mo_lengths a_mo_codes a_mo_directOf a_mo_otherOf a_mo_out a_mo_times a_mo_prediction a_mo_runBits a_mo_toCome a_mo_timesKept mo_thrown mo_width mo_height mo_many mo_unitsAcross mo_unitsDown mo_drafts mo_mask mo_first mo_last mo_before mo_bits mo_interval mo_size mo_outs mo_part mo_parted mo_failed mo_counting mo_run mo_runMany mo_comes z.2.1 z.2.2.1 z.2.2.2.1 z.2.2.2.2 mo_data) [(2, .int z.1)] []) → ∀ (k : Nat) (v2_4 : Int32) (v3_4 : Int32) (mo_at_4 : Int32) (mo_taken_4 : Int32) (mo_left_4 : Int32) (mo_fault_4 : Int32), f_M_takes_L4 p0 mo_size mo_data N k (v2_4, v3_4, mo_at_4, mo_taken_4, mo_left_4, mo_fault_4) = some z → GW (dC, dI) A p l e (headSpec ws_m1180 rm_M_takes).room s m args below meth c 0 0 Q 4 4 (w_M_takes cI cB cS cT a_mo a_mo_data a_mo_h a_mo_v a_mo_across a_mo_down a_mo_ownAcross a_mo_ownDown a_mo_base a_mo_coefficients a_mo_before0 a_mo_draftCounts a_mo_draft a_mo_words a_mo_lengths a_mo_codes a_mo_directOf a_mo_otherOf a_mo_out a_mo_times a_mo_prediction a_mo_runBits a_mo_toCome a_mo_timesKept mo_thrown mo_width mo_height mo_many mo_unitsAcross mo_unitsDown mo_drafts mo_mask mo_first mo_last mo_before mo_bits mo_interval mo_size mo_outs mo_part mo_parted mo_failed mo_counting mo_run mo_runMany mo_comes mo_at_4 mo_taken_4 mo_left_4 mo_fault_4 mo_data) [(0, .ref a_mo), (1, .int p0), (2, .int v2_4), (3, .int v3_4)] [] := by
    intro  z hE0 k
    induction k with
    | zero =>
      intro v2_4 v3_4 mo_at_4 mo_taken_4 mo_left_4 mo_fault_4 hf
      exact (it_zero hf).elim
    | succ k ih =>
      intro v2_4 v3_4 mo_at_4 mo_taken_4 mo_left_4 mo_fault_4 hf H locs ls hP hD hS hl
      have hf : f_M_takes_L4b p0 mo_size mo_data N (f_M_takes_L4 p0 mo_size mo_data N k) v2_4 v3_4 mo_at_4 mo_taken_4 mo_left_4 mo_fault_4 = some z := hf
      unfold f_M_takes_L4b at hf
      refine lv_iload_n hx hb d_m1180_4 rfl (lv_at hl 3 rfl) ?_
      refine lv_iload_n hx hb d_m1180_5 rfl (lv_at hl 1 rfl) ?_
      refine lv_icmp_ge (tgt := 24) hx hb d_m1180_6 (by decide) (fun hc => ?_) (fun hc => ?_)
      · replace hf := (if_pos hc).symm.trans hf
        obtain rfl := Option.some.inj hf
        exact hE0  H locs ls hP hD hS (lv_sub hl [2] rfl)
      · replace hf := (if_neg hc).symm.trans hf
        refine lv_iconst (v := (2 : Int32)) hx hb d_m1180_9 (by decide) ?_
        refine lv_iload_n hx hb d_m1180_10 rfl (lv_at hl 2 rfl) ?_
        refine lv_imul hx hb d_m1180_11 ?_
        refine lv_aload_n hx hb d_m1180_12 rfl (lv_at hl 0 rfl) ?_
        obtain ⟨z1, hz1, hf⟩ := ob_bind hf
        refine g_calli (wc := (w_M_take cI cB cS cT a_mo a_mo_data a_mo_h a_mo_v a_mo_across a_mo_down a_mo_ownAcross a_mo_ownDown a_mo_base a_mo_coefficients a_mo_before0 a_mo_draftCounts a_mo_draft a_mo_words a_mo_lengths a_mo_codes a_mo_directOf a_mo_otherOf a_mo_out a_mo_times a_mo_prediction a_mo_runBits a_mo_toCome a_mo_timesKept mo_thrown mo_width mo_height mo_many mo_unitsAcross mo_unitsDown mo_drafts mo_mask mo_first mo_last mo_before mo_bits mo_interval mo_size mo_outs mo_part mo_parted mo_failed mo_counting mo_run mo_runMany mo_comes mo_at_4 mo_taken_4 mo_left_4 mo_fault_4 mo_data)) (w1 := (w_M_take cI cB cS cT a_mo a_mo_data a_mo_h a_mo_v a_mo_across a_mo_down a_mo_ownAcross a_mo_ownDown a_mo_base a_mo_coefficients a_mo_before0 a_mo_draftCounts a_mo_draft a_mo_words a_mo_lengths a_mo_codes a_mo_directOf a_mo_otherOf a_mo_out a_mo_times a_mo_prediction a_mo_runBits a_mo_toCome a_mo_timesKept mo_thrown mo_width mo_height mo_many mo_unitsAcross mo_unitsDown mo_drafts mo_mask mo_first mo_last mo_before mo_bits mo_interval mo_size mo_outs mo_part mo_parted mo_failed mo_counting mo_run mo_runMany mo_comes z1.2.1 z1.2.2.1 z1.2.2.2.1 z1.2.2.2.2 mo_data)) (w2 := (w_M_takes cI cB cS cT a_mo a_mo_data a_mo_h a_mo_v a_mo_across a_mo_down a_mo_ownAcross a_mo_ownDown a_mo_base a_mo_coefficients a_mo_before0 a_mo_draftCounts a_mo_draft a_mo_words a_mo_lengths a_mo_codes a_mo_directOf a_mo_otherOf a_mo_out a_mo_times a_mo_prediction a_mo_runBits a_mo_toCome a_mo_timesKept mo_thrown mo_width mo_height mo_many mo_unitsAcross mo_unitsDown mo_drafts mo_mask mo_first mo_last mo_before mo_bits mo_interval mo_size mo_outs mo_part mo_parted mo_failed mo_counting mo_run mo_runMany mo_comes z1.2.1 z1.2.2.1 z1.2.2.2.1 z1.2.2.2.2 mo_data)) [0, 1] [some 0, some 1] hP hD hS hA rfl rfl rfl rfl (va_runV (As := []) (rest := [.int ((2 : Int32) * v2_4)]) ⟨hx, hb, hml, hown, hts⟩ (c_M_take l dC dI cI cB cS cT a_mo a_mo_data a_mo_h a_mo_v a_mo_across a_mo_down a_mo_ownAcross a_mo_ownDown a_mo_base a_mo_coefficients a_mo_before0 a_mo_draftCounts a_mo_draft a_mo_words a_mo_lengths a_mo_codes a_mo_directOf a_mo_otherOf a_mo_out a_mo_times a_mo_prediction a_mo_runBits a_mo_toCome a_mo_timesKept mo_thrown mo_width mo_height mo_many mo_unitsAcross mo_unitsDown mo_drafts mo_mask mo_first mo_last mo_before mo_bits mo_interval mo_size mo_outs mo_part mo_parted mo_failed mo_counting mo_run mo_runMany mo_comes mo_at_4 mo_taken_4 mo_left_4 mo_fault_4 mo_data H.size z1 hz1) ⟨(callB_of 0 hts (gi tw_1168 rfl) rfl rfl rfl (hts _ (List.mem_cons_of_mem _ tw_16)) (hts _ (List.mem_cons_of_mem _ tw_1165)) (by decide +kernel) ⟨Nat.le_of_ble_eq_true rfl, Nat.le_of_ble_eq_true rfl⟩), hts _ (List.mem_cons_of_mem _ tw_1167), hts _ (List.mem_cons_of_mem _ ts_m1168)⟩ ⟨g_blind, va_recv hK hP (ci := 11) (q0 := 0) rfl rfl, g_at hKN (g_pm hP [0, 1] rfl) (hD.sub [0, 1] (by decide) rfl)⟩ rfl rfl hl.1 rfl (lv_room (Nat.le_of_ble_eq_true rfl)) d_m1180_13 ⟨Nat.zero_le _, Nat.zero_le _⟩) (fun H locs hP hD hS => ?_)
        refine W.eq (g2 := F0 m 16 ls [.int z1.1, .int ((2 : Int32) * v2_4)]) rfl ?_
        refine lv_iadd hx hb d_m1180_16 ?_
        refine lv_istore_n (lv' := [(2, .int (((2 : Int32) * v2_4) + z1.1)), (0, .ref a_mo), (1, .int p0), (3, .int v3_4)]) hx hb d_m1180_17 rfl hl (by decide) rfl (fun ls hl => ?_)
        refine lv_iinc (v := v3_4 + (1 : Int32)) (lv' := [(3, .int (v3_4 + (1 : Int32))), (2, .int (((2 : Int32) * v2_4) + z1.1)), (0, .ref a_mo), (1, .int p0)]) hx hb d_m1180_18 hl (k := 3) rfl rfl (by decide) rfl (fun ls hl => ?_)
        refine lv_goto (tgt := 4) hx hb d_m1180_21 (by decide) ?_
        exact ih (((2 : Int32) * v2_4) + z1.1) (v3_4 + (1 : Int32)) z1.2.1 z1.2.2.1 z1.2.2.2.1 z1.2.2.2.2 hf H locs ls hP hD hS (lv_sub hl [2, 3, 1, 0] rfl)
  have hgo : ∀ (H : Heap) (locs : List Loc), va_P (dC, dI) vwCl (w_M_takes cI cB cS cT a_mo a_mo_data a_mo_h a_mo_v a_mo_across a_mo_down a_mo_ownAcross a_mo_ownDown a_mo_base a_mo_coefficients a_mo_before0 a_mo_draftCounts a_mo_draft a_mo_words a_mo_lengths a_mo_codes a_mo_directOf a_mo_otherOf a_mo_out a_mo_times a_mo_prediction a_mo_runBits a_mo_toCome a_mo_timesKept mo_thrown mo_width mo_height mo_many mo_unitsAcross mo_unitsDown mo_drafts mo_mask mo_first mo_last mo_before mo_bits mo_interval mo_size mo_outs mo_part mo_parted mo_failed mo_counting mo_run mo_runMany mo_comes mo_at mo_taken mo_left mo_fault mo_data) H → va_S A s.heap H locs → W p l e (headSpec ws_m1180 rm_M_takes).room s m args below meth c H locs 0 0 Q (F0 m 0 ls []) := by
    intro H locs hP hS
    unfold f_M_takes at hf
    refine lv_iconst (v := (0 : Int32)) hx hb d_m1180_0 (by decide) ?_
    refine lv_istore_n (lv' := [(2, .int (0 : Int32)), (0, .ref a_mo), (1, .int p0)]) hx hb d_m1180_1 rfl hl (by decide) rfl (fun ls hl => ?_)
    refine lv_iconst (v := (0 : Int32)) hx hb d_m1180_2 (by decide) ?_
    refine lv_istore_n (lv' := [(3, .int (0 : Int32)), (2, .int (0 : Int32)), (0, .ref a_mo), (1, .int p0)]) hx hb d_m1180_3 rfl hl (by decide) rfl (fun ls hl => ?_)
    obtain ⟨z2, hz2, hf⟩ := ob_bind hf
    refine L4  z2 ?_ N (0 : Int32) (0 : Int32) mo_at mo_taken mo_left mo_fault hz2 H locs ls hP hD hS (lv_sub hl [2, 3, 1, 0] rfl)
    · intro H locs ls hP hD hS hl
      refine lv_iload_n hx hb d_m1180_24 rfl (lv_at hl 0 rfl) ?_
      obtain rfl := Option.some.inj hf
      subst hQ
      subst hAe
      exact W.iret (v := z2.1) hx hb hr (fun t ht hW => ⟨⟨z2.1, (), rfl, rfl, by rw [ht]; exact hP, hD⟩, hS.F ht⟩) hS.2.2 d_m1180_25
  exact hgo _ _ hP hS
def f_M_symbol_J23_115 (N : Nat) (rec : (Int32 × Int32) → Option (Nat × Int32 × Int32)) (s0_j115 : Int32) (v5_23 : Int32) : Option (Nat × Int32 × Int32) :=
  rec (s0_j115, v5_23 + (1 : Int32))
def f_M_symbol_J23_110 (N : Nat) (rec : (Int32 × Int32) → Option (Nat × Int32 × Int32)) (v5_23 : Int32) : Option (Nat × Int32 × Int32) :=
  f_M_symbol_J23_115 N rec (1 : Int32) v5_23
def f_M_symbol_J23_114 (N : Nat) (rec : (Int32 × Int32) → Option (Nat × Int32 × Int32)) (v5_23 : Int32) : Option (Nat × Int32 × Int32) :=
  f_M_symbol_J23_115 N rec (0 : Int32) v5_23
def f_M_symbol_J23_77 (N : Nat) (rec : (Int32 × Int32) → Option (Nat × Int32 × Int32)) (v4_23 : Int32) (v6_j77 : Int32) (v3_4 : Int32) (v5_23 : Int32) (p0 : Int32) (mo_codes : Nat → Int32) (v2_4 : Int32) : Option (Nat × Int32 × Int32) :=
  if v4_23 = 0 then
    if v6_j77 ≤ v3_4 then
      f_M_symbol_J23_114 N rec v5_23
    else
      if (((256 : Int32) * p0) + v5_23) < 0 ∨ 2048 ≤ (((256 : Int32) * p0) + v5_23).toNatClampNeg then none else
      if ((mo_codes (((256 : Int32) * p0) + v5_23).toNatClampNeg) >>> ((v6_j77 - v3_4) &&& 31)) = v2_4 then
        f_M_symbol_J23_110 N rec v5_23
      else
        f_M_symbol_J23_114 N rec v5_23
  else
    f_M_symbol_J23_110 N rec v5_23
def f_M_symbol_L23b (p0 : Int32) (mo_lengths : Nat → Int32) (v3_4 : Int32) (mo_codes : Nat → Int32) (v2_4 : Int32) (N : Nat) (rec : (Int32 × Int32) → Option (Nat × Int32 × Int32)) (v4_23 : Int32) (v5_23 : Int32) : Option (Nat × Int32 × Int32) :=
  if (256 : Int32) ≤ v5_23 then
    some (1, v4_23, v5_23)
  else
    if (((256 : Int32) * p0) + v5_23) < 0 ∨ 2048 ≤ (((256 : Int32) * p0) + v5_23).toNatClampNeg then none else
    if (mo_lengths (((256 : Int32) * p0) + v5_23).toNatClampNeg) ≤ 0 then
      f_M_symbol_J23_77 N rec v4_23 (mo_lengths (((256 : Int32) * p0) + v5_23).toNatClampNeg) v3_4 v5_23 p0 mo_codes v2_4
    else
      if (mo_lengths (((256 : Int32) * p0) + v5_23).toNatClampNeg) = v3_4 then
        if (((256 : Int32) * p0) + v5_23) < 0 ∨ 2048 ≤ (((256 : Int32) * p0) + v5_23).toNatClampNeg then none else
        if (mo_codes (((256 : Int32) * p0) + v5_23).toNatClampNeg) = v2_4 then
          some (0, v4_23, v5_23)
        else
          f_M_symbol_J23_77 N rec v4_23 (mo_lengths (((256 : Int32) * p0) + v5_23).toNatClampNeg) v3_4 v5_23 p0 mo_codes v2_4
      else
        f_M_symbol_J23_77 N rec v4_23 (mo_lengths (((256 : Int32) * p0) + v5_23).toNatClampNeg) v3_4 v5_23 p0 mo_codes v2_4
def f_M_symbol_L23 (p0 : Int32) (mo_lengths : Nat → Int32) (v3_4 : Int32) (mo_codes : Nat → Int32) (v2_4 : Int32) (N : Nat) (k : Nat) : (Int32 × Int32) → Option (Nat × Int32 × Int32) := it (fun rec a => f_M_symbol_L23b p0 mo_lengths v3_4 mo_codes v2_4 N rec a.1 a.2) k
def f_M_symbol_L4b (p0 : Int32) (mo_lengths : Nat → Int32) (mo_codes : Nat → Int32) (mo_size : Int32) (mo_data : Nat → Int32) (N : Nat) (rec : (Int32 × Int32 × Int32 × Int32 × Int32 × Int32) → Option (Nat × Int32 × Int32 × Int32 × Int32 × Int32)) (v2_4 : Int32) (v3_4 : Int32) (mo_at_4 : Int32) (mo_taken_4 : Int32) (mo_left_4 : Int32) (mo_fault_4 : Int32) : Option (Nat × Int32 × Int32 × Int32 × Int32 × Int32) :=
  if (16 : Int32) < v3_4 then
    some (2, (0 : Int32), mo_at_4, mo_taken_4, mo_left_4, mo_fault_4)
  else
    if mo_fault_4 = 0 then
      (f_M_symbol_L23 p0 mo_lengths v3_4 mo_codes v2_4 N N ((0 : Int32), (0 : Int32))).bind fun z1 =>
        if z1.1 = 0 then some (0, z1.2.2, mo_at_4, mo_taken_4, mo_left_4, mo_fault_4) else if z1.2.1 = 0 then
        some (1, z1.2.2, mo_at_4, mo_taken_4, mo_left_4, mo_fault_4)
      else
        (f_M_take mo_size mo_at_4 mo_taken_4 mo_left_4 mo_fault_4 mo_data).bind fun z2 =>
        rec (((2 : Int32) * v2_4) + z2.1, v3_4 + (1 : Int32), z2.2.1, z2.2.2.1, z2.2.2.2.1, z2.2.2.2.2)
    else
      some (2, (0 : Int32), mo_at_4, mo_taken_4, mo_left_4, mo_fault_4)
def f_M_symbol_L4 (p0 : Int32) (mo_lengths : Nat → Int32) (mo_codes : Nat → Int32) (mo_size : Int32) (mo_data : Nat → Int32) (N : Nat) (k : Nat) : (Int32 × Int32 × Int32 × Int32 × Int32 × Int32) → Option (Nat × Int32 × Int32 × Int32 × Int32 × Int32) := it (fun rec a => f_M_symbol_L4b p0 mo_lengths mo_codes mo_size mo_data N rec a.1 a.2.1 a.2.2.1 a.2.2.2.1 a.2.2.2.2.1 a.2.2.2.2.2) k
def f_M_symbol (N : Nat) (p0 : Int32) (mo_size : Int32) (mo_at : Int32) (mo_taken : Int32) (mo_left : Int32) (mo_fault : Int32) (mo_lengths : Nat → Int32) (mo_codes : Nat → Int32) (mo_data : Nat → Int32) : Option (Int32 × Int32 × Int32 × Int32 × Int32) :=
  (f_M_symbol_L4 p0 mo_lengths mo_codes mo_size mo_data N N ((0 : Int32), (0 : Int32), mo_at, mo_taken, mo_left, mo_fault)).bind fun z3 =>
    if z3.1 = 0 then some (z3.2.1, z3.2.2.1, z3.2.2.2.1, z3.2.2.2.2.1, z3.2.2.2.2.2) else if z3.1 = 1 then ((f_M_wrong (2 : Int32) z3.2.2.2.2.2).bind fun z4 =>
  some (z4.1, z3.2.2.1, z3.2.2.2.1, z3.2.2.2.2.1, z4.2)) else some ((0 : Int32), z3.2.2.1, z3.2.2.2.1, z3.2.2.2.2.1, z3.2.2.2.2.2)
abbrev w_M_symbol (cI cB cS cT : ClassId) (a_mo : Nat) (a_mo_lengths : Nat) (a_mo_codes : Nat) (a_mo_data : Nat) (a_mo_h : Nat) (a_mo_v : Nat) (a_mo_across : Nat) (a_mo_down : Nat) (a_mo_ownAcross : Nat) (a_mo_ownDown : Nat) (a_mo_base : Nat) (a_mo_coefficients : Nat) (a_mo_before0 : Nat) (a_mo_draftCounts : Nat) (a_mo_draft : Nat) (a_mo_words : Nat) (a_mo_directOf : Nat) (a_mo_otherOf : Nat) (a_mo_out : Nat) (a_mo_times : Nat) (a_mo_prediction : Nat) (a_mo_runBits : Nat) (a_mo_toCome : Nat) (a_mo_timesKept : Nat) (mo_thrown : Int32) (mo_width : Int32) (mo_height : Int32) (mo_many : Int32) (mo_unitsAcross : Int32) (mo_unitsDown : Int32) (mo_drafts : Int32) (mo_mask : Int32) (mo_first : Int32) (mo_last : Int32) (mo_before : Int32) (mo_bits : Int32) (mo_interval : Int32) (mo_size : Int32) (mo_outs : Int32) (mo_part : Int32) (mo_parted : Int32) (mo_failed : Int32) (mo_counting : Int32) (mo_run : Int32) (mo_runMany : Int32) (mo_comes : Int32) (mo_at : Int32) (mo_taken : Int32) (mo_left : Int32) (mo_fault : Int32) (mo_lengths : Nat → Int32) (mo_codes : Nat → Int32) (mo_data : Nat → Int32) : va_W := [(a_mo, .inr (11, [.int mo_thrown, .int mo_width, .int mo_height, .int mo_many, .ref a_mo_h, .ref a_mo_v, .ref a_mo_across, .ref a_mo_down, .ref a_mo_ownAcross, .ref a_mo_ownDown, .ref a_mo_base, .int mo_unitsAcross, .int mo_unitsDown, .ref a_mo_coefficients, .ref a_mo_before0, .ref a_mo_draftCounts, .ref a_mo_draft, .int mo_drafts, .ref a_mo_words, .ref a_mo_lengths, .ref a_mo_codes, .ref a_mo_directOf, .ref a_mo_otherOf, .int mo_mask, .int mo_first, .int mo_last, .int mo_before, .int mo_bits, .int mo_interval, .ref a_mo_data, .int mo_size, .ref a_mo_out, .int mo_outs, .int mo_part, .int mo_parted, .int mo_failed, .int mo_counting, .ref a_mo_times, .ref a_mo_prediction, .int mo_run, .ref a_mo_runBits, .int mo_runMany, .ref a_mo_toCome, .int mo_comes, .int mo_at, .int mo_taken, .int mo_left, .int mo_fault, .ref a_mo_timesKept])), (a_mo_lengths, .inl (cI, 2048, .inl mo_lengths)), (a_mo_codes, .inl (cI, 2048, .inl mo_codes)), (a_mo_data, .inl (cB, 16384, .inl mo_data))]
def rm_M_symbol : Room := { frames := 2, cells := 0, slots := 0, locals := 41 }
set_option maxHeartbeats 1000000 in
set_option maxRecDepth 100000 in
theorem c_M_symbol (l : Launch) (dC : Nat → ClassId) (dI : Nat → Nat → Nat) (cI cB cS cT : ClassId) (N : Nat) (a_mo : Nat) (a_mo_lengths : Nat) (a_mo_codes : Nat) (a_mo_data : Nat) (a_mo_h : Nat) (a_mo_v : Nat) (a_mo_across : Nat) (a_mo_down : Nat) (a_mo_ownAcross : Nat) (a_mo_ownDown : Nat) (a_mo_base : Nat) (a_mo_coefficients : Nat) (a_mo_before0 : Nat) (a_mo_draftCounts : Nat) (a_mo_draft : Nat) (a_mo_words : Nat) (a_mo_directOf : Nat) (a_mo_otherOf : Nat) (a_mo_out : Nat) (a_mo_times : Nat) (a_mo_prediction : Nat) (a_mo_runBits : Nat) (a_mo_toCome : Nat) (a_mo_timesKept : Nat) (mo_thrown : Int32) (mo_width : Int32) (mo_height : Int32) (mo_many : Int32) (mo_unitsAcross : Int32) (mo_unitsDown : Int32) (mo_drafts : Int32) (mo_mask : Int32) (mo_first : Int32) (mo_last : Int32) (mo_before : Int32) (mo_bits : Int32) (mo_interval : Int32) (mo_size : Int32) (mo_outs : Int32) (mo_part : Int32) (mo_parted : Int32) (mo_failed : Int32) (mo_counting : Int32) (mo_run : Int32) (mo_runMany : Int32) (mo_comes : Int32) (mo_at : Int32) (mo_taken : Int32) (mo_left : Int32) (mo_fault : Int32) (mo_lengths : Nat → Int32) (mo_codes : Nat → Int32) (mo_data : Nat → Int32) (p0 : Int32) (sz : Nat) (z : Int32 × Int32 × Int32 × Int32 × Int32) (hf : f_M_symbol N p0 mo_size mo_at mo_taken mo_left mo_fault mo_lengths mo_codes mo_data = some z) : Met l y_m1172 ws_m1172 rm_M_symbol (gPre (dC, dI) [.ref a_mo, .int p0] (gT cI cB cS cT) (w_M_symbol cI cB cS cT a_mo a_mo_lengths a_mo_codes a_mo_data a_mo_h a_mo_v a_mo_across a_mo_down a_mo_ownAcross a_mo_ownDown a_mo_base a_mo_coefficients a_mo_before0 a_mo_draftCounts a_mo_draft a_mo_words a_mo_directOf a_mo_otherOf a_mo_out a_mo_times a_mo_prediction a_mo_runBits a_mo_toCome a_mo_timesKept mo_thrown mo_width mo_height mo_many mo_unitsAcross mo_unitsDown mo_drafts mo_mask mo_first mo_last mo_before mo_bits mo_interval mo_size mo_outs mo_part mo_parted mo_failed mo_counting mo_run mo_runMany mo_comes mo_at mo_taken mo_left mo_fault mo_lengths mo_codes mo_data) sz) (gQi (dC, dI) (gT cI cB cS cT) z.1 (w_M_symbol cI cB cS cT a_mo a_mo_lengths a_mo_codes a_mo_data a_mo_h a_mo_v a_mo_across a_mo_down a_mo_ownAcross a_mo_ownDown a_mo_base a_mo_coefficients a_mo_before0 a_mo_draftCounts a_mo_draft a_mo_words a_mo_directOf a_mo_otherOf a_mo_out a_mo_times a_mo_prediction a_mo_runBits a_mo_toCome a_mo_timesKept mo_thrown mo_width mo_height mo_many mo_unitsAcross mo_unitsDown mo_drafts mo_mask mo_first mo_last mo_before mo_bits mo_interval mo_size mo_outs mo_part mo_parted mo_failed mo_counting mo_run mo_runMany mo_comes mo_at mo_taken mo_left mo_fault mo_lengths mo_codes mo_data) (w_M_symbol cI cB cS cT a_mo a_mo_lengths a_mo_codes a_mo_data a_mo_h a_mo_v a_mo_across a_mo_down a_mo_ownAcross a_mo_ownDown a_mo_base a_mo_coefficients a_mo_before0 a_mo_draftCounts a_mo_draft a_mo_words a_mo_directOf a_mo_otherOf a_mo_out a_mo_times a_mo_prediction a_mo_runBits a_mo_toCome a_mo_timesKept mo_thrown mo_width mo_height mo_many mo_unitsAcross mo_unitsDown mo_drafts mo_mask mo_first mo_last mo_before mo_bits mo_interval mo_size mo_outs mo_part mo_parted mo_failed mo_counting mo_run mo_runMany mo_comes z.2.1 z.2.2.1 z.2.2.2.1 z.2.2.2.2 mo_lengths mo_codes mo_data) sz) 0 0 (va_A (w_M_symbol cI cB cS cT a_mo a_mo_lengths a_mo_codes a_mo_data a_mo_h a_mo_v a_mo_across a_mo_down a_mo_ownAcross a_mo_ownDown a_mo_base a_mo_coefficients a_mo_before0 a_mo_draftCounts a_mo_draft a_mo_words a_mo_directOf a_mo_otherOf a_mo_out a_mo_times a_mo_prediction a_mo_runBits a_mo_toCome a_mo_timesKept mo_thrown mo_width mo_height mo_many mo_unitsAcross mo_unitsDown mo_drafts mo_mask mo_first mo_last mo_before mo_bits mo_interval mo_size mo_outs mo_part mo_parted mo_failed mo_counting mo_run mo_runMany mo_comes mo_at mo_taken mo_left mo_fault mo_lengths mo_codes mo_data) sz) := by
  refine Met.ofW (cc := prog_14_method_49_code) (maxL := 7) (ret := (some .int)) (by decide) rfl ?_
  intro p e s m args below meth c s₁ B hml hv
  obtain ⟨hargs, hsz, hP, hKN, hD0⟩ := hv
  have hK := hKN.1
  have hx := B.exec
  have hb := B.bytes
  have hr := B.returns
  have hts := atoms_spec (ws := ws_m1172) B.pre
  have hown : s.vm.findClass "ScanCoderModel" = some m.cls := findClass_of_methodNamed B.named
  have hlocks := B.notSynchronized
  have k0 := hts _ (List.mem_cons_of_mem _ tw_881)
  have k1 := hts _ (List.mem_cons_of_mem _ tw_853)
  have k2 := hts _ (List.mem_cons_of_mem _ tw_854)
  have n0 : ∀ w ∈ u_ws "ScanCoderModel" T_11 49, w ∈ ws_m1172 := fun w h => List.mem_cons_of_mem _ (in_11 w h)
  subst hsz
  have hD := hD0.self (sz := s.heap.size)
  obtain ⟨A, hAe⟩ : ∃ A : Nat → Prop, va_A (w_M_symbol cI cB cS cT a_mo a_mo_lengths a_mo_codes a_mo_data a_mo_h a_mo_v a_mo_across a_mo_down a_mo_ownAcross a_mo_ownDown a_mo_base a_mo_coefficients a_mo_before0 a_mo_draftCounts a_mo_draft a_mo_words a_mo_directOf a_mo_otherOf a_mo_out a_mo_times a_mo_prediction a_mo_runBits a_mo_toCome a_mo_timesKept mo_thrown mo_width mo_height mo_many mo_unitsAcross mo_unitsDown mo_drafts mo_mask mo_first mo_last mo_before mo_bits mo_interval mo_size mo_outs mo_part mo_parted mo_failed mo_counting mo_run mo_runMany mo_comes mo_at mo_taken mo_left mo_fault mo_lengths mo_codes mo_data) s.heap.size = A := ⟨_, rfl⟩
  rw [hAe] at hD
  have hA : ∀ q : Nat, s.heap.size ≤ q → A q := fun q h => by rw [← hAe]; exact Or.inr h
  have hS : va_S A s.heap s.heap [] := va_S.rf
  have hl := lv_entry ([.ref a_mo, .int p0]) (n := 7) (Nat.le_of_ble_eq_true rfl)
  have hfr : entryFrame m args 7 = F0 m 0 ((lg_sl ([.ref a_mo, .int p0]) ++ List.replicate (7 - (lg_sl ([.ref a_mo, .int p0])).length) Slot.unset).toArray) [] := by rw [hargs]; exact lg_entry_eq _ _ _
  rw [hfr]
  generalize (lg_sl ([.ref a_mo, .int p0]) ++ List.replicate (7 - (lg_sl ([.ref a_mo, .int p0])).length) Slot.unset).toArray = ls at hl ⊢
  have hl : lv_has ls 7 [(0, .ref a_mo), (1, .int p0)] := hl
  refine gen_Q (fun Q hQ => ?_)
  clear hfr
  have L23 : ∀ (v3_4 : Int32) (v2_4 : Int32) (mo_at_4 : Int32) (mo_taken_4 : Int32) (mo_left_4 : Int32) (mo_fault_4 : Int32) (z : Nat × Int32 × Int32), (z.1 = 0 → GW (dC, dI) A p l e (headSpec ws_m1172 rm_M_symbol).room s m args below meth c 0 0 Q 7 74 (w_M_symbol cI cB cS cT a_mo a_mo_lengths a_mo_codes a_mo_data a_mo_h a_mo_v a_mo_across a_mo_down a_mo_ownAcross a_mo_ownDown a_mo_base a_mo_coefficients a_mo_before0 a_mo_draftCounts a_mo_draft a_mo_words a_mo_directOf a_mo_otherOf a_mo_out a_mo_times a_mo_prediction a_mo_runBits a_mo_toCome a_mo_timesKept mo_thrown mo_width mo_height mo_many mo_unitsAcross mo_unitsDown mo_drafts mo_mask mo_first mo_last mo_before mo_bits mo_interval mo_size mo_outs mo_part mo_parted mo_failed mo_counting mo_run mo_runMany mo_comes mo_at_4 mo_taken_4 mo_left_4 mo_fault_4 mo_lengths mo_codes mo_data) [(5, .int z.2.2)] []) → (z.1 = 1 → GW (dC, dI) A p l e (headSpec ws_m1172 rm_M_symbol).room s m args below meth c 0 0 Q 7 123 (w_M_symbol cI cB cS cT a_mo a_mo_lengths a_mo_codes a_mo_data a_mo_h a_mo_v a_mo_across a_mo_down a_mo_ownAcross a_mo_ownDown a_mo_base a_mo_coefficients a_mo_before0 a_mo_draftCounts a_mo_draft a_mo_words a_mo_directOf a_mo_otherOf a_mo_out a_mo_times a_mo_prediction a_mo_runBits a_mo_toCome a_mo_timesKept mo_thrown mo_width mo_height mo_many mo_unitsAcross mo_unitsDown mo_drafts mo_mask mo_first mo_last mo_before mo_bits mo_interval mo_size mo_outs mo_part mo_parted mo_failed mo_counting mo_run mo_runMany mo_comes mo_at_4 mo_taken_4 mo_left_4 mo_fault_4 mo_lengths mo_codes mo_data) [(0, .ref a_mo), (1, .int p0), (2, .int v2_4), (3, .int v3_4), (4, .int z.2.1)] []) → ∀ (k : Nat) (v4_23 : Int32) (v5_23 : Int32), f_M_symbol_L23 p0 mo_lengths v3_4 mo_codes v2_4 N k (v4_23, v5_23) = some z → GW (dC, dI) A p l e (headSpec ws_m1172 rm_M_symbol).room s m args below meth c 0 0 Q 7 23 (w_M_symbol cI cB cS cT a_mo a_mo_lengths a_mo_codes a_mo_data a_mo_h a_mo_v a_mo_across a_mo_down a_mo_ownAcross a_mo_ownDown a_mo_base a_mo_coefficients a_mo_before0 a_mo_draftCounts a_mo_draft a_mo_words a_mo_directOf a_mo_otherOf a_mo_out a_mo_times a_mo_prediction a_mo_runBits a_mo_toCome a_mo_timesKept mo_thrown mo_width mo_height mo_many mo_unitsAcross mo_unitsDown mo_drafts mo_mask mo_first mo_last mo_before mo_bits mo_interval mo_size mo_outs mo_part mo_parted mo_failed mo_counting mo_run mo_runMany mo_comes mo_at_4 mo_taken_4 mo_left_4 mo_fault_4 mo_lengths mo_codes mo_data) [(0, .ref a_mo), (1, .int p0), (2, .int v2_4), (3, .int v3_4), (4, .int v4_23), (5, .int v5_23)] [] := by
    intro v3_4 v2_4 mo_at_4 mo_taken_4 mo_left_4 mo_fault_4 z hE0 hE1 k
    induction k with
    | zero =>
      intro v4_23 v5_23 hf
      exact (it_zero hf).elim
    | succ k ih =>
      intro v4_23 v5_23 hf H locs ls hP hD hS hl
      have J23_115 : ∀ (s0_j115 : Int32), f_M_symbol_J23_115 N (f_M_symbol_L23 p0 mo_lengths v3_4 mo_codes v2_4 N k) s0_j115 v5_23 = some z → GW (dC, dI) A p l e (headSpec ws_m1172 rm_M_symbol).room s m args below meth c 0 0 Q 7 115 (w_M_symbol cI cB cS cT a_mo a_mo_lengths a_mo_codes a_mo_data a_mo_h a_mo_v a_mo_across a_mo_down a_mo_ownAcross a_mo_ownDown a_mo_base a_mo_coefficients a_mo_before0 a_mo_draftCounts a_mo_draft a_mo_words a_mo_directOf a_mo_otherOf a_mo_out a_mo_times a_mo_prediction a_mo_runBits a_mo_toCome a_mo_timesKept mo_thrown mo_width mo_height mo_many mo_unitsAcross mo_unitsDown mo_drafts mo_mask mo_first mo_last mo_before mo_bits mo_interval mo_size mo_outs mo_part mo_parted mo_failed mo_counting mo_run mo_runMany mo_comes mo_at_4 mo_taken_4 mo_left_4 mo_fault_4 mo_lengths mo_codes mo_data) [(0, .ref a_mo), (1, .int p0), (2, .int v2_4), (3, .int v3_4), (5, .int v5_23)] [.int s0_j115] := by
        intro s0_j115 hf H locs ls hP hD hS hl
        unfold f_M_symbol_J23_115 at hf
        refine lv_istore (lv' := [(4, .int s0_j115), (0, .ref a_mo), (1, .int p0), (2, .int v2_4), (3, .int v3_4), (5, .int v5_23)]) hx hb d_m1172_115 hl (by decide) rfl (fun ls hl => ?_)
        refine lv_iinc (v := v5_23 + (1 : Int32)) (lv' := [(5, .int (v5_23 + (1 : Int32))), (4, .int s0_j115), (0, .ref a_mo), (1, .int p0), (2, .int v2_4), (3, .int v3_4)]) hx hb d_m1172_117 hl (k := 5) rfl rfl (by decide) rfl (fun ls hl => ?_)
        refine lv_goto (tgt := 23) hx hb d_m1172_120 (by decide) ?_
        exact ih s0_j115 (v5_23 + (1 : Int32)) hf H locs ls hP hD hS (lv_sub hl [2, 3, 4, 5, 1, 0] rfl)
      have J23_110 : ∀ (_ : Unit), f_M_symbol_J23_110 N (f_M_symbol_L23 p0 mo_lengths v3_4 mo_codes v2_4 N k) v5_23 = some z → GW (dC, dI) A p l e (headSpec ws_m1172 rm_M_symbol).room s m args below meth c 0 0 Q 7 110 (w_M_symbol cI cB cS cT a_mo a_mo_lengths a_mo_codes a_mo_data a_mo_h a_mo_v a_mo_across a_mo_down a_mo_ownAcross a_mo_ownDown a_mo_base a_mo_coefficients a_mo_before0 a_mo_draftCounts a_mo_draft a_mo_words a_mo_directOf a_mo_otherOf a_mo_out a_mo_times a_mo_prediction a_mo_runBits a_mo_toCome a_mo_timesKept mo_thrown mo_width mo_height mo_many mo_unitsAcross mo_unitsDown mo_drafts mo_mask mo_first mo_last mo_before mo_bits mo_interval mo_size mo_outs mo_part mo_parted mo_failed mo_counting mo_run mo_runMany mo_comes mo_at_4 mo_taken_4 mo_left_4 mo_fault_4 mo_lengths mo_codes mo_data) [(0, .ref a_mo), (1, .int p0), (2, .int v2_4), (3, .int v3_4), (5, .int v5_23)] [] := by
        intro _ hf H locs ls hP hD hS hl
        unfold f_M_symbol_J23_110 at hf
        refine lv_iconst (v := (1 : Int32)) hx hb d_m1172_110 (by decide) ?_
        refine lv_goto (tgt := 115) hx hb d_m1172_111 (by decide) ?_
        exact J23_115 (1 : Int32) hf H locs ls hP hD hS hl
      have J23_114 : ∀ (_ : Unit), f_M_symbol_J23_114 N (f_M_symbol_L23 p0 mo_lengths v3_4 mo_codes v2_4 N k) v5_23 = some z → GW (dC, dI) A p l e (headSpec ws_m1172 rm_M_symbol).room s m args below meth c 0 0 Q 7 114 (w_M_symbol cI cB cS cT a_mo a_mo_lengths a_mo_codes a_mo_data a_mo_h a_mo_v a_mo_across a_mo_down a_mo_ownAcross a_mo_ownDown a_mo_base a_mo_coefficients a_mo_before0 a_mo_draftCounts a_mo_draft a_mo_words a_mo_directOf a_mo_otherOf a_mo_out a_mo_times a_mo_prediction a_mo_runBits a_mo_toCome a_mo_timesKept mo_thrown mo_width mo_height mo_many mo_unitsAcross mo_unitsDown mo_drafts mo_mask mo_first mo_last mo_before mo_bits mo_interval mo_size mo_outs mo_part mo_parted mo_failed mo_counting mo_run mo_runMany mo_comes mo_at_4 mo_taken_4 mo_left_4 mo_fault_4 mo_lengths mo_codes mo_data) [(0, .ref a_mo), (1, .int p0), (2, .int v2_4), (3, .int v3_4), (5, .int v5_23)] [] := by
        intro _ hf H locs ls hP hD hS hl
        unfold f_M_symbol_J23_114 at hf
        refine lv_iconst (v := (0 : Int32)) hx hb d_m1172_114 (by decide) ?_
        exact J23_115 (0 : Int32) hf H locs ls hP hD hS hl
      have J23_77 : ∀ (v6_j77 : Int32), f_M_symbol_J23_77 N (f_M_symbol_L23 p0 mo_lengths v3_4 mo_codes v2_4 N k) v4_23 v6_j77 v3_4 v5_23 p0 mo_codes v2_4 = some z → GW (dC, dI) A p l e (headSpec ws_m1172 rm_M_symbol).room s m args below meth c 0 0 Q 7 77 (w_M_symbol cI cB cS cT a_mo a_mo_lengths a_mo_codes a_mo_data a_mo_h a_mo_v a_mo_across a_mo_down a_mo_ownAcross a_mo_ownDown a_mo_base a_mo_coefficients a_mo_before0 a_mo_draftCounts a_mo_draft a_mo_words a_mo_directOf a_mo_otherOf a_mo_out a_mo_times a_mo_prediction a_mo_runBits a_mo_toCome a_mo_timesKept mo_thrown mo_width mo_height mo_many mo_unitsAcross mo_unitsDown mo_drafts mo_mask mo_first mo_last mo_before mo_bits mo_interval mo_size mo_outs mo_part mo_parted mo_failed mo_counting mo_run mo_runMany mo_comes mo_at_4 mo_taken_4 mo_left_4 mo_fault_4 mo_lengths mo_codes mo_data) [(0, .ref a_mo), (1, .int p0), (2, .int v2_4), (3, .int v3_4), (4, .int v4_23), (5, .int v5_23), (6, .int v6_j77)] [] := by
        intro v6_j77 hf H locs ls hP hD hS hl
        unfold f_M_symbol_J23_77 at hf
        refine lv_iload hx hb d_m1172_77 (lv_at hl 4 rfl) ?_
        refine lv_if_ne (tgt := 110) hx hb d_m1172_79 (by decide) (fun hc => ?_) (fun hc => ?_)
        · replace hf := (if_neg hc).symm.trans hf
          exact J23_110 () hf H locs ls hP hD hS (lv_sub hl [0, 1, 2, 3, 5] rfl)
        · replace hf := (if_pos hc).symm.trans hf
          refine lv_iload hx hb d_m1172_82 (lv_at hl 6 rfl) ?_
          refine lv_iload_n hx hb d_m1172_84 rfl (lv_at hl 3 rfl) ?_
          refine lv_icmp_le (tgt := 114) hx hb d_m1172_85 (by decide) (fun hc => ?_) (fun hc => ?_)
          · replace hf := (if_pos hc).symm.trans hf
            exact J23_114 () hf H locs ls hP hD hS (lv_sub hl [0, 1, 2, 3, 5] rfl)
          · replace hf := (if_neg hc).symm.trans hf
            refine lv_aload_n hx hb d_m1172_88 rfl (lv_at hl 0 rfl) ?_
            refine va_get (D := (dC, dI)) (ci := 11) (v := .ref a_mo_codes) (C := "ScanCoderModel") (T := T_11) (N := 49) hx hb hts n0 hown hK hP 0 rfl rfl 20 (by decide) k2 (fun _ h9 => h9) rfl d_m1172_89 ?_
            refine lv_sipush (v := (256 : Int32)) hx hb d_m1172_92 (by decide) ?_
            refine lv_iload_n hx hb d_m1172_95 rfl (lv_at hl 1 rfl) ?_
            refine lv_imul hx hb d_m1172_96 ?_
            refine lv_iload hx hb d_m1172_97 (lv_at hl 5 rfl) ?_
            refine lv_iadd hx hb d_m1172_99 ?_
            obtain ⟨hi, hf⟩ := ob_if hf
            refine va_iald hx hb hK hP 2 0 rfl rfl hi d_m1172_100 ?_
            refine lv_iload hx hb d_m1172_101 (lv_at hl 6 rfl) ?_
            refine lv_iload_n hx hb d_m1172_103 rfl (lv_at hl 3 rfl) ?_
            refine lv_isub hx hb d_m1172_104 ?_
            refine lv_ishr hx hb d_m1172_105 ?_
            refine lv_iload_n hx hb d_m1172_106 rfl (lv_at hl 2 rfl) ?_
            refine lv_icmp_ne (tgt := 114) hx hb d_m1172_107 (by decide) (fun hc => ?_) (fun hc => ?_)
            · replace hf := (if_neg hc).symm.trans hf
              exact J23_114 () hf H locs ls hP hD hS (lv_sub hl [0, 1, 2, 3, 5] rfl)
            · replace hf := (if_pos hc).symm.trans hf
              exact J23_110 () hf H locs ls hP hD hS (lv_sub hl [0, 1, 2, 3, 5] rfl)
      have hf : f_M_symbol_L23b p0 mo_lengths v3_4 mo_codes v2_4 N (f_M_symbol_L23 p0 mo_lengths v3_4 mo_codes v2_4 N k) v4_23 v5_23 = some z := hf
      unfold f_M_symbol_L23b at hf
      refine lv_iload hx hb d_m1172_23 (lv_at hl 5 rfl) ?_
      refine lv_sipush (v := (256 : Int32)) hx hb d_m1172_25 (by decide) ?_
      refine lv_icmp_ge (tgt := 123) hx hb d_m1172_28 (by decide) (fun hc => ?_) (fun hc => ?_)
      · replace hf := (if_pos hc).symm.trans hf
        obtain rfl := Option.some.inj hf
        exact hE1 rfl  H locs ls hP hD hS (lv_sub hl [0, 1, 2, 3, 4] rfl)
      · replace hf := (if_neg hc).symm.trans hf
        refine lv_aload_n hx hb d_m1172_31 rfl (lv_at hl 0 rfl) ?_
        refine va_get (D := (dC, dI)) (ci := 11) (v := .ref a_mo_lengths) (C := "ScanCoderModel") (T := T_11) (N := 49) hx hb hts n0 hown hK hP 0 rfl rfl 19 (by decide) k1 (fun _ h9 => h9) rfl d_m1172_32 ?_
        refine lv_sipush (v := (256 : Int32)) hx hb d_m1172_35 (by decide) ?_
        refine lv_iload_n hx hb d_m1172_38 rfl (lv_at hl 1 rfl) ?_
        refine lv_imul hx hb d_m1172_39 ?_
        refine lv_iload hx hb d_m1172_40 (lv_at hl 5 rfl) ?_
        refine lv_iadd hx hb d_m1172_42 ?_
        obtain ⟨hi, hf⟩ := ob_if hf
        refine va_iald hx hb hK hP 1 0 rfl rfl hi d_m1172_43 ?_
        refine lv_istore (lv' := [(6, .int (mo_lengths (((256 : Int32) * p0) + v5_23).toNatClampNeg)), (0, .ref a_mo), (1, .int p0), (2, .int v2_4), (3, .int v3_4), (4, .int v4_23), (5, .int v5_23)]) hx hb d_m1172_44 hl (by decide) rfl (fun ls hl => ?_)
        refine lv_iload hx hb d_m1172_46 (lv_at hl 0 rfl) ?_
        refine lv_if_le (tgt := 77) hx hb d_m1172_48 (by decide) (fun hc => ?_) (fun hc => ?_)
        · replace hf := (if_pos hc).symm.trans hf
          exact J23_77 (mo_lengths (((256 : Int32) * p0) + v5_23).toNatClampNeg) hf H locs ls hP hD hS (lv_sub hl [1, 2, 3, 4, 5, 6, 0] rfl)
        · replace hf := (if_neg hc).symm.trans hf
          refine lv_iload hx hb d_m1172_51 (lv_at hl 0 rfl) ?_
          refine lv_iload_n hx hb d_m1172_53 rfl (lv_at hl 4 rfl) ?_
          refine lv_icmp_ne (tgt := 77) hx hb d_m1172_54 (by decide) (fun hc => ?_) (fun hc => ?_)
          · replace hf := (if_neg hc).symm.trans hf
            exact J23_77 (mo_lengths (((256 : Int32) * p0) + v5_23).toNatClampNeg) hf H locs ls hP hD hS (lv_sub hl [1, 2, 3, 4, 5, 6, 0] rfl)
          · replace hf := (if_pos hc).symm.trans hf
            refine lv_aload_n hx hb d_m1172_57 rfl (lv_at hl 1 rfl) ?_
            refine va_get (D := (dC, dI)) (ci := 11) (v := .ref a_mo_codes) (C := "ScanCoderModel") (T := T_11) (N := 49) hx hb hts n0 hown hK hP 0 rfl rfl 20 (by decide) k2 (fun _ h9 => h9) rfl d_m1172_58 ?_
            refine lv_sipush (v := (256 : Int32)) hx hb d_m1172_61 (by decide) ?_
            refine lv_iload_n hx hb d_m1172_64 rfl (lv_at hl 2 rfl) ?_
            refine lv_imul hx hb d_m1172_65 ?_
            refine lv_iload hx hb d_m1172_66 (lv_at hl 6 rfl) ?_
            refine lv_iadd hx hb d_m1172_68 ?_
            obtain ⟨hi, hf⟩ := ob_if hf
            refine va_iald hx hb hK hP 2 0 rfl rfl hi d_m1172_69 ?_
            refine lv_iload_n hx hb d_m1172_70 rfl (lv_at hl 3 rfl) ?_
            refine lv_icmp_ne (tgt := 77) hx hb d_m1172_71 (by decide) (fun hc => ?_) (fun hc => ?_)
            · replace hf := (if_neg hc).symm.trans hf
              exact J23_77 (mo_lengths (((256 : Int32) * p0) + v5_23).toNatClampNeg) hf H locs ls hP hD hS (lv_sub hl [1, 2, 3, 4, 5, 6, 0] rfl)
            · replace hf := (if_pos hc).symm.trans hf
              obtain rfl := Option.some.inj hf
              exact hE0 rfl  H locs ls hP hD hS (lv_sub hl [6] rfl)
  have L4 : ∀  (z : Nat × Int32 × Int32 × Int32 × Int32 × Int32), (z.1 = 0 → GW (dC, dI) A p l e (headSpec ws_m1172 rm_M_symbol).room s m args below meth c 0 0 Q 7 74 (w_M_symbol cI cB cS cT a_mo a_mo_lengths a_mo_codes a_mo_data a_mo_h a_mo_v a_mo_across a_mo_down a_mo_ownAcross a_mo_ownDown a_mo_base a_mo_coefficients a_mo_before0 a_mo_draftCounts a_mo_draft a_mo_words a_mo_directOf a_mo_otherOf a_mo_out a_mo_times a_mo_prediction a_mo_runBits a_mo_toCome a_mo_timesKept mo_thrown mo_width mo_height mo_many mo_unitsAcross mo_unitsDown mo_drafts mo_mask mo_first mo_last mo_before mo_bits mo_interval mo_size mo_outs mo_part mo_parted mo_failed mo_counting mo_run mo_runMany mo_comes z.2.2.1 z.2.2.2.1 z.2.2.2.2.1 z.2.2.2.2.2 mo_lengths mo_codes mo_data) [(5, .int z.2.1)] []) → (z.1 = 1 → GW (dC, dI) A p l e (headSpec ws_m1172 rm_M_symbol).room s m args below meth c 0 0 Q 7 128 (w_M_symbol cI cB cS cT a_mo a_mo_lengths a_mo_codes a_mo_data a_mo_h a_mo_v a_mo_across a_mo_down a_mo_ownAcross a_mo_ownDown a_mo_base a_mo_coefficients a_mo_before0 a_mo_draftCounts a_mo_draft a_mo_words a_mo_directOf a_mo_otherOf a_mo_out a_mo_times a_mo_prediction a_mo_runBits a_mo_toCome a_mo_timesKept mo_thrown mo_width mo_height mo_many mo_unitsAcross mo_unitsDown mo_drafts mo_mask mo_first mo_last mo_before mo_bits mo_interval mo_size mo_outs mo_part mo_parted mo_failed mo_counting mo_run mo_runMany mo_comes z.2.2.1 z.2.2.2.1 z.2.2.2.2.1 z.2.2.2.2.2 mo_lengths mo_codes mo_data) [(0, .ref a_mo)] []) → (z.1 = 2 → GW (dC, dI) A p l e (headSpec ws_m1172 rm_M_symbol).room s m args below meth c 0 0 Q 7 149 (w_M_symbol cI cB cS cT a_mo a_mo_lengths a_mo_codes a_mo_data a_mo_h a_mo_v a_mo_across a_mo_down a_mo_ownAcross a_mo_ownDown a_mo_base a_mo_coefficients a_mo_before0 a_mo_draftCounts a_mo_draft a_mo_words a_mo_directOf a_mo_otherOf a_mo_out a_mo_times a_mo_prediction a_mo_runBits a_mo_toCome a_mo_timesKept mo_thrown mo_width mo_height mo_many mo_unitsAcross mo_unitsDown mo_drafts mo_mask mo_first mo_last mo_before mo_bits mo_interval mo_size mo_outs mo_part mo_parted mo_failed mo_counting mo_run mo_runMany mo_comes z.2.2.1 z.2.2.2.1 z.2.2.2.2.1 z.2.2.2.2.2 mo_lengths mo_codes mo_data) [] []) → ∀ (k : Nat) (v2_4 : Int32) (v3_4 : Int32) (mo_at_4 : Int32) (mo_taken_4 : Int32) (mo_left_4 : Int32) (mo_fault_4 : Int32), f_M_symbol_L4 p0 mo_lengths mo_codes mo_size mo_data N k (v2_4, v3_4, mo_at_4, mo_taken_4, mo_left_4, mo_fault_4) = some z → GW (dC, dI) A p l e (headSpec ws_m1172 rm_M_symbol).room s m args below meth c 0 0 Q 7 4 (w_M_symbol cI cB cS cT a_mo a_mo_lengths a_mo_codes a_mo_data a_mo_h a_mo_v a_mo_across a_mo_down a_mo_ownAcross a_mo_ownDown a_mo_base a_mo_coefficients a_mo_before0 a_mo_draftCounts a_mo_draft a_mo_words a_mo_directOf a_mo_otherOf a_mo_out a_mo_times a_mo_prediction a_mo_runBits a_mo_toCome a_mo_timesKept mo_thrown mo_width mo_height mo_many mo_unitsAcross mo_unitsDown mo_drafts mo_mask mo_first mo_last mo_before mo_bits mo_interval mo_size mo_outs mo_part mo_parted mo_failed mo_counting mo_run mo_runMany mo_comes mo_at_4 mo_taken_4 mo_left_4 mo_fault_4 mo_lengths mo_codes mo_data) [(0, .ref a_mo), (1, .int p0), (2, .int v2_4), (3, .int v3_4)] [] := by
    intro  z hE0 hE1 hE2 k
    induction k with
    | zero =>
      intro v2_4 v3_4 mo_at_4 mo_taken_4 mo_left_4 mo_fault_4 hf
      exact (it_zero hf).elim
    | succ k ih =>
      intro v2_4 v3_4 mo_at_4 mo_taken_4 mo_left_4 mo_fault_4 hf H locs ls hP hD hS hl
      have hf : f_M_symbol_L4b p0 mo_lengths mo_codes mo_size mo_data N (f_M_symbol_L4 p0 mo_lengths mo_codes mo_size mo_data N k) v2_4 v3_4 mo_at_4 mo_taken_4 mo_left_4 mo_fault_4 = some z := hf
      unfold f_M_symbol_L4b at hf
      refine lv_iload_n hx hb d_m1172_4 rfl (lv_at hl 3 rfl) ?_
      refine lv_bipush (v := (16 : Int32)) hx hb d_m1172_5 (by decide) ?_
      refine lv_icmp_gt (tgt := 149) hx hb d_m1172_7 (by decide) (fun hc => ?_) (fun hc => ?_)
      · replace hf := (if_pos hc).symm.trans hf
        obtain rfl := Option.some.inj hf
        exact hE2 rfl  H locs ls hP hD hS (lv_sub hl [] rfl)
      · replace hf := (if_neg hc).symm.trans hf
        refine lv_aload_n hx hb d_m1172_10 rfl (lv_at hl 0 rfl) ?_
        refine va_get (D := (dC, dI)) (ci := 11) (v := .int mo_fault_4) (C := "ScanCoderModel") (T := T_11) (N := 49) hx hb hts n0 hown hK hP 0 rfl rfl 47 (by decide) k0 (fun _ h9 => h9) rfl d_m1172_11 ?_
        refine lv_if_ne (tgt := 149) hx hb d_m1172_14 (by decide) (fun hc => ?_) (fun hc => ?_)
        · replace hf := (if_neg hc).symm.trans hf
          obtain rfl := Option.some.inj hf
          exact hE2 rfl  H locs ls hP hD hS (lv_sub hl [] rfl)
        · replace hf := (if_pos hc).symm.trans hf
          refine lv_iconst (v := (0 : Int32)) hx hb d_m1172_17 (by decide) ?_
          refine lv_istore (lv' := [(4, .int (0 : Int32)), (0, .ref a_mo), (1, .int p0), (2, .int v2_4), (3, .int v3_4)]) hx hb d_m1172_18 hl (by decide) rfl (fun ls hl => ?_)
          refine lv_iconst (v := (0 : Int32)) hx hb d_m1172_20 (by decide) ?_
          refine lv_istore (lv' := [(5, .int (0 : Int32)), (4, .int (0 : Int32)), (0, .ref a_mo), (1, .int p0), (2, .int v2_4), (3, .int v3_4)]) hx hb d_m1172_21 hl (by decide) rfl (fun ls hl => ?_)
          obtain ⟨z1, hz1, hf⟩ := ob_bind hf
          refine L23 v3_4 v2_4 mo_at_4 mo_taken_4 mo_left_4 mo_fault_4 z1 ?_ ?_ N (0 : Int32) (0 : Int32) hz1 H locs ls hP hD hS (lv_sub hl [2, 3, 4, 5, 1, 0] rfl)
          · intro hz H locs ls hP hD hS hl
            replace hf := (if_pos hz).symm.trans hf
            obtain rfl := Option.some.inj hf
            exact hE0 rfl  H locs ls hP hD hS hl
          · intro hz H locs ls hP hD hS hl
            replace hf := (if_neg (by rw [hz]; decide)).symm.trans hf
            refine lv_iload hx hb d_m1172_123 (lv_at hl 4 rfl) ?_
            refine lv_if_ne (tgt := 134) hx hb d_m1172_125 (by decide) (fun hc => ?_) (fun hc => ?_)
            · replace hf := (if_neg hc).symm.trans hf
              refine lv_iconst (v := (2 : Int32)) hx hb d_m1172_134 (by decide) ?_
              refine lv_iload_n hx hb d_m1172_135 rfl (lv_at hl 2 rfl) ?_
              refine lv_imul hx hb d_m1172_136 ?_
              refine lv_aload_n hx hb d_m1172_137 rfl (lv_at hl 0 rfl) ?_
              obtain ⟨z2, hz2, hf⟩ := ob_bind hf
              refine g_calli (wc := (w_M_take cI cB cS cT a_mo a_mo_data a_mo_h a_mo_v a_mo_across a_mo_down a_mo_ownAcross a_mo_ownDown a_mo_base a_mo_coefficients a_mo_before0 a_mo_draftCounts a_mo_draft a_mo_words a_mo_lengths a_mo_codes a_mo_directOf a_mo_otherOf a_mo_out a_mo_times a_mo_prediction a_mo_runBits a_mo_toCome a_mo_timesKept mo_thrown mo_width mo_height mo_many mo_unitsAcross mo_unitsDown mo_drafts mo_mask mo_first mo_last mo_before mo_bits mo_interval mo_size mo_outs mo_part mo_parted mo_failed mo_counting mo_run mo_runMany mo_comes mo_at_4 mo_taken_4 mo_left_4 mo_fault_4 mo_data)) (w1 := (w_M_take cI cB cS cT a_mo a_mo_data a_mo_h a_mo_v a_mo_across a_mo_down a_mo_ownAcross a_mo_ownDown a_mo_base a_mo_coefficients a_mo_before0 a_mo_draftCounts a_mo_draft a_mo_words a_mo_lengths a_mo_codes a_mo_directOf a_mo_otherOf a_mo_out a_mo_times a_mo_prediction a_mo_runBits a_mo_toCome a_mo_timesKept mo_thrown mo_width mo_height mo_many mo_unitsAcross mo_unitsDown mo_drafts mo_mask mo_first mo_last mo_before mo_bits mo_interval mo_size mo_outs mo_part mo_parted mo_failed mo_counting mo_run mo_runMany mo_comes z2.2.1 z2.2.2.1 z2.2.2.2.1 z2.2.2.2.2 mo_data)) (w2 := (w_M_symbol cI cB cS cT a_mo a_mo_lengths a_mo_codes a_mo_data a_mo_h a_mo_v a_mo_across a_mo_down a_mo_ownAcross a_mo_ownDown a_mo_base a_mo_coefficients a_mo_before0 a_mo_draftCounts a_mo_draft a_mo_words a_mo_directOf a_mo_otherOf a_mo_out a_mo_times a_mo_prediction a_mo_runBits a_mo_toCome a_mo_timesKept mo_thrown mo_width mo_height mo_many mo_unitsAcross mo_unitsDown mo_drafts mo_mask mo_first mo_last mo_before mo_bits mo_interval mo_size mo_outs mo_part mo_parted mo_failed mo_counting mo_run mo_runMany mo_comes z2.2.1 z2.2.2.1 z2.2.2.2.1 z2.2.2.2.2 mo_lengths mo_codes mo_data)) [0, 3] [some 0, none, none, some 1] hP hD hS hA rfl rfl rfl rfl (va_runV (As := []) (rest := [.int ((2 : Int32) * v2_4)]) ⟨hx, hb, hml, hown, hts⟩ (c_M_take l dC dI cI cB cS cT a_mo a_mo_data a_mo_h a_mo_v a_mo_across a_mo_down a_mo_ownAcross a_mo_ownDown a_mo_base a_mo_coefficients a_mo_before0 a_mo_draftCounts a_mo_draft a_mo_words a_mo_lengths a_mo_codes a_mo_directOf a_mo_otherOf a_mo_out a_mo_times a_mo_prediction a_mo_runBits a_mo_toCome a_mo_timesKept mo_thrown mo_width mo_height mo_many mo_unitsAcross mo_unitsDown mo_drafts mo_mask mo_first mo_last mo_before mo_bits mo_interval mo_size mo_outs mo_part mo_parted mo_failed mo_counting mo_run mo_runMany mo_comes mo_at_4 mo_taken_4 mo_left_4 mo_fault_4 mo_data H.size z2 hz2) ⟨(callB_of 0 hts (gi tw_1168 rfl) rfl rfl rfl (hts _ (List.mem_cons_of_mem _ tw_16)) (hts _ (List.mem_cons_of_mem _ tw_1165)) (by decide +kernel) ⟨Nat.le_of_ble_eq_true rfl, Nat.le_of_ble_eq_true rfl⟩), hts _ (List.mem_cons_of_mem _ tw_1167), hts _ (List.mem_cons_of_mem _ ts_m1168)⟩ ⟨g_blind, va_recv hK hP (ci := 11) (q0 := 0) rfl rfl, g_at hKN (g_pm hP [0, 3] rfl) (hD.sub [0, 3] (by decide) rfl)⟩ rfl rfl hl.1 rfl (lv_room (Nat.le_of_ble_eq_true rfl)) d_m1172_138 ⟨Nat.zero_le _, Nat.zero_le _⟩) (fun H locs hP hD hS => ?_)
              refine W.eq (g2 := F0 m 141 ls [.int z2.1, .int ((2 : Int32) * v2_4)]) rfl ?_
              refine lv_iadd hx hb d_m1172_141 ?_
              refine lv_istore_n (lv' := [(2, .int (((2 : Int32) * v2_4) + z2.1)), (0, .ref a_mo), (1, .int p0), (3, .int v3_4), (4, .int z1.2.1)]) hx hb d_m1172_142 rfl hl (by decide) rfl (fun ls hl => ?_)
              refine lv_iinc (v := v3_4 + (1 : Int32)) (lv' := [(3, .int (v3_4 + (1 : Int32))), (2, .int (((2 : Int32) * v2_4) + z2.1)), (0, .ref a_mo), (1, .int p0), (4, .int z1.2.1)]) hx hb d_m1172_143 hl (k := 3) rfl rfl (by decide) rfl (fun ls hl => ?_)
              refine lv_goto (tgt := 4) hx hb d_m1172_146 (by decide) ?_
              exact ih (((2 : Int32) * v2_4) + z2.1) (v3_4 + (1 : Int32)) z2.2.1 z2.2.2.1 z2.2.2.2.1 z2.2.2.2.2 hf H locs ls hP hD hS (lv_sub hl [2, 3, 1, 0] rfl)
            · replace hf := (if_pos hc).symm.trans hf
              obtain rfl := Option.some.inj hf
              exact hE1 rfl  H locs ls hP hD hS (lv_sub hl [0] rfl)
  have hgo : ∀ (H : Heap) (locs : List Loc), va_P (dC, dI) vwCl (w_M_symbol cI cB cS cT a_mo a_mo_lengths a_mo_codes a_mo_data a_mo_h a_mo_v a_mo_across a_mo_down a_mo_ownAcross a_mo_ownDown a_mo_base a_mo_coefficients a_mo_before0 a_mo_draftCounts a_mo_draft a_mo_words a_mo_directOf a_mo_otherOf a_mo_out a_mo_times a_mo_prediction a_mo_runBits a_mo_toCome a_mo_timesKept mo_thrown mo_width mo_height mo_many mo_unitsAcross mo_unitsDown mo_drafts mo_mask mo_first mo_last mo_before mo_bits mo_interval mo_size mo_outs mo_part mo_parted mo_failed mo_counting mo_run mo_runMany mo_comes mo_at mo_taken mo_left mo_fault mo_lengths mo_codes mo_data) H → va_S A s.heap H locs → W p l e (headSpec ws_m1172 rm_M_symbol).room s m args below meth c H locs 0 0 Q (F0 m 0 ls []) := by
    intro H locs hP hS
    unfold f_M_symbol at hf
    refine lv_iconst (v := (0 : Int32)) hx hb d_m1172_0 (by decide) ?_
    refine lv_istore_n (lv' := [(2, .int (0 : Int32)), (0, .ref a_mo), (1, .int p0)]) hx hb d_m1172_1 rfl hl (by decide) rfl (fun ls hl => ?_)
    refine lv_iconst (v := (0 : Int32)) hx hb d_m1172_2 (by decide) ?_
    refine lv_istore_n (lv' := [(3, .int (0 : Int32)), (2, .int (0 : Int32)), (0, .ref a_mo), (1, .int p0)]) hx hb d_m1172_3 rfl hl (by decide) rfl (fun ls hl => ?_)
    obtain ⟨z3, hz3, hf⟩ := ob_bind hf
    refine L4  z3 ?_ ?_ ?_ N (0 : Int32) (0 : Int32) mo_at mo_taken mo_left mo_fault hz3 H locs ls hP hD hS (lv_sub hl [2, 3, 1, 0] rfl)
    · intro hz H locs ls hP hD hS hl
      replace hf := (if_pos hz).symm.trans hf
      refine lv_iload hx hb d_m1172_74 (lv_at hl 0 rfl) ?_
      obtain rfl := Option.some.inj hf
      subst hQ
      subst hAe
      exact W.iret (v := z3.2.1) hx hb hr (fun t ht hW => ⟨⟨z3.2.1, (), rfl, rfl, by rw [ht]; exact hP, hD⟩, hS.F ht⟩) hS.2.2 d_m1172_76
    · intro hz H locs ls hP hD hS hl
      replace hf := (if_neg (by rw [hz]; decide)).symm.trans hf
      replace hf := (if_pos hz).symm.trans hf
      refine lv_aload_n hx hb d_m1172_128 rfl (lv_at hl 0 rfl) ?_
      refine lv_iconst (v := (2 : Int32)) hx hb d_m1172_129 (by decide) ?_
      obtain ⟨z4, hz4, hf⟩ := ob_bind hf
      refine g_calli (wc := (w_M_wrong cI cB cS cT a_mo a_mo_h a_mo_v a_mo_across a_mo_down a_mo_ownAcross a_mo_ownDown a_mo_base a_mo_coefficients a_mo_before0 a_mo_draftCounts a_mo_draft a_mo_words a_mo_lengths a_mo_codes a_mo_directOf a_mo_otherOf a_mo_data a_mo_out a_mo_times a_mo_prediction a_mo_runBits a_mo_toCome a_mo_timesKept mo_thrown mo_width mo_height mo_many mo_unitsAcross mo_unitsDown mo_drafts mo_mask mo_first mo_last mo_before mo_bits mo_interval mo_size mo_outs mo_part mo_parted mo_failed mo_counting mo_run mo_runMany mo_comes z3.2.2.1 z3.2.2.2.1 z3.2.2.2.2.1 z3.2.2.2.2.2)) (w1 := (w_M_wrong cI cB cS cT a_mo a_mo_h a_mo_v a_mo_across a_mo_down a_mo_ownAcross a_mo_ownDown a_mo_base a_mo_coefficients a_mo_before0 a_mo_draftCounts a_mo_draft a_mo_words a_mo_lengths a_mo_codes a_mo_directOf a_mo_otherOf a_mo_data a_mo_out a_mo_times a_mo_prediction a_mo_runBits a_mo_toCome a_mo_timesKept mo_thrown mo_width mo_height mo_many mo_unitsAcross mo_unitsDown mo_drafts mo_mask mo_first mo_last mo_before mo_bits mo_interval mo_size mo_outs mo_part mo_parted mo_failed mo_counting mo_run mo_runMany mo_comes z3.2.2.1 z3.2.2.2.1 z3.2.2.2.2.1 z4.2)) (w2 := (w_M_symbol cI cB cS cT a_mo a_mo_lengths a_mo_codes a_mo_data a_mo_h a_mo_v a_mo_across a_mo_down a_mo_ownAcross a_mo_ownDown a_mo_base a_mo_coefficients a_mo_before0 a_mo_draftCounts a_mo_draft a_mo_words a_mo_directOf a_mo_otherOf a_mo_out a_mo_times a_mo_prediction a_mo_runBits a_mo_toCome a_mo_timesKept mo_thrown mo_width mo_height mo_many mo_unitsAcross mo_unitsDown mo_drafts mo_mask mo_first mo_last mo_before mo_bits mo_interval mo_size mo_outs mo_part mo_parted mo_failed mo_counting mo_run mo_runMany mo_comes z3.2.2.1 z3.2.2.2.1 z3.2.2.2.2.1 z4.2 mo_lengths mo_codes mo_data)) [0] [some 0, none, none, none] hP hD hS hA rfl rfl rfl rfl (va_runV (As := [.int (2 : Int32)]) (rest := []) ⟨hx, hb, hml, hown, hts⟩ (c_M_wrong l dC dI cI cB cS cT a_mo a_mo_h a_mo_v a_mo_across a_mo_down a_mo_ownAcross a_mo_ownDown a_mo_base a_mo_coefficients a_mo_before0 a_mo_draftCounts a_mo_draft a_mo_words a_mo_lengths a_mo_codes a_mo_directOf a_mo_otherOf a_mo_data a_mo_out a_mo_times a_mo_prediction a_mo_runBits a_mo_toCome a_mo_timesKept mo_thrown mo_width mo_height mo_many mo_unitsAcross mo_unitsDown mo_drafts mo_mask mo_first mo_last mo_before mo_bits mo_interval mo_size mo_outs mo_part mo_parted mo_failed mo_counting mo_run mo_runMany mo_comes z3.2.2.1 z3.2.2.2.1 z3.2.2.2.2.1 z3.2.2.2.2.2 (2 : Int32) H.size z4 hz4) ⟨(callB_of 1 hts (gi tw_1156 rfl) rfl rfl rfl (hts _ (List.mem_cons_of_mem _ tw_16)) (hts _ (List.mem_cons_of_mem _ tw_1153)) (by decide +kernel) ⟨Nat.le_of_ble_eq_true rfl, Nat.le_of_ble_eq_true rfl⟩), hts _ (List.mem_cons_of_mem _ tw_1155), hts _ (List.mem_cons_of_mem _ ts_m1156)⟩ ⟨g_blind, va_recv hK hP (ci := 11) (q0 := 0) rfl rfl, g_at hKN (g_pm hP [0] rfl) (hD.sub [0] (by decide) rfl)⟩ rfl rfl hl.1 rfl (lv_room (Nat.le_of_ble_eq_true rfl)) d_m1172_130 ⟨Nat.zero_le _, Nat.zero_le _⟩) (fun H locs hP hD hS => ?_)
      refine W.eq (g2 := F0 m 133 ls [.int z4.1]) rfl ?_
      obtain rfl := Option.some.inj hf
      subst hQ
      subst hAe
      exact W.iret (v := z4.1) hx hb hr (fun t ht hW => ⟨⟨z4.1, (), rfl, rfl, by rw [ht]; exact hP, hD⟩, hS.F ht⟩) hS.2.2 d_m1172_133
    · intro hz H locs ls hP hD hS hl
      replace hf := (if_neg (by rw [hz]; decide)).symm.trans hf
      replace hf := (if_neg (by rw [hz]; decide)).symm.trans hf
      refine lv_iconst (v := (0 : Int32)) hx hb d_m1172_149 (by decide) ?_
      obtain rfl := Option.some.inj hf
      subst hQ
      subst hAe
      exact W.iret (v := (0 : Int32)) hx hb hr (fun t ht hW => ⟨⟨(0 : Int32), (), rfl, rfl, by rw [ht]; exact hP, hD⟩, hS.F ht⟩) hS.2.2 d_m1172_150
  exact hgo _ _ hP hS

def f_M_numberOf (N : Nat) (p0 : Int32) (mo_size : Int32) (mo_at : Int32) (mo_taken : Int32) (mo_left : Int32) (mo_fault : Int32) (mo_data : Nat → Int32) : Option (Int32 × Int32 × Int32 × Int32 × Int32) :=
  (f_M_takes N p0 mo_size mo_at mo_taken mo_left mo_fault mo_data).bind fun z1 =>
  if p0 = 0 then
    some ((0 : Int32), z1.2.1, z1.2.2.1, z1.2.2.2.1, z1.2.2.2.2)
  else
    if (z1.1 >>> ((p0 - (1 : Int32)) &&& 31)) = (1 : Int32) then
      some (z1.1, z1.2.1, z1.2.2.1, z1.2.2.2.1, z1.2.2.2.2)
    else
      some ((z1.1 - ((1 : Int32) <<< (p0 &&& 31))) + (1 : Int32), z1.2.1, z1.2.2.1, z1.2.2.2.1, z1.2.2.2.2)
abbrev w_M_numberOf (cI cB cS cT : ClassId) (a_mo : Nat) (a_mo_data : Nat) (a_mo_h : Nat) (a_mo_v : Nat) (a_mo_across : Nat) (a_mo_down : Nat) (a_mo_ownAcross : Nat) (a_mo_ownDown : Nat) (a_mo_base : Nat) (a_mo_coefficients : Nat) (a_mo_before0 : Nat) (a_mo_draftCounts : Nat) (a_mo_draft : Nat) (a_mo_words : Nat) (a_mo_lengths : Nat) (a_mo_codes : Nat) (a_mo_directOf : Nat) (a_mo_otherOf : Nat) (a_mo_out : Nat) (a_mo_times : Nat) (a_mo_prediction : Nat) (a_mo_runBits : Nat) (a_mo_toCome : Nat) (a_mo_timesKept : Nat) (mo_thrown : Int32) (mo_width : Int32) (mo_height : Int32) (mo_many : Int32) (mo_unitsAcross : Int32) (mo_unitsDown : Int32) (mo_drafts : Int32) (mo_mask : Int32) (mo_first : Int32) (mo_last : Int32) (mo_before : Int32) (mo_bits : Int32) (mo_interval : Int32) (mo_size : Int32) (mo_outs : Int32) (mo_part : Int32) (mo_parted : Int32) (mo_failed : Int32) (mo_counting : Int32) (mo_run : Int32) (mo_runMany : Int32) (mo_comes : Int32) (mo_at : Int32) (mo_taken : Int32) (mo_left : Int32) (mo_fault : Int32) (mo_data : Nat → Int32) : va_W := [(a_mo, .inr (11, [.int mo_thrown, .int mo_width, .int mo_height, .int mo_many, .ref a_mo_h, .ref a_mo_v, .ref a_mo_across, .ref a_mo_down, .ref a_mo_ownAcross, .ref a_mo_ownDown, .ref a_mo_base, .int mo_unitsAcross, .int mo_unitsDown, .ref a_mo_coefficients, .ref a_mo_before0, .ref a_mo_draftCounts, .ref a_mo_draft, .int mo_drafts, .ref a_mo_words, .ref a_mo_lengths, .ref a_mo_codes, .ref a_mo_directOf, .ref a_mo_otherOf, .int mo_mask, .int mo_first, .int mo_last, .int mo_before, .int mo_bits, .int mo_interval, .ref a_mo_data, .int mo_size, .ref a_mo_out, .int mo_outs, .int mo_part, .int mo_parted, .int mo_failed, .int mo_counting, .ref a_mo_times, .ref a_mo_prediction, .int mo_run, .ref a_mo_runBits, .int mo_runMany, .ref a_mo_toCome, .int mo_comes, .int mo_at, .int mo_taken, .int mo_left, .int mo_fault, .ref a_mo_timesKept])), (a_mo_data, .inl (cB, 16384, .inl mo_data))]
def rm_M_numberOf : Room := { frames := 3, cells := 0, slots := 0, locals := 64 }
set_option maxHeartbeats 1000000 in
set_option maxRecDepth 100000 in
theorem c_M_numberOf (l : Launch) (dC : Nat → ClassId) (dI : Nat → Nat → Nat) (cI cB cS cT : ClassId) (N : Nat) (a_mo : Nat) (a_mo_data : Nat) (a_mo_h : Nat) (a_mo_v : Nat) (a_mo_across : Nat) (a_mo_down : Nat) (a_mo_ownAcross : Nat) (a_mo_ownDown : Nat) (a_mo_base : Nat) (a_mo_coefficients : Nat) (a_mo_before0 : Nat) (a_mo_draftCounts : Nat) (a_mo_draft : Nat) (a_mo_words : Nat) (a_mo_lengths : Nat) (a_mo_codes : Nat) (a_mo_directOf : Nat) (a_mo_otherOf : Nat) (a_mo_out : Nat) (a_mo_times : Nat) (a_mo_prediction : Nat) (a_mo_runBits : Nat) (a_mo_toCome : Nat) (a_mo_timesKept : Nat) (mo_thrown : Int32) (mo_width : Int32) (mo_height : Int32) (mo_many : Int32) (mo_unitsAcross : Int32) (mo_unitsDown : Int32) (mo_drafts : Int32) (mo_mask : Int32) (mo_first : Int32) (mo_last : Int32) (mo_before : Int32) (mo_bits : Int32) (mo_interval : Int32) (mo_size : Int32) (mo_outs : Int32) (mo_part : Int32) (mo_parted : Int32) (mo_failed : Int32) (mo_counting : Int32) (mo_run : Int32) (mo_runMany : Int32) (mo_comes : Int32) (mo_at : Int32) (mo_taken : Int32) (mo_left : Int32) (mo_fault : Int32) (mo_data : Nat → Int32) (p0 : Int32) (sz : Nat) (z : Int32 × Int32 × Int32 × Int32 × Int32) (hf : f_M_numberOf N p0 mo_size mo_at mo_taken mo_left mo_fault mo_data = some z) : Met l y_m1176 ws_m1176 rm_M_numberOf (gPre (dC, dI) [.ref a_mo, .int p0] (gT cI cB cS cT) (w_M_numberOf cI cB cS cT a_mo a_mo_data a_mo_h a_mo_v a_mo_across a_mo_down a_mo_ownAcross a_mo_ownDown a_mo_base a_mo_coefficients a_mo_before0 a_mo_draftCounts a_mo_draft a_mo_words a_mo_lengths a_mo_codes a_mo_directOf a_mo_otherOf a_mo_out a_mo_times a_mo_prediction a_mo_runBits a_mo_toCome a_mo_timesKept mo_thrown mo_width mo_height mo_many mo_unitsAcross mo_unitsDown mo_drafts mo_mask mo_first mo_last mo_before mo_bits mo_interval mo_size mo_outs mo_part mo_parted mo_failed mo_counting mo_run mo_runMany mo_comes mo_at mo_taken mo_left mo_fault mo_data) sz) (gQi (dC, dI) (gT cI cB cS cT) z.1 (w_M_numberOf cI cB cS cT a_mo a_mo_data a_mo_h a_mo_v a_mo_across a_mo_down a_mo_ownAcross a_mo_ownDown a_mo_base a_mo_coefficients a_mo_before0 a_mo_draftCounts a_mo_draft a_mo_words a_mo_lengths a_mo_codes a_mo_directOf a_mo_otherOf a_mo_out a_mo_times a_mo_prediction a_mo_runBits a_mo_toCome a_mo_timesKept mo_thrown mo_width mo_height mo_many mo_unitsAcross mo_unitsDown mo_drafts mo_mask mo_first mo_last mo_before mo_bits mo_interval mo_size mo_outs mo_part mo_parted mo_failed mo_counting mo_run mo_runMany mo_comes mo_at mo_taken mo_left mo_fault mo_data) (w_M_numberOf cI cB cS cT a_mo a_mo_data a_mo_h a_mo_v a_mo_across a_mo_down a_mo_ownAcross a_mo_ownDown a_mo_base a_mo_coefficients a_mo_before0 a_mo_draftCounts a_mo_draft a_mo_words a_mo_lengths a_mo_codes a_mo_directOf a_mo_otherOf a_mo_out a_mo_times a_mo_prediction a_mo_runBits a_mo_toCome a_mo_timesKept mo_thrown mo_width mo_height mo_many mo_unitsAcross mo_unitsDown mo_drafts mo_mask mo_first mo_last mo_before mo_bits mo_interval mo_size mo_outs mo_part mo_parted mo_failed mo_counting mo_run mo_runMany mo_comes z.2.1 z.2.2.1 z.2.2.2.1 z.2.2.2.2 mo_data) sz) 0 0 (va_A (w_M_numberOf cI cB cS cT a_mo a_mo_data a_mo_h a_mo_v a_mo_across a_mo_down a_mo_ownAcross a_mo_ownDown a_mo_base a_mo_coefficients a_mo_before0 a_mo_draftCounts a_mo_draft a_mo_words a_mo_lengths a_mo_codes a_mo_directOf a_mo_otherOf a_mo_out a_mo_times a_mo_prediction a_mo_runBits a_mo_toCome a_mo_timesKept mo_thrown mo_width mo_height mo_many mo_unitsAcross mo_unitsDown mo_drafts mo_mask mo_first mo_last mo_before mo_bits mo_interval mo_size mo_outs mo_part mo_parted mo_failed mo_counting mo_run mo_runMany mo_comes mo_at mo_taken mo_left mo_fault mo_data) sz) := by
  refine Met.ofW (cc := prog_14_method_50_code) (maxL := 3) (ret := (some .int)) (by decide) rfl ?_
  intro p e s m args below meth c s₁ B hml hv
  obtain ⟨hargs, hsz, hP, hKN, hD0⟩ := hv
  have hK := hKN.1
  have hx := B.exec
  have hb := B.bytes
  have hr := B.returns
  have hts := atoms_spec (ws := ws_m1176) B.pre
  have hown : s.vm.findClass "ScanCoderModel" = some m.cls := findClass_of_methodNamed B.named
  have hlocks := B.notSynchronized
  subst hsz
  have hD := hD0.self (sz := s.heap.size)
  obtain ⟨A, hAe⟩ : ∃ A : Nat → Prop, va_A (w_M_numberOf cI cB cS cT a_mo a_mo_data a_mo_h a_mo_v a_mo_across a_mo_down a_mo_ownAcross a_mo_ownDown a_mo_base a_mo_coefficients a_mo_before0 a_mo_draftCounts a_mo_draft a_mo_words a_mo_lengths a_mo_codes a_mo_directOf a_mo_otherOf a_mo_out a_mo_times a_mo_prediction a_mo_runBits a_mo_toCome a_mo_timesKept mo_thrown mo_width mo_height mo_many mo_unitsAcross mo_unitsDown mo_drafts mo_mask mo_first mo_last mo_before mo_bits mo_interval mo_size mo_outs mo_part mo_parted mo_failed mo_counting mo_run mo_runMany mo_comes mo_at mo_taken mo_left mo_fault mo_data) s.heap.size = A := ⟨_, rfl⟩
  rw [hAe] at hD
  have hA : ∀ q : Nat, s.heap.size ≤ q → A q := fun q h => by rw [← hAe]; exact Or.inr h
  have hS : va_S A s.heap s.heap [] := va_S.rf
  have hl := lv_entry ([.ref a_mo, .int p0]) (n := 3) (Nat.le_of_ble_eq_true rfl)
  have hfr : entryFrame m args 3 = F0 m 0 ((lg_sl ([.ref a_mo, .int p0]) ++ List.replicate (3 - (lg_sl ([.ref a_mo, .int p0])).length) Slot.unset).toArray) [] := by rw [hargs]; exact lg_entry_eq _ _ _
  rw [hfr]
  generalize (lg_sl ([.ref a_mo, .int p0]) ++ List.replicate (3 - (lg_sl ([.ref a_mo, .int p0])).length) Slot.unset).toArray = ls at hl ⊢
  have hl : lv_has ls 3 [(0, .ref a_mo), (1, .int p0)] := hl
  refine gen_Q (fun Q hQ => ?_)
  clear hfr
  have hgo : ∀ (H : Heap) (locs : List Loc), va_P (dC, dI) vwCl (w_M_numberOf cI cB cS cT a_mo a_mo_data a_mo_h a_mo_v a_mo_across a_mo_down a_mo_ownAcross a_mo_ownDown a_mo_base a_mo_coefficients a_mo_before0 a_mo_draftCounts a_mo_draft a_mo_words a_mo_lengths a_mo_codes a_mo_directOf a_mo_otherOf a_mo_out a_mo_times a_mo_prediction a_mo_runBits a_mo_toCome a_mo_timesKept mo_thrown mo_width mo_height mo_many mo_unitsAcross mo_unitsDown mo_drafts mo_mask mo_first mo_last mo_before mo_bits mo_interval mo_size mo_outs mo_part mo_parted mo_failed mo_counting mo_run mo_runMany mo_comes mo_at mo_taken mo_left mo_fault mo_data) H → va_S A s.heap H locs → W p l e (headSpec ws_m1176 rm_M_numberOf).room s m args below meth c H locs 0 0 Q (F0 m 0 ls []) := by
    intro H locs hP hS
    unfold f_M_numberOf at hf
    refine lv_aload_n hx hb d_m1176_0 rfl (lv_at hl 0 rfl) ?_
    refine lv_iload_n hx hb d_m1176_1 rfl (lv_at hl 1 rfl) ?_
    obtain ⟨z1, hz1, hf⟩ := ob_bind hf
    refine g_calli (wc := (w_M_takes cI cB cS cT a_mo a_mo_data a_mo_h a_mo_v a_mo_across a_mo_down a_mo_ownAcross a_mo_ownDown a_mo_base a_mo_coefficients a_mo_before0 a_mo_draftCounts a_mo_draft a_mo_words a_mo_lengths a_mo_codes a_mo_directOf a_mo_otherOf a_mo_out a_mo_times a_mo_prediction a_mo_runBits a_mo_toCome a_mo_timesKept mo_thrown mo_width mo_height mo_many mo_unitsAcross mo_unitsDown mo_drafts mo_mask mo_first mo_last mo_before mo_bits mo_interval mo_size mo_outs mo_part mo_parted mo_failed mo_counting mo_run mo_runMany mo_comes mo_at mo_taken mo_left mo_fault mo_data)) (w1 := (w_M_takes cI cB cS cT a_mo a_mo_data a_mo_h a_mo_v a_mo_across a_mo_down a_mo_ownAcross a_mo_ownDown a_mo_base a_mo_coefficients a_mo_before0 a_mo_draftCounts a_mo_draft a_mo_words a_mo_lengths a_mo_codes a_mo_directOf a_mo_otherOf a_mo_out a_mo_times a_mo_prediction a_mo_runBits a_mo_toCome a_mo_timesKept mo_thrown mo_width mo_height mo_many mo_unitsAcross mo_unitsDown mo_drafts mo_mask mo_first mo_last mo_before mo_bits mo_interval mo_size mo_outs mo_part mo_parted mo_failed mo_counting mo_run mo_runMany mo_comes z1.2.1 z1.2.2.1 z1.2.2.2.1 z1.2.2.2.2 mo_data)) (w2 := (w_M_numberOf cI cB cS cT a_mo a_mo_data a_mo_h a_mo_v a_mo_across a_mo_down a_mo_ownAcross a_mo_ownDown a_mo_base a_mo_coefficients a_mo_before0 a_mo_draftCounts a_mo_draft a_mo_words a_mo_lengths a_mo_codes a_mo_directOf a_mo_otherOf a_mo_out a_mo_times a_mo_prediction a_mo_runBits a_mo_toCome a_mo_timesKept mo_thrown mo_width mo_height mo_many mo_unitsAcross mo_unitsDown mo_drafts mo_mask mo_first mo_last mo_before mo_bits mo_interval mo_size mo_outs mo_part mo_parted mo_failed mo_counting mo_run mo_runMany mo_comes z1.2.1 z1.2.2.1 z1.2.2.2.1 z1.2.2.2.2 mo_data)) [0, 1] [some 0, some 1] hP hD hS hA rfl rfl rfl rfl (va_runV (As := [.int p0]) (rest := []) ⟨hx, hb, hml, hown, hts⟩ (c_M_takes l dC dI cI cB cS cT N a_mo a_mo_data a_mo_h a_mo_v a_mo_across a_mo_down a_mo_ownAcross a_mo_ownDown a_mo_base a_mo_coefficients a_mo_before0 a_mo_draftCounts a_mo_draft a_mo_words a_mo_lengths a_mo_codes a_mo_directOf a_mo_otherOf a_mo_out a_mo_times a_mo_prediction a_mo_runBits a_mo_toCome a_mo_timesKept mo_thrown mo_width mo_height mo_many mo_unitsAcross mo_unitsDown mo_drafts mo_mask mo_first mo_last mo_before mo_bits mo_interval mo_size mo_outs mo_part mo_parted mo_failed mo_counting mo_run mo_runMany mo_comes mo_at mo_taken mo_left mo_fault mo_data p0 H.size z1 hz1) ⟨(callB_of 1 hts (gi tw_1180 rfl) rfl rfl rfl (hts _ (List.mem_cons_of_mem _ tw_16)) (hts _ (List.mem_cons_of_mem _ tw_1177)) (by decide +kernel) ⟨Nat.le_of_ble_eq_true rfl, Nat.le_of_ble_eq_true rfl⟩), hts _ (List.mem_cons_of_mem _ tw_1179), hts _ (List.mem_cons_of_mem _ ts_m1180)⟩ ⟨g_blind, va_recv hK hP (ci := 11) (q0 := 0) rfl rfl, g_at hKN (g_pm hP [0, 1] rfl) (hD.sub [0, 1] (by decide) rfl)⟩ rfl rfl hl.1 rfl (lv_room (Nat.le_of_ble_eq_true rfl)) d_m1176_2 ⟨Nat.zero_le _, Nat.zero_le _⟩) (fun H locs hP hD hS => ?_)
    refine W.eq (g2 := F0 m 5 ls [.int z1.1]) rfl ?_
    refine lv_istore_n (lv' := [(2, .int z1.1), (0, .ref a_mo), (1, .int p0)]) hx hb d_m1176_5 rfl hl (by decide) rfl (fun ls hl => ?_)
    refine lv_iload_n hx hb d_m1176_6 rfl (lv_at hl 2 rfl) ?_
    refine lv_if_ne (tgt := 14) hx hb d_m1176_7 (by decide) (fun hc => ?_) (fun hc => ?_)
    · replace hf := (if_neg hc).symm.trans hf
      refine lv_iload_n hx hb d_m1176_14 rfl (lv_at hl 0 rfl) ?_
      refine lv_iload_n hx hb d_m1176_15 rfl (lv_at hl 2 rfl) ?_
      refine lv_iconst (v := (1 : Int32)) hx hb d_m1176_16 (by decide) ?_
      refine lv_isub hx hb d_m1176_17 ?_
      refine lv_ishr hx hb d_m1176_18 ?_
      refine lv_iconst (v := (1 : Int32)) hx hb d_m1176_19 (by decide) ?_
      refine lv_icmp_ne (tgt := 27) hx hb d_m1176_20 (by decide) (fun hc => ?_) (fun hc => ?_)
      · replace hf := (if_neg hc).symm.trans hf
        refine lv_iload_n hx hb d_m1176_27 rfl (lv_at hl 0 rfl) ?_
        refine lv_iconst (v := (1 : Int32)) hx hb d_m1176_28 (by decide) ?_
        refine lv_iload_n hx hb d_m1176_29 rfl (lv_at hl 2 rfl) ?_
        refine lv_ishl hx hb d_m1176_30 ?_
        refine lv_isub hx hb d_m1176_31 ?_
        refine lv_iconst (v := (1 : Int32)) hx hb d_m1176_32 (by decide) ?_
        refine lv_iadd hx hb d_m1176_33 ?_
        obtain rfl := Option.some.inj hf
        subst hQ
        subst hAe
        exact W.iret (v := (z1.1 - ((1 : Int32) <<< (p0 &&& 31))) + (1 : Int32)) hx hb hr (fun t ht hW => ⟨⟨(z1.1 - ((1 : Int32) <<< (p0 &&& 31))) + (1 : Int32), (), rfl, rfl, by rw [ht]; exact hP, hD⟩, hS.F ht⟩) hS.2.2 d_m1176_34
      · replace hf := (if_pos hc).symm.trans hf
        refine lv_iload_n hx hb d_m1176_23 rfl (lv_at hl 0 rfl) ?_
        refine lv_goto (tgt := 34) hx hb d_m1176_24 (by decide) ?_
        obtain rfl := Option.some.inj hf
        subst hQ
        subst hAe
        exact W.iret (v := z1.1) hx hb hr (fun t ht hW => ⟨⟨z1.1, (), rfl, rfl, by rw [ht]; exact hP, hD⟩, hS.F ht⟩) hS.2.2 d_m1176_34
    · replace hf := (if_pos hc).symm.trans hf
      refine lv_iconst (v := (0 : Int32)) hx hb d_m1176_10 (by decide) ?_
      refine lv_goto (tgt := 34) hx hb d_m1176_11 (by decide) ?_
      obtain rfl := Option.some.inj hf
      subst hQ
      subst hAe
      exact W.iret (v := (0 : Int32)) hx hb hr (fun t ht hW => ⟨⟨(0 : Int32), (), rfl, rfl, by rw [ht]; exact hP, hD⟩, hS.F ht⟩) hS.2.2 d_m1176_34
  exact hgo _ _ hP hS
def f_M_become_J23 (mo_fault_j23 : Int32) (p0 : Int32) (mo_base : Nat → Int32) (p1 : Int32) (p2 : Int32) (mo_coefficients : Nat → Int32) (p3 : Int32) : Option (Int32 × (Nat → Int32)) :=
  if mo_fault_j23 = 0 then
    if p0 < 0 ∨ 4 ≤ p0.toNatClampNeg then none else
    if (((64 : Int32) * ((mo_base p0.toNatClampNeg) + p1)) + p2) < 0 ∨ 12288 ≤ (((64 : Int32) * ((mo_base p0.toNatClampNeg) + p1)) + p2).toNatClampNeg then none else
    some (mo_fault_j23, upd mo_coefficients (((64 : Int32) * ((mo_base p0.toNatClampNeg) + p1)) + p2).toNatClampNeg (vp_nar .short p3.toInt16.toInt32))
  else
    some (mo_fault_j23, mo_coefficients)
def f_M_become (p0 : Int32) (p1 : Int32) (p2 : Int32) (p3 : Int32) (mo_fault : Int32) (mo_base : Nat → Int32) (mo_coefficients : Nat → Int32) : Option (Int32 × (Nat → Int32)) :=
  if mo_fault = 0 then
    (f_M_canBe p2 p3).bind fun z1 =>
    if z1 = 0 then
      (f_M_wrong (4 : Int32) mo_fault).bind fun z2 =>
      f_M_become_J23 z2.2 p0 mo_base p1 p2 mo_coefficients p3
    else
      f_M_become_J23 mo_fault p0 mo_base p1 p2 mo_coefficients p3
  else
    f_M_become_J23 mo_fault p0 mo_base p1 p2 mo_coefficients p3
abbrev w_M_become (cI cB cS cT : ClassId) (a_mo : Nat) (a_mo_base : Nat) (a_mo_coefficients : Nat) (a_mo_h : Nat) (a_mo_v : Nat) (a_mo_across : Nat) (a_mo_down : Nat) (a_mo_ownAcross : Nat) (a_mo_ownDown : Nat) (a_mo_before0 : Nat) (a_mo_draftCounts : Nat) (a_mo_draft : Nat) (a_mo_words : Nat) (a_mo_lengths : Nat) (a_mo_codes : Nat) (a_mo_directOf : Nat) (a_mo_otherOf : Nat) (a_mo_data : Nat) (a_mo_out : Nat) (a_mo_times : Nat) (a_mo_prediction : Nat) (a_mo_runBits : Nat) (a_mo_toCome : Nat) (a_mo_timesKept : Nat) (mo_thrown : Int32) (mo_width : Int32) (mo_height : Int32) (mo_many : Int32) (mo_unitsAcross : Int32) (mo_unitsDown : Int32) (mo_drafts : Int32) (mo_mask : Int32) (mo_first : Int32) (mo_last : Int32) (mo_before : Int32) (mo_bits : Int32) (mo_interval : Int32) (mo_size : Int32) (mo_outs : Int32) (mo_part : Int32) (mo_parted : Int32) (mo_failed : Int32) (mo_counting : Int32) (mo_run : Int32) (mo_runMany : Int32) (mo_comes : Int32) (mo_at : Int32) (mo_taken : Int32) (mo_left : Int32) (mo_fault : Int32) (mo_base : Nat → Int32) (mo_coefficients : Nat → Int32) : va_W := [(a_mo, .inr (11, [.int mo_thrown, .int mo_width, .int mo_height, .int mo_many, .ref a_mo_h, .ref a_mo_v, .ref a_mo_across, .ref a_mo_down, .ref a_mo_ownAcross, .ref a_mo_ownDown, .ref a_mo_base, .int mo_unitsAcross, .int mo_unitsDown, .ref a_mo_coefficients, .ref a_mo_before0, .ref a_mo_draftCounts, .ref a_mo_draft, .int mo_drafts, .ref a_mo_words, .ref a_mo_lengths, .ref a_mo_codes, .ref a_mo_directOf, .ref a_mo_otherOf, .int mo_mask, .int mo_first, .int mo_last, .int mo_before, .int mo_bits, .int mo_interval, .ref a_mo_data, .int mo_size, .ref a_mo_out, .int mo_outs, .int mo_part, .int mo_parted, .int mo_failed, .int mo_counting, .ref a_mo_times, .ref a_mo_prediction, .int mo_run, .ref a_mo_runBits, .int mo_runMany, .ref a_mo_toCome, .int mo_comes, .int mo_at, .int mo_taken, .int mo_left, .int mo_fault, .ref a_mo_timesKept])), (a_mo_base, .inl (cI, 4, .inl mo_base)), (a_mo_coefficients, .inl (cS, 12288, .inl mo_coefficients))]
def rm_M_become : Room := { frames := 1, cells := 0, slots := 0, locals := 21 }
set_option maxHeartbeats 1000000 in
set_option maxRecDepth 100000 in
theorem c_M_become (l : Launch) (dC : Nat → ClassId) (dI : Nat → Nat → Nat) (cI cB cS cT : ClassId) (a_mo : Nat) (a_mo_base : Nat) (a_mo_coefficients : Nat) (a_mo_h : Nat) (a_mo_v : Nat) (a_mo_across : Nat) (a_mo_down : Nat) (a_mo_ownAcross : Nat) (a_mo_ownDown : Nat) (a_mo_before0 : Nat) (a_mo_draftCounts : Nat) (a_mo_draft : Nat) (a_mo_words : Nat) (a_mo_lengths : Nat) (a_mo_codes : Nat) (a_mo_directOf : Nat) (a_mo_otherOf : Nat) (a_mo_data : Nat) (a_mo_out : Nat) (a_mo_times : Nat) (a_mo_prediction : Nat) (a_mo_runBits : Nat) (a_mo_toCome : Nat) (a_mo_timesKept : Nat) (mo_thrown : Int32) (mo_width : Int32) (mo_height : Int32) (mo_many : Int32) (mo_unitsAcross : Int32) (mo_unitsDown : Int32) (mo_drafts : Int32) (mo_mask : Int32) (mo_first : Int32) (mo_last : Int32) (mo_before : Int32) (mo_bits : Int32) (mo_interval : Int32) (mo_size : Int32) (mo_outs : Int32) (mo_part : Int32) (mo_parted : Int32) (mo_failed : Int32) (mo_counting : Int32) (mo_run : Int32) (mo_runMany : Int32) (mo_comes : Int32) (mo_at : Int32) (mo_taken : Int32) (mo_left : Int32) (mo_fault : Int32) (mo_base : Nat → Int32) (mo_coefficients : Nat → Int32) (p0 : Int32) (p1 : Int32) (p2 : Int32) (p3 : Int32) (sz : Nat) (z : Int32 × (Nat → Int32)) (hf : f_M_become p0 p1 p2 p3 mo_fault mo_base mo_coefficients = some z) : Met l y_m1184 ws_m1184 rm_M_become (gPre (dC, dI) [.ref a_mo, .int p0, .int p1, .int p2, .int p3] (gT cI cB cS cT) (w_M_become cI cB cS cT a_mo a_mo_base a_mo_coefficients a_mo_h a_mo_v a_mo_across a_mo_down a_mo_ownAcross a_mo_ownDown a_mo_before0 a_mo_draftCounts a_mo_draft a_mo_words a_mo_lengths a_mo_codes a_mo_directOf a_mo_otherOf a_mo_data a_mo_out a_mo_times a_mo_prediction a_mo_runBits a_mo_toCome a_mo_timesKept mo_thrown mo_width mo_height mo_many mo_unitsAcross mo_unitsDown mo_drafts mo_mask mo_first mo_last mo_before mo_bits mo_interval mo_size mo_outs mo_part mo_parted mo_failed mo_counting mo_run mo_runMany mo_comes mo_at mo_taken mo_left mo_fault mo_base mo_coefficients) sz) (gQv (dC, dI) (gT cI cB cS cT) (w_M_become cI cB cS cT a_mo a_mo_base a_mo_coefficients a_mo_h a_mo_v a_mo_across a_mo_down a_mo_ownAcross a_mo_ownDown a_mo_before0 a_mo_draftCounts a_mo_draft a_mo_words a_mo_lengths a_mo_codes a_mo_directOf a_mo_otherOf a_mo_data a_mo_out a_mo_times a_mo_prediction a_mo_runBits a_mo_toCome a_mo_timesKept mo_thrown mo_width mo_height mo_many mo_unitsAcross mo_unitsDown mo_drafts mo_mask mo_first mo_last mo_before mo_bits mo_interval mo_size mo_outs mo_part mo_parted mo_failed mo_counting mo_run mo_runMany mo_comes mo_at mo_taken mo_left mo_fault mo_base mo_coefficients) (w_M_become cI cB cS cT a_mo a_mo_base a_mo_coefficients a_mo_h a_mo_v a_mo_across a_mo_down a_mo_ownAcross a_mo_ownDown a_mo_before0 a_mo_draftCounts a_mo_draft a_mo_words a_mo_lengths a_mo_codes a_mo_directOf a_mo_otherOf a_mo_data a_mo_out a_mo_times a_mo_prediction a_mo_runBits a_mo_toCome a_mo_timesKept mo_thrown mo_width mo_height mo_many mo_unitsAcross mo_unitsDown mo_drafts mo_mask mo_first mo_last mo_before mo_bits mo_interval mo_size mo_outs mo_part mo_parted mo_failed mo_counting mo_run mo_runMany mo_comes mo_at mo_taken mo_left z.1 mo_base z.2) sz) 0 0 (va_A (w_M_become cI cB cS cT a_mo a_mo_base a_mo_coefficients a_mo_h a_mo_v a_mo_across a_mo_down a_mo_ownAcross a_mo_ownDown a_mo_before0 a_mo_draftCounts a_mo_draft a_mo_words a_mo_lengths a_mo_codes a_mo_directOf a_mo_otherOf a_mo_data a_mo_out a_mo_times a_mo_prediction a_mo_runBits a_mo_toCome a_mo_timesKept mo_thrown mo_width mo_height mo_many mo_unitsAcross mo_unitsDown mo_drafts mo_mask mo_first mo_last mo_before mo_bits mo_interval mo_size mo_outs mo_part mo_parted mo_failed mo_counting mo_run mo_runMany mo_comes mo_at mo_taken mo_left mo_fault mo_base mo_coefficients) sz) := by
  refine Met.ofW (cc := prog_14_method_51_code) (maxL := 6) (ret := none) (by decide) rfl ?_
  intro p e s m args below meth c s₁ B hml hv
  obtain ⟨hargs, hsz, hP, hKN, hD0⟩ := hv
  have hK := hKN.1
  have hx := B.exec
  have hb := B.bytes
  have hr := B.returns
  have hts := atoms_spec (ws := ws_m1184) B.pre
  have hown : s.vm.findClass "ScanCoderModel" = some m.cls := findClass_of_methodNamed B.named
  have hlocks := B.notSynchronized
  have k0 := hts _ (List.mem_cons_of_mem _ tw_881)
  have k1 := hts _ (List.mem_cons_of_mem _ tw_847)
  have k2 := hts _ (List.mem_cons_of_mem _ tw_844)
  have n0 : ∀ w ∈ u_ws "ScanCoderModel" T_11 49, w ∈ ws_m1184 := fun w h => List.mem_cons_of_mem _ (in_11 w h)
  subst hsz
  have hD := hD0.self (sz := s.heap.size)
  obtain ⟨A, hAe⟩ : ∃ A : Nat → Prop, va_A (w_M_become cI cB cS cT a_mo a_mo_base a_mo_coefficients a_mo_h a_mo_v a_mo_across a_mo_down a_mo_ownAcross a_mo_ownDown a_mo_before0 a_mo_draftCounts a_mo_draft a_mo_words a_mo_lengths a_mo_codes a_mo_directOf a_mo_otherOf a_mo_data a_mo_out a_mo_times a_mo_prediction a_mo_runBits a_mo_toCome a_mo_timesKept mo_thrown mo_width mo_height mo_many mo_unitsAcross mo_unitsDown mo_drafts mo_mask mo_first mo_last mo_before mo_bits mo_interval mo_size mo_outs mo_part mo_parted mo_failed mo_counting mo_run mo_runMany mo_comes mo_at mo_taken mo_left mo_fault mo_base mo_coefficients) s.heap.size = A := ⟨_, rfl⟩
  rw [hAe] at hD
  have hA : ∀ q : Nat, s.heap.size ≤ q → A q := fun q h => by rw [← hAe]; exact Or.inr h
  have hS : va_S A s.heap s.heap [] := va_S.rf
  have hl := lv_entry ([.ref a_mo, .int p0, .int p1, .int p2, .int p3]) (n := 6) (Nat.le_of_ble_eq_true rfl)
  have hfr : entryFrame m args 6 = F0 m 0 ((lg_sl ([.ref a_mo, .int p0, .int p1, .int p2, .int p3]) ++ List.replicate (6 - (lg_sl ([.ref a_mo, .int p0, .int p1, .int p2, .int p3])).length) Slot.unset).toArray) [] := by rw [hargs]; exact lg_entry_eq _ _ _
  rw [hfr]
  generalize (lg_sl ([.ref a_mo, .int p0, .int p1, .int p2, .int p3]) ++ List.replicate (6 - (lg_sl ([.ref a_mo, .int p0, .int p1, .int p2, .int p3])).length) Slot.unset).toArray = ls at hl ⊢
  have hl : lv_has ls 6 [(0, .ref a_mo), (1, .int p0), (2, .int p1), (3, .int p2), (4, .int p3)] := hl
  refine gen_Q (fun Q hQ => ?_)
  clear hfr
  have J23 : ∀ (mo_fault_j23 : Int32), f_M_become_J23 mo_fault_j23 p0 mo_base p1 p2 mo_coefficients p3 = some z → GW (dC, dI) A p l e (headSpec ws_m1184 rm_M_become).room s m args below meth c 0 0 Q 6 23 (w_M_become cI cB cS cT a_mo a_mo_base a_mo_coefficients a_mo_h a_mo_v a_mo_across a_mo_down a_mo_ownAcross a_mo_ownDown a_mo_before0 a_mo_draftCounts a_mo_draft a_mo_words a_mo_lengths a_mo_codes a_mo_directOf a_mo_otherOf a_mo_data a_mo_out a_mo_times a_mo_prediction a_mo_runBits a_mo_toCome a_mo_timesKept mo_thrown mo_width mo_height mo_many mo_unitsAcross mo_unitsDown mo_drafts mo_mask mo_first mo_last mo_before mo_bits mo_interval mo_size mo_outs mo_part mo_parted mo_failed mo_counting mo_run mo_runMany mo_comes mo_at mo_taken mo_left mo_fault_j23 mo_base mo_coefficients) [(0, .ref a_mo), (1, .int p0), (2, .int p1), (3, .int p2), (4, .int p3)] [] := by
    intro mo_fault_j23 hf H locs ls hP hD hS hl
    unfold f_M_become_J23 at hf
    refine lv_aload_n hx hb d_m1184_23 rfl (lv_at hl 0 rfl) ?_
    refine va_get (D := (dC, dI)) (ci := 11) (v := .int mo_fault_j23) (C := "ScanCoderModel") (T := T_11) (N := 49) hx hb hts n0 hown hK hP 0 rfl rfl 47 (by decide) k0 (fun _ h9 => h9) rfl d_m1184_24 ?_
    refine lv_if_ne (tgt := 51) hx hb d_m1184_27 (by decide) (fun hc => ?_) (fun hc => ?_)
    · replace hf := (if_neg hc).symm.trans hf
      obtain rfl := Option.some.inj hf
      subst hQ
      subst hAe
      exact W.vret hx hb hr (fun t ht hW => ⟨⟨(), rfl, trivial, by rw [ht]; exact hP, hD⟩, hS.F ht⟩) hS.2.2 d_m1184_51
    · replace hf := (if_pos hc).symm.trans hf
      refine lv_aload_n hx hb d_m1184_30 rfl (lv_at hl 0 rfl) ?_
      refine va_get (D := (dC, dI)) (ci := 11) (v := .ref a_mo_coefficients) (C := "ScanCoderModel") (T := T_11) (N := 49) hx hb hts n0 hown hK hP 0 rfl rfl 13 (by decide) k1 (fun _ h9 => h9) rfl d_m1184_31 ?_
      refine lv_bipush (v := (64 : Int32)) hx hb d_m1184_34 (by decide) ?_
      refine lv_aload_n hx hb d_m1184_36 rfl (lv_at hl 0 rfl) ?_
      refine va_get (D := (dC, dI)) (ci := 11) (v := .ref a_mo_base) (C := "ScanCoderModel") (T := T_11) (N := 49) hx hb hts n0 hown hK hP 0 rfl rfl 10 (by decide) k2 (fun _ h9 => h9) rfl d_m1184_37 ?_
      refine lv_iload_n hx hb d_m1184_40 rfl (lv_at hl 1 rfl) ?_
      obtain ⟨hi, hf⟩ := ob_if hf
      refine va_iald hx hb hK hP 1 0 rfl rfl hi d_m1184_41 ?_
      refine lv_iload_n hx hb d_m1184_42 rfl (lv_at hl 2 rfl) ?_
      refine lv_iadd hx hb d_m1184_43 ?_
      refine lv_imul hx hb d_m1184_44 ?_
      refine lv_iload_n hx hb d_m1184_45 rfl (lv_at hl 3 rfl) ?_
      refine lv_iadd hx hb d_m1184_46 ?_
      refine lv_iload hx hb d_m1184_47 (lv_at hl 4 rfl) ?_
      refine lv_i2s hx hb d_m1184_49 rfl ?_
      obtain ⟨hi, hf⟩ := ob_if hf
      refine va_sast hx hb hK hP hD hS 2 2 rfl rfl hi d_m1184_50 (fun H locs hP hD hS => ?_)
      have hP : va_P (dC, dI) vwCl (w_M_become cI cB cS cT a_mo a_mo_base a_mo_coefficients a_mo_h a_mo_v a_mo_across a_mo_down a_mo_ownAcross a_mo_ownDown a_mo_before0 a_mo_draftCounts a_mo_draft a_mo_words a_mo_lengths a_mo_codes a_mo_directOf a_mo_otherOf a_mo_data a_mo_out a_mo_times a_mo_prediction a_mo_runBits a_mo_toCome a_mo_timesKept mo_thrown mo_width mo_height mo_many mo_unitsAcross mo_unitsDown mo_drafts mo_mask mo_first mo_last mo_before mo_bits mo_interval mo_size mo_outs mo_part mo_parted mo_failed mo_counting mo_run mo_runMany mo_comes mo_at mo_taken mo_left mo_fault_j23 mo_base (upd mo_coefficients (((64 : Int32) * ((mo_base p0.toNatClampNeg) + p1)) + p2).toNatClampNeg (vp_nar .short p3.toInt16.toInt32))) H := hP
      have hD : va_D A (w_M_become cI cB cS cT a_mo a_mo_base a_mo_coefficients a_mo_h a_mo_v a_mo_across a_mo_down a_mo_ownAcross a_mo_ownDown a_mo_before0 a_mo_draftCounts a_mo_draft a_mo_words a_mo_lengths a_mo_codes a_mo_directOf a_mo_otherOf a_mo_data a_mo_out a_mo_times a_mo_prediction a_mo_runBits a_mo_toCome a_mo_timesKept mo_thrown mo_width mo_height mo_many mo_unitsAcross mo_unitsDown mo_drafts mo_mask mo_first mo_last mo_before mo_bits mo_interval mo_size mo_outs mo_part mo_parted mo_failed mo_counting mo_run mo_runMany mo_comes mo_at mo_taken mo_left mo_fault_j23 mo_base (upd mo_coefficients (((64 : Int32) * ((mo_base p0.toNatClampNeg) + p1)) + p2).toNatClampNeg (vp_nar .short p3.toInt16.toInt32))) := hD
      obtain rfl := Option.some.inj hf
      subst hQ
      subst hAe
      exact W.vret hx hb hr (fun t ht hW => ⟨⟨(), rfl, trivial, by rw [ht]; exact hP, hD⟩, hS.F ht⟩) hS.2.2 d_m1184_51
  have hgo : ∀ (H : Heap) (locs : List Loc), va_P (dC, dI) vwCl (w_M_become cI cB cS cT a_mo a_mo_base a_mo_coefficients a_mo_h a_mo_v a_mo_across a_mo_down a_mo_ownAcross a_mo_ownDown a_mo_before0 a_mo_draftCounts a_mo_draft a_mo_words a_mo_lengths a_mo_codes a_mo_directOf a_mo_otherOf a_mo_data a_mo_out a_mo_times a_mo_prediction a_mo_runBits a_mo_toCome a_mo_timesKept mo_thrown mo_width mo_height mo_many mo_unitsAcross mo_unitsDown mo_drafts mo_mask mo_first mo_last mo_before mo_bits mo_interval mo_size mo_outs mo_part mo_parted mo_failed mo_counting mo_run mo_runMany mo_comes mo_at mo_taken mo_left mo_fault mo_base mo_coefficients) H → va_S A s.heap H locs → W p l e (headSpec ws_m1184 rm_M_become).room s m args below meth c H locs 0 0 Q (F0 m 0 ls []) := by
    intro H locs hP hS
    unfold f_M_become at hf
    refine lv_aload_n hx hb d_m1184_0 rfl (lv_at hl 0 rfl) ?_
    refine va_get (D := (dC, dI)) (ci := 11) (v := .int mo_fault) (C := "ScanCoderModel") (T := T_11) (N := 49) hx hb hts n0 hown hK hP 0 rfl rfl 47 (by decide) k0 (fun _ h9 => h9) rfl d_m1184_1 ?_
    refine lv_if_ne (tgt := 23) hx hb d_m1184_4 (by decide) (fun hc => ?_) (fun hc => ?_)
    · replace hf := (if_neg hc).symm.trans hf
      exact J23 mo_fault hf H locs ls hP hD hS hl
    · replace hf := (if_pos hc).symm.trans hf
      refine lv_iload_n hx hb d_m1184_7 rfl (lv_at hl 3 rfl) ?_
      refine lv_iload hx hb d_m1184_8 (lv_at hl 4 rfl) ?_
      obtain ⟨z1, hz1, hf⟩ := ob_bind hf
      refine vp_callSi (g_run (va_runS (As := [.int p2, .int p3]) (rest := []) ⟨hx, hb, hml, hown, hts⟩ (c_M_canBe l dC dI cI cB cS cT p2 p3 z1 hz1) ⟨(callB_of 2 hts (gi tw_1030 rfl) rfl rfl rfl (hts _ (List.mem_cons_of_mem _ tw_16)) (hts _ (List.mem_cons_of_mem _ tw_1028)) (by decide +kernel) ⟨Nat.le_of_ble_eq_true rfl, Nat.le_of_ble_eq_true rfl⟩), hts _ (List.mem_cons_of_mem _ tw_1029)⟩ ⟨gp_blind, gp_at hKN (g_pm hP [] rfl)⟩ rfl rfl hl.1 rfl (lv_room (Nat.le_of_ble_eq_true rfl)) d_m1184_10 ⟨Nat.zero_le _, Nat.zero_le _⟩)) (fun r hrz1 => ?_)
      have hrz1 := hrz1.symm
      subst hrz1
      refine W.eq (g2 := F0 m 13 ls [.int z1]) rfl ?_
      refine lv_if_ne (tgt := 23) hx hb d_m1184_13 (by decide) (fun hc => ?_) (fun hc => ?_)
      · replace hf := (if_neg hc).symm.trans hf
        exact J23 mo_fault hf H locs ls hP hD hS hl
      · replace hf := (if_pos hc).symm.trans hf
        refine lv_aload_n hx hb d_m1184_16 rfl (lv_at hl 0 rfl) ?_
        refine lv_iconst (v := (4 : Int32)) hx hb d_m1184_17 (by decide) ?_
        obtain ⟨z2, hz2, hf⟩ := ob_bind hf
        refine g_calli (wc := (w_M_wrong cI cB cS cT a_mo a_mo_h a_mo_v a_mo_across a_mo_down a_mo_ownAcross a_mo_ownDown a_mo_base a_mo_coefficients a_mo_before0 a_mo_draftCounts a_mo_draft a_mo_words a_mo_lengths a_mo_codes a_mo_directOf a_mo_otherOf a_mo_data a_mo_out a_mo_times a_mo_prediction a_mo_runBits a_mo_toCome a_mo_timesKept mo_thrown mo_width mo_height mo_many mo_unitsAcross mo_unitsDown mo_drafts mo_mask mo_first mo_last mo_before mo_bits mo_interval mo_size mo_outs mo_part mo_parted mo_failed mo_counting mo_run mo_runMany mo_comes mo_at mo_taken mo_left mo_fault)) (w1 := (w_M_wrong cI cB cS cT a_mo a_mo_h a_mo_v a_mo_across a_mo_down a_mo_ownAcross a_mo_ownDown a_mo_base a_mo_coefficients a_mo_before0 a_mo_draftCounts a_mo_draft a_mo_words a_mo_lengths a_mo_codes a_mo_directOf a_mo_otherOf a_mo_data a_mo_out a_mo_times a_mo_prediction a_mo_runBits a_mo_toCome a_mo_timesKept mo_thrown mo_width mo_height mo_many mo_unitsAcross mo_unitsDown mo_drafts mo_mask mo_first mo_last mo_before mo_bits mo_interval mo_size mo_outs mo_part mo_parted mo_failed mo_counting mo_run mo_runMany mo_comes mo_at mo_taken mo_left z2.2)) (w2 := (w_M_become cI cB cS cT a_mo a_mo_base a_mo_coefficients a_mo_h a_mo_v a_mo_across a_mo_down a_mo_ownAcross a_mo_ownDown a_mo_before0 a_mo_draftCounts a_mo_draft a_mo_words a_mo_lengths a_mo_codes a_mo_directOf a_mo_otherOf a_mo_data a_mo_out a_mo_times a_mo_prediction a_mo_runBits a_mo_toCome a_mo_timesKept mo_thrown mo_width mo_height mo_many mo_unitsAcross mo_unitsDown mo_drafts mo_mask mo_first mo_last mo_before mo_bits mo_interval mo_size mo_outs mo_part mo_parted mo_failed mo_counting mo_run mo_runMany mo_comes mo_at mo_taken mo_left z2.2 mo_base mo_coefficients)) [0] [some 0, none, none] hP hD hS hA rfl rfl rfl rfl (va_runV (As := [.int (4 : Int32)]) (rest := []) ⟨hx, hb, hml, hown, hts⟩ (c_M_wrong l dC dI cI cB cS cT a_mo a_mo_h a_mo_v a_mo_across a_mo_down a_mo_ownAcross a_mo_ownDown a_mo_base a_mo_coefficients a_mo_before0 a_mo_draftCounts a_mo_draft a_mo_words a_mo_lengths a_mo_codes a_mo_directOf a_mo_otherOf a_mo_data a_mo_out a_mo_times a_mo_prediction a_mo_runBits a_mo_toCome a_mo_timesKept mo_thrown mo_width mo_height mo_many mo_unitsAcross mo_unitsDown mo_drafts mo_mask mo_first mo_last mo_before mo_bits mo_interval mo_size mo_outs mo_part mo_parted mo_failed mo_counting mo_run mo_runMany mo_comes mo_at mo_taken mo_left mo_fault (4 : Int32) H.size z2 hz2) ⟨(callB_of 1 hts (gi tw_1156 rfl) rfl rfl rfl (hts _ (List.mem_cons_of_mem _ tw_16)) (hts _ (List.mem_cons_of_mem _ tw_1153)) (by decide +kernel) ⟨Nat.le_of_ble_eq_true rfl, Nat.le_of_ble_eq_true rfl⟩), hts _ (List.mem_cons_of_mem _ tw_1155), hts _ (List.mem_cons_of_mem _ ts_m1156)⟩ ⟨g_blind, va_recv hK hP (ci := 11) (q0 := 0) rfl rfl, g_at hKN (g_pm hP [0] rfl) (hD.sub [0] (by decide) rfl)⟩ rfl rfl hl.1 rfl (lv_room (Nat.le_of_ble_eq_true rfl)) d_m1184_18 ⟨Nat.zero_le _, Nat.zero_le _⟩) (fun H locs hP hD hS => ?_)
        refine W.eq (g2 := F0 m 21 ls [.int z2.1]) rfl ?_
        refine lv_istore (lv' := [(5, .int z2.1), (0, .ref a_mo), (1, .int p0), (2, .int p1), (3, .int p2), (4, .int p3)]) hx hb d_m1184_21 hl (by decide) rfl (fun ls hl => ?_)
        exact J23 z2.2 hf H locs ls hP hD hS (lv_sub hl [1, 2, 3, 4, 5] rfl)
  exact hgo _ _ hP hS
def f_M_readDirect_J148 (N : Nat) (s1_j148 : Int32) (s2_j148 : Int32) (s3_j148 : Int32) (s4_j148 : Int32) (mo_fault_j148 : Int32) (mo_base : Nat → Int32) (mo_coefficients : Nat → Int32) (p0 : Int32) (mo_at_j148 : Int32) (mo_taken_j148 : Int32) (mo_left_j148 : Int32) (mo_prediction : Nat → Int32) (v6_j148 : Int32) : Option (Int32 × Int32 × Int32 × Int32 × (Nat → Int32) × (Nat → Int32)) :=
  (f_M_become s1_j148 s2_j148 s3_j148 s4_j148 mo_fault_j148 mo_base mo_coefficients).bind fun z3 =>
  if p0 < 0 ∨ 4 ≤ p0.toNatClampNeg then none else
  some (mo_at_j148, mo_taken_j148, mo_left_j148, z3.1, z3.2, upd mo_prediction p0.toNatClampNeg v6_j148)
def f_M_readDirect_J133 (N : Nat) (s1_j133 : Int32) (s2_j133 : Int32) (s3_j133 : Int32) (mo_fault_j133 : Int32) (mo_base : Nat → Int32) (mo_coefficients : Nat → Int32) (p0 : Int32) (mo_at_j133 : Int32) (mo_taken_j133 : Int32) (mo_left_j133 : Int32) (mo_prediction : Nat → Int32) (v6_j133 : Int32) : Option (Int32 × Int32 × Int32 × Int32 × (Nat → Int32) × (Nat → Int32)) :=
  f_M_readDirect_J148 N s1_j133 s2_j133 s3_j133 (9999 : Int32) mo_fault_j133 mo_base mo_coefficients p0 mo_at_j133 mo_taken_j133 mo_left_j133 mo_prediction v6_j133
def f_M_readDirect_J97 (N : Nat) (s1_j97 : Int32) (mo_size : Int32) (mo_at_j97 : Int32) (mo_taken_j97 : Int32) (mo_left_j97 : Int32) (mo_fault_j97 : Int32) (mo_data : Nat → Int32) (p0 : Int32) (mo_prediction : Nat → Int32) (p1 : Int32) (mo_base : Nat → Int32) (mo_coefficients : Nat → Int32) (mo_bits : Int32) : Option (Int32 × Int32 × Int32 × Int32 × (Nat → Int32) × (Nat → Int32)) :=
  (f_M_numberOf N s1_j97 mo_size mo_at_j97 mo_taken_j97 mo_left_j97 mo_fault_j97 mo_data).bind fun z2 =>
  if p0 < 0 ∨ 4 ≤ p0.toNatClampNeg then none else
  if ((mo_prediction p0.toNatClampNeg) + z2.1) < (-1024 : Int32) then
    f_M_readDirect_J133 N p0 p1 (0 : Int32) z2.2.2.2.2 mo_base mo_coefficients p0 z2.2.1 z2.2.2.1 z2.2.2.2.1 mo_prediction ((mo_prediction p0.toNatClampNeg) + z2.1)
  else
    if ((mo_prediction p0.toNatClampNeg) + z2.1) ≤ (1023 : Int32) then
      f_M_readDirect_J148 N p0 p1 (0 : Int32) (((mo_prediction p0.toNatClampNeg) + z2.1) * ((1 : Int32) <<< (mo_bits &&& 31))) z2.2.2.2.2 mo_base mo_coefficients p0 z2.2.1 z2.2.2.1 z2.2.2.2.1 mo_prediction ((mo_prediction p0.toNatClampNeg) + z2.1)
    else
      f_M_readDirect_J133 N p0 p1 (0 : Int32) z2.2.2.2.2 mo_base mo_coefficients p0 z2.2.1 z2.2.2.1 z2.2.2.2.1 mo_prediction ((mo_prediction p0.toNatClampNeg) + z2.1)
def f_M_readDirect_J83 (N : Nat) (mo_fault_j83 : Int32) (v4_j83 : Int32) (mo_size : Int32) (mo_at_j83 : Int32) (mo_taken_j83 : Int32) (mo_left_j83 : Int32) (mo_data : Nat → Int32) (p0 : Int32) (mo_prediction : Nat → Int32) (p1 : Int32) (mo_base : Nat → Int32) (mo_coefficients : Nat → Int32) (mo_bits : Int32) : Option (Int32 × Int32 × Int32 × Int32 × (Nat → Int32) × (Nat → Int32)) :=
  if mo_fault_j83 ≤ 0 then
    f_M_readDirect_J97 N v4_j83 mo_size mo_at_j83 mo_taken_j83 mo_left_j83 mo_fault_j83 mo_data p0 mo_prediction p1 mo_base mo_coefficients mo_bits
  else
    f_M_readDirect_J97 N (0 : Int32) mo_size mo_at_j83 mo_taken_j83 mo_left_j83 mo_fault_j83 mo_data p0 mo_prediction p1 mo_base mo_coefficients mo_bits
def f_M_readDirect_J54 (N : Nat) (s1_j54 : Int32) (mo_at_j54 : Int32) (mo_taken_j54 : Int32) (mo_left_j54 : Int32) (mo_fault_j54 : Int32) (mo_coefficients : Nat → Int32) (s2_j54 : Int32) (mo_prediction : Nat → Int32) : Option (Int32 × Int32 × Int32 × Int32 × (Nat → Int32) × (Nat → Int32)) :=
  if s1_j54 < 0 ∨ 12288 ≤ s1_j54.toNatClampNeg then none else
  some (mo_at_j54, mo_taken_j54, mo_left_j54, mo_fault_j54, upd mo_coefficients s1_j54.toNatClampNeg (vp_nar .short s2_j54.toInt16.toInt32), mo_prediction)
def f_M_readDirect (N : Nat) (p0 : Int32) (p1 : Int32) (mo_before : Int32) (mo_bits : Int32) (mo_size : Int32) (mo_at : Int32) (mo_taken : Int32) (mo_left : Int32) (mo_fault : Int32) (mo_base : Nat → Int32) (mo_coefficients : Nat → Int32) (mo_lengths : Nat → Int32) (mo_codes : Nat → Int32) (mo_directOf : Nat → Int32) (mo_data : Nat → Int32) (mo_prediction : Nat → Int32) : Option (Int32 × Int32 × Int32 × Int32 × (Nat → Int32) × (Nat → Int32)) :=
  if p0 < 0 ∨ 4 ≤ p0.toNatClampNeg then none else
  if mo_before ≤ 0 then
    if p0 < 0 ∨ 4 ≤ p0.toNatClampNeg then none else
    (f_M_symbol N (mo_directOf p0.toNatClampNeg) mo_size mo_at mo_taken mo_left mo_fault mo_lengths mo_codes mo_data).bind fun z1 =>
    if z1.1 ≤ (11 : Int32) then
      f_M_readDirect_J83 N z1.2.2.2.2 z1.1 mo_size z1.2.1 z1.2.2.1 z1.2.2.2.1 mo_data p0 mo_prediction p1 mo_base mo_coefficients mo_bits
    else
      (f_M_wrong (3 : Int32) z1.2.2.2.2).bind fun z4 =>
      f_M_readDirect_J83 N z4.2 z1.1 mo_size z1.2.1 z1.2.2.1 z1.2.2.2.1 mo_data p0 mo_prediction p1 mo_base mo_coefficients mo_bits
  else
    (f_M_take mo_size mo_at mo_taken mo_left mo_fault mo_data).bind fun z5 =>
    if z5.1 = (1 : Int32) then
      if ((64 : Int32) * ((mo_base p0.toNatClampNeg) + p1)) < 0 ∨ 12288 ≤ ((64 : Int32) * ((mo_base p0.toNatClampNeg) + p1)).toNatClampNeg then none else
      f_M_readDirect_J54 N ((64 : Int32) * ((mo_base p0.toNatClampNeg) + p1)) z5.2.1 z5.2.2.1 z5.2.2.2.1 z5.2.2.2.2 mo_coefficients ((mo_coefficients ((64 : Int32) * ((mo_base p0.toNatClampNeg) + p1)).toNatClampNeg) ||| ((1 : Int32) <<< (mo_bits &&& 31))) mo_prediction
    else
      if ((64 : Int32) * ((mo_base p0.toNatClampNeg) + p1)) < 0 ∨ 12288 ≤ ((64 : Int32) * ((mo_base p0.toNatClampNeg) + p1)).toNatClampNeg then none else
      f_M_readDirect_J54 N ((64 : Int32) * ((mo_base p0.toNatClampNeg) + p1)) z5.2.1 z5.2.2.1 z5.2.2.2.1 z5.2.2.2.2 mo_coefficients (mo_coefficients ((64 : Int32) * ((mo_base p0.toNatClampNeg) + p1)).toNatClampNeg) mo_prediction
abbrev w_M_readDirect (cI cB cS cT : ClassId) (a_mo : Nat) (a_mo_base : Nat) (a_mo_coefficients : Nat) (a_mo_lengths : Nat) (a_mo_codes : Nat) (a_mo_directOf : Nat) (a_mo_data : Nat) (a_mo_prediction : Nat) (a_mo_h : Nat) (a_mo_v : Nat) (a_mo_across : Nat) (a_mo_down : Nat) (a_mo_ownAcross : Nat) (a_mo_ownDown : Nat) (a_mo_before0 : Nat) (a_mo_draftCounts : Nat) (a_mo_draft : Nat) (a_mo_words : Nat) (a_mo_otherOf : Nat) (a_mo_out : Nat) (a_mo_times : Nat) (a_mo_runBits : Nat) (a_mo_toCome : Nat) (a_mo_timesKept : Nat) (mo_thrown : Int32) (mo_width : Int32) (mo_height : Int32) (mo_many : Int32) (mo_unitsAcross : Int32) (mo_unitsDown : Int32) (mo_drafts : Int32) (mo_mask : Int32) (mo_first : Int32) (mo_last : Int32) (mo_before : Int32) (mo_bits : Int32) (mo_interval : Int32) (mo_size : Int32) (mo_outs : Int32) (mo_part : Int32) (mo_parted : Int32) (mo_failed : Int32) (mo_counting : Int32) (mo_run : Int32) (mo_runMany : Int32) (mo_comes : Int32) (mo_at : Int32) (mo_taken : Int32) (mo_left : Int32) (mo_fault : Int32) (mo_base : Nat → Int32) (mo_coefficients : Nat → Int32) (mo_lengths : Nat → Int32) (mo_codes : Nat → Int32) (mo_directOf : Nat → Int32) (mo_data : Nat → Int32) (mo_prediction : Nat → Int32) : va_W := [(a_mo, .inr (11, [.int mo_thrown, .int mo_width, .int mo_height, .int mo_many, .ref a_mo_h, .ref a_mo_v, .ref a_mo_across, .ref a_mo_down, .ref a_mo_ownAcross, .ref a_mo_ownDown, .ref a_mo_base, .int mo_unitsAcross, .int mo_unitsDown, .ref a_mo_coefficients, .ref a_mo_before0, .ref a_mo_draftCounts, .ref a_mo_draft, .int mo_drafts, .ref a_mo_words, .ref a_mo_lengths, .ref a_mo_codes, .ref a_mo_directOf, .ref a_mo_otherOf, .int mo_mask, .int mo_first, .int mo_last, .int mo_before, .int mo_bits, .int mo_interval, .ref a_mo_data, .int mo_size, .ref a_mo_out, .int mo_outs, .int mo_part, .int mo_parted, .int mo_failed, .int mo_counting, .ref a_mo_times, .ref a_mo_prediction, .int mo_run, .ref a_mo_runBits, .int mo_runMany, .ref a_mo_toCome, .int mo_comes, .int mo_at, .int mo_taken, .int mo_left, .int mo_fault, .ref a_mo_timesKept])), (a_mo_base, .inl (cI, 4, .inl mo_base)), (a_mo_coefficients, .inl (cS, 12288, .inl mo_coefficients)), (a_mo_lengths, .inl (cI, 2048, .inl mo_lengths)), (a_mo_codes, .inl (cI, 2048, .inl mo_codes)), (a_mo_directOf, .inl (cI, 4, .inl mo_directOf)), (a_mo_data, .inl (cB, 16384, .inl mo_data)), (a_mo_prediction, .inl (cI, 4, .inl mo_prediction))]
def rm_M_readDirect : Room := { frames := 4, cells := 0, slots := 0, locals := 86 }
set_option maxHeartbeats 1000000 in
set_option maxRecDepth 100000 in
theorem c_M_readDirect (l : Launch) (dC : Nat → ClassId) (dI : Nat → Nat → Nat) (cI cB cS cT : ClassId) (N : Nat) (a_mo : Nat) (a_mo_base : Nat) (a_mo_coefficients : Nat) (a_mo_lengths : Nat) (a_mo_codes : Nat) (a_mo_directOf : Nat) (a_mo_data : Nat) (a_mo_prediction : Nat) (a_mo_h : Nat) (a_mo_v : Nat) (a_mo_across : Nat) (a_mo_down : Nat) (a_mo_ownAcross : Nat) (a_mo_ownDown : Nat) (a_mo_before0 : Nat) (a_mo_draftCounts : Nat) (a_mo_draft : Nat) (a_mo_words : Nat) (a_mo_otherOf : Nat) (a_mo_out : Nat) (a_mo_times : Nat) (a_mo_runBits : Nat) (a_mo_toCome : Nat) (a_mo_timesKept : Nat) (mo_thrown : Int32) (mo_width : Int32) (mo_height : Int32) (mo_many : Int32) (mo_unitsAcross : Int32) (mo_unitsDown : Int32) (mo_drafts : Int32) (mo_mask : Int32) (mo_first : Int32) (mo_last : Int32) (mo_before : Int32) (mo_bits : Int32) (mo_interval : Int32) (mo_size : Int32) (mo_outs : Int32) (mo_part : Int32) (mo_parted : Int32) (mo_failed : Int32) (mo_counting : Int32) (mo_run : Int32) (mo_runMany : Int32) (mo_comes : Int32) (mo_at : Int32) (mo_taken : Int32) (mo_left : Int32) (mo_fault : Int32) (mo_base : Nat → Int32) (mo_coefficients : Nat → Int32) (mo_lengths : Nat → Int32) (mo_codes : Nat → Int32) (mo_directOf : Nat → Int32) (mo_data : Nat → Int32) (mo_prediction : Nat → Int32) (p0 : Int32) (p1 : Int32) (sz : Nat) (z : Int32 × Int32 × Int32 × Int32 × (Nat → Int32) × (Nat → Int32)) (hf : f_M_readDirect N p0 p1 mo_before mo_bits mo_size mo_at mo_taken mo_left mo_fault mo_base mo_coefficients mo_lengths mo_codes mo_directOf mo_data mo_prediction = some z) : Met l y_m1164 ws_m1164 rm_M_readDirect (gPre (dC, dI) [.ref a_mo, .int p0, .int p1] (gT cI cB cS cT) (w_M_readDirect cI cB cS cT a_mo a_mo_base a_mo_coefficients a_mo_lengths a_mo_codes a_mo_directOf a_mo_data a_mo_prediction a_mo_h a_mo_v a_mo_across a_mo_down a_mo_ownAcross a_mo_ownDown a_mo_before0 a_mo_draftCounts a_mo_draft a_mo_words a_mo_otherOf a_mo_out a_mo_times a_mo_runBits a_mo_toCome a_mo_timesKept mo_thrown mo_width mo_height mo_many mo_unitsAcross mo_unitsDown mo_drafts mo_mask mo_first mo_last mo_before mo_bits mo_interval mo_size mo_outs mo_part mo_parted mo_failed mo_counting mo_run mo_runMany mo_comes mo_at mo_taken mo_left mo_fault mo_base mo_coefficients mo_lengths mo_codes mo_directOf mo_data mo_prediction) sz) (gQv (dC, dI) (gT cI cB cS cT) (w_M_readDirect cI cB cS cT a_mo a_mo_base a_mo_coefficients a_mo_lengths a_mo_codes a_mo_directOf a_mo_data a_mo_prediction a_mo_h a_mo_v a_mo_across a_mo_down a_mo_ownAcross a_mo_ownDown a_mo_before0 a_mo_draftCounts a_mo_draft a_mo_words a_mo_otherOf a_mo_out a_mo_times a_mo_runBits a_mo_toCome a_mo_timesKept mo_thrown mo_width mo_height mo_many mo_unitsAcross mo_unitsDown mo_drafts mo_mask mo_first mo_last mo_before mo_bits mo_interval mo_size mo_outs mo_part mo_parted mo_failed mo_counting mo_run mo_runMany mo_comes mo_at mo_taken mo_left mo_fault mo_base mo_coefficients mo_lengths mo_codes mo_directOf mo_data mo_prediction) (w_M_readDirect cI cB cS cT a_mo a_mo_base a_mo_coefficients a_mo_lengths a_mo_codes a_mo_directOf a_mo_data a_mo_prediction a_mo_h a_mo_v a_mo_across a_mo_down a_mo_ownAcross a_mo_ownDown a_mo_before0 a_mo_draftCounts a_mo_draft a_mo_words a_mo_otherOf a_mo_out a_mo_times a_mo_runBits a_mo_toCome a_mo_timesKept mo_thrown mo_width mo_height mo_many mo_unitsAcross mo_unitsDown mo_drafts mo_mask mo_first mo_last mo_before mo_bits mo_interval mo_size mo_outs mo_part mo_parted mo_failed mo_counting mo_run mo_runMany mo_comes z.1 z.2.1 z.2.2.1 z.2.2.2.1 mo_base z.2.2.2.2.1 mo_lengths mo_codes mo_directOf mo_data z.2.2.2.2.2) sz) 0 0 (va_A (w_M_readDirect cI cB cS cT a_mo a_mo_base a_mo_coefficients a_mo_lengths a_mo_codes a_mo_directOf a_mo_data a_mo_prediction a_mo_h a_mo_v a_mo_across a_mo_down a_mo_ownAcross a_mo_ownDown a_mo_before0 a_mo_draftCounts a_mo_draft a_mo_words a_mo_otherOf a_mo_out a_mo_times a_mo_runBits a_mo_toCome a_mo_timesKept mo_thrown mo_width mo_height mo_many mo_unitsAcross mo_unitsDown mo_drafts mo_mask mo_first mo_last mo_before mo_bits mo_interval mo_size mo_outs mo_part mo_parted mo_failed mo_counting mo_run mo_runMany mo_comes mo_at mo_taken mo_left mo_fault mo_base mo_coefficients mo_lengths mo_codes mo_directOf mo_data mo_prediction) sz) := by
  refine Met.ofW (cc := prog_14_method_52_code) (maxL := 7) (ret := none) (by decide) rfl ?_
  intro p e s m args below meth c s₁ B hml hv
  obtain ⟨hargs, hsz, hP, hKN, hD0⟩ := hv
  have hK := hKN.1
  have hx := B.exec
  have hb := B.bytes
  have hr := B.returns
  have hts := atoms_spec (ws := ws_m1164) B.pre
  have hown : s.vm.findClass "ScanCoderModel" = some m.cls := findClass_of_methodNamed B.named
  have hlocks := B.notSynchronized
  have k0 := hts _ (List.mem_cons_of_mem _ tw_844)
  have k1 := hts _ (List.mem_cons_of_mem _ tw_860)
  have k2 := hts _ (List.mem_cons_of_mem _ tw_855)
  have k3 := hts _ (List.mem_cons_of_mem _ tw_881)
  have k4 := hts _ (List.mem_cons_of_mem _ tw_872)
  have k5 := hts _ (List.mem_cons_of_mem _ tw_861)
  have k6 := hts _ (List.mem_cons_of_mem _ tw_847)
  have n0 : ∀ w ∈ u_ws "ScanCoderModel" T_11 49, w ∈ ws_m1164 := fun w h => List.mem_cons_of_mem _ (in_11 w h)
  subst hsz
  have hD := hD0.self (sz := s.heap.size)
  obtain ⟨A, hAe⟩ : ∃ A : Nat → Prop, va_A (w_M_readDirect cI cB cS cT a_mo a_mo_base a_mo_coefficients a_mo_lengths a_mo_codes a_mo_directOf a_mo_data a_mo_prediction a_mo_h a_mo_v a_mo_across a_mo_down a_mo_ownAcross a_mo_ownDown a_mo_before0 a_mo_draftCounts a_mo_draft a_mo_words a_mo_otherOf a_mo_out a_mo_times a_mo_runBits a_mo_toCome a_mo_timesKept mo_thrown mo_width mo_height mo_many mo_unitsAcross mo_unitsDown mo_drafts mo_mask mo_first mo_last mo_before mo_bits mo_interval mo_size mo_outs mo_part mo_parted mo_failed mo_counting mo_run mo_runMany mo_comes mo_at mo_taken mo_left mo_fault mo_base mo_coefficients mo_lengths mo_codes mo_directOf mo_data mo_prediction) s.heap.size = A := ⟨_, rfl⟩
  rw [hAe] at hD
  have hA : ∀ q : Nat, s.heap.size ≤ q → A q := fun q h => by rw [← hAe]; exact Or.inr h
  have hS : va_S A s.heap s.heap [] := va_S.rf
  have hl := lv_entry ([.ref a_mo, .int p0, .int p1]) (n := 7) (Nat.le_of_ble_eq_true rfl)
  have hfr : entryFrame m args 7 = F0 m 0 ((lg_sl ([.ref a_mo, .int p0, .int p1]) ++ List.replicate (7 - (lg_sl ([.ref a_mo, .int p0, .int p1])).length) Slot.unset).toArray) [] := by rw [hargs]; exact lg_entry_eq _ _ _
  rw [hfr]
  generalize (lg_sl ([.ref a_mo, .int p0, .int p1]) ++ List.replicate (7 - (lg_sl ([.ref a_mo, .int p0, .int p1])).length) Slot.unset).toArray = ls at hl ⊢
  have hl : lv_has ls 7 [(0, .ref a_mo), (1, .int p0), (2, .int p1)] := hl
  refine gen_Q (fun Q hQ => ?_)
  clear hfr
  have J148 : ∀ (v6_j148 : Int32) (mo_at_j148 : Int32) (mo_taken_j148 : Int32) (mo_left_j148 : Int32) (mo_fault_j148 : Int32) (s1_j148 : Int32) (s2_j148 : Int32) (s3_j148 : Int32) (s4_j148 : Int32), f_M_readDirect_J148 N s1_j148 s2_j148 s3_j148 s4_j148 mo_fault_j148 mo_base mo_coefficients p0 mo_at_j148 mo_taken_j148 mo_left_j148 mo_prediction v6_j148 = some z → GW (dC, dI) A p l e (headSpec ws_m1164 rm_M_readDirect).room s m args below meth c 0 0 Q 7 148 (w_M_readDirect cI cB cS cT a_mo a_mo_base a_mo_coefficients a_mo_lengths a_mo_codes a_mo_directOf a_mo_data a_mo_prediction a_mo_h a_mo_v a_mo_across a_mo_down a_mo_ownAcross a_mo_ownDown a_mo_before0 a_mo_draftCounts a_mo_draft a_mo_words a_mo_otherOf a_mo_out a_mo_times a_mo_runBits a_mo_toCome a_mo_timesKept mo_thrown mo_width mo_height mo_many mo_unitsAcross mo_unitsDown mo_drafts mo_mask mo_first mo_last mo_before mo_bits mo_interval mo_size mo_outs mo_part mo_parted mo_failed mo_counting mo_run mo_runMany mo_comes mo_at_j148 mo_taken_j148 mo_left_j148 mo_fault_j148 mo_base mo_coefficients mo_lengths mo_codes mo_directOf mo_data mo_prediction) [(0, .ref a_mo), (1, .int p0), (6, .int v6_j148)] [.int s4_j148, .int s3_j148, .int s2_j148, .int s1_j148, .ref a_mo] := by
    intro v6_j148 mo_at_j148 mo_taken_j148 mo_left_j148 mo_fault_j148 s1_j148 s2_j148 s3_j148 s4_j148 hf H locs ls hP hD hS hl
    unfold f_M_readDirect_J148 at hf
    obtain ⟨z3, hz3, hf⟩ := ob_bind hf
    refine g_callv (wc := (w_M_become cI cB cS cT a_mo a_mo_base a_mo_coefficients a_mo_h a_mo_v a_mo_across a_mo_down a_mo_ownAcross a_mo_ownDown a_mo_before0 a_mo_draftCounts a_mo_draft a_mo_words a_mo_lengths a_mo_codes a_mo_directOf a_mo_otherOf a_mo_data a_mo_out a_mo_times a_mo_prediction a_mo_runBits a_mo_toCome a_mo_timesKept mo_thrown mo_width mo_height mo_many mo_unitsAcross mo_unitsDown mo_drafts mo_mask mo_first mo_last mo_before mo_bits mo_interval mo_size mo_outs mo_part mo_parted mo_failed mo_counting mo_run mo_runMany mo_comes mo_at_j148 mo_taken_j148 mo_left_j148 mo_fault_j148 mo_base mo_coefficients)) (w1 := (w_M_become cI cB cS cT a_mo a_mo_base a_mo_coefficients a_mo_h a_mo_v a_mo_across a_mo_down a_mo_ownAcross a_mo_ownDown a_mo_before0 a_mo_draftCounts a_mo_draft a_mo_words a_mo_lengths a_mo_codes a_mo_directOf a_mo_otherOf a_mo_data a_mo_out a_mo_times a_mo_prediction a_mo_runBits a_mo_toCome a_mo_timesKept mo_thrown mo_width mo_height mo_many mo_unitsAcross mo_unitsDown mo_drafts mo_mask mo_first mo_last mo_before mo_bits mo_interval mo_size mo_outs mo_part mo_parted mo_failed mo_counting mo_run mo_runMany mo_comes mo_at_j148 mo_taken_j148 mo_left_j148 z3.1 mo_base z3.2)) (w2 := (w_M_readDirect cI cB cS cT a_mo a_mo_base a_mo_coefficients a_mo_lengths a_mo_codes a_mo_directOf a_mo_data a_mo_prediction a_mo_h a_mo_v a_mo_across a_mo_down a_mo_ownAcross a_mo_ownDown a_mo_before0 a_mo_draftCounts a_mo_draft a_mo_words a_mo_otherOf a_mo_out a_mo_times a_mo_runBits a_mo_toCome a_mo_timesKept mo_thrown mo_width mo_height mo_many mo_unitsAcross mo_unitsDown mo_drafts mo_mask mo_first mo_last mo_before mo_bits mo_interval mo_size mo_outs mo_part mo_parted mo_failed mo_counting mo_run mo_runMany mo_comes mo_at_j148 mo_taken_j148 mo_left_j148 z3.1 mo_base z3.2 mo_lengths mo_codes mo_directOf mo_data mo_prediction)) [0, 1, 2] [some 0, some 1, some 2, none, none, none, none, none] hP hD hS hA rfl rfl rfl rfl (va_runV (As := [.int s1_j148, .int s2_j148, .int s3_j148, .int s4_j148]) (rest := []) ⟨hx, hb, hml, hown, hts⟩ (c_M_become l dC dI cI cB cS cT a_mo a_mo_base a_mo_coefficients a_mo_h a_mo_v a_mo_across a_mo_down a_mo_ownAcross a_mo_ownDown a_mo_before0 a_mo_draftCounts a_mo_draft a_mo_words a_mo_lengths a_mo_codes a_mo_directOf a_mo_otherOf a_mo_data a_mo_out a_mo_times a_mo_prediction a_mo_runBits a_mo_toCome a_mo_timesKept mo_thrown mo_width mo_height mo_many mo_unitsAcross mo_unitsDown mo_drafts mo_mask mo_first mo_last mo_before mo_bits mo_interval mo_size mo_outs mo_part mo_parted mo_failed mo_counting mo_run mo_runMany mo_comes mo_at_j148 mo_taken_j148 mo_left_j148 mo_fault_j148 mo_base mo_coefficients s1_j148 s2_j148 s3_j148 s4_j148 H.size z3 hz3) ⟨(callB_of 4 hts (gi tw_1184 rfl) rfl rfl rfl (hts _ (List.mem_cons_of_mem _ tw_16)) (hts _ (List.mem_cons_of_mem _ tw_1181)) (by decide +kernel) ⟨Nat.le_of_ble_eq_true rfl, Nat.le_of_ble_eq_true rfl⟩), hts _ (List.mem_cons_of_mem _ tw_1183), hts _ (List.mem_cons_of_mem _ ts_m1184)⟩ ⟨g_blind, va_recv hK hP (ci := 11) (q0 := 0) rfl rfl, g_at hKN (g_pm hP [0, 1, 2] rfl) (hD.sub [0, 1, 2] (by decide) rfl)⟩ rfl rfl hl.1 rfl (lv_room (Nat.le_of_ble_eq_true rfl)) d_m1164_148 ⟨Nat.zero_le _, Nat.zero_le _⟩) (fun H locs hP hD hS => ?_)
    refine W.eq (g2 := F0 m 151 ls []) rfl ?_
    refine lv_aload_n hx hb d_m1164_151 rfl (lv_at hl 0 rfl) ?_
    refine va_get (D := (dC, dI)) (ci := 11) (v := .ref a_mo_prediction) (C := "ScanCoderModel") (T := T_11) (N := 49) hx hb hts n0 hown hK hP 0 rfl rfl 38 (by decide) k4 (fun _ h9 => h9) rfl d_m1164_152 ?_
    refine lv_iload_n hx hb d_m1164_155 rfl (lv_at hl 1 rfl) ?_
    refine lv_iload hx hb d_m1164_156 (lv_at hl 2 rfl) ?_
    obtain ⟨hi, hf⟩ := ob_if hf
    refine va_iast hx hb hK hP hD hS 7 0 rfl rfl hi d_m1164_158 (fun H locs hP hD hS => ?_)
    have hP : va_P (dC, dI) vwCl (w_M_readDirect cI cB cS cT a_mo a_mo_base a_mo_coefficients a_mo_lengths a_mo_codes a_mo_directOf a_mo_data a_mo_prediction a_mo_h a_mo_v a_mo_across a_mo_down a_mo_ownAcross a_mo_ownDown a_mo_before0 a_mo_draftCounts a_mo_draft a_mo_words a_mo_otherOf a_mo_out a_mo_times a_mo_runBits a_mo_toCome a_mo_timesKept mo_thrown mo_width mo_height mo_many mo_unitsAcross mo_unitsDown mo_drafts mo_mask mo_first mo_last mo_before mo_bits mo_interval mo_size mo_outs mo_part mo_parted mo_failed mo_counting mo_run mo_runMany mo_comes mo_at_j148 mo_taken_j148 mo_left_j148 z3.1 mo_base z3.2 mo_lengths mo_codes mo_directOf mo_data (upd mo_prediction p0.toNatClampNeg v6_j148)) H := hP
    have hD : va_D A (w_M_readDirect cI cB cS cT a_mo a_mo_base a_mo_coefficients a_mo_lengths a_mo_codes a_mo_directOf a_mo_data a_mo_prediction a_mo_h a_mo_v a_mo_across a_mo_down a_mo_ownAcross a_mo_ownDown a_mo_before0 a_mo_draftCounts a_mo_draft a_mo_words a_mo_otherOf a_mo_out a_mo_times a_mo_runBits a_mo_toCome a_mo_timesKept mo_thrown mo_width mo_height mo_many mo_unitsAcross mo_unitsDown mo_drafts mo_mask mo_first mo_last mo_before mo_bits mo_interval mo_size mo_outs mo_part mo_parted mo_failed mo_counting mo_run mo_runMany mo_comes mo_at_j148 mo_taken_j148 mo_left_j148 z3.1 mo_base z3.2 mo_lengths mo_codes mo_directOf mo_data (upd mo_prediction p0.toNatClampNeg v6_j148)) := hD
    obtain rfl := Option.some.inj hf
    subst hQ
    subst hAe
    exact W.vret hx hb hr (fun t ht hW => ⟨⟨(), rfl, trivial, by rw [ht]; exact hP, hD⟩, hS.F ht⟩) hS.2.2 d_m1164_159
  have J133 : ∀ (v6_j133 : Int32) (mo_at_j133 : Int32) (mo_taken_j133 : Int32) (mo_left_j133 : Int32) (mo_fault_j133 : Int32) (s1_j133 : Int32) (s2_j133 : Int32) (s3_j133 : Int32), f_M_readDirect_J133 N s1_j133 s2_j133 s3_j133 mo_fault_j133 mo_base mo_coefficients p0 mo_at_j133 mo_taken_j133 mo_left_j133 mo_prediction v6_j133 = some z → GW (dC, dI) A p l e (headSpec ws_m1164 rm_M_readDirect).room s m args below meth c 0 0 Q 7 133 (w_M_readDirect cI cB cS cT a_mo a_mo_base a_mo_coefficients a_mo_lengths a_mo_codes a_mo_directOf a_mo_data a_mo_prediction a_mo_h a_mo_v a_mo_across a_mo_down a_mo_ownAcross a_mo_ownDown a_mo_before0 a_mo_draftCounts a_mo_draft a_mo_words a_mo_otherOf a_mo_out a_mo_times a_mo_runBits a_mo_toCome a_mo_timesKept mo_thrown mo_width mo_height mo_many mo_unitsAcross mo_unitsDown mo_drafts mo_mask mo_first mo_last mo_before mo_bits mo_interval mo_size mo_outs mo_part mo_parted mo_failed mo_counting mo_run mo_runMany mo_comes mo_at_j133 mo_taken_j133 mo_left_j133 mo_fault_j133 mo_base mo_coefficients mo_lengths mo_codes mo_directOf mo_data mo_prediction) [(0, .ref a_mo), (1, .int p0), (6, .int v6_j133)] [.int s3_j133, .int s2_j133, .int s1_j133, .ref a_mo] := by
    intro v6_j133 mo_at_j133 mo_taken_j133 mo_left_j133 mo_fault_j133 s1_j133 s2_j133 s3_j133 hf H locs ls hP hD hS hl
    unfold f_M_readDirect_J133 at hf
    refine lv_sipush (v := (9999 : Int32)) hx hb d_m1164_133 (by decide) ?_
    refine lv_goto (tgt := 148) hx hb d_m1164_136 (by decide) ?_
    exact J148 v6_j133 mo_at_j133 mo_taken_j133 mo_left_j133 mo_fault_j133 s1_j133 s2_j133 s3_j133 (9999 : Int32) hf H locs ls hP hD hS hl
  have J97 : ∀ (mo_at_j97 : Int32) (mo_taken_j97 : Int32) (mo_left_j97 : Int32) (mo_fault_j97 : Int32) (s1_j97 : Int32), f_M_readDirect_J97 N s1_j97 mo_size mo_at_j97 mo_taken_j97 mo_left_j97 mo_fault_j97 mo_data p0 mo_prediction p1 mo_base mo_coefficients mo_bits = some z → GW (dC, dI) A p l e (headSpec ws_m1164 rm_M_readDirect).room s m args below meth c 0 0 Q 7 97 (w_M_readDirect cI cB cS cT a_mo a_mo_base a_mo_coefficients a_mo_lengths a_mo_codes a_mo_directOf a_mo_data a_mo_prediction a_mo_h a_mo_v a_mo_across a_mo_down a_mo_ownAcross a_mo_ownDown a_mo_before0 a_mo_draftCounts a_mo_draft a_mo_words a_mo_otherOf a_mo_out a_mo_times a_mo_runBits a_mo_toCome a_mo_timesKept mo_thrown mo_width mo_height mo_many mo_unitsAcross mo_unitsDown mo_drafts mo_mask mo_first mo_last mo_before mo_bits mo_interval mo_size mo_outs mo_part mo_parted mo_failed mo_counting mo_run mo_runMany mo_comes mo_at_j97 mo_taken_j97 mo_left_j97 mo_fault_j97 mo_base mo_coefficients mo_lengths mo_codes mo_directOf mo_data mo_prediction) [(0, .ref a_mo), (1, .int p0), (2, .int p1)] [.int s1_j97, .ref a_mo] := by
    intro mo_at_j97 mo_taken_j97 mo_left_j97 mo_fault_j97 s1_j97 hf H locs ls hP hD hS hl
    unfold f_M_readDirect_J97 at hf
    obtain ⟨z2, hz2, hf⟩ := ob_bind hf
    refine g_calli (wc := (w_M_numberOf cI cB cS cT a_mo a_mo_data a_mo_h a_mo_v a_mo_across a_mo_down a_mo_ownAcross a_mo_ownDown a_mo_base a_mo_coefficients a_mo_before0 a_mo_draftCounts a_mo_draft a_mo_words a_mo_lengths a_mo_codes a_mo_directOf a_mo_otherOf a_mo_out a_mo_times a_mo_prediction a_mo_runBits a_mo_toCome a_mo_timesKept mo_thrown mo_width mo_height mo_many mo_unitsAcross mo_unitsDown mo_drafts mo_mask mo_first mo_last mo_before mo_bits mo_interval mo_size mo_outs mo_part mo_parted mo_failed mo_counting mo_run mo_runMany mo_comes mo_at_j97 mo_taken_j97 mo_left_j97 mo_fault_j97 mo_data)) (w1 := (w_M_numberOf cI cB cS cT a_mo a_mo_data a_mo_h a_mo_v a_mo_across a_mo_down a_mo_ownAcross a_mo_ownDown a_mo_base a_mo_coefficients a_mo_before0 a_mo_draftCounts a_mo_draft a_mo_words a_mo_lengths a_mo_codes a_mo_directOf a_mo_otherOf a_mo_out a_mo_times a_mo_prediction a_mo_runBits a_mo_toCome a_mo_timesKept mo_thrown mo_width mo_height mo_many mo_unitsAcross mo_unitsDown mo_drafts mo_mask mo_first mo_last mo_before mo_bits mo_interval mo_size mo_outs mo_part mo_parted mo_failed mo_counting mo_run mo_runMany mo_comes z2.2.1 z2.2.2.1 z2.2.2.2.1 z2.2.2.2.2 mo_data)) (w2 := (w_M_readDirect cI cB cS cT a_mo a_mo_base a_mo_coefficients a_mo_lengths a_mo_codes a_mo_directOf a_mo_data a_mo_prediction a_mo_h a_mo_v a_mo_across a_mo_down a_mo_ownAcross a_mo_ownDown a_mo_before0 a_mo_draftCounts a_mo_draft a_mo_words a_mo_otherOf a_mo_out a_mo_times a_mo_runBits a_mo_toCome a_mo_timesKept mo_thrown mo_width mo_height mo_many mo_unitsAcross mo_unitsDown mo_drafts mo_mask mo_first mo_last mo_before mo_bits mo_interval mo_size mo_outs mo_part mo_parted mo_failed mo_counting mo_run mo_runMany mo_comes z2.2.1 z2.2.2.1 z2.2.2.2.1 z2.2.2.2.2 mo_base mo_coefficients mo_lengths mo_codes mo_directOf mo_data mo_prediction)) [0, 6] [some 0, none, none, none, none, none, some 1, none] hP hD hS hA rfl rfl rfl rfl (va_runV (As := [.int s1_j97]) (rest := []) ⟨hx, hb, hml, hown, hts⟩ (c_M_numberOf l dC dI cI cB cS cT N a_mo a_mo_data a_mo_h a_mo_v a_mo_across a_mo_down a_mo_ownAcross a_mo_ownDown a_mo_base a_mo_coefficients a_mo_before0 a_mo_draftCounts a_mo_draft a_mo_words a_mo_lengths a_mo_codes a_mo_directOf a_mo_otherOf a_mo_out a_mo_times a_mo_prediction a_mo_runBits a_mo_toCome a_mo_timesKept mo_thrown mo_width mo_height mo_many mo_unitsAcross mo_unitsDown mo_drafts mo_mask mo_first mo_last mo_before mo_bits mo_interval mo_size mo_outs mo_part mo_parted mo_failed mo_counting mo_run mo_runMany mo_comes mo_at_j97 mo_taken_j97 mo_left_j97 mo_fault_j97 mo_data s1_j97 H.size z2 hz2) ⟨(callB_of 1 hts (gi tw_1176 rfl) rfl rfl rfl (hts _ (List.mem_cons_of_mem _ tw_16)) (hts _ (List.mem_cons_of_mem _ tw_1173)) (by decide +kernel) ⟨Nat.le_of_ble_eq_true rfl, Nat.le_of_ble_eq_true rfl⟩), hts _ (List.mem_cons_of_mem _ tw_1175), hts _ (List.mem_cons_of_mem _ ts_m1176)⟩ ⟨g_blind, va_recv hK hP (ci := 11) (q0 := 0) rfl rfl, g_at hKN (g_pm hP [0, 6] rfl) (hD.sub [0, 6] (by decide) rfl)⟩ rfl rfl hl.1 rfl (lv_room (Nat.le_of_ble_eq_true rfl)) d_m1164_97 ⟨Nat.zero_le _, Nat.zero_le _⟩) (fun H locs hP hD hS => ?_)
    refine W.eq (g2 := F0 m 100 ls [.int z2.1]) rfl ?_
    refine lv_istore (lv' := [(5, .int z2.1), (0, .ref a_mo), (1, .int p0), (2, .int p1)]) hx hb d_m1164_100 hl (by decide) rfl (fun ls hl => ?_)
    refine lv_aload_n hx hb d_m1164_102 rfl (lv_at hl 1 rfl) ?_
    refine va_get (D := (dC, dI)) (ci := 11) (v := .ref a_mo_prediction) (C := "ScanCoderModel") (T := T_11) (N := 49) hx hb hts n0 hown hK hP 0 rfl rfl 38 (by decide) k4 (fun _ h9 => h9) rfl d_m1164_103 ?_
    refine lv_iload_n hx hb d_m1164_106 rfl (lv_at hl 2 rfl) ?_
    obtain ⟨hi, hf⟩ := ob_if hf
    refine va_iald hx hb hK hP 7 0 rfl rfl hi d_m1164_107 ?_
    refine lv_iload hx hb d_m1164_108 (lv_at hl 0 rfl) ?_
    refine lv_iadd hx hb d_m1164_110 ?_
    refine lv_istore (lv' := [(6, .int ((mo_prediction p0.toNatClampNeg) + z2.1)), (5, .int z2.1), (0, .ref a_mo), (1, .int p0), (2, .int p1)]) hx hb d_m1164_111 hl (by decide) rfl (fun ls hl => ?_)
    refine lv_aload_n hx hb d_m1164_113 rfl (lv_at hl 2 rfl) ?_
    refine lv_iload_n hx hb d_m1164_114 rfl (lv_at hl 3 rfl) ?_
    refine lv_iload_n hx hb d_m1164_115 rfl (lv_at hl 4 rfl) ?_
    refine lv_iconst (v := (0 : Int32)) hx hb d_m1164_116 (by decide) ?_
    refine lv_iload hx hb d_m1164_117 (lv_at hl 0 rfl) ?_
    refine lv_sipush (v := (-1024 : Int32)) hx hb d_m1164_119 (by decide) ?_
    refine lv_icmp_lt (tgt := 133) hx hb d_m1164_122 (by decide) (fun hc => ?_) (fun hc => ?_)
    · replace hf := (if_pos hc).symm.trans hf
      exact J133 ((mo_prediction p0.toNatClampNeg) + z2.1) z2.2.1 z2.2.2.1 z2.2.2.2.1 z2.2.2.2.2 p0 p1 (0 : Int32) hf H locs ls hP hD hS (lv_sub hl [2, 3, 0] rfl)
    · replace hf := (if_neg hc).symm.trans hf
      refine lv_iload hx hb d_m1164_125 (lv_at hl 0 rfl) ?_
      refine lv_sipush (v := (1023 : Int32)) hx hb d_m1164_127 (by decide) ?_
      refine lv_icmp_le (tgt := 139) hx hb d_m1164_130 (by decide) (fun hc => ?_) (fun hc => ?_)
      · replace hf := (if_pos hc).symm.trans hf
        refine lv_iload hx hb d_m1164_139 (lv_at hl 0 rfl) ?_
        refine lv_iconst (v := (1 : Int32)) hx hb d_m1164_141 (by decide) ?_
        refine lv_aload_n hx hb d_m1164_142 rfl (lv_at hl 2 rfl) ?_
        refine va_get (D := (dC, dI)) (ci := 11) (v := .int mo_bits) (C := "ScanCoderModel") (T := T_11) (N := 49) hx hb hts n0 hown hK hP 0 rfl rfl 27 (by decide) k5 (fun _ h9 => h9) rfl d_m1164_143 ?_
        refine lv_ishl hx hb d_m1164_146 ?_
        refine lv_imul hx hb d_m1164_147 ?_
        exact J148 ((mo_prediction p0.toNatClampNeg) + z2.1) z2.2.1 z2.2.2.1 z2.2.2.2.1 z2.2.2.2.2 p0 p1 (0 : Int32) (((mo_prediction p0.toNatClampNeg) + z2.1) * ((1 : Int32) <<< (mo_bits &&& 31))) hf H locs ls hP hD hS (lv_sub hl [2, 3, 0] rfl)
      · replace hf := (if_neg hc).symm.trans hf
        exact J133 ((mo_prediction p0.toNatClampNeg) + z2.1) z2.2.1 z2.2.2.1 z2.2.2.2.1 z2.2.2.2.2 p0 p1 (0 : Int32) hf H locs ls hP hD hS (lv_sub hl [2, 3, 0] rfl)
  have J83 : ∀ (v4_j83 : Int32) (mo_at_j83 : Int32) (mo_taken_j83 : Int32) (mo_left_j83 : Int32) (mo_fault_j83 : Int32), f_M_readDirect_J83 N mo_fault_j83 v4_j83 mo_size mo_at_j83 mo_taken_j83 mo_left_j83 mo_data p0 mo_prediction p1 mo_base mo_coefficients mo_bits = some z → GW (dC, dI) A p l e (headSpec ws_m1164 rm_M_readDirect).room s m args below meth c 0 0 Q 7 83 (w_M_readDirect cI cB cS cT a_mo a_mo_base a_mo_coefficients a_mo_lengths a_mo_codes a_mo_directOf a_mo_data a_mo_prediction a_mo_h a_mo_v a_mo_across a_mo_down a_mo_ownAcross a_mo_ownDown a_mo_before0 a_mo_draftCounts a_mo_draft a_mo_words a_mo_otherOf a_mo_out a_mo_times a_mo_runBits a_mo_toCome a_mo_timesKept mo_thrown mo_width mo_height mo_many mo_unitsAcross mo_unitsDown mo_drafts mo_mask mo_first mo_last mo_before mo_bits mo_interval mo_size mo_outs mo_part mo_parted mo_failed mo_counting mo_run mo_runMany mo_comes mo_at_j83 mo_taken_j83 mo_left_j83 mo_fault_j83 mo_base mo_coefficients mo_lengths mo_codes mo_directOf mo_data mo_prediction) [(0, .ref a_mo), (1, .int p0), (2, .int p1), (4, .int v4_j83)] [] := by
    intro v4_j83 mo_at_j83 mo_taken_j83 mo_left_j83 mo_fault_j83 hf H locs ls hP hD hS hl
    unfold f_M_readDirect_J83 at hf
    refine lv_aload_n hx hb d_m1164_83 rfl (lv_at hl 0 rfl) ?_
    refine lv_aload_n hx hb d_m1164_84 rfl (lv_at hl 0 rfl) ?_
    refine va_get (D := (dC, dI)) (ci := 11) (v := .int mo_fault_j83) (C := "ScanCoderModel") (T := T_11) (N := 49) hx hb hts n0 hown hK hP 0 rfl rfl 47 (by decide) k3 (fun _ h9 => h9) rfl d_m1164_85 ?_
    refine lv_if_le (tgt := 95) hx hb d_m1164_88 (by decide) (fun hc => ?_) (fun hc => ?_)
    · replace hf := (if_pos hc).symm.trans hf
      refine lv_iload hx hb d_m1164_95 (lv_at hl 3 rfl) ?_
      exact J97 mo_at_j83 mo_taken_j83 mo_left_j83 mo_fault_j83 v4_j83 hf H locs ls hP hD hS (lv_sub hl [0, 1, 2] rfl)
    · replace hf := (if_neg hc).symm.trans hf
      refine lv_iconst (v := (0 : Int32)) hx hb d_m1164_91 (by decide) ?_
      refine lv_goto (tgt := 97) hx hb d_m1164_92 (by decide) ?_
      exact J97 mo_at_j83 mo_taken_j83 mo_left_j83 mo_fault_j83 (0 : Int32) hf H locs ls hP hD hS (lv_sub hl [0, 1, 2] rfl)
  have J54 : ∀ (mo_at_j54 : Int32) (mo_taken_j54 : Int32) (mo_left_j54 : Int32) (mo_fault_j54 : Int32) (s1_j54 : Int32) (s2_j54 : Int32), f_M_readDirect_J54 N s1_j54 mo_at_j54 mo_taken_j54 mo_left_j54 mo_fault_j54 mo_coefficients s2_j54 mo_prediction = some z → GW (dC, dI) A p l e (headSpec ws_m1164 rm_M_readDirect).room s m args below meth c 0 0 Q 7 54 (w_M_readDirect cI cB cS cT a_mo a_mo_base a_mo_coefficients a_mo_lengths a_mo_codes a_mo_directOf a_mo_data a_mo_prediction a_mo_h a_mo_v a_mo_across a_mo_down a_mo_ownAcross a_mo_ownDown a_mo_before0 a_mo_draftCounts a_mo_draft a_mo_words a_mo_otherOf a_mo_out a_mo_times a_mo_runBits a_mo_toCome a_mo_timesKept mo_thrown mo_width mo_height mo_many mo_unitsAcross mo_unitsDown mo_drafts mo_mask mo_first mo_last mo_before mo_bits mo_interval mo_size mo_outs mo_part mo_parted mo_failed mo_counting mo_run mo_runMany mo_comes mo_at_j54 mo_taken_j54 mo_left_j54 mo_fault_j54 mo_base mo_coefficients mo_lengths mo_codes mo_directOf mo_data mo_prediction) [] [.int s2_j54, .int s1_j54, .ref a_mo_coefficients] := by
    intro mo_at_j54 mo_taken_j54 mo_left_j54 mo_fault_j54 s1_j54 s2_j54 hf H locs ls hP hD hS hl
    unfold f_M_readDirect_J54 at hf
    refine lv_i2s hx hb d_m1164_54 rfl ?_
    obtain ⟨hi, hf⟩ := ob_if hf
    refine va_sast hx hb hK hP hD hS 2 2 rfl rfl hi d_m1164_55 (fun H locs hP hD hS => ?_)
    have hP : va_P (dC, dI) vwCl (w_M_readDirect cI cB cS cT a_mo a_mo_base a_mo_coefficients a_mo_lengths a_mo_codes a_mo_directOf a_mo_data a_mo_prediction a_mo_h a_mo_v a_mo_across a_mo_down a_mo_ownAcross a_mo_ownDown a_mo_before0 a_mo_draftCounts a_mo_draft a_mo_words a_mo_otherOf a_mo_out a_mo_times a_mo_runBits a_mo_toCome a_mo_timesKept mo_thrown mo_width mo_height mo_many mo_unitsAcross mo_unitsDown mo_drafts mo_mask mo_first mo_last mo_before mo_bits mo_interval mo_size mo_outs mo_part mo_parted mo_failed mo_counting mo_run mo_runMany mo_comes mo_at_j54 mo_taken_j54 mo_left_j54 mo_fault_j54 mo_base (upd mo_coefficients s1_j54.toNatClampNeg (vp_nar .short s2_j54.toInt16.toInt32)) mo_lengths mo_codes mo_directOf mo_data mo_prediction) H := hP
    have hD : va_D A (w_M_readDirect cI cB cS cT a_mo a_mo_base a_mo_coefficients a_mo_lengths a_mo_codes a_mo_directOf a_mo_data a_mo_prediction a_mo_h a_mo_v a_mo_across a_mo_down a_mo_ownAcross a_mo_ownDown a_mo_before0 a_mo_draftCounts a_mo_draft a_mo_words a_mo_otherOf a_mo_out a_mo_times a_mo_runBits a_mo_toCome a_mo_timesKept mo_thrown mo_width mo_height mo_many mo_unitsAcross mo_unitsDown mo_drafts mo_mask mo_first mo_last mo_before mo_bits mo_interval mo_size mo_outs mo_part mo_parted mo_failed mo_counting mo_run mo_runMany mo_comes mo_at_j54 mo_taken_j54 mo_left_j54 mo_fault_j54 mo_base (upd mo_coefficients s1_j54.toNatClampNeg (vp_nar .short s2_j54.toInt16.toInt32)) mo_lengths mo_codes mo_directOf mo_data mo_prediction) := hD
    obtain rfl := Option.some.inj hf
    subst hQ
    subst hAe
    exact W.vret hx hb hr (fun t ht hW => ⟨⟨(), rfl, trivial, by rw [ht]; exact hP, hD⟩, hS.F ht⟩) hS.2.2 d_m1164_56
  have hgo : ∀ (H : Heap) (locs : List Loc), va_P (dC, dI) vwCl (w_M_readDirect cI cB cS cT a_mo a_mo_base a_mo_coefficients a_mo_lengths a_mo_codes a_mo_directOf a_mo_data a_mo_prediction a_mo_h a_mo_v a_mo_across a_mo_down a_mo_ownAcross a_mo_ownDown a_mo_before0 a_mo_draftCounts a_mo_draft a_mo_words a_mo_otherOf a_mo_out a_mo_times a_mo_runBits a_mo_toCome a_mo_timesKept mo_thrown mo_width mo_height mo_many mo_unitsAcross mo_unitsDown mo_drafts mo_mask mo_first mo_last mo_before mo_bits mo_interval mo_size mo_outs mo_part mo_parted mo_failed mo_counting mo_run mo_runMany mo_comes mo_at mo_taken mo_left mo_fault mo_base mo_coefficients mo_lengths mo_codes mo_directOf mo_data mo_prediction) H → va_S A s.heap H locs → W p l e (headSpec ws_m1164 rm_M_readDirect).room s m args below meth c H locs 0 0 Q (F0 m 0 ls []) := by
    intro H locs hP hS
    unfold f_M_readDirect at hf
    refine lv_bipush (v := (64 : Int32)) hx hb d_m1164_0 (by decide) ?_
    refine lv_aload_n hx hb d_m1164_2 rfl (lv_at hl 0 rfl) ?_
    refine va_get (D := (dC, dI)) (ci := 11) (v := .ref a_mo_base) (C := "ScanCoderModel") (T := T_11) (N := 49) hx hb hts n0 hown hK hP 0 rfl rfl 10 (by decide) k0 (fun _ h9 => h9) rfl d_m1164_3 ?_
    refine lv_iload_n hx hb d_m1164_6 rfl (lv_at hl 1 rfl) ?_
    obtain ⟨hi, hf⟩ := ob_if hf
    refine va_iald hx hb hK hP 1 0 rfl rfl hi d_m1164_7 ?_
    refine lv_iload_n hx hb d_m1164_8 rfl (lv_at hl 2 rfl) ?_
    refine lv_iadd hx hb d_m1164_9 ?_
    refine lv_imul hx hb d_m1164_10 ?_
    refine lv_istore_n (lv' := [(3, .int ((64 : Int32) * ((mo_base p0.toNatClampNeg) + p1))), (0, .ref a_mo), (1, .int p0), (2, .int p1)]) hx hb d_m1164_11 rfl hl (by decide) rfl (fun ls hl => ?_)
    refine lv_aload_n hx hb d_m1164_12 rfl (lv_at hl 1 rfl) ?_
    refine va_get (D := (dC, dI)) (ci := 11) (v := .int mo_before) (C := "ScanCoderModel") (T := T_11) (N := 49) hx hb hts n0 hown hK hP 0 rfl rfl 26 (by decide) k1 (fun _ h9 => h9) rfl d_m1164_13 ?_
    refine lv_if_le (tgt := 57) hx hb d_m1164_16 (by decide) (fun hc => ?_) (fun hc => ?_)
    · replace hf := (if_pos hc).symm.trans hf
      refine lv_aload_n hx hb d_m1164_57 rfl (lv_at hl 1 rfl) ?_
      refine lv_aload_n hx hb d_m1164_58 rfl (lv_at hl 1 rfl) ?_
      refine va_get (D := (dC, dI)) (ci := 11) (v := .ref a_mo_directOf) (C := "ScanCoderModel") (T := T_11) (N := 49) hx hb hts n0 hown hK hP 0 rfl rfl 21 (by decide) k2 (fun _ h9 => h9) rfl d_m1164_59 ?_
      refine lv_iload_n hx hb d_m1164_62 rfl (lv_at hl 2 rfl) ?_
      obtain ⟨hi, hf⟩ := ob_if hf
      refine va_iald hx hb hK hP 5 0 rfl rfl hi d_m1164_63 ?_
      obtain ⟨z1, hz1, hf⟩ := ob_bind hf
      refine g_calli (wc := (w_M_symbol cI cB cS cT a_mo a_mo_lengths a_mo_codes a_mo_data a_mo_h a_mo_v a_mo_across a_mo_down a_mo_ownAcross a_mo_ownDown a_mo_base a_mo_coefficients a_mo_before0 a_mo_draftCounts a_mo_draft a_mo_words a_mo_directOf a_mo_otherOf a_mo_out a_mo_times a_mo_prediction a_mo_runBits a_mo_toCome a_mo_timesKept mo_thrown mo_width mo_height mo_many mo_unitsAcross mo_unitsDown mo_drafts mo_mask mo_first mo_last mo_before mo_bits mo_interval mo_size mo_outs mo_part mo_parted mo_failed mo_counting mo_run mo_runMany mo_comes mo_at mo_taken mo_left mo_fault mo_lengths mo_codes mo_data)) (w1 := (w_M_symbol cI cB cS cT a_mo a_mo_lengths a_mo_codes a_mo_data a_mo_h a_mo_v a_mo_across a_mo_down a_mo_ownAcross a_mo_ownDown a_mo_base a_mo_coefficients a_mo_before0 a_mo_draftCounts a_mo_draft a_mo_words a_mo_directOf a_mo_otherOf a_mo_out a_mo_times a_mo_prediction a_mo_runBits a_mo_toCome a_mo_timesKept mo_thrown mo_width mo_height mo_many mo_unitsAcross mo_unitsDown mo_drafts mo_mask mo_first mo_last mo_before mo_bits mo_interval mo_size mo_outs mo_part mo_parted mo_failed mo_counting mo_run mo_runMany mo_comes z1.2.1 z1.2.2.1 z1.2.2.2.1 z1.2.2.2.2 mo_lengths mo_codes mo_data)) (w2 := (w_M_readDirect cI cB cS cT a_mo a_mo_base a_mo_coefficients a_mo_lengths a_mo_codes a_mo_directOf a_mo_data a_mo_prediction a_mo_h a_mo_v a_mo_across a_mo_down a_mo_ownAcross a_mo_ownDown a_mo_before0 a_mo_draftCounts a_mo_draft a_mo_words a_mo_otherOf a_mo_out a_mo_times a_mo_runBits a_mo_toCome a_mo_timesKept mo_thrown mo_width mo_height mo_many mo_unitsAcross mo_unitsDown mo_drafts mo_mask mo_first mo_last mo_before mo_bits mo_interval mo_size mo_outs mo_part mo_parted mo_failed mo_counting mo_run mo_runMany mo_comes z1.2.1 z1.2.2.1 z1.2.2.2.1 z1.2.2.2.2 mo_base mo_coefficients mo_lengths mo_codes mo_directOf mo_data mo_prediction)) [0, 3, 4, 6] [some 0, none, none, some 1, some 2, none, some 3, none] hP hD hS hA rfl rfl rfl rfl (va_runV (As := [.int (mo_directOf p0.toNatClampNeg)]) (rest := []) ⟨hx, hb, hml, hown, hts⟩ (c_M_symbol l dC dI cI cB cS cT N a_mo a_mo_lengths a_mo_codes a_mo_data a_mo_h a_mo_v a_mo_across a_mo_down a_mo_ownAcross a_mo_ownDown a_mo_base a_mo_coefficients a_mo_before0 a_mo_draftCounts a_mo_draft a_mo_words a_mo_directOf a_mo_otherOf a_mo_out a_mo_times a_mo_prediction a_mo_runBits a_mo_toCome a_mo_timesKept mo_thrown mo_width mo_height mo_many mo_unitsAcross mo_unitsDown mo_drafts mo_mask mo_first mo_last mo_before mo_bits mo_interval mo_size mo_outs mo_part mo_parted mo_failed mo_counting mo_run mo_runMany mo_comes mo_at mo_taken mo_left mo_fault mo_lengths mo_codes mo_data (mo_directOf p0.toNatClampNeg) H.size z1 hz1) ⟨(callB_of 1 hts (gi tw_1172 rfl) rfl rfl rfl (hts _ (List.mem_cons_of_mem _ tw_16)) (hts _ (List.mem_cons_of_mem _ tw_1169)) (by decide +kernel) ⟨Nat.le_of_ble_eq_true rfl, Nat.le_of_ble_eq_true rfl⟩), hts _ (List.mem_cons_of_mem _ tw_1171), hts _ (List.mem_cons_of_mem _ ts_m1172)⟩ ⟨g_blind, va_recv hK hP (ci := 11) (q0 := 0) rfl rfl, g_at hKN (g_pm hP [0, 3, 4, 6] rfl) (hD.sub [0, 3, 4, 6] (by decide) rfl)⟩ rfl rfl hl.1 rfl (lv_room (Nat.le_of_ble_eq_true rfl)) d_m1164_64 ⟨Nat.zero_le _, Nat.zero_le _⟩) (fun H locs hP hD hS => ?_)
      refine W.eq (g2 := F0 m 67 ls [.int z1.1]) rfl ?_
      refine lv_istore (lv' := [(4, .int z1.1), (3, .int ((64 : Int32) * ((mo_base p0.toNatClampNeg) + p1))), (0, .ref a_mo), (1, .int p0), (2, .int p1)]) hx hb d_m1164_67 hl (by decide) rfl (fun ls hl => ?_)
      refine lv_iload hx hb d_m1164_69 (lv_at hl 0 rfl) ?_
      refine lv_bipush (v := (11 : Int32)) hx hb d_m1164_71 (by decide) ?_
      refine lv_icmp_le (tgt := 83) hx hb d_m1164_73 (by decide) (fun hc => ?_) (fun hc => ?_)
      · replace hf := (if_pos hc).symm.trans hf
        exact J83 z1.1 z1.2.1 z1.2.2.1 z1.2.2.2.1 z1.2.2.2.2 hf H locs ls hP hD hS (lv_sub hl [2, 3, 4, 0] rfl)
      · replace hf := (if_neg hc).symm.trans hf
        refine lv_aload_n hx hb d_m1164_76 rfl (lv_at hl 2 rfl) ?_
        refine lv_iconst (v := (3 : Int32)) hx hb d_m1164_77 (by decide) ?_
        obtain ⟨z4, hz4, hf⟩ := ob_bind hf
        refine g_calli (wc := (w_M_wrong cI cB cS cT a_mo a_mo_h a_mo_v a_mo_across a_mo_down a_mo_ownAcross a_mo_ownDown a_mo_base a_mo_coefficients a_mo_before0 a_mo_draftCounts a_mo_draft a_mo_words a_mo_lengths a_mo_codes a_mo_directOf a_mo_otherOf a_mo_data a_mo_out a_mo_times a_mo_prediction a_mo_runBits a_mo_toCome a_mo_timesKept mo_thrown mo_width mo_height mo_many mo_unitsAcross mo_unitsDown mo_drafts mo_mask mo_first mo_last mo_before mo_bits mo_interval mo_size mo_outs mo_part mo_parted mo_failed mo_counting mo_run mo_runMany mo_comes z1.2.1 z1.2.2.1 z1.2.2.2.1 z1.2.2.2.2)) (w1 := (w_M_wrong cI cB cS cT a_mo a_mo_h a_mo_v a_mo_across a_mo_down a_mo_ownAcross a_mo_ownDown a_mo_base a_mo_coefficients a_mo_before0 a_mo_draftCounts a_mo_draft a_mo_words a_mo_lengths a_mo_codes a_mo_directOf a_mo_otherOf a_mo_data a_mo_out a_mo_times a_mo_prediction a_mo_runBits a_mo_toCome a_mo_timesKept mo_thrown mo_width mo_height mo_many mo_unitsAcross mo_unitsDown mo_drafts mo_mask mo_first mo_last mo_before mo_bits mo_interval mo_size mo_outs mo_part mo_parted mo_failed mo_counting mo_run mo_runMany mo_comes z1.2.1 z1.2.2.1 z1.2.2.2.1 z4.2)) (w2 := (w_M_readDirect cI cB cS cT a_mo a_mo_base a_mo_coefficients a_mo_lengths a_mo_codes a_mo_directOf a_mo_data a_mo_prediction a_mo_h a_mo_v a_mo_across a_mo_down a_mo_ownAcross a_mo_ownDown a_mo_before0 a_mo_draftCounts a_mo_draft a_mo_words a_mo_otherOf a_mo_out a_mo_times a_mo_runBits a_mo_toCome a_mo_timesKept mo_thrown mo_width mo_height mo_many mo_unitsAcross mo_unitsDown mo_drafts mo_mask mo_first mo_last mo_before mo_bits mo_interval mo_size mo_outs mo_part mo_parted mo_failed mo_counting mo_run mo_runMany mo_comes z1.2.1 z1.2.2.1 z1.2.2.2.1 z4.2 mo_base mo_coefficients mo_lengths mo_codes mo_directOf mo_data mo_prediction)) [0] [some 0, none, none, none, none, none, none, none] hP hD hS hA rfl rfl rfl rfl (va_runV (As := [.int (3 : Int32)]) (rest := []) ⟨hx, hb, hml, hown, hts⟩ (c_M_wrong l dC dI cI cB cS cT a_mo a_mo_h a_mo_v a_mo_across a_mo_down a_mo_ownAcross a_mo_ownDown a_mo_base a_mo_coefficients a_mo_before0 a_mo_draftCounts a_mo_draft a_mo_words a_mo_lengths a_mo_codes a_mo_directOf a_mo_otherOf a_mo_data a_mo_out a_mo_times a_mo_prediction a_mo_runBits a_mo_toCome a_mo_timesKept mo_thrown mo_width mo_height mo_many mo_unitsAcross mo_unitsDown mo_drafts mo_mask mo_first mo_last mo_before mo_bits mo_interval mo_size mo_outs mo_part mo_parted mo_failed mo_counting mo_run mo_runMany mo_comes z1.2.1 z1.2.2.1 z1.2.2.2.1 z1.2.2.2.2 (3 : Int32) H.size z4 hz4) ⟨(callB_of 1 hts (gi tw_1156 rfl) rfl rfl rfl (hts _ (List.mem_cons_of_mem _ tw_16)) (hts _ (List.mem_cons_of_mem _ tw_1153)) (by decide +kernel) ⟨Nat.le_of_ble_eq_true rfl, Nat.le_of_ble_eq_true rfl⟩), hts _ (List.mem_cons_of_mem _ tw_1155), hts _ (List.mem_cons_of_mem _ ts_m1156)⟩ ⟨g_blind, va_recv hK hP (ci := 11) (q0 := 0) rfl rfl, g_at hKN (g_pm hP [0] rfl) (hD.sub [0] (by decide) rfl)⟩ rfl rfl hl.1 rfl (lv_room (Nat.le_of_ble_eq_true rfl)) d_m1164_78 ⟨Nat.zero_le _, Nat.zero_le _⟩) (fun H locs hP hD hS => ?_)
        refine W.eq (g2 := F0 m 81 ls [.int z4.1]) rfl ?_
        refine lv_istore (lv' := [(5, .int z4.1), (4, .int z1.1), (3, .int ((64 : Int32) * ((mo_base p0.toNatClampNeg) + p1))), (0, .ref a_mo), (1, .int p0), (2, .int p1)]) hx hb d_m1164_81 hl (by decide) rfl (fun ls hl => ?_)
        exact J83 z1.1 z1.2.1 z1.2.2.1 z1.2.2.2.1 z4.2 hf H locs ls hP hD hS (lv_sub hl [3, 4, 5, 1] rfl)
    · replace hf := (if_neg hc).symm.trans hf
      refine lv_aload_n hx hb d_m1164_19 rfl (lv_at hl 1 rfl) ?_
      refine va_get (D := (dC, dI)) (ci := 11) (v := .ref a_mo_coefficients) (C := "ScanCoderModel") (T := T_11) (N := 49) hx hb hts n0 hown hK hP 0 rfl rfl 13 (by decide) k6 (fun _ h9 => h9) rfl d_m1164_20 ?_
      refine lv_iload_n hx hb d_m1164_23 rfl (lv_at hl 0 rfl) ?_
      refine lv_aload_n hx hb d_m1164_24 rfl (lv_at hl 1 rfl) ?_
      obtain ⟨z5, hz5, hf⟩ := ob_bind hf
      refine g_calli (wc := (w_M_take cI cB cS cT a_mo a_mo_data a_mo_h a_mo_v a_mo_across a_mo_down a_mo_ownAcross a_mo_ownDown a_mo_base a_mo_coefficients a_mo_before0 a_mo_draftCounts a_mo_draft a_mo_words a_mo_lengths a_mo_codes a_mo_directOf a_mo_otherOf a_mo_out a_mo_times a_mo_prediction a_mo_runBits a_mo_toCome a_mo_timesKept mo_thrown mo_width mo_height mo_many mo_unitsAcross mo_unitsDown mo_drafts mo_mask mo_first mo_last mo_before mo_bits mo_interval mo_size mo_outs mo_part mo_parted mo_failed mo_counting mo_run mo_runMany mo_comes mo_at mo_taken mo_left mo_fault mo_data)) (w1 := (w_M_take cI cB cS cT a_mo a_mo_data a_mo_h a_mo_v a_mo_across a_mo_down a_mo_ownAcross a_mo_ownDown a_mo_base a_mo_coefficients a_mo_before0 a_mo_draftCounts a_mo_draft a_mo_words a_mo_lengths a_mo_codes a_mo_directOf a_mo_otherOf a_mo_out a_mo_times a_mo_prediction a_mo_runBits a_mo_toCome a_mo_timesKept mo_thrown mo_width mo_height mo_many mo_unitsAcross mo_unitsDown mo_drafts mo_mask mo_first mo_last mo_before mo_bits mo_interval mo_size mo_outs mo_part mo_parted mo_failed mo_counting mo_run mo_runMany mo_comes z5.2.1 z5.2.2.1 z5.2.2.2.1 z5.2.2.2.2 mo_data)) (w2 := (w_M_readDirect cI cB cS cT a_mo a_mo_base a_mo_coefficients a_mo_lengths a_mo_codes a_mo_directOf a_mo_data a_mo_prediction a_mo_h a_mo_v a_mo_across a_mo_down a_mo_ownAcross a_mo_ownDown a_mo_before0 a_mo_draftCounts a_mo_draft a_mo_words a_mo_otherOf a_mo_out a_mo_times a_mo_runBits a_mo_toCome a_mo_timesKept mo_thrown mo_width mo_height mo_many mo_unitsAcross mo_unitsDown mo_drafts mo_mask mo_first mo_last mo_before mo_bits mo_interval mo_size mo_outs mo_part mo_parted mo_failed mo_counting mo_run mo_runMany mo_comes z5.2.1 z5.2.2.1 z5.2.2.2.1 z5.2.2.2.2 mo_base mo_coefficients mo_lengths mo_codes mo_directOf mo_data mo_prediction)) [0, 6] [some 0, none, none, none, none, none, some 1, none] hP hD hS hA rfl rfl rfl rfl (va_runV (As := []) (rest := [.int ((64 : Int32) * ((mo_base p0.toNatClampNeg) + p1)), .ref a_mo_coefficients]) ⟨hx, hb, hml, hown, hts⟩ (c_M_take l dC dI cI cB cS cT a_mo a_mo_data a_mo_h a_mo_v a_mo_across a_mo_down a_mo_ownAcross a_mo_ownDown a_mo_base a_mo_coefficients a_mo_before0 a_mo_draftCounts a_mo_draft a_mo_words a_mo_lengths a_mo_codes a_mo_directOf a_mo_otherOf a_mo_out a_mo_times a_mo_prediction a_mo_runBits a_mo_toCome a_mo_timesKept mo_thrown mo_width mo_height mo_many mo_unitsAcross mo_unitsDown mo_drafts mo_mask mo_first mo_last mo_before mo_bits mo_interval mo_size mo_outs mo_part mo_parted mo_failed mo_counting mo_run mo_runMany mo_comes mo_at mo_taken mo_left mo_fault mo_data H.size z5 hz5) ⟨(callB_of 0 hts (gi tw_1168 rfl) rfl rfl rfl (hts _ (List.mem_cons_of_mem _ tw_16)) (hts _ (List.mem_cons_of_mem _ tw_1165)) (by decide +kernel) ⟨Nat.le_of_ble_eq_true rfl, Nat.le_of_ble_eq_true rfl⟩), hts _ (List.mem_cons_of_mem _ tw_1167), hts _ (List.mem_cons_of_mem _ ts_m1168)⟩ ⟨g_blind, va_recv hK hP (ci := 11) (q0 := 0) rfl rfl, g_at hKN (g_pm hP [0, 6] rfl) (hD.sub [0, 6] (by decide) rfl)⟩ rfl rfl hl.1 rfl (lv_room (Nat.le_of_ble_eq_true rfl)) d_m1164_25 ⟨Nat.zero_le _, Nat.zero_le _⟩) (fun H locs hP hD hS => ?_)
      refine W.eq (g2 := F0 m 28 ls [.int z5.1, .int ((64 : Int32) * ((mo_base p0.toNatClampNeg) + p1)), .ref a_mo_coefficients]) rfl ?_
      refine lv_iconst (v := (1 : Int32)) hx hb d_m1164_28 (by decide) ?_
      refine lv_icmp_ne (tgt := 48) hx hb d_m1164_29 (by decide) (fun hc => ?_) (fun hc => ?_)
      · replace hf := (if_neg hc).symm.trans hf
        refine lv_aload_n hx hb d_m1164_48 rfl (lv_at hl 1 rfl) ?_
        refine va_get (D := (dC, dI)) (ci := 11) (v := .ref a_mo_coefficients) (C := "ScanCoderModel") (T := T_11) (N := 49) hx hb hts n0 hown hK hP 0 rfl rfl 13 (by decide) k6 (fun _ h9 => h9) rfl d_m1164_49 ?_
        refine lv_iload_n hx hb d_m1164_52 rfl (lv_at hl 0 rfl) ?_
        obtain ⟨hi, hf⟩ := ob_if hf
        refine va_sald hx hb hK hP 2 2 rfl rfl hi d_m1164_53 ?_
        exact J54 z5.2.1 z5.2.2.1 z5.2.2.2.1 z5.2.2.2.2 ((64 : Int32) * ((mo_base p0.toNatClampNeg) + p1)) (mo_coefficients ((64 : Int32) * ((mo_base p0.toNatClampNeg) + p1)).toNatClampNeg) hf H locs ls hP hD hS (lv_sub hl [] rfl)
      · replace hf := (if_pos hc).symm.trans hf
        refine lv_aload_n hx hb d_m1164_32 rfl (lv_at hl 1 rfl) ?_
        refine va_get (D := (dC, dI)) (ci := 11) (v := .ref a_mo_coefficients) (C := "ScanCoderModel") (T := T_11) (N := 49) hx hb hts n0 hown hK hP 0 rfl rfl 13 (by decide) k6 (fun _ h9 => h9) rfl d_m1164_33 ?_
        refine lv_iload_n hx hb d_m1164_36 rfl (lv_at hl 0 rfl) ?_
        obtain ⟨hi, hf⟩ := ob_if hf
        refine va_sald hx hb hK hP 2 2 rfl rfl hi d_m1164_37 ?_
        refine lv_iconst (v := (1 : Int32)) hx hb d_m1164_38 (by decide) ?_
        refine lv_aload_n hx hb d_m1164_39 rfl (lv_at hl 1 rfl) ?_
        refine va_get (D := (dC, dI)) (ci := 11) (v := .int mo_bits) (C := "ScanCoderModel") (T := T_11) (N := 49) hx hb hts n0 hown hK hP 0 rfl rfl 27 (by decide) k5 (fun _ h9 => h9) rfl d_m1164_40 ?_
        refine lv_ishl hx hb d_m1164_43 ?_
        refine lv_ior hx hb d_m1164_44 ?_
        refine lv_goto (tgt := 54) hx hb d_m1164_45 (by decide) ?_
        exact J54 z5.2.1 z5.2.2.1 z5.2.2.2.1 z5.2.2.2.2 ((64 : Int32) * ((mo_base p0.toNatClampNeg) + p1)) ((mo_coefficients ((64 : Int32) * ((mo_base p0.toNatClampNeg) + p1)).toNatClampNeg) ||| ((1 : Int32) <<< (mo_bits &&& 31))) hf H locs ls hP hD hS (lv_sub hl [] rfl)
  exact hgo _ _ hP hS
def f_M_readOthers_L17b (mo_last : Int32) (p0 : Int32) (mo_base : Nat → Int32) (p1 : Int32) (N : Nat) (rec : (Int32 × (Nat → Int32)) → Option (Nat → Int32)) (v5_17 : Int32) (mo_coefficients_17 : Nat → Int32) : Option (Nat → Int32) :=
  if mo_last < v5_17 then
    some mo_coefficients_17
  else
    if p0 < 0 ∨ 4 ≤ p0.toNatClampNeg then none else
    if (((64 : Int32) * ((mo_base p0.toNatClampNeg) + p1)) + v5_17) < 0 ∨ 12288 ≤ (((64 : Int32) * ((mo_base p0.toNatClampNeg) + p1)) + v5_17).toNatClampNeg then none else
    rec (v5_17 + (1 : Int32), upd mo_coefficients_17 (((64 : Int32) * ((mo_base p0.toNatClampNeg) + p1)) + v5_17).toNatClampNeg (vp_nar .short (0 : Int32)))
def f_M_readOthers_L17 (mo_last : Int32) (p0 : Int32) (mo_base : Nat → Int32) (p1 : Int32) (N : Nat) (k : Nat) : (Int32 × (Nat → Int32)) → Option (Nat → Int32) := it (fun rec a => f_M_readOthers_L17b mo_last p0 mo_base p1 N rec a.1 a.2) k
def f_M_readOthers_J78_276 (N : Nat) (rec : (Int32 × Int32 × Int32 × Int32 × Int32 × (Nat → Int32)) → Option (Nat × Int32 × Int32 × Int32 × Int32 × Int32 × (Nat → Int32))) (v5_j276 : Int32) (mo_at_j276 : Int32) (mo_taken_j276 : Int32) (mo_left_j276 : Int32) (mo_fault_j276 : Int32) (mo_coefficients_j276 : Nat → Int32) : Option (Nat × Int32 × Int32 × Int32 × Int32 × Int32 × (Nat → Int32)) :=
  rec (v5_j276 + (1 : Int32), mo_at_j276, mo_taken_j276, mo_left_j276, mo_fault_j276, mo_coefficients_j276)
def f_M_readOthers_J78_273 (N : Nat) (rec : (Int32 × Int32 × Int32 × Int32 × Int32 × (Nat → Int32)) → Option (Nat × Int32 × Int32 × Int32 × Int32 × Int32 × (Nat → Int32))) (s1_j273 : Int32) (s2_j273 : Int32) (s3_j273 : Int32) (s4_j273 : Int32) (mo_fault_j273 : Int32) (mo_base : Nat → Int32) (mo_coefficients_78 : Nat → Int32) (v5_j273 : Int32) (mo_at_j273 : Int32) (mo_taken_j273 : Int32) (mo_left_j273 : Int32) : Option (Nat × Int32 × Int32 × Int32 × Int32 × Int32 × (Nat → Int32)) :=
  (f_M_become s1_j273 s2_j273 s3_j273 s4_j273 mo_fault_j273 mo_base mo_coefficients_78).bind fun z4 =>
  f_M_readOthers_J78_276 N rec v5_j273 mo_at_j273 mo_taken_j273 mo_left_j273 z4.1 z4.2
def f_M_readOthers_J78_238 (N : Nat) (rec : (Int32 × Int32 × Int32 × Int32 × Int32 × (Nat → Int32)) → Option (Nat × Int32 × Int32 × Int32 × Int32 × Int32 × (Nat → Int32))) (s0_j238 : Int32) (mo_bits : Int32) (p0 : Int32) (p1 : Int32) (v5_j238 : Int32) (v9_j238 : Int32) (mo_fault_j238 : Int32) (mo_base : Nat → Int32) (mo_coefficients_78 : Nat → Int32) (mo_at_j238 : Int32) (mo_taken_j238 : Int32) (mo_left_j238 : Int32) : Option (Nat × Int32 × Int32 × Int32 × Int32 × Int32 × (Nat → Int32)) :=
  if s0_j238 ≤ ((1023 : Int32) >>> (mo_bits &&& 31)) then
    f_M_readOthers_J78_273 N rec p0 p1 v5_j238 (v9_j238 * ((1 : Int32) <<< (mo_bits &&& 31))) mo_fault_j238 mo_base mo_coefficients_78 v5_j238 mo_at_j238 mo_taken_j238 mo_left_j238
  else
    f_M_readOthers_J78_273 N rec p0 p1 v5_j238 (9999 : Int32) mo_fault_j238 mo_base mo_coefficients_78 v5_j238 mo_at_j238 mo_taken_j238 mo_left_j238
def f_M_readOthers_J78_178 (N : Nat) (rec : (Int32 × Int32 × Int32 × Int32 × Int32 × (Nat → Int32)) → Option (Nat × Int32 × Int32 × Int32 × Int32 × Int32 × (Nat → Int32))) (v8_j178 : Int32) (v7_j178 : Int32) (mo_at_j178 : Int32) (mo_taken_j178 : Int32) (mo_left_j178 : Int32) (mo_fault_j178 : Int32) (mo_coefficients_78 : Nat → Int32) (v5_78 : Int32) (mo_last : Int32) (mo_size : Int32) (mo_data : Nat → Int32) (mo_bits : Int32) (p0 : Int32) (p1 : Int32) (mo_base : Nat → Int32) : Option (Nat × Int32 × Int32 × Int32 × Int32 × Int32 × (Nat → Int32)) :=
  if (10 : Int32) < v8_j178 then
    some (2, v7_j178, mo_at_j178, mo_taken_j178, mo_left_j178, mo_fault_j178, mo_coefficients_78)
  else
    if (v5_78 + v7_j178) ≤ mo_last then
      if v8_j178 ≤ 0 then
        f_M_readOthers_J78_276 N rec (v5_78 + v7_j178) mo_at_j178 mo_taken_j178 mo_left_j178 mo_fault_j178 mo_coefficients_78
      else
        (f_M_numberOf N v8_j178 mo_size mo_at_j178 mo_taken_j178 mo_left_j178 mo_fault_j178 mo_data).bind fun z3 =>
        if 0 ≤ z3.1 then
          f_M_readOthers_J78_238 N rec z3.1 mo_bits p0 p1 (v5_78 + v7_j178) z3.1 z3.2.2.2.2 mo_base mo_coefficients_78 z3.2.1 z3.2.2.1 z3.2.2.2.1
        else
          f_M_readOthers_J78_238 N rec (-z3.1) mo_bits p0 p1 (v5_78 + v7_j178) z3.1 z3.2.2.2.2 mo_base mo_coefficients_78 z3.2.1 z3.2.2.1 z3.2.2.2.1
    else
      some (2, v7_j178, mo_at_j178, mo_taken_j178, mo_left_j178, mo_fault_j178, mo_coefficients_78)
def f_M_readOthers_L78b (mo_last : Int32) (p0 : Int32) (mo_otherOf : Nat → Int32) (mo_size : Int32) (mo_lengths : Nat → Int32) (mo_codes : Nat → Int32) (mo_data : Nat → Int32) (mo_bits : Int32) (p1 : Int32) (mo_base : Nat → Int32) (N : Nat) (rec : (Int32 × Int32 × Int32 × Int32 × Int32 × (Nat → Int32)) → Option (Nat × Int32 × Int32 × Int32 × Int32 × Int32 × (Nat → Int32))) (v5_78 : Int32) (mo_at_78 : Int32) (mo_taken_78 : Int32) (mo_left_78 : Int32) (mo_fault_78 : Int32) (mo_coefficients_78 : Nat → Int32) : Option (Nat × Int32 × Int32 × Int32 × Int32 × Int32 × (Nat → Int32)) :=
  if mo_last < v5_78 then
    some (3, (0 : Int32), mo_at_78, mo_taken_78, mo_left_78, mo_fault_78, mo_coefficients_78)
  else
    if mo_fault_78 = 0 then
      if p0 < 0 ∨ 4 ≤ p0.toNatClampNeg then none else
      (f_M_symbol N (mo_otherOf p0.toNatClampNeg) mo_size mo_at_78 mo_taken_78 mo_left_78 mo_fault_78 mo_lengths mo_codes mo_data).bind fun z2 =>
      if z2.2.2.2.2 ≤ 0 then
        if (z2.1 - z2.1 / (16 : Int32) * (16 : Int32)) = 0 then
          if (15 : Int32) ≤ (z2.1 / (16 : Int32)) then
            f_M_readOthers_J78_178 N rec (z2.1 - z2.1 / (16 : Int32) * (16 : Int32)) (z2.1 / (16 : Int32)) z2.2.1 z2.2.2.1 z2.2.2.2.1 z2.2.2.2.2 mo_coefficients_78 v5_78 mo_last mo_size mo_data mo_bits p0 p1 mo_base
          else
            some (1, z2.1 / (16 : Int32), z2.2.1, z2.2.2.1, z2.2.2.2.1, z2.2.2.2.2, mo_coefficients_78)
        else
          f_M_readOthers_J78_178 N rec (z2.1 - z2.1 / (16 : Int32) * (16 : Int32)) (z2.1 / (16 : Int32)) z2.2.1 z2.2.2.1 z2.2.2.2.1 z2.2.2.2.2 mo_coefficients_78 v5_78 mo_last mo_size mo_data mo_bits p0 p1 mo_base
      else
        some (0, z2.1 / (16 : Int32), z2.2.1, z2.2.2.1, z2.2.2.2.1, z2.2.2.2.2, mo_coefficients_78)
    else
      some (3, (0 : Int32), mo_at_78, mo_taken_78, mo_left_78, mo_fault_78, mo_coefficients_78)
def f_M_readOthers_L78 (mo_last : Int32) (p0 : Int32) (mo_otherOf : Nat → Int32) (mo_size : Int32) (mo_lengths : Nat → Int32) (mo_codes : Nat → Int32) (mo_data : Nat → Int32) (mo_bits : Int32) (p1 : Int32) (mo_base : Nat → Int32) (N : Nat) (k : Nat) : (Int32 × Int32 × Int32 × Int32 × Int32 × (Nat → Int32)) → Option (Nat × Int32 × Int32 × Int32 × Int32 × Int32 × (Nat → Int32)) := it (fun rec a => f_M_readOthers_L78b mo_last p0 mo_otherOf mo_size mo_lengths mo_codes mo_data mo_bits p1 mo_base N rec a.1 a.2.1 a.2.2.1 a.2.2.2.1 a.2.2.2.2.1 a.2.2.2.2.2) k
def f_M_readOthers_J197 (N : Nat) (mo_fault_j197 : Int32) (mo_run : Int32) (mo_at_j197 : Int32) (mo_taken_j197 : Int32) (mo_left_j197 : Int32) (mo_coefficients_j197 : Nat → Int32) : Option (Int32 × Int32 × Int32 × Int32 × Int32 × (Nat → Int32)) :=
  (f_M_wrong (3 : Int32) mo_fault_j197).bind fun z8 =>
  some (mo_run, mo_at_j197, mo_taken_j197, mo_left_j197, z8.2, mo_coefficients_j197)
def f_M_readOthers_J75 (N : Nat) (mo_last : Int32) (p0 : Int32) (mo_otherOf : Nat → Int32) (mo_size : Int32) (mo_lengths : Nat → Int32) (mo_codes : Nat → Int32) (mo_data : Nat → Int32) (mo_bits : Int32) (p1 : Int32) (mo_base : Nat → Int32) (p2 : Int32) (mo_at : Int32) (mo_taken : Int32) (mo_left : Int32) (mo_fault : Int32) (mo_coefficients_j75 : Nat → Int32) (mo_run : Int32) (v4_j75 : Int32) : Option (Int32 × Int32 × Int32 × Int32 × Int32 × (Nat → Int32)) :=
  (f_M_readOthers_L78 mo_last p0 mo_otherOf mo_size mo_lengths mo_codes mo_data mo_bits p1 mo_base N N (p2, mo_at, mo_taken, mo_left, mo_fault, mo_coefficients_j75)).bind fun z5 =>
    if z5.1 = 0 then some (mo_run, z5.2.2.1, z5.2.2.2.1, z5.2.2.2.2.1, z5.2.2.2.2.2.1, z5.2.2.2.2.2.2) else if z5.1 = 1 then (if v4_j75 = 0 then
    if z5.2.1 ≤ 0 then
      some (mo_run, z5.2.2.1, z5.2.2.2.1, z5.2.2.2.2.1, z5.2.2.2.2.2.1, z5.2.2.2.2.2.2)
    else
      (f_M_wrong (3 : Int32) z5.2.2.2.2.2.1).bind fun z6 =>
      some (mo_run, z5.2.2.1, z5.2.2.2.1, z5.2.2.2.2.1, z6.2, z5.2.2.2.2.2.2)
  else
    (f_M_takes N z5.2.1 mo_size z5.2.2.1 z5.2.2.2.1 z5.2.2.2.2.1 z5.2.2.2.2.2.1 mo_data).bind fun z7 =>
    some ((((1 : Int32) <<< (z5.2.1 &&& 31)) + z7.1) - (1 : Int32), z7.2.1, z7.2.2.1, z7.2.2.2.1, z7.2.2.2.2, z5.2.2.2.2.2.2)) else if z5.1 = 2 then f_M_readOthers_J197 N z5.2.2.2.2.2.1 mo_run z5.2.2.1 z5.2.2.2.1 z5.2.2.2.2.1 z5.2.2.2.2.2.2 else some (mo_run, z5.2.2.1, z5.2.2.2.1, z5.2.2.2.2.1, z5.2.2.2.2.2.1, z5.2.2.2.2.2.2)
def f_M_readOthers_J12 (N : Nat) (mo_last : Int32) (p0 : Int32) (mo_base : Nat → Int32) (p1 : Int32) (p2 : Int32) (mo_coefficients : Nat → Int32) (s0_j12 : Int32) (mo_otherOf : Nat → Int32) (mo_size : Int32) (mo_lengths : Nat → Int32) (mo_codes : Nat → Int32) (mo_data : Nat → Int32) (mo_bits : Int32) (mo_at : Int32) (mo_taken : Int32) (mo_left : Int32) (mo_fault : Int32) (mo_run : Int32) : Option (Int32 × Int32 × Int32 × Int32 × Int32 × (Nat → Int32)) :=
  (f_M_readOthers_L17 mo_last p0 mo_base p1 N N (p2, mo_coefficients)).bind fun z1 =>
    if s0_j12 = 0 then
    f_M_readOthers_J75 N mo_last p0 mo_otherOf mo_size mo_lengths mo_codes mo_data mo_bits p1 mo_base p2 mo_at mo_taken mo_left mo_fault z1 mo_run s0_j12
  else
    if mo_run ≤ 0 then
      f_M_readOthers_J75 N mo_last p0 mo_otherOf mo_size mo_lengths mo_codes mo_data mo_bits p1 mo_base p2 mo_at mo_taken mo_left mo_fault z1 mo_run s0_j12
    else
      some (mo_run - (1 : Int32), mo_at, mo_taken, mo_left, mo_fault, z1)
def f_M_readOthers (N : Nat) (p0 : Int32) (p1 : Int32) (p2 : Int32) (mo_first : Int32) (mo_last : Int32) (mo_bits : Int32) (mo_size : Int32) (mo_run : Int32) (mo_at : Int32) (mo_taken : Int32) (mo_left : Int32) (mo_fault : Int32) (mo_base : Nat → Int32) (mo_coefficients : Nat → Int32) (mo_lengths : Nat → Int32) (mo_codes : Nat → Int32) (mo_otherOf : Nat → Int32) (mo_data : Nat → Int32) : Option (Int32 × Int32 × Int32 × Int32 × Int32 × (Nat → Int32)) :=
  if mo_first ≤ 0 then
    f_M_readOthers_J12 N mo_last p0 mo_base p1 p2 mo_coefficients (0 : Int32) mo_otherOf mo_size mo_lengths mo_codes mo_data mo_bits mo_at mo_taken mo_left mo_fault mo_run
  else
    f_M_readOthers_J12 N mo_last p0 mo_base p1 p2 mo_coefficients (1 : Int32) mo_otherOf mo_size mo_lengths mo_codes mo_data mo_bits mo_at mo_taken mo_left mo_fault mo_run
abbrev w_M_readOthers (cI cB cS cT : ClassId) (a_mo : Nat) (a_mo_base : Nat) (a_mo_coefficients : Nat) (a_mo_lengths : Nat) (a_mo_codes : Nat) (a_mo_otherOf : Nat) (a_mo_data : Nat) (a_mo_h : Nat) (a_mo_v : Nat) (a_mo_across : Nat) (a_mo_down : Nat) (a_mo_ownAcross : Nat) (a_mo_ownDown : Nat) (a_mo_before0 : Nat) (a_mo_draftCounts : Nat) (a_mo_draft : Nat) (a_mo_words : Nat) (a_mo_directOf : Nat) (a_mo_out : Nat) (a_mo_times : Nat) (a_mo_prediction : Nat) (a_mo_runBits : Nat) (a_mo_toCome : Nat) (a_mo_timesKept : Nat) (mo_thrown : Int32) (mo_width : Int32) (mo_height : Int32) (mo_many : Int32) (mo_unitsAcross : Int32) (mo_unitsDown : Int32) (mo_drafts : Int32) (mo_mask : Int32) (mo_first : Int32) (mo_last : Int32) (mo_before : Int32) (mo_bits : Int32) (mo_interval : Int32) (mo_size : Int32) (mo_outs : Int32) (mo_part : Int32) (mo_parted : Int32) (mo_failed : Int32) (mo_counting : Int32) (mo_run : Int32) (mo_runMany : Int32) (mo_comes : Int32) (mo_at : Int32) (mo_taken : Int32) (mo_left : Int32) (mo_fault : Int32) (mo_base : Nat → Int32) (mo_coefficients : Nat → Int32) (mo_lengths : Nat → Int32) (mo_codes : Nat → Int32) (mo_otherOf : Nat → Int32) (mo_data : Nat → Int32) : va_W := [(a_mo, .inr (11, [.int mo_thrown, .int mo_width, .int mo_height, .int mo_many, .ref a_mo_h, .ref a_mo_v, .ref a_mo_across, .ref a_mo_down, .ref a_mo_ownAcross, .ref a_mo_ownDown, .ref a_mo_base, .int mo_unitsAcross, .int mo_unitsDown, .ref a_mo_coefficients, .ref a_mo_before0, .ref a_mo_draftCounts, .ref a_mo_draft, .int mo_drafts, .ref a_mo_words, .ref a_mo_lengths, .ref a_mo_codes, .ref a_mo_directOf, .ref a_mo_otherOf, .int mo_mask, .int mo_first, .int mo_last, .int mo_before, .int mo_bits, .int mo_interval, .ref a_mo_data, .int mo_size, .ref a_mo_out, .int mo_outs, .int mo_part, .int mo_parted, .int mo_failed, .int mo_counting, .ref a_mo_times, .ref a_mo_prediction, .int mo_run, .ref a_mo_runBits, .int mo_runMany, .ref a_mo_toCome, .int mo_comes, .int mo_at, .int mo_taken, .int mo_left, .int mo_fault, .ref a_mo_timesKept])), (a_mo_base, .inl (cI, 4, .inl mo_base)), (a_mo_coefficients, .inl (cS, 12288, .inl mo_coefficients)), (a_mo_lengths, .inl (cI, 2048, .inl mo_lengths)), (a_mo_codes, .inl (cI, 2048, .inl mo_codes)), (a_mo_otherOf, .inl (cI, 4, .inl mo_otherOf)), (a_mo_data, .inl (cB, 16384, .inl mo_data))]
def rm_M_readOthers : Room := { frames := 4, cells := 0, slots := 0, locals := 86 }
set_option maxHeartbeats 1000000 in
set_option maxRecDepth 100000 in
theorem c_M_readOthers (l : Launch) (dC : Nat → ClassId) (dI : Nat → Nat → Nat) (cI cB cS cT : ClassId) (N : Nat) (a_mo : Nat) (a_mo_base : Nat) (a_mo_coefficients : Nat) (a_mo_lengths : Nat) (a_mo_codes : Nat) (a_mo_otherOf : Nat) (a_mo_data : Nat) (a_mo_h : Nat) (a_mo_v : Nat) (a_mo_across : Nat) (a_mo_down : Nat) (a_mo_ownAcross : Nat) (a_mo_ownDown : Nat) (a_mo_before0 : Nat) (a_mo_draftCounts : Nat) (a_mo_draft : Nat) (a_mo_words : Nat) (a_mo_directOf : Nat) (a_mo_out : Nat) (a_mo_times : Nat) (a_mo_prediction : Nat) (a_mo_runBits : Nat) (a_mo_toCome : Nat) (a_mo_timesKept : Nat) (mo_thrown : Int32) (mo_width : Int32) (mo_height : Int32) (mo_many : Int32) (mo_unitsAcross : Int32) (mo_unitsDown : Int32) (mo_drafts : Int32) (mo_mask : Int32) (mo_first : Int32) (mo_last : Int32) (mo_before : Int32) (mo_bits : Int32) (mo_interval : Int32) (mo_size : Int32) (mo_outs : Int32) (mo_part : Int32) (mo_parted : Int32) (mo_failed : Int32) (mo_counting : Int32) (mo_run : Int32) (mo_runMany : Int32) (mo_comes : Int32) (mo_at : Int32) (mo_taken : Int32) (mo_left : Int32) (mo_fault : Int32) (mo_base : Nat → Int32) (mo_coefficients : Nat → Int32) (mo_lengths : Nat → Int32) (mo_codes : Nat → Int32) (mo_otherOf : Nat → Int32) (mo_data : Nat → Int32) (p0 : Int32) (p1 : Int32) (p2 : Int32) (sz : Nat) (z : Int32 × Int32 × Int32 × Int32 × Int32 × (Nat → Int32)) (hf : f_M_readOthers N p0 p1 p2 mo_first mo_last mo_bits mo_size mo_run mo_at mo_taken mo_left mo_fault mo_base mo_coefficients mo_lengths mo_codes mo_otherOf mo_data = some z) : Met l y_m1188 ws_m1188 rm_M_readOthers (gPre (dC, dI) [.ref a_mo, .int p0, .int p1, .int p2] (gT cI cB cS cT) (w_M_readOthers cI cB cS cT a_mo a_mo_base a_mo_coefficients a_mo_lengths a_mo_codes a_mo_otherOf a_mo_data a_mo_h a_mo_v a_mo_across a_mo_down a_mo_ownAcross a_mo_ownDown a_mo_before0 a_mo_draftCounts a_mo_draft a_mo_words a_mo_directOf a_mo_out a_mo_times a_mo_prediction a_mo_runBits a_mo_toCome a_mo_timesKept mo_thrown mo_width mo_height mo_many mo_unitsAcross mo_unitsDown mo_drafts mo_mask mo_first mo_last mo_before mo_bits mo_interval mo_size mo_outs mo_part mo_parted mo_failed mo_counting mo_run mo_runMany mo_comes mo_at mo_taken mo_left mo_fault mo_base mo_coefficients mo_lengths mo_codes mo_otherOf mo_data) sz) (gQv (dC, dI) (gT cI cB cS cT) (w_M_readOthers cI cB cS cT a_mo a_mo_base a_mo_coefficients a_mo_lengths a_mo_codes a_mo_otherOf a_mo_data a_mo_h a_mo_v a_mo_across a_mo_down a_mo_ownAcross a_mo_ownDown a_mo_before0 a_mo_draftCounts a_mo_draft a_mo_words a_mo_directOf a_mo_out a_mo_times a_mo_prediction a_mo_runBits a_mo_toCome a_mo_timesKept mo_thrown mo_width mo_height mo_many mo_unitsAcross mo_unitsDown mo_drafts mo_mask mo_first mo_last mo_before mo_bits mo_interval mo_size mo_outs mo_part mo_parted mo_failed mo_counting mo_run mo_runMany mo_comes mo_at mo_taken mo_left mo_fault mo_base mo_coefficients mo_lengths mo_codes mo_otherOf mo_data) (w_M_readOthers cI cB cS cT a_mo a_mo_base a_mo_coefficients a_mo_lengths a_mo_codes a_mo_otherOf a_mo_data a_mo_h a_mo_v a_mo_across a_mo_down a_mo_ownAcross a_mo_ownDown a_mo_before0 a_mo_draftCounts a_mo_draft a_mo_words a_mo_directOf a_mo_out a_mo_times a_mo_prediction a_mo_runBits a_mo_toCome a_mo_timesKept mo_thrown mo_width mo_height mo_many mo_unitsAcross mo_unitsDown mo_drafts mo_mask mo_first mo_last mo_before mo_bits mo_interval mo_size mo_outs mo_part mo_parted mo_failed mo_counting z.1 mo_runMany mo_comes z.2.1 z.2.2.1 z.2.2.2.1 z.2.2.2.2.1 mo_base z.2.2.2.2.2 mo_lengths mo_codes mo_otherOf mo_data) sz) 0 0 (va_A (w_M_readOthers cI cB cS cT a_mo a_mo_base a_mo_coefficients a_mo_lengths a_mo_codes a_mo_otherOf a_mo_data a_mo_h a_mo_v a_mo_across a_mo_down a_mo_ownAcross a_mo_ownDown a_mo_before0 a_mo_draftCounts a_mo_draft a_mo_words a_mo_directOf a_mo_out a_mo_times a_mo_prediction a_mo_runBits a_mo_toCome a_mo_timesKept mo_thrown mo_width mo_height mo_many mo_unitsAcross mo_unitsDown mo_drafts mo_mask mo_first mo_last mo_before mo_bits mo_interval mo_size mo_outs mo_part mo_parted mo_failed mo_counting mo_run mo_runMany mo_comes mo_at mo_taken mo_left mo_fault mo_base mo_coefficients mo_lengths mo_codes mo_otherOf mo_data) sz) := by
  refine Met.ofW (cc := prog_14_method_53_code) (maxL := 11) (ret := none) (by decide) rfl ?_
  intro p e s m args below meth c s₁ B hml hv
  obtain ⟨hargs, hsz, hP, hKN, hD0⟩ := hv
  have hK := hKN.1
  have hx := B.exec
  have hb := B.bytes
  have hr := B.returns
  have hts := atoms_spec (ws := ws_m1188) B.pre
  have hown : s.vm.findClass "ScanCoderModel" = some m.cls := findClass_of_methodNamed B.named
  have hlocks := B.notSynchronized
  have k0 := hts _ (List.mem_cons_of_mem _ tw_858)
  have k1 := hts _ (List.mem_cons_of_mem _ tw_859)
  have k2 := hts _ (List.mem_cons_of_mem _ tw_847)
  have k3 := hts _ (List.mem_cons_of_mem _ tw_844)
  have k4 := hts _ (List.mem_cons_of_mem _ tw_881)
  have k5 := hts _ (List.mem_cons_of_mem _ tw_856)
  have k6 := hts _ (List.mem_cons_of_mem _ tw_861)
  have k7 := hts _ (List.mem_cons_of_mem _ tw_873)
  have n0 : ∀ w ∈ u_ws "ScanCoderModel" T_11 49, w ∈ ws_m1188 := fun w h => List.mem_cons_of_mem _ (in_11 w h)
  subst hsz
  have hD := hD0.self (sz := s.heap.size)
  obtain ⟨A, hAe⟩ : ∃ A : Nat → Prop, va_A (w_M_readOthers cI cB cS cT a_mo a_mo_base a_mo_coefficients a_mo_lengths a_mo_codes a_mo_otherOf a_mo_data a_mo_h a_mo_v a_mo_across a_mo_down a_mo_ownAcross a_mo_ownDown a_mo_before0 a_mo_draftCounts a_mo_draft a_mo_words a_mo_directOf a_mo_out a_mo_times a_mo_prediction a_mo_runBits a_mo_toCome a_mo_timesKept mo_thrown mo_width mo_height mo_many mo_unitsAcross mo_unitsDown mo_drafts mo_mask mo_first mo_last mo_before mo_bits mo_interval mo_size mo_outs mo_part mo_parted mo_failed mo_counting mo_run mo_runMany mo_comes mo_at mo_taken mo_left mo_fault mo_base mo_coefficients mo_lengths mo_codes mo_otherOf mo_data) s.heap.size = A := ⟨_, rfl⟩
  rw [hAe] at hD
  have hA : ∀ q : Nat, s.heap.size ≤ q → A q := fun q h => by rw [← hAe]; exact Or.inr h
  have hS : va_S A s.heap s.heap [] := va_S.rf
  have hl := lv_entry ([.ref a_mo, .int p0, .int p1, .int p2]) (n := 11) (Nat.le_of_ble_eq_true rfl)
  have hfr : entryFrame m args 11 = F0 m 0 ((lg_sl ([.ref a_mo, .int p0, .int p1, .int p2]) ++ List.replicate (11 - (lg_sl ([.ref a_mo, .int p0, .int p1, .int p2])).length) Slot.unset).toArray) [] := by rw [hargs]; exact lg_entry_eq _ _ _
  rw [hfr]
  generalize (lg_sl ([.ref a_mo, .int p0, .int p1, .int p2]) ++ List.replicate (11 - (lg_sl ([.ref a_mo, .int p0, .int p1, .int p2])).length) Slot.unset).toArray = ls at hl ⊢
  have hl : lv_has ls 11 [(0, .ref a_mo), (1, .int p0), (2, .int p1), (3, .int p2)] := hl
  refine gen_Q (fun Q hQ => ?_)
  clear hfr
  have L17 : ∀ (v4_17 : Int32) (z : Nat → Int32), (GW (dC, dI) A p l e (headSpec ws_m1188 rm_M_readOthers).room s m args below meth c 0 0 Q 11 52 (w_M_readOthers cI cB cS cT a_mo a_mo_base a_mo_coefficients a_mo_lengths a_mo_codes a_mo_otherOf a_mo_data a_mo_h a_mo_v a_mo_across a_mo_down a_mo_ownAcross a_mo_ownDown a_mo_before0 a_mo_draftCounts a_mo_draft a_mo_words a_mo_directOf a_mo_out a_mo_times a_mo_prediction a_mo_runBits a_mo_toCome a_mo_timesKept mo_thrown mo_width mo_height mo_many mo_unitsAcross mo_unitsDown mo_drafts mo_mask mo_first mo_last mo_before mo_bits mo_interval mo_size mo_outs mo_part mo_parted mo_failed mo_counting mo_run mo_runMany mo_comes mo_at mo_taken mo_left mo_fault mo_base z mo_lengths mo_codes mo_otherOf mo_data) [(0, .ref a_mo), (1, .int p0), (2, .int p1), (3, .int p2), (4, .int v4_17)] []) → ∀ (k : Nat) (v5_17 : Int32) (mo_coefficients_17 : Nat → Int32), f_M_readOthers_L17 mo_last p0 mo_base p1 N k (v5_17, mo_coefficients_17) = some z → GW (dC, dI) A p l e (headSpec ws_m1188 rm_M_readOthers).room s m args below meth c 0 0 Q 11 17 (w_M_readOthers cI cB cS cT a_mo a_mo_base a_mo_coefficients a_mo_lengths a_mo_codes a_mo_otherOf a_mo_data a_mo_h a_mo_v a_mo_across a_mo_down a_mo_ownAcross a_mo_ownDown a_mo_before0 a_mo_draftCounts a_mo_draft a_mo_words a_mo_directOf a_mo_out a_mo_times a_mo_prediction a_mo_runBits a_mo_toCome a_mo_timesKept mo_thrown mo_width mo_height mo_many mo_unitsAcross mo_unitsDown mo_drafts mo_mask mo_first mo_last mo_before mo_bits mo_interval mo_size mo_outs mo_part mo_parted mo_failed mo_counting mo_run mo_runMany mo_comes mo_at mo_taken mo_left mo_fault mo_base mo_coefficients_17 mo_lengths mo_codes mo_otherOf mo_data) [(0, .ref a_mo), (1, .int p0), (2, .int p1), (3, .int p2), (4, .int v4_17), (5, .int v5_17)] [] := by
    intro v4_17 z hE0 k
    induction k with
    | zero =>
      intro v5_17 mo_coefficients_17 hf
      exact (it_zero hf).elim
    | succ k ih =>
      intro v5_17 mo_coefficients_17 hf H locs ls hP hD hS hl
      have hf : f_M_readOthers_L17b mo_last p0 mo_base p1 N (f_M_readOthers_L17 mo_last p0 mo_base p1 N k) v5_17 mo_coefficients_17 = some z := hf
      unfold f_M_readOthers_L17b at hf
      refine lv_iload hx hb d_m1188_17 (lv_at hl 5 rfl) ?_
      refine lv_aload_n hx hb d_m1188_19 rfl (lv_at hl 0 rfl) ?_
      refine va_get (D := (dC, dI)) (ci := 11) (v := .int mo_last) (C := "ScanCoderModel") (T := T_11) (N := 49) hx hb hts n0 hown hK hP 0 rfl rfl 25 (by decide) k1 (fun _ h9 => h9) rfl d_m1188_20 ?_
      refine lv_icmp_gt (tgt := 52) hx hb d_m1188_23 (by decide) (fun hc => ?_) (fun hc => ?_)
      · replace hf := (if_pos hc).symm.trans hf
        obtain rfl := Option.some.inj hf
        exact hE0  H locs ls hP hD hS (lv_sub hl [0, 1, 2, 3, 4] rfl)
      · replace hf := (if_neg hc).symm.trans hf
        refine lv_aload_n hx hb d_m1188_26 rfl (lv_at hl 0 rfl) ?_
        refine va_get (D := (dC, dI)) (ci := 11) (v := .ref a_mo_coefficients) (C := "ScanCoderModel") (T := T_11) (N := 49) hx hb hts n0 hown hK hP 0 rfl rfl 13 (by decide) k2 (fun _ h9 => h9) rfl d_m1188_27 ?_
        refine lv_bipush (v := (64 : Int32)) hx hb d_m1188_30 (by decide) ?_
        refine lv_aload_n hx hb d_m1188_32 rfl (lv_at hl 0 rfl) ?_
        refine va_get (D := (dC, dI)) (ci := 11) (v := .ref a_mo_base) (C := "ScanCoderModel") (T := T_11) (N := 49) hx hb hts n0 hown hK hP 0 rfl rfl 10 (by decide) k3 (fun _ h9 => h9) rfl d_m1188_33 ?_
        refine lv_iload_n hx hb d_m1188_36 rfl (lv_at hl 1 rfl) ?_
        obtain ⟨hi, hf⟩ := ob_if hf
        refine va_iald hx hb hK hP 1 0 rfl rfl hi d_m1188_37 ?_
        refine lv_iload_n hx hb d_m1188_38 rfl (lv_at hl 2 rfl) ?_
        refine lv_iadd hx hb d_m1188_39 ?_
        refine lv_imul hx hb d_m1188_40 ?_
        refine lv_iload hx hb d_m1188_41 (lv_at hl 5 rfl) ?_
        refine lv_iadd hx hb d_m1188_43 ?_
        refine lv_iconst (v := (0 : Int32)) hx hb d_m1188_44 (by decide) ?_
        obtain ⟨hi, hf⟩ := ob_if hf
        refine va_sast hx hb hK hP hD hS 2 2 rfl rfl hi d_m1188_45 (fun H locs hP hD hS => ?_)
        have hP : va_P (dC, dI) vwCl (w_M_readOthers cI cB cS cT a_mo a_mo_base a_mo_coefficients a_mo_lengths a_mo_codes a_mo_otherOf a_mo_data a_mo_h a_mo_v a_mo_across a_mo_down a_mo_ownAcross a_mo_ownDown a_mo_before0 a_mo_draftCounts a_mo_draft a_mo_words a_mo_directOf a_mo_out a_mo_times a_mo_prediction a_mo_runBits a_mo_toCome a_mo_timesKept mo_thrown mo_width mo_height mo_many mo_unitsAcross mo_unitsDown mo_drafts mo_mask mo_first mo_last mo_before mo_bits mo_interval mo_size mo_outs mo_part mo_parted mo_failed mo_counting mo_run mo_runMany mo_comes mo_at mo_taken mo_left mo_fault mo_base (upd mo_coefficients_17 (((64 : Int32) * ((mo_base p0.toNatClampNeg) + p1)) + v5_17).toNatClampNeg (vp_nar .short (0 : Int32))) mo_lengths mo_codes mo_otherOf mo_data) H := hP
        have hD : va_D A (w_M_readOthers cI cB cS cT a_mo a_mo_base a_mo_coefficients a_mo_lengths a_mo_codes a_mo_otherOf a_mo_data a_mo_h a_mo_v a_mo_across a_mo_down a_mo_ownAcross a_mo_ownDown a_mo_before0 a_mo_draftCounts a_mo_draft a_mo_words a_mo_directOf a_mo_out a_mo_times a_mo_prediction a_mo_runBits a_mo_toCome a_mo_timesKept mo_thrown mo_width mo_height mo_many mo_unitsAcross mo_unitsDown mo_drafts mo_mask mo_first mo_last mo_before mo_bits mo_interval mo_size mo_outs mo_part mo_parted mo_failed mo_counting mo_run mo_runMany mo_comes mo_at mo_taken mo_left mo_fault mo_base (upd mo_coefficients_17 (((64 : Int32) * ((mo_base p0.toNatClampNeg) + p1)) + v5_17).toNatClampNeg (vp_nar .short (0 : Int32))) mo_lengths mo_codes mo_otherOf mo_data) := hD
        refine lv_iinc (v := v5_17 + (1 : Int32)) (lv' := [(5, .int (v5_17 + (1 : Int32))), (0, .ref a_mo), (1, .int p0), (2, .int p1), (3, .int p2), (4, .int v4_17)]) hx hb d_m1188_46 hl (k := 5) rfl rfl (by decide) rfl (fun ls hl => ?_)
        refine lv_goto (tgt := 17) hx hb d_m1188_49 (by decide) ?_
        exact ih (v5_17 + (1 : Int32)) (upd mo_coefficients_17 (((64 : Int32) * ((mo_base p0.toNatClampNeg) + p1)) + v5_17).toNatClampNeg (vp_nar .short (0 : Int32))) hf H locs ls hP hD hS (lv_sub hl [1, 2, 3, 4, 5, 0] rfl)
  have L78 : ∀ (v4_78 : Int32) (z : Nat × Int32 × Int32 × Int32 × Int32 × Int32 × (Nat → Int32)), (z.1 = 0 → GW (dC, dI) A p l e (headSpec ws_m1188 rm_M_readOthers).room s m args below meth c 0 0 Q 11 127 (w_M_readOthers cI cB cS cT a_mo a_mo_base a_mo_coefficients a_mo_lengths a_mo_codes a_mo_otherOf a_mo_data a_mo_h a_mo_v a_mo_across a_mo_down a_mo_ownAcross a_mo_ownDown a_mo_before0 a_mo_draftCounts a_mo_draft a_mo_words a_mo_directOf a_mo_out a_mo_times a_mo_prediction a_mo_runBits a_mo_toCome a_mo_timesKept mo_thrown mo_width mo_height mo_many mo_unitsAcross mo_unitsDown mo_drafts mo_mask mo_first mo_last mo_before mo_bits mo_interval mo_size mo_outs mo_part mo_parted mo_failed mo_counting mo_run mo_runMany mo_comes z.2.2.1 z.2.2.2.1 z.2.2.2.2.1 z.2.2.2.2.2.1 mo_base z.2.2.2.2.2.2 mo_lengths mo_codes mo_otherOf mo_data) [] []) → (z.1 = 1 → GW (dC, dI) A p l e (headSpec ws_m1188 rm_M_readOthers).room s m args below meth c 0 0 Q 11 140 (w_M_readOthers cI cB cS cT a_mo a_mo_base a_mo_coefficients a_mo_lengths a_mo_codes a_mo_otherOf a_mo_data a_mo_h a_mo_v a_mo_across a_mo_down a_mo_ownAcross a_mo_ownDown a_mo_before0 a_mo_draftCounts a_mo_draft a_mo_words a_mo_directOf a_mo_out a_mo_times a_mo_prediction a_mo_runBits a_mo_toCome a_mo_timesKept mo_thrown mo_width mo_height mo_many mo_unitsAcross mo_unitsDown mo_drafts mo_mask mo_first mo_last mo_before mo_bits mo_interval mo_size mo_outs mo_part mo_parted mo_failed mo_counting mo_run mo_runMany mo_comes z.2.2.1 z.2.2.2.1 z.2.2.2.2.1 z.2.2.2.2.2.1 mo_base z.2.2.2.2.2.2 mo_lengths mo_codes mo_otherOf mo_data) [(0, .ref a_mo), (4, .int v4_78), (7, .int z.2.1)] []) → (z.1 = 2 → GW (dC, dI) A p l e (headSpec ws_m1188 rm_M_readOthers).room s m args below meth c 0 0 Q 11 197 (w_M_readOthers cI cB cS cT a_mo a_mo_base a_mo_coefficients a_mo_lengths a_mo_codes a_mo_otherOf a_mo_data a_mo_h a_mo_v a_mo_across a_mo_down a_mo_ownAcross a_mo_ownDown a_mo_before0 a_mo_draftCounts a_mo_draft a_mo_words a_mo_directOf a_mo_out a_mo_times a_mo_prediction a_mo_runBits a_mo_toCome a_mo_timesKept mo_thrown mo_width mo_height mo_many mo_unitsAcross mo_unitsDown mo_drafts mo_mask mo_first mo_last mo_before mo_bits mo_interval mo_size mo_outs mo_part mo_parted mo_failed mo_counting mo_run mo_runMany mo_comes z.2.2.1 z.2.2.2.1 z.2.2.2.2.1 z.2.2.2.2.2.1 mo_base z.2.2.2.2.2.2 mo_lengths mo_codes mo_otherOf mo_data) [(0, .ref a_mo)] []) → (z.1 = 3 → GW (dC, dI) A p l e (headSpec ws_m1188 rm_M_readOthers).room s m args below meth c 0 0 Q 11 282 (w_M_readOthers cI cB cS cT a_mo a_mo_base a_mo_coefficients a_mo_lengths a_mo_codes a_mo_otherOf a_mo_data a_mo_h a_mo_v a_mo_across a_mo_down a_mo_ownAcross a_mo_ownDown a_mo_before0 a_mo_draftCounts a_mo_draft a_mo_words a_mo_directOf a_mo_out a_mo_times a_mo_prediction a_mo_runBits a_mo_toCome a_mo_timesKept mo_thrown mo_width mo_height mo_many mo_unitsAcross mo_unitsDown mo_drafts mo_mask mo_first mo_last mo_before mo_bits mo_interval mo_size mo_outs mo_part mo_parted mo_failed mo_counting mo_run mo_runMany mo_comes z.2.2.1 z.2.2.2.1 z.2.2.2.2.1 z.2.2.2.2.2.1 mo_base z.2.2.2.2.2.2 mo_lengths mo_codes mo_otherOf mo_data) [] []) → ∀ (k : Nat) (v5_78 : Int32) (mo_at_78 : Int32) (mo_taken_78 : Int32) (mo_left_78 : Int32) (mo_fault_78 : Int32) (mo_coefficients_78 : Nat → Int32), f_M_readOthers_L78 mo_last p0 mo_otherOf mo_size mo_lengths mo_codes mo_data mo_bits p1 mo_base N k (v5_78, mo_at_78, mo_taken_78, mo_left_78, mo_fault_78, mo_coefficients_78) = some z → GW (dC, dI) A p l e (headSpec ws_m1188 rm_M_readOthers).room s m args below meth c 0 0 Q 11 78 (w_M_readOthers cI cB cS cT a_mo a_mo_base a_mo_coefficients a_mo_lengths a_mo_codes a_mo_otherOf a_mo_data a_mo_h a_mo_v a_mo_across a_mo_down a_mo_ownAcross a_mo_ownDown a_mo_before0 a_mo_draftCounts a_mo_draft a_mo_words a_mo_directOf a_mo_out a_mo_times a_mo_prediction a_mo_runBits a_mo_toCome a_mo_timesKept mo_thrown mo_width mo_height mo_many mo_unitsAcross mo_unitsDown mo_drafts mo_mask mo_first mo_last mo_before mo_bits mo_interval mo_size mo_outs mo_part mo_parted mo_failed mo_counting mo_run mo_runMany mo_comes mo_at_78 mo_taken_78 mo_left_78 mo_fault_78 mo_base mo_coefficients_78 mo_lengths mo_codes mo_otherOf mo_data) [(0, .ref a_mo), (1, .int p0), (2, .int p1), (4, .int v4_78), (5, .int v5_78)] [] := by
    intro v4_78 z hE0 hE1 hE2 hE3 k
    induction k with
    | zero =>
      intro v5_78 mo_at_78 mo_taken_78 mo_left_78 mo_fault_78 mo_coefficients_78 hf
      exact (it_zero hf).elim
    | succ k ih =>
      intro v5_78 mo_at_78 mo_taken_78 mo_left_78 mo_fault_78 mo_coefficients_78 hf H locs ls hP hD hS hl
      have J78_276 : ∀ (v5_j276 : Int32) (mo_at_j276 : Int32) (mo_taken_j276 : Int32) (mo_left_j276 : Int32) (mo_fault_j276 : Int32) (mo_coefficients_j276 : Nat → Int32), f_M_readOthers_J78_276 N (f_M_readOthers_L78 mo_last p0 mo_otherOf mo_size mo_lengths mo_codes mo_data mo_bits p1 mo_base N k) v5_j276 mo_at_j276 mo_taken_j276 mo_left_j276 mo_fault_j276 mo_coefficients_j276 = some z → GW (dC, dI) A p l e (headSpec ws_m1188 rm_M_readOthers).room s m args below meth c 0 0 Q 11 276 (w_M_readOthers cI cB cS cT a_mo a_mo_base a_mo_coefficients a_mo_lengths a_mo_codes a_mo_otherOf a_mo_data a_mo_h a_mo_v a_mo_across a_mo_down a_mo_ownAcross a_mo_ownDown a_mo_before0 a_mo_draftCounts a_mo_draft a_mo_words a_mo_directOf a_mo_out a_mo_times a_mo_prediction a_mo_runBits a_mo_toCome a_mo_timesKept mo_thrown mo_width mo_height mo_many mo_unitsAcross mo_unitsDown mo_drafts mo_mask mo_first mo_last mo_before mo_bits mo_interval mo_size mo_outs mo_part mo_parted mo_failed mo_counting mo_run mo_runMany mo_comes mo_at_j276 mo_taken_j276 mo_left_j276 mo_fault_j276 mo_base mo_coefficients_j276 mo_lengths mo_codes mo_otherOf mo_data) [(0, .ref a_mo), (1, .int p0), (2, .int p1), (4, .int v4_78), (5, .int v5_j276)] [] := by
        intro v5_j276 mo_at_j276 mo_taken_j276 mo_left_j276 mo_fault_j276 mo_coefficients_j276 hf H locs ls hP hD hS hl
        unfold f_M_readOthers_J78_276 at hf
        refine lv_iinc (v := v5_j276 + (1 : Int32)) (lv' := [(5, .int (v5_j276 + (1 : Int32))), (0, .ref a_mo), (1, .int p0), (2, .int p1), (4, .int v4_78)]) hx hb d_m1188_276 hl (k := 4) rfl rfl (by decide) rfl (fun ls hl => ?_)
        refine lv_goto (tgt := 78) hx hb d_m1188_279 (by decide) ?_
        exact ih (v5_j276 + (1 : Int32)) mo_at_j276 mo_taken_j276 mo_left_j276 mo_fault_j276 mo_coefficients_j276 hf H locs ls hP hD hS (lv_sub hl [1, 2, 3, 4, 0] rfl)
      have J78_273 : ∀ (v5_j273 : Int32) (mo_at_j273 : Int32) (mo_taken_j273 : Int32) (mo_left_j273 : Int32) (mo_fault_j273 : Int32) (s1_j273 : Int32) (s2_j273 : Int32) (s3_j273 : Int32) (s4_j273 : Int32), f_M_readOthers_J78_273 N (f_M_readOthers_L78 mo_last p0 mo_otherOf mo_size mo_lengths mo_codes mo_data mo_bits p1 mo_base N k) s1_j273 s2_j273 s3_j273 s4_j273 mo_fault_j273 mo_base mo_coefficients_78 v5_j273 mo_at_j273 mo_taken_j273 mo_left_j273 = some z → GW (dC, dI) A p l e (headSpec ws_m1188 rm_M_readOthers).room s m args below meth c 0 0 Q 11 273 (w_M_readOthers cI cB cS cT a_mo a_mo_base a_mo_coefficients a_mo_lengths a_mo_codes a_mo_otherOf a_mo_data a_mo_h a_mo_v a_mo_across a_mo_down a_mo_ownAcross a_mo_ownDown a_mo_before0 a_mo_draftCounts a_mo_draft a_mo_words a_mo_directOf a_mo_out a_mo_times a_mo_prediction a_mo_runBits a_mo_toCome a_mo_timesKept mo_thrown mo_width mo_height mo_many mo_unitsAcross mo_unitsDown mo_drafts mo_mask mo_first mo_last mo_before mo_bits mo_interval mo_size mo_outs mo_part mo_parted mo_failed mo_counting mo_run mo_runMany mo_comes mo_at_j273 mo_taken_j273 mo_left_j273 mo_fault_j273 mo_base mo_coefficients_78 mo_lengths mo_codes mo_otherOf mo_data) [(0, .ref a_mo), (1, .int p0), (2, .int p1), (4, .int v4_78), (5, .int v5_j273)] [.int s4_j273, .int s3_j273, .int s2_j273, .int s1_j273, .ref a_mo] := by
        intro v5_j273 mo_at_j273 mo_taken_j273 mo_left_j273 mo_fault_j273 s1_j273 s2_j273 s3_j273 s4_j273 hf H locs ls hP hD hS hl
        unfold f_M_readOthers_J78_273 at hf
        obtain ⟨z4, hz4, hf⟩ := ob_bind hf
        refine g_callv (wc := (w_M_become cI cB cS cT a_mo a_mo_base a_mo_coefficients a_mo_h a_mo_v a_mo_across a_mo_down a_mo_ownAcross a_mo_ownDown a_mo_before0 a_mo_draftCounts a_mo_draft a_mo_words a_mo_lengths a_mo_codes a_mo_directOf a_mo_otherOf a_mo_data a_mo_out a_mo_times a_mo_prediction a_mo_runBits a_mo_toCome a_mo_timesKept mo_thrown mo_width mo_height mo_many mo_unitsAcross mo_unitsDown mo_drafts mo_mask mo_first mo_last mo_before mo_bits mo_interval mo_size mo_outs mo_part mo_parted mo_failed mo_counting mo_run mo_runMany mo_comes mo_at_j273 mo_taken_j273 mo_left_j273 mo_fault_j273 mo_base mo_coefficients_78)) (w1 := (w_M_become cI cB cS cT a_mo a_mo_base a_mo_coefficients a_mo_h a_mo_v a_mo_across a_mo_down a_mo_ownAcross a_mo_ownDown a_mo_before0 a_mo_draftCounts a_mo_draft a_mo_words a_mo_lengths a_mo_codes a_mo_directOf a_mo_otherOf a_mo_data a_mo_out a_mo_times a_mo_prediction a_mo_runBits a_mo_toCome a_mo_timesKept mo_thrown mo_width mo_height mo_many mo_unitsAcross mo_unitsDown mo_drafts mo_mask mo_first mo_last mo_before mo_bits mo_interval mo_size mo_outs mo_part mo_parted mo_failed mo_counting mo_run mo_runMany mo_comes mo_at_j273 mo_taken_j273 mo_left_j273 z4.1 mo_base z4.2)) (w2 := (w_M_readOthers cI cB cS cT a_mo a_mo_base a_mo_coefficients a_mo_lengths a_mo_codes a_mo_otherOf a_mo_data a_mo_h a_mo_v a_mo_across a_mo_down a_mo_ownAcross a_mo_ownDown a_mo_before0 a_mo_draftCounts a_mo_draft a_mo_words a_mo_directOf a_mo_out a_mo_times a_mo_prediction a_mo_runBits a_mo_toCome a_mo_timesKept mo_thrown mo_width mo_height mo_many mo_unitsAcross mo_unitsDown mo_drafts mo_mask mo_first mo_last mo_before mo_bits mo_interval mo_size mo_outs mo_part mo_parted mo_failed mo_counting mo_run mo_runMany mo_comes mo_at_j273 mo_taken_j273 mo_left_j273 z4.1 mo_base z4.2 mo_lengths mo_codes mo_otherOf mo_data)) [0, 1, 2] [some 0, some 1, some 2, none, none, none, none] hP hD hS hA rfl rfl rfl rfl (va_runV (As := [.int s1_j273, .int s2_j273, .int s3_j273, .int s4_j273]) (rest := []) ⟨hx, hb, hml, hown, hts⟩ (c_M_become l dC dI cI cB cS cT a_mo a_mo_base a_mo_coefficients a_mo_h a_mo_v a_mo_across a_mo_down a_mo_ownAcross a_mo_ownDown a_mo_before0 a_mo_draftCounts a_mo_draft a_mo_words a_mo_lengths a_mo_codes a_mo_directOf a_mo_otherOf a_mo_data a_mo_out a_mo_times a_mo_prediction a_mo_runBits a_mo_toCome a_mo_timesKept mo_thrown mo_width mo_height mo_many mo_unitsAcross mo_unitsDown mo_drafts mo_mask mo_first mo_last mo_before mo_bits mo_interval mo_size mo_outs mo_part mo_parted mo_failed mo_counting mo_run mo_runMany mo_comes mo_at_j273 mo_taken_j273 mo_left_j273 mo_fault_j273 mo_base mo_coefficients_78 s1_j273 s2_j273 s3_j273 s4_j273 H.size z4 hz4) ⟨(callB_of 4 hts (gi tw_1184 rfl) rfl rfl rfl (hts _ (List.mem_cons_of_mem _ tw_16)) (hts _ (List.mem_cons_of_mem _ tw_1181)) (by decide +kernel) ⟨Nat.le_of_ble_eq_true rfl, Nat.le_of_ble_eq_true rfl⟩), hts _ (List.mem_cons_of_mem _ tw_1183), hts _ (List.mem_cons_of_mem _ ts_m1184)⟩ ⟨g_blind, va_recv hK hP (ci := 11) (q0 := 0) rfl rfl, g_at hKN (g_pm hP [0, 1, 2] rfl) (hD.sub [0, 1, 2] (by decide) rfl)⟩ rfl rfl hl.1 rfl (lv_room (Nat.le_of_ble_eq_true rfl)) d_m1188_273 ⟨Nat.zero_le _, Nat.zero_le _⟩) (fun H locs hP hD hS => ?_)
        refine W.eq (g2 := F0 m 276 ls []) rfl ?_
        exact J78_276 v5_j273 mo_at_j273 mo_taken_j273 mo_left_j273 z4.1 z4.2 hf H locs ls hP hD hS hl
      have J78_238 : ∀ (v5_j238 : Int32) (v9_j238 : Int32) (mo_at_j238 : Int32) (mo_taken_j238 : Int32) (mo_left_j238 : Int32) (mo_fault_j238 : Int32) (s0_j238 : Int32), f_M_readOthers_J78_238 N (f_M_readOthers_L78 mo_last p0 mo_otherOf mo_size mo_lengths mo_codes mo_data mo_bits p1 mo_base N k) s0_j238 mo_bits p0 p1 v5_j238 v9_j238 mo_fault_j238 mo_base mo_coefficients_78 mo_at_j238 mo_taken_j238 mo_left_j238 = some z → GW (dC, dI) A p l e (headSpec ws_m1188 rm_M_readOthers).room s m args below meth c 0 0 Q 11 238 (w_M_readOthers cI cB cS cT a_mo a_mo_base a_mo_coefficients a_mo_lengths a_mo_codes a_mo_otherOf a_mo_data a_mo_h a_mo_v a_mo_across a_mo_down a_mo_ownAcross a_mo_ownDown a_mo_before0 a_mo_draftCounts a_mo_draft a_mo_words a_mo_directOf a_mo_out a_mo_times a_mo_prediction a_mo_runBits a_mo_toCome a_mo_timesKept mo_thrown mo_width mo_height mo_many mo_unitsAcross mo_unitsDown mo_drafts mo_mask mo_first mo_last mo_before mo_bits mo_interval mo_size mo_outs mo_part mo_parted mo_failed mo_counting mo_run mo_runMany mo_comes mo_at_j238 mo_taken_j238 mo_left_j238 mo_fault_j238 mo_base mo_coefficients_78 mo_lengths mo_codes mo_otherOf mo_data) [(0, .ref a_mo), (1, .int p0), (2, .int p1), (4, .int v4_78), (5, .int v5_j238), (9, .int v9_j238)] [.int s0_j238] := by
        intro v5_j238 v9_j238 mo_at_j238 mo_taken_j238 mo_left_j238 mo_fault_j238 s0_j238 hf H locs ls hP hD hS hl
        unfold f_M_readOthers_J78_238 at hf
        refine lv_istore (lv' := [(10, .int s0_j238), (0, .ref a_mo), (1, .int p0), (2, .int p1), (4, .int v4_78), (5, .int v5_j238), (9, .int v9_j238)]) hx hb d_m1188_238 hl (by decide) rfl (fun ls hl => ?_)
        refine lv_aload_n hx hb d_m1188_240 rfl (lv_at hl 1 rfl) ?_
        refine lv_iload_n hx hb d_m1188_241 rfl (lv_at hl 2 rfl) ?_
        refine lv_iload_n hx hb d_m1188_242 rfl (lv_at hl 3 rfl) ?_
        refine lv_iload hx hb d_m1188_243 (lv_at hl 5 rfl) ?_
        refine lv_iload hx hb d_m1188_245 (lv_at hl 0 rfl) ?_
        refine lv_sipush (v := (1023 : Int32)) hx hb d_m1188_247 (by decide) ?_
        refine lv_aload_n hx hb d_m1188_250 rfl (lv_at hl 1 rfl) ?_
        refine va_get (D := (dC, dI)) (ci := 11) (v := .int mo_bits) (C := "ScanCoderModel") (T := T_11) (N := 49) hx hb hts n0 hown hK hP 0 rfl rfl 27 (by decide) k6 (fun _ h9 => h9) rfl d_m1188_251 ?_
        refine lv_ishr hx hb d_m1188_254 ?_
        refine lv_icmp_le (tgt := 264) hx hb d_m1188_255 (by decide) (fun hc => ?_) (fun hc => ?_)
        · replace hf := (if_pos hc).symm.trans hf
          refine lv_iload hx hb d_m1188_264 (lv_at hl 6 rfl) ?_
          refine lv_iconst (v := (1 : Int32)) hx hb d_m1188_266 (by decide) ?_
          refine lv_aload_n hx hb d_m1188_267 rfl (lv_at hl 1 rfl) ?_
          refine va_get (D := (dC, dI)) (ci := 11) (v := .int mo_bits) (C := "ScanCoderModel") (T := T_11) (N := 49) hx hb hts n0 hown hK hP 0 rfl rfl 27 (by decide) k6 (fun _ h9 => h9) rfl d_m1188_268 ?_
          refine lv_ishl hx hb d_m1188_271 ?_
          refine lv_imul hx hb d_m1188_272 ?_
          exact J78_273 v5_j238 mo_at_j238 mo_taken_j238 mo_left_j238 mo_fault_j238 p0 p1 v5_j238 (v9_j238 * ((1 : Int32) <<< (mo_bits &&& 31))) hf H locs ls hP hD hS (lv_sub hl [1, 2, 3, 4, 5] rfl)
        · replace hf := (if_neg hc).symm.trans hf
          refine lv_sipush (v := (9999 : Int32)) hx hb d_m1188_258 (by decide) ?_
          refine lv_goto (tgt := 273) hx hb d_m1188_261 (by decide) ?_
          exact J78_273 v5_j238 mo_at_j238 mo_taken_j238 mo_left_j238 mo_fault_j238 p0 p1 v5_j238 (9999 : Int32) hf H locs ls hP hD hS (lv_sub hl [1, 2, 3, 4, 5] rfl)
      have J78_178 : ∀ (v7_j178 : Int32) (v8_j178 : Int32) (mo_at_j178 : Int32) (mo_taken_j178 : Int32) (mo_left_j178 : Int32) (mo_fault_j178 : Int32), f_M_readOthers_J78_178 N (f_M_readOthers_L78 mo_last p0 mo_otherOf mo_size mo_lengths mo_codes mo_data mo_bits p1 mo_base N k) v8_j178 v7_j178 mo_at_j178 mo_taken_j178 mo_left_j178 mo_fault_j178 mo_coefficients_78 v5_78 mo_last mo_size mo_data mo_bits p0 p1 mo_base = some z → GW (dC, dI) A p l e (headSpec ws_m1188 rm_M_readOthers).room s m args below meth c 0 0 Q 11 178 (w_M_readOthers cI cB cS cT a_mo a_mo_base a_mo_coefficients a_mo_lengths a_mo_codes a_mo_otherOf a_mo_data a_mo_h a_mo_v a_mo_across a_mo_down a_mo_ownAcross a_mo_ownDown a_mo_before0 a_mo_draftCounts a_mo_draft a_mo_words a_mo_directOf a_mo_out a_mo_times a_mo_prediction a_mo_runBits a_mo_toCome a_mo_timesKept mo_thrown mo_width mo_height mo_many mo_unitsAcross mo_unitsDown mo_drafts mo_mask mo_first mo_last mo_before mo_bits mo_interval mo_size mo_outs mo_part mo_parted mo_failed mo_counting mo_run mo_runMany mo_comes mo_at_j178 mo_taken_j178 mo_left_j178 mo_fault_j178 mo_base mo_coefficients_78 mo_lengths mo_codes mo_otherOf mo_data) [(0, .ref a_mo), (1, .int p0), (2, .int p1), (4, .int v4_78), (5, .int v5_78), (7, .int v7_j178), (8, .int v8_j178)] [] := by
        intro v7_j178 v8_j178 mo_at_j178 mo_taken_j178 mo_left_j178 mo_fault_j178 hf H locs ls hP hD hS hl
        unfold f_M_readOthers_J78_178 at hf
        refine lv_iload hx hb d_m1188_178 (lv_at hl 6 rfl) ?_
        refine lv_bipush (v := (10 : Int32)) hx hb d_m1188_180 (by decide) ?_
        refine lv_icmp_gt (tgt := 197) hx hb d_m1188_182 (by decide) (fun hc => ?_) (fun hc => ?_)
        · replace hf := (if_pos hc).symm.trans hf
          obtain rfl := Option.some.inj hf
          exact hE2 rfl  H locs ls hP hD hS (lv_sub hl [0] rfl)
        · replace hf := (if_neg hc).symm.trans hf
          refine lv_iload hx hb d_m1188_185 (lv_at hl 4 rfl) ?_
          refine lv_iload hx hb d_m1188_187 (lv_at hl 5 rfl) ?_
          refine lv_iadd hx hb d_m1188_189 ?_
          refine lv_aload_n hx hb d_m1188_190 rfl (lv_at hl 0 rfl) ?_
          refine va_get (D := (dC, dI)) (ci := 11) (v := .int mo_last) (C := "ScanCoderModel") (T := T_11) (N := 49) hx hb hts n0 hown hK hP 0 rfl rfl 25 (by decide) k1 (fun _ h9 => h9) rfl d_m1188_191 ?_
          refine lv_icmp_le (tgt := 205) hx hb d_m1188_194 (by decide) (fun hc => ?_) (fun hc => ?_)
          · replace hf := (if_pos hc).symm.trans hf
            refine lv_iload hx hb d_m1188_205 (lv_at hl 4 rfl) ?_
            refine lv_iload hx hb d_m1188_207 (lv_at hl 5 rfl) ?_
            refine lv_iadd hx hb d_m1188_209 ?_
            refine lv_istore (lv' := [(5, .int (v5_78 + v7_j178)), (0, .ref a_mo), (1, .int p0), (2, .int p1), (4, .int v4_78), (7, .int v7_j178), (8, .int v8_j178)]) hx hb d_m1188_210 hl (by decide) rfl (fun ls hl => ?_)
            refine lv_iload hx hb d_m1188_212 (lv_at hl 6 rfl) ?_
            refine lv_if_le (tgt := 276) hx hb d_m1188_214 (by decide) (fun hc => ?_) (fun hc => ?_)
            · replace hf := (if_pos hc).symm.trans hf
              exact J78_276 (v5_78 + v7_j178) mo_at_j178 mo_taken_j178 mo_left_j178 mo_fault_j178 mo_coefficients_78 hf H locs ls hP hD hS (lv_sub hl [1, 2, 3, 4, 0] rfl)
            · replace hf := (if_neg hc).symm.trans hf
              refine lv_aload_n hx hb d_m1188_217 rfl (lv_at hl 1 rfl) ?_
              refine lv_iload hx hb d_m1188_218 (lv_at hl 6 rfl) ?_
              obtain ⟨z3, hz3, hf⟩ := ob_bind hf
              refine g_calli (wc := (w_M_numberOf cI cB cS cT a_mo a_mo_data a_mo_h a_mo_v a_mo_across a_mo_down a_mo_ownAcross a_mo_ownDown a_mo_base a_mo_coefficients a_mo_before0 a_mo_draftCounts a_mo_draft a_mo_words a_mo_lengths a_mo_codes a_mo_directOf a_mo_otherOf a_mo_out a_mo_times a_mo_prediction a_mo_runBits a_mo_toCome a_mo_timesKept mo_thrown mo_width mo_height mo_many mo_unitsAcross mo_unitsDown mo_drafts mo_mask mo_first mo_last mo_before mo_bits mo_interval mo_size mo_outs mo_part mo_parted mo_failed mo_counting mo_run mo_runMany mo_comes mo_at_j178 mo_taken_j178 mo_left_j178 mo_fault_j178 mo_data)) (w1 := (w_M_numberOf cI cB cS cT a_mo a_mo_data a_mo_h a_mo_v a_mo_across a_mo_down a_mo_ownAcross a_mo_ownDown a_mo_base a_mo_coefficients a_mo_before0 a_mo_draftCounts a_mo_draft a_mo_words a_mo_lengths a_mo_codes a_mo_directOf a_mo_otherOf a_mo_out a_mo_times a_mo_prediction a_mo_runBits a_mo_toCome a_mo_timesKept mo_thrown mo_width mo_height mo_many mo_unitsAcross mo_unitsDown mo_drafts mo_mask mo_first mo_last mo_before mo_bits mo_interval mo_size mo_outs mo_part mo_parted mo_failed mo_counting mo_run mo_runMany mo_comes z3.2.1 z3.2.2.1 z3.2.2.2.1 z3.2.2.2.2 mo_data)) (w2 := (w_M_readOthers cI cB cS cT a_mo a_mo_base a_mo_coefficients a_mo_lengths a_mo_codes a_mo_otherOf a_mo_data a_mo_h a_mo_v a_mo_across a_mo_down a_mo_ownAcross a_mo_ownDown a_mo_before0 a_mo_draftCounts a_mo_draft a_mo_words a_mo_directOf a_mo_out a_mo_times a_mo_prediction a_mo_runBits a_mo_toCome a_mo_timesKept mo_thrown mo_width mo_height mo_many mo_unitsAcross mo_unitsDown mo_drafts mo_mask mo_first mo_last mo_before mo_bits mo_interval mo_size mo_outs mo_part mo_parted mo_failed mo_counting mo_run mo_runMany mo_comes z3.2.1 z3.2.2.1 z3.2.2.2.1 z3.2.2.2.2 mo_base mo_coefficients_78 mo_lengths mo_codes mo_otherOf mo_data)) [0, 6] [some 0, none, none, none, none, none, some 1] hP hD hS hA rfl rfl rfl rfl (va_runV (As := [.int v8_j178]) (rest := []) ⟨hx, hb, hml, hown, hts⟩ (c_M_numberOf l dC dI cI cB cS cT N a_mo a_mo_data a_mo_h a_mo_v a_mo_across a_mo_down a_mo_ownAcross a_mo_ownDown a_mo_base a_mo_coefficients a_mo_before0 a_mo_draftCounts a_mo_draft a_mo_words a_mo_lengths a_mo_codes a_mo_directOf a_mo_otherOf a_mo_out a_mo_times a_mo_prediction a_mo_runBits a_mo_toCome a_mo_timesKept mo_thrown mo_width mo_height mo_many mo_unitsAcross mo_unitsDown mo_drafts mo_mask mo_first mo_last mo_before mo_bits mo_interval mo_size mo_outs mo_part mo_parted mo_failed mo_counting mo_run mo_runMany mo_comes mo_at_j178 mo_taken_j178 mo_left_j178 mo_fault_j178 mo_data v8_j178 H.size z3 hz3) ⟨(callB_of 1 hts (gi tw_1176 rfl) rfl rfl rfl (hts _ (List.mem_cons_of_mem _ tw_16)) (hts _ (List.mem_cons_of_mem _ tw_1173)) (by decide +kernel) ⟨Nat.le_of_ble_eq_true rfl, Nat.le_of_ble_eq_true rfl⟩), hts _ (List.mem_cons_of_mem _ tw_1175), hts _ (List.mem_cons_of_mem _ ts_m1176)⟩ ⟨g_blind, va_recv hK hP (ci := 11) (q0 := 0) rfl rfl, g_at hKN (g_pm hP [0, 6] rfl) (hD.sub [0, 6] (by decide) rfl)⟩ rfl rfl hl.1 rfl (lv_room (Nat.le_of_ble_eq_true rfl)) d_m1188_220 ⟨Nat.zero_le _, Nat.zero_le _⟩) (fun H locs hP hD hS => ?_)
              refine W.eq (g2 := F0 m 223 ls [.int z3.1]) rfl ?_
              refine lv_istore (lv' := [(9, .int z3.1), (5, .int (v5_78 + v7_j178)), (0, .ref a_mo), (1, .int p0), (2, .int p1), (4, .int v4_78), (7, .int v7_j178), (8, .int v8_j178)]) hx hb d_m1188_223 hl (by decide) rfl (fun ls hl => ?_)
              refine lv_iload hx hb d_m1188_225 (lv_at hl 0 rfl) ?_
              refine lv_if_ge (tgt := 236) hx hb d_m1188_227 (by decide) (fun hc => ?_) (fun hc => ?_)
              · replace hf := (if_pos hc).symm.trans hf
                refine lv_iload hx hb d_m1188_236 (lv_at hl 0 rfl) ?_
                exact J78_238 (v5_78 + v7_j178) z3.1 z3.2.1 z3.2.2.1 z3.2.2.2.1 z3.2.2.2.2 z3.1 hf H locs ls hP hD hS (lv_sub hl [2, 3, 4, 5, 1, 0] rfl)
              · replace hf := (if_neg hc).symm.trans hf
                refine lv_iload hx hb d_m1188_230 (lv_at hl 0 rfl) ?_
                refine lv_ineg hx hb d_m1188_232 ?_
                refine lv_goto (tgt := 238) hx hb d_m1188_233 (by decide) ?_
                exact J78_238 (v5_78 + v7_j178) z3.1 z3.2.1 z3.2.2.1 z3.2.2.2.1 z3.2.2.2.2 (-z3.1) hf H locs ls hP hD hS (lv_sub hl [2, 3, 4, 5, 1, 0] rfl)
          · replace hf := (if_neg hc).symm.trans hf
            obtain rfl := Option.some.inj hf
            exact hE2 rfl  H locs ls hP hD hS (lv_sub hl [0] rfl)
      have hf : f_M_readOthers_L78b mo_last p0 mo_otherOf mo_size mo_lengths mo_codes mo_data mo_bits p1 mo_base N (f_M_readOthers_L78 mo_last p0 mo_otherOf mo_size mo_lengths mo_codes mo_data mo_bits p1 mo_base N k) v5_78 mo_at_78 mo_taken_78 mo_left_78 mo_fault_78 mo_coefficients_78 = some z := hf
      unfold f_M_readOthers_L78b at hf
      refine lv_iload hx hb d_m1188_78 (lv_at hl 4 rfl) ?_
      refine lv_aload_n hx hb d_m1188_80 rfl (lv_at hl 0 rfl) ?_
      refine va_get (D := (dC, dI)) (ci := 11) (v := .int mo_last) (C := "ScanCoderModel") (T := T_11) (N := 49) hx hb hts n0 hown hK hP 0 rfl rfl 25 (by decide) k1 (fun _ h9 => h9) rfl d_m1188_81 ?_
      refine lv_icmp_gt (tgt := 282) hx hb d_m1188_84 (by decide) (fun hc => ?_) (fun hc => ?_)
      · replace hf := (if_pos hc).symm.trans hf
        obtain rfl := Option.some.inj hf
        exact hE3 rfl  H locs ls hP hD hS (lv_sub hl [] rfl)
      · replace hf := (if_neg hc).symm.trans hf
        refine lv_aload_n hx hb d_m1188_87 rfl (lv_at hl 0 rfl) ?_
        refine va_get (D := (dC, dI)) (ci := 11) (v := .int mo_fault_78) (C := "ScanCoderModel") (T := T_11) (N := 49) hx hb hts n0 hown hK hP 0 rfl rfl 47 (by decide) k4 (fun _ h9 => h9) rfl d_m1188_88 ?_
        refine lv_if_ne (tgt := 282) hx hb d_m1188_91 (by decide) (fun hc => ?_) (fun hc => ?_)
        · replace hf := (if_neg hc).symm.trans hf
          obtain rfl := Option.some.inj hf
          exact hE3 rfl  H locs ls hP hD hS (lv_sub hl [] rfl)
        · replace hf := (if_pos hc).symm.trans hf
          refine lv_aload_n hx hb d_m1188_94 rfl (lv_at hl 0 rfl) ?_
          refine lv_aload_n hx hb d_m1188_95 rfl (lv_at hl 0 rfl) ?_
          refine va_get (D := (dC, dI)) (ci := 11) (v := .ref a_mo_otherOf) (C := "ScanCoderModel") (T := T_11) (N := 49) hx hb hts n0 hown hK hP 0 rfl rfl 22 (by decide) k5 (fun _ h9 => h9) rfl d_m1188_96 ?_
          refine lv_iload_n hx hb d_m1188_99 rfl (lv_at hl 1 rfl) ?_
          obtain ⟨hi, hf⟩ := ob_if hf
          refine va_iald hx hb hK hP 5 0 rfl rfl hi d_m1188_100 ?_
          obtain ⟨z2, hz2, hf⟩ := ob_bind hf
          refine g_calli (wc := (w_M_symbol cI cB cS cT a_mo a_mo_lengths a_mo_codes a_mo_data a_mo_h a_mo_v a_mo_across a_mo_down a_mo_ownAcross a_mo_ownDown a_mo_base a_mo_coefficients a_mo_before0 a_mo_draftCounts a_mo_draft a_mo_words a_mo_directOf a_mo_otherOf a_mo_out a_mo_times a_mo_prediction a_mo_runBits a_mo_toCome a_mo_timesKept mo_thrown mo_width mo_height mo_many mo_unitsAcross mo_unitsDown mo_drafts mo_mask mo_first mo_last mo_before mo_bits mo_interval mo_size mo_outs mo_part mo_parted mo_failed mo_counting mo_run mo_runMany mo_comes mo_at_78 mo_taken_78 mo_left_78 mo_fault_78 mo_lengths mo_codes mo_data)) (w1 := (w_M_symbol cI cB cS cT a_mo a_mo_lengths a_mo_codes a_mo_data a_mo_h a_mo_v a_mo_across a_mo_down a_mo_ownAcross a_mo_ownDown a_mo_base a_mo_coefficients a_mo_before0 a_mo_draftCounts a_mo_draft a_mo_words a_mo_directOf a_mo_otherOf a_mo_out a_mo_times a_mo_prediction a_mo_runBits a_mo_toCome a_mo_timesKept mo_thrown mo_width mo_height mo_many mo_unitsAcross mo_unitsDown mo_drafts mo_mask mo_first mo_last mo_before mo_bits mo_interval mo_size mo_outs mo_part mo_parted mo_failed mo_counting mo_run mo_runMany mo_comes z2.2.1 z2.2.2.1 z2.2.2.2.1 z2.2.2.2.2 mo_lengths mo_codes mo_data)) (w2 := (w_M_readOthers cI cB cS cT a_mo a_mo_base a_mo_coefficients a_mo_lengths a_mo_codes a_mo_otherOf a_mo_data a_mo_h a_mo_v a_mo_across a_mo_down a_mo_ownAcross a_mo_ownDown a_mo_before0 a_mo_draftCounts a_mo_draft a_mo_words a_mo_directOf a_mo_out a_mo_times a_mo_prediction a_mo_runBits a_mo_toCome a_mo_timesKept mo_thrown mo_width mo_height mo_many mo_unitsAcross mo_unitsDown mo_drafts mo_mask mo_first mo_last mo_before mo_bits mo_interval mo_size mo_outs mo_part mo_parted mo_failed mo_counting mo_run mo_runMany mo_comes z2.2.1 z2.2.2.1 z2.2.2.2.1 z2.2.2.2.2 mo_base mo_coefficients_78 mo_lengths mo_codes mo_otherOf mo_data)) [0, 3, 4, 6] [some 0, none, none, some 1, some 2, none, some 3] hP hD hS hA rfl rfl rfl rfl (va_runV (As := [.int (mo_otherOf p0.toNatClampNeg)]) (rest := []) ⟨hx, hb, hml, hown, hts⟩ (c_M_symbol l dC dI cI cB cS cT N a_mo a_mo_lengths a_mo_codes a_mo_data a_mo_h a_mo_v a_mo_across a_mo_down a_mo_ownAcross a_mo_ownDown a_mo_base a_mo_coefficients a_mo_before0 a_mo_draftCounts a_mo_draft a_mo_words a_mo_directOf a_mo_otherOf a_mo_out a_mo_times a_mo_prediction a_mo_runBits a_mo_toCome a_mo_timesKept mo_thrown mo_width mo_height mo_many mo_unitsAcross mo_unitsDown mo_drafts mo_mask mo_first mo_last mo_before mo_bits mo_interval mo_size mo_outs mo_part mo_parted mo_failed mo_counting mo_run mo_runMany mo_comes mo_at_78 mo_taken_78 mo_left_78 mo_fault_78 mo_lengths mo_codes mo_data (mo_otherOf p0.toNatClampNeg) H.size z2 hz2) ⟨(callB_of 1 hts (gi tw_1172 rfl) rfl rfl rfl (hts _ (List.mem_cons_of_mem _ tw_16)) (hts _ (List.mem_cons_of_mem _ tw_1169)) (by decide +kernel) ⟨Nat.le_of_ble_eq_true rfl, Nat.le_of_ble_eq_true rfl⟩), hts _ (List.mem_cons_of_mem _ tw_1171), hts _ (List.mem_cons_of_mem _ ts_m1172)⟩ ⟨g_blind, va_recv hK hP (ci := 11) (q0 := 0) rfl rfl, g_at hKN (g_pm hP [0, 3, 4, 6] rfl) (hD.sub [0, 3, 4, 6] (by decide) rfl)⟩ rfl rfl hl.1 rfl (lv_room (Nat.le_of_ble_eq_true rfl)) d_m1188_101 ⟨Nat.zero_le _, Nat.zero_le _⟩) (fun H locs hP hD hS => ?_)
          refine W.eq (g2 := F0 m 104 ls [.int z2.1]) rfl ?_
          refine lv_istore (lv' := [(6, .int z2.1), (0, .ref a_mo), (1, .int p0), (2, .int p1), (4, .int v4_78), (5, .int v5_78)]) hx hb d_m1188_104 hl (by decide) rfl (fun ls hl => ?_)
          refine lv_iload hx hb d_m1188_106 (lv_at hl 0 rfl) ?_
          refine lv_bipush (v := (16 : Int32)) hx hb d_m1188_108 (by decide) ?_
          refine lv_idiv hx hb d_m1188_110 (by decide) ?_
          refine lv_istore (lv' := [(7, .int (z2.1 / (16 : Int32))), (6, .int z2.1), (0, .ref a_mo), (1, .int p0), (2, .int p1), (4, .int v4_78), (5, .int v5_78)]) hx hb d_m1188_111 hl (by decide) rfl (fun ls hl => ?_)
          refine lv_iload hx hb d_m1188_113 (lv_at hl 1 rfl) ?_
          refine lv_bipush (v := (16 : Int32)) hx hb d_m1188_115 (by decide) ?_
          refine lv_irem hx hb d_m1188_117 (by decide) ?_
          refine lv_istore (lv' := [(8, .int (z2.1 - z2.1 / (16 : Int32) * (16 : Int32))), (7, .int (z2.1 / (16 : Int32))), (6, .int z2.1), (0, .ref a_mo), (1, .int p0), (2, .int p1), (4, .int v4_78), (5, .int v5_78)]) hx hb d_m1188_118 hl (by decide) rfl (fun ls hl => ?_)
          refine lv_aload_n hx hb d_m1188_120 rfl (lv_at hl 3 rfl) ?_
          refine va_get (D := (dC, dI)) (ci := 11) (v := .int z2.2.2.2.2) (C := "ScanCoderModel") (T := T_11) (N := 49) hx hb hts n0 hown hK hP 0 rfl rfl 47 (by decide) k4 (fun _ h9 => h9) rfl d_m1188_121 ?_
          refine lv_if_le (tgt := 128) hx hb d_m1188_124 (by decide) (fun hc => ?_) (fun hc => ?_)
          · replace hf := (if_pos hc).symm.trans hf
            refine lv_iload hx hb d_m1188_128 (lv_at hl 0 rfl) ?_
            refine lv_if_ne (tgt := 178) hx hb d_m1188_130 (by decide) (fun hc => ?_) (fun hc => ?_)
            · replace hf := (if_neg hc).symm.trans hf
              exact J78_178 (z2.1 / (16 : Int32)) (z2.1 - z2.1 / (16 : Int32) * (16 : Int32)) z2.2.1 z2.2.2.1 z2.2.2.2.1 z2.2.2.2.2 hf H locs ls hP hD hS (lv_sub hl [3, 4, 5, 6, 7, 1, 0] rfl)
            · replace hf := (if_pos hc).symm.trans hf
              refine lv_iload hx hb d_m1188_133 (lv_at hl 1 rfl) ?_
              refine lv_bipush (v := (15 : Int32)) hx hb d_m1188_135 (by decide) ?_
              refine lv_icmp_ge (tgt := 178) hx hb d_m1188_137 (by decide) (fun hc => ?_) (fun hc => ?_)
              · replace hf := (if_pos hc).symm.trans hf
                exact J78_178 (z2.1 / (16 : Int32)) (z2.1 - z2.1 / (16 : Int32) * (16 : Int32)) z2.2.1 z2.2.2.1 z2.2.2.2.1 z2.2.2.2.2 hf H locs ls hP hD hS (lv_sub hl [3, 4, 5, 6, 7, 1, 0] rfl)
              · replace hf := (if_neg hc).symm.trans hf
                obtain rfl := Option.some.inj hf
                exact hE1 rfl  H locs ls hP hD hS (lv_sub hl [3, 6, 1] rfl)
          · replace hf := (if_neg hc).symm.trans hf
            obtain rfl := Option.some.inj hf
            exact hE0 rfl  H locs ls hP hD hS (lv_sub hl [] rfl)
  have J197 : ∀ (mo_at_j197 : Int32) (mo_taken_j197 : Int32) (mo_left_j197 : Int32) (mo_fault_j197 : Int32) (mo_coefficients_j197 : Nat → Int32), f_M_readOthers_J197 N mo_fault_j197 mo_run mo_at_j197 mo_taken_j197 mo_left_j197 mo_coefficients_j197 = some z → GW (dC, dI) A p l e (headSpec ws_m1188 rm_M_readOthers).room s m args below meth c 0 0 Q 11 197 (w_M_readOthers cI cB cS cT a_mo a_mo_base a_mo_coefficients a_mo_lengths a_mo_codes a_mo_otherOf a_mo_data a_mo_h a_mo_v a_mo_across a_mo_down a_mo_ownAcross a_mo_ownDown a_mo_before0 a_mo_draftCounts a_mo_draft a_mo_words a_mo_directOf a_mo_out a_mo_times a_mo_prediction a_mo_runBits a_mo_toCome a_mo_timesKept mo_thrown mo_width mo_height mo_many mo_unitsAcross mo_unitsDown mo_drafts mo_mask mo_first mo_last mo_before mo_bits mo_interval mo_size mo_outs mo_part mo_parted mo_failed mo_counting mo_run mo_runMany mo_comes mo_at_j197 mo_taken_j197 mo_left_j197 mo_fault_j197 mo_base mo_coefficients_j197 mo_lengths mo_codes mo_otherOf mo_data) [(0, .ref a_mo)] [] := by
    intro mo_at_j197 mo_taken_j197 mo_left_j197 mo_fault_j197 mo_coefficients_j197 hf H locs ls hP hD hS hl
    unfold f_M_readOthers_J197 at hf
    refine lv_aload_n hx hb d_m1188_197 rfl (lv_at hl 0 rfl) ?_
    refine lv_iconst (v := (3 : Int32)) hx hb d_m1188_198 (by decide) ?_
    obtain ⟨z8, hz8, hf⟩ := ob_bind hf
    refine g_calli (wc := (w_M_wrong cI cB cS cT a_mo a_mo_h a_mo_v a_mo_across a_mo_down a_mo_ownAcross a_mo_ownDown a_mo_base a_mo_coefficients a_mo_before0 a_mo_draftCounts a_mo_draft a_mo_words a_mo_lengths a_mo_codes a_mo_directOf a_mo_otherOf a_mo_data a_mo_out a_mo_times a_mo_prediction a_mo_runBits a_mo_toCome a_mo_timesKept mo_thrown mo_width mo_height mo_many mo_unitsAcross mo_unitsDown mo_drafts mo_mask mo_first mo_last mo_before mo_bits mo_interval mo_size mo_outs mo_part mo_parted mo_failed mo_counting mo_run mo_runMany mo_comes mo_at_j197 mo_taken_j197 mo_left_j197 mo_fault_j197)) (w1 := (w_M_wrong cI cB cS cT a_mo a_mo_h a_mo_v a_mo_across a_mo_down a_mo_ownAcross a_mo_ownDown a_mo_base a_mo_coefficients a_mo_before0 a_mo_draftCounts a_mo_draft a_mo_words a_mo_lengths a_mo_codes a_mo_directOf a_mo_otherOf a_mo_data a_mo_out a_mo_times a_mo_prediction a_mo_runBits a_mo_toCome a_mo_timesKept mo_thrown mo_width mo_height mo_many mo_unitsAcross mo_unitsDown mo_drafts mo_mask mo_first mo_last mo_before mo_bits mo_interval mo_size mo_outs mo_part mo_parted mo_failed mo_counting mo_run mo_runMany mo_comes mo_at_j197 mo_taken_j197 mo_left_j197 z8.2)) (w2 := (w_M_readOthers cI cB cS cT a_mo a_mo_base a_mo_coefficients a_mo_lengths a_mo_codes a_mo_otherOf a_mo_data a_mo_h a_mo_v a_mo_across a_mo_down a_mo_ownAcross a_mo_ownDown a_mo_before0 a_mo_draftCounts a_mo_draft a_mo_words a_mo_directOf a_mo_out a_mo_times a_mo_prediction a_mo_runBits a_mo_toCome a_mo_timesKept mo_thrown mo_width mo_height mo_many mo_unitsAcross mo_unitsDown mo_drafts mo_mask mo_first mo_last mo_before mo_bits mo_interval mo_size mo_outs mo_part mo_parted mo_failed mo_counting mo_run mo_runMany mo_comes mo_at_j197 mo_taken_j197 mo_left_j197 z8.2 mo_base mo_coefficients_j197 mo_lengths mo_codes mo_otherOf mo_data)) [0] [some 0, none, none, none, none, none, none] hP hD hS hA rfl rfl rfl rfl (va_runV (As := [.int (3 : Int32)]) (rest := []) ⟨hx, hb, hml, hown, hts⟩ (c_M_wrong l dC dI cI cB cS cT a_mo a_mo_h a_mo_v a_mo_across a_mo_down a_mo_ownAcross a_mo_ownDown a_mo_base a_mo_coefficients a_mo_before0 a_mo_draftCounts a_mo_draft a_mo_words a_mo_lengths a_mo_codes a_mo_directOf a_mo_otherOf a_mo_data a_mo_out a_mo_times a_mo_prediction a_mo_runBits a_mo_toCome a_mo_timesKept mo_thrown mo_width mo_height mo_many mo_unitsAcross mo_unitsDown mo_drafts mo_mask mo_first mo_last mo_before mo_bits mo_interval mo_size mo_outs mo_part mo_parted mo_failed mo_counting mo_run mo_runMany mo_comes mo_at_j197 mo_taken_j197 mo_left_j197 mo_fault_j197 (3 : Int32) H.size z8 hz8) ⟨(callB_of 1 hts (gi tw_1156 rfl) rfl rfl rfl (hts _ (List.mem_cons_of_mem _ tw_16)) (hts _ (List.mem_cons_of_mem _ tw_1153)) (by decide +kernel) ⟨Nat.le_of_ble_eq_true rfl, Nat.le_of_ble_eq_true rfl⟩), hts _ (List.mem_cons_of_mem _ tw_1155), hts _ (List.mem_cons_of_mem _ ts_m1156)⟩ ⟨g_blind, va_recv hK hP (ci := 11) (q0 := 0) rfl rfl, g_at hKN (g_pm hP [0] rfl) (hD.sub [0] (by decide) rfl)⟩ rfl rfl hl.1 rfl (lv_room (Nat.le_of_ble_eq_true rfl)) d_m1188_199 ⟨Nat.zero_le _, Nat.zero_le _⟩) (fun H locs hP hD hS => ?_)
    refine W.eq (g2 := F0 m 202 ls [.int z8.1]) rfl ?_
    refine lv_istore (lv' := [(9, .int z8.1), (0, .ref a_mo)]) hx hb d_m1188_202 hl (by decide) rfl (fun ls hl => ?_)
    obtain rfl := Option.some.inj hf
    subst hQ
    subst hAe
    exact W.vret hx hb hr (fun t ht hW => ⟨⟨(), rfl, trivial, by rw [ht]; exact hP, hD⟩, hS.F ht⟩) hS.2.2 d_m1188_204
  have J75 : ∀ (v4_j75 : Int32) (mo_coefficients_j75 : Nat → Int32), f_M_readOthers_J75 N mo_last p0 mo_otherOf mo_size mo_lengths mo_codes mo_data mo_bits p1 mo_base p2 mo_at mo_taken mo_left mo_fault mo_coefficients_j75 mo_run v4_j75 = some z → GW (dC, dI) A p l e (headSpec ws_m1188 rm_M_readOthers).room s m args below meth c 0 0 Q 11 75 (w_M_readOthers cI cB cS cT a_mo a_mo_base a_mo_coefficients a_mo_lengths a_mo_codes a_mo_otherOf a_mo_data a_mo_h a_mo_v a_mo_across a_mo_down a_mo_ownAcross a_mo_ownDown a_mo_before0 a_mo_draftCounts a_mo_draft a_mo_words a_mo_directOf a_mo_out a_mo_times a_mo_prediction a_mo_runBits a_mo_toCome a_mo_timesKept mo_thrown mo_width mo_height mo_many mo_unitsAcross mo_unitsDown mo_drafts mo_mask mo_first mo_last mo_before mo_bits mo_interval mo_size mo_outs mo_part mo_parted mo_failed mo_counting mo_run mo_runMany mo_comes mo_at mo_taken mo_left mo_fault mo_base mo_coefficients_j75 mo_lengths mo_codes mo_otherOf mo_data) [(0, .ref a_mo), (1, .int p0), (2, .int p1), (3, .int p2), (4, .int v4_j75)] [] := by
    intro v4_j75 mo_coefficients_j75 hf H locs ls hP hD hS hl
    unfold f_M_readOthers_J75 at hf
    refine lv_iload_n hx hb d_m1188_75 rfl (lv_at hl 3 rfl) ?_
    refine lv_istore (lv' := [(5, .int p2), (0, .ref a_mo), (1, .int p0), (2, .int p1), (3, .int p2), (4, .int v4_j75)]) hx hb d_m1188_76 hl (by decide) rfl (fun ls hl => ?_)
    obtain ⟨z5, hz5, hf⟩ := ob_bind hf
    refine L78 v4_j75 z5 ?_ ?_ ?_ ?_ N p2 mo_at mo_taken mo_left mo_fault mo_coefficients_j75 hz5 H locs ls hP hD hS (lv_sub hl [1, 2, 3, 5, 0] rfl)
    · intro hz H locs ls hP hD hS hl
      replace hf := (if_pos hz).symm.trans hf
      obtain rfl := Option.some.inj hf
      subst hQ
      subst hAe
      exact W.vret hx hb hr (fun t ht hW => ⟨⟨(), rfl, trivial, by rw [ht]; exact hP, hD⟩, hS.F ht⟩) hS.2.2 d_m1188_127
    · intro hz H locs ls hP hD hS hl
      replace hf := (if_neg (by rw [hz]; decide)).symm.trans hf
      replace hf := (if_pos hz).symm.trans hf
      refine lv_iload hx hb d_m1188_140 (lv_at hl 1 rfl) ?_
      refine lv_if_eq (tgt := 165) hx hb d_m1188_142 (by decide) (fun hc => ?_) (fun hc => ?_)
      · replace hf := (if_pos hc).symm.trans hf
        refine lv_iload hx hb d_m1188_165 (lv_at hl 2 rfl) ?_
        refine lv_if_le (tgt := 177) hx hb d_m1188_167 (by decide) (fun hc => ?_) (fun hc => ?_)
        · replace hf := (if_pos hc).symm.trans hf
          obtain rfl := Option.some.inj hf
          subst hQ
          subst hAe
          exact W.vret hx hb hr (fun t ht hW => ⟨⟨(), rfl, trivial, by rw [ht]; exact hP, hD⟩, hS.F ht⟩) hS.2.2 d_m1188_177
        · replace hf := (if_neg hc).symm.trans hf
          refine lv_aload_n hx hb d_m1188_170 rfl (lv_at hl 0 rfl) ?_
          refine lv_iconst (v := (3 : Int32)) hx hb d_m1188_171 (by decide) ?_
          obtain ⟨z6, hz6, hf⟩ := ob_bind hf
          refine g_calli (wc := (w_M_wrong cI cB cS cT a_mo a_mo_h a_mo_v a_mo_across a_mo_down a_mo_ownAcross a_mo_ownDown a_mo_base a_mo_coefficients a_mo_before0 a_mo_draftCounts a_mo_draft a_mo_words a_mo_lengths a_mo_codes a_mo_directOf a_mo_otherOf a_mo_data a_mo_out a_mo_times a_mo_prediction a_mo_runBits a_mo_toCome a_mo_timesKept mo_thrown mo_width mo_height mo_many mo_unitsAcross mo_unitsDown mo_drafts mo_mask mo_first mo_last mo_before mo_bits mo_interval mo_size mo_outs mo_part mo_parted mo_failed mo_counting mo_run mo_runMany mo_comes z5.2.2.1 z5.2.2.2.1 z5.2.2.2.2.1 z5.2.2.2.2.2.1)) (w1 := (w_M_wrong cI cB cS cT a_mo a_mo_h a_mo_v a_mo_across a_mo_down a_mo_ownAcross a_mo_ownDown a_mo_base a_mo_coefficients a_mo_before0 a_mo_draftCounts a_mo_draft a_mo_words a_mo_lengths a_mo_codes a_mo_directOf a_mo_otherOf a_mo_data a_mo_out a_mo_times a_mo_prediction a_mo_runBits a_mo_toCome a_mo_timesKept mo_thrown mo_width mo_height mo_many mo_unitsAcross mo_unitsDown mo_drafts mo_mask mo_first mo_last mo_before mo_bits mo_interval mo_size mo_outs mo_part mo_parted mo_failed mo_counting mo_run mo_runMany mo_comes z5.2.2.1 z5.2.2.2.1 z5.2.2.2.2.1 z6.2)) (w2 := (w_M_readOthers cI cB cS cT a_mo a_mo_base a_mo_coefficients a_mo_lengths a_mo_codes a_mo_otherOf a_mo_data a_mo_h a_mo_v a_mo_across a_mo_down a_mo_ownAcross a_mo_ownDown a_mo_before0 a_mo_draftCounts a_mo_draft a_mo_words a_mo_directOf a_mo_out a_mo_times a_mo_prediction a_mo_runBits a_mo_toCome a_mo_timesKept mo_thrown mo_width mo_height mo_many mo_unitsAcross mo_unitsDown mo_drafts mo_mask mo_first mo_last mo_before mo_bits mo_interval mo_size mo_outs mo_part mo_parted mo_failed mo_counting mo_run mo_runMany mo_comes z5.2.2.1 z5.2.2.2.1 z5.2.2.2.2.1 z6.2 mo_base z5.2.2.2.2.2.2 mo_lengths mo_codes mo_otherOf mo_data)) [0] [some 0, none, none, none, none, none, none] hP hD hS hA rfl rfl rfl rfl (va_runV (As := [.int (3 : Int32)]) (rest := []) ⟨hx, hb, hml, hown, hts⟩ (c_M_wrong l dC dI cI cB cS cT a_mo a_mo_h a_mo_v a_mo_across a_mo_down a_mo_ownAcross a_mo_ownDown a_mo_base a_mo_coefficients a_mo_before0 a_mo_draftCounts a_mo_draft a_mo_words a_mo_lengths a_mo_codes a_mo_directOf a_mo_otherOf a_mo_data a_mo_out a_mo_times a_mo_prediction a_mo_runBits a_mo_toCome a_mo_timesKept mo_thrown mo_width mo_height mo_many mo_unitsAcross mo_unitsDown mo_drafts mo_mask mo_first mo_last mo_before mo_bits mo_interval mo_size mo_outs mo_part mo_parted mo_failed mo_counting mo_run mo_runMany mo_comes z5.2.2.1 z5.2.2.2.1 z5.2.2.2.2.1 z5.2.2.2.2.2.1 (3 : Int32) H.size z6 hz6) ⟨(callB_of 1 hts (gi tw_1156 rfl) rfl rfl rfl (hts _ (List.mem_cons_of_mem _ tw_16)) (hts _ (List.mem_cons_of_mem _ tw_1153)) (by decide +kernel) ⟨Nat.le_of_ble_eq_true rfl, Nat.le_of_ble_eq_true rfl⟩), hts _ (List.mem_cons_of_mem _ tw_1155), hts _ (List.mem_cons_of_mem _ ts_m1156)⟩ ⟨g_blind, va_recv hK hP (ci := 11) (q0 := 0) rfl rfl, g_at hKN (g_pm hP [0] rfl) (hD.sub [0] (by decide) rfl)⟩ rfl rfl hl.1 rfl (lv_room (Nat.le_of_ble_eq_true rfl)) d_m1188_172 ⟨Nat.zero_le _, Nat.zero_le _⟩) (fun H locs hP hD hS => ?_)
          refine W.eq (g2 := F0 m 175 ls [.int z6.1]) rfl ?_
          refine lv_istore (lv' := [(9, .int z6.1), (0, .ref a_mo), (4, .int v4_j75), (7, .int z5.2.1)]) hx hb d_m1188_175 hl (by decide) rfl (fun ls hl => ?_)
          obtain rfl := Option.some.inj hf
          subst hQ
          subst hAe
          exact W.vret hx hb hr (fun t ht hW => ⟨⟨(), rfl, trivial, by rw [ht]; exact hP, hD⟩, hS.F ht⟩) hS.2.2 d_m1188_177
      · replace hf := (if_neg hc).symm.trans hf
        refine lv_aload_n hx hb d_m1188_145 rfl (lv_at hl 0 rfl) ?_
        refine lv_iconst (v := (1 : Int32)) hx hb d_m1188_146 (by decide) ?_
        refine lv_iload hx hb d_m1188_147 (lv_at hl 2 rfl) ?_
        refine lv_ishl hx hb d_m1188_149 ?_
        refine lv_aload_n hx hb d_m1188_150 rfl (lv_at hl 0 rfl) ?_
        refine lv_iload hx hb d_m1188_151 (lv_at hl 2 rfl) ?_
        obtain ⟨z7, hz7, hf⟩ := ob_bind hf
        refine g_calli (wc := (w_M_takes cI cB cS cT a_mo a_mo_data a_mo_h a_mo_v a_mo_across a_mo_down a_mo_ownAcross a_mo_ownDown a_mo_base a_mo_coefficients a_mo_before0 a_mo_draftCounts a_mo_draft a_mo_words a_mo_lengths a_mo_codes a_mo_directOf a_mo_otherOf a_mo_out a_mo_times a_mo_prediction a_mo_runBits a_mo_toCome a_mo_timesKept mo_thrown mo_width mo_height mo_many mo_unitsAcross mo_unitsDown mo_drafts mo_mask mo_first mo_last mo_before mo_bits mo_interval mo_size mo_outs mo_part mo_parted mo_failed mo_counting mo_run mo_runMany mo_comes z5.2.2.1 z5.2.2.2.1 z5.2.2.2.2.1 z5.2.2.2.2.2.1 mo_data)) (w1 := (w_M_takes cI cB cS cT a_mo a_mo_data a_mo_h a_mo_v a_mo_across a_mo_down a_mo_ownAcross a_mo_ownDown a_mo_base a_mo_coefficients a_mo_before0 a_mo_draftCounts a_mo_draft a_mo_words a_mo_lengths a_mo_codes a_mo_directOf a_mo_otherOf a_mo_out a_mo_times a_mo_prediction a_mo_runBits a_mo_toCome a_mo_timesKept mo_thrown mo_width mo_height mo_many mo_unitsAcross mo_unitsDown mo_drafts mo_mask mo_first mo_last mo_before mo_bits mo_interval mo_size mo_outs mo_part mo_parted mo_failed mo_counting mo_run mo_runMany mo_comes z7.2.1 z7.2.2.1 z7.2.2.2.1 z7.2.2.2.2 mo_data)) (w2 := (w_M_readOthers cI cB cS cT a_mo a_mo_base a_mo_coefficients a_mo_lengths a_mo_codes a_mo_otherOf a_mo_data a_mo_h a_mo_v a_mo_across a_mo_down a_mo_ownAcross a_mo_ownDown a_mo_before0 a_mo_draftCounts a_mo_draft a_mo_words a_mo_directOf a_mo_out a_mo_times a_mo_prediction a_mo_runBits a_mo_toCome a_mo_timesKept mo_thrown mo_width mo_height mo_many mo_unitsAcross mo_unitsDown mo_drafts mo_mask mo_first mo_last mo_before mo_bits mo_interval mo_size mo_outs mo_part mo_parted mo_failed mo_counting mo_run mo_runMany mo_comes z7.2.1 z7.2.2.1 z7.2.2.2.1 z7.2.2.2.2 mo_base z5.2.2.2.2.2.2 mo_lengths mo_codes mo_otherOf mo_data)) [0, 6] [some 0, none, none, none, none, none, some 1] hP hD hS hA rfl rfl rfl rfl (va_runV (As := [.int z5.2.1]) (rest := [.int ((1 : Int32) <<< (z5.2.1 &&& 31)), .ref a_mo]) ⟨hx, hb, hml, hown, hts⟩ (c_M_takes l dC dI cI cB cS cT N a_mo a_mo_data a_mo_h a_mo_v a_mo_across a_mo_down a_mo_ownAcross a_mo_ownDown a_mo_base a_mo_coefficients a_mo_before0 a_mo_draftCounts a_mo_draft a_mo_words a_mo_lengths a_mo_codes a_mo_directOf a_mo_otherOf a_mo_out a_mo_times a_mo_prediction a_mo_runBits a_mo_toCome a_mo_timesKept mo_thrown mo_width mo_height mo_many mo_unitsAcross mo_unitsDown mo_drafts mo_mask mo_first mo_last mo_before mo_bits mo_interval mo_size mo_outs mo_part mo_parted mo_failed mo_counting mo_run mo_runMany mo_comes z5.2.2.1 z5.2.2.2.1 z5.2.2.2.2.1 z5.2.2.2.2.2.1 mo_data z5.2.1 H.size z7 hz7) ⟨(callB_of 1 hts (gi tw_1180 rfl) rfl rfl rfl (hts _ (List.mem_cons_of_mem _ tw_16)) (hts _ (List.mem_cons_of_mem _ tw_1177)) (by decide +kernel) ⟨Nat.le_of_ble_eq_true rfl, Nat.le_of_ble_eq_true rfl⟩), hts _ (List.mem_cons_of_mem _ tw_1179), hts _ (List.mem_cons_of_mem _ ts_m1180)⟩ ⟨g_blind, va_recv hK hP (ci := 11) (q0 := 0) rfl rfl, g_at hKN (g_pm hP [0, 6] rfl) (hD.sub [0, 6] (by decide) rfl)⟩ rfl rfl hl.1 rfl (lv_room (Nat.le_of_ble_eq_true rfl)) d_m1188_153 ⟨Nat.zero_le _, Nat.zero_le _⟩) (fun H locs hP hD hS => ?_)
        refine W.eq (g2 := F0 m 156 ls [.int z7.1, .int ((1 : Int32) <<< (z5.2.1 &&& 31)), .ref a_mo]) rfl ?_
        refine lv_iadd hx hb d_m1188_156 ?_
        refine lv_iconst (v := (1 : Int32)) hx hb d_m1188_157 (by decide) ?_
        refine lv_isub hx hb d_m1188_158 ?_
        refine va_put (D := (dC, dI)) (ci := 11) (v := .int ((((1 : Int32) <<< (z5.2.1 &&& 31)) + z7.1) - (1 : Int32))) (ty := .int) (C := "ScanCoderModel") (T := T_11) (N := 49) hx hb hts n0 ty_11 tyok_11 nm_11 hown hK hP hD hS 0 rfl rfl 39 (by decide) k7 (fun _ h9 => h9) rfl (by decide +kernel) rfl rfl (Nat.le_of_ble_eq_true rfl) d_m1188_159 (fun H locs hP hD hS => ?_)
        have hP : va_P (dC, dI) vwCl (w_M_readOthers cI cB cS cT a_mo a_mo_base a_mo_coefficients a_mo_lengths a_mo_codes a_mo_otherOf a_mo_data a_mo_h a_mo_v a_mo_across a_mo_down a_mo_ownAcross a_mo_ownDown a_mo_before0 a_mo_draftCounts a_mo_draft a_mo_words a_mo_directOf a_mo_out a_mo_times a_mo_prediction a_mo_runBits a_mo_toCome a_mo_timesKept mo_thrown mo_width mo_height mo_many mo_unitsAcross mo_unitsDown mo_drafts mo_mask mo_first mo_last mo_before mo_bits mo_interval mo_size mo_outs mo_part mo_parted mo_failed mo_counting ((((1 : Int32) <<< (z5.2.1 &&& 31)) + z7.1) - (1 : Int32)) mo_runMany mo_comes z7.2.1 z7.2.2.1 z7.2.2.2.1 z7.2.2.2.2 mo_base z5.2.2.2.2.2.2 mo_lengths mo_codes mo_otherOf mo_data) H := hP
        have hD : va_D A (w_M_readOthers cI cB cS cT a_mo a_mo_base a_mo_coefficients a_mo_lengths a_mo_codes a_mo_otherOf a_mo_data a_mo_h a_mo_v a_mo_across a_mo_down a_mo_ownAcross a_mo_ownDown a_mo_before0 a_mo_draftCounts a_mo_draft a_mo_words a_mo_directOf a_mo_out a_mo_times a_mo_prediction a_mo_runBits a_mo_toCome a_mo_timesKept mo_thrown mo_width mo_height mo_many mo_unitsAcross mo_unitsDown mo_drafts mo_mask mo_first mo_last mo_before mo_bits mo_interval mo_size mo_outs mo_part mo_parted mo_failed mo_counting ((((1 : Int32) <<< (z5.2.1 &&& 31)) + z7.1) - (1 : Int32)) mo_runMany mo_comes z7.2.1 z7.2.2.1 z7.2.2.2.1 z7.2.2.2.2 mo_base z5.2.2.2.2.2.2 mo_lengths mo_codes mo_otherOf mo_data) := hD
        refine lv_goto (tgt := 177) hx hb d_m1188_162 (by decide) ?_
        obtain rfl := Option.some.inj hf
        subst hQ
        subst hAe
        exact W.vret hx hb hr (fun t ht hW => ⟨⟨(), rfl, trivial, by rw [ht]; exact hP, hD⟩, hS.F ht⟩) hS.2.2 d_m1188_177
    · intro hz H locs ls hP hD hS hl
      replace hf := (if_neg (by rw [hz]; decide)).symm.trans hf
      replace hf := (if_neg (by rw [hz]; decide)).symm.trans hf
      replace hf := (if_pos hz).symm.trans hf
      exact J197 z5.2.2.1 z5.2.2.2.1 z5.2.2.2.2.1 z5.2.2.2.2.2.1 z5.2.2.2.2.2.2 hf H locs ls hP hD hS hl
    · intro hz H locs ls hP hD hS hl
      replace hf := (if_neg (by rw [hz]; decide)).symm.trans hf
      replace hf := (if_neg (by rw [hz]; decide)).symm.trans hf
      replace hf := (if_neg (by rw [hz]; decide)).symm.trans hf
      obtain rfl := Option.some.inj hf
      subst hQ
      subst hAe
      exact W.vret hx hb hr (fun t ht hW => ⟨⟨(), rfl, trivial, by rw [ht]; exact hP, hD⟩, hS.F ht⟩) hS.2.2 d_m1188_282
  have J12 : ∀ (s0_j12 : Int32), f_M_readOthers_J12 N mo_last p0 mo_base p1 p2 mo_coefficients s0_j12 mo_otherOf mo_size mo_lengths mo_codes mo_data mo_bits mo_at mo_taken mo_left mo_fault mo_run = some z → GW (dC, dI) A p l e (headSpec ws_m1188 rm_M_readOthers).room s m args below meth c 0 0 Q 11 12 (w_M_readOthers cI cB cS cT a_mo a_mo_base a_mo_coefficients a_mo_lengths a_mo_codes a_mo_otherOf a_mo_data a_mo_h a_mo_v a_mo_across a_mo_down a_mo_ownAcross a_mo_ownDown a_mo_before0 a_mo_draftCounts a_mo_draft a_mo_words a_mo_directOf a_mo_out a_mo_times a_mo_prediction a_mo_runBits a_mo_toCome a_mo_timesKept mo_thrown mo_width mo_height mo_many mo_unitsAcross mo_unitsDown mo_drafts mo_mask mo_first mo_last mo_before mo_bits mo_interval mo_size mo_outs mo_part mo_parted mo_failed mo_counting mo_run mo_runMany mo_comes mo_at mo_taken mo_left mo_fault mo_base mo_coefficients mo_lengths mo_codes mo_otherOf mo_data) [(0, .ref a_mo), (1, .int p0), (2, .int p1), (3, .int p2)] [.int s0_j12] := by
    intro s0_j12 hf H locs ls hP hD hS hl
    unfold f_M_readOthers_J12 at hf
    refine lv_istore (lv' := [(4, .int s0_j12), (0, .ref a_mo), (1, .int p0), (2, .int p1), (3, .int p2)]) hx hb d_m1188_12 hl (by decide) rfl (fun ls hl => ?_)
    refine lv_iload_n hx hb d_m1188_14 rfl (lv_at hl 4 rfl) ?_
    refine lv_istore (lv' := [(5, .int p2), (4, .int s0_j12), (0, .ref a_mo), (1, .int p0), (2, .int p1), (3, .int p2)]) hx hb d_m1188_15 hl (by decide) rfl (fun ls hl => ?_)
    obtain ⟨z1, hz1, hf⟩ := ob_bind hf
    refine L17 s0_j12 z1 ?_ N p2 mo_coefficients hz1 H locs ls hP hD hS (lv_sub hl [2, 3, 4, 5, 1, 0] rfl)
    · intro H locs ls hP hD hS hl
      refine lv_iload hx hb d_m1188_52 (lv_at hl 4 rfl) ?_
      refine lv_if_eq (tgt := 75) hx hb d_m1188_54 (by decide) (fun hc => ?_) (fun hc => ?_)
      · replace hf := (if_pos hc).symm.trans hf
        exact J75 s0_j12 z1 hf H locs ls hP hD hS hl
      · replace hf := (if_neg hc).symm.trans hf
        refine lv_aload_n hx hb d_m1188_57 rfl (lv_at hl 0 rfl) ?_
        refine va_get (D := (dC, dI)) (ci := 11) (v := .int mo_run) (C := "ScanCoderModel") (T := T_11) (N := 49) hx hb hts n0 hown hK hP 0 rfl rfl 39 (by decide) k7 (fun _ h9 => h9) rfl d_m1188_58 ?_
        refine lv_if_le (tgt := 75) hx hb d_m1188_61 (by decide) (fun hc => ?_) (fun hc => ?_)
        · replace hf := (if_pos hc).symm.trans hf
          exact J75 s0_j12 z1 hf H locs ls hP hD hS hl
        · replace hf := (if_neg hc).symm.trans hf
          refine lv_aload_n hx hb d_m1188_64 rfl (lv_at hl 0 rfl) ?_
          refine lv_dup hx hb d_m1188_65 rfl ?_
          refine va_get (D := (dC, dI)) (ci := 11) (v := .int mo_run) (C := "ScanCoderModel") (T := T_11) (N := 49) hx hb hts n0 hown hK hP 0 rfl rfl 39 (by decide) k7 (fun _ h9 => h9) rfl d_m1188_66 ?_
          refine lv_iconst (v := (1 : Int32)) hx hb d_m1188_69 (by decide) ?_
          refine lv_isub hx hb d_m1188_70 ?_
          refine va_put (D := (dC, dI)) (ci := 11) (v := .int (mo_run - (1 : Int32))) (ty := .int) (C := "ScanCoderModel") (T := T_11) (N := 49) hx hb hts n0 ty_11 tyok_11 nm_11 hown hK hP hD hS 0 rfl rfl 39 (by decide) k7 (fun _ h9 => h9) rfl (by decide +kernel) rfl rfl (Nat.le_of_ble_eq_true rfl) d_m1188_71 (fun H locs hP hD hS => ?_)
          have hP : va_P (dC, dI) vwCl (w_M_readOthers cI cB cS cT a_mo a_mo_base a_mo_coefficients a_mo_lengths a_mo_codes a_mo_otherOf a_mo_data a_mo_h a_mo_v a_mo_across a_mo_down a_mo_ownAcross a_mo_ownDown a_mo_before0 a_mo_draftCounts a_mo_draft a_mo_words a_mo_directOf a_mo_out a_mo_times a_mo_prediction a_mo_runBits a_mo_toCome a_mo_timesKept mo_thrown mo_width mo_height mo_many mo_unitsAcross mo_unitsDown mo_drafts mo_mask mo_first mo_last mo_before mo_bits mo_interval mo_size mo_outs mo_part mo_parted mo_failed mo_counting (mo_run - (1 : Int32)) mo_runMany mo_comes mo_at mo_taken mo_left mo_fault mo_base z1 mo_lengths mo_codes mo_otherOf mo_data) H := hP
          have hD : va_D A (w_M_readOthers cI cB cS cT a_mo a_mo_base a_mo_coefficients a_mo_lengths a_mo_codes a_mo_otherOf a_mo_data a_mo_h a_mo_v a_mo_across a_mo_down a_mo_ownAcross a_mo_ownDown a_mo_before0 a_mo_draftCounts a_mo_draft a_mo_words a_mo_directOf a_mo_out a_mo_times a_mo_prediction a_mo_runBits a_mo_toCome a_mo_timesKept mo_thrown mo_width mo_height mo_many mo_unitsAcross mo_unitsDown mo_drafts mo_mask mo_first mo_last mo_before mo_bits mo_interval mo_size mo_outs mo_part mo_parted mo_failed mo_counting (mo_run - (1 : Int32)) mo_runMany mo_comes mo_at mo_taken mo_left mo_fault mo_base z1 mo_lengths mo_codes mo_otherOf mo_data) := hD
          obtain rfl := Option.some.inj hf
          subst hQ
          subst hAe
          exact W.vret hx hb hr (fun t ht hW => ⟨⟨(), rfl, trivial, by rw [ht]; exact hP, hD⟩, hS.F ht⟩) hS.2.2 d_m1188_74
  have hgo : ∀ (H : Heap) (locs : List Loc), va_P (dC, dI) vwCl (w_M_readOthers cI cB cS cT a_mo a_mo_base a_mo_coefficients a_mo_lengths a_mo_codes a_mo_otherOf a_mo_data a_mo_h a_mo_v a_mo_across a_mo_down a_mo_ownAcross a_mo_ownDown a_mo_before0 a_mo_draftCounts a_mo_draft a_mo_words a_mo_directOf a_mo_out a_mo_times a_mo_prediction a_mo_runBits a_mo_toCome a_mo_timesKept mo_thrown mo_width mo_height mo_many mo_unitsAcross mo_unitsDown mo_drafts mo_mask mo_first mo_last mo_before mo_bits mo_interval mo_size mo_outs mo_part mo_parted mo_failed mo_counting mo_run mo_runMany mo_comes mo_at mo_taken mo_left mo_fault mo_base mo_coefficients mo_lengths mo_codes mo_otherOf mo_data) H → va_S A s.heap H locs → W p l e (headSpec ws_m1188 rm_M_readOthers).room s m args below meth c H locs 0 0 Q (F0 m 0 ls []) := by
    intro H locs hP hS
    unfold f_M_readOthers at hf
    refine lv_aload_n hx hb d_m1188_0 rfl (lv_at hl 0 rfl) ?_
    refine va_get (D := (dC, dI)) (ci := 11) (v := .int mo_first) (C := "ScanCoderModel") (T := T_11) (N := 49) hx hb hts n0 hown hK hP 0 rfl rfl 24 (by decide) k0 (fun _ h9 => h9) rfl d_m1188_1 ?_
    refine lv_if_le (tgt := 11) hx hb d_m1188_4 (by decide) (fun hc => ?_) (fun hc => ?_)
    · replace hf := (if_pos hc).symm.trans hf
      refine lv_iconst (v := (0 : Int32)) hx hb d_m1188_11 (by decide) ?_
      exact J12 (0 : Int32) hf H locs ls hP hD hS hl
    · replace hf := (if_neg hc).symm.trans hf
      refine lv_iconst (v := (1 : Int32)) hx hb d_m1188_7 (by decide) ?_
      refine lv_goto (tgt := 12) hx hb d_m1188_8 (by decide) ?_
      exact J12 (1 : Int32) hf H locs ls hP hD hS hl
  exact hgo _ _ hP hS
def f_M_more_J108 (s1_j108 : Int32) (mo_at_j108 : Int32) (mo_taken_j108 : Int32) (mo_left_j108 : Int32) (mo_fault_j108 : Int32) (mo_coefficients : Nat → Int32) (s2_j108 : Int32) : Option (Int32 × Int32 × Int32 × Int32 × (Nat → Int32)) :=
  if s1_j108 < 0 ∨ 12288 ≤ s1_j108.toNatClampNeg then none else
  some (mo_at_j108, mo_taken_j108, mo_left_j108, mo_fault_j108, upd mo_coefficients s1_j108.toNatClampNeg (vp_nar .short s2_j108.toInt16.toInt32))
def f_M_more_J51 (mo_size : Int32) (mo_at : Int32) (mo_taken : Int32) (mo_left : Int32) (mo_fault : Int32) (mo_data : Nat → Int32) (s0_j51 : Int32) (v5_j51 : Int32) (v4_j51 : Int32) (mo_coefficients : Nat → Int32) : Option (Int32 × Int32 × Int32 × Int32 × (Nat → Int32)) :=
  (f_M_take mo_size mo_at mo_taken mo_left mo_fault mo_data).bind fun z1 =>
  if z1.1 = (1 : Int32) then
    if (s0_j51 &&& v5_j51) = 0 then
      if v4_j51 < 0 ∨ 12288 ≤ v4_j51.toNatClampNeg then none else
      if 0 ≤ (mo_coefficients v4_j51.toNatClampNeg) then
        if v4_j51 < 0 ∨ 12288 ≤ v4_j51.toNatClampNeg then none else
        f_M_more_J108 v4_j51 z1.2.1 z1.2.2.1 z1.2.2.2.1 z1.2.2.2.2 mo_coefficients ((mo_coefficients v4_j51.toNatClampNeg) + v5_j51)
      else
        if v4_j51 < 0 ∨ 12288 ≤ v4_j51.toNatClampNeg then none else
        f_M_more_J108 v4_j51 z1.2.1 z1.2.2.1 z1.2.2.2.1 z1.2.2.2.2 mo_coefficients ((mo_coefficients v4_j51.toNatClampNeg) - v5_j51)
    else
      some (z1.2.1, z1.2.2.1, z1.2.2.2.1, z1.2.2.2.2, mo_coefficients)
  else
    some (z1.2.1, z1.2.2.1, z1.2.2.2.1, z1.2.2.2.2, mo_coefficients)
def f_M_more (p0 : Int32) (p1 : Int32) (p2 : Int32) (mo_bits : Int32) (mo_size : Int32) (mo_at : Int32) (mo_taken : Int32) (mo_left : Int32) (mo_fault : Int32) (mo_base : Nat → Int32) (mo_coefficients : Nat → Int32) (mo_data : Nat → Int32) : Option (Int32 × Int32 × Int32 × Int32 × (Nat → Int32)) :=
  if p0 < 0 ∨ 4 ≤ p0.toNatClampNeg then none else
  if (((64 : Int32) * ((mo_base p0.toNatClampNeg) + p1)) + p2) < 0 ∨ 12288 ≤ (((64 : Int32) * ((mo_base p0.toNatClampNeg) + p1)) + p2).toNatClampNeg then none else
  if 0 ≤ (mo_coefficients (((64 : Int32) * ((mo_base p0.toNatClampNeg) + p1)) + p2).toNatClampNeg) then
    if (((64 : Int32) * ((mo_base p0.toNatClampNeg) + p1)) + p2) < 0 ∨ 12288 ≤ (((64 : Int32) * ((mo_base p0.toNatClampNeg) + p1)) + p2).toNatClampNeg then none else
    f_M_more_J51 mo_size mo_at mo_taken mo_left mo_fault mo_data (mo_coefficients (((64 : Int32) * ((mo_base p0.toNatClampNeg) + p1)) + p2).toNatClampNeg) ((1 : Int32) <<< (mo_bits &&& 31)) (((64 : Int32) * ((mo_base p0.toNatClampNeg) + p1)) + p2) mo_coefficients
  else
    if (((64 : Int32) * ((mo_base p0.toNatClampNeg) + p1)) + p2) < 0 ∨ 12288 ≤ (((64 : Int32) * ((mo_base p0.toNatClampNeg) + p1)) + p2).toNatClampNeg then none else
    f_M_more_J51 mo_size mo_at mo_taken mo_left mo_fault mo_data (-(mo_coefficients (((64 : Int32) * ((mo_base p0.toNatClampNeg) + p1)) + p2).toNatClampNeg)) ((1 : Int32) <<< (mo_bits &&& 31)) (((64 : Int32) * ((mo_base p0.toNatClampNeg) + p1)) + p2) mo_coefficients
abbrev w_M_more (cI cB cS cT : ClassId) (a_mo : Nat) (a_mo_base : Nat) (a_mo_coefficients : Nat) (a_mo_data : Nat) (a_mo_h : Nat) (a_mo_v : Nat) (a_mo_across : Nat) (a_mo_down : Nat) (a_mo_ownAcross : Nat) (a_mo_ownDown : Nat) (a_mo_before0 : Nat) (a_mo_draftCounts : Nat) (a_mo_draft : Nat) (a_mo_words : Nat) (a_mo_lengths : Nat) (a_mo_codes : Nat) (a_mo_directOf : Nat) (a_mo_otherOf : Nat) (a_mo_out : Nat) (a_mo_times : Nat) (a_mo_prediction : Nat) (a_mo_runBits : Nat) (a_mo_toCome : Nat) (a_mo_timesKept : Nat) (mo_thrown : Int32) (mo_width : Int32) (mo_height : Int32) (mo_many : Int32) (mo_unitsAcross : Int32) (mo_unitsDown : Int32) (mo_drafts : Int32) (mo_mask : Int32) (mo_first : Int32) (mo_last : Int32) (mo_before : Int32) (mo_bits : Int32) (mo_interval : Int32) (mo_size : Int32) (mo_outs : Int32) (mo_part : Int32) (mo_parted : Int32) (mo_failed : Int32) (mo_counting : Int32) (mo_run : Int32) (mo_runMany : Int32) (mo_comes : Int32) (mo_at : Int32) (mo_taken : Int32) (mo_left : Int32) (mo_fault : Int32) (mo_base : Nat → Int32) (mo_coefficients : Nat → Int32) (mo_data : Nat → Int32) : va_W := [(a_mo, .inr (11, [.int mo_thrown, .int mo_width, .int mo_height, .int mo_many, .ref a_mo_h, .ref a_mo_v, .ref a_mo_across, .ref a_mo_down, .ref a_mo_ownAcross, .ref a_mo_ownDown, .ref a_mo_base, .int mo_unitsAcross, .int mo_unitsDown, .ref a_mo_coefficients, .ref a_mo_before0, .ref a_mo_draftCounts, .ref a_mo_draft, .int mo_drafts, .ref a_mo_words, .ref a_mo_lengths, .ref a_mo_codes, .ref a_mo_directOf, .ref a_mo_otherOf, .int mo_mask, .int mo_first, .int mo_last, .int mo_before, .int mo_bits, .int mo_interval, .ref a_mo_data, .int mo_size, .ref a_mo_out, .int mo_outs, .int mo_part, .int mo_parted, .int mo_failed, .int mo_counting, .ref a_mo_times, .ref a_mo_prediction, .int mo_run, .ref a_mo_runBits, .int mo_runMany, .ref a_mo_toCome, .int mo_comes, .int mo_at, .int mo_taken, .int mo_left, .int mo_fault, .ref a_mo_timesKept])), (a_mo_base, .inl (cI, 4, .inl mo_base)), (a_mo_coefficients, .inl (cS, 12288, .inl mo_coefficients)), (a_mo_data, .inl (cB, 16384, .inl mo_data))]
def rm_M_more : Room := { frames := 2, cells := 0, slots := 0, locals := 41 }
set_option maxHeartbeats 1000000 in
set_option maxRecDepth 100000 in
theorem c_M_more (l : Launch) (dC : Nat → ClassId) (dI : Nat → Nat → Nat) (cI cB cS cT : ClassId) (a_mo : Nat) (a_mo_base : Nat) (a_mo_coefficients : Nat) (a_mo_data : Nat) (a_mo_h : Nat) (a_mo_v : Nat) (a_mo_across : Nat) (a_mo_down : Nat) (a_mo_ownAcross : Nat) (a_mo_ownDown : Nat) (a_mo_before0 : Nat) (a_mo_draftCounts : Nat) (a_mo_draft : Nat) (a_mo_words : Nat) (a_mo_lengths : Nat) (a_mo_codes : Nat) (a_mo_directOf : Nat) (a_mo_otherOf : Nat) (a_mo_out : Nat) (a_mo_times : Nat) (a_mo_prediction : Nat) (a_mo_runBits : Nat) (a_mo_toCome : Nat) (a_mo_timesKept : Nat) (mo_thrown : Int32) (mo_width : Int32) (mo_height : Int32) (mo_many : Int32) (mo_unitsAcross : Int32) (mo_unitsDown : Int32) (mo_drafts : Int32) (mo_mask : Int32) (mo_first : Int32) (mo_last : Int32) (mo_before : Int32) (mo_bits : Int32) (mo_interval : Int32) (mo_size : Int32) (mo_outs : Int32) (mo_part : Int32) (mo_parted : Int32) (mo_failed : Int32) (mo_counting : Int32) (mo_run : Int32) (mo_runMany : Int32) (mo_comes : Int32) (mo_at : Int32) (mo_taken : Int32) (mo_left : Int32) (mo_fault : Int32) (mo_base : Nat → Int32) (mo_coefficients : Nat → Int32) (mo_data : Nat → Int32) (p0 : Int32) (p1 : Int32) (p2 : Int32) (sz : Nat) (z : Int32 × Int32 × Int32 × Int32 × (Nat → Int32)) (hf : f_M_more p0 p1 p2 mo_bits mo_size mo_at mo_taken mo_left mo_fault mo_base mo_coefficients mo_data = some z) : Met l y_m1200 ws_m1200 rm_M_more (gPre (dC, dI) [.ref a_mo, .int p0, .int p1, .int p2] (gT cI cB cS cT) (w_M_more cI cB cS cT a_mo a_mo_base a_mo_coefficients a_mo_data a_mo_h a_mo_v a_mo_across a_mo_down a_mo_ownAcross a_mo_ownDown a_mo_before0 a_mo_draftCounts a_mo_draft a_mo_words a_mo_lengths a_mo_codes a_mo_directOf a_mo_otherOf a_mo_out a_mo_times a_mo_prediction a_mo_runBits a_mo_toCome a_mo_timesKept mo_thrown mo_width mo_height mo_many mo_unitsAcross mo_unitsDown mo_drafts mo_mask mo_first mo_last mo_before mo_bits mo_interval mo_size mo_outs mo_part mo_parted mo_failed mo_counting mo_run mo_runMany mo_comes mo_at mo_taken mo_left mo_fault mo_base mo_coefficients mo_data) sz) (gQv (dC, dI) (gT cI cB cS cT) (w_M_more cI cB cS cT a_mo a_mo_base a_mo_coefficients a_mo_data a_mo_h a_mo_v a_mo_across a_mo_down a_mo_ownAcross a_mo_ownDown a_mo_before0 a_mo_draftCounts a_mo_draft a_mo_words a_mo_lengths a_mo_codes a_mo_directOf a_mo_otherOf a_mo_out a_mo_times a_mo_prediction a_mo_runBits a_mo_toCome a_mo_timesKept mo_thrown mo_width mo_height mo_many mo_unitsAcross mo_unitsDown mo_drafts mo_mask mo_first mo_last mo_before mo_bits mo_interval mo_size mo_outs mo_part mo_parted mo_failed mo_counting mo_run mo_runMany mo_comes mo_at mo_taken mo_left mo_fault mo_base mo_coefficients mo_data) (w_M_more cI cB cS cT a_mo a_mo_base a_mo_coefficients a_mo_data a_mo_h a_mo_v a_mo_across a_mo_down a_mo_ownAcross a_mo_ownDown a_mo_before0 a_mo_draftCounts a_mo_draft a_mo_words a_mo_lengths a_mo_codes a_mo_directOf a_mo_otherOf a_mo_out a_mo_times a_mo_prediction a_mo_runBits a_mo_toCome a_mo_timesKept mo_thrown mo_width mo_height mo_many mo_unitsAcross mo_unitsDown mo_drafts mo_mask mo_first mo_last mo_before mo_bits mo_interval mo_size mo_outs mo_part mo_parted mo_failed mo_counting mo_run mo_runMany mo_comes z.1 z.2.1 z.2.2.1 z.2.2.2.1 mo_base z.2.2.2.2 mo_data) sz) 0 0 (va_A (w_M_more cI cB cS cT a_mo a_mo_base a_mo_coefficients a_mo_data a_mo_h a_mo_v a_mo_across a_mo_down a_mo_ownAcross a_mo_ownDown a_mo_before0 a_mo_draftCounts a_mo_draft a_mo_words a_mo_lengths a_mo_codes a_mo_directOf a_mo_otherOf a_mo_out a_mo_times a_mo_prediction a_mo_runBits a_mo_toCome a_mo_timesKept mo_thrown mo_width mo_height mo_many mo_unitsAcross mo_unitsDown mo_drafts mo_mask mo_first mo_last mo_before mo_bits mo_interval mo_size mo_outs mo_part mo_parted mo_failed mo_counting mo_run mo_runMany mo_comes mo_at mo_taken mo_left mo_fault mo_base mo_coefficients mo_data) sz) := by
  refine Met.ofW (cc := prog_14_method_54_code) (maxL := 7) (ret := none) (by decide) rfl ?_
  intro p e s m args below meth c s₁ B hml hv
  obtain ⟨hargs, hsz, hP, hKN, hD0⟩ := hv
  have hK := hKN.1
  have hx := B.exec
  have hb := B.bytes
  have hr := B.returns
  have hts := atoms_spec (ws := ws_m1200) B.pre
  have hown : s.vm.findClass "ScanCoderModel" = some m.cls := findClass_of_methodNamed B.named
  have hlocks := B.notSynchronized
  have k0 := hts _ (List.mem_cons_of_mem _ tw_844)
  have k1 := hts _ (List.mem_cons_of_mem _ tw_861)
  have k2 := hts _ (List.mem_cons_of_mem _ tw_847)
  have n0 : ∀ w ∈ u_ws "ScanCoderModel" T_11 49, w ∈ ws_m1200 := fun w h => List.mem_cons_of_mem _ (in_11 w h)
  subst hsz
  have hD := hD0.self (sz := s.heap.size)
  obtain ⟨A, hAe⟩ : ∃ A : Nat → Prop, va_A (w_M_more cI cB cS cT a_mo a_mo_base a_mo_coefficients a_mo_data a_mo_h a_mo_v a_mo_across a_mo_down a_mo_ownAcross a_mo_ownDown a_mo_before0 a_mo_draftCounts a_mo_draft a_mo_words a_mo_lengths a_mo_codes a_mo_directOf a_mo_otherOf a_mo_out a_mo_times a_mo_prediction a_mo_runBits a_mo_toCome a_mo_timesKept mo_thrown mo_width mo_height mo_many mo_unitsAcross mo_unitsDown mo_drafts mo_mask mo_first mo_last mo_before mo_bits mo_interval mo_size mo_outs mo_part mo_parted mo_failed mo_counting mo_run mo_runMany mo_comes mo_at mo_taken mo_left mo_fault mo_base mo_coefficients mo_data) s.heap.size = A := ⟨_, rfl⟩
  rw [hAe] at hD
  have hA : ∀ q : Nat, s.heap.size ≤ q → A q := fun q h => by rw [← hAe]; exact Or.inr h
  have hS : va_S A s.heap s.heap [] := va_S.rf
  have hl := lv_entry ([.ref a_mo, .int p0, .int p1, .int p2]) (n := 7) (Nat.le_of_ble_eq_true rfl)
  have hfr : entryFrame m args 7 = F0 m 0 ((lg_sl ([.ref a_mo, .int p0, .int p1, .int p2]) ++ List.replicate (7 - (lg_sl ([.ref a_mo, .int p0, .int p1, .int p2])).length) Slot.unset).toArray) [] := by rw [hargs]; exact lg_entry_eq _ _ _
  rw [hfr]
  generalize (lg_sl ([.ref a_mo, .int p0, .int p1, .int p2]) ++ List.replicate (7 - (lg_sl ([.ref a_mo, .int p0, .int p1, .int p2])).length) Slot.unset).toArray = ls at hl ⊢
  have hl : lv_has ls 7 [(0, .ref a_mo), (1, .int p0), (2, .int p1), (3, .int p2)] := hl
  refine gen_Q (fun Q hQ => ?_)
  clear hfr
  have J108 : ∀ (mo_at_j108 : Int32) (mo_taken_j108 : Int32) (mo_left_j108 : Int32) (mo_fault_j108 : Int32) (s1_j108 : Int32) (s2_j108 : Int32), f_M_more_J108 s1_j108 mo_at_j108 mo_taken_j108 mo_left_j108 mo_fault_j108 mo_coefficients s2_j108 = some z → GW (dC, dI) A p l e (headSpec ws_m1200 rm_M_more).room s m args below meth c 0 0 Q 7 108 (w_M_more cI cB cS cT a_mo a_mo_base a_mo_coefficients a_mo_data a_mo_h a_mo_v a_mo_across a_mo_down a_mo_ownAcross a_mo_ownDown a_mo_before0 a_mo_draftCounts a_mo_draft a_mo_words a_mo_lengths a_mo_codes a_mo_directOf a_mo_otherOf a_mo_out a_mo_times a_mo_prediction a_mo_runBits a_mo_toCome a_mo_timesKept mo_thrown mo_width mo_height mo_many mo_unitsAcross mo_unitsDown mo_drafts mo_mask mo_first mo_last mo_before mo_bits mo_interval mo_size mo_outs mo_part mo_parted mo_failed mo_counting mo_run mo_runMany mo_comes mo_at_j108 mo_taken_j108 mo_left_j108 mo_fault_j108 mo_base mo_coefficients mo_data) [] [.int s2_j108, .int s1_j108, .ref a_mo_coefficients] := by
    intro mo_at_j108 mo_taken_j108 mo_left_j108 mo_fault_j108 s1_j108 s2_j108 hf H locs ls hP hD hS hl
    unfold f_M_more_J108 at hf
    refine lv_i2s hx hb d_m1200_108 rfl ?_
    obtain ⟨hi, hf⟩ := ob_if hf
    refine va_sast hx hb hK hP hD hS 2 2 rfl rfl hi d_m1200_109 (fun H locs hP hD hS => ?_)
    have hP : va_P (dC, dI) vwCl (w_M_more cI cB cS cT a_mo a_mo_base a_mo_coefficients a_mo_data a_mo_h a_mo_v a_mo_across a_mo_down a_mo_ownAcross a_mo_ownDown a_mo_before0 a_mo_draftCounts a_mo_draft a_mo_words a_mo_lengths a_mo_codes a_mo_directOf a_mo_otherOf a_mo_out a_mo_times a_mo_prediction a_mo_runBits a_mo_toCome a_mo_timesKept mo_thrown mo_width mo_height mo_many mo_unitsAcross mo_unitsDown mo_drafts mo_mask mo_first mo_last mo_before mo_bits mo_interval mo_size mo_outs mo_part mo_parted mo_failed mo_counting mo_run mo_runMany mo_comes mo_at_j108 mo_taken_j108 mo_left_j108 mo_fault_j108 mo_base (upd mo_coefficients s1_j108.toNatClampNeg (vp_nar .short s2_j108.toInt16.toInt32)) mo_data) H := hP
    have hD : va_D A (w_M_more cI cB cS cT a_mo a_mo_base a_mo_coefficients a_mo_data a_mo_h a_mo_v a_mo_across a_mo_down a_mo_ownAcross a_mo_ownDown a_mo_before0 a_mo_draftCounts a_mo_draft a_mo_words a_mo_lengths a_mo_codes a_mo_directOf a_mo_otherOf a_mo_out a_mo_times a_mo_prediction a_mo_runBits a_mo_toCome a_mo_timesKept mo_thrown mo_width mo_height mo_many mo_unitsAcross mo_unitsDown mo_drafts mo_mask mo_first mo_last mo_before mo_bits mo_interval mo_size mo_outs mo_part mo_parted mo_failed mo_counting mo_run mo_runMany mo_comes mo_at_j108 mo_taken_j108 mo_left_j108 mo_fault_j108 mo_base (upd mo_coefficients s1_j108.toNatClampNeg (vp_nar .short s2_j108.toInt16.toInt32)) mo_data) := hD
    obtain rfl := Option.some.inj hf
    subst hQ
    subst hAe
    exact W.vret hx hb hr (fun t ht hW => ⟨⟨(), rfl, trivial, by rw [ht]; exact hP, hD⟩, hS.F ht⟩) hS.2.2 d_m1200_110
  have J51 : ∀ (v4_j51 : Int32) (v5_j51 : Int32) (s0_j51 : Int32), f_M_more_J51 mo_size mo_at mo_taken mo_left mo_fault mo_data s0_j51 v5_j51 v4_j51 mo_coefficients = some z → GW (dC, dI) A p l e (headSpec ws_m1200 rm_M_more).room s m args below meth c 0 0 Q 7 51 (w_M_more cI cB cS cT a_mo a_mo_base a_mo_coefficients a_mo_data a_mo_h a_mo_v a_mo_across a_mo_down a_mo_ownAcross a_mo_ownDown a_mo_before0 a_mo_draftCounts a_mo_draft a_mo_words a_mo_lengths a_mo_codes a_mo_directOf a_mo_otherOf a_mo_out a_mo_times a_mo_prediction a_mo_runBits a_mo_toCome a_mo_timesKept mo_thrown mo_width mo_height mo_many mo_unitsAcross mo_unitsDown mo_drafts mo_mask mo_first mo_last mo_before mo_bits mo_interval mo_size mo_outs mo_part mo_parted mo_failed mo_counting mo_run mo_runMany mo_comes mo_at mo_taken mo_left mo_fault mo_base mo_coefficients mo_data) [(0, .ref a_mo), (4, .int v4_j51), (5, .int v5_j51)] [.int s0_j51] := by
    intro v4_j51 v5_j51 s0_j51 hf H locs ls hP hD hS hl
    unfold f_M_more_J51 at hf
    refine lv_istore (lv' := [(6, .int s0_j51), (0, .ref a_mo), (4, .int v4_j51), (5, .int v5_j51)]) hx hb d_m1200_51 hl (by decide) rfl (fun ls hl => ?_)
    refine lv_aload_n hx hb d_m1200_53 rfl (lv_at hl 1 rfl) ?_
    obtain ⟨z1, hz1, hf⟩ := ob_bind hf
    refine g_calli (wc := (w_M_take cI cB cS cT a_mo a_mo_data a_mo_h a_mo_v a_mo_across a_mo_down a_mo_ownAcross a_mo_ownDown a_mo_base a_mo_coefficients a_mo_before0 a_mo_draftCounts a_mo_draft a_mo_words a_mo_lengths a_mo_codes a_mo_directOf a_mo_otherOf a_mo_out a_mo_times a_mo_prediction a_mo_runBits a_mo_toCome a_mo_timesKept mo_thrown mo_width mo_height mo_many mo_unitsAcross mo_unitsDown mo_drafts mo_mask mo_first mo_last mo_before mo_bits mo_interval mo_size mo_outs mo_part mo_parted mo_failed mo_counting mo_run mo_runMany mo_comes mo_at mo_taken mo_left mo_fault mo_data)) (w1 := (w_M_take cI cB cS cT a_mo a_mo_data a_mo_h a_mo_v a_mo_across a_mo_down a_mo_ownAcross a_mo_ownDown a_mo_base a_mo_coefficients a_mo_before0 a_mo_draftCounts a_mo_draft a_mo_words a_mo_lengths a_mo_codes a_mo_directOf a_mo_otherOf a_mo_out a_mo_times a_mo_prediction a_mo_runBits a_mo_toCome a_mo_timesKept mo_thrown mo_width mo_height mo_many mo_unitsAcross mo_unitsDown mo_drafts mo_mask mo_first mo_last mo_before mo_bits mo_interval mo_size mo_outs mo_part mo_parted mo_failed mo_counting mo_run mo_runMany mo_comes z1.2.1 z1.2.2.1 z1.2.2.2.1 z1.2.2.2.2 mo_data)) (w2 := (w_M_more cI cB cS cT a_mo a_mo_base a_mo_coefficients a_mo_data a_mo_h a_mo_v a_mo_across a_mo_down a_mo_ownAcross a_mo_ownDown a_mo_before0 a_mo_draftCounts a_mo_draft a_mo_words a_mo_lengths a_mo_codes a_mo_directOf a_mo_otherOf a_mo_out a_mo_times a_mo_prediction a_mo_runBits a_mo_toCome a_mo_timesKept mo_thrown mo_width mo_height mo_many mo_unitsAcross mo_unitsDown mo_drafts mo_mask mo_first mo_last mo_before mo_bits mo_interval mo_size mo_outs mo_part mo_parted mo_failed mo_counting mo_run mo_runMany mo_comes z1.2.1 z1.2.2.1 z1.2.2.2.1 z1.2.2.2.2 mo_base mo_coefficients mo_data)) [0, 3] [some 0, none, none, some 1] hP hD hS hA rfl rfl rfl rfl (va_runV (As := []) (rest := []) ⟨hx, hb, hml, hown, hts⟩ (c_M_take l dC dI cI cB cS cT a_mo a_mo_data a_mo_h a_mo_v a_mo_across a_mo_down a_mo_ownAcross a_mo_ownDown a_mo_base a_mo_coefficients a_mo_before0 a_mo_draftCounts a_mo_draft a_mo_words a_mo_lengths a_mo_codes a_mo_directOf a_mo_otherOf a_mo_out a_mo_times a_mo_prediction a_mo_runBits a_mo_toCome a_mo_timesKept mo_thrown mo_width mo_height mo_many mo_unitsAcross mo_unitsDown mo_drafts mo_mask mo_first mo_last mo_before mo_bits mo_interval mo_size mo_outs mo_part mo_parted mo_failed mo_counting mo_run mo_runMany mo_comes mo_at mo_taken mo_left mo_fault mo_data H.size z1 hz1) ⟨(callB_of 0 hts (gi tw_1168 rfl) rfl rfl rfl (hts _ (List.mem_cons_of_mem _ tw_16)) (hts _ (List.mem_cons_of_mem _ tw_1165)) (by decide +kernel) ⟨Nat.le_of_ble_eq_true rfl, Nat.le_of_ble_eq_true rfl⟩), hts _ (List.mem_cons_of_mem _ tw_1167), hts _ (List.mem_cons_of_mem _ ts_m1168)⟩ ⟨g_blind, va_recv hK hP (ci := 11) (q0 := 0) rfl rfl, g_at hKN (g_pm hP [0, 3] rfl) (hD.sub [0, 3] (by decide) rfl)⟩ rfl rfl hl.1 rfl (lv_room (Nat.le_of_ble_eq_true rfl)) d_m1200_54 ⟨Nat.zero_le _, Nat.zero_le _⟩) (fun H locs hP hD hS => ?_)
    refine W.eq (g2 := F0 m 57 ls [.int z1.1]) rfl ?_
    refine lv_iconst (v := (1 : Int32)) hx hb d_m1200_57 (by decide) ?_
    refine lv_icmp_ne (tgt := 110) hx hb d_m1200_58 (by decide) (fun hc => ?_) (fun hc => ?_)
    · replace hf := (if_neg hc).symm.trans hf
      obtain rfl := Option.some.inj hf
      subst hQ
      subst hAe
      exact W.vret hx hb hr (fun t ht hW => ⟨⟨(), rfl, trivial, by rw [ht]; exact hP, hD⟩, hS.F ht⟩) hS.2.2 d_m1200_110
    · replace hf := (if_pos hc).symm.trans hf
      refine lv_iload hx hb d_m1200_61 (lv_at hl 0 rfl) ?_
      refine lv_iload hx hb d_m1200_63 (lv_at hl 3 rfl) ?_
      refine lv_iand hx hb d_m1200_65 ?_
      refine lv_if_ne (tgt := 110) hx hb d_m1200_66 (by decide) (fun hc => ?_) (fun hc => ?_)
      · replace hf := (if_neg hc).symm.trans hf
        obtain rfl := Option.some.inj hf
        subst hQ
        subst hAe
        exact W.vret hx hb hr (fun t ht hW => ⟨⟨(), rfl, trivial, by rw [ht]; exact hP, hD⟩, hS.F ht⟩) hS.2.2 d_m1200_110
      · replace hf := (if_pos hc).symm.trans hf
        refine lv_aload_n hx hb d_m1200_69 rfl (lv_at hl 1 rfl) ?_
        refine va_get (D := (dC, dI)) (ci := 11) (v := .ref a_mo_coefficients) (C := "ScanCoderModel") (T := T_11) (N := 49) hx hb hts n0 hown hK hP 0 rfl rfl 13 (by decide) k2 (fun _ h9 => h9) rfl d_m1200_70 ?_
        refine lv_iload hx hb d_m1200_73 (lv_at hl 2 rfl) ?_
        refine lv_aload_n hx hb d_m1200_75 rfl (lv_at hl 1 rfl) ?_
        refine va_get (D := (dC, dI)) (ci := 11) (v := .ref a_mo_coefficients) (C := "ScanCoderModel") (T := T_11) (N := 49) hx hb hts n0 hown hK hP 0 rfl rfl 13 (by decide) k2 (fun _ h9 => h9) rfl d_m1200_76 ?_
        refine lv_iload hx hb d_m1200_79 (lv_at hl 2 rfl) ?_
        obtain ⟨hi, hf⟩ := ob_if hf
        refine va_sald hx hb hK hP 2 2 rfl rfl hi d_m1200_81 ?_
        refine lv_if_ge (tgt := 98) hx hb d_m1200_82 (by decide) (fun hc => ?_) (fun hc => ?_)
        · replace hf := (if_pos hc).symm.trans hf
          refine lv_aload_n hx hb d_m1200_98 rfl (lv_at hl 1 rfl) ?_
          refine va_get (D := (dC, dI)) (ci := 11) (v := .ref a_mo_coefficients) (C := "ScanCoderModel") (T := T_11) (N := 49) hx hb hts n0 hown hK hP 0 rfl rfl 13 (by decide) k2 (fun _ h9 => h9) rfl d_m1200_99 ?_
          refine lv_iload hx hb d_m1200_102 (lv_at hl 2 rfl) ?_
          obtain ⟨hi, hf⟩ := ob_if hf
          refine va_sald hx hb hK hP 2 2 rfl rfl hi d_m1200_104 ?_
          refine lv_iload hx hb d_m1200_105 (lv_at hl 3 rfl) ?_
          refine lv_iadd hx hb d_m1200_107 ?_
          exact J108 z1.2.1 z1.2.2.1 z1.2.2.2.1 z1.2.2.2.2 v4_j51 ((mo_coefficients v4_j51.toNatClampNeg) + v5_j51) hf H locs ls hP hD hS (lv_sub hl [] rfl)
        · replace hf := (if_neg hc).symm.trans hf
          refine lv_aload_n hx hb d_m1200_85 rfl (lv_at hl 1 rfl) ?_
          refine va_get (D := (dC, dI)) (ci := 11) (v := .ref a_mo_coefficients) (C := "ScanCoderModel") (T := T_11) (N := 49) hx hb hts n0 hown hK hP 0 rfl rfl 13 (by decide) k2 (fun _ h9 => h9) rfl d_m1200_86 ?_
          refine lv_iload hx hb d_m1200_89 (lv_at hl 2 rfl) ?_
          obtain ⟨hi, hf⟩ := ob_if hf
          refine va_sald hx hb hK hP 2 2 rfl rfl hi d_m1200_91 ?_
          refine lv_iload hx hb d_m1200_92 (lv_at hl 3 rfl) ?_
          refine lv_isub hx hb d_m1200_94 ?_
          refine lv_goto (tgt := 108) hx hb d_m1200_95 (by decide) ?_
          exact J108 z1.2.1 z1.2.2.1 z1.2.2.2.1 z1.2.2.2.2 v4_j51 ((mo_coefficients v4_j51.toNatClampNeg) - v5_j51) hf H locs ls hP hD hS (lv_sub hl [] rfl)
  have hgo : ∀ (H : Heap) (locs : List Loc), va_P (dC, dI) vwCl (w_M_more cI cB cS cT a_mo a_mo_base a_mo_coefficients a_mo_data a_mo_h a_mo_v a_mo_across a_mo_down a_mo_ownAcross a_mo_ownDown a_mo_before0 a_mo_draftCounts a_mo_draft a_mo_words a_mo_lengths a_mo_codes a_mo_directOf a_mo_otherOf a_mo_out a_mo_times a_mo_prediction a_mo_runBits a_mo_toCome a_mo_timesKept mo_thrown mo_width mo_height mo_many mo_unitsAcross mo_unitsDown mo_drafts mo_mask mo_first mo_last mo_before mo_bits mo_interval mo_size mo_outs mo_part mo_parted mo_failed mo_counting mo_run mo_runMany mo_comes mo_at mo_taken mo_left mo_fault mo_base mo_coefficients mo_data) H → va_S A s.heap H locs → W p l e (headSpec ws_m1200 rm_M_more).room s m args below meth c H locs 0 0 Q (F0 m 0 ls []) := by
    intro H locs hP hS
    unfold f_M_more at hf
    refine lv_bipush (v := (64 : Int32)) hx hb d_m1200_0 (by decide) ?_
    refine lv_aload_n hx hb d_m1200_2 rfl (lv_at hl 0 rfl) ?_
    refine va_get (D := (dC, dI)) (ci := 11) (v := .ref a_mo_base) (C := "ScanCoderModel") (T := T_11) (N := 49) hx hb hts n0 hown hK hP 0 rfl rfl 10 (by decide) k0 (fun _ h9 => h9) rfl d_m1200_3 ?_
    refine lv_iload_n hx hb d_m1200_6 rfl (lv_at hl 1 rfl) ?_
    obtain ⟨hi, hf⟩ := ob_if hf
    refine va_iald hx hb hK hP 1 0 rfl rfl hi d_m1200_7 ?_
    refine lv_iload_n hx hb d_m1200_8 rfl (lv_at hl 2 rfl) ?_
    refine lv_iadd hx hb d_m1200_9 ?_
    refine lv_imul hx hb d_m1200_10 ?_
    refine lv_iload_n hx hb d_m1200_11 rfl (lv_at hl 3 rfl) ?_
    refine lv_iadd hx hb d_m1200_12 ?_
    refine lv_istore (lv' := [(4, .int (((64 : Int32) * ((mo_base p0.toNatClampNeg) + p1)) + p2)), (0, .ref a_mo), (1, .int p0), (2, .int p1), (3, .int p2)]) hx hb d_m1200_13 hl (by decide) rfl (fun ls hl => ?_)
    refine lv_iconst (v := (1 : Int32)) hx hb d_m1200_15 (by decide) ?_
    refine lv_aload_n hx hb d_m1200_16 rfl (lv_at hl 1 rfl) ?_
    refine va_get (D := (dC, dI)) (ci := 11) (v := .int mo_bits) (C := "ScanCoderModel") (T := T_11) (N := 49) hx hb hts n0 hown hK hP 0 rfl rfl 27 (by decide) k1 (fun _ h9 => h9) rfl d_m1200_17 ?_
    refine lv_ishl hx hb d_m1200_20 ?_
    refine lv_istore (lv' := [(5, .int ((1 : Int32) <<< (mo_bits &&& 31))), (4, .int (((64 : Int32) * ((mo_base p0.toNatClampNeg) + p1)) + p2)), (0, .ref a_mo), (1, .int p0), (2, .int p1), (3, .int p2)]) hx hb d_m1200_21 hl (by decide) rfl (fun ls hl => ?_)
    refine lv_aload_n hx hb d_m1200_23 rfl (lv_at hl 2 rfl) ?_
    refine va_get (D := (dC, dI)) (ci := 11) (v := .ref a_mo_coefficients) (C := "ScanCoderModel") (T := T_11) (N := 49) hx hb hts n0 hown hK hP 0 rfl rfl 13 (by decide) k2 (fun _ h9 => h9) rfl d_m1200_24 ?_
    refine lv_iload hx hb d_m1200_27 (lv_at hl 1 rfl) ?_
    obtain ⟨hi, hf⟩ := ob_if hf
    refine va_sald hx hb hK hP 2 2 rfl rfl hi d_m1200_29 ?_
    refine lv_if_ge (tgt := 44) hx hb d_m1200_30 (by decide) (fun hc => ?_) (fun hc => ?_)
    · replace hf := (if_pos hc).symm.trans hf
      refine lv_aload_n hx hb d_m1200_44 rfl (lv_at hl 2 rfl) ?_
      refine va_get (D := (dC, dI)) (ci := 11) (v := .ref a_mo_coefficients) (C := "ScanCoderModel") (T := T_11) (N := 49) hx hb hts n0 hown hK hP 0 rfl rfl 13 (by decide) k2 (fun _ h9 => h9) rfl d_m1200_45 ?_
      refine lv_iload hx hb d_m1200_48 (lv_at hl 1 rfl) ?_
      obtain ⟨hi, hf⟩ := ob_if hf
      refine va_sald hx hb hK hP 2 2 rfl rfl hi d_m1200_50 ?_
      exact J51 (((64 : Int32) * ((mo_base p0.toNatClampNeg) + p1)) + p2) ((1 : Int32) <<< (mo_bits &&& 31)) (mo_coefficients (((64 : Int32) * ((mo_base p0.toNatClampNeg) + p1)) + p2).toNatClampNeg) hf H locs ls hP hD hS (lv_sub hl [2, 1, 0] rfl)
    · replace hf := (if_neg hc).symm.trans hf
      refine lv_aload_n hx hb d_m1200_33 rfl (lv_at hl 2 rfl) ?_
      refine va_get (D := (dC, dI)) (ci := 11) (v := .ref a_mo_coefficients) (C := "ScanCoderModel") (T := T_11) (N := 49) hx hb hts n0 hown hK hP 0 rfl rfl 13 (by decide) k2 (fun _ h9 => h9) rfl d_m1200_34 ?_
      refine lv_iload hx hb d_m1200_37 (lv_at hl 1 rfl) ?_
      obtain ⟨hi, hf⟩ := ob_if hf
      refine va_sald hx hb hK hP 2 2 rfl rfl hi d_m1200_39 ?_
      refine lv_ineg hx hb d_m1200_40 ?_
      refine lv_goto (tgt := 51) hx hb d_m1200_41 (by decide) ?_
      exact J51 (((64 : Int32) * ((mo_base p0.toNatClampNeg) + p1)) + p2) ((1 : Int32) <<< (mo_bits &&& 31)) (-(mo_coefficients (((64 : Int32) * ((mo_base p0.toNatClampNeg) + p1)) + p2).toNatClampNeg)) hf H locs ls hP hD hS (lv_sub hl [2, 1, 0] rfl)
  exact hgo _ _ hP hS
def f_M_over_J7_73 (N : Nat) (rec : (Int32 × Int32 × Int32 × Int32 × Int32 × Int32 × (Nat → Int32)) → Option (Nat × Int32 × Int32 × Int32 × Int32 × Int32 × (Nat → Int32))) (v5_7 : Int32) (v6_j73 : Int32) (mo_at_j73 : Int32) (mo_taken_j73 : Int32) (mo_left_j73 : Int32) (mo_fault_j73 : Int32) (mo_coefficients_j73 : Nat → Int32) : Option (Nat × Int32 × Int32 × Int32 × Int32 × Int32 × (Nat → Int32)) :=
  rec (v5_7 + (1 : Int32), v6_j73, mo_at_j73, mo_taken_j73, mo_left_j73, mo_fault_j73, mo_coefficients_j73)
def f_M_over_L7b (mo_last : Int32) (p0 : Int32) (mo_base : Nat → Int32) (p1 : Int32) (mo_bits : Int32) (mo_size : Int32) (mo_data : Nat → Int32) (N : Nat) (rec : (Int32 × Int32 × Int32 × Int32 × Int32 × Int32 × (Nat → Int32)) → Option (Nat × Int32 × Int32 × Int32 × Int32 × Int32 × (Nat → Int32))) (v5_7 : Int32) (v6_7 : Int32) (mo_at_7 : Int32) (mo_taken_7 : Int32) (mo_left_7 : Int32) (mo_fault_7 : Int32) (mo_coefficients_7 : Nat → Int32) : Option (Nat × Int32 × Int32 × Int32 × Int32 × Int32 × (Nat → Int32)) :=
  if mo_fault_7 = 0 then
    if v5_7 ≤ mo_last then
      if p0 < 0 ∨ 4 ≤ p0.toNatClampNeg then none else
      if (((64 : Int32) * ((mo_base p0.toNatClampNeg) + p1)) + v5_7) < 0 ∨ 12288 ≤ (((64 : Int32) * ((mo_base p0.toNatClampNeg) + p1)) + v5_7).toNatClampNeg then none else
      if (mo_coefficients_7 (((64 : Int32) * ((mo_base p0.toNatClampNeg) + p1)) + v5_7).toNatClampNeg) = 0 then
        if v6_7 = 0 then
          some (1, v5_7, mo_at_7, mo_taken_7, mo_left_7, mo_fault_7, mo_coefficients_7)
        else
          f_M_over_J7_73 N rec v5_7 (v6_7 + (-1 : Int32)) mo_at_7 mo_taken_7 mo_left_7 mo_fault_7 mo_coefficients_7
      else
        (f_M_more p0 p1 v5_7 mo_bits mo_size mo_at_7 mo_taken_7 mo_left_7 mo_fault_7 mo_base mo_coefficients_7 mo_data).bind fun z1 =>
        f_M_over_J7_73 N rec v5_7 v6_7 z1.1 z1.2.1 z1.2.2.1 z1.2.2.2.1 z1.2.2.2.2
    else
      some (0, v5_7, mo_at_7, mo_taken_7, mo_left_7, mo_fault_7, mo_coefficients_7)
  else
    some (2, v5_7, mo_at_7, mo_taken_7, mo_left_7, mo_fault_7, mo_coefficients_7)
def f_M_over_L7 (mo_last : Int32) (p0 : Int32) (mo_base : Nat → Int32) (p1 : Int32) (mo_bits : Int32) (mo_size : Int32) (mo_data : Nat → Int32) (N : Nat) (k : Nat) : (Int32 × Int32 × Int32 × Int32 × Int32 × Int32 × (Nat → Int32)) → Option (Nat × Int32 × Int32 × Int32 × Int32 × Int32 × (Nat → Int32)) := it (fun rec a => f_M_over_L7b mo_last p0 mo_base p1 mo_bits mo_size mo_data N rec a.1 a.2.1 a.2.2.1 a.2.2.2.1 a.2.2.2.2.1 a.2.2.2.2.2.1 a.2.2.2.2.2.2) k
def f_M_over (N : Nat) (p0 : Int32) (p1 : Int32) (p2 : Int32) (p3 : Int32) (mo_last : Int32) (mo_bits : Int32) (mo_size : Int32) (mo_at : Int32) (mo_taken : Int32) (mo_left : Int32) (mo_fault : Int32) (mo_base : Nat → Int32) (mo_coefficients : Nat → Int32) (mo_data : Nat → Int32) : Option (Int32 × Int32 × Int32 × Int32 × Int32 × (Nat → Int32)) :=
  (f_M_over_L7 mo_last p0 mo_base p1 mo_bits mo_size mo_data N N (p2, p3, mo_at, mo_taken, mo_left, mo_fault, mo_coefficients)).bind fun z2 =>
    if z2.1 = 0 then ((f_M_wrong (3 : Int32) z2.2.2.2.2.2.1).bind fun z3 =>
  some (z3.1, z2.2.2.1, z2.2.2.2.1, z2.2.2.2.2.1, z3.2, z2.2.2.2.2.2.2)) else if z2.1 = 1 then some (z2.2.1, z2.2.2.1, z2.2.2.2.1, z2.2.2.2.2.1, z2.2.2.2.2.2.1, z2.2.2.2.2.2.2) else some ((0 : Int32), z2.2.2.1, z2.2.2.2.1, z2.2.2.2.2.1, z2.2.2.2.2.2.1, z2.2.2.2.2.2.2)
abbrev w_M_over (cI cB cS cT : ClassId) (a_mo : Nat) (a_mo_base : Nat) (a_mo_coefficients : Nat) (a_mo_data : Nat) (a_mo_h : Nat) (a_mo_v : Nat) (a_mo_across : Nat) (a_mo_down : Nat) (a_mo_ownAcross : Nat) (a_mo_ownDown : Nat) (a_mo_before0 : Nat) (a_mo_draftCounts : Nat) (a_mo_draft : Nat) (a_mo_words : Nat) (a_mo_lengths : Nat) (a_mo_codes : Nat) (a_mo_directOf : Nat) (a_mo_otherOf : Nat) (a_mo_out : Nat) (a_mo_times : Nat) (a_mo_prediction : Nat) (a_mo_runBits : Nat) (a_mo_toCome : Nat) (a_mo_timesKept : Nat) (mo_thrown : Int32) (mo_width : Int32) (mo_height : Int32) (mo_many : Int32) (mo_unitsAcross : Int32) (mo_unitsDown : Int32) (mo_drafts : Int32) (mo_mask : Int32) (mo_first : Int32) (mo_last : Int32) (mo_before : Int32) (mo_bits : Int32) (mo_interval : Int32) (mo_size : Int32) (mo_outs : Int32) (mo_part : Int32) (mo_parted : Int32) (mo_failed : Int32) (mo_counting : Int32) (mo_run : Int32) (mo_runMany : Int32) (mo_comes : Int32) (mo_at : Int32) (mo_taken : Int32) (mo_left : Int32) (mo_fault : Int32) (mo_base : Nat → Int32) (mo_coefficients : Nat → Int32) (mo_data : Nat → Int32) : va_W := [(a_mo, .inr (11, [.int mo_thrown, .int mo_width, .int mo_height, .int mo_many, .ref a_mo_h, .ref a_mo_v, .ref a_mo_across, .ref a_mo_down, .ref a_mo_ownAcross, .ref a_mo_ownDown, .ref a_mo_base, .int mo_unitsAcross, .int mo_unitsDown, .ref a_mo_coefficients, .ref a_mo_before0, .ref a_mo_draftCounts, .ref a_mo_draft, .int mo_drafts, .ref a_mo_words, .ref a_mo_lengths, .ref a_mo_codes, .ref a_mo_directOf, .ref a_mo_otherOf, .int mo_mask, .int mo_first, .int mo_last, .int mo_before, .int mo_bits, .int mo_interval, .ref a_mo_data, .int mo_size, .ref a_mo_out, .int mo_outs, .int mo_part, .int mo_parted, .int mo_failed, .int mo_counting, .ref a_mo_times, .ref a_mo_prediction, .int mo_run, .ref a_mo_runBits, .int mo_runMany, .ref a_mo_toCome, .int mo_comes, .int mo_at, .int mo_taken, .int mo_left, .int mo_fault, .ref a_mo_timesKept])), (a_mo_base, .inl (cI, 4, .inl mo_base)), (a_mo_coefficients, .inl (cS, 12288, .inl mo_coefficients)), (a_mo_data, .inl (cB, 16384, .inl mo_data))]
def rm_M_over : Room := { frames := 3, cells := 0, slots := 0, locals := 67 }
set_option maxHeartbeats 1000000 in
set_option maxRecDepth 100000 in
theorem c_M_over (l : Launch) (dC : Nat → ClassId) (dI : Nat → Nat → Nat) (cI cB cS cT : ClassId) (N : Nat) (a_mo : Nat) (a_mo_base : Nat) (a_mo_coefficients : Nat) (a_mo_data : Nat) (a_mo_h : Nat) (a_mo_v : Nat) (a_mo_across : Nat) (a_mo_down : Nat) (a_mo_ownAcross : Nat) (a_mo_ownDown : Nat) (a_mo_before0 : Nat) (a_mo_draftCounts : Nat) (a_mo_draft : Nat) (a_mo_words : Nat) (a_mo_lengths : Nat) (a_mo_codes : Nat) (a_mo_directOf : Nat) (a_mo_otherOf : Nat) (a_mo_out : Nat) (a_mo_times : Nat) (a_mo_prediction : Nat) (a_mo_runBits : Nat) (a_mo_toCome : Nat) (a_mo_timesKept : Nat) (mo_thrown : Int32) (mo_width : Int32) (mo_height : Int32) (mo_many : Int32) (mo_unitsAcross : Int32) (mo_unitsDown : Int32) (mo_drafts : Int32) (mo_mask : Int32) (mo_first : Int32) (mo_last : Int32) (mo_before : Int32) (mo_bits : Int32) (mo_interval : Int32) (mo_size : Int32) (mo_outs : Int32) (mo_part : Int32) (mo_parted : Int32) (mo_failed : Int32) (mo_counting : Int32) (mo_run : Int32) (mo_runMany : Int32) (mo_comes : Int32) (mo_at : Int32) (mo_taken : Int32) (mo_left : Int32) (mo_fault : Int32) (mo_base : Nat → Int32) (mo_coefficients : Nat → Int32) (mo_data : Nat → Int32) (p0 : Int32) (p1 : Int32) (p2 : Int32) (p3 : Int32) (sz : Nat) (z : Int32 × Int32 × Int32 × Int32 × Int32 × (Nat → Int32)) (hf : f_M_over N p0 p1 p2 p3 mo_last mo_bits mo_size mo_at mo_taken mo_left mo_fault mo_base mo_coefficients mo_data = some z) : Met l y_m1196 ws_m1196 rm_M_over (gPre (dC, dI) [.ref a_mo, .int p0, .int p1, .int p2, .int p3] (gT cI cB cS cT) (w_M_over cI cB cS cT a_mo a_mo_base a_mo_coefficients a_mo_data a_mo_h a_mo_v a_mo_across a_mo_down a_mo_ownAcross a_mo_ownDown a_mo_before0 a_mo_draftCounts a_mo_draft a_mo_words a_mo_lengths a_mo_codes a_mo_directOf a_mo_otherOf a_mo_out a_mo_times a_mo_prediction a_mo_runBits a_mo_toCome a_mo_timesKept mo_thrown mo_width mo_height mo_many mo_unitsAcross mo_unitsDown mo_drafts mo_mask mo_first mo_last mo_before mo_bits mo_interval mo_size mo_outs mo_part mo_parted mo_failed mo_counting mo_run mo_runMany mo_comes mo_at mo_taken mo_left mo_fault mo_base mo_coefficients mo_data) sz) (gQi (dC, dI) (gT cI cB cS cT) z.1 (w_M_over cI cB cS cT a_mo a_mo_base a_mo_coefficients a_mo_data a_mo_h a_mo_v a_mo_across a_mo_down a_mo_ownAcross a_mo_ownDown a_mo_before0 a_mo_draftCounts a_mo_draft a_mo_words a_mo_lengths a_mo_codes a_mo_directOf a_mo_otherOf a_mo_out a_mo_times a_mo_prediction a_mo_runBits a_mo_toCome a_mo_timesKept mo_thrown mo_width mo_height mo_many mo_unitsAcross mo_unitsDown mo_drafts mo_mask mo_first mo_last mo_before mo_bits mo_interval mo_size mo_outs mo_part mo_parted mo_failed mo_counting mo_run mo_runMany mo_comes mo_at mo_taken mo_left mo_fault mo_base mo_coefficients mo_data) (w_M_over cI cB cS cT a_mo a_mo_base a_mo_coefficients a_mo_data a_mo_h a_mo_v a_mo_across a_mo_down a_mo_ownAcross a_mo_ownDown a_mo_before0 a_mo_draftCounts a_mo_draft a_mo_words a_mo_lengths a_mo_codes a_mo_directOf a_mo_otherOf a_mo_out a_mo_times a_mo_prediction a_mo_runBits a_mo_toCome a_mo_timesKept mo_thrown mo_width mo_height mo_many mo_unitsAcross mo_unitsDown mo_drafts mo_mask mo_first mo_last mo_before mo_bits mo_interval mo_size mo_outs mo_part mo_parted mo_failed mo_counting mo_run mo_runMany mo_comes z.2.1 z.2.2.1 z.2.2.2.1 z.2.2.2.2.1 mo_base z.2.2.2.2.2 mo_data) sz) 0 0 (va_A (w_M_over cI cB cS cT a_mo a_mo_base a_mo_coefficients a_mo_data a_mo_h a_mo_v a_mo_across a_mo_down a_mo_ownAcross a_mo_ownDown a_mo_before0 a_mo_draftCounts a_mo_draft a_mo_words a_mo_lengths a_mo_codes a_mo_directOf a_mo_otherOf a_mo_out a_mo_times a_mo_prediction a_mo_runBits a_mo_toCome a_mo_timesKept mo_thrown mo_width mo_height mo_many mo_unitsAcross mo_unitsDown mo_drafts mo_mask mo_first mo_last mo_before mo_bits mo_interval mo_size mo_outs mo_part mo_parted mo_failed mo_counting mo_run mo_runMany mo_comes mo_at mo_taken mo_left mo_fault mo_base mo_coefficients mo_data) sz) := by
  refine Met.ofW (cc := prog_14_method_56_code) (maxL := 7) (ret := (some .int)) (by decide) rfl ?_
  intro p e s m args below meth c s₁ B hml hv
  obtain ⟨hargs, hsz, hP, hKN, hD0⟩ := hv
  have hK := hKN.1
  have hx := B.exec
  have hb := B.bytes
  have hr := B.returns
  have hts := atoms_spec (ws := ws_m1196) B.pre
  have hown : s.vm.findClass "ScanCoderModel" = some m.cls := findClass_of_methodNamed B.named
  have hlocks := B.notSynchronized
  have k0 := hts _ (List.mem_cons_of_mem _ tw_881)
  have k1 := hts _ (List.mem_cons_of_mem _ tw_859)
  have k2 := hts _ (List.mem_cons_of_mem _ tw_847)
  have k3 := hts _ (List.mem_cons_of_mem _ tw_844)
  have n0 : ∀ w ∈ u_ws "ScanCoderModel" T_11 49, w ∈ ws_m1196 := fun w h => List.mem_cons_of_mem _ (in_11 w h)
  subst hsz
  have hD := hD0.self (sz := s.heap.size)
  obtain ⟨A, hAe⟩ : ∃ A : Nat → Prop, va_A (w_M_over cI cB cS cT a_mo a_mo_base a_mo_coefficients a_mo_data a_mo_h a_mo_v a_mo_across a_mo_down a_mo_ownAcross a_mo_ownDown a_mo_before0 a_mo_draftCounts a_mo_draft a_mo_words a_mo_lengths a_mo_codes a_mo_directOf a_mo_otherOf a_mo_out a_mo_times a_mo_prediction a_mo_runBits a_mo_toCome a_mo_timesKept mo_thrown mo_width mo_height mo_many mo_unitsAcross mo_unitsDown mo_drafts mo_mask mo_first mo_last mo_before mo_bits mo_interval mo_size mo_outs mo_part mo_parted mo_failed mo_counting mo_run mo_runMany mo_comes mo_at mo_taken mo_left mo_fault mo_base mo_coefficients mo_data) s.heap.size = A := ⟨_, rfl⟩
  rw [hAe] at hD
  have hA : ∀ q : Nat, s.heap.size ≤ q → A q := fun q h => by rw [← hAe]; exact Or.inr h
  have hS : va_S A s.heap s.heap [] := va_S.rf
  have hl := lv_entry ([.ref a_mo, .int p0, .int p1, .int p2, .int p3]) (n := 7) (Nat.le_of_ble_eq_true rfl)
  have hfr : entryFrame m args 7 = F0 m 0 ((lg_sl ([.ref a_mo, .int p0, .int p1, .int p2, .int p3]) ++ List.replicate (7 - (lg_sl ([.ref a_mo, .int p0, .int p1, .int p2, .int p3])).length) Slot.unset).toArray) [] := by rw [hargs]; exact lg_entry_eq _ _ _
  rw [hfr]
  generalize (lg_sl ([.ref a_mo, .int p0, .int p1, .int p2, .int p3]) ++ List.replicate (7 - (lg_sl ([.ref a_mo, .int p0, .int p1, .int p2, .int p3])).length) Slot.unset).toArray = ls at hl ⊢
  have hl : lv_has ls 7 [(0, .ref a_mo), (1, .int p0), (2, .int p1), (3, .int p2), (4, .int p3)] := hl
  refine gen_Q (fun Q hQ => ?_)
  clear hfr
  have L7 : ∀  (z : Nat × Int32 × Int32 × Int32 × Int32 × Int32 × (Nat → Int32)), (z.1 = 0 → GW (dC, dI) A p l e (headSpec ws_m1196 rm_M_over).room s m args below meth c 0 0 Q 7 23 (w_M_over cI cB cS cT a_mo a_mo_base a_mo_coefficients a_mo_data a_mo_h a_mo_v a_mo_across a_mo_down a_mo_ownAcross a_mo_ownDown a_mo_before0 a_mo_draftCounts a_mo_draft a_mo_words a_mo_lengths a_mo_codes a_mo_directOf a_mo_otherOf a_mo_out a_mo_times a_mo_prediction a_mo_runBits a_mo_toCome a_mo_timesKept mo_thrown mo_width mo_height mo_many mo_unitsAcross mo_unitsDown mo_drafts mo_mask mo_first mo_last mo_before mo_bits mo_interval mo_size mo_outs mo_part mo_parted mo_failed mo_counting mo_run mo_runMany mo_comes z.2.2.1 z.2.2.2.1 z.2.2.2.2.1 z.2.2.2.2.2.1 mo_base z.2.2.2.2.2.2 mo_data) [(0, .ref a_mo)] []) → (z.1 = 1 → GW (dC, dI) A p l e (headSpec ws_m1196 rm_M_over).room s m args below meth c 0 0 Q 7 67 (w_M_over cI cB cS cT a_mo a_mo_base a_mo_coefficients a_mo_data a_mo_h a_mo_v a_mo_across a_mo_down a_mo_ownAcross a_mo_ownDown a_mo_before0 a_mo_draftCounts a_mo_draft a_mo_words a_mo_lengths a_mo_codes a_mo_directOf a_mo_otherOf a_mo_out a_mo_times a_mo_prediction a_mo_runBits a_mo_toCome a_mo_timesKept mo_thrown mo_width mo_height mo_many mo_unitsAcross mo_unitsDown mo_drafts mo_mask mo_first mo_last mo_before mo_bits mo_interval mo_size mo_outs mo_part mo_parted mo_failed mo_counting mo_run mo_runMany mo_comes z.2.2.1 z.2.2.2.1 z.2.2.2.2.1 z.2.2.2.2.2.1 mo_base z.2.2.2.2.2.2 mo_data) [(5, .int z.2.1)] []) → (z.1 = 2 → GW (dC, dI) A p l e (headSpec ws_m1196 rm_M_over).room s m args below meth c 0 0 Q 7 79 (w_M_over cI cB cS cT a_mo a_mo_base a_mo_coefficients a_mo_data a_mo_h a_mo_v a_mo_across a_mo_down a_mo_ownAcross a_mo_ownDown a_mo_before0 a_mo_draftCounts a_mo_draft a_mo_words a_mo_lengths a_mo_codes a_mo_directOf a_mo_otherOf a_mo_out a_mo_times a_mo_prediction a_mo_runBits a_mo_toCome a_mo_timesKept mo_thrown mo_width mo_height mo_many mo_unitsAcross mo_unitsDown mo_drafts mo_mask mo_first mo_last mo_before mo_bits mo_interval mo_size mo_outs mo_part mo_parted mo_failed mo_counting mo_run mo_runMany mo_comes z.2.2.1 z.2.2.2.1 z.2.2.2.2.1 z.2.2.2.2.2.1 mo_base z.2.2.2.2.2.2 mo_data) [] []) → ∀ (k : Nat) (v5_7 : Int32) (v6_7 : Int32) (mo_at_7 : Int32) (mo_taken_7 : Int32) (mo_left_7 : Int32) (mo_fault_7 : Int32) (mo_coefficients_7 : Nat → Int32), f_M_over_L7 mo_last p0 mo_base p1 mo_bits mo_size mo_data N k (v5_7, v6_7, mo_at_7, mo_taken_7, mo_left_7, mo_fault_7, mo_coefficients_7) = some z → GW (dC, dI) A p l e (headSpec ws_m1196 rm_M_over).room s m args below meth c 0 0 Q 7 7 (w_M_over cI cB cS cT a_mo a_mo_base a_mo_coefficients a_mo_data a_mo_h a_mo_v a_mo_across a_mo_down a_mo_ownAcross a_mo_ownDown a_mo_before0 a_mo_draftCounts a_mo_draft a_mo_words a_mo_lengths a_mo_codes a_mo_directOf a_mo_otherOf a_mo_out a_mo_times a_mo_prediction a_mo_runBits a_mo_toCome a_mo_timesKept mo_thrown mo_width mo_height mo_many mo_unitsAcross mo_unitsDown mo_drafts mo_mask mo_first mo_last mo_before mo_bits mo_interval mo_size mo_outs mo_part mo_parted mo_failed mo_counting mo_run mo_runMany mo_comes mo_at_7 mo_taken_7 mo_left_7 mo_fault_7 mo_base mo_coefficients_7 mo_data) [(0, .ref a_mo), (1, .int p0), (2, .int p1), (5, .int v5_7), (6, .int v6_7)] [] := by
    intro  z hE0 hE1 hE2 k
    induction k with
    | zero =>
      intro v5_7 v6_7 mo_at_7 mo_taken_7 mo_left_7 mo_fault_7 mo_coefficients_7 hf
      exact (it_zero hf).elim
    | succ k ih =>
      intro v5_7 v6_7 mo_at_7 mo_taken_7 mo_left_7 mo_fault_7 mo_coefficients_7 hf H locs ls hP hD hS hl
      have J7_73 : ∀ (v6_j73 : Int32) (mo_at_j73 : Int32) (mo_taken_j73 : Int32) (mo_left_j73 : Int32) (mo_fault_j73 : Int32) (mo_coefficients_j73 : Nat → Int32), f_M_over_J7_73 N (f_M_over_L7 mo_last p0 mo_base p1 mo_bits mo_size mo_data N k) v5_7 v6_j73 mo_at_j73 mo_taken_j73 mo_left_j73 mo_fault_j73 mo_coefficients_j73 = some z → GW (dC, dI) A p l e (headSpec ws_m1196 rm_M_over).room s m args below meth c 0 0 Q 7 73 (w_M_over cI cB cS cT a_mo a_mo_base a_mo_coefficients a_mo_data a_mo_h a_mo_v a_mo_across a_mo_down a_mo_ownAcross a_mo_ownDown a_mo_before0 a_mo_draftCounts a_mo_draft a_mo_words a_mo_lengths a_mo_codes a_mo_directOf a_mo_otherOf a_mo_out a_mo_times a_mo_prediction a_mo_runBits a_mo_toCome a_mo_timesKept mo_thrown mo_width mo_height mo_many mo_unitsAcross mo_unitsDown mo_drafts mo_mask mo_first mo_last mo_before mo_bits mo_interval mo_size mo_outs mo_part mo_parted mo_failed mo_counting mo_run mo_runMany mo_comes mo_at_j73 mo_taken_j73 mo_left_j73 mo_fault_j73 mo_base mo_coefficients_j73 mo_data) [(0, .ref a_mo), (1, .int p0), (2, .int p1), (5, .int v5_7), (6, .int v6_j73)] [] := by
        intro v6_j73 mo_at_j73 mo_taken_j73 mo_left_j73 mo_fault_j73 mo_coefficients_j73 hf H locs ls hP hD hS hl
        unfold f_M_over_J7_73 at hf
        refine lv_iinc (v := v5_7 + (1 : Int32)) (lv' := [(5, .int (v5_7 + (1 : Int32))), (0, .ref a_mo), (1, .int p0), (2, .int p1), (6, .int v6_j73)]) hx hb d_m1196_73 hl (k := 3) rfl rfl (by decide) rfl (fun ls hl => ?_)
        refine lv_goto (tgt := 7) hx hb d_m1196_76 (by decide) ?_
        exact ih (v5_7 + (1 : Int32)) v6_j73 mo_at_j73 mo_taken_j73 mo_left_j73 mo_fault_j73 mo_coefficients_j73 hf H locs ls hP hD hS (lv_sub hl [1, 2, 3, 0, 4] rfl)
      have hf : f_M_over_L7b mo_last p0 mo_base p1 mo_bits mo_size mo_data N (f_M_over_L7 mo_last p0 mo_base p1 mo_bits mo_size mo_data N k) v5_7 v6_7 mo_at_7 mo_taken_7 mo_left_7 mo_fault_7 mo_coefficients_7 = some z := hf
      unfold f_M_over_L7b at hf
      refine lv_aload_n hx hb d_m1196_7 rfl (lv_at hl 0 rfl) ?_
      refine va_get (D := (dC, dI)) (ci := 11) (v := .int mo_fault_7) (C := "ScanCoderModel") (T := T_11) (N := 49) hx hb hts n0 hown hK hP 0 rfl rfl 47 (by decide) k0 (fun _ h9 => h9) rfl d_m1196_8 ?_
      refine lv_if_ne (tgt := 79) hx hb d_m1196_11 (by decide) (fun hc => ?_) (fun hc => ?_)
      · replace hf := (if_neg hc).symm.trans hf
        obtain rfl := Option.some.inj hf
        exact hE2 rfl  H locs ls hP hD hS (lv_sub hl [] rfl)
      · replace hf := (if_pos hc).symm.trans hf
        refine lv_iload hx hb d_m1196_14 (lv_at hl 3 rfl) ?_
        refine lv_aload_n hx hb d_m1196_16 rfl (lv_at hl 0 rfl) ?_
        refine va_get (D := (dC, dI)) (ci := 11) (v := .int mo_last) (C := "ScanCoderModel") (T := T_11) (N := 49) hx hb hts n0 hown hK hP 0 rfl rfl 25 (by decide) k1 (fun _ h9 => h9) rfl d_m1196_17 ?_
        refine lv_icmp_le (tgt := 29) hx hb d_m1196_20 (by decide) (fun hc => ?_) (fun hc => ?_)
        · replace hf := (if_pos hc).symm.trans hf
          refine lv_aload_n hx hb d_m1196_29 rfl (lv_at hl 0 rfl) ?_
          refine va_get (D := (dC, dI)) (ci := 11) (v := .ref a_mo_coefficients) (C := "ScanCoderModel") (T := T_11) (N := 49) hx hb hts n0 hown hK hP 0 rfl rfl 13 (by decide) k2 (fun _ h9 => h9) rfl d_m1196_30 ?_
          refine lv_bipush (v := (64 : Int32)) hx hb d_m1196_33 (by decide) ?_
          refine lv_aload_n hx hb d_m1196_35 rfl (lv_at hl 0 rfl) ?_
          refine va_get (D := (dC, dI)) (ci := 11) (v := .ref a_mo_base) (C := "ScanCoderModel") (T := T_11) (N := 49) hx hb hts n0 hown hK hP 0 rfl rfl 10 (by decide) k3 (fun _ h9 => h9) rfl d_m1196_36 ?_
          refine lv_iload_n hx hb d_m1196_39 rfl (lv_at hl 1 rfl) ?_
          obtain ⟨hi, hf⟩ := ob_if hf
          refine va_iald hx hb hK hP 1 0 rfl rfl hi d_m1196_40 ?_
          refine lv_iload_n hx hb d_m1196_41 rfl (lv_at hl 2 rfl) ?_
          refine lv_iadd hx hb d_m1196_42 ?_
          refine lv_imul hx hb d_m1196_43 ?_
          refine lv_iload hx hb d_m1196_44 (lv_at hl 3 rfl) ?_
          refine lv_iadd hx hb d_m1196_46 ?_
          obtain ⟨hi, hf⟩ := ob_if hf
          refine va_sald hx hb hK hP 2 2 rfl rfl hi d_m1196_47 ?_
          refine lv_if_eq (tgt := 62) hx hb d_m1196_48 (by decide) (fun hc => ?_) (fun hc => ?_)
          · replace hf := (if_pos hc).symm.trans hf
            refine lv_iload hx hb d_m1196_62 (lv_at hl 4 rfl) ?_
            refine lv_if_ne (tgt := 70) hx hb d_m1196_64 (by decide) (fun hc => ?_) (fun hc => ?_)
            · replace hf := (if_neg hc).symm.trans hf
              refine lv_iinc (v := v6_7 + (-1 : Int32)) (lv' := [(6, .int (v6_7 + (-1 : Int32))), (0, .ref a_mo), (1, .int p0), (2, .int p1), (5, .int v5_7)]) hx hb d_m1196_70 hl (k := 4) rfl rfl (by decide) rfl (fun ls hl => ?_)
              exact J7_73 (v6_7 + (-1 : Int32)) mo_at_7 mo_taken_7 mo_left_7 mo_fault_7 mo_coefficients_7 hf H locs ls hP hD hS (lv_sub hl [1, 2, 3, 4, 0] rfl)
            · replace hf := (if_pos hc).symm.trans hf
              obtain rfl := Option.some.inj hf
              exact hE1 rfl  H locs ls hP hD hS (lv_sub hl [3] rfl)
          · replace hf := (if_neg hc).symm.trans hf
            refine lv_aload_n hx hb d_m1196_51 rfl (lv_at hl 0 rfl) ?_
            refine lv_iload_n hx hb d_m1196_52 rfl (lv_at hl 1 rfl) ?_
            refine lv_iload_n hx hb d_m1196_53 rfl (lv_at hl 2 rfl) ?_
            refine lv_iload hx hb d_m1196_54 (lv_at hl 3 rfl) ?_
            obtain ⟨z1, hz1, hf⟩ := ob_bind hf
            refine g_callv (wc := (w_M_more cI cB cS cT a_mo a_mo_base a_mo_coefficients a_mo_data a_mo_h a_mo_v a_mo_across a_mo_down a_mo_ownAcross a_mo_ownDown a_mo_before0 a_mo_draftCounts a_mo_draft a_mo_words a_mo_lengths a_mo_codes a_mo_directOf a_mo_otherOf a_mo_out a_mo_times a_mo_prediction a_mo_runBits a_mo_toCome a_mo_timesKept mo_thrown mo_width mo_height mo_many mo_unitsAcross mo_unitsDown mo_drafts mo_mask mo_first mo_last mo_before mo_bits mo_interval mo_size mo_outs mo_part mo_parted mo_failed mo_counting mo_run mo_runMany mo_comes mo_at_7 mo_taken_7 mo_left_7 mo_fault_7 mo_base mo_coefficients_7 mo_data)) (w1 := (w_M_more cI cB cS cT a_mo a_mo_base a_mo_coefficients a_mo_data a_mo_h a_mo_v a_mo_across a_mo_down a_mo_ownAcross a_mo_ownDown a_mo_before0 a_mo_draftCounts a_mo_draft a_mo_words a_mo_lengths a_mo_codes a_mo_directOf a_mo_otherOf a_mo_out a_mo_times a_mo_prediction a_mo_runBits a_mo_toCome a_mo_timesKept mo_thrown mo_width mo_height mo_many mo_unitsAcross mo_unitsDown mo_drafts mo_mask mo_first mo_last mo_before mo_bits mo_interval mo_size mo_outs mo_part mo_parted mo_failed mo_counting mo_run mo_runMany mo_comes z1.1 z1.2.1 z1.2.2.1 z1.2.2.2.1 mo_base z1.2.2.2.2 mo_data)) (w2 := (w_M_over cI cB cS cT a_mo a_mo_base a_mo_coefficients a_mo_data a_mo_h a_mo_v a_mo_across a_mo_down a_mo_ownAcross a_mo_ownDown a_mo_before0 a_mo_draftCounts a_mo_draft a_mo_words a_mo_lengths a_mo_codes a_mo_directOf a_mo_otherOf a_mo_out a_mo_times a_mo_prediction a_mo_runBits a_mo_toCome a_mo_timesKept mo_thrown mo_width mo_height mo_many mo_unitsAcross mo_unitsDown mo_drafts mo_mask mo_first mo_last mo_before mo_bits mo_interval mo_size mo_outs mo_part mo_parted mo_failed mo_counting mo_run mo_runMany mo_comes z1.1 z1.2.1 z1.2.2.1 z1.2.2.2.1 mo_base z1.2.2.2.2 mo_data)) [0, 1, 2, 3] [some 0, some 1, some 2, some 3] hP hD hS hA rfl rfl rfl rfl (va_runV (As := [.int p0, .int p1, .int v5_7]) (rest := []) ⟨hx, hb, hml, hown, hts⟩ (c_M_more l dC dI cI cB cS cT a_mo a_mo_base a_mo_coefficients a_mo_data a_mo_h a_mo_v a_mo_across a_mo_down a_mo_ownAcross a_mo_ownDown a_mo_before0 a_mo_draftCounts a_mo_draft a_mo_words a_mo_lengths a_mo_codes a_mo_directOf a_mo_otherOf a_mo_out a_mo_times a_mo_prediction a_mo_runBits a_mo_toCome a_mo_timesKept mo_thrown mo_width mo_height mo_many mo_unitsAcross mo_unitsDown mo_drafts mo_mask mo_first mo_last mo_before mo_bits mo_interval mo_size mo_outs mo_part mo_parted mo_failed mo_counting mo_run mo_runMany mo_comes mo_at_7 mo_taken_7 mo_left_7 mo_fault_7 mo_base mo_coefficients_7 mo_data p0 p1 v5_7 H.size z1 hz1) ⟨(callB_of 3 hts (gi tw_1200 rfl) rfl rfl rfl (hts _ (List.mem_cons_of_mem _ tw_16)) (hts _ (List.mem_cons_of_mem _ tw_1197)) (by decide +kernel) ⟨Nat.le_of_ble_eq_true rfl, Nat.le_of_ble_eq_true rfl⟩), hts _ (List.mem_cons_of_mem _ tw_1199), hts _ (List.mem_cons_of_mem _ ts_m1200)⟩ ⟨g_blind, va_recv hK hP (ci := 11) (q0 := 0) rfl rfl, g_at hKN (g_pm hP [0, 1, 2, 3] rfl) (hD.sub [0, 1, 2, 3] (by decide) rfl)⟩ rfl rfl hl.1 rfl (lv_room (Nat.le_of_ble_eq_true rfl)) d_m1196_56 ⟨Nat.zero_le _, Nat.zero_le _⟩) (fun H locs hP hD hS => ?_)
            refine W.eq (g2 := F0 m 59 ls []) rfl ?_
            refine lv_goto (tgt := 73) hx hb d_m1196_59 (by decide) ?_
            exact J7_73 v6_7 z1.1 z1.2.1 z1.2.2.1 z1.2.2.2.1 z1.2.2.2.2 hf H locs ls hP hD hS hl
        · replace hf := (if_neg hc).symm.trans hf
          obtain rfl := Option.some.inj hf
          exact hE0 rfl  H locs ls hP hD hS (lv_sub hl [0] rfl)
  have hgo : ∀ (H : Heap) (locs : List Loc), va_P (dC, dI) vwCl (w_M_over cI cB cS cT a_mo a_mo_base a_mo_coefficients a_mo_data a_mo_h a_mo_v a_mo_across a_mo_down a_mo_ownAcross a_mo_ownDown a_mo_before0 a_mo_draftCounts a_mo_draft a_mo_words a_mo_lengths a_mo_codes a_mo_directOf a_mo_otherOf a_mo_out a_mo_times a_mo_prediction a_mo_runBits a_mo_toCome a_mo_timesKept mo_thrown mo_width mo_height mo_many mo_unitsAcross mo_unitsDown mo_drafts mo_mask mo_first mo_last mo_before mo_bits mo_interval mo_size mo_outs mo_part mo_parted mo_failed mo_counting mo_run mo_runMany mo_comes mo_at mo_taken mo_left mo_fault mo_base mo_coefficients mo_data) H → va_S A s.heap H locs → W p l e (headSpec ws_m1196 rm_M_over).room s m args below meth c H locs 0 0 Q (F0 m 0 ls []) := by
    intro H locs hP hS
    unfold f_M_over at hf
    refine lv_iload_n hx hb d_m1196_0 rfl (lv_at hl 3 rfl) ?_
    refine lv_istore (lv' := [(5, .int p2), (0, .ref a_mo), (1, .int p0), (2, .int p1), (3, .int p2), (4, .int p3)]) hx hb d_m1196_1 hl (by decide) rfl (fun ls hl => ?_)
    refine lv_iload hx hb d_m1196_3 (lv_at hl 5 rfl) ?_
    refine lv_istore (lv' := [(6, .int p3), (5, .int p2), (0, .ref a_mo), (1, .int p0), (2, .int p1), (3, .int p2), (4, .int p3)]) hx hb d_m1196_5 hl (by decide) rfl (fun ls hl => ?_)
    obtain ⟨z2, hz2, hf⟩ := ob_bind hf
    refine L7  z2 ?_ ?_ ?_ N p2 p3 mo_at mo_taken mo_left mo_fault mo_coefficients hz2 H locs ls hP hD hS (lv_sub hl [2, 3, 4, 1, 0] rfl)
    · intro hz H locs ls hP hD hS hl
      replace hf := (if_pos hz).symm.trans hf
      refine lv_aload_n hx hb d_m1196_23 rfl (lv_at hl 0 rfl) ?_
      refine lv_iconst (v := (3 : Int32)) hx hb d_m1196_24 (by decide) ?_
      obtain ⟨z3, hz3, hf⟩ := ob_bind hf
      refine g_calli (wc := (w_M_wrong cI cB cS cT a_mo a_mo_h a_mo_v a_mo_across a_mo_down a_mo_ownAcross a_mo_ownDown a_mo_base a_mo_coefficients a_mo_before0 a_mo_draftCounts a_mo_draft a_mo_words a_mo_lengths a_mo_codes a_mo_directOf a_mo_otherOf a_mo_data a_mo_out a_mo_times a_mo_prediction a_mo_runBits a_mo_toCome a_mo_timesKept mo_thrown mo_width mo_height mo_many mo_unitsAcross mo_unitsDown mo_drafts mo_mask mo_first mo_last mo_before mo_bits mo_interval mo_size mo_outs mo_part mo_parted mo_failed mo_counting mo_run mo_runMany mo_comes z2.2.2.1 z2.2.2.2.1 z2.2.2.2.2.1 z2.2.2.2.2.2.1)) (w1 := (w_M_wrong cI cB cS cT a_mo a_mo_h a_mo_v a_mo_across a_mo_down a_mo_ownAcross a_mo_ownDown a_mo_base a_mo_coefficients a_mo_before0 a_mo_draftCounts a_mo_draft a_mo_words a_mo_lengths a_mo_codes a_mo_directOf a_mo_otherOf a_mo_data a_mo_out a_mo_times a_mo_prediction a_mo_runBits a_mo_toCome a_mo_timesKept mo_thrown mo_width mo_height mo_many mo_unitsAcross mo_unitsDown mo_drafts mo_mask mo_first mo_last mo_before mo_bits mo_interval mo_size mo_outs mo_part mo_parted mo_failed mo_counting mo_run mo_runMany mo_comes z2.2.2.1 z2.2.2.2.1 z2.2.2.2.2.1 z3.2)) (w2 := (w_M_over cI cB cS cT a_mo a_mo_base a_mo_coefficients a_mo_data a_mo_h a_mo_v a_mo_across a_mo_down a_mo_ownAcross a_mo_ownDown a_mo_before0 a_mo_draftCounts a_mo_draft a_mo_words a_mo_lengths a_mo_codes a_mo_directOf a_mo_otherOf a_mo_out a_mo_times a_mo_prediction a_mo_runBits a_mo_toCome a_mo_timesKept mo_thrown mo_width mo_height mo_many mo_unitsAcross mo_unitsDown mo_drafts mo_mask mo_first mo_last mo_before mo_bits mo_interval mo_size mo_outs mo_part mo_parted mo_failed mo_counting mo_run mo_runMany mo_comes z2.2.2.1 z2.2.2.2.1 z2.2.2.2.2.1 z3.2 mo_base z2.2.2.2.2.2.2 mo_data)) [0] [some 0, none, none, none] hP hD hS hA rfl rfl rfl rfl (va_runV (As := [.int (3 : Int32)]) (rest := []) ⟨hx, hb, hml, hown, hts⟩ (c_M_wrong l dC dI cI cB cS cT a_mo a_mo_h a_mo_v a_mo_across a_mo_down a_mo_ownAcross a_mo_ownDown a_mo_base a_mo_coefficients a_mo_before0 a_mo_draftCounts a_mo_draft a_mo_words a_mo_lengths a_mo_codes a_mo_directOf a_mo_otherOf a_mo_data a_mo_out a_mo_times a_mo_prediction a_mo_runBits a_mo_toCome a_mo_timesKept mo_thrown mo_width mo_height mo_many mo_unitsAcross mo_unitsDown mo_drafts mo_mask mo_first mo_last mo_before mo_bits mo_interval mo_size mo_outs mo_part mo_parted mo_failed mo_counting mo_run mo_runMany mo_comes z2.2.2.1 z2.2.2.2.1 z2.2.2.2.2.1 z2.2.2.2.2.2.1 (3 : Int32) H.size z3 hz3) ⟨(callB_of 1 hts (gi tw_1156 rfl) rfl rfl rfl (hts _ (List.mem_cons_of_mem _ tw_16)) (hts _ (List.mem_cons_of_mem _ tw_1153)) (by decide +kernel) ⟨Nat.le_of_ble_eq_true rfl, Nat.le_of_ble_eq_true rfl⟩), hts _ (List.mem_cons_of_mem _ tw_1155), hts _ (List.mem_cons_of_mem _ ts_m1156)⟩ ⟨g_blind, va_recv hK hP (ci := 11) (q0 := 0) rfl rfl, g_at hKN (g_pm hP [0] rfl) (hD.sub [0] (by decide) rfl)⟩ rfl rfl hl.1 rfl (lv_room (Nat.le_of_ble_eq_true rfl)) d_m1196_25 ⟨Nat.zero_le _, Nat.zero_le _⟩) (fun H locs hP hD hS => ?_)
      refine W.eq (g2 := F0 m 28 ls [.int z3.1]) rfl ?_
      obtain rfl := Option.some.inj hf
      subst hQ
      subst hAe
      exact W.iret (v := z3.1) hx hb hr (fun t ht hW => ⟨⟨z3.1, (), rfl, rfl, by rw [ht]; exact hP, hD⟩, hS.F ht⟩) hS.2.2 d_m1196_28
    · intro hz H locs ls hP hD hS hl
      replace hf := (if_neg (by rw [hz]; decide)).symm.trans hf
      replace hf := (if_pos hz).symm.trans hf
      refine lv_iload hx hb d_m1196_67 (lv_at hl 0 rfl) ?_
      obtain rfl := Option.some.inj hf
      subst hQ
      subst hAe
      exact W.iret (v := z2.2.1) hx hb hr (fun t ht hW => ⟨⟨z2.2.1, (), rfl, rfl, by rw [ht]; exact hP, hD⟩, hS.F ht⟩) hS.2.2 d_m1196_69
    · intro hz H locs ls hP hD hS hl
      replace hf := (if_neg (by rw [hz]; decide)).symm.trans hf
      replace hf := (if_neg (by rw [hz]; decide)).symm.trans hf
      refine lv_iconst (v := (0 : Int32)) hx hb d_m1196_79 (by decide) ?_
      obtain rfl := Option.some.inj hf
      subst hQ
      subst hAe
      exact W.iret (v := (0 : Int32)) hx hb hr (fun t ht hW => ⟨⟨(0 : Int32), (), rfl, rfl, by rw [ht]; exact hP, hD⟩, hS.F ht⟩) hS.2.2 d_m1196_80
  exact hgo _ _ hP hS
def f_M_readMore_J5_194 (N : Nat) (rec : (Int32 × Int32 × Int32 × Int32 × Int32 × Int32 × (Nat → Int32)) → Option (Nat × Int32 × Int32 × Int32 × Int32 × Int32 × Int32 × (Nat → Int32))) (v3_j194 : Int32) (mo_run_j194 : Int32) (mo_at_j194 : Int32) (mo_taken_j194 : Int32) (mo_left_j194 : Int32) (mo_fault_j194 : Int32) (mo_coefficients_j194 : Nat → Int32) : Option (Nat × Int32 × Int32 × Int32 × Int32 × Int32 × Int32 × (Nat → Int32)) :=
  rec (v3_j194, mo_run_j194, mo_at_j194, mo_taken_j194, mo_left_j194, mo_fault_j194, mo_coefficients_j194)
def f_M_readMore_J5_191 (N : Nat) (rec : (Int32 × Int32 × Int32 × Int32 × Int32 × Int32 × (Nat → Int32)) → Option (Nat × Int32 × Int32 × Int32 × Int32 × Int32 × Int32 × (Nat → Int32))) (v3_j191 : Int32) (mo_run_5 : Int32) (mo_at_j191 : Int32) (mo_taken_j191 : Int32) (mo_left_j191 : Int32) (mo_fault_j191 : Int32) (mo_coefficients_j191 : Nat → Int32) : Option (Nat × Int32 × Int32 × Int32 × Int32 × Int32 × Int32 × (Nat → Int32)) :=
  f_M_readMore_J5_194 N rec (v3_j191 + (1 : Int32)) mo_run_5 mo_at_j191 mo_taken_j191 mo_left_j191 mo_fault_j191 mo_coefficients_j191
def f_M_readMore_J5_189 (N : Nat) (rec : (Int32 × Int32 × Int32 × Int32 × Int32 × Int32 × (Nat → Int32)) → Option (Nat × Int32 × Int32 × Int32 × Int32 × Int32 × Int32 × (Nat → Int32))) (s1_j189 : Int32) (v3_j189 : Int32) (mo_run_5 : Int32) (mo_at_j189 : Int32) (mo_taken_j189 : Int32) (mo_left_j189 : Int32) (mo_fault_j189 : Int32) (mo_coefficients_j189 : Nat → Int32) (s2_j189 : Int32) : Option (Nat × Int32 × Int32 × Int32 × Int32 × Int32 × Int32 × (Nat → Int32)) :=
  if s1_j189 < 0 ∨ 12288 ≤ s1_j189.toNatClampNeg then none else
  f_M_readMore_J5_191 N rec v3_j189 mo_run_5 mo_at_j189 mo_taken_j189 mo_left_j189 mo_fault_j189 (upd mo_coefficients_j189 s1_j189.toNatClampNeg (vp_nar .short s2_j189.toInt16.toInt32))
def f_M_readMore_J5_125 (N : Nat) (rec : (Int32 × Int32 × Int32 × Int32 × Int32 × Int32 × (Nat → Int32)) → Option (Nat × Int32 × Int32 × Int32 × Int32 × Int32 × Int32 × (Nat → Int32))) (p0 : Int32) (p1 : Int32) (v3_5 : Int32) (v5_j125 : Int32) (mo_last : Int32) (mo_bits : Int32) (mo_size : Int32) (mo_at_j125 : Int32) (mo_taken_j125 : Int32) (mo_left_j125 : Int32) (mo_fault_j125 : Int32) (mo_base : Nat → Int32) (mo_coefficients_5 : Nat → Int32) (mo_data : Nat → Int32) (v6_j125 : Int32) (s0_j125 : Int32) (mo_run_5 : Int32) : Option (Nat × Int32 × Int32 × Int32 × Int32 × Int32 × Int32 × (Nat → Int32)) :=
  (f_M_over N p0 p1 v3_5 v5_j125 mo_last mo_bits mo_size mo_at_j125 mo_taken_j125 mo_left_j125 mo_fault_j125 mo_base mo_coefficients_5 mo_data).bind fun z2 =>
  if z2.2.2.2.2.1 = 0 then
    if v6_j125 = (1 : Int32) then
      if p0 < 0 ∨ 4 ≤ p0.toNatClampNeg then none else
      if s0_j125 = (1 : Int32) then
        f_M_readMore_J5_189 N rec (((64 : Int32) * ((mo_base p0.toNatClampNeg) + p1)) + z2.1) z2.1 mo_run_5 z2.2.1 z2.2.2.1 z2.2.2.2.1 z2.2.2.2.2.1 z2.2.2.2.2.2 ((1 : Int32) <<< (mo_bits &&& 31))
      else
        f_M_readMore_J5_189 N rec (((64 : Int32) * ((mo_base p0.toNatClampNeg) + p1)) + z2.1) z2.1 mo_run_5 z2.2.1 z2.2.2.1 z2.2.2.2.1 z2.2.2.2.2.1 z2.2.2.2.2.2 (-((1 : Int32) <<< (mo_bits &&& 31)))
    else
      f_M_readMore_J5_191 N rec z2.1 mo_run_5 z2.2.1 z2.2.2.1 z2.2.2.2.1 z2.2.2.2.2.1 z2.2.2.2.2.2
  else
    f_M_readMore_J5_191 N rec z2.1 mo_run_5 z2.2.1 z2.2.2.1 z2.2.2.2.1 z2.2.2.2.2.1 z2.2.2.2.2.2
def f_M_readMore_J5_111 (N : Nat) (rec : (Int32 × Int32 × Int32 × Int32 × Int32 × Int32 × (Nat → Int32)) → Option (Nat × Int32 × Int32 × Int32 × Int32 × Int32 × Int32 × (Nat → Int32))) (v6_j111 : Int32) (mo_size : Int32) (mo_at_j111 : Int32) (mo_taken_j111 : Int32) (mo_left_j111 : Int32) (mo_fault_j111 : Int32) (mo_data : Nat → Int32) (p0 : Int32) (p1 : Int32) (v3_5 : Int32) (v5_j111 : Int32) (mo_last : Int32) (mo_bits : Int32) (mo_base : Nat → Int32) (mo_coefficients_5 : Nat → Int32) (mo_run_5 : Int32) : Option (Nat × Int32 × Int32 × Int32 × Int32 × Int32 × Int32 × (Nat → Int32)) :=
  if v6_j111 = (1 : Int32) then
    (f_M_take mo_size mo_at_j111 mo_taken_j111 mo_left_j111 mo_fault_j111 mo_data).bind fun z3 =>
    f_M_readMore_J5_125 N rec p0 p1 v3_5 v5_j111 mo_last mo_bits mo_size z3.2.1 z3.2.2.1 z3.2.2.2.1 z3.2.2.2.2 mo_base mo_coefficients_5 mo_data v6_j111 z3.1 mo_run_5
  else
    f_M_readMore_J5_125 N rec p0 p1 v3_5 v5_j111 mo_last mo_bits mo_size mo_at_j111 mo_taken_j111 mo_left_j111 mo_fault_j111 mo_base mo_coefficients_5 mo_data v6_j111 (0 : Int32) mo_run_5
def f_M_readMore_J5_73 (N : Nat) (rec : (Int32 × Int32 × Int32 × Int32 × Int32 × Int32 × (Nat → Int32)) → Option (Nat × Int32 × Int32 × Int32 × Int32 × Int32 × Int32 × (Nat → Int32))) (mo_fault_j73 : Int32) (v6_j73 : Int32) (v5_j73 : Int32) (mo_size : Int32) (mo_at_j73 : Int32) (mo_taken_j73 : Int32) (mo_left_j73 : Int32) (mo_data : Nat → Int32) (p0 : Int32) (p1 : Int32) (v3_5 : Int32) (mo_last : Int32) (mo_bits : Int32) (mo_base : Nat → Int32) (mo_coefficients_5 : Nat → Int32) (mo_run_5 : Int32) : Option (Nat × Int32 × Int32 × Int32 × Int32 × Int32 × Int32 × (Nat → Int32)) :=
  if mo_fault_j73 ≤ 0 then
    if v6_j73 = 0 then
      if (15 : Int32) ≤ v5_j73 then
        f_M_readMore_J5_111 N rec v6_j73 mo_size mo_at_j73 mo_taken_j73 mo_left_j73 mo_fault_j73 mo_data p0 p1 v3_5 v5_j73 mo_last mo_bits mo_base mo_coefficients_5 mo_run_5
      else
        (f_M_takes N v5_j73 mo_size mo_at_j73 mo_taken_j73 mo_left_j73 mo_fault_j73 mo_data).bind fun z4 =>
        f_M_readMore_J5_194 N rec v3_5 (((1 : Int32) <<< (v5_j73 &&& 31)) + z4.1) z4.2.1 z4.2.2.1 z4.2.2.2.1 z4.2.2.2.2 mo_coefficients_5
    else
      f_M_readMore_J5_111 N rec v6_j73 mo_size mo_at_j73 mo_taken_j73 mo_left_j73 mo_fault_j73 mo_data p0 p1 v3_5 v5_j73 mo_last mo_bits mo_base mo_coefficients_5 mo_run_5
  else
    some (0, v3_5, mo_run_5, mo_at_j73, mo_taken_j73, mo_left_j73, mo_fault_j73, mo_coefficients_5)
def f_M_readMore_L5b (mo_last : Int32) (p0 : Int32) (mo_otherOf : Nat → Int32) (mo_size : Int32) (mo_lengths : Nat → Int32) (mo_codes : Nat → Int32) (mo_data : Nat → Int32) (p1 : Int32) (mo_bits : Int32) (mo_base : Nat → Int32) (N : Nat) (rec : (Int32 × Int32 × Int32 × Int32 × Int32 × Int32 × (Nat → Int32)) → Option (Nat × Int32 × Int32 × Int32 × Int32 × Int32 × Int32 × (Nat → Int32))) (v3_5 : Int32) (mo_run_5 : Int32) (mo_at_5 : Int32) (mo_taken_5 : Int32) (mo_left_5 : Int32) (mo_fault_5 : Int32) (mo_coefficients_5 : Nat → Int32) : Option (Nat × Int32 × Int32 × Int32 × Int32 × Int32 × Int32 × (Nat → Int32)) :=
  if mo_last < v3_5 then
    some (1, v3_5, mo_run_5, mo_at_5, mo_taken_5, mo_left_5, mo_fault_5, mo_coefficients_5)
  else
    if mo_run_5 = 0 then
      if mo_fault_5 = 0 then
        if p0 < 0 ∨ 4 ≤ p0.toNatClampNeg then none else
        (f_M_symbol N (mo_otherOf p0.toNatClampNeg) mo_size mo_at_5 mo_taken_5 mo_left_5 mo_fault_5 mo_lengths mo_codes mo_data).bind fun z1 =>
        if z1.2.2.2.2 = 0 then
          if (z1.1 - z1.1 / (16 : Int32) * (16 : Int32)) ≤ (1 : Int32) then
            f_M_readMore_J5_73 N rec z1.2.2.2.2 (z1.1 - z1.1 / (16 : Int32) * (16 : Int32)) (z1.1 / (16 : Int32)) mo_size z1.2.1 z1.2.2.1 z1.2.2.2.1 mo_data p0 p1 v3_5 mo_last mo_bits mo_base mo_coefficients_5 mo_run_5
          else
            (f_M_wrong (3 : Int32) z1.2.2.2.2).bind fun z5 =>
            f_M_readMore_J5_73 N rec z5.2 (z1.1 - z1.1 / (16 : Int32) * (16 : Int32)) (z1.1 / (16 : Int32)) mo_size z1.2.1 z1.2.2.1 z1.2.2.2.1 mo_data p0 p1 v3_5 mo_last mo_bits mo_base mo_coefficients_5 mo_run_5
        else
          f_M_readMore_J5_73 N rec z1.2.2.2.2 (z1.1 - z1.1 / (16 : Int32) * (16 : Int32)) (z1.1 / (16 : Int32)) mo_size z1.2.1 z1.2.2.1 z1.2.2.2.1 mo_data p0 p1 v3_5 mo_last mo_bits mo_base mo_coefficients_5 mo_run_5
      else
        some (1, v3_5, mo_run_5, mo_at_5, mo_taken_5, mo_left_5, mo_fault_5, mo_coefficients_5)
    else
      some (1, v3_5, mo_run_5, mo_at_5, mo_taken_5, mo_left_5, mo_fault_5, mo_coefficients_5)
def f_M_readMore_L5 (mo_last : Int32) (p0 : Int32) (mo_otherOf : Nat → Int32) (mo_size : Int32) (mo_lengths : Nat → Int32) (mo_codes : Nat → Int32) (mo_data : Nat → Int32) (p1 : Int32) (mo_bits : Int32) (mo_base : Nat → Int32) (N : Nat) (k : Nat) : (Int32 × Int32 × Int32 × Int32 × Int32 × Int32 × (Nat → Int32)) → Option (Nat × Int32 × Int32 × Int32 × Int32 × Int32 × Int32 × (Nat → Int32)) := it (fun rec a => f_M_readMore_L5b mo_last p0 mo_otherOf mo_size mo_lengths mo_codes mo_data p1 mo_bits mo_base N rec a.1 a.2.1 a.2.2.1 a.2.2.2.1 a.2.2.2.2.1 a.2.2.2.2.2.1 a.2.2.2.2.2.2) k
def f_M_readMore_J204_247 (N : Nat) (rec : (Int32 × Int32 × Int32 × Int32 × Int32 × (Nat → Int32)) → Option (Int32 × Int32 × Int32 × Int32 × (Nat → Int32))) (v3_204 : Int32) (mo_at_j247 : Int32) (mo_taken_j247 : Int32) (mo_left_j247 : Int32) (mo_fault_j247 : Int32) (mo_coefficients_j247 : Nat → Int32) : Option (Int32 × Int32 × Int32 × Int32 × (Nat → Int32)) :=
  rec (v3_204 + (1 : Int32), mo_at_j247, mo_taken_j247, mo_left_j247, mo_fault_j247, mo_coefficients_j247)
def f_M_readMore_L204b (mo_last : Int32) (p0 : Int32) (mo_base : Nat → Int32) (p1 : Int32) (mo_bits : Int32) (mo_size : Int32) (mo_data : Nat → Int32) (N : Nat) (rec : (Int32 × Int32 × Int32 × Int32 × Int32 × (Nat → Int32)) → Option (Int32 × Int32 × Int32 × Int32 × (Nat → Int32))) (v3_204 : Int32) (mo_at_204 : Int32) (mo_taken_204 : Int32) (mo_left_204 : Int32) (mo_fault_204 : Int32) (mo_coefficients_204 : Nat → Int32) : Option (Int32 × Int32 × Int32 × Int32 × (Nat → Int32)) :=
  if mo_last < v3_204 then
    some (mo_at_204, mo_taken_204, mo_left_204, mo_fault_204, mo_coefficients_204)
  else
    if mo_fault_204 = 0 then
      if p0 < 0 ∨ 4 ≤ p0.toNatClampNeg then none else
      if (((64 : Int32) * ((mo_base p0.toNatClampNeg) + p1)) + v3_204) < 0 ∨ 12288 ≤ (((64 : Int32) * ((mo_base p0.toNatClampNeg) + p1)) + v3_204).toNatClampNeg then none else
      if (mo_coefficients_204 (((64 : Int32) * ((mo_base p0.toNatClampNeg) + p1)) + v3_204).toNatClampNeg) = 0 then
        f_M_readMore_J204_247 N rec v3_204 mo_at_204 mo_taken_204 mo_left_204 mo_fault_204 mo_coefficients_204
      else
        (f_M_more p0 p1 v3_204 mo_bits mo_size mo_at_204 mo_taken_204 mo_left_204 mo_fault_204 mo_base mo_coefficients_204 mo_data).bind fun z7 =>
        f_M_readMore_J204_247 N rec v3_204 z7.1 z7.2.1 z7.2.2.1 z7.2.2.2.1 z7.2.2.2.2
    else
      some (mo_at_204, mo_taken_204, mo_left_204, mo_fault_204, mo_coefficients_204)
def f_M_readMore_L204 (mo_last : Int32) (p0 : Int32) (mo_base : Nat → Int32) (p1 : Int32) (mo_bits : Int32) (mo_size : Int32) (mo_data : Nat → Int32) (N : Nat) (k : Nat) : (Int32 × Int32 × Int32 × Int32 × Int32 × (Nat → Int32)) → Option (Int32 × Int32 × Int32 × Int32 × (Nat → Int32)) := it (fun rec a => f_M_readMore_L204b mo_last p0 mo_base p1 mo_bits mo_size mo_data N rec a.1 a.2.1 a.2.2.1 a.2.2.2.1 a.2.2.2.2.1 a.2.2.2.2.2) k
def f_M_readMore_J253 (N : Nat) (mo_run_j253 : Int32) (mo_at_j253 : Int32) (mo_taken_j253 : Int32) (mo_left_j253 : Int32) (mo_fault_j253 : Int32) (mo_coefficients_j253 : Nat → Int32) : Option (Int32 × Int32 × Int32 × Int32 × Int32 × (Nat → Int32)) :=
  some (mo_run_j253 - (1 : Int32), mo_at_j253, mo_taken_j253, mo_left_j253, mo_fault_j253, mo_coefficients_j253)
def f_M_readMore_J197 (N : Nat) (mo_run_j197 : Int32) (mo_at_j197 : Int32) (mo_taken_j197 : Int32) (mo_left_j197 : Int32) (mo_fault_j197 : Int32) (mo_coefficients_j197 : Nat → Int32) (mo_last : Int32) (p0 : Int32) (mo_base : Nat → Int32) (p1 : Int32) (mo_bits : Int32) (mo_size : Int32) (mo_data : Nat → Int32) (v3_j197 : Int32) : Option (Int32 × Int32 × Int32 × Int32 × Int32 × (Nat → Int32)) :=
  if mo_run_j197 ≤ 0 then
    some (mo_run_j197, mo_at_j197, mo_taken_j197, mo_left_j197, mo_fault_j197, mo_coefficients_j197)
  else
    (f_M_readMore_L204 mo_last p0 mo_base p1 mo_bits mo_size mo_data N N (v3_j197, mo_at_j197, mo_taken_j197, mo_left_j197, mo_fault_j197, mo_coefficients_j197)).bind fun z8 =>
      f_M_readMore_J253 N mo_run_j197 z8.1 z8.2.1 z8.2.2.1 z8.2.2.2.1 z8.2.2.2.2
def f_M_readMore (N : Nat) (p0 : Int32) (p1 : Int32) (mo_first : Int32) (mo_last : Int32) (mo_bits : Int32) (mo_size : Int32) (mo_run : Int32) (mo_at : Int32) (mo_taken : Int32) (mo_left : Int32) (mo_fault : Int32) (mo_base : Nat → Int32) (mo_coefficients : Nat → Int32) (mo_lengths : Nat → Int32) (mo_codes : Nat → Int32) (mo_otherOf : Nat → Int32) (mo_data : Nat → Int32) : Option (Int32 × Int32 × Int32 × Int32 × Int32 × (Nat → Int32)) :=
  (f_M_readMore_L5 mo_last p0 mo_otherOf mo_size mo_lengths mo_codes mo_data p1 mo_bits mo_base N N (mo_first, mo_run, mo_at, mo_taken, mo_left, mo_fault, mo_coefficients)).bind fun z6 =>
    if z6.1 = 0 then some (z6.2.2.1, z6.2.2.2.1, z6.2.2.2.2.1, z6.2.2.2.2.2.1, z6.2.2.2.2.2.2.1, z6.2.2.2.2.2.2.2) else f_M_readMore_J197 N z6.2.2.1 z6.2.2.2.1 z6.2.2.2.2.1 z6.2.2.2.2.2.1 z6.2.2.2.2.2.2.1 z6.2.2.2.2.2.2.2 mo_last p0 mo_base p1 mo_bits mo_size mo_data z6.2.1
abbrev w_M_readMore (cI cB cS cT : ClassId) (a_mo : Nat) (a_mo_base : Nat) (a_mo_coefficients : Nat) (a_mo_lengths : Nat) (a_mo_codes : Nat) (a_mo_otherOf : Nat) (a_mo_data : Nat) (a_mo_h : Nat) (a_mo_v : Nat) (a_mo_across : Nat) (a_mo_down : Nat) (a_mo_ownAcross : Nat) (a_mo_ownDown : Nat) (a_mo_before0 : Nat) (a_mo_draftCounts : Nat) (a_mo_draft : Nat) (a_mo_words : Nat) (a_mo_directOf : Nat) (a_mo_out : Nat) (a_mo_times : Nat) (a_mo_prediction : Nat) (a_mo_runBits : Nat) (a_mo_toCome : Nat) (a_mo_timesKept : Nat) (mo_thrown : Int32) (mo_width : Int32) (mo_height : Int32) (mo_many : Int32) (mo_unitsAcross : Int32) (mo_unitsDown : Int32) (mo_drafts : Int32) (mo_mask : Int32) (mo_first : Int32) (mo_last : Int32) (mo_before : Int32) (mo_bits : Int32) (mo_interval : Int32) (mo_size : Int32) (mo_outs : Int32) (mo_part : Int32) (mo_parted : Int32) (mo_failed : Int32) (mo_counting : Int32) (mo_run : Int32) (mo_runMany : Int32) (mo_comes : Int32) (mo_at : Int32) (mo_taken : Int32) (mo_left : Int32) (mo_fault : Int32) (mo_base : Nat → Int32) (mo_coefficients : Nat → Int32) (mo_lengths : Nat → Int32) (mo_codes : Nat → Int32) (mo_otherOf : Nat → Int32) (mo_data : Nat → Int32) : va_W := [(a_mo, .inr (11, [.int mo_thrown, .int mo_width, .int mo_height, .int mo_many, .ref a_mo_h, .ref a_mo_v, .ref a_mo_across, .ref a_mo_down, .ref a_mo_ownAcross, .ref a_mo_ownDown, .ref a_mo_base, .int mo_unitsAcross, .int mo_unitsDown, .ref a_mo_coefficients, .ref a_mo_before0, .ref a_mo_draftCounts, .ref a_mo_draft, .int mo_drafts, .ref a_mo_words, .ref a_mo_lengths, .ref a_mo_codes, .ref a_mo_directOf, .ref a_mo_otherOf, .int mo_mask, .int mo_first, .int mo_last, .int mo_before, .int mo_bits, .int mo_interval, .ref a_mo_data, .int mo_size, .ref a_mo_out, .int mo_outs, .int mo_part, .int mo_parted, .int mo_failed, .int mo_counting, .ref a_mo_times, .ref a_mo_prediction, .int mo_run, .ref a_mo_runBits, .int mo_runMany, .ref a_mo_toCome, .int mo_comes, .int mo_at, .int mo_taken, .int mo_left, .int mo_fault, .ref a_mo_timesKept])), (a_mo_base, .inl (cI, 4, .inl mo_base)), (a_mo_coefficients, .inl (cS, 12288, .inl mo_coefficients)), (a_mo_lengths, .inl (cI, 2048, .inl mo_lengths)), (a_mo_codes, .inl (cI, 2048, .inl mo_codes)), (a_mo_otherOf, .inl (cI, 4, .inl mo_otherOf)), (a_mo_data, .inl (cB, 16384, .inl mo_data))]
def rm_M_readMore : Room := { frames := 4, cells := 0, slots := 0, locals := 93 }
set_option maxHeartbeats 1000000 in
set_option maxRecDepth 100000 in
theorem c_M_readMore (l : Launch) (dC : Nat → ClassId) (dI : Nat → Nat → Nat) (cI cB cS cT : ClassId) (N : Nat) (a_mo : Nat) (a_mo_base : Nat) (a_mo_coefficients : Nat) (a_mo_lengths : Nat) (a_mo_codes : Nat) (a_mo_otherOf : Nat) (a_mo_data : Nat) (a_mo_h : Nat) (a_mo_v : Nat) (a_mo_across : Nat) (a_mo_down : Nat) (a_mo_ownAcross : Nat) (a_mo_ownDown : Nat) (a_mo_before0 : Nat) (a_mo_draftCounts : Nat) (a_mo_draft : Nat) (a_mo_words : Nat) (a_mo_directOf : Nat) (a_mo_out : Nat) (a_mo_times : Nat) (a_mo_prediction : Nat) (a_mo_runBits : Nat) (a_mo_toCome : Nat) (a_mo_timesKept : Nat) (mo_thrown : Int32) (mo_width : Int32) (mo_height : Int32) (mo_many : Int32) (mo_unitsAcross : Int32) (mo_unitsDown : Int32) (mo_drafts : Int32) (mo_mask : Int32) (mo_first : Int32) (mo_last : Int32) (mo_before : Int32) (mo_bits : Int32) (mo_interval : Int32) (mo_size : Int32) (mo_outs : Int32) (mo_part : Int32) (mo_parted : Int32) (mo_failed : Int32) (mo_counting : Int32) (mo_run : Int32) (mo_runMany : Int32) (mo_comes : Int32) (mo_at : Int32) (mo_taken : Int32) (mo_left : Int32) (mo_fault : Int32) (mo_base : Nat → Int32) (mo_coefficients : Nat → Int32) (mo_lengths : Nat → Int32) (mo_codes : Nat → Int32) (mo_otherOf : Nat → Int32) (mo_data : Nat → Int32) (p0 : Int32) (p1 : Int32) (sz : Nat) (z : Int32 × Int32 × Int32 × Int32 × Int32 × (Nat → Int32)) (hf : f_M_readMore N p0 p1 mo_first mo_last mo_bits mo_size mo_run mo_at mo_taken mo_left mo_fault mo_base mo_coefficients mo_lengths mo_codes mo_otherOf mo_data = some z) : Met l y_m1192 ws_m1192 rm_M_readMore (gPre (dC, dI) [.ref a_mo, .int p0, .int p1] (gT cI cB cS cT) (w_M_readMore cI cB cS cT a_mo a_mo_base a_mo_coefficients a_mo_lengths a_mo_codes a_mo_otherOf a_mo_data a_mo_h a_mo_v a_mo_across a_mo_down a_mo_ownAcross a_mo_ownDown a_mo_before0 a_mo_draftCounts a_mo_draft a_mo_words a_mo_directOf a_mo_out a_mo_times a_mo_prediction a_mo_runBits a_mo_toCome a_mo_timesKept mo_thrown mo_width mo_height mo_many mo_unitsAcross mo_unitsDown mo_drafts mo_mask mo_first mo_last mo_before mo_bits mo_interval mo_size mo_outs mo_part mo_parted mo_failed mo_counting mo_run mo_runMany mo_comes mo_at mo_taken mo_left mo_fault mo_base mo_coefficients mo_lengths mo_codes mo_otherOf mo_data) sz) (gQv (dC, dI) (gT cI cB cS cT) (w_M_readMore cI cB cS cT a_mo a_mo_base a_mo_coefficients a_mo_lengths a_mo_codes a_mo_otherOf a_mo_data a_mo_h a_mo_v a_mo_across a_mo_down a_mo_ownAcross a_mo_ownDown a_mo_before0 a_mo_draftCounts a_mo_draft a_mo_words a_mo_directOf a_mo_out a_mo_times a_mo_prediction a_mo_runBits a_mo_toCome a_mo_timesKept mo_thrown mo_width mo_height mo_many mo_unitsAcross mo_unitsDown mo_drafts mo_mask mo_first mo_last mo_before mo_bits mo_interval mo_size mo_outs mo_part mo_parted mo_failed mo_counting mo_run mo_runMany mo_comes mo_at mo_taken mo_left mo_fault mo_base mo_coefficients mo_lengths mo_codes mo_otherOf mo_data) (w_M_readMore cI cB cS cT a_mo a_mo_base a_mo_coefficients a_mo_lengths a_mo_codes a_mo_otherOf a_mo_data a_mo_h a_mo_v a_mo_across a_mo_down a_mo_ownAcross a_mo_ownDown a_mo_before0 a_mo_draftCounts a_mo_draft a_mo_words a_mo_directOf a_mo_out a_mo_times a_mo_prediction a_mo_runBits a_mo_toCome a_mo_timesKept mo_thrown mo_width mo_height mo_many mo_unitsAcross mo_unitsDown mo_drafts mo_mask mo_first mo_last mo_before mo_bits mo_interval mo_size mo_outs mo_part mo_parted mo_failed mo_counting z.1 mo_runMany mo_comes z.2.1 z.2.2.1 z.2.2.2.1 z.2.2.2.2.1 mo_base z.2.2.2.2.2 mo_lengths mo_codes mo_otherOf mo_data) sz) 0 0 (va_A (w_M_readMore cI cB cS cT a_mo a_mo_base a_mo_coefficients a_mo_lengths a_mo_codes a_mo_otherOf a_mo_data a_mo_h a_mo_v a_mo_across a_mo_down a_mo_ownAcross a_mo_ownDown a_mo_before0 a_mo_draftCounts a_mo_draft a_mo_words a_mo_directOf a_mo_out a_mo_times a_mo_prediction a_mo_runBits a_mo_toCome a_mo_timesKept mo_thrown mo_width mo_height mo_many mo_unitsAcross mo_unitsDown mo_drafts mo_mask mo_first mo_last mo_before mo_bits mo_interval mo_size mo_outs mo_part mo_parted mo_failed mo_counting mo_run mo_runMany mo_comes mo_at mo_taken mo_left mo_fault mo_base mo_coefficients mo_lengths mo_codes mo_otherOf mo_data) sz) := by
  refine Met.ofW (cc := prog_14_method_55_code) (maxL := 8) (ret := none) (by decide) rfl ?_
  intro p e s m args below meth c s₁ B hml hv
  obtain ⟨hargs, hsz, hP, hKN, hD0⟩ := hv
  have hK := hKN.1
  have hx := B.exec
  have hb := B.bytes
  have hr := B.returns
  have hts := atoms_spec (ws := ws_m1192) B.pre
  have hown : s.vm.findClass "ScanCoderModel" = some m.cls := findClass_of_methodNamed B.named
  have hlocks := B.notSynchronized
  have k0 := hts _ (List.mem_cons_of_mem _ tw_858)
  have k1 := hts _ (List.mem_cons_of_mem _ tw_859)
  have k2 := hts _ (List.mem_cons_of_mem _ tw_873)
  have k3 := hts _ (List.mem_cons_of_mem _ tw_881)
  have k4 := hts _ (List.mem_cons_of_mem _ tw_856)
  have k5 := hts _ (List.mem_cons_of_mem _ tw_847)
  have k6 := hts _ (List.mem_cons_of_mem _ tw_844)
  have k7 := hts _ (List.mem_cons_of_mem _ tw_861)
  have n0 : ∀ w ∈ u_ws "ScanCoderModel" T_11 49, w ∈ ws_m1192 := fun w h => List.mem_cons_of_mem _ (in_11 w h)
  subst hsz
  have hD := hD0.self (sz := s.heap.size)
  obtain ⟨A, hAe⟩ : ∃ A : Nat → Prop, va_A (w_M_readMore cI cB cS cT a_mo a_mo_base a_mo_coefficients a_mo_lengths a_mo_codes a_mo_otherOf a_mo_data a_mo_h a_mo_v a_mo_across a_mo_down a_mo_ownAcross a_mo_ownDown a_mo_before0 a_mo_draftCounts a_mo_draft a_mo_words a_mo_directOf a_mo_out a_mo_times a_mo_prediction a_mo_runBits a_mo_toCome a_mo_timesKept mo_thrown mo_width mo_height mo_many mo_unitsAcross mo_unitsDown mo_drafts mo_mask mo_first mo_last mo_before mo_bits mo_interval mo_size mo_outs mo_part mo_parted mo_failed mo_counting mo_run mo_runMany mo_comes mo_at mo_taken mo_left mo_fault mo_base mo_coefficients mo_lengths mo_codes mo_otherOf mo_data) s.heap.size = A := ⟨_, rfl⟩
  rw [hAe] at hD
  have hA : ∀ q : Nat, s.heap.size ≤ q → A q := fun q h => by rw [← hAe]; exact Or.inr h
  have hS : va_S A s.heap s.heap [] := va_S.rf
  have hl := lv_entry ([.ref a_mo, .int p0, .int p1]) (n := 8) (Nat.le_of_ble_eq_true rfl)
  have hfr : entryFrame m args 8 = F0 m 0 ((lg_sl ([.ref a_mo, .int p0, .int p1]) ++ List.replicate (8 - (lg_sl ([.ref a_mo, .int p0, .int p1])).length) Slot.unset).toArray) [] := by rw [hargs]; exact lg_entry_eq _ _ _
  rw [hfr]
  generalize (lg_sl ([.ref a_mo, .int p0, .int p1]) ++ List.replicate (8 - (lg_sl ([.ref a_mo, .int p0, .int p1])).length) Slot.unset).toArray = ls at hl ⊢
  have hl : lv_has ls 8 [(0, .ref a_mo), (1, .int p0), (2, .int p1)] := hl
  refine gen_Q (fun Q hQ => ?_)
  clear hfr
  have L5 : ∀  (z : Nat × Int32 × Int32 × Int32 × Int32 × Int32 × Int32 × (Nat → Int32)), (z.1 = 0 → GW (dC, dI) A p l e (headSpec ws_m1192 rm_M_readMore).room s m args below meth c 0 0 Q 8 80 (w_M_readMore cI cB cS cT a_mo a_mo_base a_mo_coefficients a_mo_lengths a_mo_codes a_mo_otherOf a_mo_data a_mo_h a_mo_v a_mo_across a_mo_down a_mo_ownAcross a_mo_ownDown a_mo_before0 a_mo_draftCounts a_mo_draft a_mo_words a_mo_directOf a_mo_out a_mo_times a_mo_prediction a_mo_runBits a_mo_toCome a_mo_timesKept mo_thrown mo_width mo_height mo_many mo_unitsAcross mo_unitsDown mo_drafts mo_mask mo_first mo_last mo_before mo_bits mo_interval mo_size mo_outs mo_part mo_parted mo_failed mo_counting z.2.2.1 mo_runMany mo_comes z.2.2.2.1 z.2.2.2.2.1 z.2.2.2.2.2.1 z.2.2.2.2.2.2.1 mo_base z.2.2.2.2.2.2.2 mo_lengths mo_codes mo_otherOf mo_data) [] []) → (z.1 = 1 → GW (dC, dI) A p l e (headSpec ws_m1192 rm_M_readMore).room s m args below meth c 0 0 Q 8 197 (w_M_readMore cI cB cS cT a_mo a_mo_base a_mo_coefficients a_mo_lengths a_mo_codes a_mo_otherOf a_mo_data a_mo_h a_mo_v a_mo_across a_mo_down a_mo_ownAcross a_mo_ownDown a_mo_before0 a_mo_draftCounts a_mo_draft a_mo_words a_mo_directOf a_mo_out a_mo_times a_mo_prediction a_mo_runBits a_mo_toCome a_mo_timesKept mo_thrown mo_width mo_height mo_many mo_unitsAcross mo_unitsDown mo_drafts mo_mask mo_first mo_last mo_before mo_bits mo_interval mo_size mo_outs mo_part mo_parted mo_failed mo_counting z.2.2.1 mo_runMany mo_comes z.2.2.2.1 z.2.2.2.2.1 z.2.2.2.2.2.1 z.2.2.2.2.2.2.1 mo_base z.2.2.2.2.2.2.2 mo_lengths mo_codes mo_otherOf mo_data) [(0, .ref a_mo), (1, .int p0), (2, .int p1), (3, .int z.2.1)] []) → ∀ (k : Nat) (v3_5 : Int32) (mo_run_5 : Int32) (mo_at_5 : Int32) (mo_taken_5 : Int32) (mo_left_5 : Int32) (mo_fault_5 : Int32) (mo_coefficients_5 : Nat → Int32), f_M_readMore_L5 mo_last p0 mo_otherOf mo_size mo_lengths mo_codes mo_data p1 mo_bits mo_base N k (v3_5, mo_run_5, mo_at_5, mo_taken_5, mo_left_5, mo_fault_5, mo_coefficients_5) = some z → GW (dC, dI) A p l e (headSpec ws_m1192 rm_M_readMore).room s m args below meth c 0 0 Q 8 5 (w_M_readMore cI cB cS cT a_mo a_mo_base a_mo_coefficients a_mo_lengths a_mo_codes a_mo_otherOf a_mo_data a_mo_h a_mo_v a_mo_across a_mo_down a_mo_ownAcross a_mo_ownDown a_mo_before0 a_mo_draftCounts a_mo_draft a_mo_words a_mo_directOf a_mo_out a_mo_times a_mo_prediction a_mo_runBits a_mo_toCome a_mo_timesKept mo_thrown mo_width mo_height mo_many mo_unitsAcross mo_unitsDown mo_drafts mo_mask mo_first mo_last mo_before mo_bits mo_interval mo_size mo_outs mo_part mo_parted mo_failed mo_counting mo_run_5 mo_runMany mo_comes mo_at_5 mo_taken_5 mo_left_5 mo_fault_5 mo_base mo_coefficients_5 mo_lengths mo_codes mo_otherOf mo_data) [(0, .ref a_mo), (1, .int p0), (2, .int p1), (3, .int v3_5)] [] := by
    intro  z hE0 hE1 k
    induction k with
    | zero =>
      intro v3_5 mo_run_5 mo_at_5 mo_taken_5 mo_left_5 mo_fault_5 mo_coefficients_5 hf
      exact (it_zero hf).elim
    | succ k ih =>
      intro v3_5 mo_run_5 mo_at_5 mo_taken_5 mo_left_5 mo_fault_5 mo_coefficients_5 hf H locs ls hP hD hS hl
      have J5_194 : ∀ (v3_j194 : Int32) (mo_run_j194 : Int32) (mo_at_j194 : Int32) (mo_taken_j194 : Int32) (mo_left_j194 : Int32) (mo_fault_j194 : Int32) (mo_coefficients_j194 : Nat → Int32), f_M_readMore_J5_194 N (f_M_readMore_L5 mo_last p0 mo_otherOf mo_size mo_lengths mo_codes mo_data p1 mo_bits mo_base N k) v3_j194 mo_run_j194 mo_at_j194 mo_taken_j194 mo_left_j194 mo_fault_j194 mo_coefficients_j194 = some z → GW (dC, dI) A p l e (headSpec ws_m1192 rm_M_readMore).room s m args below meth c 0 0 Q 8 194 (w_M_readMore cI cB cS cT a_mo a_mo_base a_mo_coefficients a_mo_lengths a_mo_codes a_mo_otherOf a_mo_data a_mo_h a_mo_v a_mo_across a_mo_down a_mo_ownAcross a_mo_ownDown a_mo_before0 a_mo_draftCounts a_mo_draft a_mo_words a_mo_directOf a_mo_out a_mo_times a_mo_prediction a_mo_runBits a_mo_toCome a_mo_timesKept mo_thrown mo_width mo_height mo_many mo_unitsAcross mo_unitsDown mo_drafts mo_mask mo_first mo_last mo_before mo_bits mo_interval mo_size mo_outs mo_part mo_parted mo_failed mo_counting mo_run_j194 mo_runMany mo_comes mo_at_j194 mo_taken_j194 mo_left_j194 mo_fault_j194 mo_base mo_coefficients_j194 mo_lengths mo_codes mo_otherOf mo_data) [(0, .ref a_mo), (1, .int p0), (2, .int p1), (3, .int v3_j194)] [] := by
        intro v3_j194 mo_run_j194 mo_at_j194 mo_taken_j194 mo_left_j194 mo_fault_j194 mo_coefficients_j194 hf H locs ls hP hD hS hl
        unfold f_M_readMore_J5_194 at hf
        refine lv_goto (tgt := 5) hx hb d_m1192_194 (by decide) ?_
        exact ih v3_j194 mo_run_j194 mo_at_j194 mo_taken_j194 mo_left_j194 mo_fault_j194 mo_coefficients_j194 hf H locs ls hP hD hS hl
      have J5_191 : ∀ (v3_j191 : Int32) (mo_at_j191 : Int32) (mo_taken_j191 : Int32) (mo_left_j191 : Int32) (mo_fault_j191 : Int32) (mo_coefficients_j191 : Nat → Int32), f_M_readMore_J5_191 N (f_M_readMore_L5 mo_last p0 mo_otherOf mo_size mo_lengths mo_codes mo_data p1 mo_bits mo_base N k) v3_j191 mo_run_5 mo_at_j191 mo_taken_j191 mo_left_j191 mo_fault_j191 mo_coefficients_j191 = some z → GW (dC, dI) A p l e (headSpec ws_m1192 rm_M_readMore).room s m args below meth c 0 0 Q 8 191 (w_M_readMore cI cB cS cT a_mo a_mo_base a_mo_coefficients a_mo_lengths a_mo_codes a_mo_otherOf a_mo_data a_mo_h a_mo_v a_mo_across a_mo_down a_mo_ownAcross a_mo_ownDown a_mo_before0 a_mo_draftCounts a_mo_draft a_mo_words a_mo_directOf a_mo_out a_mo_times a_mo_prediction a_mo_runBits a_mo_toCome a_mo_timesKept mo_thrown mo_width mo_height mo_many mo_unitsAcross mo_unitsDown mo_drafts mo_mask mo_first mo_last mo_before mo_bits mo_interval mo_size mo_outs mo_part mo_parted mo_failed mo_counting mo_run_5 mo_runMany mo_comes mo_at_j191 mo_taken_j191 mo_left_j191 mo_fault_j191 mo_base mo_coefficients_j191 mo_lengths mo_codes mo_otherOf mo_data) [(0, .ref a_mo), (1, .int p0), (2, .int p1), (3, .int v3_j191)] [] := by
        intro v3_j191 mo_at_j191 mo_taken_j191 mo_left_j191 mo_fault_j191 mo_coefficients_j191 hf H locs ls hP hD hS hl
        unfold f_M_readMore_J5_191 at hf
        refine lv_iinc (v := v3_j191 + (1 : Int32)) (lv' := [(3, .int (v3_j191 + (1 : Int32))), (0, .ref a_mo), (1, .int p0), (2, .int p1)]) hx hb d_m1192_191 hl (k := 3) rfl rfl (by decide) rfl (fun ls hl => ?_)
        exact J5_194 (v3_j191 + (1 : Int32)) mo_run_5 mo_at_j191 mo_taken_j191 mo_left_j191 mo_fault_j191 mo_coefficients_j191 hf H locs ls hP hD hS (lv_sub hl [1, 2, 3, 0] rfl)
      have J5_189 : ∀ (v3_j189 : Int32) (mo_at_j189 : Int32) (mo_taken_j189 : Int32) (mo_left_j189 : Int32) (mo_fault_j189 : Int32) (mo_coefficients_j189 : Nat → Int32) (s1_j189 : Int32) (s2_j189 : Int32), f_M_readMore_J5_189 N (f_M_readMore_L5 mo_last p0 mo_otherOf mo_size mo_lengths mo_codes mo_data p1 mo_bits mo_base N k) s1_j189 v3_j189 mo_run_5 mo_at_j189 mo_taken_j189 mo_left_j189 mo_fault_j189 mo_coefficients_j189 s2_j189 = some z → GW (dC, dI) A p l e (headSpec ws_m1192 rm_M_readMore).room s m args below meth c 0 0 Q 8 189 (w_M_readMore cI cB cS cT a_mo a_mo_base a_mo_coefficients a_mo_lengths a_mo_codes a_mo_otherOf a_mo_data a_mo_h a_mo_v a_mo_across a_mo_down a_mo_ownAcross a_mo_ownDown a_mo_before0 a_mo_draftCounts a_mo_draft a_mo_words a_mo_directOf a_mo_out a_mo_times a_mo_prediction a_mo_runBits a_mo_toCome a_mo_timesKept mo_thrown mo_width mo_height mo_many mo_unitsAcross mo_unitsDown mo_drafts mo_mask mo_first mo_last mo_before mo_bits mo_interval mo_size mo_outs mo_part mo_parted mo_failed mo_counting mo_run_5 mo_runMany mo_comes mo_at_j189 mo_taken_j189 mo_left_j189 mo_fault_j189 mo_base mo_coefficients_j189 mo_lengths mo_codes mo_otherOf mo_data) [(0, .ref a_mo), (1, .int p0), (2, .int p1), (3, .int v3_j189)] [.int s2_j189, .int s1_j189, .ref a_mo_coefficients] := by
        intro v3_j189 mo_at_j189 mo_taken_j189 mo_left_j189 mo_fault_j189 mo_coefficients_j189 s1_j189 s2_j189 hf H locs ls hP hD hS hl
        unfold f_M_readMore_J5_189 at hf
        refine lv_i2s hx hb d_m1192_189 rfl ?_
        obtain ⟨hi, hf⟩ := ob_if hf
        refine va_sast hx hb hK hP hD hS 2 2 rfl rfl hi d_m1192_190 (fun H locs hP hD hS => ?_)
        have hP : va_P (dC, dI) vwCl (w_M_readMore cI cB cS cT a_mo a_mo_base a_mo_coefficients a_mo_lengths a_mo_codes a_mo_otherOf a_mo_data a_mo_h a_mo_v a_mo_across a_mo_down a_mo_ownAcross a_mo_ownDown a_mo_before0 a_mo_draftCounts a_mo_draft a_mo_words a_mo_directOf a_mo_out a_mo_times a_mo_prediction a_mo_runBits a_mo_toCome a_mo_timesKept mo_thrown mo_width mo_height mo_many mo_unitsAcross mo_unitsDown mo_drafts mo_mask mo_first mo_last mo_before mo_bits mo_interval mo_size mo_outs mo_part mo_parted mo_failed mo_counting mo_run_5 mo_runMany mo_comes mo_at_j189 mo_taken_j189 mo_left_j189 mo_fault_j189 mo_base (upd mo_coefficients_j189 s1_j189.toNatClampNeg (vp_nar .short s2_j189.toInt16.toInt32)) mo_lengths mo_codes mo_otherOf mo_data) H := hP
        have hD : va_D A (w_M_readMore cI cB cS cT a_mo a_mo_base a_mo_coefficients a_mo_lengths a_mo_codes a_mo_otherOf a_mo_data a_mo_h a_mo_v a_mo_across a_mo_down a_mo_ownAcross a_mo_ownDown a_mo_before0 a_mo_draftCounts a_mo_draft a_mo_words a_mo_directOf a_mo_out a_mo_times a_mo_prediction a_mo_runBits a_mo_toCome a_mo_timesKept mo_thrown mo_width mo_height mo_many mo_unitsAcross mo_unitsDown mo_drafts mo_mask mo_first mo_last mo_before mo_bits mo_interval mo_size mo_outs mo_part mo_parted mo_failed mo_counting mo_run_5 mo_runMany mo_comes mo_at_j189 mo_taken_j189 mo_left_j189 mo_fault_j189 mo_base (upd mo_coefficients_j189 s1_j189.toNatClampNeg (vp_nar .short s2_j189.toInt16.toInt32)) mo_lengths mo_codes mo_otherOf mo_data) := hD
        exact J5_191 v3_j189 mo_at_j189 mo_taken_j189 mo_left_j189 mo_fault_j189 (upd mo_coefficients_j189 s1_j189.toNatClampNeg (vp_nar .short s2_j189.toInt16.toInt32)) hf H locs ls hP hD hS hl
      have J5_125 : ∀ (v5_j125 : Int32) (v6_j125 : Int32) (mo_at_j125 : Int32) (mo_taken_j125 : Int32) (mo_left_j125 : Int32) (mo_fault_j125 : Int32) (s0_j125 : Int32), f_M_readMore_J5_125 N (f_M_readMore_L5 mo_last p0 mo_otherOf mo_size mo_lengths mo_codes mo_data p1 mo_bits mo_base N k) p0 p1 v3_5 v5_j125 mo_last mo_bits mo_size mo_at_j125 mo_taken_j125 mo_left_j125 mo_fault_j125 mo_base mo_coefficients_5 mo_data v6_j125 s0_j125 mo_run_5 = some z → GW (dC, dI) A p l e (headSpec ws_m1192 rm_M_readMore).room s m args below meth c 0 0 Q 8 125 (w_M_readMore cI cB cS cT a_mo a_mo_base a_mo_coefficients a_mo_lengths a_mo_codes a_mo_otherOf a_mo_data a_mo_h a_mo_v a_mo_across a_mo_down a_mo_ownAcross a_mo_ownDown a_mo_before0 a_mo_draftCounts a_mo_draft a_mo_words a_mo_directOf a_mo_out a_mo_times a_mo_prediction a_mo_runBits a_mo_toCome a_mo_timesKept mo_thrown mo_width mo_height mo_many mo_unitsAcross mo_unitsDown mo_drafts mo_mask mo_first mo_last mo_before mo_bits mo_interval mo_size mo_outs mo_part mo_parted mo_failed mo_counting mo_run_5 mo_runMany mo_comes mo_at_j125 mo_taken_j125 mo_left_j125 mo_fault_j125 mo_base mo_coefficients_5 mo_lengths mo_codes mo_otherOf mo_data) [(0, .ref a_mo), (1, .int p0), (2, .int p1), (3, .int v3_5), (5, .int v5_j125), (6, .int v6_j125)] [.int s0_j125] := by
        intro v5_j125 v6_j125 mo_at_j125 mo_taken_j125 mo_left_j125 mo_fault_j125 s0_j125 hf H locs ls hP hD hS hl
        unfold f_M_readMore_J5_125 at hf
        refine lv_istore (lv' := [(7, .int s0_j125), (0, .ref a_mo), (1, .int p0), (2, .int p1), (3, .int v3_5), (5, .int v5_j125), (6, .int v6_j125)]) hx hb d_m1192_125 hl (by decide) rfl (fun ls hl => ?_)
        refine lv_aload_n hx hb d_m1192_127 rfl (lv_at hl 1 rfl) ?_
        refine lv_iload_n hx hb d_m1192_128 rfl (lv_at hl 2 rfl) ?_
        refine lv_iload_n hx hb d_m1192_129 rfl (lv_at hl 3 rfl) ?_
        refine lv_iload_n hx hb d_m1192_130 rfl (lv_at hl 4 rfl) ?_
        refine lv_iload hx hb d_m1192_131 (lv_at hl 5 rfl) ?_
        obtain ⟨z2, hz2, hf⟩ := ob_bind hf
        refine g_calli (wc := (w_M_over cI cB cS cT a_mo a_mo_base a_mo_coefficients a_mo_data a_mo_h a_mo_v a_mo_across a_mo_down a_mo_ownAcross a_mo_ownDown a_mo_before0 a_mo_draftCounts a_mo_draft a_mo_words a_mo_lengths a_mo_codes a_mo_directOf a_mo_otherOf a_mo_out a_mo_times a_mo_prediction a_mo_runBits a_mo_toCome a_mo_timesKept mo_thrown mo_width mo_height mo_many mo_unitsAcross mo_unitsDown mo_drafts mo_mask mo_first mo_last mo_before mo_bits mo_interval mo_size mo_outs mo_part mo_parted mo_failed mo_counting mo_run_5 mo_runMany mo_comes mo_at_j125 mo_taken_j125 mo_left_j125 mo_fault_j125 mo_base mo_coefficients_5 mo_data)) (w1 := (w_M_over cI cB cS cT a_mo a_mo_base a_mo_coefficients a_mo_data a_mo_h a_mo_v a_mo_across a_mo_down a_mo_ownAcross a_mo_ownDown a_mo_before0 a_mo_draftCounts a_mo_draft a_mo_words a_mo_lengths a_mo_codes a_mo_directOf a_mo_otherOf a_mo_out a_mo_times a_mo_prediction a_mo_runBits a_mo_toCome a_mo_timesKept mo_thrown mo_width mo_height mo_many mo_unitsAcross mo_unitsDown mo_drafts mo_mask mo_first mo_last mo_before mo_bits mo_interval mo_size mo_outs mo_part mo_parted mo_failed mo_counting mo_run_5 mo_runMany mo_comes z2.2.1 z2.2.2.1 z2.2.2.2.1 z2.2.2.2.2.1 mo_base z2.2.2.2.2.2 mo_data)) (w2 := (w_M_readMore cI cB cS cT a_mo a_mo_base a_mo_coefficients a_mo_lengths a_mo_codes a_mo_otherOf a_mo_data a_mo_h a_mo_v a_mo_across a_mo_down a_mo_ownAcross a_mo_ownDown a_mo_before0 a_mo_draftCounts a_mo_draft a_mo_words a_mo_directOf a_mo_out a_mo_times a_mo_prediction a_mo_runBits a_mo_toCome a_mo_timesKept mo_thrown mo_width mo_height mo_many mo_unitsAcross mo_unitsDown mo_drafts mo_mask mo_first mo_last mo_before mo_bits mo_interval mo_size mo_outs mo_part mo_parted mo_failed mo_counting mo_run_5 mo_runMany mo_comes z2.2.1 z2.2.2.1 z2.2.2.2.1 z2.2.2.2.2.1 mo_base z2.2.2.2.2.2 mo_lengths mo_codes mo_otherOf mo_data)) [0, 1, 2, 6] [some 0, some 1, some 2, none, none, none, some 3] hP hD hS hA rfl rfl rfl rfl (va_runV (As := [.int p0, .int p1, .int v3_5, .int v5_j125]) (rest := []) ⟨hx, hb, hml, hown, hts⟩ (c_M_over l dC dI cI cB cS cT N a_mo a_mo_base a_mo_coefficients a_mo_data a_mo_h a_mo_v a_mo_across a_mo_down a_mo_ownAcross a_mo_ownDown a_mo_before0 a_mo_draftCounts a_mo_draft a_mo_words a_mo_lengths a_mo_codes a_mo_directOf a_mo_otherOf a_mo_out a_mo_times a_mo_prediction a_mo_runBits a_mo_toCome a_mo_timesKept mo_thrown mo_width mo_height mo_many mo_unitsAcross mo_unitsDown mo_drafts mo_mask mo_first mo_last mo_before mo_bits mo_interval mo_size mo_outs mo_part mo_parted mo_failed mo_counting mo_run_5 mo_runMany mo_comes mo_at_j125 mo_taken_j125 mo_left_j125 mo_fault_j125 mo_base mo_coefficients_5 mo_data p0 p1 v3_5 v5_j125 H.size z2 hz2) ⟨(callB_of 4 hts (gi tw_1196 rfl) rfl rfl rfl (hts _ (List.mem_cons_of_mem _ tw_16)) (hts _ (List.mem_cons_of_mem _ tw_1193)) (by decide +kernel) ⟨Nat.le_of_ble_eq_true rfl, Nat.le_of_ble_eq_true rfl⟩), hts _ (List.mem_cons_of_mem _ tw_1195), hts _ (List.mem_cons_of_mem _ ts_m1196)⟩ ⟨g_blind, va_recv hK hP (ci := 11) (q0 := 0) rfl rfl, g_at hKN (g_pm hP [0, 1, 2, 6] rfl) (hD.sub [0, 1, 2, 6] (by decide) rfl)⟩ rfl rfl hl.1 rfl (lv_room (Nat.le_of_ble_eq_true rfl)) d_m1192_133 ⟨Nat.zero_le _, Nat.zero_le _⟩) (fun H locs hP hD hS => ?_)
        refine W.eq (g2 := F0 m 136 ls [.int z2.1]) rfl ?_
        refine lv_istore_n (lv' := [(3, .int z2.1), (7, .int s0_j125), (0, .ref a_mo), (1, .int p0), (2, .int p1), (5, .int v5_j125), (6, .int v6_j125)]) hx hb d_m1192_136 rfl hl (by decide) rfl (fun ls hl => ?_)
        refine lv_aload_n hx hb d_m1192_137 rfl (lv_at hl 2 rfl) ?_
        refine va_get (D := (dC, dI)) (ci := 11) (v := .int z2.2.2.2.2.1) (C := "ScanCoderModel") (T := T_11) (N := 49) hx hb hts n0 hown hK hP 0 rfl rfl 47 (by decide) k3 (fun _ h9 => h9) rfl d_m1192_138 ?_
        refine lv_if_ne (tgt := 191) hx hb d_m1192_141 (by decide) (fun hc => ?_) (fun hc => ?_)
        · replace hf := (if_neg hc).symm.trans hf
          exact J5_191 z2.1 z2.2.1 z2.2.2.1 z2.2.2.2.1 z2.2.2.2.2.1 z2.2.2.2.2.2 hf H locs ls hP hD hS (lv_sub hl [2, 3, 4, 0] rfl)
        · replace hf := (if_pos hc).symm.trans hf
          refine lv_iload hx hb d_m1192_144 (lv_at hl 6 rfl) ?_
          refine lv_iconst (v := (1 : Int32)) hx hb d_m1192_146 (by decide) ?_
          refine lv_icmp_ne (tgt := 191) hx hb d_m1192_147 (by decide) (fun hc => ?_) (fun hc => ?_)
          · replace hf := (if_neg hc).symm.trans hf
            exact J5_191 z2.1 z2.2.1 z2.2.2.1 z2.2.2.2.1 z2.2.2.2.2.1 z2.2.2.2.2.2 hf H locs ls hP hD hS (lv_sub hl [2, 3, 4, 0] rfl)
          · replace hf := (if_pos hc).symm.trans hf
            refine lv_aload_n hx hb d_m1192_150 rfl (lv_at hl 2 rfl) ?_
            refine va_get (D := (dC, dI)) (ci := 11) (v := .ref a_mo_coefficients) (C := "ScanCoderModel") (T := T_11) (N := 49) hx hb hts n0 hown hK hP 0 rfl rfl 13 (by decide) k5 (fun _ h9 => h9) rfl d_m1192_151 ?_
            refine lv_bipush (v := (64 : Int32)) hx hb d_m1192_154 (by decide) ?_
            refine lv_aload_n hx hb d_m1192_156 rfl (lv_at hl 2 rfl) ?_
            refine va_get (D := (dC, dI)) (ci := 11) (v := .ref a_mo_base) (C := "ScanCoderModel") (T := T_11) (N := 49) hx hb hts n0 hown hK hP 0 rfl rfl 10 (by decide) k6 (fun _ h9 => h9) rfl d_m1192_157 ?_
            refine lv_iload_n hx hb d_m1192_160 rfl (lv_at hl 3 rfl) ?_
            obtain ⟨hi, hf⟩ := ob_if hf
            refine va_iald hx hb hK hP 1 0 rfl rfl hi d_m1192_161 ?_
            refine lv_iload_n hx hb d_m1192_162 rfl (lv_at hl 4 rfl) ?_
            refine lv_iadd hx hb d_m1192_163 ?_
            refine lv_imul hx hb d_m1192_164 ?_
            refine lv_iload_n hx hb d_m1192_165 rfl (lv_at hl 0 rfl) ?_
            refine lv_iadd hx hb d_m1192_166 ?_
            refine lv_iload hx hb d_m1192_167 (lv_at hl 1 rfl) ?_
            refine lv_iconst (v := (1 : Int32)) hx hb d_m1192_169 (by decide) ?_
            refine lv_icmp_ne (tgt := 182) hx hb d_m1192_170 (by decide) (fun hc => ?_) (fun hc => ?_)
            · replace hf := (if_neg hc).symm.trans hf
              refine lv_iconst (v := (1 : Int32)) hx hb d_m1192_182 (by decide) ?_
              refine lv_aload_n hx hb d_m1192_183 rfl (lv_at hl 2 rfl) ?_
              refine va_get (D := (dC, dI)) (ci := 11) (v := .int mo_bits) (C := "ScanCoderModel") (T := T_11) (N := 49) hx hb hts n0 hown hK hP 0 rfl rfl 27 (by decide) k7 (fun _ h9 => h9) rfl d_m1192_184 ?_
              refine lv_ishl hx hb d_m1192_187 ?_
              refine lv_ineg hx hb d_m1192_188 ?_
              exact J5_189 z2.1 z2.2.1 z2.2.2.1 z2.2.2.2.1 z2.2.2.2.2.1 z2.2.2.2.2.2 (((64 : Int32) * ((mo_base p0.toNatClampNeg) + p1)) + z2.1) (-((1 : Int32) <<< (mo_bits &&& 31))) hf H locs ls hP hD hS (lv_sub hl [2, 3, 4, 0] rfl)
            · replace hf := (if_pos hc).symm.trans hf
              refine lv_iconst (v := (1 : Int32)) hx hb d_m1192_173 (by decide) ?_
              refine lv_aload_n hx hb d_m1192_174 rfl (lv_at hl 2 rfl) ?_
              refine va_get (D := (dC, dI)) (ci := 11) (v := .int mo_bits) (C := "ScanCoderModel") (T := T_11) (N := 49) hx hb hts n0 hown hK hP 0 rfl rfl 27 (by decide) k7 (fun _ h9 => h9) rfl d_m1192_175 ?_
              refine lv_ishl hx hb d_m1192_178 ?_
              refine lv_goto (tgt := 189) hx hb d_m1192_179 (by decide) ?_
              exact J5_189 z2.1 z2.2.1 z2.2.2.1 z2.2.2.2.1 z2.2.2.2.2.1 z2.2.2.2.2.2 (((64 : Int32) * ((mo_base p0.toNatClampNeg) + p1)) + z2.1) ((1 : Int32) <<< (mo_bits &&& 31)) hf H locs ls hP hD hS (lv_sub hl [2, 3, 4, 0] rfl)
      have J5_111 : ∀ (v5_j111 : Int32) (v6_j111 : Int32) (mo_at_j111 : Int32) (mo_taken_j111 : Int32) (mo_left_j111 : Int32) (mo_fault_j111 : Int32), f_M_readMore_J5_111 N (f_M_readMore_L5 mo_last p0 mo_otherOf mo_size mo_lengths mo_codes mo_data p1 mo_bits mo_base N k) v6_j111 mo_size mo_at_j111 mo_taken_j111 mo_left_j111 mo_fault_j111 mo_data p0 p1 v3_5 v5_j111 mo_last mo_bits mo_base mo_coefficients_5 mo_run_5 = some z → GW (dC, dI) A p l e (headSpec ws_m1192 rm_M_readMore).room s m args below meth c 0 0 Q 8 111 (w_M_readMore cI cB cS cT a_mo a_mo_base a_mo_coefficients a_mo_lengths a_mo_codes a_mo_otherOf a_mo_data a_mo_h a_mo_v a_mo_across a_mo_down a_mo_ownAcross a_mo_ownDown a_mo_before0 a_mo_draftCounts a_mo_draft a_mo_words a_mo_directOf a_mo_out a_mo_times a_mo_prediction a_mo_runBits a_mo_toCome a_mo_timesKept mo_thrown mo_width mo_height mo_many mo_unitsAcross mo_unitsDown mo_drafts mo_mask mo_first mo_last mo_before mo_bits mo_interval mo_size mo_outs mo_part mo_parted mo_failed mo_counting mo_run_5 mo_runMany mo_comes mo_at_j111 mo_taken_j111 mo_left_j111 mo_fault_j111 mo_base mo_coefficients_5 mo_lengths mo_codes mo_otherOf mo_data) [(0, .ref a_mo), (1, .int p0), (2, .int p1), (3, .int v3_5), (5, .int v5_j111), (6, .int v6_j111)] [] := by
        intro v5_j111 v6_j111 mo_at_j111 mo_taken_j111 mo_left_j111 mo_fault_j111 hf H locs ls hP hD hS hl
        unfold f_M_readMore_J5_111 at hf
        refine lv_iload hx hb d_m1192_111 (lv_at hl 5 rfl) ?_
        refine lv_iconst (v := (1 : Int32)) hx hb d_m1192_113 (by decide) ?_
        refine lv_icmp_ne (tgt := 124) hx hb d_m1192_114 (by decide) (fun hc => ?_) (fun hc => ?_)
        · replace hf := (if_neg hc).symm.trans hf
          refine lv_iconst (v := (0 : Int32)) hx hb d_m1192_124 (by decide) ?_
          exact J5_125 v5_j111 v6_j111 mo_at_j111 mo_taken_j111 mo_left_j111 mo_fault_j111 (0 : Int32) hf H locs ls hP hD hS hl
        · replace hf := (if_pos hc).symm.trans hf
          refine lv_aload_n hx hb d_m1192_117 rfl (lv_at hl 0 rfl) ?_
          obtain ⟨z3, hz3, hf⟩ := ob_bind hf
          refine g_calli (wc := (w_M_take cI cB cS cT a_mo a_mo_data a_mo_h a_mo_v a_mo_across a_mo_down a_mo_ownAcross a_mo_ownDown a_mo_base a_mo_coefficients a_mo_before0 a_mo_draftCounts a_mo_draft a_mo_words a_mo_lengths a_mo_codes a_mo_directOf a_mo_otherOf a_mo_out a_mo_times a_mo_prediction a_mo_runBits a_mo_toCome a_mo_timesKept mo_thrown mo_width mo_height mo_many mo_unitsAcross mo_unitsDown mo_drafts mo_mask mo_first mo_last mo_before mo_bits mo_interval mo_size mo_outs mo_part mo_parted mo_failed mo_counting mo_run_5 mo_runMany mo_comes mo_at_j111 mo_taken_j111 mo_left_j111 mo_fault_j111 mo_data)) (w1 := (w_M_take cI cB cS cT a_mo a_mo_data a_mo_h a_mo_v a_mo_across a_mo_down a_mo_ownAcross a_mo_ownDown a_mo_base a_mo_coefficients a_mo_before0 a_mo_draftCounts a_mo_draft a_mo_words a_mo_lengths a_mo_codes a_mo_directOf a_mo_otherOf a_mo_out a_mo_times a_mo_prediction a_mo_runBits a_mo_toCome a_mo_timesKept mo_thrown mo_width mo_height mo_many mo_unitsAcross mo_unitsDown mo_drafts mo_mask mo_first mo_last mo_before mo_bits mo_interval mo_size mo_outs mo_part mo_parted mo_failed mo_counting mo_run_5 mo_runMany mo_comes z3.2.1 z3.2.2.1 z3.2.2.2.1 z3.2.2.2.2 mo_data)) (w2 := (w_M_readMore cI cB cS cT a_mo a_mo_base a_mo_coefficients a_mo_lengths a_mo_codes a_mo_otherOf a_mo_data a_mo_h a_mo_v a_mo_across a_mo_down a_mo_ownAcross a_mo_ownDown a_mo_before0 a_mo_draftCounts a_mo_draft a_mo_words a_mo_directOf a_mo_out a_mo_times a_mo_prediction a_mo_runBits a_mo_toCome a_mo_timesKept mo_thrown mo_width mo_height mo_many mo_unitsAcross mo_unitsDown mo_drafts mo_mask mo_first mo_last mo_before mo_bits mo_interval mo_size mo_outs mo_part mo_parted mo_failed mo_counting mo_run_5 mo_runMany mo_comes z3.2.1 z3.2.2.1 z3.2.2.2.1 z3.2.2.2.2 mo_base mo_coefficients_5 mo_lengths mo_codes mo_otherOf mo_data)) [0, 6] [some 0, none, none, none, none, none, some 1] hP hD hS hA rfl rfl rfl rfl (va_runV (As := []) (rest := []) ⟨hx, hb, hml, hown, hts⟩ (c_M_take l dC dI cI cB cS cT a_mo a_mo_data a_mo_h a_mo_v a_mo_across a_mo_down a_mo_ownAcross a_mo_ownDown a_mo_base a_mo_coefficients a_mo_before0 a_mo_draftCounts a_mo_draft a_mo_words a_mo_lengths a_mo_codes a_mo_directOf a_mo_otherOf a_mo_out a_mo_times a_mo_prediction a_mo_runBits a_mo_toCome a_mo_timesKept mo_thrown mo_width mo_height mo_many mo_unitsAcross mo_unitsDown mo_drafts mo_mask mo_first mo_last mo_before mo_bits mo_interval mo_size mo_outs mo_part mo_parted mo_failed mo_counting mo_run_5 mo_runMany mo_comes mo_at_j111 mo_taken_j111 mo_left_j111 mo_fault_j111 mo_data H.size z3 hz3) ⟨(callB_of 0 hts (gi tw_1168 rfl) rfl rfl rfl (hts _ (List.mem_cons_of_mem _ tw_16)) (hts _ (List.mem_cons_of_mem _ tw_1165)) (by decide +kernel) ⟨Nat.le_of_ble_eq_true rfl, Nat.le_of_ble_eq_true rfl⟩), hts _ (List.mem_cons_of_mem _ tw_1167), hts _ (List.mem_cons_of_mem _ ts_m1168)⟩ ⟨g_blind, va_recv hK hP (ci := 11) (q0 := 0) rfl rfl, g_at hKN (g_pm hP [0, 6] rfl) (hD.sub [0, 6] (by decide) rfl)⟩ rfl rfl hl.1 rfl (lv_room (Nat.le_of_ble_eq_true rfl)) d_m1192_118 ⟨Nat.zero_le _, Nat.zero_le _⟩) (fun H locs hP hD hS => ?_)
          refine W.eq (g2 := F0 m 121 ls [.int z3.1]) rfl ?_
          refine lv_goto (tgt := 125) hx hb d_m1192_121 (by decide) ?_
          exact J5_125 v5_j111 v6_j111 z3.2.1 z3.2.2.1 z3.2.2.2.1 z3.2.2.2.2 z3.1 hf H locs ls hP hD hS hl
      have J5_73 : ∀ (v5_j73 : Int32) (v6_j73 : Int32) (mo_at_j73 : Int32) (mo_taken_j73 : Int32) (mo_left_j73 : Int32) (mo_fault_j73 : Int32), f_M_readMore_J5_73 N (f_M_readMore_L5 mo_last p0 mo_otherOf mo_size mo_lengths mo_codes mo_data p1 mo_bits mo_base N k) mo_fault_j73 v6_j73 v5_j73 mo_size mo_at_j73 mo_taken_j73 mo_left_j73 mo_data p0 p1 v3_5 mo_last mo_bits mo_base mo_coefficients_5 mo_run_5 = some z → GW (dC, dI) A p l e (headSpec ws_m1192 rm_M_readMore).room s m args below meth c 0 0 Q 8 73 (w_M_readMore cI cB cS cT a_mo a_mo_base a_mo_coefficients a_mo_lengths a_mo_codes a_mo_otherOf a_mo_data a_mo_h a_mo_v a_mo_across a_mo_down a_mo_ownAcross a_mo_ownDown a_mo_before0 a_mo_draftCounts a_mo_draft a_mo_words a_mo_directOf a_mo_out a_mo_times a_mo_prediction a_mo_runBits a_mo_toCome a_mo_timesKept mo_thrown mo_width mo_height mo_many mo_unitsAcross mo_unitsDown mo_drafts mo_mask mo_first mo_last mo_before mo_bits mo_interval mo_size mo_outs mo_part mo_parted mo_failed mo_counting mo_run_5 mo_runMany mo_comes mo_at_j73 mo_taken_j73 mo_left_j73 mo_fault_j73 mo_base mo_coefficients_5 mo_lengths mo_codes mo_otherOf mo_data) [(0, .ref a_mo), (1, .int p0), (2, .int p1), (3, .int v3_5), (5, .int v5_j73), (6, .int v6_j73)] [] := by
        intro v5_j73 v6_j73 mo_at_j73 mo_taken_j73 mo_left_j73 mo_fault_j73 hf H locs ls hP hD hS hl
        unfold f_M_readMore_J5_73 at hf
        refine lv_aload_n hx hb d_m1192_73 rfl (lv_at hl 0 rfl) ?_
        refine va_get (D := (dC, dI)) (ci := 11) (v := .int mo_fault_j73) (C := "ScanCoderModel") (T := T_11) (N := 49) hx hb hts n0 hown hK hP 0 rfl rfl 47 (by decide) k3 (fun _ h9 => h9) rfl d_m1192_74 ?_
        refine lv_if_le (tgt := 81) hx hb d_m1192_77 (by decide) (fun hc => ?_) (fun hc => ?_)
        · replace hf := (if_pos hc).symm.trans hf
          refine lv_iload hx hb d_m1192_81 (lv_at hl 5 rfl) ?_
          refine lv_if_ne (tgt := 111) hx hb d_m1192_83 (by decide) (fun hc => ?_) (fun hc => ?_)
          · replace hf := (if_neg hc).symm.trans hf
            exact J5_111 v5_j73 v6_j73 mo_at_j73 mo_taken_j73 mo_left_j73 mo_fault_j73 hf H locs ls hP hD hS hl
          · replace hf := (if_pos hc).symm.trans hf
            refine lv_iload hx hb d_m1192_86 (lv_at hl 4 rfl) ?_
            refine lv_bipush (v := (15 : Int32)) hx hb d_m1192_88 (by decide) ?_
            refine lv_icmp_ge (tgt := 111) hx hb d_m1192_90 (by decide) (fun hc => ?_) (fun hc => ?_)
            · replace hf := (if_pos hc).symm.trans hf
              exact J5_111 v5_j73 v6_j73 mo_at_j73 mo_taken_j73 mo_left_j73 mo_fault_j73 hf H locs ls hP hD hS hl
            · replace hf := (if_neg hc).symm.trans hf
              refine lv_aload_n hx hb d_m1192_93 rfl (lv_at hl 0 rfl) ?_
              refine lv_iconst (v := (1 : Int32)) hx hb d_m1192_94 (by decide) ?_
              refine lv_iload hx hb d_m1192_95 (lv_at hl 4 rfl) ?_
              refine lv_ishl hx hb d_m1192_97 ?_
              refine lv_aload_n hx hb d_m1192_98 rfl (lv_at hl 0 rfl) ?_
              refine lv_iload hx hb d_m1192_99 (lv_at hl 4 rfl) ?_
              obtain ⟨z4, hz4, hf⟩ := ob_bind hf
              refine g_calli (wc := (w_M_takes cI cB cS cT a_mo a_mo_data a_mo_h a_mo_v a_mo_across a_mo_down a_mo_ownAcross a_mo_ownDown a_mo_base a_mo_coefficients a_mo_before0 a_mo_draftCounts a_mo_draft a_mo_words a_mo_lengths a_mo_codes a_mo_directOf a_mo_otherOf a_mo_out a_mo_times a_mo_prediction a_mo_runBits a_mo_toCome a_mo_timesKept mo_thrown mo_width mo_height mo_many mo_unitsAcross mo_unitsDown mo_drafts mo_mask mo_first mo_last mo_before mo_bits mo_interval mo_size mo_outs mo_part mo_parted mo_failed mo_counting mo_run_5 mo_runMany mo_comes mo_at_j73 mo_taken_j73 mo_left_j73 mo_fault_j73 mo_data)) (w1 := (w_M_takes cI cB cS cT a_mo a_mo_data a_mo_h a_mo_v a_mo_across a_mo_down a_mo_ownAcross a_mo_ownDown a_mo_base a_mo_coefficients a_mo_before0 a_mo_draftCounts a_mo_draft a_mo_words a_mo_lengths a_mo_codes a_mo_directOf a_mo_otherOf a_mo_out a_mo_times a_mo_prediction a_mo_runBits a_mo_toCome a_mo_timesKept mo_thrown mo_width mo_height mo_many mo_unitsAcross mo_unitsDown mo_drafts mo_mask mo_first mo_last mo_before mo_bits mo_interval mo_size mo_outs mo_part mo_parted mo_failed mo_counting mo_run_5 mo_runMany mo_comes z4.2.1 z4.2.2.1 z4.2.2.2.1 z4.2.2.2.2 mo_data)) (w2 := (w_M_readMore cI cB cS cT a_mo a_mo_base a_mo_coefficients a_mo_lengths a_mo_codes a_mo_otherOf a_mo_data a_mo_h a_mo_v a_mo_across a_mo_down a_mo_ownAcross a_mo_ownDown a_mo_before0 a_mo_draftCounts a_mo_draft a_mo_words a_mo_directOf a_mo_out a_mo_times a_mo_prediction a_mo_runBits a_mo_toCome a_mo_timesKept mo_thrown mo_width mo_height mo_many mo_unitsAcross mo_unitsDown mo_drafts mo_mask mo_first mo_last mo_before mo_bits mo_interval mo_size mo_outs mo_part mo_parted mo_failed mo_counting mo_run_5 mo_runMany mo_comes z4.2.1 z4.2.2.1 z4.2.2.2.1 z4.2.2.2.2 mo_base mo_coefficients_5 mo_lengths mo_codes mo_otherOf mo_data)) [0, 6] [some 0, none, none, none, none, none, some 1] hP hD hS hA rfl rfl rfl rfl (va_runV (As := [.int v5_j73]) (rest := [.int ((1 : Int32) <<< (v5_j73 &&& 31)), .ref a_mo]) ⟨hx, hb, hml, hown, hts⟩ (c_M_takes l dC dI cI cB cS cT N a_mo a_mo_data a_mo_h a_mo_v a_mo_across a_mo_down a_mo_ownAcross a_mo_ownDown a_mo_base a_mo_coefficients a_mo_before0 a_mo_draftCounts a_mo_draft a_mo_words a_mo_lengths a_mo_codes a_mo_directOf a_mo_otherOf a_mo_out a_mo_times a_mo_prediction a_mo_runBits a_mo_toCome a_mo_timesKept mo_thrown mo_width mo_height mo_many mo_unitsAcross mo_unitsDown mo_drafts mo_mask mo_first mo_last mo_before mo_bits mo_interval mo_size mo_outs mo_part mo_parted mo_failed mo_counting mo_run_5 mo_runMany mo_comes mo_at_j73 mo_taken_j73 mo_left_j73 mo_fault_j73 mo_data v5_j73 H.size z4 hz4) ⟨(callB_of 1 hts (gi tw_1180 rfl) rfl rfl rfl (hts _ (List.mem_cons_of_mem _ tw_16)) (hts _ (List.mem_cons_of_mem _ tw_1177)) (by decide +kernel) ⟨Nat.le_of_ble_eq_true rfl, Nat.le_of_ble_eq_true rfl⟩), hts _ (List.mem_cons_of_mem _ tw_1179), hts _ (List.mem_cons_of_mem _ ts_m1180)⟩ ⟨g_blind, va_recv hK hP (ci := 11) (q0 := 0) rfl rfl, g_at hKN (g_pm hP [0, 6] rfl) (hD.sub [0, 6] (by decide) rfl)⟩ rfl rfl hl.1 rfl (lv_room (Nat.le_of_ble_eq_true rfl)) d_m1192_101 ⟨Nat.zero_le _, Nat.zero_le _⟩) (fun H locs hP hD hS => ?_)
              refine W.eq (g2 := F0 m 104 ls [.int z4.1, .int ((1 : Int32) <<< (v5_j73 &&& 31)), .ref a_mo]) rfl ?_
              refine lv_iadd hx hb d_m1192_104 ?_
              refine va_put (D := (dC, dI)) (ci := 11) (v := .int (((1 : Int32) <<< (v5_j73 &&& 31)) + z4.1)) (ty := .int) (C := "ScanCoderModel") (T := T_11) (N := 49) hx hb hts n0 ty_11 tyok_11 nm_11 hown hK hP hD hS 0 rfl rfl 39 (by decide) k2 (fun _ h9 => h9) rfl (by decide +kernel) rfl rfl (Nat.le_of_ble_eq_true rfl) d_m1192_105 (fun H locs hP hD hS => ?_)
              have hP : va_P (dC, dI) vwCl (w_M_readMore cI cB cS cT a_mo a_mo_base a_mo_coefficients a_mo_lengths a_mo_codes a_mo_otherOf a_mo_data a_mo_h a_mo_v a_mo_across a_mo_down a_mo_ownAcross a_mo_ownDown a_mo_before0 a_mo_draftCounts a_mo_draft a_mo_words a_mo_directOf a_mo_out a_mo_times a_mo_prediction a_mo_runBits a_mo_toCome a_mo_timesKept mo_thrown mo_width mo_height mo_many mo_unitsAcross mo_unitsDown mo_drafts mo_mask mo_first mo_last mo_before mo_bits mo_interval mo_size mo_outs mo_part mo_parted mo_failed mo_counting (((1 : Int32) <<< (v5_j73 &&& 31)) + z4.1) mo_runMany mo_comes z4.2.1 z4.2.2.1 z4.2.2.2.1 z4.2.2.2.2 mo_base mo_coefficients_5 mo_lengths mo_codes mo_otherOf mo_data) H := hP
              have hD : va_D A (w_M_readMore cI cB cS cT a_mo a_mo_base a_mo_coefficients a_mo_lengths a_mo_codes a_mo_otherOf a_mo_data a_mo_h a_mo_v a_mo_across a_mo_down a_mo_ownAcross a_mo_ownDown a_mo_before0 a_mo_draftCounts a_mo_draft a_mo_words a_mo_directOf a_mo_out a_mo_times a_mo_prediction a_mo_runBits a_mo_toCome a_mo_timesKept mo_thrown mo_width mo_height mo_many mo_unitsAcross mo_unitsDown mo_drafts mo_mask mo_first mo_last mo_before mo_bits mo_interval mo_size mo_outs mo_part mo_parted mo_failed mo_counting (((1 : Int32) <<< (v5_j73 &&& 31)) + z4.1) mo_runMany mo_comes z4.2.1 z4.2.2.1 z4.2.2.2.1 z4.2.2.2.2 mo_base mo_coefficients_5 mo_lengths mo_codes mo_otherOf mo_data) := hD
              refine lv_goto (tgt := 194) hx hb d_m1192_108 (by decide) ?_
              exact J5_194 v3_5 (((1 : Int32) <<< (v5_j73 &&& 31)) + z4.1) z4.2.1 z4.2.2.1 z4.2.2.2.1 z4.2.2.2.2 mo_coefficients_5 hf H locs ls hP hD hS (lv_sub hl [0, 1, 2, 3] rfl)
        · replace hf := (if_neg hc).symm.trans hf
          obtain rfl := Option.some.inj hf
          exact hE0 rfl  H locs ls hP hD hS (lv_sub hl [] rfl)
      have hf : f_M_readMore_L5b mo_last p0 mo_otherOf mo_size mo_lengths mo_codes mo_data p1 mo_bits mo_base N (f_M_readMore_L5 mo_last p0 mo_otherOf mo_size mo_lengths mo_codes mo_data p1 mo_bits mo_base N k) v3_5 mo_run_5 mo_at_5 mo_taken_5 mo_left_5 mo_fault_5 mo_coefficients_5 = some z := hf
      unfold f_M_readMore_L5b at hf
      refine lv_iload_n hx hb d_m1192_5 rfl (lv_at hl 3 rfl) ?_
      refine lv_aload_n hx hb d_m1192_6 rfl (lv_at hl 0 rfl) ?_
      refine va_get (D := (dC, dI)) (ci := 11) (v := .int mo_last) (C := "ScanCoderModel") (T := T_11) (N := 49) hx hb hts n0 hown hK hP 0 rfl rfl 25 (by decide) k1 (fun _ h9 => h9) rfl d_m1192_7 ?_
      refine lv_icmp_gt (tgt := 197) hx hb d_m1192_10 (by decide) (fun hc => ?_) (fun hc => ?_)
      · replace hf := (if_pos hc).symm.trans hf
        obtain rfl := Option.some.inj hf
        exact hE1 rfl  H locs ls hP hD hS hl
      · replace hf := (if_neg hc).symm.trans hf
        refine lv_aload_n hx hb d_m1192_13 rfl (lv_at hl 0 rfl) ?_
        refine va_get (D := (dC, dI)) (ci := 11) (v := .int mo_run_5) (C := "ScanCoderModel") (T := T_11) (N := 49) hx hb hts n0 hown hK hP 0 rfl rfl 39 (by decide) k2 (fun _ h9 => h9) rfl d_m1192_14 ?_
        refine lv_if_ne (tgt := 197) hx hb d_m1192_17 (by decide) (fun hc => ?_) (fun hc => ?_)
        · replace hf := (if_neg hc).symm.trans hf
          obtain rfl := Option.some.inj hf
          exact hE1 rfl  H locs ls hP hD hS hl
        · replace hf := (if_pos hc).symm.trans hf
          refine lv_aload_n hx hb d_m1192_20 rfl (lv_at hl 0 rfl) ?_
          refine va_get (D := (dC, dI)) (ci := 11) (v := .int mo_fault_5) (C := "ScanCoderModel") (T := T_11) (N := 49) hx hb hts n0 hown hK hP 0 rfl rfl 47 (by decide) k3 (fun _ h9 => h9) rfl d_m1192_21 ?_
          refine lv_if_ne (tgt := 197) hx hb d_m1192_24 (by decide) (fun hc => ?_) (fun hc => ?_)
          · replace hf := (if_neg hc).symm.trans hf
            obtain rfl := Option.some.inj hf
            exact hE1 rfl  H locs ls hP hD hS hl
          · replace hf := (if_pos hc).symm.trans hf
            refine lv_aload_n hx hb d_m1192_27 rfl (lv_at hl 0 rfl) ?_
            refine lv_aload_n hx hb d_m1192_28 rfl (lv_at hl 0 rfl) ?_
            refine va_get (D := (dC, dI)) (ci := 11) (v := .ref a_mo_otherOf) (C := "ScanCoderModel") (T := T_11) (N := 49) hx hb hts n0 hown hK hP 0 rfl rfl 22 (by decide) k4 (fun _ h9 => h9) rfl d_m1192_29 ?_
            refine lv_iload_n hx hb d_m1192_32 rfl (lv_at hl 1 rfl) ?_
            obtain ⟨hi, hf⟩ := ob_if hf
            refine va_iald hx hb hK hP 5 0 rfl rfl hi d_m1192_33 ?_
            obtain ⟨z1, hz1, hf⟩ := ob_bind hf
            refine g_calli (wc := (w_M_symbol cI cB cS cT a_mo a_mo_lengths a_mo_codes a_mo_data a_mo_h a_mo_v a_mo_across a_mo_down a_mo_ownAcross a_mo_ownDown a_mo_base a_mo_coefficients a_mo_before0 a_mo_draftCounts a_mo_draft a_mo_words a_mo_directOf a_mo_otherOf a_mo_out a_mo_times a_mo_prediction a_mo_runBits a_mo_toCome a_mo_timesKept mo_thrown mo_width mo_height mo_many mo_unitsAcross mo_unitsDown mo_drafts mo_mask mo_first mo_last mo_before mo_bits mo_interval mo_size mo_outs mo_part mo_parted mo_failed mo_counting mo_run_5 mo_runMany mo_comes mo_at_5 mo_taken_5 mo_left_5 mo_fault_5 mo_lengths mo_codes mo_data)) (w1 := (w_M_symbol cI cB cS cT a_mo a_mo_lengths a_mo_codes a_mo_data a_mo_h a_mo_v a_mo_across a_mo_down a_mo_ownAcross a_mo_ownDown a_mo_base a_mo_coefficients a_mo_before0 a_mo_draftCounts a_mo_draft a_mo_words a_mo_directOf a_mo_otherOf a_mo_out a_mo_times a_mo_prediction a_mo_runBits a_mo_toCome a_mo_timesKept mo_thrown mo_width mo_height mo_many mo_unitsAcross mo_unitsDown mo_drafts mo_mask mo_first mo_last mo_before mo_bits mo_interval mo_size mo_outs mo_part mo_parted mo_failed mo_counting mo_run_5 mo_runMany mo_comes z1.2.1 z1.2.2.1 z1.2.2.2.1 z1.2.2.2.2 mo_lengths mo_codes mo_data)) (w2 := (w_M_readMore cI cB cS cT a_mo a_mo_base a_mo_coefficients a_mo_lengths a_mo_codes a_mo_otherOf a_mo_data a_mo_h a_mo_v a_mo_across a_mo_down a_mo_ownAcross a_mo_ownDown a_mo_before0 a_mo_draftCounts a_mo_draft a_mo_words a_mo_directOf a_mo_out a_mo_times a_mo_prediction a_mo_runBits a_mo_toCome a_mo_timesKept mo_thrown mo_width mo_height mo_many mo_unitsAcross mo_unitsDown mo_drafts mo_mask mo_first mo_last mo_before mo_bits mo_interval mo_size mo_outs mo_part mo_parted mo_failed mo_counting mo_run_5 mo_runMany mo_comes z1.2.1 z1.2.2.1 z1.2.2.2.1 z1.2.2.2.2 mo_base mo_coefficients_5 mo_lengths mo_codes mo_otherOf mo_data)) [0, 3, 4, 6] [some 0, none, none, some 1, some 2, none, some 3] hP hD hS hA rfl rfl rfl rfl (va_runV (As := [.int (mo_otherOf p0.toNatClampNeg)]) (rest := []) ⟨hx, hb, hml, hown, hts⟩ (c_M_symbol l dC dI cI cB cS cT N a_mo a_mo_lengths a_mo_codes a_mo_data a_mo_h a_mo_v a_mo_across a_mo_down a_mo_ownAcross a_mo_ownDown a_mo_base a_mo_coefficients a_mo_before0 a_mo_draftCounts a_mo_draft a_mo_words a_mo_directOf a_mo_otherOf a_mo_out a_mo_times a_mo_prediction a_mo_runBits a_mo_toCome a_mo_timesKept mo_thrown mo_width mo_height mo_many mo_unitsAcross mo_unitsDown mo_drafts mo_mask mo_first mo_last mo_before mo_bits mo_interval mo_size mo_outs mo_part mo_parted mo_failed mo_counting mo_run_5 mo_runMany mo_comes mo_at_5 mo_taken_5 mo_left_5 mo_fault_5 mo_lengths mo_codes mo_data (mo_otherOf p0.toNatClampNeg) H.size z1 hz1) ⟨(callB_of 1 hts (gi tw_1172 rfl) rfl rfl rfl (hts _ (List.mem_cons_of_mem _ tw_16)) (hts _ (List.mem_cons_of_mem _ tw_1169)) (by decide +kernel) ⟨Nat.le_of_ble_eq_true rfl, Nat.le_of_ble_eq_true rfl⟩), hts _ (List.mem_cons_of_mem _ tw_1171), hts _ (List.mem_cons_of_mem _ ts_m1172)⟩ ⟨g_blind, va_recv hK hP (ci := 11) (q0 := 0) rfl rfl, g_at hKN (g_pm hP [0, 3, 4, 6] rfl) (hD.sub [0, 3, 4, 6] (by decide) rfl)⟩ rfl rfl hl.1 rfl (lv_room (Nat.le_of_ble_eq_true rfl)) d_m1192_34 ⟨Nat.zero_le _, Nat.zero_le _⟩) (fun H locs hP hD hS => ?_)
            refine W.eq (g2 := F0 m 37 ls [.int z1.1]) rfl ?_
            refine lv_istore (lv' := [(4, .int z1.1), (0, .ref a_mo), (1, .int p0), (2, .int p1), (3, .int v3_5)]) hx hb d_m1192_37 hl (by decide) rfl (fun ls hl => ?_)
            refine lv_iload hx hb d_m1192_39 (lv_at hl 0 rfl) ?_
            refine lv_bipush (v := (16 : Int32)) hx hb d_m1192_41 (by decide) ?_
            refine lv_idiv hx hb d_m1192_43 (by decide) ?_
            refine lv_istore (lv' := [(5, .int (z1.1 / (16 : Int32))), (4, .int z1.1), (0, .ref a_mo), (1, .int p0), (2, .int p1), (3, .int v3_5)]) hx hb d_m1192_44 hl (by decide) rfl (fun ls hl => ?_)
            refine lv_iload hx hb d_m1192_46 (lv_at hl 1 rfl) ?_
            refine lv_bipush (v := (16 : Int32)) hx hb d_m1192_48 (by decide) ?_
            refine lv_irem hx hb d_m1192_50 (by decide) ?_
            refine lv_istore (lv' := [(6, .int (z1.1 - z1.1 / (16 : Int32) * (16 : Int32))), (5, .int (z1.1 / (16 : Int32))), (4, .int z1.1), (0, .ref a_mo), (1, .int p0), (2, .int p1), (3, .int v3_5)]) hx hb d_m1192_51 hl (by decide) rfl (fun ls hl => ?_)
            refine lv_aload_n hx hb d_m1192_53 rfl (lv_at hl 3 rfl) ?_
            refine va_get (D := (dC, dI)) (ci := 11) (v := .int z1.2.2.2.2) (C := "ScanCoderModel") (T := T_11) (N := 49) hx hb hts n0 hown hK hP 0 rfl rfl 47 (by decide) k3 (fun _ h9 => h9) rfl d_m1192_54 ?_
            refine lv_if_ne (tgt := 73) hx hb d_m1192_57 (by decide) (fun hc => ?_) (fun hc => ?_)
            · replace hf := (if_neg hc).symm.trans hf
              exact J5_73 (z1.1 / (16 : Int32)) (z1.1 - z1.1 / (16 : Int32) * (16 : Int32)) z1.2.1 z1.2.2.1 z1.2.2.2.1 z1.2.2.2.2 hf H locs ls hP hD hS (lv_sub hl [3, 4, 5, 6, 1, 0] rfl)
            · replace hf := (if_pos hc).symm.trans hf
              refine lv_iload hx hb d_m1192_60 (lv_at hl 0 rfl) ?_
              refine lv_iconst (v := (1 : Int32)) hx hb d_m1192_62 (by decide) ?_
              refine lv_icmp_le (tgt := 73) hx hb d_m1192_63 (by decide) (fun hc => ?_) (fun hc => ?_)
              · replace hf := (if_pos hc).symm.trans hf
                exact J5_73 (z1.1 / (16 : Int32)) (z1.1 - z1.1 / (16 : Int32) * (16 : Int32)) z1.2.1 z1.2.2.1 z1.2.2.2.1 z1.2.2.2.2 hf H locs ls hP hD hS (lv_sub hl [3, 4, 5, 6, 1, 0] rfl)
              · replace hf := (if_neg hc).symm.trans hf
                refine lv_aload_n hx hb d_m1192_66 rfl (lv_at hl 3 rfl) ?_
                refine lv_iconst (v := (3 : Int32)) hx hb d_m1192_67 (by decide) ?_
                obtain ⟨z5, hz5, hf⟩ := ob_bind hf
                refine g_calli (wc := (w_M_wrong cI cB cS cT a_mo a_mo_h a_mo_v a_mo_across a_mo_down a_mo_ownAcross a_mo_ownDown a_mo_base a_mo_coefficients a_mo_before0 a_mo_draftCounts a_mo_draft a_mo_words a_mo_lengths a_mo_codes a_mo_directOf a_mo_otherOf a_mo_data a_mo_out a_mo_times a_mo_prediction a_mo_runBits a_mo_toCome a_mo_timesKept mo_thrown mo_width mo_height mo_many mo_unitsAcross mo_unitsDown mo_drafts mo_mask mo_first mo_last mo_before mo_bits mo_interval mo_size mo_outs mo_part mo_parted mo_failed mo_counting mo_run_5 mo_runMany mo_comes z1.2.1 z1.2.2.1 z1.2.2.2.1 z1.2.2.2.2)) (w1 := (w_M_wrong cI cB cS cT a_mo a_mo_h a_mo_v a_mo_across a_mo_down a_mo_ownAcross a_mo_ownDown a_mo_base a_mo_coefficients a_mo_before0 a_mo_draftCounts a_mo_draft a_mo_words a_mo_lengths a_mo_codes a_mo_directOf a_mo_otherOf a_mo_data a_mo_out a_mo_times a_mo_prediction a_mo_runBits a_mo_toCome a_mo_timesKept mo_thrown mo_width mo_height mo_many mo_unitsAcross mo_unitsDown mo_drafts mo_mask mo_first mo_last mo_before mo_bits mo_interval mo_size mo_outs mo_part mo_parted mo_failed mo_counting mo_run_5 mo_runMany mo_comes z1.2.1 z1.2.2.1 z1.2.2.2.1 z5.2)) (w2 := (w_M_readMore cI cB cS cT a_mo a_mo_base a_mo_coefficients a_mo_lengths a_mo_codes a_mo_otherOf a_mo_data a_mo_h a_mo_v a_mo_across a_mo_down a_mo_ownAcross a_mo_ownDown a_mo_before0 a_mo_draftCounts a_mo_draft a_mo_words a_mo_directOf a_mo_out a_mo_times a_mo_prediction a_mo_runBits a_mo_toCome a_mo_timesKept mo_thrown mo_width mo_height mo_many mo_unitsAcross mo_unitsDown mo_drafts mo_mask mo_first mo_last mo_before mo_bits mo_interval mo_size mo_outs mo_part mo_parted mo_failed mo_counting mo_run_5 mo_runMany mo_comes z1.2.1 z1.2.2.1 z1.2.2.2.1 z5.2 mo_base mo_coefficients_5 mo_lengths mo_codes mo_otherOf mo_data)) [0] [some 0, none, none, none, none, none, none] hP hD hS hA rfl rfl rfl rfl (va_runV (As := [.int (3 : Int32)]) (rest := []) ⟨hx, hb, hml, hown, hts⟩ (c_M_wrong l dC dI cI cB cS cT a_mo a_mo_h a_mo_v a_mo_across a_mo_down a_mo_ownAcross a_mo_ownDown a_mo_base a_mo_coefficients a_mo_before0 a_mo_draftCounts a_mo_draft a_mo_words a_mo_lengths a_mo_codes a_mo_directOf a_mo_otherOf a_mo_data a_mo_out a_mo_times a_mo_prediction a_mo_runBits a_mo_toCome a_mo_timesKept mo_thrown mo_width mo_height mo_many mo_unitsAcross mo_unitsDown mo_drafts mo_mask mo_first mo_last mo_before mo_bits mo_interval mo_size mo_outs mo_part mo_parted mo_failed mo_counting mo_run_5 mo_runMany mo_comes z1.2.1 z1.2.2.1 z1.2.2.2.1 z1.2.2.2.2 (3 : Int32) H.size z5 hz5) ⟨(callB_of 1 hts (gi tw_1156 rfl) rfl rfl rfl (hts _ (List.mem_cons_of_mem _ tw_16)) (hts _ (List.mem_cons_of_mem _ tw_1153)) (by decide +kernel) ⟨Nat.le_of_ble_eq_true rfl, Nat.le_of_ble_eq_true rfl⟩), hts _ (List.mem_cons_of_mem _ tw_1155), hts _ (List.mem_cons_of_mem _ ts_m1156)⟩ ⟨g_blind, va_recv hK hP (ci := 11) (q0 := 0) rfl rfl, g_at hKN (g_pm hP [0] rfl) (hD.sub [0] (by decide) rfl)⟩ rfl rfl hl.1 rfl (lv_room (Nat.le_of_ble_eq_true rfl)) d_m1192_68 ⟨Nat.zero_le _, Nat.zero_le _⟩) (fun H locs hP hD hS => ?_)
                refine W.eq (g2 := F0 m 71 ls [.int z5.1]) rfl ?_
                refine lv_istore (lv' := [(7, .int z5.1), (6, .int (z1.1 - z1.1 / (16 : Int32) * (16 : Int32))), (5, .int (z1.1 / (16 : Int32))), (4, .int z1.1), (0, .ref a_mo), (1, .int p0), (2, .int p1), (3, .int v3_5)]) hx hb d_m1192_71 hl (by decide) rfl (fun ls hl => ?_)
                exact J5_73 (z1.1 / (16 : Int32)) (z1.1 - z1.1 / (16 : Int32) * (16 : Int32)) z1.2.1 z1.2.2.1 z1.2.2.2.1 z5.2 hf H locs ls hP hD hS (lv_sub hl [4, 5, 6, 7, 2, 1] rfl)
  have L204 : ∀ (mo_run_204 : Int32) (z : Int32 × Int32 × Int32 × Int32 × (Nat → Int32)), (GW (dC, dI) A p l e (headSpec ws_m1192 rm_M_readMore).room s m args below meth c 0 0 Q 8 253 (w_M_readMore cI cB cS cT a_mo a_mo_base a_mo_coefficients a_mo_lengths a_mo_codes a_mo_otherOf a_mo_data a_mo_h a_mo_v a_mo_across a_mo_down a_mo_ownAcross a_mo_ownDown a_mo_before0 a_mo_draftCounts a_mo_draft a_mo_words a_mo_directOf a_mo_out a_mo_times a_mo_prediction a_mo_runBits a_mo_toCome a_mo_timesKept mo_thrown mo_width mo_height mo_many mo_unitsAcross mo_unitsDown mo_drafts mo_mask mo_first mo_last mo_before mo_bits mo_interval mo_size mo_outs mo_part mo_parted mo_failed mo_counting mo_run_204 mo_runMany mo_comes z.1 z.2.1 z.2.2.1 z.2.2.2.1 mo_base z.2.2.2.2 mo_lengths mo_codes mo_otherOf mo_data) [(0, .ref a_mo)] []) → ∀ (k : Nat) (v3_204 : Int32) (mo_at_204 : Int32) (mo_taken_204 : Int32) (mo_left_204 : Int32) (mo_fault_204 : Int32) (mo_coefficients_204 : Nat → Int32), f_M_readMore_L204 mo_last p0 mo_base p1 mo_bits mo_size mo_data N k (v3_204, mo_at_204, mo_taken_204, mo_left_204, mo_fault_204, mo_coefficients_204) = some z → GW (dC, dI) A p l e (headSpec ws_m1192 rm_M_readMore).room s m args below meth c 0 0 Q 8 204 (w_M_readMore cI cB cS cT a_mo a_mo_base a_mo_coefficients a_mo_lengths a_mo_codes a_mo_otherOf a_mo_data a_mo_h a_mo_v a_mo_across a_mo_down a_mo_ownAcross a_mo_ownDown a_mo_before0 a_mo_draftCounts a_mo_draft a_mo_words a_mo_directOf a_mo_out a_mo_times a_mo_prediction a_mo_runBits a_mo_toCome a_mo_timesKept mo_thrown mo_width mo_height mo_many mo_unitsAcross mo_unitsDown mo_drafts mo_mask mo_first mo_last mo_before mo_bits mo_interval mo_size mo_outs mo_part mo_parted mo_failed mo_counting mo_run_204 mo_runMany mo_comes mo_at_204 mo_taken_204 mo_left_204 mo_fault_204 mo_base mo_coefficients_204 mo_lengths mo_codes mo_otherOf mo_data) [(0, .ref a_mo), (1, .int p0), (2, .int p1), (3, .int v3_204)] [] := by
    intro mo_run_204 z hE0 k
    induction k with
    | zero =>
      intro v3_204 mo_at_204 mo_taken_204 mo_left_204 mo_fault_204 mo_coefficients_204 hf
      exact (it_zero hf).elim
    | succ k ih =>
      intro v3_204 mo_at_204 mo_taken_204 mo_left_204 mo_fault_204 mo_coefficients_204 hf H locs ls hP hD hS hl
      have J204_247 : ∀ (mo_at_j247 : Int32) (mo_taken_j247 : Int32) (mo_left_j247 : Int32) (mo_fault_j247 : Int32) (mo_coefficients_j247 : Nat → Int32), f_M_readMore_J204_247 N (f_M_readMore_L204 mo_last p0 mo_base p1 mo_bits mo_size mo_data N k) v3_204 mo_at_j247 mo_taken_j247 mo_left_j247 mo_fault_j247 mo_coefficients_j247 = some z → GW (dC, dI) A p l e (headSpec ws_m1192 rm_M_readMore).room s m args below meth c 0 0 Q 8 247 (w_M_readMore cI cB cS cT a_mo a_mo_base a_mo_coefficients a_mo_lengths a_mo_codes a_mo_otherOf a_mo_data a_mo_h a_mo_v a_mo_across a_mo_down a_mo_ownAcross a_mo_ownDown a_mo_before0 a_mo_draftCounts a_mo_draft a_mo_words a_mo_directOf a_mo_out a_mo_times a_mo_prediction a_mo_runBits a_mo_toCome a_mo_timesKept mo_thrown mo_width mo_height mo_many mo_unitsAcross mo_unitsDown mo_drafts mo_mask mo_first mo_last mo_before mo_bits mo_interval mo_size mo_outs mo_part mo_parted mo_failed mo_counting mo_run_204 mo_runMany mo_comes mo_at_j247 mo_taken_j247 mo_left_j247 mo_fault_j247 mo_base mo_coefficients_j247 mo_lengths mo_codes mo_otherOf mo_data) [(0, .ref a_mo), (1, .int p0), (2, .int p1), (3, .int v3_204)] [] := by
        intro mo_at_j247 mo_taken_j247 mo_left_j247 mo_fault_j247 mo_coefficients_j247 hf H locs ls hP hD hS hl
        unfold f_M_readMore_J204_247 at hf
        refine lv_iinc (v := v3_204 + (1 : Int32)) (lv' := [(3, .int (v3_204 + (1 : Int32))), (0, .ref a_mo), (1, .int p0), (2, .int p1)]) hx hb d_m1192_247 hl (k := 3) rfl rfl (by decide) rfl (fun ls hl => ?_)
        refine lv_goto (tgt := 204) hx hb d_m1192_250 (by decide) ?_
        exact ih (v3_204 + (1 : Int32)) mo_at_j247 mo_taken_j247 mo_left_j247 mo_fault_j247 mo_coefficients_j247 hf H locs ls hP hD hS (lv_sub hl [1, 2, 3, 0] rfl)
      have hf : f_M_readMore_L204b mo_last p0 mo_base p1 mo_bits mo_size mo_data N (f_M_readMore_L204 mo_last p0 mo_base p1 mo_bits mo_size mo_data N k) v3_204 mo_at_204 mo_taken_204 mo_left_204 mo_fault_204 mo_coefficients_204 = some z := hf
      unfold f_M_readMore_L204b at hf
      refine lv_iload_n hx hb d_m1192_204 rfl (lv_at hl 3 rfl) ?_
      refine lv_aload_n hx hb d_m1192_205 rfl (lv_at hl 0 rfl) ?_
      refine va_get (D := (dC, dI)) (ci := 11) (v := .int mo_last) (C := "ScanCoderModel") (T := T_11) (N := 49) hx hb hts n0 hown hK hP 0 rfl rfl 25 (by decide) k1 (fun _ h9 => h9) rfl d_m1192_206 ?_
      refine lv_icmp_gt (tgt := 253) hx hb d_m1192_209 (by decide) (fun hc => ?_) (fun hc => ?_)
      · replace hf := (if_pos hc).symm.trans hf
        obtain rfl := Option.some.inj hf
        exact hE0  H locs ls hP hD hS (lv_sub hl [0] rfl)
      · replace hf := (if_neg hc).symm.trans hf
        refine lv_aload_n hx hb d_m1192_212 rfl (lv_at hl 0 rfl) ?_
        refine va_get (D := (dC, dI)) (ci := 11) (v := .int mo_fault_204) (C := "ScanCoderModel") (T := T_11) (N := 49) hx hb hts n0 hown hK hP 0 rfl rfl 47 (by decide) k3 (fun _ h9 => h9) rfl d_m1192_213 ?_
        refine lv_if_ne (tgt := 253) hx hb d_m1192_216 (by decide) (fun hc => ?_) (fun hc => ?_)
        · replace hf := (if_neg hc).symm.trans hf
          obtain rfl := Option.some.inj hf
          exact hE0  H locs ls hP hD hS (lv_sub hl [0] rfl)
        · replace hf := (if_pos hc).symm.trans hf
          refine lv_aload_n hx hb d_m1192_219 rfl (lv_at hl 0 rfl) ?_
          refine va_get (D := (dC, dI)) (ci := 11) (v := .ref a_mo_coefficients) (C := "ScanCoderModel") (T := T_11) (N := 49) hx hb hts n0 hown hK hP 0 rfl rfl 13 (by decide) k5 (fun _ h9 => h9) rfl d_m1192_220 ?_
          refine lv_bipush (v := (64 : Int32)) hx hb d_m1192_223 (by decide) ?_
          refine lv_aload_n hx hb d_m1192_225 rfl (lv_at hl 0 rfl) ?_
          refine va_get (D := (dC, dI)) (ci := 11) (v := .ref a_mo_base) (C := "ScanCoderModel") (T := T_11) (N := 49) hx hb hts n0 hown hK hP 0 rfl rfl 10 (by decide) k6 (fun _ h9 => h9) rfl d_m1192_226 ?_
          refine lv_iload_n hx hb d_m1192_229 rfl (lv_at hl 1 rfl) ?_
          obtain ⟨hi, hf⟩ := ob_if hf
          refine va_iald hx hb hK hP 1 0 rfl rfl hi d_m1192_230 ?_
          refine lv_iload_n hx hb d_m1192_231 rfl (lv_at hl 2 rfl) ?_
          refine lv_iadd hx hb d_m1192_232 ?_
          refine lv_imul hx hb d_m1192_233 ?_
          refine lv_iload_n hx hb d_m1192_234 rfl (lv_at hl 3 rfl) ?_
          refine lv_iadd hx hb d_m1192_235 ?_
          obtain ⟨hi, hf⟩ := ob_if hf
          refine va_sald hx hb hK hP 2 2 rfl rfl hi d_m1192_236 ?_
          refine lv_if_eq (tgt := 247) hx hb d_m1192_237 (by decide) (fun hc => ?_) (fun hc => ?_)
          · replace hf := (if_pos hc).symm.trans hf
            exact J204_247 mo_at_204 mo_taken_204 mo_left_204 mo_fault_204 mo_coefficients_204 hf H locs ls hP hD hS hl
          · replace hf := (if_neg hc).symm.trans hf
            refine lv_aload_n hx hb d_m1192_240 rfl (lv_at hl 0 rfl) ?_
            refine lv_iload_n hx hb d_m1192_241 rfl (lv_at hl 1 rfl) ?_
            refine lv_iload_n hx hb d_m1192_242 rfl (lv_at hl 2 rfl) ?_
            refine lv_iload_n hx hb d_m1192_243 rfl (lv_at hl 3 rfl) ?_
            obtain ⟨z7, hz7, hf⟩ := ob_bind hf
            refine g_callv (wc := (w_M_more cI cB cS cT a_mo a_mo_base a_mo_coefficients a_mo_data a_mo_h a_mo_v a_mo_across a_mo_down a_mo_ownAcross a_mo_ownDown a_mo_before0 a_mo_draftCounts a_mo_draft a_mo_words a_mo_lengths a_mo_codes a_mo_directOf a_mo_otherOf a_mo_out a_mo_times a_mo_prediction a_mo_runBits a_mo_toCome a_mo_timesKept mo_thrown mo_width mo_height mo_many mo_unitsAcross mo_unitsDown mo_drafts mo_mask mo_first mo_last mo_before mo_bits mo_interval mo_size mo_outs mo_part mo_parted mo_failed mo_counting mo_run_204 mo_runMany mo_comes mo_at_204 mo_taken_204 mo_left_204 mo_fault_204 mo_base mo_coefficients_204 mo_data)) (w1 := (w_M_more cI cB cS cT a_mo a_mo_base a_mo_coefficients a_mo_data a_mo_h a_mo_v a_mo_across a_mo_down a_mo_ownAcross a_mo_ownDown a_mo_before0 a_mo_draftCounts a_mo_draft a_mo_words a_mo_lengths a_mo_codes a_mo_directOf a_mo_otherOf a_mo_out a_mo_times a_mo_prediction a_mo_runBits a_mo_toCome a_mo_timesKept mo_thrown mo_width mo_height mo_many mo_unitsAcross mo_unitsDown mo_drafts mo_mask mo_first mo_last mo_before mo_bits mo_interval mo_size mo_outs mo_part mo_parted mo_failed mo_counting mo_run_204 mo_runMany mo_comes z7.1 z7.2.1 z7.2.2.1 z7.2.2.2.1 mo_base z7.2.2.2.2 mo_data)) (w2 := (w_M_readMore cI cB cS cT a_mo a_mo_base a_mo_coefficients a_mo_lengths a_mo_codes a_mo_otherOf a_mo_data a_mo_h a_mo_v a_mo_across a_mo_down a_mo_ownAcross a_mo_ownDown a_mo_before0 a_mo_draftCounts a_mo_draft a_mo_words a_mo_directOf a_mo_out a_mo_times a_mo_prediction a_mo_runBits a_mo_toCome a_mo_timesKept mo_thrown mo_width mo_height mo_many mo_unitsAcross mo_unitsDown mo_drafts mo_mask mo_first mo_last mo_before mo_bits mo_interval mo_size mo_outs mo_part mo_parted mo_failed mo_counting mo_run_204 mo_runMany mo_comes z7.1 z7.2.1 z7.2.2.1 z7.2.2.2.1 mo_base z7.2.2.2.2 mo_lengths mo_codes mo_otherOf mo_data)) [0, 1, 2, 6] [some 0, some 1, some 2, none, none, none, some 3] hP hD hS hA rfl rfl rfl rfl (va_runV (As := [.int p0, .int p1, .int v3_204]) (rest := []) ⟨hx, hb, hml, hown, hts⟩ (c_M_more l dC dI cI cB cS cT a_mo a_mo_base a_mo_coefficients a_mo_data a_mo_h a_mo_v a_mo_across a_mo_down a_mo_ownAcross a_mo_ownDown a_mo_before0 a_mo_draftCounts a_mo_draft a_mo_words a_mo_lengths a_mo_codes a_mo_directOf a_mo_otherOf a_mo_out a_mo_times a_mo_prediction a_mo_runBits a_mo_toCome a_mo_timesKept mo_thrown mo_width mo_height mo_many mo_unitsAcross mo_unitsDown mo_drafts mo_mask mo_first mo_last mo_before mo_bits mo_interval mo_size mo_outs mo_part mo_parted mo_failed mo_counting mo_run_204 mo_runMany mo_comes mo_at_204 mo_taken_204 mo_left_204 mo_fault_204 mo_base mo_coefficients_204 mo_data p0 p1 v3_204 H.size z7 hz7) ⟨(callB_of 3 hts (gi tw_1200 rfl) rfl rfl rfl (hts _ (List.mem_cons_of_mem _ tw_16)) (hts _ (List.mem_cons_of_mem _ tw_1197)) (by decide +kernel) ⟨Nat.le_of_ble_eq_true rfl, Nat.le_of_ble_eq_true rfl⟩), hts _ (List.mem_cons_of_mem _ tw_1199), hts _ (List.mem_cons_of_mem _ ts_m1200)⟩ ⟨g_blind, va_recv hK hP (ci := 11) (q0 := 0) rfl rfl, g_at hKN (g_pm hP [0, 1, 2, 6] rfl) (hD.sub [0, 1, 2, 6] (by decide) rfl)⟩ rfl rfl hl.1 rfl (lv_room (Nat.le_of_ble_eq_true rfl)) d_m1192_244 ⟨Nat.zero_le _, Nat.zero_le _⟩) (fun H locs hP hD hS => ?_)
            refine W.eq (g2 := F0 m 247 ls []) rfl ?_
            exact J204_247 z7.1 z7.2.1 z7.2.2.1 z7.2.2.2.1 z7.2.2.2.2 hf H locs ls hP hD hS hl
  have J253 : ∀ (mo_run_j253 : Int32) (mo_at_j253 : Int32) (mo_taken_j253 : Int32) (mo_left_j253 : Int32) (mo_fault_j253 : Int32) (mo_coefficients_j253 : Nat → Int32), f_M_readMore_J253 N mo_run_j253 mo_at_j253 mo_taken_j253 mo_left_j253 mo_fault_j253 mo_coefficients_j253 = some z → GW (dC, dI) A p l e (headSpec ws_m1192 rm_M_readMore).room s m args below meth c 0 0 Q 8 253 (w_M_readMore cI cB cS cT a_mo a_mo_base a_mo_coefficients a_mo_lengths a_mo_codes a_mo_otherOf a_mo_data a_mo_h a_mo_v a_mo_across a_mo_down a_mo_ownAcross a_mo_ownDown a_mo_before0 a_mo_draftCounts a_mo_draft a_mo_words a_mo_directOf a_mo_out a_mo_times a_mo_prediction a_mo_runBits a_mo_toCome a_mo_timesKept mo_thrown mo_width mo_height mo_many mo_unitsAcross mo_unitsDown mo_drafts mo_mask mo_first mo_last mo_before mo_bits mo_interval mo_size mo_outs mo_part mo_parted mo_failed mo_counting mo_run_j253 mo_runMany mo_comes mo_at_j253 mo_taken_j253 mo_left_j253 mo_fault_j253 mo_base mo_coefficients_j253 mo_lengths mo_codes mo_otherOf mo_data) [(0, .ref a_mo)] [] := by
    intro mo_run_j253 mo_at_j253 mo_taken_j253 mo_left_j253 mo_fault_j253 mo_coefficients_j253 hf H locs ls hP hD hS hl
    unfold f_M_readMore_J253 at hf
    refine lv_aload_n hx hb d_m1192_253 rfl (lv_at hl 0 rfl) ?_
    refine lv_dup hx hb d_m1192_254 rfl ?_
    refine va_get (D := (dC, dI)) (ci := 11) (v := .int mo_run_j253) (C := "ScanCoderModel") (T := T_11) (N := 49) hx hb hts n0 hown hK hP 0 rfl rfl 39 (by decide) k2 (fun _ h9 => h9) rfl d_m1192_255 ?_
    refine lv_iconst (v := (1 : Int32)) hx hb d_m1192_258 (by decide) ?_
    refine lv_isub hx hb d_m1192_259 ?_
    refine va_put (D := (dC, dI)) (ci := 11) (v := .int (mo_run_j253 - (1 : Int32))) (ty := .int) (C := "ScanCoderModel") (T := T_11) (N := 49) hx hb hts n0 ty_11 tyok_11 nm_11 hown hK hP hD hS 0 rfl rfl 39 (by decide) k2 (fun _ h9 => h9) rfl (by decide +kernel) rfl rfl (Nat.le_of_ble_eq_true rfl) d_m1192_260 (fun H locs hP hD hS => ?_)
    have hP : va_P (dC, dI) vwCl (w_M_readMore cI cB cS cT a_mo a_mo_base a_mo_coefficients a_mo_lengths a_mo_codes a_mo_otherOf a_mo_data a_mo_h a_mo_v a_mo_across a_mo_down a_mo_ownAcross a_mo_ownDown a_mo_before0 a_mo_draftCounts a_mo_draft a_mo_words a_mo_directOf a_mo_out a_mo_times a_mo_prediction a_mo_runBits a_mo_toCome a_mo_timesKept mo_thrown mo_width mo_height mo_many mo_unitsAcross mo_unitsDown mo_drafts mo_mask mo_first mo_last mo_before mo_bits mo_interval mo_size mo_outs mo_part mo_parted mo_failed mo_counting (mo_run_j253 - (1 : Int32)) mo_runMany mo_comes mo_at_j253 mo_taken_j253 mo_left_j253 mo_fault_j253 mo_base mo_coefficients_j253 mo_lengths mo_codes mo_otherOf mo_data) H := hP
    have hD : va_D A (w_M_readMore cI cB cS cT a_mo a_mo_base a_mo_coefficients a_mo_lengths a_mo_codes a_mo_otherOf a_mo_data a_mo_h a_mo_v a_mo_across a_mo_down a_mo_ownAcross a_mo_ownDown a_mo_before0 a_mo_draftCounts a_mo_draft a_mo_words a_mo_directOf a_mo_out a_mo_times a_mo_prediction a_mo_runBits a_mo_toCome a_mo_timesKept mo_thrown mo_width mo_height mo_many mo_unitsAcross mo_unitsDown mo_drafts mo_mask mo_first mo_last mo_before mo_bits mo_interval mo_size mo_outs mo_part mo_parted mo_failed mo_counting (mo_run_j253 - (1 : Int32)) mo_runMany mo_comes mo_at_j253 mo_taken_j253 mo_left_j253 mo_fault_j253 mo_base mo_coefficients_j253 mo_lengths mo_codes mo_otherOf mo_data) := hD
    obtain rfl := Option.some.inj hf
    subst hQ
    subst hAe
    exact W.vret hx hb hr (fun t ht hW => ⟨⟨(), rfl, trivial, by rw [ht]; exact hP, hD⟩, hS.F ht⟩) hS.2.2 d_m1192_263
  have J197 : ∀ (v3_j197 : Int32) (mo_run_j197 : Int32) (mo_at_j197 : Int32) (mo_taken_j197 : Int32) (mo_left_j197 : Int32) (mo_fault_j197 : Int32) (mo_coefficients_j197 : Nat → Int32), f_M_readMore_J197 N mo_run_j197 mo_at_j197 mo_taken_j197 mo_left_j197 mo_fault_j197 mo_coefficients_j197 mo_last p0 mo_base p1 mo_bits mo_size mo_data v3_j197 = some z → GW (dC, dI) A p l e (headSpec ws_m1192 rm_M_readMore).room s m args below meth c 0 0 Q 8 197 (w_M_readMore cI cB cS cT a_mo a_mo_base a_mo_coefficients a_mo_lengths a_mo_codes a_mo_otherOf a_mo_data a_mo_h a_mo_v a_mo_across a_mo_down a_mo_ownAcross a_mo_ownDown a_mo_before0 a_mo_draftCounts a_mo_draft a_mo_words a_mo_directOf a_mo_out a_mo_times a_mo_prediction a_mo_runBits a_mo_toCome a_mo_timesKept mo_thrown mo_width mo_height mo_many mo_unitsAcross mo_unitsDown mo_drafts mo_mask mo_first mo_last mo_before mo_bits mo_interval mo_size mo_outs mo_part mo_parted mo_failed mo_counting mo_run_j197 mo_runMany mo_comes mo_at_j197 mo_taken_j197 mo_left_j197 mo_fault_j197 mo_base mo_coefficients_j197 mo_lengths mo_codes mo_otherOf mo_data) [(0, .ref a_mo), (1, .int p0), (2, .int p1), (3, .int v3_j197)] [] := by
    intro v3_j197 mo_run_j197 mo_at_j197 mo_taken_j197 mo_left_j197 mo_fault_j197 mo_coefficients_j197 hf H locs ls hP hD hS hl
    unfold f_M_readMore_J197 at hf
    refine lv_aload_n hx hb d_m1192_197 rfl (lv_at hl 0 rfl) ?_
    refine va_get (D := (dC, dI)) (ci := 11) (v := .int mo_run_j197) (C := "ScanCoderModel") (T := T_11) (N := 49) hx hb hts n0 hown hK hP 0 rfl rfl 39 (by decide) k2 (fun _ h9 => h9) rfl d_m1192_198 ?_
    refine lv_if_le (tgt := 263) hx hb d_m1192_201 (by decide) (fun hc => ?_) (fun hc => ?_)
    · replace hf := (if_pos hc).symm.trans hf
      obtain rfl := Option.some.inj hf
      subst hQ
      subst hAe
      exact W.vret hx hb hr (fun t ht hW => ⟨⟨(), rfl, trivial, by rw [ht]; exact hP, hD⟩, hS.F ht⟩) hS.2.2 d_m1192_263
    · replace hf := (if_neg hc).symm.trans hf
      obtain ⟨z8, hz8, hf⟩ := ob_bind hf
      refine L204 mo_run_j197 z8 ?_ N v3_j197 mo_at_j197 mo_taken_j197 mo_left_j197 mo_fault_j197 mo_coefficients_j197 hz8 H locs ls hP hD hS hl
      · intro H locs ls hP hD hS hl
        exact J253 mo_run_j197 z8.1 z8.2.1 z8.2.2.1 z8.2.2.2.1 z8.2.2.2.2 hf H locs ls hP hD hS hl
  have hgo : ∀ (H : Heap) (locs : List Loc), va_P (dC, dI) vwCl (w_M_readMore cI cB cS cT a_mo a_mo_base a_mo_coefficients a_mo_lengths a_mo_codes a_mo_otherOf a_mo_data a_mo_h a_mo_v a_mo_across a_mo_down a_mo_ownAcross a_mo_ownDown a_mo_before0 a_mo_draftCounts a_mo_draft a_mo_words a_mo_directOf a_mo_out a_mo_times a_mo_prediction a_mo_runBits a_mo_toCome a_mo_timesKept mo_thrown mo_width mo_height mo_many mo_unitsAcross mo_unitsDown mo_drafts mo_mask mo_first mo_last mo_before mo_bits mo_interval mo_size mo_outs mo_part mo_parted mo_failed mo_counting mo_run mo_runMany mo_comes mo_at mo_taken mo_left mo_fault mo_base mo_coefficients mo_lengths mo_codes mo_otherOf mo_data) H → va_S A s.heap H locs → W p l e (headSpec ws_m1192 rm_M_readMore).room s m args below meth c H locs 0 0 Q (F0 m 0 ls []) := by
    intro H locs hP hS
    unfold f_M_readMore at hf
    refine lv_aload_n hx hb d_m1192_0 rfl (lv_at hl 0 rfl) ?_
    refine va_get (D := (dC, dI)) (ci := 11) (v := .int mo_first) (C := "ScanCoderModel") (T := T_11) (N := 49) hx hb hts n0 hown hK hP 0 rfl rfl 24 (by decide) k0 (fun _ h9 => h9) rfl d_m1192_1 ?_
    refine lv_istore_n (lv' := [(3, .int mo_first), (0, .ref a_mo), (1, .int p0), (2, .int p1)]) hx hb d_m1192_4 rfl hl (by decide) rfl (fun ls hl => ?_)
    obtain ⟨z6, hz6, hf⟩ := ob_bind hf
    refine L5  z6 ?_ ?_ N mo_first mo_run mo_at mo_taken mo_left mo_fault mo_coefficients hz6 H locs ls hP hD hS (lv_sub hl [1, 2, 3, 0] rfl)
    · intro hz H locs ls hP hD hS hl
      replace hf := (if_pos hz).symm.trans hf
      obtain rfl := Option.some.inj hf
      subst hQ
      subst hAe
      exact W.vret hx hb hr (fun t ht hW => ⟨⟨(), rfl, trivial, by rw [ht]; exact hP, hD⟩, hS.F ht⟩) hS.2.2 d_m1192_80
    · intro hz H locs ls hP hD hS hl
      replace hf := (if_neg (by rw [hz]; decide)).symm.trans hf
      exact J197 z6.2.1 z6.2.2.1 z6.2.2.2.1 z6.2.2.2.2.1 z6.2.2.2.2.2.1 z6.2.2.2.2.2.2.1 z6.2.2.2.2.2.2.2 hf H locs ls hP hD hS hl
  exact hgo _ _ hP hS
def f_M_readBlock_J58 (N : Nat) (mo_last : Int32) (mo_run : Int32) (mo_at_j58 : Int32) (mo_taken_j58 : Int32) (mo_left_j58 : Int32) (mo_fault_j58 : Int32) (mo_coefficients_j58 : Nat → Int32) (mo_prediction_j58 : Nat → Int32) (p0 : Int32) (p1 : Int32) (mo_first : Int32) (mo_bits : Int32) (mo_size : Int32) (mo_base : Nat → Int32) (mo_lengths : Nat → Int32) (mo_codes : Nat → Int32) (mo_otherOf : Nat → Int32) (mo_data : Nat → Int32) : Option (Int32 × Int32 × Int32 × Int32 × Int32 × (Nat → Int32) × (Nat → Int32)) :=
  if mo_last ≤ 0 then
    some (mo_run, mo_at_j58, mo_taken_j58, mo_left_j58, mo_fault_j58, mo_coefficients_j58, mo_prediction_j58)
  else
    if mo_fault_j58 = 0 then
      (f_M_readMore N p0 p1 mo_first mo_last mo_bits mo_size mo_run mo_at_j58 mo_taken_j58 mo_left_j58 mo_fault_j58 mo_base mo_coefficients_j58 mo_lengths mo_codes mo_otherOf mo_data).bind fun z1 =>
      some (z1.1, z1.2.1, z1.2.2.1, z1.2.2.2.1, z1.2.2.2.2.1, z1.2.2.2.2.2, mo_prediction_j58)
    else
      some (mo_run, mo_at_j58, mo_taken_j58, mo_left_j58, mo_fault_j58, mo_coefficients_j58, mo_prediction_j58)
def f_M_readBlock_J52 (N : Nat) (s1_j52 : Int32) (s2_j52 : Int32) (s3_j52 : Int32) (mo_first : Int32) (mo_last : Int32) (mo_bits : Int32) (mo_size : Int32) (mo_run : Int32) (mo_at_j52 : Int32) (mo_taken_j52 : Int32) (mo_left_j52 : Int32) (mo_fault_j52 : Int32) (mo_base : Nat → Int32) (mo_coefficients_j52 : Nat → Int32) (mo_lengths : Nat → Int32) (mo_codes : Nat → Int32) (mo_otherOf : Nat → Int32) (mo_data : Nat → Int32) (mo_prediction_j52 : Nat → Int32) : Option (Int32 × Int32 × Int32 × Int32 × Int32 × (Nat → Int32) × (Nat → Int32)) :=
  (f_M_readOthers N s1_j52 s2_j52 s3_j52 mo_first mo_last mo_bits mo_size mo_run mo_at_j52 mo_taken_j52 mo_left_j52 mo_fault_j52 mo_base mo_coefficients_j52 mo_lengths mo_codes mo_otherOf mo_data).bind fun z2 =>
  some (z2.1, z2.2.1, z2.2.2.1, z2.2.2.2.1, z2.2.2.2.2.1, z2.2.2.2.2.2, mo_prediction_j52)
def f_M_readBlock_J13 (N : Nat) (mo_last : Int32) (mo_run : Int32) (mo_at_j13 : Int32) (mo_taken_j13 : Int32) (mo_left_j13 : Int32) (mo_fault_j13 : Int32) (mo_coefficients_j13 : Nat → Int32) (mo_prediction_j13 : Nat → Int32) (p0 : Int32) (p1 : Int32) (mo_first : Int32) (mo_bits : Int32) (mo_size : Int32) (mo_base : Nat → Int32) (mo_lengths : Nat → Int32) (mo_codes : Nat → Int32) (mo_otherOf : Nat → Int32) (mo_data : Nat → Int32) (mo_before : Int32) : Option (Int32 × Int32 × Int32 × Int32 × Int32 × (Nat → Int32) × (Nat → Int32)) :=
  if mo_last ≤ 0 then
    f_M_readBlock_J58 N mo_last mo_run mo_at_j13 mo_taken_j13 mo_left_j13 mo_fault_j13 mo_coefficients_j13 mo_prediction_j13 p0 p1 mo_first mo_bits mo_size mo_base mo_lengths mo_codes mo_otherOf mo_data
  else
    if mo_before = 0 then
      if mo_fault_j13 = 0 then
        if mo_first = 0 then
          f_M_readBlock_J52 N p0 p1 (1 : Int32) mo_first mo_last mo_bits mo_size mo_run mo_at_j13 mo_taken_j13 mo_left_j13 mo_fault_j13 mo_base mo_coefficients_j13 mo_lengths mo_codes mo_otherOf mo_data mo_prediction_j13
        else
          f_M_readBlock_J52 N p0 p1 mo_first mo_first mo_last mo_bits mo_size mo_run mo_at_j13 mo_taken_j13 mo_left_j13 mo_fault_j13 mo_base mo_coefficients_j13 mo_lengths mo_codes mo_otherOf mo_data mo_prediction_j13
      else
        f_M_readBlock_J58 N mo_last mo_run mo_at_j13 mo_taken_j13 mo_left_j13 mo_fault_j13 mo_coefficients_j13 mo_prediction_j13 p0 p1 mo_first mo_bits mo_size mo_base mo_lengths mo_codes mo_otherOf mo_data
    else
      f_M_readBlock_J58 N mo_last mo_run mo_at_j13 mo_taken_j13 mo_left_j13 mo_fault_j13 mo_coefficients_j13 mo_prediction_j13 p0 p1 mo_first mo_bits mo_size mo_base mo_lengths mo_codes mo_otherOf mo_data
def f_M_readBlock (N : Nat) (p0 : Int32) (p1 : Int32) (mo_first : Int32) (mo_last : Int32) (mo_before : Int32) (mo_bits : Int32) (mo_size : Int32) (mo_run : Int32) (mo_at : Int32) (mo_taken : Int32) (mo_left : Int32) (mo_fault : Int32) (mo_base : Nat → Int32) (mo_coefficients : Nat → Int32) (mo_lengths : Nat → Int32) (mo_codes : Nat → Int32) (mo_directOf : Nat → Int32) (mo_otherOf : Nat → Int32) (mo_data : Nat → Int32) (mo_prediction : Nat → Int32) : Option (Int32 × Int32 × Int32 × Int32 × Int32 × (Nat → Int32) × (Nat → Int32)) :=
  if mo_first = 0 then
    (f_M_readDirect N p0 p1 mo_before mo_bits mo_size mo_at mo_taken mo_left mo_fault mo_base mo_coefficients mo_lengths mo_codes mo_directOf mo_data mo_prediction).bind fun z3 =>
    f_M_readBlock_J13 N mo_last mo_run z3.1 z3.2.1 z3.2.2.1 z3.2.2.2.1 z3.2.2.2.2.1 z3.2.2.2.2.2 p0 p1 mo_first mo_bits mo_size mo_base mo_lengths mo_codes mo_otherOf mo_data mo_before
  else
    f_M_readBlock_J13 N mo_last mo_run mo_at mo_taken mo_left mo_fault mo_coefficients mo_prediction p0 p1 mo_first mo_bits mo_size mo_base mo_lengths mo_codes mo_otherOf mo_data mo_before
abbrev w_M_readBlock (cI cB cS cT : ClassId) (a_mo : Nat) (a_mo_base : Nat) (a_mo_coefficients : Nat) (a_mo_lengths : Nat) (a_mo_codes : Nat) (a_mo_directOf : Nat) (a_mo_otherOf : Nat) (a_mo_data : Nat) (a_mo_prediction : Nat) (a_mo_h : Nat) (a_mo_v : Nat) (a_mo_across : Nat) (a_mo_down : Nat) (a_mo_ownAcross : Nat) (a_mo_ownDown : Nat) (a_mo_before0 : Nat) (a_mo_draftCounts : Nat) (a_mo_draft : Nat) (a_mo_words : Nat) (a_mo_out : Nat) (a_mo_times : Nat) (a_mo_runBits : Nat) (a_mo_toCome : Nat) (a_mo_timesKept : Nat) (mo_thrown : Int32) (mo_width : Int32) (mo_height : Int32) (mo_many : Int32) (mo_unitsAcross : Int32) (mo_unitsDown : Int32) (mo_drafts : Int32) (mo_mask : Int32) (mo_first : Int32) (mo_last : Int32) (mo_before : Int32) (mo_bits : Int32) (mo_interval : Int32) (mo_size : Int32) (mo_outs : Int32) (mo_part : Int32) (mo_parted : Int32) (mo_failed : Int32) (mo_counting : Int32) (mo_run : Int32) (mo_runMany : Int32) (mo_comes : Int32) (mo_at : Int32) (mo_taken : Int32) (mo_left : Int32) (mo_fault : Int32) (mo_base : Nat → Int32) (mo_coefficients : Nat → Int32) (mo_lengths : Nat → Int32) (mo_codes : Nat → Int32) (mo_directOf : Nat → Int32) (mo_otherOf : Nat → Int32) (mo_data : Nat → Int32) (mo_prediction : Nat → Int32) : va_W := [(a_mo, .inr (11, [.int mo_thrown, .int mo_width, .int mo_height, .int mo_many, .ref a_mo_h, .ref a_mo_v, .ref a_mo_across, .ref a_mo_down, .ref a_mo_ownAcross, .ref a_mo_ownDown, .ref a_mo_base, .int mo_unitsAcross, .int mo_unitsDown, .ref a_mo_coefficients, .ref a_mo_before0, .ref a_mo_draftCounts, .ref a_mo_draft, .int mo_drafts, .ref a_mo_words, .ref a_mo_lengths, .ref a_mo_codes, .ref a_mo_directOf, .ref a_mo_otherOf, .int mo_mask, .int mo_first, .int mo_last, .int mo_before, .int mo_bits, .int mo_interval, .ref a_mo_data, .int mo_size, .ref a_mo_out, .int mo_outs, .int mo_part, .int mo_parted, .int mo_failed, .int mo_counting, .ref a_mo_times, .ref a_mo_prediction, .int mo_run, .ref a_mo_runBits, .int mo_runMany, .ref a_mo_toCome, .int mo_comes, .int mo_at, .int mo_taken, .int mo_left, .int mo_fault, .ref a_mo_timesKept])), (a_mo_base, .inl (cI, 4, .inl mo_base)), (a_mo_coefficients, .inl (cS, 12288, .inl mo_coefficients)), (a_mo_lengths, .inl (cI, 2048, .inl mo_lengths)), (a_mo_codes, .inl (cI, 2048, .inl mo_codes)), (a_mo_directOf, .inl (cI, 4, .inl mo_directOf)), (a_mo_otherOf, .inl (cI, 4, .inl mo_otherOf)), (a_mo_data, .inl (cB, 16384, .inl mo_data)), (a_mo_prediction, .inl (cI, 4, .inl mo_prediction))]
def rm_M_readBlock : Room := { frames := 5, cells := 0, slots := 0, locals := 120 }
set_option maxHeartbeats 1000000 in
set_option maxRecDepth 100000 in
theorem c_M_readBlock (l : Launch) (dC : Nat → ClassId) (dI : Nat → Nat → Nat) (cI cB cS cT : ClassId) (N : Nat) (a_mo : Nat) (a_mo_base : Nat) (a_mo_coefficients : Nat) (a_mo_lengths : Nat) (a_mo_codes : Nat) (a_mo_directOf : Nat) (a_mo_otherOf : Nat) (a_mo_data : Nat) (a_mo_prediction : Nat) (a_mo_h : Nat) (a_mo_v : Nat) (a_mo_across : Nat) (a_mo_down : Nat) (a_mo_ownAcross : Nat) (a_mo_ownDown : Nat) (a_mo_before0 : Nat) (a_mo_draftCounts : Nat) (a_mo_draft : Nat) (a_mo_words : Nat) (a_mo_out : Nat) (a_mo_times : Nat) (a_mo_runBits : Nat) (a_mo_toCome : Nat) (a_mo_timesKept : Nat) (mo_thrown : Int32) (mo_width : Int32) (mo_height : Int32) (mo_many : Int32) (mo_unitsAcross : Int32) (mo_unitsDown : Int32) (mo_drafts : Int32) (mo_mask : Int32) (mo_first : Int32) (mo_last : Int32) (mo_before : Int32) (mo_bits : Int32) (mo_interval : Int32) (mo_size : Int32) (mo_outs : Int32) (mo_part : Int32) (mo_parted : Int32) (mo_failed : Int32) (mo_counting : Int32) (mo_run : Int32) (mo_runMany : Int32) (mo_comes : Int32) (mo_at : Int32) (mo_taken : Int32) (mo_left : Int32) (mo_fault : Int32) (mo_base : Nat → Int32) (mo_coefficients : Nat → Int32) (mo_lengths : Nat → Int32) (mo_codes : Nat → Int32) (mo_directOf : Nat → Int32) (mo_otherOf : Nat → Int32) (mo_data : Nat → Int32) (mo_prediction : Nat → Int32) (p0 : Int32) (p1 : Int32) (sz : Nat) (z : Int32 × Int32 × Int32 × Int32 × Int32 × (Nat → Int32) × (Nat → Int32)) (hf : f_M_readBlock N p0 p1 mo_first mo_last mo_before mo_bits mo_size mo_run mo_at mo_taken mo_left mo_fault mo_base mo_coefficients mo_lengths mo_codes mo_directOf mo_otherOf mo_data mo_prediction = some z) : Met l y_m1160 ws_m1160 rm_M_readBlock (gPre (dC, dI) [.ref a_mo, .int p0, .int p1] (gT cI cB cS cT) (w_M_readBlock cI cB cS cT a_mo a_mo_base a_mo_coefficients a_mo_lengths a_mo_codes a_mo_directOf a_mo_otherOf a_mo_data a_mo_prediction a_mo_h a_mo_v a_mo_across a_mo_down a_mo_ownAcross a_mo_ownDown a_mo_before0 a_mo_draftCounts a_mo_draft a_mo_words a_mo_out a_mo_times a_mo_runBits a_mo_toCome a_mo_timesKept mo_thrown mo_width mo_height mo_many mo_unitsAcross mo_unitsDown mo_drafts mo_mask mo_first mo_last mo_before mo_bits mo_interval mo_size mo_outs mo_part mo_parted mo_failed mo_counting mo_run mo_runMany mo_comes mo_at mo_taken mo_left mo_fault mo_base mo_coefficients mo_lengths mo_codes mo_directOf mo_otherOf mo_data mo_prediction) sz) (gQv (dC, dI) (gT cI cB cS cT) (w_M_readBlock cI cB cS cT a_mo a_mo_base a_mo_coefficients a_mo_lengths a_mo_codes a_mo_directOf a_mo_otherOf a_mo_data a_mo_prediction a_mo_h a_mo_v a_mo_across a_mo_down a_mo_ownAcross a_mo_ownDown a_mo_before0 a_mo_draftCounts a_mo_draft a_mo_words a_mo_out a_mo_times a_mo_runBits a_mo_toCome a_mo_timesKept mo_thrown mo_width mo_height mo_many mo_unitsAcross mo_unitsDown mo_drafts mo_mask mo_first mo_last mo_before mo_bits mo_interval mo_size mo_outs mo_part mo_parted mo_failed mo_counting mo_run mo_runMany mo_comes mo_at mo_taken mo_left mo_fault mo_base mo_coefficients mo_lengths mo_codes mo_directOf mo_otherOf mo_data mo_prediction) (w_M_readBlock cI cB cS cT a_mo a_mo_base a_mo_coefficients a_mo_lengths a_mo_codes a_mo_directOf a_mo_otherOf a_mo_data a_mo_prediction a_mo_h a_mo_v a_mo_across a_mo_down a_mo_ownAcross a_mo_ownDown a_mo_before0 a_mo_draftCounts a_mo_draft a_mo_words a_mo_out a_mo_times a_mo_runBits a_mo_toCome a_mo_timesKept mo_thrown mo_width mo_height mo_many mo_unitsAcross mo_unitsDown mo_drafts mo_mask mo_first mo_last mo_before mo_bits mo_interval mo_size mo_outs mo_part mo_parted mo_failed mo_counting z.1 mo_runMany mo_comes z.2.1 z.2.2.1 z.2.2.2.1 z.2.2.2.2.1 mo_base z.2.2.2.2.2.1 mo_lengths mo_codes mo_directOf mo_otherOf mo_data z.2.2.2.2.2.2) sz) 0 0 (va_A (w_M_readBlock cI cB cS cT a_mo a_mo_base a_mo_coefficients a_mo_lengths a_mo_codes a_mo_directOf a_mo_otherOf a_mo_data a_mo_prediction a_mo_h a_mo_v a_mo_across a_mo_down a_mo_ownAcross a_mo_ownDown a_mo_before0 a_mo_draftCounts a_mo_draft a_mo_words a_mo_out a_mo_times a_mo_runBits a_mo_toCome a_mo_timesKept mo_thrown mo_width mo_height mo_many mo_unitsAcross mo_unitsDown mo_drafts mo_mask mo_first mo_last mo_before mo_bits mo_interval mo_size mo_outs mo_part mo_parted mo_failed mo_counting mo_run mo_runMany mo_comes mo_at mo_taken mo_left mo_fault mo_base mo_coefficients mo_lengths mo_codes mo_directOf mo_otherOf mo_data mo_prediction) sz) := by
  refine Met.ofW (cc := prog_14_method_57_code) (maxL := 3) (ret := none) (by decide) rfl ?_
  intro p e s m args below meth c s₁ B hml hv
  obtain ⟨hargs, hsz, hP, hKN, hD0⟩ := hv
  have hK := hKN.1
  have hx := B.exec
  have hb := B.bytes
  have hr := B.returns
  have hts := atoms_spec (ws := ws_m1160) B.pre
  have hown : s.vm.findClass "ScanCoderModel" = some m.cls := findClass_of_methodNamed B.named
  have hlocks := B.notSynchronized
  have k0 := hts _ (List.mem_cons_of_mem _ tw_858)
  have k1 := hts _ (List.mem_cons_of_mem _ tw_859)
  have k2 := hts _ (List.mem_cons_of_mem _ tw_881)
  have k3 := hts _ (List.mem_cons_of_mem _ tw_860)
  have n0 : ∀ w ∈ u_ws "ScanCoderModel" T_11 49, w ∈ ws_m1160 := fun w h => List.mem_cons_of_mem _ (in_11 w h)
  subst hsz
  have hD := hD0.self (sz := s.heap.size)
  obtain ⟨A, hAe⟩ : ∃ A : Nat → Prop, va_A (w_M_readBlock cI cB cS cT a_mo a_mo_base a_mo_coefficients a_mo_lengths a_mo_codes a_mo_directOf a_mo_otherOf a_mo_data a_mo_prediction a_mo_h a_mo_v a_mo_across a_mo_down a_mo_ownAcross a_mo_ownDown a_mo_before0 a_mo_draftCounts a_mo_draft a_mo_words a_mo_out a_mo_times a_mo_runBits a_mo_toCome a_mo_timesKept mo_thrown mo_width mo_height mo_many mo_unitsAcross mo_unitsDown mo_drafts mo_mask mo_first mo_last mo_before mo_bits mo_interval mo_size mo_outs mo_part mo_parted mo_failed mo_counting mo_run mo_runMany mo_comes mo_at mo_taken mo_left mo_fault mo_base mo_coefficients mo_lengths mo_codes mo_directOf mo_otherOf mo_data mo_prediction) s.heap.size = A := ⟨_, rfl⟩
  rw [hAe] at hD
  have hA : ∀ q : Nat, s.heap.size ≤ q → A q := fun q h => by rw [← hAe]; exact Or.inr h
  have hS : va_S A s.heap s.heap [] := va_S.rf
  have hl := lv_entry ([.ref a_mo, .int p0, .int p1]) (n := 3) (Nat.le_of_ble_eq_true rfl)
  have hfr : entryFrame m args 3 = F0 m 0 ((lg_sl ([.ref a_mo, .int p0, .int p1]) ++ List.replicate (3 - (lg_sl ([.ref a_mo, .int p0, .int p1])).length) Slot.unset).toArray) [] := by rw [hargs]; exact lg_entry_eq _ _ _
  rw [hfr]
  generalize (lg_sl ([.ref a_mo, .int p0, .int p1]) ++ List.replicate (3 - (lg_sl ([.ref a_mo, .int p0, .int p1])).length) Slot.unset).toArray = ls at hl ⊢
  have hl : lv_has ls 3 [(0, .ref a_mo), (1, .int p0), (2, .int p1)] := hl
  refine gen_Q (fun Q hQ => ?_)
  clear hfr
  have J58 : ∀ (mo_at_j58 : Int32) (mo_taken_j58 : Int32) (mo_left_j58 : Int32) (mo_fault_j58 : Int32) (mo_coefficients_j58 : Nat → Int32) (mo_prediction_j58 : Nat → Int32), f_M_readBlock_J58 N mo_last mo_run mo_at_j58 mo_taken_j58 mo_left_j58 mo_fault_j58 mo_coefficients_j58 mo_prediction_j58 p0 p1 mo_first mo_bits mo_size mo_base mo_lengths mo_codes mo_otherOf mo_data = some z → GW (dC, dI) A p l e (headSpec ws_m1160 rm_M_readBlock).room s m args below meth c 0 0 Q 3 58 (w_M_readBlock cI cB cS cT a_mo a_mo_base a_mo_coefficients a_mo_lengths a_mo_codes a_mo_directOf a_mo_otherOf a_mo_data a_mo_prediction a_mo_h a_mo_v a_mo_across a_mo_down a_mo_ownAcross a_mo_ownDown a_mo_before0 a_mo_draftCounts a_mo_draft a_mo_words a_mo_out a_mo_times a_mo_runBits a_mo_toCome a_mo_timesKept mo_thrown mo_width mo_height mo_many mo_unitsAcross mo_unitsDown mo_drafts mo_mask mo_first mo_last mo_before mo_bits mo_interval mo_size mo_outs mo_part mo_parted mo_failed mo_counting mo_run mo_runMany mo_comes mo_at_j58 mo_taken_j58 mo_left_j58 mo_fault_j58 mo_base mo_coefficients_j58 mo_lengths mo_codes mo_directOf mo_otherOf mo_data mo_prediction_j58) [(0, .ref a_mo), (1, .int p0), (2, .int p1)] [] := by
    intro mo_at_j58 mo_taken_j58 mo_left_j58 mo_fault_j58 mo_coefficients_j58 mo_prediction_j58 hf H locs ls hP hD hS hl
    unfold f_M_readBlock_J58 at hf
    refine lv_aload_n hx hb d_m1160_58 rfl (lv_at hl 0 rfl) ?_
    refine va_get (D := (dC, dI)) (ci := 11) (v := .int mo_last) (C := "ScanCoderModel") (T := T_11) (N := 49) hx hb hts n0 hown hK hP 0 rfl rfl 25 (by decide) k1 (fun _ h9 => h9) rfl d_m1160_59 ?_
    refine lv_if_le (tgt := 78) hx hb d_m1160_62 (by decide) (fun hc => ?_) (fun hc => ?_)
    · replace hf := (if_pos hc).symm.trans hf
      obtain rfl := Option.some.inj hf
      subst hQ
      subst hAe
      exact W.vret hx hb hr (fun t ht hW => ⟨⟨(), rfl, trivial, by rw [ht]; exact hP, hD⟩, hS.F ht⟩) hS.2.2 d_m1160_78
    · replace hf := (if_neg hc).symm.trans hf
      refine lv_aload_n hx hb d_m1160_65 rfl (lv_at hl 0 rfl) ?_
      refine va_get (D := (dC, dI)) (ci := 11) (v := .int mo_fault_j58) (C := "ScanCoderModel") (T := T_11) (N := 49) hx hb hts n0 hown hK hP 0 rfl rfl 47 (by decide) k2 (fun _ h9 => h9) rfl d_m1160_66 ?_
      refine lv_if_ne (tgt := 78) hx hb d_m1160_69 (by decide) (fun hc => ?_) (fun hc => ?_)
      · replace hf := (if_neg hc).symm.trans hf
        obtain rfl := Option.some.inj hf
        subst hQ
        subst hAe
        exact W.vret hx hb hr (fun t ht hW => ⟨⟨(), rfl, trivial, by rw [ht]; exact hP, hD⟩, hS.F ht⟩) hS.2.2 d_m1160_78
      · replace hf := (if_pos hc).symm.trans hf
        refine lv_aload_n hx hb d_m1160_72 rfl (lv_at hl 0 rfl) ?_
        refine lv_iload_n hx hb d_m1160_73 rfl (lv_at hl 1 rfl) ?_
        refine lv_iload_n hx hb d_m1160_74 rfl (lv_at hl 2 rfl) ?_
        obtain ⟨z1, hz1, hf⟩ := ob_bind hf
        refine g_callv (wc := (w_M_readMore cI cB cS cT a_mo a_mo_base a_mo_coefficients a_mo_lengths a_mo_codes a_mo_otherOf a_mo_data a_mo_h a_mo_v a_mo_across a_mo_down a_mo_ownAcross a_mo_ownDown a_mo_before0 a_mo_draftCounts a_mo_draft a_mo_words a_mo_directOf a_mo_out a_mo_times a_mo_prediction a_mo_runBits a_mo_toCome a_mo_timesKept mo_thrown mo_width mo_height mo_many mo_unitsAcross mo_unitsDown mo_drafts mo_mask mo_first mo_last mo_before mo_bits mo_interval mo_size mo_outs mo_part mo_parted mo_failed mo_counting mo_run mo_runMany mo_comes mo_at_j58 mo_taken_j58 mo_left_j58 mo_fault_j58 mo_base mo_coefficients_j58 mo_lengths mo_codes mo_otherOf mo_data)) (w1 := (w_M_readMore cI cB cS cT a_mo a_mo_base a_mo_coefficients a_mo_lengths a_mo_codes a_mo_otherOf a_mo_data a_mo_h a_mo_v a_mo_across a_mo_down a_mo_ownAcross a_mo_ownDown a_mo_before0 a_mo_draftCounts a_mo_draft a_mo_words a_mo_directOf a_mo_out a_mo_times a_mo_prediction a_mo_runBits a_mo_toCome a_mo_timesKept mo_thrown mo_width mo_height mo_many mo_unitsAcross mo_unitsDown mo_drafts mo_mask mo_first mo_last mo_before mo_bits mo_interval mo_size mo_outs mo_part mo_parted mo_failed mo_counting z1.1 mo_runMany mo_comes z1.2.1 z1.2.2.1 z1.2.2.2.1 z1.2.2.2.2.1 mo_base z1.2.2.2.2.2 mo_lengths mo_codes mo_otherOf mo_data)) (w2 := (w_M_readBlock cI cB cS cT a_mo a_mo_base a_mo_coefficients a_mo_lengths a_mo_codes a_mo_directOf a_mo_otherOf a_mo_data a_mo_prediction a_mo_h a_mo_v a_mo_across a_mo_down a_mo_ownAcross a_mo_ownDown a_mo_before0 a_mo_draftCounts a_mo_draft a_mo_words a_mo_out a_mo_times a_mo_runBits a_mo_toCome a_mo_timesKept mo_thrown mo_width mo_height mo_many mo_unitsAcross mo_unitsDown mo_drafts mo_mask mo_first mo_last mo_before mo_bits mo_interval mo_size mo_outs mo_part mo_parted mo_failed mo_counting z1.1 mo_runMany mo_comes z1.2.1 z1.2.2.1 z1.2.2.2.1 z1.2.2.2.2.1 mo_base z1.2.2.2.2.2 mo_lengths mo_codes mo_directOf mo_otherOf mo_data mo_prediction_j58)) [0, 1, 2, 3, 4, 6, 7] [some 0, some 1, some 2, some 3, some 4, none, some 5, some 6, none] hP hD hS hA rfl rfl rfl rfl (va_runV (As := [.int p0, .int p1]) (rest := []) ⟨hx, hb, hml, hown, hts⟩ (c_M_readMore l dC dI cI cB cS cT N a_mo a_mo_base a_mo_coefficients a_mo_lengths a_mo_codes a_mo_otherOf a_mo_data a_mo_h a_mo_v a_mo_across a_mo_down a_mo_ownAcross a_mo_ownDown a_mo_before0 a_mo_draftCounts a_mo_draft a_mo_words a_mo_directOf a_mo_out a_mo_times a_mo_prediction a_mo_runBits a_mo_toCome a_mo_timesKept mo_thrown mo_width mo_height mo_many mo_unitsAcross mo_unitsDown mo_drafts mo_mask mo_first mo_last mo_before mo_bits mo_interval mo_size mo_outs mo_part mo_parted mo_failed mo_counting mo_run mo_runMany mo_comes mo_at_j58 mo_taken_j58 mo_left_j58 mo_fault_j58 mo_base mo_coefficients_j58 mo_lengths mo_codes mo_otherOf mo_data p0 p1 H.size z1 hz1) ⟨(callB_of 2 hts (gi tw_1192 rfl) rfl rfl rfl (hts _ (List.mem_cons_of_mem _ tw_16)) (hts _ (List.mem_cons_of_mem _ tw_1189)) (by decide +kernel) ⟨Nat.le_of_ble_eq_true rfl, Nat.le_of_ble_eq_true rfl⟩), hts _ (List.mem_cons_of_mem _ tw_1191), hts _ (List.mem_cons_of_mem _ ts_m1192)⟩ ⟨g_blind, va_recv hK hP (ci := 11) (q0 := 0) rfl rfl, g_at hKN (g_pm hP [0, 1, 2, 3, 4, 6, 7] rfl) (hD.sub [0, 1, 2, 3, 4, 6, 7] (by decide) rfl)⟩ rfl rfl hl.1 rfl (lv_room (Nat.le_of_ble_eq_true rfl)) d_m1160_75 ⟨Nat.zero_le _, Nat.zero_le _⟩) (fun H locs hP hD hS => ?_)
        refine W.eq (g2 := F0 m 78 ls []) rfl ?_
        obtain rfl := Option.some.inj hf
        subst hQ
        subst hAe
        exact W.vret hx hb hr (fun t ht hW => ⟨⟨(), rfl, trivial, by rw [ht]; exact hP, hD⟩, hS.F ht⟩) hS.2.2 d_m1160_78
  have J52 : ∀ (mo_at_j52 : Int32) (mo_taken_j52 : Int32) (mo_left_j52 : Int32) (mo_fault_j52 : Int32) (mo_coefficients_j52 : Nat → Int32) (mo_prediction_j52 : Nat → Int32) (s1_j52 : Int32) (s2_j52 : Int32) (s3_j52 : Int32), f_M_readBlock_J52 N s1_j52 s2_j52 s3_j52 mo_first mo_last mo_bits mo_size mo_run mo_at_j52 mo_taken_j52 mo_left_j52 mo_fault_j52 mo_base mo_coefficients_j52 mo_lengths mo_codes mo_otherOf mo_data mo_prediction_j52 = some z → GW (dC, dI) A p l e (headSpec ws_m1160 rm_M_readBlock).room s m args below meth c 0 0 Q 3 52 (w_M_readBlock cI cB cS cT a_mo a_mo_base a_mo_coefficients a_mo_lengths a_mo_codes a_mo_directOf a_mo_otherOf a_mo_data a_mo_prediction a_mo_h a_mo_v a_mo_across a_mo_down a_mo_ownAcross a_mo_ownDown a_mo_before0 a_mo_draftCounts a_mo_draft a_mo_words a_mo_out a_mo_times a_mo_runBits a_mo_toCome a_mo_timesKept mo_thrown mo_width mo_height mo_many mo_unitsAcross mo_unitsDown mo_drafts mo_mask mo_first mo_last mo_before mo_bits mo_interval mo_size mo_outs mo_part mo_parted mo_failed mo_counting mo_run mo_runMany mo_comes mo_at_j52 mo_taken_j52 mo_left_j52 mo_fault_j52 mo_base mo_coefficients_j52 mo_lengths mo_codes mo_directOf mo_otherOf mo_data mo_prediction_j52) [] [.int s3_j52, .int s2_j52, .int s1_j52, .ref a_mo] := by
    intro mo_at_j52 mo_taken_j52 mo_left_j52 mo_fault_j52 mo_coefficients_j52 mo_prediction_j52 s1_j52 s2_j52 s3_j52 hf H locs ls hP hD hS hl
    unfold f_M_readBlock_J52 at hf
    obtain ⟨z2, hz2, hf⟩ := ob_bind hf
    refine g_callv (wc := (w_M_readOthers cI cB cS cT a_mo a_mo_base a_mo_coefficients a_mo_lengths a_mo_codes a_mo_otherOf a_mo_data a_mo_h a_mo_v a_mo_across a_mo_down a_mo_ownAcross a_mo_ownDown a_mo_before0 a_mo_draftCounts a_mo_draft a_mo_words a_mo_directOf a_mo_out a_mo_times a_mo_prediction a_mo_runBits a_mo_toCome a_mo_timesKept mo_thrown mo_width mo_height mo_many mo_unitsAcross mo_unitsDown mo_drafts mo_mask mo_first mo_last mo_before mo_bits mo_interval mo_size mo_outs mo_part mo_parted mo_failed mo_counting mo_run mo_runMany mo_comes mo_at_j52 mo_taken_j52 mo_left_j52 mo_fault_j52 mo_base mo_coefficients_j52 mo_lengths mo_codes mo_otherOf mo_data)) (w1 := (w_M_readOthers cI cB cS cT a_mo a_mo_base a_mo_coefficients a_mo_lengths a_mo_codes a_mo_otherOf a_mo_data a_mo_h a_mo_v a_mo_across a_mo_down a_mo_ownAcross a_mo_ownDown a_mo_before0 a_mo_draftCounts a_mo_draft a_mo_words a_mo_directOf a_mo_out a_mo_times a_mo_prediction a_mo_runBits a_mo_toCome a_mo_timesKept mo_thrown mo_width mo_height mo_many mo_unitsAcross mo_unitsDown mo_drafts mo_mask mo_first mo_last mo_before mo_bits mo_interval mo_size mo_outs mo_part mo_parted mo_failed mo_counting z2.1 mo_runMany mo_comes z2.2.1 z2.2.2.1 z2.2.2.2.1 z2.2.2.2.2.1 mo_base z2.2.2.2.2.2 mo_lengths mo_codes mo_otherOf mo_data)) (w2 := (w_M_readBlock cI cB cS cT a_mo a_mo_base a_mo_coefficients a_mo_lengths a_mo_codes a_mo_directOf a_mo_otherOf a_mo_data a_mo_prediction a_mo_h a_mo_v a_mo_across a_mo_down a_mo_ownAcross a_mo_ownDown a_mo_before0 a_mo_draftCounts a_mo_draft a_mo_words a_mo_out a_mo_times a_mo_runBits a_mo_toCome a_mo_timesKept mo_thrown mo_width mo_height mo_many mo_unitsAcross mo_unitsDown mo_drafts mo_mask mo_first mo_last mo_before mo_bits mo_interval mo_size mo_outs mo_part mo_parted mo_failed mo_counting z2.1 mo_runMany mo_comes z2.2.1 z2.2.2.1 z2.2.2.2.1 z2.2.2.2.2.1 mo_base z2.2.2.2.2.2 mo_lengths mo_codes mo_directOf mo_otherOf mo_data mo_prediction_j52)) [0, 1, 2, 3, 4, 6, 7] [some 0, some 1, some 2, some 3, some 4, none, some 5, some 6, none] hP hD hS hA rfl rfl rfl rfl (va_runV (As := [.int s1_j52, .int s2_j52, .int s3_j52]) (rest := []) ⟨hx, hb, hml, hown, hts⟩ (c_M_readOthers l dC dI cI cB cS cT N a_mo a_mo_base a_mo_coefficients a_mo_lengths a_mo_codes a_mo_otherOf a_mo_data a_mo_h a_mo_v a_mo_across a_mo_down a_mo_ownAcross a_mo_ownDown a_mo_before0 a_mo_draftCounts a_mo_draft a_mo_words a_mo_directOf a_mo_out a_mo_times a_mo_prediction a_mo_runBits a_mo_toCome a_mo_timesKept mo_thrown mo_width mo_height mo_many mo_unitsAcross mo_unitsDown mo_drafts mo_mask mo_first mo_last mo_before mo_bits mo_interval mo_size mo_outs mo_part mo_parted mo_failed mo_counting mo_run mo_runMany mo_comes mo_at_j52 mo_taken_j52 mo_left_j52 mo_fault_j52 mo_base mo_coefficients_j52 mo_lengths mo_codes mo_otherOf mo_data s1_j52 s2_j52 s3_j52 H.size z2 hz2) ⟨(callB_of 3 hts (gi tw_1188 rfl) rfl rfl rfl (hts _ (List.mem_cons_of_mem _ tw_16)) (hts _ (List.mem_cons_of_mem _ tw_1185)) (by decide +kernel) ⟨Nat.le_of_ble_eq_true rfl, Nat.le_of_ble_eq_true rfl⟩), hts _ (List.mem_cons_of_mem _ tw_1187), hts _ (List.mem_cons_of_mem _ ts_m1188)⟩ ⟨g_blind, va_recv hK hP (ci := 11) (q0 := 0) rfl rfl, g_at hKN (g_pm hP [0, 1, 2, 3, 4, 6, 7] rfl) (hD.sub [0, 1, 2, 3, 4, 6, 7] (by decide) rfl)⟩ rfl rfl hl.1 rfl (lv_room (Nat.le_of_ble_eq_true rfl)) d_m1160_52 ⟨Nat.zero_le _, Nat.zero_le _⟩) (fun H locs hP hD hS => ?_)
    refine W.eq (g2 := F0 m 55 ls []) rfl ?_
    refine lv_goto (tgt := 78) hx hb d_m1160_55 (by decide) ?_
    obtain rfl := Option.some.inj hf
    subst hQ
    subst hAe
    exact W.vret hx hb hr (fun t ht hW => ⟨⟨(), rfl, trivial, by rw [ht]; exact hP, hD⟩, hS.F ht⟩) hS.2.2 d_m1160_78
  have J13 : ∀ (mo_at_j13 : Int32) (mo_taken_j13 : Int32) (mo_left_j13 : Int32) (mo_fault_j13 : Int32) (mo_coefficients_j13 : Nat → Int32) (mo_prediction_j13 : Nat → Int32), f_M_readBlock_J13 N mo_last mo_run mo_at_j13 mo_taken_j13 mo_left_j13 mo_fault_j13 mo_coefficients_j13 mo_prediction_j13 p0 p1 mo_first mo_bits mo_size mo_base mo_lengths mo_codes mo_otherOf mo_data mo_before = some z → GW (dC, dI) A p l e (headSpec ws_m1160 rm_M_readBlock).room s m args below meth c 0 0 Q 3 13 (w_M_readBlock cI cB cS cT a_mo a_mo_base a_mo_coefficients a_mo_lengths a_mo_codes a_mo_directOf a_mo_otherOf a_mo_data a_mo_prediction a_mo_h a_mo_v a_mo_across a_mo_down a_mo_ownAcross a_mo_ownDown a_mo_before0 a_mo_draftCounts a_mo_draft a_mo_words a_mo_out a_mo_times a_mo_runBits a_mo_toCome a_mo_timesKept mo_thrown mo_width mo_height mo_many mo_unitsAcross mo_unitsDown mo_drafts mo_mask mo_first mo_last mo_before mo_bits mo_interval mo_size mo_outs mo_part mo_parted mo_failed mo_counting mo_run mo_runMany mo_comes mo_at_j13 mo_taken_j13 mo_left_j13 mo_fault_j13 mo_base mo_coefficients_j13 mo_lengths mo_codes mo_directOf mo_otherOf mo_data mo_prediction_j13) [(0, .ref a_mo), (1, .int p0), (2, .int p1)] [] := by
    intro mo_at_j13 mo_taken_j13 mo_left_j13 mo_fault_j13 mo_coefficients_j13 mo_prediction_j13 hf H locs ls hP hD hS hl
    unfold f_M_readBlock_J13 at hf
    refine lv_aload_n hx hb d_m1160_13 rfl (lv_at hl 0 rfl) ?_
    refine va_get (D := (dC, dI)) (ci := 11) (v := .int mo_last) (C := "ScanCoderModel") (T := T_11) (N := 49) hx hb hts n0 hown hK hP 0 rfl rfl 25 (by decide) k1 (fun _ h9 => h9) rfl d_m1160_14 ?_
    refine lv_if_le (tgt := 58) hx hb d_m1160_17 (by decide) (fun hc => ?_) (fun hc => ?_)
    · replace hf := (if_pos hc).symm.trans hf
      exact J58 mo_at_j13 mo_taken_j13 mo_left_j13 mo_fault_j13 mo_coefficients_j13 mo_prediction_j13 hf H locs ls hP hD hS hl
    · replace hf := (if_neg hc).symm.trans hf
      refine lv_aload_n hx hb d_m1160_20 rfl (lv_at hl 0 rfl) ?_
      refine va_get (D := (dC, dI)) (ci := 11) (v := .int mo_before) (C := "ScanCoderModel") (T := T_11) (N := 49) hx hb hts n0 hown hK hP 0 rfl rfl 26 (by decide) k3 (fun _ h9 => h9) rfl d_m1160_21 ?_
      refine lv_if_ne (tgt := 58) hx hb d_m1160_24 (by decide) (fun hc => ?_) (fun hc => ?_)
      · replace hf := (if_neg hc).symm.trans hf
        exact J58 mo_at_j13 mo_taken_j13 mo_left_j13 mo_fault_j13 mo_coefficients_j13 mo_prediction_j13 hf H locs ls hP hD hS hl
      · replace hf := (if_pos hc).symm.trans hf
        refine lv_aload_n hx hb d_m1160_27 rfl (lv_at hl 0 rfl) ?_
        refine va_get (D := (dC, dI)) (ci := 11) (v := .int mo_fault_j13) (C := "ScanCoderModel") (T := T_11) (N := 49) hx hb hts n0 hown hK hP 0 rfl rfl 47 (by decide) k2 (fun _ h9 => h9) rfl d_m1160_28 ?_
        refine lv_if_ne (tgt := 58) hx hb d_m1160_31 (by decide) (fun hc => ?_) (fun hc => ?_)
        · replace hf := (if_neg hc).symm.trans hf
          exact J58 mo_at_j13 mo_taken_j13 mo_left_j13 mo_fault_j13 mo_coefficients_j13 mo_prediction_j13 hf H locs ls hP hD hS hl
        · replace hf := (if_pos hc).symm.trans hf
          refine lv_aload_n hx hb d_m1160_34 rfl (lv_at hl 0 rfl) ?_
          refine lv_iload_n hx hb d_m1160_35 rfl (lv_at hl 1 rfl) ?_
          refine lv_iload_n hx hb d_m1160_36 rfl (lv_at hl 2 rfl) ?_
          refine lv_aload_n hx hb d_m1160_37 rfl (lv_at hl 0 rfl) ?_
          refine va_get (D := (dC, dI)) (ci := 11) (v := .int mo_first) (C := "ScanCoderModel") (T := T_11) (N := 49) hx hb hts n0 hown hK hP 0 rfl rfl 24 (by decide) k0 (fun _ h9 => h9) rfl d_m1160_38 ?_
          refine lv_if_ne (tgt := 48) hx hb d_m1160_41 (by decide) (fun hc => ?_) (fun hc => ?_)
          · replace hf := (if_neg hc).symm.trans hf
            refine lv_aload_n hx hb d_m1160_48 rfl (lv_at hl 0 rfl) ?_
            refine va_get (D := (dC, dI)) (ci := 11) (v := .int mo_first) (C := "ScanCoderModel") (T := T_11) (N := 49) hx hb hts n0 hown hK hP 0 rfl rfl 24 (by decide) k0 (fun _ h9 => h9) rfl d_m1160_49 ?_
            exact J52 mo_at_j13 mo_taken_j13 mo_left_j13 mo_fault_j13 mo_coefficients_j13 mo_prediction_j13 p0 p1 mo_first hf H locs ls hP hD hS (lv_sub hl [] rfl)
          · replace hf := (if_pos hc).symm.trans hf
            refine lv_iconst (v := (1 : Int32)) hx hb d_m1160_44 (by decide) ?_
            refine lv_goto (tgt := 52) hx hb d_m1160_45 (by decide) ?_
            exact J52 mo_at_j13 mo_taken_j13 mo_left_j13 mo_fault_j13 mo_coefficients_j13 mo_prediction_j13 p0 p1 (1 : Int32) hf H locs ls hP hD hS (lv_sub hl [] rfl)
  have hgo : ∀ (H : Heap) (locs : List Loc), va_P (dC, dI) vwCl (w_M_readBlock cI cB cS cT a_mo a_mo_base a_mo_coefficients a_mo_lengths a_mo_codes a_mo_directOf a_mo_otherOf a_mo_data a_mo_prediction a_mo_h a_mo_v a_mo_across a_mo_down a_mo_ownAcross a_mo_ownDown a_mo_before0 a_mo_draftCounts a_mo_draft a_mo_words a_mo_out a_mo_times a_mo_runBits a_mo_toCome a_mo_timesKept mo_thrown mo_width mo_height mo_many mo_unitsAcross mo_unitsDown mo_drafts mo_mask mo_first mo_last mo_before mo_bits mo_interval mo_size mo_outs mo_part mo_parted mo_failed mo_counting mo_run mo_runMany mo_comes mo_at mo_taken mo_left mo_fault mo_base mo_coefficients mo_lengths mo_codes mo_directOf mo_otherOf mo_data mo_prediction) H → va_S A s.heap H locs → W p l e (headSpec ws_m1160 rm_M_readBlock).room s m args below meth c H locs 0 0 Q (F0 m 0 ls []) := by
    intro H locs hP hS
    unfold f_M_readBlock at hf
    refine lv_aload_n hx hb d_m1160_0 rfl (lv_at hl 0 rfl) ?_
    refine va_get (D := (dC, dI)) (ci := 11) (v := .int mo_first) (C := "ScanCoderModel") (T := T_11) (N := 49) hx hb hts n0 hown hK hP 0 rfl rfl 24 (by decide) k0 (fun _ h9 => h9) rfl d_m1160_1 ?_
    refine lv_if_ne (tgt := 13) hx hb d_m1160_4 (by decide) (fun hc => ?_) (fun hc => ?_)
    · replace hf := (if_neg hc).symm.trans hf
      exact J13 mo_at mo_taken mo_left mo_fault mo_coefficients mo_prediction hf H locs ls hP hD hS hl
    · replace hf := (if_pos hc).symm.trans hf
      refine lv_aload_n hx hb d_m1160_7 rfl (lv_at hl 0 rfl) ?_
      refine lv_iload_n hx hb d_m1160_8 rfl (lv_at hl 1 rfl) ?_
      refine lv_iload_n hx hb d_m1160_9 rfl (lv_at hl 2 rfl) ?_
      obtain ⟨z3, hz3, hf⟩ := ob_bind hf
      refine g_callv (wc := (w_M_readDirect cI cB cS cT a_mo a_mo_base a_mo_coefficients a_mo_lengths a_mo_codes a_mo_directOf a_mo_data a_mo_prediction a_mo_h a_mo_v a_mo_across a_mo_down a_mo_ownAcross a_mo_ownDown a_mo_before0 a_mo_draftCounts a_mo_draft a_mo_words a_mo_otherOf a_mo_out a_mo_times a_mo_runBits a_mo_toCome a_mo_timesKept mo_thrown mo_width mo_height mo_many mo_unitsAcross mo_unitsDown mo_drafts mo_mask mo_first mo_last mo_before mo_bits mo_interval mo_size mo_outs mo_part mo_parted mo_failed mo_counting mo_run mo_runMany mo_comes mo_at mo_taken mo_left mo_fault mo_base mo_coefficients mo_lengths mo_codes mo_directOf mo_data mo_prediction)) (w1 := (w_M_readDirect cI cB cS cT a_mo a_mo_base a_mo_coefficients a_mo_lengths a_mo_codes a_mo_directOf a_mo_data a_mo_prediction a_mo_h a_mo_v a_mo_across a_mo_down a_mo_ownAcross a_mo_ownDown a_mo_before0 a_mo_draftCounts a_mo_draft a_mo_words a_mo_otherOf a_mo_out a_mo_times a_mo_runBits a_mo_toCome a_mo_timesKept mo_thrown mo_width mo_height mo_many mo_unitsAcross mo_unitsDown mo_drafts mo_mask mo_first mo_last mo_before mo_bits mo_interval mo_size mo_outs mo_part mo_parted mo_failed mo_counting mo_run mo_runMany mo_comes z3.1 z3.2.1 z3.2.2.1 z3.2.2.2.1 mo_base z3.2.2.2.2.1 mo_lengths mo_codes mo_directOf mo_data z3.2.2.2.2.2)) (w2 := (w_M_readBlock cI cB cS cT a_mo a_mo_base a_mo_coefficients a_mo_lengths a_mo_codes a_mo_directOf a_mo_otherOf a_mo_data a_mo_prediction a_mo_h a_mo_v a_mo_across a_mo_down a_mo_ownAcross a_mo_ownDown a_mo_before0 a_mo_draftCounts a_mo_draft a_mo_words a_mo_out a_mo_times a_mo_runBits a_mo_toCome a_mo_timesKept mo_thrown mo_width mo_height mo_many mo_unitsAcross mo_unitsDown mo_drafts mo_mask mo_first mo_last mo_before mo_bits mo_interval mo_size mo_outs mo_part mo_parted mo_failed mo_counting mo_run mo_runMany mo_comes z3.1 z3.2.1 z3.2.2.1 z3.2.2.2.1 mo_base z3.2.2.2.2.1 mo_lengths mo_codes mo_directOf mo_otherOf mo_data z3.2.2.2.2.2)) [0, 1, 2, 3, 4, 5, 7, 8] [some 0, some 1, some 2, some 3, some 4, some 5, none, some 6, some 7] hP hD hS hA rfl rfl rfl rfl (va_runV (As := [.int p0, .int p1]) (rest := []) ⟨hx, hb, hml, hown, hts⟩ (c_M_readDirect l dC dI cI cB cS cT N a_mo a_mo_base a_mo_coefficients a_mo_lengths a_mo_codes a_mo_directOf a_mo_data a_mo_prediction a_mo_h a_mo_v a_mo_across a_mo_down a_mo_ownAcross a_mo_ownDown a_mo_before0 a_mo_draftCounts a_mo_draft a_mo_words a_mo_otherOf a_mo_out a_mo_times a_mo_runBits a_mo_toCome a_mo_timesKept mo_thrown mo_width mo_height mo_many mo_unitsAcross mo_unitsDown mo_drafts mo_mask mo_first mo_last mo_before mo_bits mo_interval mo_size mo_outs mo_part mo_parted mo_failed mo_counting mo_run mo_runMany mo_comes mo_at mo_taken mo_left mo_fault mo_base mo_coefficients mo_lengths mo_codes mo_directOf mo_data mo_prediction p0 p1 H.size z3 hz3) ⟨(callB_of 2 hts (gi tw_1164 rfl) rfl rfl rfl (hts _ (List.mem_cons_of_mem _ tw_16)) (hts _ (List.mem_cons_of_mem _ tw_1161)) (by decide +kernel) ⟨Nat.le_of_ble_eq_true rfl, Nat.le_of_ble_eq_true rfl⟩), hts _ (List.mem_cons_of_mem _ tw_1163), hts _ (List.mem_cons_of_mem _ ts_m1164)⟩ ⟨g_blind, va_recv hK hP (ci := 11) (q0 := 0) rfl rfl, g_at hKN (g_pm hP [0, 1, 2, 3, 4, 5, 7, 8] rfl) (hD.sub [0, 1, 2, 3, 4, 5, 7, 8] (by decide) rfl)⟩ rfl rfl hl.1 rfl (lv_room (Nat.le_of_ble_eq_true rfl)) d_m1160_10 ⟨Nat.zero_le _, Nat.zero_le _⟩) (fun H locs hP hD hS => ?_)
      refine W.eq (g2 := F0 m 13 ls []) rfl ?_
      exact J13 z3.1 z3.2.1 z3.2.2.1 z3.2.2.2.1 z3.2.2.2.2.1 z3.2.2.2.2.2 hf H locs ls hP hD hS hl
  exact hgo _ _ hP hS
def f_M_finish_J15_44 (N : Nat) (rec : (Int32 × Int32) → Option (Int32)) (s0_j44 : Int32) (v3_15 : Int32) : Option (Int32) :=
  rec (s0_j44, v3_15 + (1 : Int32))
def f_M_finish_J15_43 (N : Nat) (rec : (Int32 × Int32) → Option (Int32)) (v3_15 : Int32) : Option (Int32) :=
  f_M_finish_J15_44 N rec (0 : Int32) v3_15
def f_M_finish_L15b (mo_left : Int32) (mo_taken : Int32) (N : Nat) (rec : (Int32 × Int32) → Option (Int32)) (v2_15 : Int32) (v3_15 : Int32) : Option (Int32) :=
  if mo_left ≤ v3_15 then
    some v2_15
  else
    if v2_15 = 0 then
      f_M_finish_J15_43 N rec v3_15
    else
      if ((mo_taken >>> (v3_15 &&& 31)) &&& (1 : Int32)) = (1 : Int32) then
        f_M_finish_J15_44 N rec (1 : Int32) v3_15
      else
        f_M_finish_J15_43 N rec v3_15
def f_M_finish_L15 (mo_left : Int32) (mo_taken : Int32) (N : Nat) (k : Nat) : (Int32 × Int32) → Option (Int32) := it (fun rec a => f_M_finish_L15b mo_left mo_taken N rec a.1 a.2) k
def f_M_finish_J141 (N : Nat) (s1_j141 : Int32) (s2_j141 : Int32) (mo_left_j141 : Int32) (mo_fault_j141 : Int32) : Option (Int32 × Int32 × Int32) :=
  some (s1_j141 + s2_j141, mo_left_j141, mo_fault_j141)
def f_M_finish_J122 (N : Nat) (p0 : Int32) (mo_at : Int32) (mo_fault_j122 : Int32) : Option (Int32 × Int32 × Int32) :=
  if p0 = 0 then
    f_M_finish_J141 N mo_at (0 : Int32) (0 : Int32) mo_fault_j122
  else
    f_M_finish_J141 N mo_at (2 : Int32) (0 : Int32) mo_fault_j122
def f_M_finish_J104 (N : Nat) (s0_j104 : Int32) (mo_fault : Int32) (p0 : Int32) (mo_at : Int32) : Option (Int32 × Int32 × Int32) :=
  if s0_j104 = 0 then
    if mo_fault = 0 then
      (f_M_wrong (5 : Int32) mo_fault).bind fun z2 =>
      f_M_finish_J122 N p0 mo_at z2.2
    else
      f_M_finish_J122 N p0 mo_at mo_fault
  else
    f_M_finish_J122 N p0 mo_at mo_fault
def f_M_finish_J103 (N : Nat) (mo_fault : Int32) (p0 : Int32) (mo_at : Int32) : Option (Int32 × Int32 × Int32) :=
  f_M_finish_J104 N (0 : Int32) mo_fault p0 mo_at
def f_M_finish_J99 (N : Nat) (mo_fault : Int32) (p0 : Int32) (mo_at : Int32) : Option (Int32 × Int32 × Int32) :=
  f_M_finish_J104 N (1 : Int32) mo_fault p0 mo_at
def f_M_finish_J12 (N : Nat) (mo_left : Int32) (mo_taken : Int32) (s0_j12 : Int32) (mo_fault : Int32) (p0 : Int32) (mo_at : Int32) (mo_size : Int32) (mo_data : Nat → Int32) : Option (Int32 × Int32 × Int32) :=
  (f_M_finish_L15 mo_left mo_taken N N (s0_j12, (0 : Int32))).bind fun z1 =>
    if z1 = 0 then
    f_M_finish_J103 N mo_fault p0 mo_at
  else
    if p0 = 0 then
      if mo_at = mo_size then
        f_M_finish_J99 N mo_fault p0 mo_at
      else
        f_M_finish_J103 N mo_fault p0 mo_at
    else
      (f_M_atRestart mo_size mo_at mo_data).bind fun z3 =>
      if z3 = 0 then
        f_M_finish_J103 N mo_fault p0 mo_at
      else
        if (mo_at + (1 : Int32)) < 0 ∨ 16384 ≤ (mo_at + (1 : Int32)).toNatClampNeg then none else
        if ((mo_data (mo_at + (1 : Int32)).toNatClampNeg) &&& (255 : Int32)) = p0 then
          f_M_finish_J99 N mo_fault p0 mo_at
        else
          f_M_finish_J103 N mo_fault p0 mo_at
def f_M_finish (N : Nat) (p0 : Int32) (mo_size : Int32) (mo_run : Int32) (mo_at : Int32) (mo_taken : Int32) (mo_left : Int32) (mo_fault : Int32) (mo_data : Nat → Int32) : Option (Int32 × Int32 × Int32) :=
  if mo_run = 0 then
    f_M_finish_J12 N mo_left mo_taken (1 : Int32) mo_fault p0 mo_at mo_size mo_data
  else
    f_M_finish_J12 N mo_left mo_taken (0 : Int32) mo_fault p0 mo_at mo_size mo_data
abbrev w_M_finish (cI cB cS cT : ClassId) (a_mo : Nat) (a_mo_data : Nat) (a_mo_h : Nat) (a_mo_v : Nat) (a_mo_across : Nat) (a_mo_down : Nat) (a_mo_ownAcross : Nat) (a_mo_ownDown : Nat) (a_mo_base : Nat) (a_mo_coefficients : Nat) (a_mo_before0 : Nat) (a_mo_draftCounts : Nat) (a_mo_draft : Nat) (a_mo_words : Nat) (a_mo_lengths : Nat) (a_mo_codes : Nat) (a_mo_directOf : Nat) (a_mo_otherOf : Nat) (a_mo_out : Nat) (a_mo_times : Nat) (a_mo_prediction : Nat) (a_mo_runBits : Nat) (a_mo_toCome : Nat) (a_mo_timesKept : Nat) (mo_thrown : Int32) (mo_width : Int32) (mo_height : Int32) (mo_many : Int32) (mo_unitsAcross : Int32) (mo_unitsDown : Int32) (mo_drafts : Int32) (mo_mask : Int32) (mo_first : Int32) (mo_last : Int32) (mo_before : Int32) (mo_bits : Int32) (mo_interval : Int32) (mo_size : Int32) (mo_outs : Int32) (mo_part : Int32) (mo_parted : Int32) (mo_failed : Int32) (mo_counting : Int32) (mo_run : Int32) (mo_runMany : Int32) (mo_comes : Int32) (mo_at : Int32) (mo_taken : Int32) (mo_left : Int32) (mo_fault : Int32) (mo_data : Nat → Int32) : va_W := [(a_mo, .inr (11, [.int mo_thrown, .int mo_width, .int mo_height, .int mo_many, .ref a_mo_h, .ref a_mo_v, .ref a_mo_across, .ref a_mo_down, .ref a_mo_ownAcross, .ref a_mo_ownDown, .ref a_mo_base, .int mo_unitsAcross, .int mo_unitsDown, .ref a_mo_coefficients, .ref a_mo_before0, .ref a_mo_draftCounts, .ref a_mo_draft, .int mo_drafts, .ref a_mo_words, .ref a_mo_lengths, .ref a_mo_codes, .ref a_mo_directOf, .ref a_mo_otherOf, .int mo_mask, .int mo_first, .int mo_last, .int mo_before, .int mo_bits, .int mo_interval, .ref a_mo_data, .int mo_size, .ref a_mo_out, .int mo_outs, .int mo_part, .int mo_parted, .int mo_failed, .int mo_counting, .ref a_mo_times, .ref a_mo_prediction, .int mo_run, .ref a_mo_runBits, .int mo_runMany, .ref a_mo_toCome, .int mo_comes, .int mo_at, .int mo_taken, .int mo_left, .int mo_fault, .ref a_mo_timesKept])), (a_mo_data, .inl (cB, 16384, .inl mo_data))]
def rm_M_finish : Room := { frames := 1, cells := 0, slots := 0, locals := 21 }
set_option maxHeartbeats 1000000 in
set_option maxRecDepth 100000 in
theorem c_M_finish (l : Launch) (dC : Nat → ClassId) (dI : Nat → Nat → Nat) (cI cB cS cT : ClassId) (N : Nat) (a_mo : Nat) (a_mo_data : Nat) (a_mo_h : Nat) (a_mo_v : Nat) (a_mo_across : Nat) (a_mo_down : Nat) (a_mo_ownAcross : Nat) (a_mo_ownDown : Nat) (a_mo_base : Nat) (a_mo_coefficients : Nat) (a_mo_before0 : Nat) (a_mo_draftCounts : Nat) (a_mo_draft : Nat) (a_mo_words : Nat) (a_mo_lengths : Nat) (a_mo_codes : Nat) (a_mo_directOf : Nat) (a_mo_otherOf : Nat) (a_mo_out : Nat) (a_mo_times : Nat) (a_mo_prediction : Nat) (a_mo_runBits : Nat) (a_mo_toCome : Nat) (a_mo_timesKept : Nat) (mo_thrown : Int32) (mo_width : Int32) (mo_height : Int32) (mo_many : Int32) (mo_unitsAcross : Int32) (mo_unitsDown : Int32) (mo_drafts : Int32) (mo_mask : Int32) (mo_first : Int32) (mo_last : Int32) (mo_before : Int32) (mo_bits : Int32) (mo_interval : Int32) (mo_size : Int32) (mo_outs : Int32) (mo_part : Int32) (mo_parted : Int32) (mo_failed : Int32) (mo_counting : Int32) (mo_run : Int32) (mo_runMany : Int32) (mo_comes : Int32) (mo_at : Int32) (mo_taken : Int32) (mo_left : Int32) (mo_fault : Int32) (mo_data : Nat → Int32) (p0 : Int32) (sz : Nat) (z : Int32 × Int32 × Int32) (hf : f_M_finish N p0 mo_size mo_run mo_at mo_taken mo_left mo_fault mo_data = some z) : Met l y_m1148 ws_m1148 rm_M_finish (gPre (dC, dI) [.ref a_mo, .int p0] (gT cI cB cS cT) (w_M_finish cI cB cS cT a_mo a_mo_data a_mo_h a_mo_v a_mo_across a_mo_down a_mo_ownAcross a_mo_ownDown a_mo_base a_mo_coefficients a_mo_before0 a_mo_draftCounts a_mo_draft a_mo_words a_mo_lengths a_mo_codes a_mo_directOf a_mo_otherOf a_mo_out a_mo_times a_mo_prediction a_mo_runBits a_mo_toCome a_mo_timesKept mo_thrown mo_width mo_height mo_many mo_unitsAcross mo_unitsDown mo_drafts mo_mask mo_first mo_last mo_before mo_bits mo_interval mo_size mo_outs mo_part mo_parted mo_failed mo_counting mo_run mo_runMany mo_comes mo_at mo_taken mo_left mo_fault mo_data) sz) (gQv (dC, dI) (gT cI cB cS cT) (w_M_finish cI cB cS cT a_mo a_mo_data a_mo_h a_mo_v a_mo_across a_mo_down a_mo_ownAcross a_mo_ownDown a_mo_base a_mo_coefficients a_mo_before0 a_mo_draftCounts a_mo_draft a_mo_words a_mo_lengths a_mo_codes a_mo_directOf a_mo_otherOf a_mo_out a_mo_times a_mo_prediction a_mo_runBits a_mo_toCome a_mo_timesKept mo_thrown mo_width mo_height mo_many mo_unitsAcross mo_unitsDown mo_drafts mo_mask mo_first mo_last mo_before mo_bits mo_interval mo_size mo_outs mo_part mo_parted mo_failed mo_counting mo_run mo_runMany mo_comes mo_at mo_taken mo_left mo_fault mo_data) (w_M_finish cI cB cS cT a_mo a_mo_data a_mo_h a_mo_v a_mo_across a_mo_down a_mo_ownAcross a_mo_ownDown a_mo_base a_mo_coefficients a_mo_before0 a_mo_draftCounts a_mo_draft a_mo_words a_mo_lengths a_mo_codes a_mo_directOf a_mo_otherOf a_mo_out a_mo_times a_mo_prediction a_mo_runBits a_mo_toCome a_mo_timesKept mo_thrown mo_width mo_height mo_many mo_unitsAcross mo_unitsDown mo_drafts mo_mask mo_first mo_last mo_before mo_bits mo_interval mo_size mo_outs mo_part mo_parted mo_failed mo_counting mo_run mo_runMany mo_comes z.1 mo_taken z.2.1 z.2.2 mo_data) sz) 0 0 (va_A (w_M_finish cI cB cS cT a_mo a_mo_data a_mo_h a_mo_v a_mo_across a_mo_down a_mo_ownAcross a_mo_ownDown a_mo_base a_mo_coefficients a_mo_before0 a_mo_draftCounts a_mo_draft a_mo_words a_mo_lengths a_mo_codes a_mo_directOf a_mo_otherOf a_mo_out a_mo_times a_mo_prediction a_mo_runBits a_mo_toCome a_mo_timesKept mo_thrown mo_width mo_height mo_many mo_unitsAcross mo_unitsDown mo_drafts mo_mask mo_first mo_last mo_before mo_bits mo_interval mo_size mo_outs mo_part mo_parted mo_failed mo_counting mo_run mo_runMany mo_comes mo_at mo_taken mo_left mo_fault mo_data) sz) := by
  refine Met.ofW (cc := prog_14_method_58_code) (maxL := 4) (ret := none) (by decide) rfl ?_
  intro p e s m args below meth c s₁ B hml hv
  obtain ⟨hargs, hsz, hP, hKN, hD0⟩ := hv
  have hK := hKN.1
  have hx := B.exec
  have hb := B.bytes
  have hr := B.returns
  have hts := atoms_spec (ws := ws_m1148) B.pre
  have hown : s.vm.findClass "ScanCoderModel" = some m.cls := findClass_of_methodNamed B.named
  have hlocks := B.notSynchronized
  have k0 := hts _ (List.mem_cons_of_mem _ tw_873)
  have k1 := hts _ (List.mem_cons_of_mem _ tw_880)
  have k2 := hts _ (List.mem_cons_of_mem _ tw_879)
  have k3 := hts _ (List.mem_cons_of_mem _ tw_878)
  have k4 := hts _ (List.mem_cons_of_mem _ tw_881)
  have k5 := hts _ (List.mem_cons_of_mem _ tw_863)
  have k6 := hts _ (List.mem_cons_of_mem _ tw_864)
  have n0 : ∀ w ∈ u_ws "ScanCoderModel" T_11 49, w ∈ ws_m1148 := fun w h => List.mem_cons_of_mem _ (in_11 w h)
  subst hsz
  have hD := hD0.self (sz := s.heap.size)
  obtain ⟨A, hAe⟩ : ∃ A : Nat → Prop, va_A (w_M_finish cI cB cS cT a_mo a_mo_data a_mo_h a_mo_v a_mo_across a_mo_down a_mo_ownAcross a_mo_ownDown a_mo_base a_mo_coefficients a_mo_before0 a_mo_draftCounts a_mo_draft a_mo_words a_mo_lengths a_mo_codes a_mo_directOf a_mo_otherOf a_mo_out a_mo_times a_mo_prediction a_mo_runBits a_mo_toCome a_mo_timesKept mo_thrown mo_width mo_height mo_many mo_unitsAcross mo_unitsDown mo_drafts mo_mask mo_first mo_last mo_before mo_bits mo_interval mo_size mo_outs mo_part mo_parted mo_failed mo_counting mo_run mo_runMany mo_comes mo_at mo_taken mo_left mo_fault mo_data) s.heap.size = A := ⟨_, rfl⟩
  rw [hAe] at hD
  have hA : ∀ q : Nat, s.heap.size ≤ q → A q := fun q h => by rw [← hAe]; exact Or.inr h
  have hS : va_S A s.heap s.heap [] := va_S.rf
  have hl := lv_entry ([.ref a_mo, .int p0]) (n := 4) (Nat.le_of_ble_eq_true rfl)
  have hfr : entryFrame m args 4 = F0 m 0 ((lg_sl ([.ref a_mo, .int p0]) ++ List.replicate (4 - (lg_sl ([.ref a_mo, .int p0])).length) Slot.unset).toArray) [] := by rw [hargs]; exact lg_entry_eq _ _ _
  rw [hfr]
  generalize (lg_sl ([.ref a_mo, .int p0]) ++ List.replicate (4 - (lg_sl ([.ref a_mo, .int p0])).length) Slot.unset).toArray = ls at hl ⊢
  have hl : lv_has ls 4 [(0, .ref a_mo), (1, .int p0)] := hl
  refine gen_Q (fun Q hQ => ?_)
  clear hfr
  have L15 : ∀  (z : Int32), (GW (dC, dI) A p l e (headSpec ws_m1148 rm_M_finish).room s m args below meth c 0 0 Q 4 51 (w_M_finish cI cB cS cT a_mo a_mo_data a_mo_h a_mo_v a_mo_across a_mo_down a_mo_ownAcross a_mo_ownDown a_mo_base a_mo_coefficients a_mo_before0 a_mo_draftCounts a_mo_draft a_mo_words a_mo_lengths a_mo_codes a_mo_directOf a_mo_otherOf a_mo_out a_mo_times a_mo_prediction a_mo_runBits a_mo_toCome a_mo_timesKept mo_thrown mo_width mo_height mo_many mo_unitsAcross mo_unitsDown mo_drafts mo_mask mo_first mo_last mo_before mo_bits mo_interval mo_size mo_outs mo_part mo_parted mo_failed mo_counting mo_run mo_runMany mo_comes mo_at mo_taken mo_left mo_fault mo_data) [(0, .ref a_mo), (1, .int p0), (2, .int z)] []) → ∀ (k : Nat) (v2_15 : Int32) (v3_15 : Int32), f_M_finish_L15 mo_left mo_taken N k (v2_15, v3_15) = some z → GW (dC, dI) A p l e (headSpec ws_m1148 rm_M_finish).room s m args below meth c 0 0 Q 4 15 (w_M_finish cI cB cS cT a_mo a_mo_data a_mo_h a_mo_v a_mo_across a_mo_down a_mo_ownAcross a_mo_ownDown a_mo_base a_mo_coefficients a_mo_before0 a_mo_draftCounts a_mo_draft a_mo_words a_mo_lengths a_mo_codes a_mo_directOf a_mo_otherOf a_mo_out a_mo_times a_mo_prediction a_mo_runBits a_mo_toCome a_mo_timesKept mo_thrown mo_width mo_height mo_many mo_unitsAcross mo_unitsDown mo_drafts mo_mask mo_first mo_last mo_before mo_bits mo_interval mo_size mo_outs mo_part mo_parted mo_failed mo_counting mo_run mo_runMany mo_comes mo_at mo_taken mo_left mo_fault mo_data) [(0, .ref a_mo), (1, .int p0), (2, .int v2_15), (3, .int v3_15)] [] := by
    intro  z hE0 k
    induction k with
    | zero =>
      intro v2_15 v3_15 hf
      exact (it_zero hf).elim
    | succ k ih =>
      intro v2_15 v3_15 hf H locs ls hP hD hS hl
      have J15_44 : ∀ (s0_j44 : Int32), f_M_finish_J15_44 N (f_M_finish_L15 mo_left mo_taken N k) s0_j44 v3_15 = some z → GW (dC, dI) A p l e (headSpec ws_m1148 rm_M_finish).room s m args below meth c 0 0 Q 4 44 (w_M_finish cI cB cS cT a_mo a_mo_data a_mo_h a_mo_v a_mo_across a_mo_down a_mo_ownAcross a_mo_ownDown a_mo_base a_mo_coefficients a_mo_before0 a_mo_draftCounts a_mo_draft a_mo_words a_mo_lengths a_mo_codes a_mo_directOf a_mo_otherOf a_mo_out a_mo_times a_mo_prediction a_mo_runBits a_mo_toCome a_mo_timesKept mo_thrown mo_width mo_height mo_many mo_unitsAcross mo_unitsDown mo_drafts mo_mask mo_first mo_last mo_before mo_bits mo_interval mo_size mo_outs mo_part mo_parted mo_failed mo_counting mo_run mo_runMany mo_comes mo_at mo_taken mo_left mo_fault mo_data) [(0, .ref a_mo), (1, .int p0), (3, .int v3_15)] [.int s0_j44] := by
        intro s0_j44 hf H locs ls hP hD hS hl
        unfold f_M_finish_J15_44 at hf
        refine lv_istore_n (lv' := [(2, .int s0_j44), (0, .ref a_mo), (1, .int p0), (3, .int v3_15)]) hx hb d_m1148_44 rfl hl (by decide) rfl (fun ls hl => ?_)
        refine lv_iinc (v := v3_15 + (1 : Int32)) (lv' := [(3, .int (v3_15 + (1 : Int32))), (2, .int s0_j44), (0, .ref a_mo), (1, .int p0)]) hx hb d_m1148_45 hl (k := 3) rfl rfl (by decide) rfl (fun ls hl => ?_)
        refine lv_goto (tgt := 15) hx hb d_m1148_48 (by decide) ?_
        exact ih s0_j44 (v3_15 + (1 : Int32)) hf H locs ls hP hD hS (lv_sub hl [2, 3, 1, 0] rfl)
      have J15_43 : ∀ (_ : Unit), f_M_finish_J15_43 N (f_M_finish_L15 mo_left mo_taken N k) v3_15 = some z → GW (dC, dI) A p l e (headSpec ws_m1148 rm_M_finish).room s m args below meth c 0 0 Q 4 43 (w_M_finish cI cB cS cT a_mo a_mo_data a_mo_h a_mo_v a_mo_across a_mo_down a_mo_ownAcross a_mo_ownDown a_mo_base a_mo_coefficients a_mo_before0 a_mo_draftCounts a_mo_draft a_mo_words a_mo_lengths a_mo_codes a_mo_directOf a_mo_otherOf a_mo_out a_mo_times a_mo_prediction a_mo_runBits a_mo_toCome a_mo_timesKept mo_thrown mo_width mo_height mo_many mo_unitsAcross mo_unitsDown mo_drafts mo_mask mo_first mo_last mo_before mo_bits mo_interval mo_size mo_outs mo_part mo_parted mo_failed mo_counting mo_run mo_runMany mo_comes mo_at mo_taken mo_left mo_fault mo_data) [(0, .ref a_mo), (1, .int p0), (3, .int v3_15)] [] := by
        intro _ hf H locs ls hP hD hS hl
        unfold f_M_finish_J15_43 at hf
        refine lv_iconst (v := (0 : Int32)) hx hb d_m1148_43 (by decide) ?_
        exact J15_44 (0 : Int32) hf H locs ls hP hD hS hl
      have hf : f_M_finish_L15b mo_left mo_taken N (f_M_finish_L15 mo_left mo_taken N k) v2_15 v3_15 = some z := hf
      unfold f_M_finish_L15b at hf
      refine lv_iload_n hx hb d_m1148_15 rfl (lv_at hl 3 rfl) ?_
      refine lv_aload_n hx hb d_m1148_16 rfl (lv_at hl 0 rfl) ?_
      refine va_get (D := (dC, dI)) (ci := 11) (v := .int mo_left) (C := "ScanCoderModel") (T := T_11) (N := 49) hx hb hts n0 hown hK hP 0 rfl rfl 46 (by decide) k1 (fun _ h9 => h9) rfl d_m1148_17 ?_
      refine lv_icmp_ge (tgt := 51) hx hb d_m1148_20 (by decide) (fun hc => ?_) (fun hc => ?_)
      · replace hf := (if_pos hc).symm.trans hf
        obtain rfl := Option.some.inj hf
        exact hE0  H locs ls hP hD hS (lv_sub hl [0, 1, 2] rfl)
      · replace hf := (if_neg hc).symm.trans hf
        refine lv_iload_n hx hb d_m1148_23 rfl (lv_at hl 2 rfl) ?_
        refine lv_if_eq (tgt := 43) hx hb d_m1148_24 (by decide) (fun hc => ?_) (fun hc => ?_)
        · replace hf := (if_pos hc).symm.trans hf
          exact J15_43 () hf H locs ls hP hD hS (lv_sub hl [0, 1, 3] rfl)
        · replace hf := (if_neg hc).symm.trans hf
          refine lv_aload_n hx hb d_m1148_27 rfl (lv_at hl 0 rfl) ?_
          refine va_get (D := (dC, dI)) (ci := 11) (v := .int mo_taken) (C := "ScanCoderModel") (T := T_11) (N := 49) hx hb hts n0 hown hK hP 0 rfl rfl 45 (by decide) k2 (fun _ h9 => h9) rfl d_m1148_28 ?_
          refine lv_iload_n hx hb d_m1148_31 rfl (lv_at hl 3 rfl) ?_
          refine lv_ishr hx hb d_m1148_32 ?_
          refine lv_iconst (v := (1 : Int32)) hx hb d_m1148_33 (by decide) ?_
          refine lv_iand hx hb d_m1148_34 ?_
          refine lv_iconst (v := (1 : Int32)) hx hb d_m1148_35 (by decide) ?_
          refine lv_icmp_ne (tgt := 43) hx hb d_m1148_36 (by decide) (fun hc => ?_) (fun hc => ?_)
          · replace hf := (if_neg hc).symm.trans hf
            exact J15_43 () hf H locs ls hP hD hS (lv_sub hl [0, 1, 3] rfl)
          · replace hf := (if_pos hc).symm.trans hf
            refine lv_iconst (v := (1 : Int32)) hx hb d_m1148_39 (by decide) ?_
            refine lv_goto (tgt := 44) hx hb d_m1148_40 (by decide) ?_
            exact J15_44 (1 : Int32) hf H locs ls hP hD hS (lv_sub hl [0, 1, 3] rfl)
  have J141 : ∀ (mo_left_j141 : Int32) (mo_fault_j141 : Int32) (s1_j141 : Int32) (s2_j141 : Int32), f_M_finish_J141 N s1_j141 s2_j141 mo_left_j141 mo_fault_j141 = some z → GW (dC, dI) A p l e (headSpec ws_m1148 rm_M_finish).room s m args below meth c 0 0 Q 4 141 (w_M_finish cI cB cS cT a_mo a_mo_data a_mo_h a_mo_v a_mo_across a_mo_down a_mo_ownAcross a_mo_ownDown a_mo_base a_mo_coefficients a_mo_before0 a_mo_draftCounts a_mo_draft a_mo_words a_mo_lengths a_mo_codes a_mo_directOf a_mo_otherOf a_mo_out a_mo_times a_mo_prediction a_mo_runBits a_mo_toCome a_mo_timesKept mo_thrown mo_width mo_height mo_many mo_unitsAcross mo_unitsDown mo_drafts mo_mask mo_first mo_last mo_before mo_bits mo_interval mo_size mo_outs mo_part mo_parted mo_failed mo_counting mo_run mo_runMany mo_comes mo_at mo_taken mo_left_j141 mo_fault_j141 mo_data) [] [.int s2_j141, .int s1_j141, .ref a_mo] := by
    intro mo_left_j141 mo_fault_j141 s1_j141 s2_j141 hf H locs ls hP hD hS hl
    unfold f_M_finish_J141 at hf
    refine lv_iadd hx hb d_m1148_141 ?_
    refine va_put (D := (dC, dI)) (ci := 11) (v := .int (s1_j141 + s2_j141)) (ty := .int) (C := "ScanCoderModel") (T := T_11) (N := 49) hx hb hts n0 ty_11 tyok_11 nm_11 hown hK hP hD hS 0 rfl rfl 44 (by decide) k3 (fun _ h9 => h9) rfl (by decide +kernel) rfl rfl (Nat.le_of_ble_eq_true rfl) d_m1148_142 (fun H locs hP hD hS => ?_)
    have hP : va_P (dC, dI) vwCl (w_M_finish cI cB cS cT a_mo a_mo_data a_mo_h a_mo_v a_mo_across a_mo_down a_mo_ownAcross a_mo_ownDown a_mo_base a_mo_coefficients a_mo_before0 a_mo_draftCounts a_mo_draft a_mo_words a_mo_lengths a_mo_codes a_mo_directOf a_mo_otherOf a_mo_out a_mo_times a_mo_prediction a_mo_runBits a_mo_toCome a_mo_timesKept mo_thrown mo_width mo_height mo_many mo_unitsAcross mo_unitsDown mo_drafts mo_mask mo_first mo_last mo_before mo_bits mo_interval mo_size mo_outs mo_part mo_parted mo_failed mo_counting mo_run mo_runMany mo_comes (s1_j141 + s2_j141) mo_taken mo_left_j141 mo_fault_j141 mo_data) H := hP
    have hD : va_D A (w_M_finish cI cB cS cT a_mo a_mo_data a_mo_h a_mo_v a_mo_across a_mo_down a_mo_ownAcross a_mo_ownDown a_mo_base a_mo_coefficients a_mo_before0 a_mo_draftCounts a_mo_draft a_mo_words a_mo_lengths a_mo_codes a_mo_directOf a_mo_otherOf a_mo_out a_mo_times a_mo_prediction a_mo_runBits a_mo_toCome a_mo_timesKept mo_thrown mo_width mo_height mo_many mo_unitsAcross mo_unitsDown mo_drafts mo_mask mo_first mo_last mo_before mo_bits mo_interval mo_size mo_outs mo_part mo_parted mo_failed mo_counting mo_run mo_runMany mo_comes (s1_j141 + s2_j141) mo_taken mo_left_j141 mo_fault_j141 mo_data) := hD
    obtain rfl := Option.some.inj hf
    subst hQ
    subst hAe
    exact W.vret hx hb hr (fun t ht hW => ⟨⟨(), rfl, trivial, by rw [ht]; exact hP, hD⟩, hS.F ht⟩) hS.2.2 d_m1148_145
  have J122 : ∀ (mo_fault_j122 : Int32), f_M_finish_J122 N p0 mo_at mo_fault_j122 = some z → GW (dC, dI) A p l e (headSpec ws_m1148 rm_M_finish).room s m args below meth c 0 0 Q 4 122 (w_M_finish cI cB cS cT a_mo a_mo_data a_mo_h a_mo_v a_mo_across a_mo_down a_mo_ownAcross a_mo_ownDown a_mo_base a_mo_coefficients a_mo_before0 a_mo_draftCounts a_mo_draft a_mo_words a_mo_lengths a_mo_codes a_mo_directOf a_mo_otherOf a_mo_out a_mo_times a_mo_prediction a_mo_runBits a_mo_toCome a_mo_timesKept mo_thrown mo_width mo_height mo_many mo_unitsAcross mo_unitsDown mo_drafts mo_mask mo_first mo_last mo_before mo_bits mo_interval mo_size mo_outs mo_part mo_parted mo_failed mo_counting mo_run mo_runMany mo_comes mo_at mo_taken mo_left mo_fault_j122 mo_data) [(0, .ref a_mo), (1, .int p0)] [] := by
    intro mo_fault_j122 hf H locs ls hP hD hS hl
    unfold f_M_finish_J122 at hf
    refine lv_aload_n hx hb d_m1148_122 rfl (lv_at hl 0 rfl) ?_
    refine lv_iconst (v := (0 : Int32)) hx hb d_m1148_123 (by decide) ?_
    refine va_put (D := (dC, dI)) (ci := 11) (v := .int (0 : Int32)) (ty := .int) (C := "ScanCoderModel") (T := T_11) (N := 49) hx hb hts n0 ty_11 tyok_11 nm_11 hown hK hP hD hS 0 rfl rfl 46 (by decide) k1 (fun _ h9 => h9) rfl (by decide +kernel) rfl rfl (Nat.le_of_ble_eq_true rfl) d_m1148_124 (fun H locs hP hD hS => ?_)
    have hP : va_P (dC, dI) vwCl (w_M_finish cI cB cS cT a_mo a_mo_data a_mo_h a_mo_v a_mo_across a_mo_down a_mo_ownAcross a_mo_ownDown a_mo_base a_mo_coefficients a_mo_before0 a_mo_draftCounts a_mo_draft a_mo_words a_mo_lengths a_mo_codes a_mo_directOf a_mo_otherOf a_mo_out a_mo_times a_mo_prediction a_mo_runBits a_mo_toCome a_mo_timesKept mo_thrown mo_width mo_height mo_many mo_unitsAcross mo_unitsDown mo_drafts mo_mask mo_first mo_last mo_before mo_bits mo_interval mo_size mo_outs mo_part mo_parted mo_failed mo_counting mo_run mo_runMany mo_comes mo_at mo_taken (0 : Int32) mo_fault_j122 mo_data) H := hP
    have hD : va_D A (w_M_finish cI cB cS cT a_mo a_mo_data a_mo_h a_mo_v a_mo_across a_mo_down a_mo_ownAcross a_mo_ownDown a_mo_base a_mo_coefficients a_mo_before0 a_mo_draftCounts a_mo_draft a_mo_words a_mo_lengths a_mo_codes a_mo_directOf a_mo_otherOf a_mo_out a_mo_times a_mo_prediction a_mo_runBits a_mo_toCome a_mo_timesKept mo_thrown mo_width mo_height mo_many mo_unitsAcross mo_unitsDown mo_drafts mo_mask mo_first mo_last mo_before mo_bits mo_interval mo_size mo_outs mo_part mo_parted mo_failed mo_counting mo_run mo_runMany mo_comes mo_at mo_taken (0 : Int32) mo_fault_j122 mo_data) := hD
    refine lv_aload_n hx hb d_m1148_127 rfl (lv_at hl 0 rfl) ?_
    refine lv_dup hx hb d_m1148_128 rfl ?_
    refine va_get (D := (dC, dI)) (ci := 11) (v := .int mo_at) (C := "ScanCoderModel") (T := T_11) (N := 49) hx hb hts n0 hown hK hP 0 rfl rfl 44 (by decide) k3 (fun _ h9 => h9) rfl d_m1148_129 ?_
    refine lv_iload_n hx hb d_m1148_132 rfl (lv_at hl 1 rfl) ?_
    refine lv_if_ne (tgt := 140) hx hb d_m1148_133 (by decide) (fun hc => ?_) (fun hc => ?_)
    · replace hf := (if_neg hc).symm.trans hf
      refine lv_iconst (v := (2 : Int32)) hx hb d_m1148_140 (by decide) ?_
      exact J141 (0 : Int32) mo_fault_j122 mo_at (2 : Int32) hf H locs ls hP hD hS (lv_sub hl [] rfl)
    · replace hf := (if_pos hc).symm.trans hf
      refine lv_iconst (v := (0 : Int32)) hx hb d_m1148_136 (by decide) ?_
      refine lv_goto (tgt := 141) hx hb d_m1148_137 (by decide) ?_
      exact J141 (0 : Int32) mo_fault_j122 mo_at (0 : Int32) hf H locs ls hP hD hS (lv_sub hl [] rfl)
  have J104 : ∀ (s0_j104 : Int32), f_M_finish_J104 N s0_j104 mo_fault p0 mo_at = some z → GW (dC, dI) A p l e (headSpec ws_m1148 rm_M_finish).room s m args below meth c 0 0 Q 4 104 (w_M_finish cI cB cS cT a_mo a_mo_data a_mo_h a_mo_v a_mo_across a_mo_down a_mo_ownAcross a_mo_ownDown a_mo_base a_mo_coefficients a_mo_before0 a_mo_draftCounts a_mo_draft a_mo_words a_mo_lengths a_mo_codes a_mo_directOf a_mo_otherOf a_mo_out a_mo_times a_mo_prediction a_mo_runBits a_mo_toCome a_mo_timesKept mo_thrown mo_width mo_height mo_many mo_unitsAcross mo_unitsDown mo_drafts mo_mask mo_first mo_last mo_before mo_bits mo_interval mo_size mo_outs mo_part mo_parted mo_failed mo_counting mo_run mo_runMany mo_comes mo_at mo_taken mo_left mo_fault mo_data) [(0, .ref a_mo), (1, .int p0)] [.int s0_j104] := by
    intro s0_j104 hf H locs ls hP hD hS hl
    unfold f_M_finish_J104 at hf
    refine lv_istore_n (lv' := [(2, .int s0_j104), (0, .ref a_mo), (1, .int p0)]) hx hb d_m1148_104 rfl hl (by decide) rfl (fun ls hl => ?_)
    refine lv_iload_n hx hb d_m1148_105 rfl (lv_at hl 0 rfl) ?_
    refine lv_if_ne (tgt := 122) hx hb d_m1148_106 (by decide) (fun hc => ?_) (fun hc => ?_)
    · replace hf := (if_neg hc).symm.trans hf
      exact J122 mo_fault hf H locs ls hP hD hS (lv_sub hl [1, 2] rfl)
    · replace hf := (if_pos hc).symm.trans hf
      refine lv_aload_n hx hb d_m1148_109 rfl (lv_at hl 1 rfl) ?_
      refine va_get (D := (dC, dI)) (ci := 11) (v := .int mo_fault) (C := "ScanCoderModel") (T := T_11) (N := 49) hx hb hts n0 hown hK hP 0 rfl rfl 47 (by decide) k4 (fun _ h9 => h9) rfl d_m1148_110 ?_
      refine lv_if_ne (tgt := 122) hx hb d_m1148_113 (by decide) (fun hc => ?_) (fun hc => ?_)
      · replace hf := (if_neg hc).symm.trans hf
        exact J122 mo_fault hf H locs ls hP hD hS (lv_sub hl [1, 2] rfl)
      · replace hf := (if_pos hc).symm.trans hf
        refine lv_aload_n hx hb d_m1148_116 rfl (lv_at hl 1 rfl) ?_
        refine lv_iconst (v := (5 : Int32)) hx hb d_m1148_117 (by decide) ?_
        obtain ⟨z2, hz2, hf⟩ := ob_bind hf
        refine g_calli (wc := (w_M_wrong cI cB cS cT a_mo a_mo_h a_mo_v a_mo_across a_mo_down a_mo_ownAcross a_mo_ownDown a_mo_base a_mo_coefficients a_mo_before0 a_mo_draftCounts a_mo_draft a_mo_words a_mo_lengths a_mo_codes a_mo_directOf a_mo_otherOf a_mo_data a_mo_out a_mo_times a_mo_prediction a_mo_runBits a_mo_toCome a_mo_timesKept mo_thrown mo_width mo_height mo_many mo_unitsAcross mo_unitsDown mo_drafts mo_mask mo_first mo_last mo_before mo_bits mo_interval mo_size mo_outs mo_part mo_parted mo_failed mo_counting mo_run mo_runMany mo_comes mo_at mo_taken mo_left mo_fault)) (w1 := (w_M_wrong cI cB cS cT a_mo a_mo_h a_mo_v a_mo_across a_mo_down a_mo_ownAcross a_mo_ownDown a_mo_base a_mo_coefficients a_mo_before0 a_mo_draftCounts a_mo_draft a_mo_words a_mo_lengths a_mo_codes a_mo_directOf a_mo_otherOf a_mo_data a_mo_out a_mo_times a_mo_prediction a_mo_runBits a_mo_toCome a_mo_timesKept mo_thrown mo_width mo_height mo_many mo_unitsAcross mo_unitsDown mo_drafts mo_mask mo_first mo_last mo_before mo_bits mo_interval mo_size mo_outs mo_part mo_parted mo_failed mo_counting mo_run mo_runMany mo_comes mo_at mo_taken mo_left z2.2)) (w2 := (w_M_finish cI cB cS cT a_mo a_mo_data a_mo_h a_mo_v a_mo_across a_mo_down a_mo_ownAcross a_mo_ownDown a_mo_base a_mo_coefficients a_mo_before0 a_mo_draftCounts a_mo_draft a_mo_words a_mo_lengths a_mo_codes a_mo_directOf a_mo_otherOf a_mo_out a_mo_times a_mo_prediction a_mo_runBits a_mo_toCome a_mo_timesKept mo_thrown mo_width mo_height mo_many mo_unitsAcross mo_unitsDown mo_drafts mo_mask mo_first mo_last mo_before mo_bits mo_interval mo_size mo_outs mo_part mo_parted mo_failed mo_counting mo_run mo_runMany mo_comes mo_at mo_taken mo_left z2.2 mo_data)) [0] [some 0, none] hP hD hS hA rfl rfl rfl rfl (va_runV (As := [.int (5 : Int32)]) (rest := []) ⟨hx, hb, hml, hown, hts⟩ (c_M_wrong l dC dI cI cB cS cT a_mo a_mo_h a_mo_v a_mo_across a_mo_down a_mo_ownAcross a_mo_ownDown a_mo_base a_mo_coefficients a_mo_before0 a_mo_draftCounts a_mo_draft a_mo_words a_mo_lengths a_mo_codes a_mo_directOf a_mo_otherOf a_mo_data a_mo_out a_mo_times a_mo_prediction a_mo_runBits a_mo_toCome a_mo_timesKept mo_thrown mo_width mo_height mo_many mo_unitsAcross mo_unitsDown mo_drafts mo_mask mo_first mo_last mo_before mo_bits mo_interval mo_size mo_outs mo_part mo_parted mo_failed mo_counting mo_run mo_runMany mo_comes mo_at mo_taken mo_left mo_fault (5 : Int32) H.size z2 hz2) ⟨(callB_of 1 hts (gi tw_1156 rfl) rfl rfl rfl (hts _ (List.mem_cons_of_mem _ tw_16)) (hts _ (List.mem_cons_of_mem _ tw_1153)) (by decide +kernel) ⟨Nat.le_of_ble_eq_true rfl, Nat.le_of_ble_eq_true rfl⟩), hts _ (List.mem_cons_of_mem _ tw_1155), hts _ (List.mem_cons_of_mem _ ts_m1156)⟩ ⟨g_blind, va_recv hK hP (ci := 11) (q0 := 0) rfl rfl, g_at hKN (g_pm hP [0] rfl) (hD.sub [0] (by decide) rfl)⟩ rfl rfl hl.1 rfl (lv_room (Nat.le_of_ble_eq_true rfl)) d_m1148_118 ⟨Nat.zero_le _, Nat.zero_le _⟩) (fun H locs hP hD hS => ?_)
        refine W.eq (g2 := F0 m 121 ls [.int z2.1]) rfl ?_
        refine lv_istore_n (lv' := [(3, .int z2.1), (2, .int s0_j104), (0, .ref a_mo), (1, .int p0)]) hx hb d_m1148_121 rfl hl (by decide) rfl (fun ls hl => ?_)
        exact J122 z2.2 hf H locs ls hP hD hS (lv_sub hl [2, 3] rfl)
  have J103 : ∀ (_ : Unit), f_M_finish_J103 N mo_fault p0 mo_at = some z → GW (dC, dI) A p l e (headSpec ws_m1148 rm_M_finish).room s m args below meth c 0 0 Q 4 103 (w_M_finish cI cB cS cT a_mo a_mo_data a_mo_h a_mo_v a_mo_across a_mo_down a_mo_ownAcross a_mo_ownDown a_mo_base a_mo_coefficients a_mo_before0 a_mo_draftCounts a_mo_draft a_mo_words a_mo_lengths a_mo_codes a_mo_directOf a_mo_otherOf a_mo_out a_mo_times a_mo_prediction a_mo_runBits a_mo_toCome a_mo_timesKept mo_thrown mo_width mo_height mo_many mo_unitsAcross mo_unitsDown mo_drafts mo_mask mo_first mo_last mo_before mo_bits mo_interval mo_size mo_outs mo_part mo_parted mo_failed mo_counting mo_run mo_runMany mo_comes mo_at mo_taken mo_left mo_fault mo_data) [(0, .ref a_mo), (1, .int p0)] [] := by
    intro _ hf H locs ls hP hD hS hl
    unfold f_M_finish_J103 at hf
    refine lv_iconst (v := (0 : Int32)) hx hb d_m1148_103 (by decide) ?_
    exact J104 (0 : Int32) hf H locs ls hP hD hS hl
  have J99 : ∀ (_ : Unit), f_M_finish_J99 N mo_fault p0 mo_at = some z → GW (dC, dI) A p l e (headSpec ws_m1148 rm_M_finish).room s m args below meth c 0 0 Q 4 99 (w_M_finish cI cB cS cT a_mo a_mo_data a_mo_h a_mo_v a_mo_across a_mo_down a_mo_ownAcross a_mo_ownDown a_mo_base a_mo_coefficients a_mo_before0 a_mo_draftCounts a_mo_draft a_mo_words a_mo_lengths a_mo_codes a_mo_directOf a_mo_otherOf a_mo_out a_mo_times a_mo_prediction a_mo_runBits a_mo_toCome a_mo_timesKept mo_thrown mo_width mo_height mo_many mo_unitsAcross mo_unitsDown mo_drafts mo_mask mo_first mo_last mo_before mo_bits mo_interval mo_size mo_outs mo_part mo_parted mo_failed mo_counting mo_run mo_runMany mo_comes mo_at mo_taken mo_left mo_fault mo_data) [(0, .ref a_mo), (1, .int p0)] [] := by
    intro _ hf H locs ls hP hD hS hl
    unfold f_M_finish_J99 at hf
    refine lv_iconst (v := (1 : Int32)) hx hb d_m1148_99 (by decide) ?_
    refine lv_goto (tgt := 104) hx hb d_m1148_100 (by decide) ?_
    exact J104 (1 : Int32) hf H locs ls hP hD hS hl
  have J12 : ∀ (s0_j12 : Int32), f_M_finish_J12 N mo_left mo_taken s0_j12 mo_fault p0 mo_at mo_size mo_data = some z → GW (dC, dI) A p l e (headSpec ws_m1148 rm_M_finish).room s m args below meth c 0 0 Q 4 12 (w_M_finish cI cB cS cT a_mo a_mo_data a_mo_h a_mo_v a_mo_across a_mo_down a_mo_ownAcross a_mo_ownDown a_mo_base a_mo_coefficients a_mo_before0 a_mo_draftCounts a_mo_draft a_mo_words a_mo_lengths a_mo_codes a_mo_directOf a_mo_otherOf a_mo_out a_mo_times a_mo_prediction a_mo_runBits a_mo_toCome a_mo_timesKept mo_thrown mo_width mo_height mo_many mo_unitsAcross mo_unitsDown mo_drafts mo_mask mo_first mo_last mo_before mo_bits mo_interval mo_size mo_outs mo_part mo_parted mo_failed mo_counting mo_run mo_runMany mo_comes mo_at mo_taken mo_left mo_fault mo_data) [(0, .ref a_mo), (1, .int p0)] [.int s0_j12] := by
    intro s0_j12 hf H locs ls hP hD hS hl
    unfold f_M_finish_J12 at hf
    refine lv_istore_n (lv' := [(2, .int s0_j12), (0, .ref a_mo), (1, .int p0)]) hx hb d_m1148_12 rfl hl (by decide) rfl (fun ls hl => ?_)
    refine lv_iconst (v := (0 : Int32)) hx hb d_m1148_13 (by decide) ?_
    refine lv_istore_n (lv' := [(3, .int (0 : Int32)), (2, .int s0_j12), (0, .ref a_mo), (1, .int p0)]) hx hb d_m1148_14 rfl hl (by decide) rfl (fun ls hl => ?_)
    obtain ⟨z1, hz1, hf⟩ := ob_bind hf
    refine L15  z1 ?_ N s0_j12 (0 : Int32) hz1 H locs ls hP hD hS (lv_sub hl [2, 3, 1, 0] rfl)
    · intro H locs ls hP hD hS hl
      refine lv_iload_n hx hb d_m1148_51 rfl (lv_at hl 2 rfl) ?_
      refine lv_if_eq (tgt := 103) hx hb d_m1148_52 (by decide) (fun hc => ?_) (fun hc => ?_)
      · replace hf := (if_pos hc).symm.trans hf
        exact J103 () hf H locs ls hP hD hS (lv_sub hl [0, 1] rfl)
      · replace hf := (if_neg hc).symm.trans hf
        refine lv_iload_n hx hb d_m1148_55 rfl (lv_at hl 1 rfl) ?_
        refine lv_if_ne (tgt := 73) hx hb d_m1148_56 (by decide) (fun hc => ?_) (fun hc => ?_)
        · replace hf := (if_neg hc).symm.trans hf
          refine lv_aload_n hx hb d_m1148_73 rfl (lv_at hl 0 rfl) ?_
          obtain ⟨z3, hz3, hf⟩ := ob_bind hf
          refine vp_callSi (g_run (va_runV (As := []) (rest := []) ⟨hx, hb, hml, hown, hts⟩ (c_M_atRestart l dC dI cI cB cS cT a_mo a_mo_data a_mo_h a_mo_v a_mo_across a_mo_down a_mo_ownAcross a_mo_ownDown a_mo_base a_mo_coefficients a_mo_before0 a_mo_draftCounts a_mo_draft a_mo_words a_mo_lengths a_mo_codes a_mo_directOf a_mo_otherOf a_mo_out a_mo_times a_mo_prediction a_mo_runBits a_mo_toCome a_mo_timesKept mo_thrown mo_width mo_height mo_many mo_unitsAcross mo_unitsDown mo_drafts mo_mask mo_first mo_last mo_before mo_bits mo_interval mo_size mo_outs mo_part mo_parted mo_failed mo_counting mo_run mo_runMany mo_comes mo_at mo_taken mo_left mo_fault mo_data z3 hz3) ⟨(callB_of 0 hts (gi tw_1152 rfl) rfl rfl rfl (hts _ (List.mem_cons_of_mem _ tw_16)) (hts _ (List.mem_cons_of_mem _ tw_1149)) (by decide +kernel) ⟨Nat.le_of_ble_eq_true rfl, Nat.le_of_ble_eq_true rfl⟩), hts _ (List.mem_cons_of_mem _ tw_1151), hts _ (List.mem_cons_of_mem _ ts_m1152)⟩ ⟨gp_blind, va_recv hK hP (ci := 11) (q0 := 0) rfl rfl, gp_at hKN (g_pm hP [0, 1] rfl)⟩ rfl rfl hl.1 rfl (lv_room (Nat.le_of_ble_eq_true rfl)) d_m1148_74 ⟨Nat.zero_le _, Nat.zero_le _⟩)) (fun r hrz3 => ?_)
          have hrz3 := hrz3.symm
          subst hrz3
          refine W.eq (g2 := F0 m 77 ls [.int z3]) rfl ?_
          refine lv_if_eq (tgt := 103) hx hb d_m1148_77 (by decide) (fun hc => ?_) (fun hc => ?_)
          · replace hf := (if_pos hc).symm.trans hf
            exact J103 () hf H locs ls hP hD hS (lv_sub hl [0, 1] rfl)
          · replace hf := (if_neg hc).symm.trans hf
            refine lv_aload_n hx hb d_m1148_80 rfl (lv_at hl 0 rfl) ?_
            refine va_get (D := (dC, dI)) (ci := 11) (v := .ref a_mo_data) (C := "ScanCoderModel") (T := T_11) (N := 49) hx hb hts n0 hown hK hP 0 rfl rfl 29 (by decide) k5 (fun _ h9 => h9) rfl d_m1148_81 ?_
            refine lv_aload_n hx hb d_m1148_84 rfl (lv_at hl 0 rfl) ?_
            refine va_get (D := (dC, dI)) (ci := 11) (v := .int mo_at) (C := "ScanCoderModel") (T := T_11) (N := 49) hx hb hts n0 hown hK hP 0 rfl rfl 44 (by decide) k3 (fun _ h9 => h9) rfl d_m1148_85 ?_
            refine lv_iconst (v := (1 : Int32)) hx hb d_m1148_88 (by decide) ?_
            refine lv_iadd hx hb d_m1148_89 ?_
            obtain ⟨hi, hf⟩ := ob_if hf
            refine va_bald hx hb hK hP 1 1 rfl rfl hi d_m1148_90 ?_
            refine lv_sipush (v := (255 : Int32)) hx hb d_m1148_91 (by decide) ?_
            refine lv_iand hx hb d_m1148_94 ?_
            refine lv_iload_n hx hb d_m1148_95 rfl (lv_at hl 1 rfl) ?_
            refine lv_icmp_ne (tgt := 103) hx hb d_m1148_96 (by decide) (fun hc => ?_) (fun hc => ?_)
            · replace hf := (if_neg hc).symm.trans hf
              exact J103 () hf H locs ls hP hD hS (lv_sub hl [0, 1] rfl)
            · replace hf := (if_pos hc).symm.trans hf
              exact J99 () hf H locs ls hP hD hS (lv_sub hl [0, 1] rfl)
        · replace hf := (if_pos hc).symm.trans hf
          refine lv_aload_n hx hb d_m1148_59 rfl (lv_at hl 0 rfl) ?_
          refine va_get (D := (dC, dI)) (ci := 11) (v := .int mo_at) (C := "ScanCoderModel") (T := T_11) (N := 49) hx hb hts n0 hown hK hP 0 rfl rfl 44 (by decide) k3 (fun _ h9 => h9) rfl d_m1148_60 ?_
          refine lv_aload_n hx hb d_m1148_63 rfl (lv_at hl 0 rfl) ?_
          refine va_get (D := (dC, dI)) (ci := 11) (v := .int mo_size) (C := "ScanCoderModel") (T := T_11) (N := 49) hx hb hts n0 hown hK hP 0 rfl rfl 30 (by decide) k6 (fun _ h9 => h9) rfl d_m1148_64 ?_
          refine lv_icmp_ne (tgt := 103) hx hb d_m1148_67 (by decide) (fun hc => ?_) (fun hc => ?_)
          · replace hf := (if_neg hc).symm.trans hf
            exact J103 () hf H locs ls hP hD hS (lv_sub hl [0, 1] rfl)
          · replace hf := (if_pos hc).symm.trans hf
            refine lv_goto (tgt := 99) hx hb d_m1148_70 (by decide) ?_
            exact J99 () hf H locs ls hP hD hS (lv_sub hl [0, 1] rfl)
  have hgo : ∀ (H : Heap) (locs : List Loc), va_P (dC, dI) vwCl (w_M_finish cI cB cS cT a_mo a_mo_data a_mo_h a_mo_v a_mo_across a_mo_down a_mo_ownAcross a_mo_ownDown a_mo_base a_mo_coefficients a_mo_before0 a_mo_draftCounts a_mo_draft a_mo_words a_mo_lengths a_mo_codes a_mo_directOf a_mo_otherOf a_mo_out a_mo_times a_mo_prediction a_mo_runBits a_mo_toCome a_mo_timesKept mo_thrown mo_width mo_height mo_many mo_unitsAcross mo_unitsDown mo_drafts mo_mask mo_first mo_last mo_before mo_bits mo_interval mo_size mo_outs mo_part mo_parted mo_failed mo_counting mo_run mo_runMany mo_comes mo_at mo_taken mo_left mo_fault mo_data) H → va_S A s.heap H locs → W p l e (headSpec ws_m1148 rm_M_finish).room s m args below meth c H locs 0 0 Q (F0 m 0 ls []) := by
    intro H locs hP hS
    unfold f_M_finish at hf
    refine lv_aload_n hx hb d_m1148_0 rfl (lv_at hl 0 rfl) ?_
    refine va_get (D := (dC, dI)) (ci := 11) (v := .int mo_run) (C := "ScanCoderModel") (T := T_11) (N := 49) hx hb hts n0 hown hK hP 0 rfl rfl 39 (by decide) k0 (fun _ h9 => h9) rfl d_m1148_1 ?_
    refine lv_if_ne (tgt := 11) hx hb d_m1148_4 (by decide) (fun hc => ?_) (fun hc => ?_)
    · replace hf := (if_neg hc).symm.trans hf
      refine lv_iconst (v := (0 : Int32)) hx hb d_m1148_11 (by decide) ?_
      exact J12 (0 : Int32) hf H locs ls hP hD hS hl
    · replace hf := (if_pos hc).symm.trans hf
      refine lv_iconst (v := (1 : Int32)) hx hb d_m1148_7 (by decide) ?_
      refine lv_goto (tgt := 12) hx hb d_m1148_8 (by decide) ?_
      exact J12 (1 : Int32) hf H locs ls hP hD hS hl
  exact hgo _ _ hP hS
