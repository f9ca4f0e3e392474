
def f_M_up (p0 : Int32) (p1 : Int32) : Option (Int32) :=
  if p1 = 0 then none else some (((p0 + p1) - (1 : Int32)) / p1)
abbrev w_M_up (cI cB cS cT : ClassId)  : va_W := []
def rm_M_up : Room := { frames := 0, cells := 0, slots := 0, locals := 0 }
set_option maxHeartbeats 1000000 in
set_option maxRecDepth 100000 in
theorem c_M_up (l : Launch) (dC : Nat → ClassId) (dI : Nat → Nat → Nat) (cI cB cS cT : ClassId) (p0 : Int32) (p1 : Int32) (z : Int32) (hf : f_M_up p0 p1 = some z) : Met l y_m829 ws_m829 rm_M_up (gPreP (dC, dI) [.int p0, .int p1] (gT cI cB cS cT) (w_M_up cI cB cS cT)) (vp_Si (fun r => r = z)) 0 0 (fun _ => False) := by
  refine Met.ofW (cc := prog_14_method_3_code) (maxL := 2) (ret := (some .int)) (by decide) rfl ?_
  intro p e s m args below meth c s₁ B hml hv
  obtain ⟨hargs, hP, hKN⟩ := hv
  have hK := hKN.1
  have hx := B.exec
  have hb := B.bytes
  have hr := B.returns
  have hts := atoms_spec (ws := ws_m829) B.pre
  have hown : s.vm.findClass "ScanCoderModel" = some m.cls := findClass_of_methodNamed B.named
  have hlocks := B.notSynchronized
  have hl := lv_entry ([.int p0, .int p1]) (n := 2) (Nat.le_of_ble_eq_true rfl)
  have hfr : entryFrame m args 2 = F0 m 0 ((lg_sl ([.int p0, .int p1]) ++ List.replicate (2 - (lg_sl ([.int p0, .int p1])).length) Slot.unset).toArray) [] := by rw [hargs]; exact lg_entry_eq _ _ _
  rw [hfr]
  generalize (lg_sl ([.int p0, .int p1]) ++ List.replicate (2 - (lg_sl ([.int p0, .int p1])).length) Slot.unset).toArray = ls at hl ⊢
  have hl : lv_has ls 2 [(0, .int p0), (1, .int p1)] := hl
  refine gen_Q (fun Q hQ => ?_)
  clear hfr
  unfold f_M_up at hf
  refine lv_iload_n hx hb d_m829_0 rfl (lv_at hl 0 rfl) ?_
  refine lv_iload_n hx hb d_m829_1 rfl (lv_at hl 1 rfl) ?_
  refine lv_iadd hx hb d_m829_2 ?_
  refine lv_iconst (v := (1 : Int32)) hx hb d_m829_3 (by decide) ?_
  refine lv_isub hx hb d_m829_4 ?_
  refine lv_iload_n hx hb d_m829_5 rfl (lv_at hl 1 rfl) ?_
  obtain ⟨hi, hf⟩ := ob_if hf
  refine lv_idiv hx hb d_m829_6 hi ?_
  obtain rfl := Option.some.inj hf
  subst hQ
  exact W.iret (v := ((p0 + p1) - (1 : Int32)) / p1) hx hb hr (fun t ht hW => ⟨((p0 + p1) - (1 : Int32)) / p1, rfl, rfl, ht⟩) (fun q h => by cases h) d_m829_7
def f_M_lay_J9_57 (N : Nat) (rec : (Int32 × Int32 × Int32) → Option (Int32 × Int32)) (v5_j57 : Int32) (s0_j57 : Int32) (v7_9 : Int32) : Option (Int32 × Int32) :=
  rec (v5_j57, s0_j57, v7_9 + (1 : Int32))
def f_M_lay_J9_34 (N : Nat) (rec : (Int32 × Int32 × Int32) → Option (Int32 × Int32)) (p3 : Int32) (v7_9 : Int32) (s0_j34 : Int32) (v6_9 : Int32) : Option (Int32 × Int32) :=
  if ((p3 >>> ((((2 : Int32) * v7_9) + (1 : Int32)) &&& 31)) &&& (1 : Int32)) = (1 : Int32) then
    f_M_lay_J9_57 N rec s0_j34 (2 : Int32) v7_9
  else
    f_M_lay_J9_57 N rec s0_j34 v6_9 v7_9
def f_M_lay_L9b (p2 : Int32) (p3 : Int32) (N : Nat) (rec : (Int32 × Int32 × Int32) → Option (Int32 × Int32)) (v5_9 : Int32) (v6_9 : Int32) (v7_9 : Int32) : Option (Int32 × Int32) :=
  if p2 ≤ v7_9 then
    some (v5_9, v6_9)
  else
    if ((p3 >>> (((2 : Int32) * v7_9) &&& 31)) &&& (1 : Int32)) = (1 : Int32) then
      f_M_lay_J9_34 N rec p3 v7_9 (2 : Int32) v6_9
    else
      f_M_lay_J9_34 N rec p3 v7_9 v5_9 v6_9
def f_M_lay_L9 (p2 : Int32) (p3 : Int32) (N : Nat) (k : Nat) : (Int32 × Int32 × Int32) → Option (Int32 × Int32) := it (fun rec a => f_M_lay_L9b p2 p3 N rec a.1 a.2.1 a.2.2) k
def f_M_lay_L93b (p2 : Int32) (v8_93 : Int32) (v9_93 : Int32) (p3 : Int32) (N : Nat) (rec : (Int32 × Int32) → Option (Int32)) (v7_93 : Int32) (v10_93 : Int32) : Option (Int32) :=
  if p2 ≤ v10_93 then
    some v7_93
  else
    rec (v7_93 + (((v8_93 * v9_93) * ((1 : Int32) + ((p3 >>> (((2 : Int32) * v10_93) &&& 31)) &&& (1 : Int32)))) * ((1 : Int32) + ((p3 >>> ((((2 : Int32) * v10_93) + (1 : Int32)) &&& 31)) &&& (1 : Int32)))), v10_93 + (1 : Int32))
def f_M_lay_L93 (p2 : Int32) (v8_93 : Int32) (v9_93 : Int32) (p3 : Int32) (N : Nat) (k : Nat) : (Int32 × Int32) → Option (Int32) := it (fun rec a => f_M_lay_L93b p2 v8_93 v9_93 p3 N rec a.1 a.2) k
def f_M_lay_L185b (p2 : Int32) (p0 : Int32) (p3 : Int32) (v5_185 : Int32) (p1 : Int32) (v6_185 : Int32) (v8_185 : Int32) (v9_185 : Int32) (N : Nat) (rec : (Int32 × Int32 × (Nat → Int32) × (Nat → Int32) × (Nat → Int32) × (Nat → Int32) × (Nat → Int32) × (Nat → Int32) × (Nat → Int32)) → Option ((Nat → Int32) × (Nat → Int32) × (Nat → Int32) × (Nat → Int32) × (Nat → Int32) × (Nat → Int32) × (Nat → Int32))) (v10_185 : Int32) (v11_185 : Int32) (mo_h_185 : Nat → Int32) (mo_v_185 : Nat → Int32) (mo_across_185 : Nat → Int32) (mo_down_185 : Nat → Int32) (mo_ownAcross_185 : Nat → Int32) (mo_ownDown_185 : Nat → Int32) (mo_base_185 : Nat → Int32) : Option ((Nat → Int32) × (Nat → Int32) × (Nat → Int32) × (Nat → Int32) × (Nat → Int32) × (Nat → Int32) × (Nat → Int32)) :=
  if p2 ≤ v11_185 then
    some (mo_h_185, mo_v_185, mo_across_185, mo_down_185, mo_ownAcross_185, mo_ownDown_185, mo_base_185)
  else
    if v11_185 < 0 ∨ 4 ≤ v11_185.toNatClampNeg then none else
    if v11_185 < 0 ∨ 4 ≤ v11_185.toNatClampNeg then none else
    if v11_185 < 0 ∨ 4 ≤ v11_185.toNatClampNeg then none else
    if v11_185 < 0 ∨ 4 ≤ v11_185.toNatClampNeg then none else
    if v11_185 < 0 ∨ 4 ≤ v11_185.toNatClampNeg then none else
    if v11_185 < 0 ∨ 4 ≤ v11_185.toNatClampNeg then none else
    if v11_185 < 0 ∨ 4 ≤ v11_185.toNatClampNeg then none else
    (f_M_up (p0 * ((upd mo_h_185 v11_185.toNatClampNeg ((1 : Int32) + ((p3 >>> (((2 : Int32) * v11_185) &&& 31)) &&& (1 : Int32)))) v11_185.toNatClampNeg)) v5_185).bind fun z5 =>
    (f_M_up z5 (8 : Int32)).bind fun z6 =>
    if v11_185 < 0 ∨ 4 ≤ v11_185.toNatClampNeg then none else
    if v11_185 < 0 ∨ 4 ≤ v11_185.toNatClampNeg then none else
    (f_M_up (p1 * ((upd mo_v_185 v11_185.toNatClampNeg ((1 : Int32) + ((p3 >>> ((((2 : Int32) * v11_185) + (1 : Int32)) &&& 31)) &&& (1 : Int32)))) v11_185.toNatClampNeg)) v6_185).bind fun z7 =>
    (f_M_up z7 (8 : Int32)).bind fun z8 =>
    if v11_185 < 0 ∨ 4 ≤ v11_185.toNatClampNeg then none else
    if v11_185 < 0 ∨ 4 ≤ v11_185.toNatClampNeg then none else
    if v11_185 < 0 ∨ 4 ≤ v11_185.toNatClampNeg then none else
    if v11_185 < 0 ∨ 4 ≤ v11_185.toNatClampNeg then none else
    rec (v10_185 + (((upd mo_across_185 v11_185.toNatClampNeg (v8_185 * ((upd mo_h_185 v11_185.toNatClampNeg ((1 : Int32) + ((p3 >>> (((2 : Int32) * v11_185) &&& 31)) &&& (1 : Int32)))) v11_185.toNatClampNeg))) v11_185.toNatClampNeg) * ((upd mo_down_185 v11_185.toNatClampNeg (v9_185 * ((upd mo_v_185 v11_185.toNatClampNeg ((1 : Int32) + ((p3 >>> ((((2 : Int32) * v11_185) + (1 : Int32)) &&& 31)) &&& (1 : Int32)))) v11_185.toNatClampNeg))) v11_185.toNatClampNeg)), v11_185 + (1 : Int32), upd mo_h_185 v11_185.toNatClampNeg ((1 : Int32) + ((p3 >>> (((2 : Int32) * v11_185) &&& 31)) &&& (1 : Int32))), upd mo_v_185 v11_185.toNatClampNeg ((1 : Int32) + ((p3 >>> ((((2 : Int32) * v11_185) + (1 : Int32)) &&& 31)) &&& (1 : Int32))), upd mo_across_185 v11_185.toNatClampNeg (v8_185 * ((upd mo_h_185 v11_185.toNatClampNeg ((1 : Int32) + ((p3 >>> (((2 : Int32) * v11_185) &&& 31)) &&& (1 : Int32)))) v11_185.toNatClampNeg)), upd mo_down_185 v11_185.toNatClampNeg (v9_185 * ((upd mo_v_185 v11_185.toNatClampNeg ((1 : Int32) + ((p3 >>> ((((2 : Int32) * v11_185) + (1 : Int32)) &&& 31)) &&& (1 : Int32)))) v11_185.toNatClampNeg)), upd mo_ownAcross_185 v11_185.toNatClampNeg z6, upd mo_ownDown_185 v11_185.toNatClampNeg z8, upd mo_base_185 v11_185.toNatClampNeg v10_185)
def f_M_lay_L185 (p2 : Int32) (p0 : Int32) (p3 : Int32) (v5_185 : Int32) (p1 : Int32) (v6_185 : Int32) (v8_185 : Int32) (v9_185 : Int32) (N : Nat) (k : Nat) : (Int32 × Int32 × (Nat → Int32) × (Nat → Int32) × (Nat → Int32) × (Nat → Int32) × (Nat → Int32) × (Nat → Int32) × (Nat → Int32)) → Option ((Nat → Int32) × (Nat → Int32) × (Nat → Int32) × (Nat → Int32) × (Nat → Int32) × (Nat → Int32) × (Nat → Int32)) := it (fun rec a => f_M_lay_L185b p2 p0 p3 v5_185 p1 v6_185 v8_185 v9_185 N rec a.1 a.2.1 a.2.2.1 a.2.2.2.1 a.2.2.2.2.1 a.2.2.2.2.2.1 a.2.2.2.2.2.2.1 a.2.2.2.2.2.2.2.1 a.2.2.2.2.2.2.2.2) k
def f_M_lay (N : Nat) (p0 : Int32) (p1 : Int32) (p2 : Int32) (p3 : Int32) (mo_width : Int32) (mo_height : Int32) (mo_many : Int32) (mo_unitsAcross : Int32) (mo_unitsDown : Int32) (mo_h : Nat → Int32) (mo_v : Nat → Int32) (mo_across : Nat → Int32) (mo_down : Nat → Int32) (mo_ownAcross : Nat → Int32) (mo_ownDown : Nat → Int32) (mo_base : Nat → Int32) : Option (Int32 × Int32 × Int32 × Int32 × Int32 × Int32 × (Nat → Int32) × (Nat → Int32) × (Nat → Int32) × (Nat → Int32) × (Nat → Int32) × (Nat → Int32) × (Nat → Int32)) :=
  (f_M_lay_L9 p2 p3 N N ((1 : Int32), (1 : Int32), (0 : Int32))).bind fun z1 =>
    (f_M_up p0 ((8 : Int32) * z1.1)).bind fun z2 =>
  (f_M_up p1 ((8 : Int32) * z1.2)).bind fun z3 =>
  (f_M_lay_L93 p2 z2 z3 p3 N N ((0 : Int32), (0 : Int32))).bind fun z4 =>
    if z4 ≤ (192 : Int32) then
    (f_M_lay_L185 p2 p0 p3 z1.1 p1 z1.2 z2 z3 N N ((0 : Int32), (0 : Int32), mo_h, mo_v, mo_across, mo_down, mo_ownAcross, mo_ownDown, mo_base)).bind fun z9 =>
      some (z4, p0, p1, p2, z2, z3, z9.1, z9.2.1, z9.2.2.1, z9.2.2.2.1, z9.2.2.2.2.1, z9.2.2.2.2.2.1, z9.2.2.2.2.2.2)
  else
    some (z4, mo_width, mo_height, mo_many, mo_unitsAcross, mo_unitsDown, mo_h, mo_v, mo_across, mo_down, mo_ownAcross, mo_ownDown, mo_base)
abbrev w_M_lay (cI cB cS cT : ClassId) (a_mo : Nat) (a_mo_h : Nat) (a_mo_v : Nat) (a_mo_across : Nat) (a_mo_down : Nat) (a_mo_ownAcross : Nat) (a_mo_ownDown : Nat) (a_mo_base : Nat) (a_mo_coefficients : Nat) (a_mo_before0 : Nat) (a_mo_draftCounts : Nat) (a_mo_draft : Nat) (a_mo_words : Nat) (a_mo_lengths : Nat) (a_mo_codes : Nat) (a_mo_directOf : Nat) (a_mo_otherOf : Nat) (a_mo_data : Nat) (a_mo_out : Nat) (a_mo_times : Nat) (a_mo_prediction : Nat) (a_mo_runBits : Nat) (a_mo_toCome : Nat) (a_mo_timesKept : Nat) (mo_thrown : Int32) (mo_width : Int32) (mo_height : Int32) (mo_many : Int32) (mo_unitsAcross : Int32) (mo_unitsDown : Int32) (mo_drafts : Int32) (mo_mask : Int32) (mo_first : Int32) (mo_last : Int32) (mo_before : Int32) (mo_bits : Int32) (mo_interval : Int32) (mo_size : Int32) (mo_outs : Int32) (mo_part : Int32) (mo_parted : Int32) (mo_failed : Int32) (mo_counting : Int32) (mo_run : Int32) (mo_runMany : Int32) (mo_comes : Int32) (mo_at : Int32) (mo_taken : Int32) (mo_left : Int32) (mo_fault : Int32) (mo_h : Nat → Int32) (mo_v : Nat → Int32) (mo_across : Nat → Int32) (mo_down : Nat → Int32) (mo_ownAcross : Nat → Int32) (mo_ownDown : Nat → Int32) (mo_base : Nat → Int32) : va_W := [(a_mo, .inr (11, [.int mo_thrown, .int mo_width, .int mo_height, .int mo_many, .ref a_mo_h, .ref a_mo_v, .ref a_mo_across, .ref a_mo_down, .ref a_mo_ownAcross, .ref a_mo_ownDown, .ref a_mo_base, .int mo_unitsAcross, .int mo_unitsDown, .ref a_mo_coefficients, .ref a_mo_before0, .ref a_mo_draftCounts, .ref a_mo_draft, .int mo_drafts, .ref a_mo_words, .ref a_mo_lengths, .ref a_mo_codes, .ref a_mo_directOf, .ref a_mo_otherOf, .int mo_mask, .int mo_first, .int mo_last, .int mo_before, .int mo_bits, .int mo_interval, .ref a_mo_data, .int mo_size, .ref a_mo_out, .int mo_outs, .int mo_part, .int mo_parted, .int mo_failed, .int mo_counting, .ref a_mo_times, .ref a_mo_prediction, .int mo_run, .ref a_mo_runBits, .int mo_runMany, .ref a_mo_toCome, .int mo_comes, .int mo_at, .int mo_taken, .int mo_left, .int mo_fault, .ref a_mo_timesKept])), (a_mo_h, .inl (cI, 4, .inl mo_h)), (a_mo_v, .inl (cI, 4, .inl mo_v)), (a_mo_across, .inl (cI, 4, .inl mo_across)), (a_mo_down, .inl (cI, 4, .inl mo_down)), (a_mo_ownAcross, .inl (cI, 4, .inl mo_ownAcross)), (a_mo_ownDown, .inl (cI, 4, .inl mo_ownDown)), (a_mo_base, .inl (cI, 4, .inl mo_base))]
def rm_M_lay : Room := { frames := 1, cells := 0, slots := 0, locals := 21 }
set_option maxHeartbeats 1000000 in
set_option maxRecDepth 100000 in
theorem c_M_lay (l : Launch) (dC : Nat → ClassId) (dI : Nat → Nat → Nat) (cI cB cS cT : ClassId) (N : Nat) (a_mo : Nat) (a_mo_h : Nat) (a_mo_v : Nat) (a_mo_across : Nat) (a_mo_down : Nat) (a_mo_ownAcross : Nat) (a_mo_ownDown : Nat) (a_mo_base : Nat) (a_mo_coefficients : Nat) (a_mo_before0 : Nat) (a_mo_draftCounts : Nat) (a_mo_draft : Nat) (a_mo_words : Nat) (a_mo_lengths : Nat) (a_mo_codes : Nat) (a_mo_directOf : Nat) (a_mo_otherOf : Nat) (a_mo_data : Nat) (a_mo_out : Nat) (a_mo_times : Nat) (a_mo_prediction : Nat) (a_mo_runBits : Nat) (a_mo_toCome : Nat) (a_mo_timesKept : Nat) (mo_thrown : Int32) (mo_width : Int32) (mo_height : Int32) (mo_many : Int32) (mo_unitsAcross : Int32) (mo_unitsDown : Int32) (mo_drafts : Int32) (mo_mask : Int32) (mo_first : Int32) (mo_last : Int32) (mo_before : Int32) (mo_bits : Int32) (mo_interval : Int32) (mo_size : Int32) (mo_outs : Int32) (mo_part : Int32) (mo_parted : Int32) (mo_failed : Int32) (mo_counting : Int32) (mo_run : Int32) (mo_runMany : Int32) (mo_comes : Int32) (mo_at : Int32) (mo_taken : Int32) (mo_left : Int32) (mo_fault : Int32) (mo_h : Nat → Int32) (mo_v : Nat → Int32) (mo_across : Nat → Int32) (mo_down : Nat → Int32) (mo_ownAcross : Nat → Int32) (mo_ownDown : Nat → Int32) (mo_base : Nat → Int32) (p0 : Int32) (p1 : Int32) (p2 : Int32) (p3 : Int32) (sz : Nat) (z : Int32 × Int32 × Int32 × Int32 × Int32 × Int32 × (Nat → Int32) × (Nat → Int32) × (Nat → Int32) × (Nat → Int32) × (Nat → Int32) × (Nat → Int32) × (Nat → Int32)) (hf : f_M_lay N p0 p1 p2 p3 mo_width mo_height mo_many mo_unitsAcross mo_unitsDown mo_h mo_v mo_across mo_down mo_ownAcross mo_ownDown mo_base = some z) : Met l y_m826 ws_m826 rm_M_lay (gPre (dC, dI) [.ref a_mo, .int p0, .int p1, .int p2, .int p3] (gT cI cB cS cT) (w_M_lay cI cB cS cT a_mo a_mo_h a_mo_v a_mo_across a_mo_down a_mo_ownAcross a_mo_ownDown a_mo_base a_mo_coefficients a_mo_before0 a_mo_draftCounts a_mo_draft a_mo_words a_mo_lengths a_mo_codes a_mo_directOf a_mo_otherOf a_mo_data a_mo_out a_mo_times a_mo_prediction a_mo_runBits a_mo_toCome a_mo_timesKept mo_thrown mo_width mo_height mo_many mo_unitsAcross mo_unitsDown mo_drafts mo_mask mo_first mo_last mo_before mo_bits mo_interval mo_size mo_outs mo_part mo_parted mo_failed mo_counting mo_run mo_runMany mo_comes mo_at mo_taken mo_left mo_fault mo_h mo_v mo_across mo_down mo_ownAcross mo_ownDown mo_base) sz) (gQi (dC, dI) (gT cI cB cS cT) z.1 (w_M_lay cI cB cS cT a_mo a_mo_h a_mo_v a_mo_across a_mo_down a_mo_ownAcross a_mo_ownDown a_mo_base a_mo_coefficients a_mo_before0 a_mo_draftCounts a_mo_draft a_mo_words a_mo_lengths a_mo_codes a_mo_directOf a_mo_otherOf a_mo_data a_mo_out a_mo_times a_mo_prediction a_mo_runBits a_mo_toCome a_mo_timesKept mo_thrown mo_width mo_height mo_many mo_unitsAcross mo_unitsDown mo_drafts mo_mask mo_first mo_last mo_before mo_bits mo_interval mo_size mo_outs mo_part mo_parted mo_failed mo_counting mo_run mo_runMany mo_comes mo_at mo_taken mo_left mo_fault mo_h mo_v mo_across mo_down mo_ownAcross mo_ownDown mo_base) (w_M_lay cI cB cS cT a_mo a_mo_h a_mo_v a_mo_across a_mo_down a_mo_ownAcross a_mo_ownDown a_mo_base a_mo_coefficients a_mo_before0 a_mo_draftCounts a_mo_draft a_mo_words a_mo_lengths a_mo_codes a_mo_directOf a_mo_otherOf a_mo_data a_mo_out a_mo_times a_mo_prediction a_mo_runBits a_mo_toCome a_mo_timesKept mo_thrown z.2.1 z.2.2.1 z.2.2.2.1 z.2.2.2.2.1 z.2.2.2.2.2.1 mo_drafts mo_mask mo_first mo_last mo_before mo_bits mo_interval mo_size mo_outs mo_part mo_parted mo_failed mo_counting mo_run mo_runMany mo_comes mo_at mo_taken mo_left mo_fault z.2.2.2.2.2.2.1 z.2.2.2.2.2.2.2.1 z.2.2.2.2.2.2.2.2.1 z.2.2.2.2.2.2.2.2.2.1 z.2.2.2.2.2.2.2.2.2.2.1 z.2.2.2.2.2.2.2.2.2.2.2.1 z.2.2.2.2.2.2.2.2.2.2.2.2) sz) 0 0 (va_A (w_M_lay cI cB cS cT a_mo a_mo_h a_mo_v a_mo_across a_mo_down a_mo_ownAcross a_mo_ownDown a_mo_base a_mo_coefficients a_mo_before0 a_mo_draftCounts a_mo_draft a_mo_words a_mo_lengths a_mo_codes a_mo_directOf a_mo_otherOf a_mo_data a_mo_out a_mo_times a_mo_prediction a_mo_runBits a_mo_toCome a_mo_timesKept mo_thrown mo_width mo_height mo_many mo_unitsAcross mo_unitsDown mo_drafts mo_mask mo_first mo_last mo_before mo_bits mo_interval mo_size mo_outs mo_part mo_parted mo_failed mo_counting mo_run mo_runMany mo_comes mo_at mo_taken mo_left mo_fault mo_h mo_v mo_across mo_down mo_ownAcross mo_ownDown mo_base) sz) := by
  refine Met.ofW (cc := prog_14_method_4_code) (maxL := 12) (ret := (some .int)) (by decide) rfl ?_
  intro p e s m args below meth c s₁ B hml hv
  obtain ⟨hargs, hsz, hP, hKN, hD0⟩ := hv
  have hK := hKN.1
  have hx := B.exec
  have hb := B.bytes
  have hr := B.returns
  have hts := atoms_spec (ws := ws_m826) B.pre
  have hown : s.vm.findClass "ScanCoderModel" = some m.cls := findClass_of_methodNamed B.named
  have hlocks := B.notSynchronized
  have k0 := hts _ (List.mem_cons_of_mem _ tw_835)
  have k1 := hts _ (List.mem_cons_of_mem _ tw_836)
  have k2 := hts _ (List.mem_cons_of_mem _ tw_837)
  have k3 := hts _ (List.mem_cons_of_mem _ tw_845)
  have k4 := hts _ (List.mem_cons_of_mem _ tw_846)
  have k5 := hts _ (List.mem_cons_of_mem _ tw_838)
  have k6 := hts _ (List.mem_cons_of_mem _ tw_839)
  have k7 := hts _ (List.mem_cons_of_mem _ tw_840)
  have k8 := hts _ (List.mem_cons_of_mem _ tw_841)
  have k9 := hts _ (List.mem_cons_of_mem _ tw_842)
  have k10 := hts _ (List.mem_cons_of_mem _ tw_843)
  have k11 := hts _ (List.mem_cons_of_mem _ tw_844)
  have n0 : ∀ w ∈ u_ws "ScanCoderModel" T_11 49, w ∈ ws_m826 := fun w h => List.mem_cons_of_mem _ (in_11 w h)
  subst hsz
  have hD := hD0.self (sz := s.heap.size)
  obtain ⟨A, hAe⟩ : ∃ A : Nat → Prop, va_A (w_M_lay cI cB cS cT a_mo a_mo_h a_mo_v a_mo_across a_mo_down a_mo_ownAcross a_mo_ownDown a_mo_base a_mo_coefficients a_mo_before0 a_mo_draftCounts a_mo_draft a_mo_words a_mo_lengths a_mo_codes a_mo_directOf a_mo_otherOf a_mo_data a_mo_out a_mo_times a_mo_prediction a_mo_runBits a_mo_toCome a_mo_timesKept mo_thrown mo_width mo_height mo_many mo_unitsAcross mo_unitsDown mo_drafts mo_mask mo_first mo_last mo_before mo_bits mo_interval mo_size mo_outs mo_part mo_parted mo_failed mo_counting mo_run mo_runMany mo_comes mo_at mo_taken mo_left mo_fault mo_h mo_v mo_across mo_down mo_ownAcross mo_ownDown mo_base) s.heap.size = A := ⟨_, rfl⟩
  rw [hAe] at hD
  have hA : ∀ q : Nat, s.heap.size ≤ q → A q := fun q h => by rw [← hAe]; exact Or.inr h
  have hS : va_S A s.heap s.heap [] := va_S.rf
  have hl := lv_entry ([.ref a_mo, .int p0, .int p1, .int p2, .int p3]) (n := 12) (Nat.le_of_ble_eq_true rfl)
  have hfr : entryFrame m args 12 = F0 m 0 ((lg_sl ([.ref a_mo, .int p0, .int p1, .int p2, .int p3]) ++ List.replicate (12 - (lg_sl ([.ref a_mo, .int p0, .int p1, .int p2, .int p3])).length) Slot.unset).toArray) [] := by rw [hargs]; exact lg_entry_eq _ _ _
  rw [hfr]
  generalize (lg_sl ([.ref a_mo, .int p0, .int p1, .int p2, .int p3]) ++ List.replicate (12 - (lg_sl ([.ref a_mo, .int p0, .int p1, .int p2, .int p3])).length) Slot.unset).toArray = ls at hl ⊢
  have hl : lv_has ls 12 [(0, .ref a_mo), (1, .int p0), (2, .int p1), (3, .int p2), (4, .int p3)] := hl
  refine gen_Q (fun Q hQ => ?_)
  clear hfr
  have L9 : ∀  (z : Int32 × Int32), (GW (dC, dI) A p l e (headSpec ws_m826 rm_M_lay).room s m args below meth c 0 0 Q 12 65 (w_M_lay cI cB cS cT a_mo a_mo_h a_mo_v a_mo_across a_mo_down a_mo_ownAcross a_mo_ownDown a_mo_base a_mo_coefficients a_mo_before0 a_mo_draftCounts a_mo_draft a_mo_words a_mo_lengths a_mo_codes a_mo_directOf a_mo_otherOf a_mo_data a_mo_out a_mo_times a_mo_prediction a_mo_runBits a_mo_toCome a_mo_timesKept mo_thrown mo_width mo_height mo_many mo_unitsAcross mo_unitsDown mo_drafts mo_mask mo_first mo_last mo_before mo_bits mo_interval mo_size mo_outs mo_part mo_parted mo_failed mo_counting mo_run mo_runMany mo_comes mo_at mo_taken mo_left mo_fault mo_h mo_v mo_across mo_down mo_ownAcross mo_ownDown mo_base) [(0, .ref a_mo), (1, .int p0), (2, .int p1), (3, .int p2), (4, .int p3), (5, .int z.1), (6, .int z.2)] []) → ∀ (k : Nat) (v5_9 : Int32) (v6_9 : Int32) (v7_9 : Int32), f_M_lay_L9 p2 p3 N k (v5_9, v6_9, v7_9) = some z → GW (dC, dI) A p l e (headSpec ws_m826 rm_M_lay).room s m args below meth c 0 0 Q 12 9 (w_M_lay cI cB cS cT a_mo a_mo_h a_mo_v a_mo_across a_mo_down a_mo_ownAcross a_mo_ownDown a_mo_base a_mo_coefficients a_mo_before0 a_mo_draftCounts a_mo_draft a_mo_words a_mo_lengths a_mo_codes a_mo_directOf a_mo_otherOf a_mo_data a_mo_out a_mo_times a_mo_prediction a_mo_runBits a_mo_toCome a_mo_timesKept mo_thrown mo_width mo_height mo_many mo_unitsAcross mo_unitsDown mo_drafts mo_mask mo_first mo_last mo_before mo_bits mo_interval mo_size mo_outs mo_part mo_parted mo_failed mo_counting mo_run mo_runMany mo_comes mo_at mo_taken mo_left mo_fault mo_h mo_v mo_across mo_down mo_ownAcross mo_ownDown mo_base) [(0, .ref a_mo), (1, .int p0), (2, .int p1), (3, .int p2), (4, .int p3), (5, .int v5_9), (6, .int v6_9), (7, .int v7_9)] [] := by
    intro  z hE0 k
    induction k with
    | zero =>
      intro v5_9 v6_9 v7_9 hf
      exact (it_zero hf).elim
    | succ k ih =>
      intro v5_9 v6_9 v7_9 hf H locs ls hP hD hS hl
      have J9_57 : ∀ (v5_j57 : Int32) (s0_j57 : Int32), f_M_lay_J9_57 N (f_M_lay_L9 p2 p3 N k) v5_j57 s0_j57 v7_9 = some z → GW (dC, dI) A p l e (headSpec ws_m826 rm_M_lay).room s m args below meth c 0 0 Q 12 57 (w_M_lay cI cB cS cT a_mo a_mo_h a_mo_v a_mo_across a_mo_down a_mo_ownAcross a_mo_ownDown a_mo_base a_mo_coefficients a_mo_before0 a_mo_draftCounts a_mo_draft a_mo_words a_mo_lengths a_mo_codes a_mo_directOf a_mo_otherOf a_mo_data a_mo_out a_mo_times a_mo_prediction a_mo_runBits a_mo_toCome a_mo_timesKept mo_thrown mo_width mo_height mo_many mo_unitsAcross mo_unitsDown mo_drafts mo_mask mo_first mo_last mo_before mo_bits mo_interval mo_size mo_outs mo_part mo_parted mo_failed mo_counting mo_run mo_runMany mo_comes mo_at mo_taken mo_left mo_fault mo_h mo_v mo_across mo_down mo_ownAcross mo_ownDown mo_base) [(0, .ref a_mo), (1, .int p0), (2, .int p1), (3, .int p2), (4, .int p3), (5, .int v5_j57), (7, .int v7_9)] [.int s0_j57] := by
        intro v5_j57 s0_j57 hf H locs ls hP hD hS hl
        unfold f_M_lay_J9_57 at hf
        refine lv_istore (lv' := [(6, .int s0_j57), (0, .ref a_mo), (1, .int p0), (2, .int p1), (3, .int p2), (4, .int p3), (5, .int v5_j57), (7, .int v7_9)]) hx hb d_m826_57 hl (by decide) rfl (fun ls hl => ?_)
        refine lv_iinc (v := v7_9 + (1 : Int32)) (lv' := [(7, .int (v7_9 + (1 : Int32))), (6, .int s0_j57), (0, .ref a_mo), (1, .int p0), (2, .int p1), (3, .int p2), (4, .int p3), (5, .int v5_j57)]) hx hb d_m826_59 hl (k := 7) rfl rfl (by decide) rfl (fun ls hl => ?_)
        refine lv_goto (tgt := 9) hx hb d_m826_62 (by decide) ?_
        exact ih v5_j57 s0_j57 (v7_9 + (1 : Int32)) hf H locs ls hP hD hS (lv_sub hl [2, 3, 4, 5, 6, 7, 1, 0] rfl)
      have J9_34 : ∀ (s0_j34 : Int32), f_M_lay_J9_34 N (f_M_lay_L9 p2 p3 N k) p3 v7_9 s0_j34 v6_9 = some z → GW (dC, dI) A p l e (headSpec ws_m826 rm_M_lay).room s m args below meth c 0 0 Q 12 34 (w_M_lay cI cB cS cT a_mo a_mo_h a_mo_v a_mo_across a_mo_down a_mo_ownAcross a_mo_ownDown a_mo_base a_mo_coefficients a_mo_before0 a_mo_draftCounts a_mo_draft a_mo_words a_mo_lengths a_mo_codes a_mo_directOf a_mo_otherOf a_mo_data a_mo_out a_mo_times a_mo_prediction a_mo_runBits a_mo_toCome a_mo_timesKept mo_thrown mo_width mo_height mo_many mo_unitsAcross mo_unitsDown mo_drafts mo_mask mo_first mo_last mo_before mo_bits mo_interval mo_size mo_outs mo_part mo_parted mo_failed mo_counting mo_run mo_runMany mo_comes mo_at mo_taken mo_left mo_fault mo_h mo_v mo_across mo_down mo_ownAcross mo_ownDown mo_base) [(0, .ref a_mo), (1, .int p0), (2, .int p1), (3, .int p2), (4, .int p3), (6, .int v6_9), (7, .int v7_9)] [.int s0_j34] := by
        intro s0_j34 hf H locs ls hP hD hS hl
        unfold f_M_lay_J9_34 at hf
        refine lv_istore (lv' := [(5, .int s0_j34), (0, .ref a_mo), (1, .int p0), (2, .int p1), (3, .int p2), (4, .int p3), (6, .int v6_9), (7, .int v7_9)]) hx hb d_m826_34 hl (by decide) rfl (fun ls hl => ?_)
        refine lv_iload hx hb d_m826_36 (lv_at hl 5 rfl) ?_
        refine lv_iconst (v := (2 : Int32)) hx hb d_m826_38 (by decide) ?_
        refine lv_iload hx hb d_m826_39 (lv_at hl 7 rfl) ?_
        refine lv_imul hx hb d_m826_41 ?_
        refine lv_iconst (v := (1 : Int32)) hx hb d_m826_42 (by decide) ?_
        refine lv_iadd hx hb d_m826_43 ?_
        refine lv_ishr hx hb d_m826_44 ?_
        refine lv_iconst (v := (1 : Int32)) hx hb d_m826_45 (by decide) ?_
        refine lv_iand hx hb d_m826_46 ?_
        refine lv_iconst (v := (1 : Int32)) hx hb d_m826_47 (by decide) ?_
        refine lv_icmp_ne (tgt := 55) hx hb d_m826_48 (by decide) (fun hc => ?_) (fun hc => ?_)
        · replace hf := (if_neg hc).symm.trans hf
          refine lv_iload hx hb d_m826_55 (lv_at hl 6 rfl) ?_
          exact J9_57 s0_j34 v6_9 hf H locs ls hP hD hS (lv_sub hl [1, 2, 3, 4, 5, 0, 7] rfl)
        · replace hf := (if_pos hc).symm.trans hf
          refine lv_iconst (v := (2 : Int32)) hx hb d_m826_51 (by decide) ?_
          refine lv_goto (tgt := 57) hx hb d_m826_52 (by decide) ?_
          exact J9_57 s0_j34 (2 : Int32) hf H locs ls hP hD hS (lv_sub hl [1, 2, 3, 4, 5, 0, 7] rfl)
      have hf : f_M_lay_L9b p2 p3 N (f_M_lay_L9 p2 p3 N k) v5_9 v6_9 v7_9 = some z := hf
      unfold f_M_lay_L9b at hf
      refine lv_iload hx hb d_m826_9 (lv_at hl 7 rfl) ?_
      refine lv_iload_n hx hb d_m826_11 rfl (lv_at hl 3 rfl) ?_
      refine lv_icmp_ge (tgt := 65) hx hb d_m826_12 (by decide) (fun hc => ?_) (fun hc => ?_)
      · replace hf := (if_pos hc).symm.trans hf
        obtain rfl := Option.some.inj hf
        exact hE0  H locs ls hP hD hS (lv_sub hl [0, 1, 2, 3, 4, 5, 6] rfl)
      · replace hf := (if_neg hc).symm.trans hf
        refine lv_iload hx hb d_m826_15 (lv_at hl 4 rfl) ?_
        refine lv_iconst (v := (2 : Int32)) hx hb d_m826_17 (by decide) ?_
        refine lv_iload hx hb d_m826_18 (lv_at hl 7 rfl) ?_
        refine lv_imul hx hb d_m826_20 ?_
        refine lv_ishr hx hb d_m826_21 ?_
        refine lv_iconst (v := (1 : Int32)) hx hb d_m826_22 (by decide) ?_
        refine lv_iand hx hb d_m826_23 ?_
        refine lv_iconst (v := (1 : Int32)) hx hb d_m826_24 (by decide) ?_
        refine lv_icmp_ne (tgt := 32) hx hb d_m826_25 (by decide) (fun hc => ?_) (fun hc => ?_)
        · replace hf := (if_neg hc).symm.trans hf
          refine lv_iload hx hb d_m826_32 (lv_at hl 5 rfl) ?_
          exact J9_34 v5_9 hf H locs ls hP hD hS (lv_sub hl [0, 1, 2, 3, 4, 6, 7] rfl)
        · replace hf := (if_pos hc).symm.trans hf
          refine lv_iconst (v := (2 : Int32)) hx hb d_m826_28 (by decide) ?_
          refine lv_goto (tgt := 34) hx hb d_m826_29 (by decide) ?_
          exact J9_34 (2 : Int32) hf H locs ls hP hD hS (lv_sub hl [0, 1, 2, 3, 4, 6, 7] rfl)
  have L93 : ∀ (v5_93 : Int32) (v6_93 : Int32) (v8_93 : Int32) (v9_93 : Int32) (z : Int32), (GW (dC, dI) A p l e (headSpec ws_m826 rm_M_lay).room s m args below meth c 0 0 Q 12 141 (w_M_lay cI cB cS cT a_mo a_mo_h a_mo_v a_mo_across a_mo_down a_mo_ownAcross a_mo_ownDown a_mo_base a_mo_coefficients a_mo_before0 a_mo_draftCounts a_mo_draft a_mo_words a_mo_lengths a_mo_codes a_mo_directOf a_mo_otherOf a_mo_data a_mo_out a_mo_times a_mo_prediction a_mo_runBits a_mo_toCome a_mo_timesKept mo_thrown mo_width mo_height mo_many mo_unitsAcross mo_unitsDown mo_drafts mo_mask mo_first mo_last mo_before mo_bits mo_interval mo_size mo_outs mo_part mo_parted mo_failed mo_counting mo_run mo_runMany mo_comes mo_at mo_taken mo_left mo_fault mo_h mo_v mo_across mo_down mo_ownAcross mo_ownDown mo_base) [(0, .ref a_mo), (1, .int p0), (2, .int p1), (3, .int p2), (4, .int p3), (5, .int v5_93), (6, .int v6_93), (7, .int z), (8, .int v8_93), (9, .int v9_93)] []) → ∀ (k : Nat) (v7_93 : Int32) (v10_93 : Int32), f_M_lay_L93 p2 v8_93 v9_93 p3 N k (v7_93, v10_93) = some z → GW (dC, dI) A p l e (headSpec ws_m826 rm_M_lay).room s m args below meth c 0 0 Q 12 93 (w_M_lay cI cB cS cT a_mo a_mo_h a_mo_v a_mo_across a_mo_down a_mo_ownAcross a_mo_ownDown a_mo_base a_mo_coefficients a_mo_before0 a_mo_draftCounts a_mo_draft a_mo_words a_mo_lengths a_mo_codes a_mo_directOf a_mo_otherOf a_mo_data a_mo_out a_mo_times a_mo_prediction a_mo_runBits a_mo_toCome a_mo_timesKept mo_thrown mo_width mo_height mo_many mo_unitsAcross mo_unitsDown mo_drafts mo_mask mo_first mo_last mo_before mo_bits mo_interval mo_size mo_outs mo_part mo_parted mo_failed mo_counting mo_run mo_runMany mo_comes mo_at mo_taken mo_left mo_fault mo_h mo_v mo_across mo_down mo_ownAcross mo_ownDown mo_base) [(0, .ref a_mo), (1, .int p0), (2, .int p1), (3, .int p2), (4, .int p3), (5, .int v5_93), (6, .int v6_93), (7, .int v7_93), (8, .int v8_93), (9, .int v9_93), (10, .int v10_93)] [] := by
    intro v5_93 v6_93 v8_93 v9_93 z hE0 k
    induction k with
    | zero =>
      intro v7_93 v10_93 hf
      exact (it_zero hf).elim
    | succ k ih =>
      intro v7_93 v10_93 hf H locs ls hP hD hS hl
      have hf : f_M_lay_L93b p2 v8_93 v9_93 p3 N (f_M_lay_L93 p2 v8_93 v9_93 p3 N k) v7_93 v10_93 = some z := hf
      unfold f_M_lay_L93b at hf
      refine lv_iload hx hb d_m826_93 (lv_at hl 10 rfl) ?_
      refine lv_iload_n hx hb d_m826_95 rfl (lv_at hl 3 rfl) ?_
      refine lv_icmp_ge (tgt := 141) hx hb d_m826_96 (by decide) (fun hc => ?_) (fun hc => ?_)
      · replace hf := (if_pos hc).symm.trans hf
        obtain rfl := Option.some.inj hf
        exact hE0  H locs ls hP hD hS (lv_sub hl [0, 1, 2, 3, 4, 5, 6, 7, 8, 9] rfl)
      · replace hf := (if_neg hc).symm.trans hf
        refine lv_iload hx hb d_m826_99 (lv_at hl 7 rfl) ?_
        refine lv_iload hx hb d_m826_101 (lv_at hl 8 rfl) ?_
        refine lv_iload hx hb d_m826_103 (lv_at hl 9 rfl) ?_
        refine lv_imul hx hb d_m826_105 ?_
        refine lv_iconst (v := (1 : Int32)) hx hb d_m826_106 (by decide) ?_
        refine lv_iload hx hb d_m826_107 (lv_at hl 4 rfl) ?_
        refine lv_iconst (v := (2 : Int32)) hx hb d_m826_109 (by decide) ?_
        refine lv_iload hx hb d_m826_110 (lv_at hl 10 rfl) ?_
        refine lv_imul hx hb d_m826_112 ?_
        refine lv_ishr hx hb d_m826_113 ?_
        refine lv_iconst (v := (1 : Int32)) hx hb d_m826_114 (by decide) ?_
        refine lv_iand hx hb d_m826_115 ?_
        refine lv_iadd hx hb d_m826_116 ?_
        refine lv_imul hx hb d_m826_117 ?_
        refine lv_iconst (v := (1 : Int32)) hx hb d_m826_118 (by decide) ?_
        refine lv_iload hx hb d_m826_119 (lv_at hl 4 rfl) ?_
        refine lv_iconst (v := (2 : Int32)) hx hb d_m826_121 (by decide) ?_
        refine lv_iload hx hb d_m826_122 (lv_at hl 10 rfl) ?_
        refine lv_imul hx hb d_m826_124 ?_
        refine lv_iconst (v := (1 : Int32)) hx hb d_m826_125 (by decide) ?_
        refine lv_iadd hx hb d_m826_126 ?_
        refine lv_ishr hx hb d_m826_127 ?_
        refine lv_iconst (v := (1 : Int32)) hx hb d_m826_128 (by decide) ?_
        refine lv_iand hx hb d_m826_129 ?_
        refine lv_iadd hx hb d_m826_130 ?_
        refine lv_imul hx hb d_m826_131 ?_
        refine lv_iadd hx hb d_m826_132 ?_
        refine lv_istore (lv' := [(7, .int (v7_93 + (((v8_93 * v9_93) * ((1 : Int32) + ((p3 >>> (((2 : Int32) * v10_93) &&& 31)) &&& (1 : Int32)))) * ((1 : Int32) + ((p3 >>> ((((2 : Int32) * v10_93) + (1 : Int32)) &&& 31)) &&& (1 : Int32)))))), (0, .ref a_mo), (1, .int p0), (2, .int p1), (3, .int p2), (4, .int p3), (5, .int v5_93), (6, .int v6_93), (8, .int v8_93), (9, .int v9_93), (10, .int v10_93)]) hx hb d_m826_133 hl (by decide) rfl (fun ls hl => ?_)
        refine lv_iinc (v := v10_93 + (1 : Int32)) (lv' := [(10, .int (v10_93 + (1 : Int32))), (7, .int (v7_93 + (((v8_93 * v9_93) * ((1 : Int32) + ((p3 >>> (((2 : Int32) * v10_93) &&& 31)) &&& (1 : Int32)))) * ((1 : Int32) + ((p3 >>> ((((2 : Int32) * v10_93) + (1 : Int32)) &&& 31)) &&& (1 : Int32)))))), (0, .ref a_mo), (1, .int p0), (2, .int p1), (3, .int p2), (4, .int p3), (5, .int v5_93), (6, .int v6_93), (8, .int v8_93), (9, .int v9_93)]) hx hb d_m826_135 hl (k := 10) rfl rfl (by decide) rfl (fun ls hl => ?_)
        refine lv_goto (tgt := 93) hx hb d_m826_138 (by decide) ?_
        exact ih (v7_93 + (((v8_93 * v9_93) * ((1 : Int32) + ((p3 >>> (((2 : Int32) * v10_93) &&& 31)) &&& (1 : Int32)))) * ((1 : Int32) + ((p3 >>> ((((2 : Int32) * v10_93) + (1 : Int32)) &&& 31)) &&& (1 : Int32))))) (v10_93 + (1 : Int32)) hf H locs ls hP hD hS (lv_sub hl [2, 3, 4, 5, 6, 7, 8, 1, 9, 10, 0] rfl)
  have L185 : ∀ (v5_185 : Int32) (v6_185 : Int32) (v7_185 : Int32) (v8_185 : Int32) (v9_185 : Int32) (mo_width_185 : Int32) (mo_height_185 : Int32) (mo_many_185 : Int32) (mo_unitsAcross_185 : Int32) (mo_unitsDown_185 : Int32) (z : (Nat → Int32) × (Nat → Int32) × (Nat → Int32) × (Nat → Int32) × (Nat → Int32) × (Nat → Int32) × (Nat → Int32)), (GW (dC, dI) A p l e (headSpec ws_m826 rm_M_lay).room s m args below meth c 0 0 Q 12 350 (w_M_lay cI cB cS cT a_mo a_mo_h a_mo_v a_mo_across a_mo_down a_mo_ownAcross a_mo_ownDown a_mo_base a_mo_coefficients a_mo_before0 a_mo_draftCounts a_mo_draft a_mo_words a_mo_lengths a_mo_codes a_mo_directOf a_mo_otherOf a_mo_data a_mo_out a_mo_times a_mo_prediction a_mo_runBits a_mo_toCome a_mo_timesKept mo_thrown mo_width_185 mo_height_185 mo_many_185 mo_unitsAcross_185 mo_unitsDown_185 mo_drafts mo_mask mo_first mo_last mo_before mo_bits mo_interval mo_size mo_outs mo_part mo_parted mo_failed mo_counting mo_run mo_runMany mo_comes mo_at mo_taken mo_left mo_fault z.1 z.2.1 z.2.2.1 z.2.2.2.1 z.2.2.2.2.1 z.2.2.2.2.2.1 z.2.2.2.2.2.2) [(7, .int v7_185)] []) → ∀ (k : Nat) (v10_185 : Int32) (v11_185 : Int32) (mo_h_185 : Nat → Int32) (mo_v_185 : Nat → Int32) (mo_across_185 : Nat → Int32) (mo_down_185 : Nat → Int32) (mo_ownAcross_185 : Nat → Int32) (mo_ownDown_185 : Nat → Int32) (mo_base_185 : Nat → Int32), f_M_lay_L185 p2 p0 p3 v5_185 p1 v6_185 v8_185 v9_185 N k (v10_185, v11_185, mo_h_185, mo_v_185, mo_across_185, mo_down_185, mo_ownAcross_185, mo_ownDown_185, mo_base_185) = some z → GW (dC, dI) A p l e (headSpec ws_m826 rm_M_lay).room s m args below meth c 0 0 Q 12 185 (w_M_lay cI cB cS cT a_mo a_mo_h a_mo_v a_mo_across a_mo_down a_mo_ownAcross a_mo_ownDown a_mo_base a_mo_coefficients a_mo_before0 a_mo_draftCounts a_mo_draft a_mo_words a_mo_lengths a_mo_codes a_mo_directOf a_mo_otherOf a_mo_data a_mo_out a_mo_times a_mo_prediction a_mo_runBits a_mo_toCome a_mo_timesKept mo_thrown mo_width_185 mo_height_185 mo_many_185 mo_unitsAcross_185 mo_unitsDown_185 mo_drafts mo_mask mo_first mo_last mo_before mo_bits mo_interval mo_size mo_outs mo_part mo_parted mo_failed mo_counting mo_run mo_runMany mo_comes mo_at mo_taken mo_left mo_fault mo_h_185 mo_v_185 mo_across_185 mo_down_185 mo_ownAcross_185 mo_ownDown_185 mo_base_185) [(0, .ref a_mo), (1, .int p0), (2, .int p1), (3, .int p2), (4, .int p3), (5, .int v5_185), (6, .int v6_185), (7, .int v7_185), (8, .int v8_185), (9, .int v9_185), (10, .int v10_185), (11, .int v11_185)] [] := by
    intro v5_185 v6_185 v7_185 v8_185 v9_185 mo_width_185 mo_height_185 mo_many_185 mo_unitsAcross_185 mo_unitsDown_185 z hE0 k
    induction k with
    | zero =>
      intro v10_185 v11_185 mo_h_185 mo_v_185 mo_across_185 mo_down_185 mo_ownAcross_185 mo_ownDown_185 mo_base_185 hf
      exact (it_zero hf).elim
    | succ k ih =>
      intro v10_185 v11_185 mo_h_185 mo_v_185 mo_across_185 mo_down_185 mo_ownAcross_185 mo_ownDown_185 mo_base_185 hf H locs ls hP hD hS hl
      have hf : f_M_lay_L185b p2 p0 p3 v5_185 p1 v6_185 v8_185 v9_185 N (f_M_lay_L185 p2 p0 p3 v5_185 p1 v6_185 v8_185 v9_185 N k) v10_185 v11_185 mo_h_185 mo_v_185 mo_across_185 mo_down_185 mo_ownAcross_185 mo_ownDown_185 mo_base_185 = some z := hf
      unfold f_M_lay_L185b at hf
      refine lv_iload hx hb d_m826_185 (lv_at hl 11 rfl) ?_
      refine lv_iload_n hx hb d_m826_187 rfl (lv_at hl 3 rfl) ?_
      refine lv_icmp_ge (tgt := 350) hx hb d_m826_188 (by decide) (fun hc => ?_) (fun hc => ?_)
      · replace hf := (if_pos hc).symm.trans hf
        obtain rfl := Option.some.inj hf
        exact hE0  H locs ls hP hD hS (lv_sub hl [7] rfl)
      · replace hf := (if_neg hc).symm.trans hf
        refine lv_aload_n hx hb d_m826_191 rfl (lv_at hl 0 rfl) ?_
        refine va_get (D := (dC, dI)) (ci := 11) (v := .ref a_mo_h) (C := "ScanCoderModel") (T := T_11) (N := 49) hx hb hts n0 hown hK hP 0 rfl rfl 4 (by decide) k5 (fun _ h9 => h9) rfl d_m826_192 ?_
        refine lv_iload hx hb d_m826_195 (lv_at hl 11 rfl) ?_
        refine lv_iconst (v := (1 : Int32)) hx hb d_m826_197 (by decide) ?_
        refine lv_iload hx hb d_m826_198 (lv_at hl 4 rfl) ?_
        refine lv_iconst (v := (2 : Int32)) hx hb d_m826_200 (by decide) ?_
        refine lv_iload hx hb d_m826_201 (lv_at hl 11 rfl) ?_
        refine lv_imul hx hb d_m826_203 ?_
        refine lv_ishr hx hb d_m826_204 ?_
        refine lv_iconst (v := (1 : Int32)) hx hb d_m826_205 (by decide) ?_
        refine lv_iand hx hb d_m826_206 ?_
        refine lv_iadd hx hb d_m826_207 ?_
        obtain ⟨hi, hf⟩ := ob_if hf
        refine va_iast hx hb hK hP hD hS 1 0 rfl rfl hi d_m826_208 (fun H locs hP hD hS => ?_)
        have hP : va_P (dC, dI) vwCl (w_M_lay cI cB cS cT a_mo a_mo_h a_mo_v a_mo_across a_mo_down a_mo_ownAcross a_mo_ownDown a_mo_base a_mo_coefficients a_mo_before0 a_mo_draftCounts a_mo_draft a_mo_words a_mo_lengths a_mo_codes a_mo_directOf a_mo_otherOf a_mo_data a_mo_out a_mo_times a_mo_prediction a_mo_runBits a_mo_toCome a_mo_timesKept mo_thrown mo_width_185 mo_height_185 mo_many_185 mo_unitsAcross_185 mo_unitsDown_185 mo_drafts mo_mask mo_first mo_last mo_before mo_bits mo_interval mo_size mo_outs mo_part mo_parted mo_failed mo_counting mo_run mo_runMany mo_comes mo_at mo_taken mo_left mo_fault (upd mo_h_185 v11_185.toNatClampNeg ((1 : Int32) + ((p3 >>> (((2 : Int32) * v11_185) &&& 31)) &&& (1 : Int32)))) mo_v_185 mo_across_185 mo_down_185 mo_ownAcross_185 mo_ownDown_185 mo_base_185) H := hP
        have hD : va_D A (w_M_lay cI cB cS cT a_mo a_mo_h a_mo_v a_mo_across a_mo_down a_mo_ownAcross a_mo_ownDown a_mo_base a_mo_coefficients a_mo_before0 a_mo_draftCounts a_mo_draft a_mo_words a_mo_lengths a_mo_codes a_mo_directOf a_mo_otherOf a_mo_data a_mo_out a_mo_times a_mo_prediction a_mo_runBits a_mo_toCome a_mo_timesKept mo_thrown mo_width_185 mo_height_185 mo_many_185 mo_unitsAcross_185 mo_unitsDown_185 mo_drafts mo_mask mo_first mo_last mo_before mo_bits mo_interval mo_size mo_outs mo_part mo_parted mo_failed mo_counting mo_run mo_runMany mo_comes mo_at mo_taken mo_left mo_fault (upd mo_h_185 v11_185.toNatClampNeg ((1 : Int32) + ((p3 >>> (((2 : Int32) * v11_185) &&& 31)) &&& (1 : Int32)))) mo_v_185 mo_across_185 mo_down_185 mo_ownAcross_185 mo_ownDown_185 mo_base_185) := hD
        refine lv_aload_n hx hb d_m826_209 rfl (lv_at hl 0 rfl) ?_
        refine va_get (D := (dC, dI)) (ci := 11) (v := .ref a_mo_v) (C := "ScanCoderModel") (T := T_11) (N := 49) hx hb hts n0 hown hK hP 0 rfl rfl 5 (by decide) k6 (fun _ h9 => h9) rfl d_m826_210 ?_
        refine lv_iload hx hb d_m826_213 (lv_at hl 11 rfl) ?_
        refine lv_iconst (v := (1 : Int32)) hx hb d_m826_215 (by decide) ?_
        refine lv_iload hx hb d_m826_216 (lv_at hl 4 rfl) ?_
        refine lv_iconst (v := (2 : Int32)) hx hb d_m826_218 (by decide) ?_
        refine lv_iload hx hb d_m826_219 (lv_at hl 11 rfl) ?_
        refine lv_imul hx hb d_m826_221 ?_
        refine lv_iconst (v := (1 : Int32)) hx hb d_m826_222 (by decide) ?_
        refine lv_iadd hx hb d_m826_223 ?_
        refine lv_ishr hx hb d_m826_224 ?_
        refine lv_iconst (v := (1 : Int32)) hx hb d_m826_225 (by decide) ?_
        refine lv_iand hx hb d_m826_226 ?_
        refine lv_iadd hx hb d_m826_227 ?_
        obtain ⟨hi, hf⟩ := ob_if hf
        refine va_iast hx hb hK hP hD hS 2 0 rfl rfl hi d_m826_228 (fun H locs hP hD hS => ?_)
        have hP : va_P (dC, dI) vwCl (w_M_lay cI cB cS cT a_mo a_mo_h a_mo_v a_mo_across a_mo_down a_mo_ownAcross a_mo_ownDown a_mo_base a_mo_coefficients a_mo_before0 a_mo_draftCounts a_mo_draft a_mo_words a_mo_lengths a_mo_codes a_mo_directOf a_mo_otherOf a_mo_data a_mo_out a_mo_times a_mo_prediction a_mo_runBits a_mo_toCome a_mo_timesKept mo_thrown mo_width_185 mo_height_185 mo_many_185 mo_unitsAcross_185 mo_unitsDown_185 mo_drafts mo_mask mo_first mo_last mo_before mo_bits mo_interval mo_size mo_outs mo_part mo_parted mo_failed mo_counting mo_run mo_runMany mo_comes mo_at mo_taken mo_left mo_fault (upd mo_h_185 v11_185.toNatClampNeg ((1 : Int32) + ((p3 >>> (((2 : Int32) * v11_185) &&& 31)) &&& (1 : Int32)))) (upd mo_v_185 v11_185.toNatClampNeg ((1 : Int32) + ((p3 >>> ((((2 : Int32) * v11_185) + (1 : Int32)) &&& 31)) &&& (1 : Int32)))) mo_across_185 mo_down_185 mo_ownAcross_185 mo_ownDown_185 mo_base_185) H := hP
        have hD : va_D A (w_M_lay cI cB cS cT a_mo a_mo_h a_mo_v a_mo_across a_mo_down a_mo_ownAcross a_mo_ownDown a_mo_base a_mo_coefficients a_mo_before0 a_mo_draftCounts a_mo_draft a_mo_words a_mo_lengths a_mo_codes a_mo_directOf a_mo_otherOf a_mo_data a_mo_out a_mo_times a_mo_prediction a_mo_runBits a_mo_toCome a_mo_timesKept mo_thrown mo_width_185 mo_height_185 mo_many_185 mo_unitsAcross_185 mo_unitsDown_185 mo_drafts mo_mask mo_first mo_last mo_before mo_bits mo_interval mo_size mo_outs mo_part mo_parted mo_failed mo_counting mo_run mo_runMany mo_comes mo_at mo_taken mo_left mo_fault (upd mo_h_185 v11_185.toNatClampNeg ((1 : Int32) + ((p3 >>> (((2 : Int32) * v11_185) &&& 31)) &&& (1 : Int32)))) (upd mo_v_185 v11_185.toNatClampNeg ((1 : Int32) + ((p3 >>> ((((2 : Int32) * v11_185) + (1 : Int32)) &&& 31)) &&& (1 : Int32)))) mo_across_185 mo_down_185 mo_ownAcross_185 mo_ownDown_185 mo_base_185) := hD
        refine lv_aload_n hx hb d_m826_229 rfl (lv_at hl 0 rfl) ?_
        refine va_get (D := (dC, dI)) (ci := 11) (v := .ref a_mo_across) (C := "ScanCoderModel") (T := T_11) (N := 49) hx hb hts n0 hown hK hP 0 rfl rfl 6 (by decide) k7 (fun _ h9 => h9) rfl d_m826_230 ?_
        refine lv_iload hx hb d_m826_233 (lv_at hl 11 rfl) ?_
        refine lv_iload hx hb d_m826_235 (lv_at hl 8 rfl) ?_
        refine lv_aload_n hx hb d_m826_237 rfl (lv_at hl 0 rfl) ?_
        refine va_get (D := (dC, dI)) (ci := 11) (v := .ref a_mo_h) (C := "ScanCoderModel") (T := T_11) (N := 49) hx hb hts n0 hown hK hP 0 rfl rfl 4 (by decide) k5 (fun _ h9 => h9) rfl d_m826_238 ?_
        refine lv_iload hx hb d_m826_241 (lv_at hl 11 rfl) ?_
        obtain ⟨hi, hf⟩ := ob_if hf
        refine va_iald hx hb hK hP 1 0 rfl rfl hi d_m826_243 ?_
        refine lv_imul hx hb d_m826_244 ?_
        obtain ⟨hi, hf⟩ := ob_if hf
        refine va_iast hx hb hK hP hD hS 3 0 rfl rfl hi d_m826_245 (fun H locs hP hD hS => ?_)
        have hP : va_P (dC, dI) vwCl (w_M_lay cI cB cS cT a_mo a_mo_h a_mo_v a_mo_across a_mo_down a_mo_ownAcross a_mo_ownDown a_mo_base a_mo_coefficients a_mo_before0 a_mo_draftCounts a_mo_draft a_mo_words a_mo_lengths a_mo_codes a_mo_directOf a_mo_otherOf a_mo_data a_mo_out a_mo_times a_mo_prediction a_mo_runBits a_mo_toCome a_mo_timesKept mo_thrown mo_width_185 mo_height_185 mo_many_185 mo_unitsAcross_185 mo_unitsDown_185 mo_drafts mo_mask mo_first mo_last mo_before mo_bits mo_interval mo_size mo_outs mo_part mo_parted mo_failed mo_counting mo_run mo_runMany mo_comes mo_at mo_taken mo_left mo_fault (upd mo_h_185 v11_185.toNatClampNeg ((1 : Int32) + ((p3 >>> (((2 : Int32) * v11_185) &&& 31)) &&& (1 : Int32)))) (upd mo_v_185 v11_185.toNatClampNeg ((1 : Int32) + ((p3 >>> ((((2 : Int32) * v11_185) + (1 : Int32)) &&& 31)) &&& (1 : Int32)))) (upd mo_across_185 v11_185.toNatClampNeg (v8_185 * ((upd mo_h_185 v11_185.toNatClampNeg ((1 : Int32) + ((p3 >>> (((2 : Int32) * v11_185) &&& 31)) &&& (1 : Int32)))) v11_185.toNatClampNeg))) mo_down_185 mo_ownAcross_185 mo_ownDown_185 mo_base_185) H := hP
        have hD : va_D A (w_M_lay cI cB cS cT a_mo a_mo_h a_mo_v a_mo_across a_mo_down a_mo_ownAcross a_mo_ownDown a_mo_base a_mo_coefficients a_mo_before0 a_mo_draftCounts a_mo_draft a_mo_words a_mo_lengths a_mo_codes a_mo_directOf a_mo_otherOf a_mo_data a_mo_out a_mo_times a_mo_prediction a_mo_runBits a_mo_toCome a_mo_timesKept mo_thrown mo_width_185 mo_height_185 mo_many_185 mo_unitsAcross_185 mo_unitsDown_185 mo_drafts mo_mask mo_first mo_last mo_before mo_bits mo_interval mo_size mo_outs mo_part mo_parted mo_failed mo_counting mo_run mo_runMany mo_comes mo_at mo_taken mo_left mo_fault (upd mo_h_185 v11_185.toNatClampNeg ((1 : Int32) + ((p3 >>> (((2 : Int32) * v11_185) &&& 31)) &&& (1 : Int32)))) (upd mo_v_185 v11_185.toNatClampNeg ((1 : Int32) + ((p3 >>> ((((2 : Int32) * v11_185) + (1 : Int32)) &&& 31)) &&& (1 : Int32)))) (upd mo_across_185 v11_185.toNatClampNeg (v8_185 * ((upd mo_h_185 v11_185.toNatClampNeg ((1 : Int32) + ((p3 >>> (((2 : Int32) * v11_185) &&& 31)) &&& (1 : Int32)))) v11_185.toNatClampNeg))) mo_down_185 mo_ownAcross_185 mo_ownDown_185 mo_base_185) := hD
        refine lv_aload_n hx hb d_m826_246 rfl (lv_at hl 0 rfl) ?_
        refine va_get (D := (dC, dI)) (ci := 11) (v := .ref a_mo_down) (C := "ScanCoderModel") (T := T_11) (N := 49) hx hb hts n0 hown hK hP 0 rfl rfl 7 (by decide) k8 (fun _ h9 => h9) rfl d_m826_247 ?_
        refine lv_iload hx hb d_m826_250 (lv_at hl 11 rfl) ?_
        refine lv_iload hx hb d_m826_252 (lv_at hl 9 rfl) ?_
        refine lv_aload_n hx hb d_m826_254 rfl (lv_at hl 0 rfl) ?_
        refine va_get (D := (dC, dI)) (ci := 11) (v := .ref a_mo_v) (C := "ScanCoderModel") (T := T_11) (N := 49) hx hb hts n0 hown hK hP 0 rfl rfl 5 (by decide) k6 (fun _ h9 => h9) rfl d_m826_255 ?_
        refine lv_iload hx hb d_m826_258 (lv_at hl 11 rfl) ?_
        obtain ⟨hi, hf⟩ := ob_if hf
        refine va_iald hx hb hK hP 2 0 rfl rfl hi d_m826_260 ?_
        refine lv_imul hx hb d_m826_261 ?_
        obtain ⟨hi, hf⟩ := ob_if hf
        refine va_iast hx hb hK hP hD hS 4 0 rfl rfl hi d_m826_262 (fun H locs hP hD hS => ?_)
        have hP : va_P (dC, dI) vwCl (w_M_lay cI cB cS cT a_mo a_mo_h a_mo_v a_mo_across a_mo_down a_mo_ownAcross a_mo_ownDown a_mo_base a_mo_coefficients a_mo_before0 a_mo_draftCounts a_mo_draft a_mo_words a_mo_lengths a_mo_codes a_mo_directOf a_mo_otherOf a_mo_data a_mo_out a_mo_times a_mo_prediction a_mo_runBits a_mo_toCome a_mo_timesKept mo_thrown mo_width_185 mo_height_185 mo_many_185 mo_unitsAcross_185 mo_unitsDown_185 mo_drafts mo_mask mo_first mo_last mo_before mo_bits mo_interval mo_size mo_outs mo_part mo_parted mo_failed mo_counting mo_run mo_runMany mo_comes mo_at mo_taken mo_left mo_fault (upd mo_h_185 v11_185.toNatClampNeg ((1 : Int32) + ((p3 >>> (((2 : Int32) * v11_185) &&& 31)) &&& (1 : Int32)))) (upd mo_v_185 v11_185.toNatClampNeg ((1 : Int32) + ((p3 >>> ((((2 : Int32) * v11_185) + (1 : Int32)) &&& 31)) &&& (1 : Int32)))) (upd mo_across_185 v11_185.toNatClampNeg (v8_185 * ((upd mo_h_185 v11_185.toNatClampNeg ((1 : Int32) + ((p3 >>> (((2 : Int32) * v11_185) &&& 31)) &&& (1 : Int32)))) v11_185.toNatClampNeg))) (upd mo_down_185 v11_185.toNatClampNeg (v9_185 * ((upd mo_v_185 v11_185.toNatClampNeg ((1 : Int32) + ((p3 >>> ((((2 : Int32) * v11_185) + (1 : Int32)) &&& 31)) &&& (1 : Int32)))) v11_185.toNatClampNeg))) mo_ownAcross_185 mo_ownDown_185 mo_base_185) H := hP
        have hD : va_D A (w_M_lay cI cB cS cT a_mo a_mo_h a_mo_v a_mo_across a_mo_down a_mo_ownAcross a_mo_ownDown a_mo_base a_mo_coefficients a_mo_before0 a_mo_draftCounts a_mo_draft a_mo_words a_mo_lengths a_mo_codes a_mo_directOf a_mo_otherOf a_mo_data a_mo_out a_mo_times a_mo_prediction a_mo_runBits a_mo_toCome a_mo_timesKept mo_thrown mo_width_185 mo_height_185 mo_many_185 mo_unitsAcross_185 mo_unitsDown_185 mo_drafts mo_mask mo_first mo_last mo_before mo_bits mo_interval mo_size mo_outs mo_part mo_parted mo_failed mo_counting mo_run mo_runMany mo_comes mo_at mo_taken mo_left mo_fault (upd mo_h_185 v11_185.toNatClampNeg ((1 : Int32) + ((p3 >>> (((2 : Int32) * v11_185) &&& 31)) &&& (1 : Int32)))) (upd mo_v_185 v11_185.toNatClampNeg ((1 : Int32) + ((p3 >>> ((((2 : Int32) * v11_185) + (1 : Int32)) &&& 31)) &&& (1 : Int32)))) (upd mo_across_185 v11_185.toNatClampNeg (v8_185 * ((upd mo_h_185 v11_185.toNatClampNeg ((1 : Int32) + ((p3 >>> (((2 : Int32) * v11_185) &&& 31)) &&& (1 : Int32)))) v11_185.toNatClampNeg))) (upd mo_down_185 v11_185.toNatClampNeg (v9_185 * ((upd mo_v_185 v11_185.toNatClampNeg ((1 : Int32) + ((p3 >>> ((((2 : Int32) * v11_185) + (1 : Int32)) &&& 31)) &&& (1 : Int32)))) v11_185.toNatClampNeg))) mo_ownAcross_185 mo_ownDown_185 mo_base_185) := hD
        refine lv_aload_n hx hb d_m826_263 rfl (lv_at hl 0 rfl) ?_
        refine va_get (D := (dC, dI)) (ci := 11) (v := .ref a_mo_ownAcross) (C := "ScanCoderModel") (T := T_11) (N := 49) hx hb hts n0 hown hK hP 0 rfl rfl 8 (by decide) k9 (fun _ h9 => h9) rfl d_m826_264 ?_
        refine lv_iload hx hb d_m826_267 (lv_at hl 11 rfl) ?_
        refine lv_iload_n hx hb d_m826_269 rfl (lv_at hl 1 rfl) ?_
        refine lv_aload_n hx hb d_m826_270 rfl (lv_at hl 0 rfl) ?_
        refine va_get (D := (dC, dI)) (ci := 11) (v := .ref a_mo_h) (C := "ScanCoderModel") (T := T_11) (N := 49) hx hb hts n0 hown hK hP 0 rfl rfl 4 (by decide) k5 (fun _ h9 => h9) rfl d_m826_271 ?_
        refine lv_iload hx hb d_m826_274 (lv_at hl 11 rfl) ?_
        obtain ⟨hi, hf⟩ := ob_if hf
        refine va_iald hx hb hK hP 1 0 rfl rfl hi d_m826_276 ?_
        refine lv_imul hx hb d_m826_277 ?_
        refine lv_iload hx hb d_m826_278 (lv_at hl 5 rfl) ?_
        obtain ⟨z5, hz5, hf⟩ := ob_bind hf
        refine vp_callSi (g_run (va_runS (As := [.int (p0 * ((upd mo_h_185 v11_185.toNatClampNeg ((1 : Int32) + ((p3 >>> (((2 : Int32) * v11_185) &&& 31)) &&& (1 : Int32)))) v11_185.toNatClampNeg)), .int v5_185]) (rest := [.int v11_185, .ref a_mo_ownAcross]) ⟨hx, hb, hml, hown, hts⟩ (c_M_up l dC dI cI cB cS cT (p0 * ((upd mo_h_185 v11_185.toNatClampNeg ((1 : Int32) + ((p3 >>> (((2 : Int32) * v11_185) &&& 31)) &&& (1 : Int32)))) v11_185.toNatClampNeg)) v5_185 z5 hz5) ⟨(callB_of 2 hts (gi tw_829 rfl) rfl rfl rfl (hts _ (List.mem_cons_of_mem _ tw_16)) (hts _ (List.mem_cons_of_mem _ tw_827)) (by decide +kernel) ⟨Nat.le_of_ble_eq_true rfl, Nat.le_of_ble_eq_true rfl⟩), hts _ (List.mem_cons_of_mem _ tw_828)⟩ ⟨gp_blind, gp_at hKN (g_pm hP [] rfl)⟩ rfl rfl hl.1 rfl (lv_room (Nat.le_of_ble_eq_true rfl)) d_m826_280 ⟨Nat.zero_le _, Nat.zero_le _⟩)) (fun r hrz5 => ?_)
        have hrz5 := hrz5.symm
        subst hrz5
        refine W.eq (g2 := F0 m 283 ls [.int z5, .int v11_185, .ref a_mo_ownAcross]) rfl ?_
        refine lv_bipush (v := (8 : Int32)) hx hb d_m826_283 (by decide) ?_
        obtain ⟨z6, hz6, hf⟩ := ob_bind hf
        refine vp_callSi (g_run (va_runS (As := [.int z5, .int (8 : Int32)]) (rest := [.int v11_185, .ref a_mo_ownAcross]) ⟨hx, hb, hml, hown, hts⟩ (c_M_up l dC dI cI cB cS cT z5 (8 : Int32) z6 hz6) ⟨(callB_of 2 hts (gi tw_829 rfl) rfl rfl rfl (hts _ (List.mem_cons_of_mem _ tw_16)) (hts _ (List.mem_cons_of_mem _ tw_827)) (by decide +kernel) ⟨Nat.le_of_ble_eq_true rfl, Nat.le_of_ble_eq_true rfl⟩), hts _ (List.mem_cons_of_mem _ tw_828)⟩ ⟨gp_blind, gp_at hKN (g_pm hP [] rfl)⟩ rfl rfl hl.1 rfl (lv_room (Nat.le_of_ble_eq_true rfl)) d_m826_285 ⟨Nat.zero_le _, Nat.zero_le _⟩)) (fun r hrz6 => ?_)
        have hrz6 := hrz6.symm
        subst hrz6
        refine W.eq (g2 := F0 m 288 ls [.int z6, .int v11_185, .ref a_mo_ownAcross]) rfl ?_
        obtain ⟨hi, hf⟩ := ob_if hf
        refine va_iast hx hb hK hP hD hS 5 0 rfl rfl hi d_m826_288 (fun H locs hP hD hS => ?_)
        have hP : va_P (dC, dI) vwCl (w_M_lay cI cB cS cT a_mo a_mo_h a_mo_v a_mo_across a_mo_down a_mo_ownAcross a_mo_ownDown a_mo_base a_mo_coefficients a_mo_before0 a_mo_draftCounts a_mo_draft a_mo_words a_mo_lengths a_mo_codes a_mo_directOf a_mo_otherOf a_mo_data a_mo_out a_mo_times a_mo_prediction a_mo_runBits a_mo_toCome a_mo_timesKept mo_thrown mo_width_185 mo_height_185 mo_many_185 mo_unitsAcross_185 mo_unitsDown_185 mo_drafts mo_mask mo_first mo_last mo_before mo_bits mo_interval mo_size mo_outs mo_part mo_parted mo_failed mo_counting mo_run mo_runMany mo_comes mo_at mo_taken mo_left mo_fault (upd mo_h_185 v11_185.toNatClampNeg ((1 : Int32) + ((p3 >>> (((2 : Int32) * v11_185) &&& 31)) &&& (1 : Int32)))) (upd mo_v_185 v11_185.toNatClampNeg ((1 : Int32) + ((p3 >>> ((((2 : Int32) * v11_185) + (1 : Int32)) &&& 31)) &&& (1 : Int32)))) (upd mo_across_185 v11_185.toNatClampNeg (v8_185 * ((upd mo_h_185 v11_185.toNatClampNeg ((1 : Int32) + ((p3 >>> (((2 : Int32) * v11_185) &&& 31)) &&& (1 : Int32)))) v11_185.toNatClampNeg))) (upd mo_down_185 v11_185.toNatClampNeg (v9_185 * ((upd mo_v_185 v11_185.toNatClampNeg ((1 : Int32) + ((p3 >>> ((((2 : Int32) * v11_185) + (1 : Int32)) &&& 31)) &&& (1 : Int32)))) v11_185.toNatClampNeg))) (upd mo_ownAcross_185 v11_185.toNatClampNeg z6) mo_ownDown_185 mo_base_185) H := hP
        have hD : va_D A (w_M_lay cI cB cS cT a_mo a_mo_h a_mo_v a_mo_across a_mo_down a_mo_ownAcross a_mo_ownDown a_mo_base a_mo_coefficients a_mo_before0 a_mo_draftCounts a_mo_draft a_mo_words a_mo_lengths a_mo_codes a_mo_directOf a_mo_otherOf a_mo_data a_mo_out a_mo_times a_mo_prediction a_mo_runBits a_mo_toCome a_mo_timesKept mo_thrown mo_width_185 mo_height_185 mo_many_185 mo_unitsAcross_185 mo_unitsDown_185 mo_drafts mo_mask mo_first mo_last mo_before mo_bits mo_interval mo_size mo_outs mo_part mo_parted mo_failed mo_counting mo_run mo_runMany mo_comes mo_at mo_taken mo_left mo_fault (upd mo_h_185 v11_185.toNatClampNeg ((1 : Int32) + ((p3 >>> (((2 : Int32) * v11_185) &&& 31)) &&& (1 : Int32)))) (upd mo_v_185 v11_185.toNatClampNeg ((1 : Int32) + ((p3 >>> ((((2 : Int32) * v11_185) + (1 : Int32)) &&& 31)) &&& (1 : Int32)))) (upd mo_across_185 v11_185.toNatClampNeg (v8_185 * ((upd mo_h_185 v11_185.toNatClampNeg ((1 : Int32) + ((p3 >>> (((2 : Int32) * v11_185) &&& 31)) &&& (1 : Int32)))) v11_185.toNatClampNeg))) (upd mo_down_185 v11_185.toNatClampNeg (v9_185 * ((upd mo_v_185 v11_185.toNatClampNeg ((1 : Int32) + ((p3 >>> ((((2 : Int32) * v11_185) + (1 : Int32)) &&& 31)) &&& (1 : Int32)))) v11_185.toNatClampNeg))) (upd mo_ownAcross_185 v11_185.toNatClampNeg z6) mo_ownDown_185 mo_base_185) := hD
        refine lv_aload_n hx hb d_m826_289 rfl (lv_at hl 0 rfl) ?_
        refine va_get (D := (dC, dI)) (ci := 11) (v := .ref a_mo_ownDown) (C := "ScanCoderModel") (T := T_11) (N := 49) hx hb hts n0 hown hK hP 0 rfl rfl 9 (by decide) k10 (fun _ h9 => h9) rfl d_m826_290 ?_
        refine lv_iload hx hb d_m826_293 (lv_at hl 11 rfl) ?_
        refine lv_iload_n hx hb d_m826_295 rfl (lv_at hl 2 rfl) ?_
        refine lv_aload_n hx hb d_m826_296 rfl (lv_at hl 0 rfl) ?_
        refine va_get (D := (dC, dI)) (ci := 11) (v := .ref a_mo_v) (C := "ScanCoderModel") (T := T_11) (N := 49) hx hb hts n0 hown hK hP 0 rfl rfl 5 (by decide) k6 (fun _ h9 => h9) rfl d_m826_297 ?_
        refine lv_iload hx hb d_m826_300 (lv_at hl 11 rfl) ?_
        obtain ⟨hi, hf⟩ := ob_if hf
        refine va_iald hx hb hK hP 2 0 rfl rfl hi d_m826_302 ?_
        refine lv_imul hx hb d_m826_303 ?_
        refine lv_iload hx hb d_m826_304 (lv_at hl 6 rfl) ?_
        obtain ⟨z7, hz7, hf⟩ := ob_bind hf
        refine vp_callSi (g_run (va_runS (As := [.int (p1 * ((upd mo_v_185 v11_185.toNatClampNeg ((1 : Int32) + ((p3 >>> ((((2 : Int32) * v11_185) + (1 : Int32)) &&& 31)) &&& (1 : Int32)))) v11_185.toNatClampNeg)), .int v6_185]) (rest := [.int v11_185, .ref a_mo_ownDown]) ⟨hx, hb, hml, hown, hts⟩ (c_M_up l dC dI cI cB cS cT (p1 * ((upd mo_v_185 v11_185.toNatClampNeg ((1 : Int32) + ((p3 >>> ((((2 : Int32) * v11_185) + (1 : Int32)) &&& 31)) &&& (1 : Int32)))) v11_185.toNatClampNeg)) v6_185 z7 hz7) ⟨(callB_of 2 hts (gi tw_829 rfl) rfl rfl rfl (hts _ (List.mem_cons_of_mem _ tw_16)) (hts _ (List.mem_cons_of_mem _ tw_827)) (by decide +kernel) ⟨Nat.le_of_ble_eq_true rfl, Nat.le_of_ble_eq_true rfl⟩), hts _ (List.mem_cons_of_mem _ tw_828)⟩ ⟨gp_blind, gp_at hKN (g_pm hP [] rfl)⟩ rfl rfl hl.1 rfl (lv_room (Nat.le_of_ble_eq_true rfl)) d_m826_306 ⟨Nat.zero_le _, Nat.zero_le _⟩)) (fun r hrz7 => ?_)
        have hrz7 := hrz7.symm
        subst hrz7
        refine W.eq (g2 := F0 m 309 ls [.int z7, .int v11_185, .ref a_mo_ownDown]) rfl ?_
        refine lv_bipush (v := (8 : Int32)) hx hb d_m826_309 (by decide) ?_
        obtain ⟨z8, hz8, hf⟩ := ob_bind hf
        refine vp_callSi (g_run (va_runS (As := [.int z7, .int (8 : Int32)]) (rest := [.int v11_185, .ref a_mo_ownDown]) ⟨hx, hb, hml, hown, hts⟩ (c_M_up l dC dI cI cB cS cT z7 (8 : Int32) z8 hz8) ⟨(callB_of 2 hts (gi tw_829 rfl) rfl rfl rfl (hts _ (List.mem_cons_of_mem _ tw_16)) (hts _ (List.mem_cons_of_mem _ tw_827)) (by decide +kernel) ⟨Nat.le_of_ble_eq_true rfl, Nat.le_of_ble_eq_true rfl⟩), hts _ (List.mem_cons_of_mem _ tw_828)⟩ ⟨gp_blind, gp_at hKN (g_pm hP [] rfl)⟩ rfl rfl hl.1 rfl (lv_room (Nat.le_of_ble_eq_true rfl)) d_m826_311 ⟨Nat.zero_le _, Nat.zero_le _⟩)) (fun r hrz8 => ?_)
        have hrz8 := hrz8.symm
        subst hrz8
        refine W.eq (g2 := F0 m 314 ls [.int z8, .int v11_185, .ref a_mo_ownDown]) rfl ?_
        obtain ⟨hi, hf⟩ := ob_if hf
        refine va_iast hx hb hK hP hD hS 6 0 rfl rfl hi d_m826_314 (fun H locs hP hD hS => ?_)
        have hP : va_P (dC, dI) vwCl (w_M_lay cI cB cS cT a_mo a_mo_h a_mo_v a_mo_across a_mo_down a_mo_ownAcross a_mo_ownDown a_mo_base a_mo_coefficients a_mo_before0 a_mo_draftCounts a_mo_draft a_mo_words a_mo_lengths a_mo_codes a_mo_directOf a_mo_otherOf a_mo_data a_mo_out a_mo_times a_mo_prediction a_mo_runBits a_mo_toCome a_mo_timesKept mo_thrown mo_width_185 mo_height_185 mo_many_185 mo_unitsAcross_185 mo_unitsDown_185 mo_drafts mo_mask mo_first mo_last mo_before mo_bits mo_interval mo_size mo_outs mo_part mo_parted mo_failed mo_counting mo_run mo_runMany mo_comes mo_at mo_taken mo_left mo_fault (upd mo_h_185 v11_185.toNatClampNeg ((1 : Int32) + ((p3 >>> (((2 : Int32) * v11_185) &&& 31)) &&& (1 : Int32)))) (upd mo_v_185 v11_185.toNatClampNeg ((1 : Int32) + ((p3 >>> ((((2 : Int32) * v11_185) + (1 : Int32)) &&& 31)) &&& (1 : Int32)))) (upd mo_across_185 v11_185.toNatClampNeg (v8_185 * ((upd mo_h_185 v11_185.toNatClampNeg ((1 : Int32) + ((p3 >>> (((2 : Int32) * v11_185) &&& 31)) &&& (1 : Int32)))) v11_185.toNatClampNeg))) (upd mo_down_185 v11_185.toNatClampNeg (v9_185 * ((upd mo_v_185 v11_185.toNatClampNeg ((1 : Int32) + ((p3 >>> ((((2 : Int32) * v11_185) + (1 : Int32)) &&& 31)) &&& (1 : Int32)))) v11_185.toNatClampNeg))) (upd mo_ownAcross_185 v11_185.toNatClampNeg z6) (upd mo_ownDown_185 v11_185.toNatClampNeg z8) mo_base_185) H := hP
        have hD : va_D A (w_M_lay cI cB cS cT a_mo a_mo_h a_mo_v a_mo_across a_mo_down a_mo_ownAcross a_mo_ownDown a_mo_base a_mo_coefficients a_mo_before0 a_mo_draftCounts a_mo_draft a_mo_words a_mo_lengths a_mo_codes a_mo_directOf a_mo_otherOf a_mo_data a_mo_out a_mo_times a_mo_prediction a_mo_runBits a_mo_toCome a_mo_timesKept mo_thrown mo_width_185 mo_height_185 mo_many_185 mo_unitsAcross_185 mo_unitsDown_185 mo_drafts mo_mask mo_first mo_last mo_before mo_bits mo_interval mo_size mo_outs mo_part mo_parted mo_failed mo_counting mo_run mo_runMany mo_comes mo_at mo_taken mo_left mo_fault (upd mo_h_185 v11_185.toNatClampNeg ((1 : Int32) + ((p3 >>> (((2 : Int32) * v11_185) &&& 31)) &&& (1 : Int32)))) (upd mo_v_185 v11_185.toNatClampNeg ((1 : Int32) + ((p3 >>> ((((2 : Int32) * v11_185) + (1 : Int32)) &&& 31)) &&& (1 : Int32)))) (upd mo_across_185 v11_185.toNatClampNeg (v8_185 * ((upd mo_h_185 v11_185.toNatClampNeg ((1 : Int32) + ((p3 >>> (((2 : Int32) * v11_185) &&& 31)) &&& (1 : Int32)))) v11_185.toNatClampNeg))) (upd mo_down_185 v11_185.toNatClampNeg (v9_185 * ((upd mo_v_185 v11_185.toNatClampNeg ((1 : Int32) + ((p3 >>> ((((2 : Int32) * v11_185) + (1 : Int32)) &&& 31)) &&& (1 : Int32)))) v11_185.toNatClampNeg))) (upd mo_ownAcross_185 v11_185.toNatClampNeg z6) (upd mo_ownDown_185 v11_185.toNatClampNeg z8) mo_base_185) := hD
        refine lv_aload_n hx hb d_m826_315 rfl (lv_at hl 0 rfl) ?_
        refine va_get (D := (dC, dI)) (ci := 11) (v := .ref a_mo_base) (C := "ScanCoderModel") (T := T_11) (N := 49) hx hb hts n0 hown hK hP 0 rfl rfl 10 (by decide) k11 (fun _ h9 => h9) rfl d_m826_316 ?_
        refine lv_iload hx hb d_m826_319 (lv_at hl 11 rfl) ?_
        refine lv_iload hx hb d_m826_321 (lv_at hl 10 rfl) ?_
        obtain ⟨hi, hf⟩ := ob_if hf
        refine va_iast hx hb hK hP hD hS 7 0 rfl rfl hi d_m826_323 (fun H locs hP hD hS => ?_)
        have hP : va_P (dC, dI) vwCl (w_M_lay cI cB cS cT a_mo a_mo_h a_mo_v a_mo_across a_mo_down a_mo_ownAcross a_mo_ownDown a_mo_base a_mo_coefficients a_mo_before0 a_mo_draftCounts a_mo_draft a_mo_words a_mo_lengths a_mo_codes a_mo_directOf a_mo_otherOf a_mo_data a_mo_out a_mo_times a_mo_prediction a_mo_runBits a_mo_toCome a_mo_timesKept mo_thrown mo_width_185 mo_height_185 mo_many_185 mo_unitsAcross_185 mo_unitsDown_185 mo_drafts mo_mask mo_first mo_last mo_before mo_bits mo_interval mo_size mo_outs mo_part mo_parted mo_failed mo_counting mo_run mo_runMany mo_comes mo_at mo_taken mo_left mo_fault (upd mo_h_185 v11_185.toNatClampNeg ((1 : Int32) + ((p3 >>> (((2 : Int32) * v11_185) &&& 31)) &&& (1 : Int32)))) (upd mo_v_185 v11_185.toNatClampNeg ((1 : Int32) + ((p3 >>> ((((2 : Int32) * v11_185) + (1 : Int32)) &&& 31)) &&& (1 : Int32)))) (upd mo_across_185 v11_185.toNatClampNeg (v8_185 * ((upd mo_h_185 v11_185.toNatClampNeg ((1 : Int32) + ((p3 >>> (((2 : Int32) * v11_185) &&& 31)) &&& (1 : Int32)))) v11_185.toNatClampNeg))) (upd mo_down_185 v11_185.toNatClampNeg (v9_185 * ((upd mo_v_185 v11_185.toNatClampNeg ((1 : Int32) + ((p3 >>> ((((2 : Int32) * v11_185) + (1 : Int32)) &&& 31)) &&& (1 : Int32)))) v11_185.toNatClampNeg))) (upd mo_ownAcross_185 v11_185.toNatClampNeg z6) (upd mo_ownDown_185 v11_185.toNatClampNeg z8) (upd mo_base_185 v11_185.toNatClampNeg v10_185)) H := hP
        have hD : va_D A (w_M_lay cI cB cS cT a_mo a_mo_h a_mo_v a_mo_across a_mo_down a_mo_ownAcross a_mo_ownDown a_mo_base a_mo_coefficients a_mo_before0 a_mo_draftCounts a_mo_draft a_mo_words a_mo_lengths a_mo_codes a_mo_directOf a_mo_otherOf a_mo_data a_mo_out a_mo_times a_mo_prediction a_mo_runBits a_mo_toCome a_mo_timesKept mo_thrown mo_width_185 mo_height_185 mo_many_185 mo_unitsAcross_185 mo_unitsDown_185 mo_drafts mo_mask mo_first mo_last mo_before mo_bits mo_interval mo_size mo_outs mo_part mo_parted mo_failed mo_counting mo_run mo_runMany mo_comes mo_at mo_taken mo_left mo_fault (upd mo_h_185 v11_185.toNatClampNeg ((1 : Int32) + ((p3 >>> (((2 : Int32) * v11_185) &&& 31)) &&& (1 : Int32)))) (upd mo_v_185 v11_185.toNatClampNeg ((1 : Int32) + ((p3 >>> ((((2 : Int32) * v11_185) + (1 : Int32)) &&& 31)) &&& (1 : Int32)))) (upd mo_across_185 v11_185.toNatClampNeg (v8_185 * ((upd mo_h_185 v11_185.toNatClampNeg ((1 : Int32) + ((p3 >>> (((2 : Int32) * v11_185) &&& 31)) &&& (1 : Int32)))) v11_185.toNatClampNeg))) (upd mo_down_185 v11_185.toNatClampNeg (v9_185 * ((upd mo_v_185 v11_185.toNatClampNeg ((1 : Int32) + ((p3 >>> ((((2 : Int32) * v11_185) + (1 : Int32)) &&& 31)) &&& (1 : Int32)))) v11_185.toNatClampNeg))) (upd mo_ownAcross_185 v11_185.toNatClampNeg z6) (upd mo_ownDown_185 v11_185.toNatClampNeg z8) (upd mo_base_185 v11_185.toNatClampNeg v10_185)) := hD
        refine lv_iload hx hb d_m826_324 (lv_at hl 10 rfl) ?_
        refine lv_aload_n hx hb d_m826_326 rfl (lv_at hl 0 rfl) ?_
        refine va_get (D := (dC, dI)) (ci := 11) (v := .ref a_mo_across) (C := "ScanCoderModel") (T := T_11) (N := 49) hx hb hts n0 hown hK hP 0 rfl rfl 6 (by decide) k7 (fun _ h9 => h9) rfl d_m826_327 ?_
        refine lv_iload hx hb d_m826_330 (lv_at hl 11 rfl) ?_
        obtain ⟨hi, hf⟩ := ob_if hf
        refine va_iald hx hb hK hP 3 0 rfl rfl hi d_m826_332 ?_
        refine lv_aload_n hx hb d_m826_333 rfl (lv_at hl 0 rfl) ?_
        refine va_get (D := (dC, dI)) (ci := 11) (v := .ref a_mo_down) (C := "ScanCoderModel") (T := T_11) (N := 49) hx hb hts n0 hown hK hP 0 rfl rfl 7 (by decide) k8 (fun _ h9 => h9) rfl d_m826_334 ?_
        refine lv_iload hx hb d_m826_337 (lv_at hl 11 rfl) ?_
        obtain ⟨hi, hf⟩ := ob_if hf
        refine va_iald hx hb hK hP 4 0 rfl rfl hi d_m826_339 ?_
        refine lv_imul hx hb d_m826_340 ?_
        refine lv_iadd hx hb d_m826_341 ?_
        refine lv_istore (lv' := [(10, .int (v10_185 + (((upd mo_across_185 v11_185.toNatClampNeg (v8_185 * ((upd mo_h_185 v11_185.toNatClampNeg ((1 : Int32) + ((p3 >>> (((2 : Int32) * v11_185) &&& 31)) &&& (1 : Int32)))) v11_185.toNatClampNeg))) v11_185.toNatClampNeg) * ((upd mo_down_185 v11_185.toNatClampNeg (v9_185 * ((upd mo_v_185 v11_185.toNatClampNeg ((1 : Int32) + ((p3 >>> ((((2 : Int32) * v11_185) + (1 : Int32)) &&& 31)) &&& (1 : Int32)))) v11_185.toNatClampNeg))) v11_185.toNatClampNeg)))), (0, .ref a_mo), (1, .int p0), (2, .int p1), (3, .int p2), (4, .int p3), (5, .int v5_185), (6, .int v6_185), (7, .int v7_185), (8, .int v8_185), (9, .int v9_185), (11, .int v11_185)]) hx hb d_m826_342 hl (by decide) rfl (fun ls hl => ?_)
        refine lv_iinc (v := v11_185 + (1 : Int32)) (lv' := [(11, .int (v11_185 + (1 : Int32))), (10, .int (v10_185 + (((upd mo_across_185 v11_185.toNatClampNeg (v8_185 * ((upd mo_h_185 v11_185.toNatClampNeg ((1 : Int32) + ((p3 >>> (((2 : Int32) * v11_185) &&& 31)) &&& (1 : Int32)))) v11_185.toNatClampNeg))) v11_185.toNatClampNeg) * ((upd mo_down_185 v11_185.toNatClampNeg (v9_185 * ((upd mo_v_185 v11_185.toNatClampNeg ((1 : Int32) + ((p3 >>> ((((2 : Int32) * v11_185) + (1 : Int32)) &&& 31)) &&& (1 : Int32)))) v11_185.toNatClampNeg))) v11_185.toNatClampNeg)))), (0, .ref a_mo), (1, .int p0), (2, .int p1), (3, .int p2), (4, .int p3), (5, .int v5_185), (6, .int v6_185), (7, .int v7_185), (8, .int v8_185), (9, .int v9_185)]) hx hb d_m826_344 hl (k := 11) rfl rfl (by decide) rfl (fun ls hl => ?_)
        refine lv_goto (tgt := 185) hx hb d_m826_347 (by decide) ?_
        exact ih (v10_185 + (((upd mo_across_185 v11_185.toNatClampNeg (v8_185 * ((upd mo_h_185 v11_185.toNatClampNeg ((1 : Int32) + ((p3 >>> (((2 : Int32) * v11_185) &&& 31)) &&& (1 : Int32)))) v11_185.toNatClampNeg))) v11_185.toNatClampNeg) * ((upd mo_down_185 v11_185.toNatClampNeg (v9_185 * ((upd mo_v_185 v11_185.toNatClampNeg ((1 : Int32) + ((p3 >>> ((((2 : Int32) * v11_185) + (1 : Int32)) &&& 31)) &&& (1 : Int32)))) v11_185.toNatClampNeg))) v11_185.toNatClampNeg))) (v11_185 + (1 : Int32)) (upd mo_h_185 v11_185.toNatClampNeg ((1 : Int32) + ((p3 >>> (((2 : Int32) * v11_185) &&& 31)) &&& (1 : Int32)))) (upd mo_v_185 v11_185.toNatClampNeg ((1 : Int32) + ((p3 >>> ((((2 : Int32) * v11_185) + (1 : Int32)) &&& 31)) &&& (1 : Int32)))) (upd mo_across_185 v11_185.toNatClampNeg (v8_185 * ((upd mo_h_185 v11_185.toNatClampNeg ((1 : Int32) + ((p3 >>> (((2 : Int32) * v11_185) &&& 31)) &&& (1 : Int32)))) v11_185.toNatClampNeg))) (upd mo_down_185 v11_185.toNatClampNeg (v9_185 * ((upd mo_v_185 v11_185.toNatClampNeg ((1 : Int32) + ((p3 >>> ((((2 : Int32) * v11_185) + (1 : Int32)) &&& 31)) &&& (1 : Int32)))) v11_185.toNatClampNeg))) (upd mo_ownAcross_185 v11_185.toNatClampNeg z6) (upd mo_ownDown_185 v11_185.toNatClampNeg z8) (upd mo_base_185 v11_185.toNatClampNeg v10_185) hf H locs ls hP hD hS (lv_sub hl [2, 3, 4, 5, 6, 7, 8, 9, 10, 11, 1, 0] rfl)
  have hgo : ∀ (H : Heap) (locs : List Loc), va_P (dC, dI) vwCl (w_M_lay cI cB cS cT a_mo a_mo_h a_mo_v a_mo_across a_mo_down a_mo_ownAcross a_mo_ownDown a_mo_base a_mo_coefficients a_mo_before0 a_mo_draftCounts a_mo_draft a_mo_words a_mo_lengths a_mo_codes a_mo_directOf a_mo_otherOf a_mo_data a_mo_out a_mo_times a_mo_prediction a_mo_runBits a_mo_toCome a_mo_timesKept mo_thrown mo_width mo_height mo_many mo_unitsAcross mo_unitsDown mo_drafts mo_mask mo_first mo_last mo_before mo_bits mo_interval mo_size mo_outs mo_part mo_parted mo_failed mo_counting mo_run mo_runMany mo_comes mo_at mo_taken mo_left mo_fault mo_h mo_v mo_across mo_down mo_ownAcross mo_ownDown mo_base) H → va_S A s.heap H locs → W p l e (headSpec ws_m826 rm_M_lay).room s m args below meth c H locs 0 0 Q (F0 m 0 ls []) := by
    intro H locs hP hS
    unfold f_M_lay at hf
    refine lv_iconst (v := (1 : Int32)) hx hb d_m826_0 (by decide) ?_
    refine lv_istore (lv' := [(5, .int (1 : Int32)), (0, .ref a_mo), (1, .int p0), (2, .int p1), (3, .int p2), (4, .int p3)]) hx hb d_m826_1 hl (by decide) rfl (fun ls hl => ?_)
    refine lv_iconst (v := (1 : Int32)) hx hb d_m826_3 (by decide) ?_
    refine lv_istore (lv' := [(6, .int (1 : Int32)), (5, .int (1 : Int32)), (0, .ref a_mo), (1, .int p0), (2, .int p1), (3, .int p2), (4, .int p3)]) hx hb d_m826_4 hl (by decide) rfl (fun ls hl => ?_)
    refine lv_iconst (v := (0 : Int32)) hx hb d_m826_6 (by decide) ?_
    refine lv_istore (lv' := [(7, .int (0 : Int32)), (6, .int (1 : Int32)), (5, .int (1 : Int32)), (0, .ref a_mo), (1, .int p0), (2, .int p1), (3, .int p2), (4, .int p3)]) hx hb d_m826_7 hl (by decide) rfl (fun ls hl => ?_)
    obtain ⟨z1, hz1, hf⟩ := ob_bind hf
    refine L9  z1 ?_ N (1 : Int32) (1 : Int32) (0 : Int32) hz1 H locs ls hP hD hS (lv_sub hl [3, 4, 5, 6, 7, 2, 1, 0] rfl)
    · intro H locs ls hP hD hS hl
      refine lv_iconst (v := (0 : Int32)) hx hb d_m826_65 (by decide) ?_
      refine lv_istore (lv' := [(7, .int (0 : Int32)), (0, .ref a_mo), (1, .int p0), (2, .int p1), (3, .int p2), (4, .int p3), (5, .int z1.1), (6, .int z1.2)]) hx hb d_m826_66 hl (by decide) rfl (fun ls hl => ?_)
      refine lv_iload_n hx hb d_m826_68 rfl (lv_at hl 2 rfl) ?_
      refine lv_bipush (v := (8 : Int32)) hx hb d_m826_69 (by decide) ?_
      refine lv_iload hx hb d_m826_71 (lv_at hl 6 rfl) ?_
      refine lv_imul hx hb d_m826_73 ?_
      obtain ⟨z2, hz2, hf⟩ := ob_bind hf
      refine vp_callSi (g_run (va_runS (As := [.int p0, .int ((8 : Int32) * z1.1)]) (rest := []) ⟨hx, hb, hml, hown, hts⟩ (c_M_up l dC dI cI cB cS cT p0 ((8 : Int32) * z1.1) z2 hz2) ⟨(callB_of 2 hts (gi tw_829 rfl) rfl rfl rfl (hts _ (List.mem_cons_of_mem _ tw_16)) (hts _ (List.mem_cons_of_mem _ tw_827)) (by decide +kernel) ⟨Nat.le_of_ble_eq_true rfl, Nat.le_of_ble_eq_true rfl⟩), hts _ (List.mem_cons_of_mem _ tw_828)⟩ ⟨gp_blind, gp_at hKN (g_pm hP [] rfl)⟩ rfl rfl hl.1 rfl (lv_room (Nat.le_of_ble_eq_true rfl)) d_m826_74 ⟨Nat.zero_le _, Nat.zero_le _⟩)) (fun r hrz2 => ?_)
      have hrz2 := hrz2.symm
      subst hrz2
      refine W.eq (g2 := F0 m 77 ls [.int z2]) rfl ?_
      refine lv_istore (lv' := [(8, .int z2), (7, .int (0 : Int32)), (0, .ref a_mo), (1, .int p0), (2, .int p1), (3, .int p2), (4, .int p3), (5, .int z1.1), (6, .int z1.2)]) hx hb d_m826_77 hl (by decide) rfl (fun ls hl => ?_)
      refine lv_iload_n hx hb d_m826_79 rfl (lv_at hl 4 rfl) ?_
      refine lv_bipush (v := (8 : Int32)) hx hb d_m826_80 (by decide) ?_
      refine lv_iload hx hb d_m826_82 (lv_at hl 8 rfl) ?_
      refine lv_imul hx hb d_m826_84 ?_
      obtain ⟨z3, hz3, hf⟩ := ob_bind hf
      refine vp_callSi (g_run (va_runS (As := [.int p1, .int ((8 : Int32) * z1.2)]) (rest := []) ⟨hx, hb, hml, hown, hts⟩ (c_M_up l dC dI cI cB cS cT p1 ((8 : Int32) * z1.2) z3 hz3) ⟨(callB_of 2 hts (gi tw_829 rfl) rfl rfl rfl (hts _ (List.mem_cons_of_mem _ tw_16)) (hts _ (List.mem_cons_of_mem _ tw_827)) (by decide +kernel) ⟨Nat.le_of_ble_eq_true rfl, Nat.le_of_ble_eq_true rfl⟩), hts _ (List.mem_cons_of_mem _ tw_828)⟩ ⟨gp_blind, gp_at hKN (g_pm hP [] rfl)⟩ rfl rfl hl.1 rfl (lv_room (Nat.le_of_ble_eq_true rfl)) d_m826_85 ⟨Nat.zero_le _, Nat.zero_le _⟩)) (fun r hrz3 => ?_)
      have hrz3 := hrz3.symm
      subst hrz3
      refine W.eq (g2 := F0 m 88 ls [.int z3]) rfl ?_
      refine lv_istore (lv' := [(9, .int z3), (8, .int z2), (7, .int (0 : Int32)), (0, .ref a_mo), (1, .int p0), (2, .int p1), (3, .int p2), (4, .int p3), (5, .int z1.1), (6, .int z1.2)]) hx hb d_m826_88 hl (by decide) rfl (fun ls hl => ?_)
      refine lv_iconst (v := (0 : Int32)) hx hb d_m826_90 (by decide) ?_
      refine lv_istore (lv' := [(10, .int (0 : Int32)), (9, .int z3), (8, .int z2), (7, .int (0 : Int32)), (0, .ref a_mo), (1, .int p0), (2, .int p1), (3, .int p2), (4, .int p3), (5, .int z1.1), (6, .int z1.2)]) hx hb d_m826_91 hl (by decide) rfl (fun ls hl => ?_)
      obtain ⟨z4, hz4, hf⟩ := ob_bind hf
      refine L93 z1.1 z1.2 z2 z3 z4 ?_ N (0 : Int32) (0 : Int32) hz4 H locs ls hP hD hS (lv_sub hl [4, 5, 6, 7, 8, 9, 10, 3, 2, 1, 0] rfl)
      · intro H locs ls hP hD hS hl
        refine lv_iload hx hb d_m826_141 (lv_at hl 7 rfl) ?_
        refine lv_sipush (v := (192 : Int32)) hx hb d_m826_143 (by decide) ?_
        refine lv_icmp_le (tgt := 152) hx hb d_m826_146 (by decide) (fun hc => ?_) (fun hc => ?_)
        · replace hf := (if_pos hc).symm.trans hf
          refine lv_aload_n hx hb d_m826_152 rfl (lv_at hl 0 rfl) ?_
          refine lv_iload_n hx hb d_m826_153 rfl (lv_at hl 1 rfl) ?_
          refine va_put (D := (dC, dI)) (ci := 11) (v := .int p0) (ty := .int) (C := "ScanCoderModel") (T := T_11) (N := 49) hx hb hts n0 ty_11 tyok_11 nm_11 hown hK hP hD hS 0 rfl rfl 1 (by decide) k0 (fun _ h9 => h9) rfl (by decide +kernel) rfl rfl (Nat.le_of_ble_eq_true rfl) d_m826_154 (fun H locs hP hD hS => ?_)
          have hP : va_P (dC, dI) vwCl (w_M_lay cI cB cS cT a_mo a_mo_h a_mo_v a_mo_across a_mo_down a_mo_ownAcross a_mo_ownDown a_mo_base a_mo_coefficients a_mo_before0 a_mo_draftCounts a_mo_draft a_mo_words a_mo_lengths a_mo_codes a_mo_directOf a_mo_otherOf a_mo_data a_mo_out a_mo_times a_mo_prediction a_mo_runBits a_mo_toCome a_mo_timesKept mo_thrown p0 mo_height mo_many mo_unitsAcross mo_unitsDown mo_drafts mo_mask mo_first mo_last mo_before mo_bits mo_interval mo_size mo_outs mo_part mo_parted mo_failed mo_counting mo_run mo_runMany mo_comes mo_at mo_taken mo_left mo_fault mo_h mo_v mo_across mo_down mo_ownAcross mo_ownDown mo_base) H := hP
          have hD : va_D A (w_M_lay cI cB cS cT a_mo a_mo_h a_mo_v a_mo_across a_mo_down a_mo_ownAcross a_mo_ownDown a_mo_base a_mo_coefficients a_mo_before0 a_mo_draftCounts a_mo_draft a_mo_words a_mo_lengths a_mo_codes a_mo_directOf a_mo_otherOf a_mo_data a_mo_out a_mo_times a_mo_prediction a_mo_runBits a_mo_toCome a_mo_timesKept mo_thrown p0 mo_height mo_many mo_unitsAcross mo_unitsDown mo_drafts mo_mask mo_first mo_last mo_before mo_bits mo_interval mo_size mo_outs mo_part mo_parted mo_failed mo_counting mo_run mo_runMany mo_comes mo_at mo_taken mo_left mo_fault mo_h mo_v mo_across mo_down mo_ownAcross mo_ownDown mo_base) := hD
          refine lv_aload_n hx hb d_m826_157 rfl (lv_at hl 0 rfl) ?_
          refine lv_iload_n hx hb d_m826_158 rfl (lv_at hl 2 rfl) ?_
          refine va_put (D := (dC, dI)) (ci := 11) (v := .int p1) (ty := .int) (C := "ScanCoderModel") (T := T_11) (N := 49) hx hb hts n0 ty_11 tyok_11 nm_11 hown hK hP hD hS 0 rfl rfl 2 (by decide) k1 (fun _ h9 => h9) rfl (by decide +kernel) rfl rfl (Nat.le_of_ble_eq_true rfl) d_m826_159 (fun H locs hP hD hS => ?_)
          have hP : va_P (dC, dI) vwCl (w_M_lay cI cB cS cT a_mo a_mo_h a_mo_v a_mo_across a_mo_down a_mo_ownAcross a_mo_ownDown a_mo_base a_mo_coefficients a_mo_before0 a_mo_draftCounts a_mo_draft a_mo_words a_mo_lengths a_mo_codes a_mo_directOf a_mo_otherOf a_mo_data a_mo_out a_mo_times a_mo_prediction a_mo_runBits a_mo_toCome a_mo_timesKept mo_thrown p0 p1 mo_many mo_unitsAcross mo_unitsDown mo_drafts mo_mask mo_first mo_last mo_before mo_bits mo_interval mo_size mo_outs mo_part mo_parted mo_failed mo_counting mo_run mo_runMany mo_comes mo_at mo_taken mo_left mo_fault mo_h mo_v mo_across mo_down mo_ownAcross mo_ownDown mo_base) H := hP
          have hD : va_D A (w_M_lay cI cB cS cT a_mo a_mo_h a_mo_v a_mo_across a_mo_down a_mo_ownAcross a_mo_ownDown a_mo_base a_mo_coefficients a_mo_before0 a_mo_draftCounts a_mo_draft a_mo_words a_mo_lengths a_mo_codes a_mo_directOf a_mo_otherOf a_mo_data a_mo_out a_mo_times a_mo_prediction a_mo_runBits a_mo_toCome a_mo_timesKept mo_thrown p0 p1 mo_many mo_unitsAcross mo_unitsDown mo_drafts mo_mask mo_first mo_last mo_before mo_bits mo_interval mo_size mo_outs mo_part mo_parted mo_failed mo_counting mo_run mo_runMany mo_comes mo_at mo_taken mo_left mo_fault mo_h mo_v mo_across mo_down mo_ownAcross mo_ownDown mo_base) := hD
          refine lv_aload_n hx hb d_m826_162 rfl (lv_at hl 0 rfl) ?_
          refine lv_iload_n hx hb d_m826_163 rfl (lv_at hl 3 rfl) ?_
          refine va_put (D := (dC, dI)) (ci := 11) (v := .int p2) (ty := .int) (C := "ScanCoderModel") (T := T_11) (N := 49) hx hb hts n0 ty_11 tyok_11 nm_11 hown hK hP hD hS 0 rfl rfl 3 (by decide) k2 (fun _ h9 => h9) rfl (by decide +kernel) rfl rfl (Nat.le_of_ble_eq_true rfl) d_m826_164 (fun H locs hP hD hS => ?_)
          have hP : va_P (dC, dI) vwCl (w_M_lay cI cB cS cT a_mo a_mo_h a_mo_v a_mo_across a_mo_down a_mo_ownAcross a_mo_ownDown a_mo_base a_mo_coefficients a_mo_before0 a_mo_draftCounts a_mo_draft a_mo_words a_mo_lengths a_mo_codes a_mo_directOf a_mo_otherOf a_mo_data a_mo_out a_mo_times a_mo_prediction a_mo_runBits a_mo_toCome a_mo_timesKept mo_thrown p0 p1 p2 mo_unitsAcross mo_unitsDown mo_drafts mo_mask mo_first mo_last mo_before mo_bits mo_interval mo_size mo_outs mo_part mo_parted mo_failed mo_counting mo_run mo_runMany mo_comes mo_at mo_taken mo_left mo_fault mo_h mo_v mo_across mo_down mo_ownAcross mo_ownDown mo_base) H := hP
          have hD : va_D A (w_M_lay cI cB cS cT a_mo a_mo_h a_mo_v a_mo_across a_mo_down a_mo_ownAcross a_mo_ownDown a_mo_base a_mo_coefficients a_mo_before0 a_mo_draftCounts a_mo_draft a_mo_words a_mo_lengths a_mo_codes a_mo_directOf a_mo_otherOf a_mo_data a_mo_out a_mo_times a_mo_prediction a_mo_runBits a_mo_toCome a_mo_timesKept mo_thrown p0 p1 p2 mo_unitsAcross mo_unitsDown mo_drafts mo_mask mo_first mo_last mo_before mo_bits mo_interval mo_size mo_outs mo_part mo_parted mo_failed mo_counting mo_run mo_runMany mo_comes mo_at mo_taken mo_left mo_fault mo_h mo_v mo_across mo_down mo_ownAcross mo_ownDown mo_base) := hD
          refine lv_aload_n hx hb d_m826_167 rfl (lv_at hl 0 rfl) ?_
          refine lv_iload hx hb d_m826_168 (lv_at hl 8 rfl) ?_
          refine va_put (D := (dC, dI)) (ci := 11) (v := .int z2) (ty := .int) (C := "ScanCoderModel") (T := T_11) (N := 49) hx hb hts n0 ty_11 tyok_11 nm_11 hown hK hP hD hS 0 rfl rfl 11 (by decide) k3 (fun _ h9 => h9) rfl (by decide +kernel) rfl rfl (Nat.le_of_ble_eq_true rfl) d_m826_170 (fun H locs hP hD hS => ?_)
          have hP : va_P (dC, dI) vwCl (w_M_lay cI cB cS cT a_mo a_mo_h a_mo_v a_mo_across a_mo_down a_mo_ownAcross a_mo_ownDown a_mo_base a_mo_coefficients a_mo_before0 a_mo_draftCounts a_mo_draft a_mo_words a_mo_lengths a_mo_codes a_mo_directOf a_mo_otherOf a_mo_data a_mo_out a_mo_times a_mo_prediction a_mo_runBits a_mo_toCome a_mo_timesKept mo_thrown p0 p1 p2 z2 mo_unitsDown mo_drafts mo_mask mo_first mo_last mo_before mo_bits mo_interval mo_size mo_outs mo_part mo_parted mo_failed mo_counting mo_run mo_runMany mo_comes mo_at mo_taken mo_left mo_fault mo_h mo_v mo_across mo_down mo_ownAcross mo_ownDown mo_base) H := hP
          have hD : va_D A (w_M_lay cI cB cS cT a_mo a_mo_h a_mo_v a_mo_across a_mo_down a_mo_ownAcross a_mo_ownDown a_mo_base a_mo_coefficients a_mo_before0 a_mo_draftCounts a_mo_draft a_mo_words a_mo_lengths a_mo_codes a_mo_directOf a_mo_otherOf a_mo_data a_mo_out a_mo_times a_mo_prediction a_mo_runBits a_mo_toCome a_mo_timesKept mo_thrown p0 p1 p2 z2 mo_unitsDown mo_drafts mo_mask mo_first mo_last mo_before mo_bits mo_interval mo_size mo_outs mo_part mo_parted mo_failed mo_counting mo_run mo_runMany mo_comes mo_at mo_taken mo_left mo_fault mo_h mo_v mo_across mo_down mo_ownAcross mo_ownDown mo_base) := hD
          refine lv_aload_n hx hb d_m826_173 rfl (lv_at hl 0 rfl) ?_
          refine lv_iload hx hb d_m826_174 (lv_at hl 9 rfl) ?_
          refine va_put (D := (dC, dI)) (ci := 11) (v := .int z3) (ty := .int) (C := "ScanCoderModel") (T := T_11) (N := 49) hx hb hts n0 ty_11 tyok_11 nm_11 hown hK hP hD hS 0 rfl rfl 12 (by decide) k4 (fun _ h9 => h9) rfl (by decide +kernel) rfl rfl (Nat.le_of_ble_eq_true rfl) d_m826_176 (fun H locs hP hD hS => ?_)
          have hP : va_P (dC, dI) vwCl (w_M_lay cI cB cS cT a_mo a_mo_h a_mo_v a_mo_across a_mo_down a_mo_ownAcross a_mo_ownDown a_mo_base a_mo_coefficients a_mo_before0 a_mo_draftCounts a_mo_draft a_mo_words a_mo_lengths a_mo_codes a_mo_directOf a_mo_otherOf a_mo_data a_mo_out a_mo_times a_mo_prediction a_mo_runBits a_mo_toCome a_mo_timesKept mo_thrown p0 p1 p2 z2 z3 mo_drafts mo_mask mo_first mo_last mo_before mo_bits mo_interval mo_size mo_outs mo_part mo_parted mo_failed mo_counting mo_run mo_runMany mo_comes mo_at mo_taken mo_left mo_fault mo_h mo_v mo_across mo_down mo_ownAcross mo_ownDown mo_base) H := hP
          have hD : va_D A (w_M_lay cI cB cS cT a_mo a_mo_h a_mo_v a_mo_across a_mo_down a_mo_ownAcross a_mo_ownDown a_mo_base a_mo_coefficients a_mo_before0 a_mo_draftCounts a_mo_draft a_mo_words a_mo_lengths a_mo_codes a_mo_directOf a_mo_otherOf a_mo_data a_mo_out a_mo_times a_mo_prediction a_mo_runBits a_mo_toCome a_mo_timesKept mo_thrown p0 p1 p2 z2 z3 mo_drafts mo_mask mo_first mo_last mo_before mo_bits mo_interval mo_size mo_outs mo_part mo_parted mo_failed mo_counting mo_run mo_runMany mo_comes mo_at mo_taken mo_left mo_fault mo_h mo_v mo_across mo_down mo_ownAcross mo_ownDown mo_base) := hD
          refine lv_iconst (v := (0 : Int32)) hx hb d_m826_179 (by decide) ?_
          refine lv_istore (lv' := [(10, .int (0 : Int32)), (0, .ref a_mo), (1, .int p0), (2, .int p1), (3, .int p2), (4, .int p3), (5, .int z1.1), (6, .int z1.2), (7, .int z4), (8, .int z2), (9, .int z3)]) hx hb d_m826_180 hl (by decide) rfl (fun ls hl => ?_)
          refine lv_iconst (v := (0 : Int32)) hx hb d_m826_182 (by decide) ?_
          refine lv_istore (lv' := [(11, .int (0 : Int32)), (10, .int (0 : Int32)), (0, .ref a_mo), (1, .int p0), (2, .int p1), (3, .int p2), (4, .int p3), (5, .int z1.1), (6, .int z1.2), (7, .int z4), (8, .int z2), (9, .int z3)]) hx hb d_m826_183 hl (by decide) rfl (fun ls hl => ?_)
          obtain ⟨z9, hz9, hf⟩ := ob_bind hf
          refine L185 z1.1 z1.2 z4 z2 z3 p0 p1 p2 z2 z3 z9 ?_ N (0 : Int32) (0 : Int32) mo_h mo_v mo_across mo_down mo_ownAcross mo_ownDown mo_base hz9 H locs ls hP hD hS (lv_sub hl [2, 3, 4, 5, 6, 7, 8, 9, 10, 11, 1, 0] rfl)
          · intro H locs ls hP hD hS hl
            refine lv_iload hx hb d_m826_350 (lv_at hl 0 rfl) ?_
            obtain rfl := Option.some.inj hf
            subst hQ
            subst hAe
            exact W.iret (v := z4) hx hb hr (fun t ht hW => ⟨⟨z4, (), rfl, rfl, by rw [ht]; exact hP, hD⟩, hS.F ht⟩) hS.2.2 d_m826_352
        · replace hf := (if_neg hc).symm.trans hf
          refine lv_iload hx hb d_m826_149 (lv_at hl 7 rfl) ?_
          obtain rfl := Option.some.inj hf
          subst hQ
          subst hAe
          exact W.iret (v := z4) hx hb hr (fun t ht hW => ⟨⟨z4, (), rfl, rfl, by rw [ht]; exact hP, hD⟩, hS.F ht⟩) hS.2.2 d_m826_151
  exact hgo _ _ hP hS
def f_M_base_L2b  (N : Nat) (rec : (Int32 × (Nat → Int32)) → Option (Nat → Int32)) (v1_2 : Int32) (mo_coefficients_2 : Nat → Int32) : Option (Nat → Int32) :=
  if (12288 : Int32) ≤ v1_2 then
    some mo_coefficients_2
  else
    if v1_2 < 0 ∨ 12288 ≤ v1_2.toNatClampNeg then none else
    rec (v1_2 + (1 : Int32), upd mo_coefficients_2 v1_2.toNatClampNeg (vp_nar .short (0 : Int32)))
def f_M_base_L2  (N : Nat) (k : Nat) : (Int32 × (Nat → Int32)) → Option (Nat → Int32) := it (fun rec a => f_M_base_L2b  N rec a.1 a.2) k
def f_M_base_L55b  (N : Nat) (rec : (Int32 × (Nat → Int32) × (Nat → Int32)) → Option ((Nat → Int32) × (Nat → Int32))) (v1_55 : Int32) (mo_directOf_55 : Nat → Int32) (mo_otherOf_55 : Nat → Int32) : Option ((Nat → Int32) × (Nat → Int32)) :=
  if (4 : Int32) ≤ v1_55 then
    some (mo_directOf_55, mo_otherOf_55)
  else
    if v1_55 < 0 ∨ 4 ≤ v1_55.toNatClampNeg then none else
    if v1_55 < 0 ∨ 4 ≤ v1_55.toNatClampNeg then none else
    rec (v1_55 + (1 : Int32), upd mo_directOf_55 v1_55.toNatClampNeg (0 : Int32), upd mo_otherOf_55 v1_55.toNatClampNeg (4 : Int32))
def f_M_base_L55  (N : Nat) (k : Nat) : (Int32 × (Nat → Int32) × (Nat → Int32)) → Option ((Nat → Int32) × (Nat → Int32)) := it (fun rec a => f_M_base_L55b  N rec a.1 a.2.1 a.2.2) k
def f_M_base (N : Nat) (mo_coefficients : Nat → Int32) (mo_directOf : Nat → Int32) (mo_otherOf : Nat → Int32) : Option (Int32 × Int32 × Int32 × Int32 × Int32 × Int32 × (Nat → Int32) × (Nat → Int32) × (Nat → Int32)) :=
  (f_M_base_L2 N N ((0 : Int32), mo_coefficients)).bind fun z1 =>
    (f_M_base_L55 N N ((0 : Int32), mo_directOf, mo_otherOf)).bind fun z2 =>
    some ((1 : Int32), (0 : Int32), (63 : Int32), (0 : Int32), (0 : Int32), (0 : Int32), z1, z2.1, z2.2)
abbrev w_M_base (cI cB cS cT : ClassId) (a_mo : Nat) (a_mo_coefficients : Nat) (a_mo_directOf : Nat) (a_mo_otherOf : Nat) (a_mo_h : Nat) (a_mo_v : Nat) (a_mo_across : Nat) (a_mo_down : Nat) (a_mo_ownAcross : Nat) (a_mo_ownDown : Nat) (a_mo_base : Nat) (a_mo_before0 : Nat) (a_mo_draftCounts : Nat) (a_mo_draft : Nat) (a_mo_words : Nat) (a_mo_lengths : Nat) (a_mo_codes : Nat) (a_mo_data : Nat) (a_mo_out : Nat) (a_mo_times : Nat) (a_mo_prediction : Nat) (a_mo_runBits : Nat) (a_mo_toCome : Nat) (a_mo_timesKept : Nat) (mo_thrown : Int32) (mo_width : Int32) (mo_height : Int32) (mo_many : Int32) (mo_unitsAcross : Int32) (mo_unitsDown : Int32) (mo_drafts : Int32) (mo_mask : Int32) (mo_first : Int32) (mo_last : Int32) (mo_before : Int32) (mo_bits : Int32) (mo_interval : Int32) (mo_size : Int32) (mo_outs : Int32) (mo_part : Int32) (mo_parted : Int32) (mo_failed : Int32) (mo_counting : Int32) (mo_run : Int32) (mo_runMany : Int32) (mo_comes : Int32) (mo_at : Int32) (mo_taken : Int32) (mo_left : Int32) (mo_fault : Int32) (mo_coefficients : Nat → Int32) (mo_directOf : Nat → Int32) (mo_otherOf : Nat → Int32) : va_W := [(a_mo, .inr (11, [.int mo_thrown, .int mo_width, .int mo_height, .int mo_many, .ref a_mo_h, .ref a_mo_v, .ref a_mo_across, .ref a_mo_down, .ref a_mo_ownAcross, .ref a_mo_ownDown, .ref a_mo_base, .int mo_unitsAcross, .int mo_unitsDown, .ref a_mo_coefficients, .ref a_mo_before0, .ref a_mo_draftCounts, .ref a_mo_draft, .int mo_drafts, .ref a_mo_words, .ref a_mo_lengths, .ref a_mo_codes, .ref a_mo_directOf, .ref a_mo_otherOf, .int mo_mask, .int mo_first, .int mo_last, .int mo_before, .int mo_bits, .int mo_interval, .ref a_mo_data, .int mo_size, .ref a_mo_out, .int mo_outs, .int mo_part, .int mo_parted, .int mo_failed, .int mo_counting, .ref a_mo_times, .ref a_mo_prediction, .int mo_run, .ref a_mo_runBits, .int mo_runMany, .ref a_mo_toCome, .int mo_comes, .int mo_at, .int mo_taken, .int mo_left, .int mo_fault, .ref a_mo_timesKept])), (a_mo_coefficients, .inl (cS, 12288, .inl mo_coefficients)), (a_mo_directOf, .inl (cI, 4, .inl mo_directOf)), (a_mo_otherOf, .inl (cI, 4, .inl mo_otherOf))]
def rm_M_base : Room := { frames := 0, cells := 0, slots := 0, locals := 0 }
set_option maxHeartbeats 1000000 in
set_option maxRecDepth 100000 in
theorem c_M_base (l : Launch) (dC : Nat → ClassId) (dI : Nat → Nat → Nat) (cI cB cS cT : ClassId) (N : Nat) (a_mo : Nat) (a_mo_coefficients : Nat) (a_mo_directOf : Nat) (a_mo_otherOf : Nat) (a_mo_h : Nat) (a_mo_v : Nat) (a_mo_across : Nat) (a_mo_down : Nat) (a_mo_ownAcross : Nat) (a_mo_ownDown : Nat) (a_mo_base : Nat) (a_mo_before0 : Nat) (a_mo_draftCounts : Nat) (a_mo_draft : Nat) (a_mo_words : Nat) (a_mo_lengths : Nat) (a_mo_codes : Nat) (a_mo_data : Nat) (a_mo_out : Nat) (a_mo_times : Nat) (a_mo_prediction : Nat) (a_mo_runBits : Nat) (a_mo_toCome : Nat) (a_mo_timesKept : Nat) (mo_thrown : Int32) (mo_width : Int32) (mo_height : Int32) (mo_many : Int32) (mo_unitsAcross : Int32) (mo_unitsDown : Int32) (mo_drafts : Int32) (mo_mask : Int32) (mo_first : Int32) (mo_last : Int32) (mo_before : Int32) (mo_bits : Int32) (mo_interval : Int32) (mo_size : Int32) (mo_outs : Int32) (mo_part : Int32) (mo_parted : Int32) (mo_failed : Int32) (mo_counting : Int32) (mo_run : Int32) (mo_runMany : Int32) (mo_comes : Int32) (mo_at : Int32) (mo_taken : Int32) (mo_left : Int32) (mo_fault : Int32) (mo_coefficients : Nat → Int32) (mo_directOf : Nat → Int32) (mo_otherOf : Nat → Int32) (sz : Nat) (z : Int32 × Int32 × Int32 × Int32 × Int32 × Int32 × (Nat → Int32) × (Nat → Int32) × (Nat → Int32)) (hf : f_M_base N mo_coefficients mo_directOf mo_otherOf = some z) : Met l y_m833 ws_m833 rm_M_base (gPre (dC, dI) [.ref a_mo] (gT cI cB cS cT) (w_M_base cI cB cS cT a_mo a_mo_coefficients a_mo_directOf a_mo_otherOf a_mo_h a_mo_v a_mo_across a_mo_down a_mo_ownAcross a_mo_ownDown a_mo_base a_mo_before0 a_mo_draftCounts a_mo_draft a_mo_words a_mo_lengths a_mo_codes a_mo_data a_mo_out a_mo_times a_mo_prediction a_mo_runBits a_mo_toCome a_mo_timesKept mo_thrown mo_width mo_height mo_many mo_unitsAcross mo_unitsDown mo_drafts mo_mask mo_first mo_last mo_before mo_bits mo_interval mo_size mo_outs mo_part mo_parted mo_failed mo_counting mo_run mo_runMany mo_comes mo_at mo_taken mo_left mo_fault mo_coefficients mo_directOf mo_otherOf) sz) (gQv (dC, dI) (gT cI cB cS cT) (w_M_base cI cB cS cT a_mo a_mo_coefficients a_mo_directOf a_mo_otherOf a_mo_h a_mo_v a_mo_across a_mo_down a_mo_ownAcross a_mo_ownDown a_mo_base a_mo_before0 a_mo_draftCounts a_mo_draft a_mo_words a_mo_lengths a_mo_codes a_mo_data a_mo_out a_mo_times a_mo_prediction a_mo_runBits a_mo_toCome a_mo_timesKept mo_thrown mo_width mo_height mo_many mo_unitsAcross mo_unitsDown mo_drafts mo_mask mo_first mo_last mo_before mo_bits mo_interval mo_size mo_outs mo_part mo_parted mo_failed mo_counting mo_run mo_runMany mo_comes mo_at mo_taken mo_left mo_fault mo_coefficients mo_directOf mo_otherOf) (w_M_base cI cB cS cT a_mo a_mo_coefficients a_mo_directOf a_mo_otherOf a_mo_h a_mo_v a_mo_across a_mo_down a_mo_ownAcross a_mo_ownDown a_mo_base a_mo_before0 a_mo_draftCounts a_mo_draft a_mo_words a_mo_lengths a_mo_codes a_mo_data a_mo_out a_mo_times a_mo_prediction a_mo_runBits a_mo_toCome a_mo_timesKept mo_thrown mo_width mo_height mo_many mo_unitsAcross mo_unitsDown mo_drafts z.1 z.2.1 z.2.2.1 z.2.2.2.1 z.2.2.2.2.1 z.2.2.2.2.2.1 mo_size mo_outs mo_part mo_parted mo_failed mo_counting mo_run mo_runMany mo_comes mo_at mo_taken mo_left mo_fault z.2.2.2.2.2.2.1 z.2.2.2.2.2.2.2.1 z.2.2.2.2.2.2.2.2) sz) 0 0 (va_A (w_M_base cI cB cS cT a_mo a_mo_coefficients a_mo_directOf a_mo_otherOf a_mo_h a_mo_v a_mo_across a_mo_down a_mo_ownAcross a_mo_ownDown a_mo_base a_mo_before0 a_mo_draftCounts a_mo_draft a_mo_words a_mo_lengths a_mo_codes a_mo_data a_mo_out a_mo_times a_mo_prediction a_mo_runBits a_mo_toCome a_mo_timesKept mo_thrown mo_width mo_height mo_many mo_unitsAcross mo_unitsDown mo_drafts mo_mask mo_first mo_last mo_before mo_bits mo_interval mo_size mo_outs mo_part mo_parted mo_failed mo_counting mo_run mo_runMany mo_comes mo_at mo_taken mo_left mo_fault mo_coefficients mo_directOf mo_otherOf) sz) := by
  refine Met.ofW (cc := prog_14_method_5_code) (maxL := 2) (ret := none) (by decide) rfl ?_
  intro p e s m args below meth c s₁ B hml hv
  obtain ⟨hargs, hsz, hP, hKN, hD0⟩ := hv
  have hK := hKN.1
  have hx := B.exec
  have hb := B.bytes
  have hr := B.returns
  have hts := atoms_spec (ws := ws_m833) B.pre
  have hown : s.vm.findClass "ScanCoderModel" = some m.cls := findClass_of_methodNamed B.named
  have hlocks := B.notSynchronized
  have k0 := hts _ (List.mem_cons_of_mem _ tw_847)
  have k1 := hts _ (List.mem_cons_of_mem _ tw_857)
  have k2 := hts _ (List.mem_cons_of_mem _ tw_858)
  have k3 := hts _ (List.mem_cons_of_mem _ tw_859)
  have k4 := hts _ (List.mem_cons_of_mem _ tw_860)
  have k5 := hts _ (List.mem_cons_of_mem _ tw_861)
  have k6 := hts _ (List.mem_cons_of_mem _ tw_862)
  have k7 := hts _ (List.mem_cons_of_mem _ tw_855)
  have k8 := hts _ (List.mem_cons_of_mem _ tw_856)
  have n0 : ∀ w ∈ u_ws "ScanCoderModel" T_11 49, w ∈ ws_m833 := fun w h => List.mem_cons_of_mem _ (in_11 w h)
  subst hsz
  have hD := hD0.self (sz := s.heap.size)
  obtain ⟨A, hAe⟩ : ∃ A : Nat → Prop, va_A (w_M_base cI cB cS cT a_mo a_mo_coefficients a_mo_directOf a_mo_otherOf a_mo_h a_mo_v a_mo_across a_mo_down a_mo_ownAcross a_mo_ownDown a_mo_base a_mo_before0 a_mo_draftCounts a_mo_draft a_mo_words a_mo_lengths a_mo_codes a_mo_data a_mo_out a_mo_times a_mo_prediction a_mo_runBits a_mo_toCome a_mo_timesKept mo_thrown mo_width mo_height mo_many mo_unitsAcross mo_unitsDown mo_drafts mo_mask mo_first mo_last mo_before mo_bits mo_interval mo_size mo_outs mo_part mo_parted mo_failed mo_counting mo_run mo_runMany mo_comes mo_at mo_taken mo_left mo_fault mo_coefficients mo_directOf mo_otherOf) s.heap.size = A := ⟨_, rfl⟩
  rw [hAe] at hD
  have hA : ∀ q : Nat, s.heap.size ≤ q → A q := fun q h => by rw [← hAe]; exact Or.inr h
  have hS : va_S A s.heap s.heap [] := va_S.rf
  have hl := lv_entry ([.ref a_mo]) (n := 2) (Nat.le_of_ble_eq_true rfl)
  have hfr : entryFrame m args 2 = F0 m 0 ((lg_sl ([.ref a_mo]) ++ List.replicate (2 - (lg_sl ([.ref a_mo])).length) Slot.unset).toArray) [] := by rw [hargs]; exact lg_entry_eq _ _ _
  rw [hfr]
  generalize (lg_sl ([.ref a_mo]) ++ List.replicate (2 - (lg_sl ([.ref a_mo])).length) Slot.unset).toArray = ls at hl ⊢
  have hl : lv_has ls 2 [(0, .ref a_mo)] := hl
  refine gen_Q (fun Q hQ => ?_)
  clear hfr
  have L2 : ∀  (z : Nat → Int32), (GW (dC, dI) A p l e (headSpec ws_m833 rm_M_base).room s m args below meth c 0 0 Q 2 22 (w_M_base cI cB cS cT a_mo a_mo_coefficients a_mo_directOf a_mo_otherOf a_mo_h a_mo_v a_mo_across a_mo_down a_mo_ownAcross a_mo_ownDown a_mo_base a_mo_before0 a_mo_draftCounts a_mo_draft a_mo_words a_mo_lengths a_mo_codes a_mo_data a_mo_out a_mo_times a_mo_prediction a_mo_runBits a_mo_toCome a_mo_timesKept mo_thrown mo_width mo_height mo_many mo_unitsAcross mo_unitsDown mo_drafts mo_mask mo_first mo_last mo_before mo_bits mo_interval mo_size mo_outs mo_part mo_parted mo_failed mo_counting mo_run mo_runMany mo_comes mo_at mo_taken mo_left mo_fault z mo_directOf mo_otherOf) [(0, .ref a_mo)] []) → ∀ (k : Nat) (v1_2 : Int32) (mo_coefficients_2 : Nat → Int32), f_M_base_L2  N k (v1_2, mo_coefficients_2) = some z → GW (dC, dI) A p l e (headSpec ws_m833 rm_M_base).room s m args below meth c 0 0 Q 2 2 (w_M_base cI cB cS cT a_mo a_mo_coefficients a_mo_directOf a_mo_otherOf a_mo_h a_mo_v a_mo_across a_mo_down a_mo_ownAcross a_mo_ownDown a_mo_base a_mo_before0 a_mo_draftCounts a_mo_draft a_mo_words a_mo_lengths a_mo_codes a_mo_data a_mo_out a_mo_times a_mo_prediction a_mo_runBits a_mo_toCome a_mo_timesKept mo_thrown mo_width mo_height mo_many mo_unitsAcross mo_unitsDown mo_drafts mo_mask mo_first mo_last mo_before mo_bits mo_interval mo_size mo_outs mo_part mo_parted mo_failed mo_counting mo_run mo_runMany mo_comes mo_at mo_taken mo_left mo_fault mo_coefficients_2 mo_directOf mo_otherOf) [(0, .ref a_mo), (1, .int v1_2)] [] := by
    intro  z hE0 k
    induction k with
    | zero =>
      intro v1_2 mo_coefficients_2 hf
      exact (it_zero hf).elim
    | succ k ih =>
      intro v1_2 mo_coefficients_2 hf H locs ls hP hD hS hl
      have hf : f_M_base_L2b  N (f_M_base_L2  N k) v1_2 mo_coefficients_2 = some z := hf
      unfold f_M_base_L2b at hf
      refine lv_iload_n hx hb d_m833_2 rfl (lv_at hl 1 rfl) ?_
      refine lv_sipush (v := (12288 : Int32)) hx hb d_m833_3 (by decide) ?_
      refine lv_icmp_ge (tgt := 22) hx hb d_m833_6 (by decide) (fun hc => ?_) (fun hc => ?_)
      · replace hf := (if_pos hc).symm.trans hf
        obtain rfl := Option.some.inj hf
        exact hE0  H locs ls hP hD hS (lv_sub hl [0] rfl)
      · replace hf := (if_neg hc).symm.trans hf
        refine lv_aload_n hx hb d_m833_9 rfl (lv_at hl 0 rfl) ?_
        refine va_get (D := (dC, dI)) (ci := 11) (v := .ref a_mo_coefficients) (C := "ScanCoderModel") (T := T_11) (N := 49) hx hb hts n0 hown hK hP 0 rfl rfl 13 (by decide) k0 (fun _ h9 => h9) rfl d_m833_10 ?_
        refine lv_iload_n hx hb d_m833_13 rfl (lv_at hl 1 rfl) ?_
        refine lv_iconst (v := (0 : Int32)) hx hb d_m833_14 (by decide) ?_
        obtain ⟨hi, hf⟩ := ob_if hf
        refine va_sast hx hb hK hP hD hS 1 2 rfl rfl hi d_m833_15 (fun H locs hP hD hS => ?_)
        have hP : va_P (dC, dI) vwCl (w_M_base cI cB cS cT a_mo a_mo_coefficients a_mo_directOf a_mo_otherOf a_mo_h a_mo_v a_mo_across a_mo_down a_mo_ownAcross a_mo_ownDown a_mo_base a_mo_before0 a_mo_draftCounts a_mo_draft a_mo_words a_mo_lengths a_mo_codes a_mo_data a_mo_out a_mo_times a_mo_prediction a_mo_runBits a_mo_toCome a_mo_timesKept mo_thrown mo_width mo_height mo_many mo_unitsAcross mo_unitsDown mo_drafts mo_mask mo_first mo_last mo_before mo_bits mo_interval mo_size mo_outs mo_part mo_parted mo_failed mo_counting mo_run mo_runMany mo_comes mo_at mo_taken mo_left mo_fault (upd mo_coefficients_2 v1_2.toNatClampNeg (vp_nar .short (0 : Int32))) mo_directOf mo_otherOf) H := hP
        have hD : va_D A (w_M_base cI cB cS cT a_mo a_mo_coefficients a_mo_directOf a_mo_otherOf a_mo_h a_mo_v a_mo_across a_mo_down a_mo_ownAcross a_mo_ownDown a_mo_base a_mo_before0 a_mo_draftCounts a_mo_draft a_mo_words a_mo_lengths a_mo_codes a_mo_data a_mo_out a_mo_times a_mo_prediction a_mo_runBits a_mo_toCome a_mo_timesKept mo_thrown mo_width mo_height mo_many mo_unitsAcross mo_unitsDown mo_drafts mo_mask mo_first mo_last mo_before mo_bits mo_interval mo_size mo_outs mo_part mo_parted mo_failed mo_counting mo_run mo_runMany mo_comes mo_at mo_taken mo_left mo_fault (upd mo_coefficients_2 v1_2.toNatClampNeg (vp_nar .short (0 : Int32))) mo_directOf mo_otherOf) := hD
        refine lv_iinc (v := v1_2 + (1 : Int32)) (lv' := [(1, .int (v1_2 + (1 : Int32))), (0, .ref a_mo)]) hx hb d_m833_16 hl (k := 1) rfl rfl (by decide) rfl (fun ls hl => ?_)
        refine lv_goto (tgt := 2) hx hb d_m833_19 (by decide) ?_
        exact ih (v1_2 + (1 : Int32)) (upd mo_coefficients_2 v1_2.toNatClampNeg (vp_nar .short (0 : Int32))) hf H locs ls hP hD hS (lv_sub hl [1, 0] rfl)
  have L55 : ∀ (mo_mask_55 : Int32) (mo_first_55 : Int32) (mo_last_55 : Int32) (mo_before_55 : Int32) (mo_bits_55 : Int32) (mo_interval_55 : Int32) (mo_coefficients_55 : Nat → Int32) (z : (Nat → Int32) × (Nat → Int32)), (GW (dC, dI) A p l e (headSpec ws_m833 rm_M_base).room s m args below meth c 0 0 Q 2 80 (w_M_base cI cB cS cT a_mo a_mo_coefficients a_mo_directOf a_mo_otherOf a_mo_h a_mo_v a_mo_across a_mo_down a_mo_ownAcross a_mo_ownDown a_mo_base a_mo_before0 a_mo_draftCounts a_mo_draft a_mo_words a_mo_lengths a_mo_codes a_mo_data a_mo_out a_mo_times a_mo_prediction a_mo_runBits a_mo_toCome a_mo_timesKept mo_thrown mo_width mo_height mo_many mo_unitsAcross mo_unitsDown mo_drafts mo_mask_55 mo_first_55 mo_last_55 mo_before_55 mo_bits_55 mo_interval_55 mo_size mo_outs mo_part mo_parted mo_failed mo_counting mo_run mo_runMany mo_comes mo_at mo_taken mo_left mo_fault mo_coefficients_55 z.1 z.2) [] []) → ∀ (k : Nat) (v1_55 : Int32) (mo_directOf_55 : Nat → Int32) (mo_otherOf_55 : Nat → Int32), f_M_base_L55  N k (v1_55, mo_directOf_55, mo_otherOf_55) = some z → GW (dC, dI) A p l e (headSpec ws_m833 rm_M_base).room s m args below meth c 0 0 Q 2 55 (w_M_base cI cB cS cT a_mo a_mo_coefficients a_mo_directOf a_mo_otherOf a_mo_h a_mo_v a_mo_across a_mo_down a_mo_ownAcross a_mo_ownDown a_mo_base a_mo_before0 a_mo_draftCounts a_mo_draft a_mo_words a_mo_lengths a_mo_codes a_mo_data a_mo_out a_mo_times a_mo_prediction a_mo_runBits a_mo_toCome a_mo_timesKept mo_thrown mo_width mo_height mo_many mo_unitsAcross mo_unitsDown mo_drafts mo_mask_55 mo_first_55 mo_last_55 mo_before_55 mo_bits_55 mo_interval_55 mo_size mo_outs mo_part mo_parted mo_failed mo_counting mo_run mo_runMany mo_comes mo_at mo_taken mo_left mo_fault mo_coefficients_55 mo_directOf_55 mo_otherOf_55) [(0, .ref a_mo), (1, .int v1_55)] [] := by
    intro mo_mask_55 mo_first_55 mo_last_55 mo_before_55 mo_bits_55 mo_interval_55 mo_coefficients_55 z hE0 k
    induction k with
    | zero =>
      intro v1_55 mo_directOf_55 mo_otherOf_55 hf
      exact (it_zero hf).elim
    | succ k ih =>
      intro v1_55 mo_directOf_55 mo_otherOf_55 hf H locs ls hP hD hS hl
      have hf : f_M_base_L55b  N (f_M_base_L55  N k) v1_55 mo_directOf_55 mo_otherOf_55 = some z := hf
      unfold f_M_base_L55b at hf
      refine lv_iload_n hx hb d_m833_55 rfl (lv_at hl 1 rfl) ?_
      refine lv_iconst (v := (4 : Int32)) hx hb d_m833_56 (by decide) ?_
      refine lv_icmp_ge (tgt := 80) hx hb d_m833_57 (by decide) (fun hc => ?_) (fun hc => ?_)
      · replace hf := (if_pos hc).symm.trans hf
        obtain rfl := Option.some.inj hf
        exact hE0  H locs ls hP hD hS (lv_sub hl [] rfl)
      · replace hf := (if_neg hc).symm.trans hf
        refine lv_aload_n hx hb d_m833_60 rfl (lv_at hl 0 rfl) ?_
        refine va_get (D := (dC, dI)) (ci := 11) (v := .ref a_mo_directOf) (C := "ScanCoderModel") (T := T_11) (N := 49) hx hb hts n0 hown hK hP 0 rfl rfl 21 (by decide) k7 (fun _ h9 => h9) rfl d_m833_61 ?_
        refine lv_iload_n hx hb d_m833_64 rfl (lv_at hl 1 rfl) ?_
        refine lv_iconst (v := (0 : Int32)) hx hb d_m833_65 (by decide) ?_
        obtain ⟨hi, hf⟩ := ob_if hf
        refine va_iast hx hb hK hP hD hS 2 0 rfl rfl hi d_m833_66 (fun H locs hP hD hS => ?_)
        have hP : va_P (dC, dI) vwCl (w_M_base cI cB cS cT a_mo a_mo_coefficients a_mo_directOf a_mo_otherOf a_mo_h a_mo_v a_mo_across a_mo_down a_mo_ownAcross a_mo_ownDown a_mo_base a_mo_before0 a_mo_draftCounts a_mo_draft a_mo_words a_mo_lengths a_mo_codes a_mo_data a_mo_out a_mo_times a_mo_prediction a_mo_runBits a_mo_toCome a_mo_timesKept mo_thrown mo_width mo_height mo_many mo_unitsAcross mo_unitsDown mo_drafts mo_mask_55 mo_first_55 mo_last_55 mo_before_55 mo_bits_55 mo_interval_55 mo_size mo_outs mo_part mo_parted mo_failed mo_counting mo_run mo_runMany mo_comes mo_at mo_taken mo_left mo_fault mo_coefficients_55 (upd mo_directOf_55 v1_55.toNatClampNeg (0 : Int32)) mo_otherOf_55) H := hP
        have hD : va_D A (w_M_base cI cB cS cT a_mo a_mo_coefficients a_mo_directOf a_mo_otherOf a_mo_h a_mo_v a_mo_across a_mo_down a_mo_ownAcross a_mo_ownDown a_mo_base a_mo_before0 a_mo_draftCounts a_mo_draft a_mo_words a_mo_lengths a_mo_codes a_mo_data a_mo_out a_mo_times a_mo_prediction a_mo_runBits a_mo_toCome a_mo_timesKept mo_thrown mo_width mo_height mo_many mo_unitsAcross mo_unitsDown mo_drafts mo_mask_55 mo_first_55 mo_last_55 mo_before_55 mo_bits_55 mo_interval_55 mo_size mo_outs mo_part mo_parted mo_failed mo_counting mo_run mo_runMany mo_comes mo_at mo_taken mo_left mo_fault mo_coefficients_55 (upd mo_directOf_55 v1_55.toNatClampNeg (0 : Int32)) mo_otherOf_55) := hD
        refine lv_aload_n hx hb d_m833_67 rfl (lv_at hl 0 rfl) ?_
        refine va_get (D := (dC, dI)) (ci := 11) (v := .ref a_mo_otherOf) (C := "ScanCoderModel") (T := T_11) (N := 49) hx hb hts n0 hown hK hP 0 rfl rfl 22 (by decide) k8 (fun _ h9 => h9) rfl d_m833_68 ?_
        refine lv_iload_n hx hb d_m833_71 rfl (lv_at hl 1 rfl) ?_
        refine lv_iconst (v := (4 : Int32)) hx hb d_m833_72 (by decide) ?_
        obtain ⟨hi, hf⟩ := ob_if hf
        refine va_iast hx hb hK hP hD hS 3 0 rfl rfl hi d_m833_73 (fun H locs hP hD hS => ?_)
        have hP : va_P (dC, dI) vwCl (w_M_base cI cB cS cT a_mo a_mo_coefficients a_mo_directOf a_mo_otherOf a_mo_h a_mo_v a_mo_across a_mo_down a_mo_ownAcross a_mo_ownDown a_mo_base a_mo_before0 a_mo_draftCounts a_mo_draft a_mo_words a_mo_lengths a_mo_codes a_mo_data a_mo_out a_mo_times a_mo_prediction a_mo_runBits a_mo_toCome a_mo_timesKept mo_thrown mo_width mo_height mo_many mo_unitsAcross mo_unitsDown mo_drafts mo_mask_55 mo_first_55 mo_last_55 mo_before_55 mo_bits_55 mo_interval_55 mo_size mo_outs mo_part mo_parted mo_failed mo_counting mo_run mo_runMany mo_comes mo_at mo_taken mo_left mo_fault mo_coefficients_55 (upd mo_directOf_55 v1_55.toNatClampNeg (0 : Int32)) (upd mo_otherOf_55 v1_55.toNatClampNeg (4 : Int32))) H := hP
        have hD : va_D A (w_M_base cI cB cS cT a_mo a_mo_coefficients a_mo_directOf a_mo_otherOf a_mo_h a_mo_v a_mo_across a_mo_down a_mo_ownAcross a_mo_ownDown a_mo_base a_mo_before0 a_mo_draftCounts a_mo_draft a_mo_words a_mo_lengths a_mo_codes a_mo_data a_mo_out a_mo_times a_mo_prediction a_mo_runBits a_mo_toCome a_mo_timesKept mo_thrown mo_width mo_height mo_many mo_unitsAcross mo_unitsDown mo_drafts mo_mask_55 mo_first_55 mo_last_55 mo_before_55 mo_bits_55 mo_interval_55 mo_size mo_outs mo_part mo_parted mo_failed mo_counting mo_run mo_runMany mo_comes mo_at mo_taken mo_left mo_fault mo_coefficients_55 (upd mo_directOf_55 v1_55.toNatClampNeg (0 : Int32)) (upd mo_otherOf_55 v1_55.toNatClampNeg (4 : Int32))) := hD
        refine lv_iinc (v := v1_55 + (1 : Int32)) (lv' := [(1, .int (v1_55 + (1 : Int32))), (0, .ref a_mo)]) hx hb d_m833_74 hl (k := 1) rfl rfl (by decide) rfl (fun ls hl => ?_)
        refine lv_goto (tgt := 55) hx hb d_m833_77 (by decide) ?_
        exact ih (v1_55 + (1 : Int32)) (upd mo_directOf_55 v1_55.toNatClampNeg (0 : Int32)) (upd mo_otherOf_55 v1_55.toNatClampNeg (4 : Int32)) hf H locs ls hP hD hS (lv_sub hl [1, 0] rfl)
  have hgo : ∀ (H : Heap) (locs : List Loc), va_P (dC, dI) vwCl (w_M_base cI cB cS cT a_mo a_mo_coefficients a_mo_directOf a_mo_otherOf a_mo_h a_mo_v a_mo_across a_mo_down a_mo_ownAcross a_mo_ownDown a_mo_base a_mo_before0 a_mo_draftCounts a_mo_draft a_mo_words a_mo_lengths a_mo_codes a_mo_data a_mo_out a_mo_times a_mo_prediction a_mo_runBits a_mo_toCome a_mo_timesKept mo_thrown mo_width mo_height mo_many mo_unitsAcross mo_unitsDown mo_drafts mo_mask mo_first mo_last mo_before mo_bits mo_interval mo_size mo_outs mo_part mo_parted mo_failed mo_counting mo_run mo_runMany mo_comes mo_at mo_taken mo_left mo_fault mo_coefficients mo_directOf mo_otherOf) H → va_S A s.heap H locs → W p l e (headSpec ws_m833 rm_M_base).room s m args below meth c H locs 0 0 Q (F0 m 0 ls []) := by
    intro H locs hP hS
    unfold f_M_base at hf
    refine lv_iconst (v := (0 : Int32)) hx hb d_m833_0 (by decide) ?_
    refine lv_istore_n (lv' := [(1, .int (0 : Int32)), (0, .ref a_mo)]) hx hb d_m833_1 rfl hl (by decide) rfl (fun ls hl => ?_)
    obtain ⟨z1, hz1, hf⟩ := ob_bind hf
    refine L2  z1 ?_ N (0 : Int32) mo_coefficients hz1 H locs ls hP hD hS (lv_sub hl [1, 0] rfl)
    · intro H locs ls hP hD hS hl
      refine lv_aload_n hx hb d_m833_22 rfl (lv_at hl 0 rfl) ?_
      refine lv_iconst (v := (1 : Int32)) hx hb d_m833_23 (by decide) ?_
      refine va_put (D := (dC, dI)) (ci := 11) (v := .int (1 : Int32)) (ty := .int) (C := "ScanCoderModel") (T := T_11) (N := 49) hx hb hts n0 ty_11 tyok_11 nm_11 hown hK hP hD hS 0 rfl rfl 23 (by decide) k1 (fun _ h9 => h9) rfl (by decide +kernel) rfl rfl (Nat.le_of_ble_eq_true rfl) d_m833_24 (fun H locs hP hD hS => ?_)
      have hP : va_P (dC, dI) vwCl (w_M_base cI cB cS cT a_mo a_mo_coefficients a_mo_directOf a_mo_otherOf a_mo_h a_mo_v a_mo_across a_mo_down a_mo_ownAcross a_mo_ownDown a_mo_base a_mo_before0 a_mo_draftCounts a_mo_draft a_mo_words a_mo_lengths a_mo_codes a_mo_data a_mo_out a_mo_times a_mo_prediction a_mo_runBits a_mo_toCome a_mo_timesKept mo_thrown mo_width mo_height mo_many mo_unitsAcross mo_unitsDown mo_drafts (1 : Int32) mo_first mo_last mo_before mo_bits mo_interval mo_size mo_outs mo_part mo_parted mo_failed mo_counting mo_run mo_runMany mo_comes mo_at mo_taken mo_left mo_fault z1 mo_directOf mo_otherOf) H := hP
      have hD : va_D A (w_M_base cI cB cS cT a_mo a_mo_coefficients a_mo_directOf a_mo_otherOf a_mo_h a_mo_v a_mo_across a_mo_down a_mo_ownAcross a_mo_ownDown a_mo_base a_mo_before0 a_mo_draftCounts a_mo_draft a_mo_words a_mo_lengths a_mo_codes a_mo_data a_mo_out a_mo_times a_mo_prediction a_mo_runBits a_mo_toCome a_mo_timesKept mo_thrown mo_width mo_height mo_many mo_unitsAcross mo_unitsDown mo_drafts (1 : Int32) mo_first mo_last mo_before mo_bits mo_interval mo_size mo_outs mo_part mo_parted mo_failed mo_counting mo_run mo_runMany mo_comes mo_at mo_taken mo_left mo_fault z1 mo_directOf mo_otherOf) := hD
      refine lv_aload_n hx hb d_m833_27 rfl (lv_at hl 0 rfl) ?_
      refine lv_iconst (v := (0 : Int32)) hx hb d_m833_28 (by decide) ?_
      refine va_put (D := (dC, dI)) (ci := 11) (v := .int (0 : Int32)) (ty := .int) (C := "ScanCoderModel") (T := T_11) (N := 49) hx hb hts n0 ty_11 tyok_11 nm_11 hown hK hP hD hS 0 rfl rfl 24 (by decide) k2 (fun _ h9 => h9) rfl (by decide +kernel) rfl rfl (Nat.le_of_ble_eq_true rfl) d_m833_29 (fun H locs hP hD hS => ?_)
      have hP : va_P (dC, dI) vwCl (w_M_base cI cB cS cT a_mo a_mo_coefficients a_mo_directOf a_mo_otherOf a_mo_h a_mo_v a_mo_across a_mo_down a_mo_ownAcross a_mo_ownDown a_mo_base a_mo_before0 a_mo_draftCounts a_mo_draft a_mo_words a_mo_lengths a_mo_codes a_mo_data a_mo_out a_mo_times a_mo_prediction a_mo_runBits a_mo_toCome a_mo_timesKept mo_thrown mo_width mo_height mo_many mo_unitsAcross mo_unitsDown mo_drafts (1 : Int32) (0 : Int32) mo_last mo_before mo_bits mo_interval mo_size mo_outs mo_part mo_parted mo_failed mo_counting mo_run mo_runMany mo_comes mo_at mo_taken mo_left mo_fault z1 mo_directOf mo_otherOf) H := hP
      have hD : va_D A (w_M_base cI cB cS cT a_mo a_mo_coefficients a_mo_directOf a_mo_otherOf a_mo_h a_mo_v a_mo_across a_mo_down a_mo_ownAcross a_mo_ownDown a_mo_base a_mo_before0 a_mo_draftCounts a_mo_draft a_mo_words a_mo_lengths a_mo_codes a_mo_data a_mo_out a_mo_times a_mo_prediction a_mo_runBits a_mo_toCome a_mo_timesKept mo_thrown mo_width mo_height mo_many mo_unitsAcross mo_unitsDown mo_drafts (1 : Int32) (0 : Int32) mo_last mo_before mo_bits mo_interval mo_size mo_outs mo_part mo_parted mo_failed mo_counting mo_run mo_runMany mo_comes mo_at mo_taken mo_left mo_fault z1 mo_directOf mo_otherOf) := hD
      refine lv_aload_n hx hb d_m833_32 rfl (lv_at hl 0 rfl) ?_
      refine lv_bipush (v := (63 : Int32)) hx hb d_m833_33 (by decide) ?_
      refine va_put (D := (dC, dI)) (ci := 11) (v := .int (63 : Int32)) (ty := .int) (C := "ScanCoderModel") (T := T_11) (N := 49) hx hb hts n0 ty_11 tyok_11 nm_11 hown hK hP hD hS 0 rfl rfl 25 (by decide) k3 (fun _ h9 => h9) rfl (by decide +kernel) rfl rfl (Nat.le_of_ble_eq_true rfl) d_m833_35 (fun H locs hP hD hS => ?_)
      have hP : va_P (dC, dI) vwCl (w_M_base cI cB cS cT a_mo a_mo_coefficients a_mo_directOf a_mo_otherOf a_mo_h a_mo_v a_mo_across a_mo_down a_mo_ownAcross a_mo_ownDown a_mo_base a_mo_before0 a_mo_draftCounts a_mo_draft a_mo_words a_mo_lengths a_mo_codes a_mo_data a_mo_out a_mo_times a_mo_prediction a_mo_runBits a_mo_toCome a_mo_timesKept mo_thrown mo_width mo_height mo_many mo_unitsAcross mo_unitsDown mo_drafts (1 : Int32) (0 : Int32) (63 : Int32) mo_before mo_bits mo_interval mo_size mo_outs mo_part mo_parted mo_failed mo_counting mo_run mo_runMany mo_comes mo_at mo_taken mo_left mo_fault z1 mo_directOf mo_otherOf) H := hP
      have hD : va_D A (w_M_base cI cB cS cT a_mo a_mo_coefficients a_mo_directOf a_mo_otherOf a_mo_h a_mo_v a_mo_across a_mo_down a_mo_ownAcross a_mo_ownDown a_mo_base a_mo_before0 a_mo_draftCounts a_mo_draft a_mo_words a_mo_lengths a_mo_codes a_mo_data a_mo_out a_mo_times a_mo_prediction a_mo_runBits a_mo_toCome a_mo_timesKept mo_thrown mo_width mo_height mo_many mo_unitsAcross mo_unitsDown mo_drafts (1 : Int32) (0 : Int32) (63 : Int32) mo_before mo_bits mo_interval mo_size mo_outs mo_part mo_parted mo_failed mo_counting mo_run mo_runMany mo_comes mo_at mo_taken mo_left mo_fault z1 mo_directOf mo_otherOf) := hD
      refine lv_aload_n hx hb d_m833_38 rfl (lv_at hl 0 rfl) ?_
      refine lv_iconst (v := (0 : Int32)) hx hb d_m833_39 (by decide) ?_
      refine va_put (D := (dC, dI)) (ci := 11) (v := .int (0 : Int32)) (ty := .int) (C := "ScanCoderModel") (T := T_11) (N := 49) hx hb hts n0 ty_11 tyok_11 nm_11 hown hK hP hD hS 0 rfl rfl 26 (by decide) k4 (fun _ h9 => h9) rfl (by decide +kernel) rfl rfl (Nat.le_of_ble_eq_true rfl) d_m833_40 (fun H locs hP hD hS => ?_)
      have hP : va_P (dC, dI) vwCl (w_M_base cI cB cS cT a_mo a_mo_coefficients a_mo_directOf a_mo_otherOf a_mo_h a_mo_v a_mo_across a_mo_down a_mo_ownAcross a_mo_ownDown a_mo_base a_mo_before0 a_mo_draftCounts a_mo_draft a_mo_words a_mo_lengths a_mo_codes a_mo_data a_mo_out a_mo_times a_mo_prediction a_mo_runBits a_mo_toCome a_mo_timesKept mo_thrown mo_width mo_height mo_many mo_unitsAcross mo_unitsDown mo_drafts (1 : Int32) (0 : Int32) (63 : Int32) (0 : Int32) mo_bits mo_interval mo_size mo_outs mo_part mo_parted mo_failed mo_counting mo_run mo_runMany mo_comes mo_at mo_taken mo_left mo_fault z1 mo_directOf mo_otherOf) H := hP
      have hD : va_D A (w_M_base cI cB cS cT a_mo a_mo_coefficients a_mo_directOf a_mo_otherOf a_mo_h a_mo_v a_mo_across a_mo_down a_mo_ownAcross a_mo_ownDown a_mo_base a_mo_before0 a_mo_draftCounts a_mo_draft a_mo_words a_mo_lengths a_mo_codes a_mo_data a_mo_out a_mo_times a_mo_prediction a_mo_runBits a_mo_toCome a_mo_timesKept mo_thrown mo_width mo_height mo_many mo_unitsAcross mo_unitsDown mo_drafts (1 : Int32) (0 : Int32) (63 : Int32) (0 : Int32) mo_bits mo_interval mo_size mo_outs mo_part mo_parted mo_failed mo_counting mo_run mo_runMany mo_comes mo_at mo_taken mo_left mo_fault z1 mo_directOf mo_otherOf) := hD
      refine lv_aload_n hx hb d_m833_43 rfl (lv_at hl 0 rfl) ?_
      refine lv_iconst (v := (0 : Int32)) hx hb d_m833_44 (by decide) ?_
      refine va_put (D := (dC, dI)) (ci := 11) (v := .int (0 : Int32)) (ty := .int) (C := "ScanCoderModel") (T := T_11) (N := 49) hx hb hts n0 ty_11 tyok_11 nm_11 hown hK hP hD hS 0 rfl rfl 27 (by decide) k5 (fun _ h9 => h9) rfl (by decide +kernel) rfl rfl (Nat.le_of_ble_eq_true rfl) d_m833_45 (fun H locs hP hD hS => ?_)
      have hP : va_P (dC, dI) vwCl (w_M_base cI cB cS cT a_mo a_mo_coefficients a_mo_directOf a_mo_otherOf a_mo_h a_mo_v a_mo_across a_mo_down a_mo_ownAcross a_mo_ownDown a_mo_base a_mo_before0 a_mo_draftCounts a_mo_draft a_mo_words a_mo_lengths a_mo_codes a_mo_data a_mo_out a_mo_times a_mo_prediction a_mo_runBits a_mo_toCome a_mo_timesKept mo_thrown mo_width mo_height mo_many mo_unitsAcross mo_unitsDown mo_drafts (1 : Int32) (0 : Int32) (63 : Int32) (0 : Int32) (0 : Int32) mo_interval mo_size mo_outs mo_part mo_parted mo_failed mo_counting mo_run mo_runMany mo_comes mo_at mo_taken mo_left mo_fault z1 mo_directOf mo_otherOf) H := hP
      have hD : va_D A (w_M_base cI cB cS cT a_mo a_mo_coefficients a_mo_directOf a_mo_otherOf a_mo_h a_mo_v a_mo_across a_mo_down a_mo_ownAcross a_mo_ownDown a_mo_base a_mo_before0 a_mo_draftCounts a_mo_draft a_mo_words a_mo_lengths a_mo_codes a_mo_data a_mo_out a_mo_times a_mo_prediction a_mo_runBits a_mo_toCome a_mo_timesKept mo_thrown mo_width mo_height mo_many mo_unitsAcross mo_unitsDown mo_drafts (1 : Int32) (0 : Int32) (63 : Int32) (0 : Int32) (0 : Int32) mo_interval mo_size mo_outs mo_part mo_parted mo_failed mo_counting mo_run mo_runMany mo_comes mo_at mo_taken mo_left mo_fault z1 mo_directOf mo_otherOf) := hD
      refine lv_aload_n hx hb d_m833_48 rfl (lv_at hl 0 rfl) ?_
      refine lv_iconst (v := (0 : Int32)) hx hb d_m833_49 (by decide) ?_
      refine va_put (D := (dC, dI)) (ci := 11) (v := .int (0 : Int32)) (ty := .int) (C := "ScanCoderModel") (T := T_11) (N := 49) hx hb hts n0 ty_11 tyok_11 nm_11 hown hK hP hD hS 0 rfl rfl 28 (by decide) k6 (fun _ h9 => h9) rfl (by decide +kernel) rfl rfl (Nat.le_of_ble_eq_true rfl) d_m833_50 (fun H locs hP hD hS => ?_)
      have hP : va_P (dC, dI) vwCl (w_M_base cI cB cS cT a_mo a_mo_coefficients a_mo_directOf a_mo_otherOf a_mo_h a_mo_v a_mo_across a_mo_down a_mo_ownAcross a_mo_ownDown a_mo_base a_mo_before0 a_mo_draftCounts a_mo_draft a_mo_words a_mo_lengths a_mo_codes a_mo_data a_mo_out a_mo_times a_mo_prediction a_mo_runBits a_mo_toCome a_mo_timesKept mo_thrown mo_width mo_height mo_many mo_unitsAcross mo_unitsDown mo_drafts (1 : Int32) (0 : Int32) (63 : Int32) (0 : Int32) (0 : Int32) (0 : Int32) mo_size mo_outs mo_part mo_parted mo_failed mo_counting mo_run mo_runMany mo_comes mo_at mo_taken mo_left mo_fault z1 mo_directOf mo_otherOf) H := hP
      have hD : va_D A (w_M_base cI cB cS cT a_mo a_mo_coefficients a_mo_directOf a_mo_otherOf a_mo_h a_mo_v a_mo_across a_mo_down a_mo_ownAcross a_mo_ownDown a_mo_base a_mo_before0 a_mo_draftCounts a_mo_draft a_mo_words a_mo_lengths a_mo_codes a_mo_data a_mo_out a_mo_times a_mo_prediction a_mo_runBits a_mo_toCome a_mo_timesKept mo_thrown mo_width mo_height mo_many mo_unitsAcross mo_unitsDown mo_drafts (1 : Int32) (0 : Int32) (63 : Int32) (0 : Int32) (0 : Int32) (0 : Int32) mo_size mo_outs mo_part mo_parted mo_failed mo_counting mo_run mo_runMany mo_comes mo_at mo_taken mo_left mo_fault z1 mo_directOf mo_otherOf) := hD
      refine lv_iconst (v := (0 : Int32)) hx hb d_m833_53 (by decide) ?_
      refine lv_istore_n (lv' := [(1, .int (0 : Int32)), (0, .ref a_mo)]) hx hb d_m833_54 rfl hl (by decide) rfl (fun ls hl => ?_)
      obtain ⟨z2, hz2, hf⟩ := ob_bind hf
      refine L55 (1 : Int32) (0 : Int32) (63 : Int32) (0 : Int32) (0 : Int32) (0 : Int32) z1 z2 ?_ N (0 : Int32) mo_directOf mo_otherOf hz2 H locs ls hP hD hS (lv_sub hl [1, 0] rfl)
      · intro H locs ls hP hD hS hl
        obtain rfl := Option.some.inj hf
        subst hQ
        subst hAe
        exact W.vret hx hb hr (fun t ht hW => ⟨⟨(), rfl, trivial, by rw [ht]; exact hP, hD⟩, hS.F ht⟩) hS.2.2 d_m833_80
  exact hgo _ _ hP hS

def f_M_frame (N : Nat) (p0 : Int32) (p1 : Int32) (p2 : Int32) (p3 : Int32) (mo_width : Int32) (mo_height : Int32) (mo_many : Int32) (mo_unitsAcross : Int32) (mo_unitsDown : Int32) (mo_mask : Int32) (mo_first : Int32) (mo_last : Int32) (mo_before : Int32) (mo_bits : Int32) (mo_interval : Int32) (mo_h : Nat → Int32) (mo_v : Nat → Int32) (mo_across : Nat → Int32) (mo_down : Nat → Int32) (mo_ownAcross : Nat → Int32) (mo_ownDown : Nat → Int32) (mo_base : Nat → Int32) (mo_coefficients : Nat → Int32) (mo_directOf : Nat → Int32) (mo_otherOf : Nat → Int32) : Option (Int32 × Int32 × Int32 × Int32 × Int32 × Int32 × Int32 × Int32 × Int32 × Int32 × Int32 × Int32 × Int32 × (Nat → Int32) × (Nat → Int32) × (Nat → Int32) × (Nat → Int32) × (Nat → Int32) × (Nat → Int32) × (Nat → Int32) × (Nat → Int32) × (Nat → Int32) × (Nat → Int32)) :=
  if p0 < (1 : Int32) then
    some ((0 : Int32), (0 : Int32), mo_width, mo_height, mo_many, mo_unitsAcross, mo_unitsDown, mo_mask, mo_first, mo_last, mo_before, mo_bits, mo_interval, mo_h, mo_v, mo_across, mo_down, mo_ownAcross, mo_ownDown, mo_base, mo_coefficients, mo_directOf, mo_otherOf)
  else
    if (64 : Int32) < p0 then
      some ((0 : Int32), (0 : Int32), mo_width, mo_height, mo_many, mo_unitsAcross, mo_unitsDown, mo_mask, mo_first, mo_last, mo_before, mo_bits, mo_interval, mo_h, mo_v, mo_across, mo_down, mo_ownAcross, mo_ownDown, mo_base, mo_coefficients, mo_directOf, mo_otherOf)
    else
      if p1 < (1 : Int32) then
        some ((0 : Int32), (0 : Int32), mo_width, mo_height, mo_many, mo_unitsAcross, mo_unitsDown, mo_mask, mo_first, mo_last, mo_before, mo_bits, mo_interval, mo_h, mo_v, mo_across, mo_down, mo_ownAcross, mo_ownDown, mo_base, mo_coefficients, mo_directOf, mo_otherOf)
      else
        if (64 : Int32) < p1 then
          some ((0 : Int32), (0 : Int32), mo_width, mo_height, mo_many, mo_unitsAcross, mo_unitsDown, mo_mask, mo_first, mo_last, mo_before, mo_bits, mo_interval, mo_h, mo_v, mo_across, mo_down, mo_ownAcross, mo_ownDown, mo_base, mo_coefficients, mo_directOf, mo_otherOf)
        else
          if p2 < (1 : Int32) then
            some ((0 : Int32), (0 : Int32), mo_width, mo_height, mo_many, mo_unitsAcross, mo_unitsDown, mo_mask, mo_first, mo_last, mo_before, mo_bits, mo_interval, mo_h, mo_v, mo_across, mo_down, mo_ownAcross, mo_ownDown, mo_base, mo_coefficients, mo_directOf, mo_otherOf)
          else
            if (4 : Int32) < p2 then
              some ((0 : Int32), (0 : Int32), mo_width, mo_height, mo_many, mo_unitsAcross, mo_unitsDown, mo_mask, mo_first, mo_last, mo_before, mo_bits, mo_interval, mo_h, mo_v, mo_across, mo_down, mo_ownAcross, mo_ownDown, mo_base, mo_coefficients, mo_directOf, mo_otherOf)
            else
              if p3 < 0 then
                some ((0 : Int32), (0 : Int32), mo_width, mo_height, mo_many, mo_unitsAcross, mo_unitsDown, mo_mask, mo_first, mo_last, mo_before, mo_bits, mo_interval, mo_h, mo_v, mo_across, mo_down, mo_ownAcross, mo_ownDown, mo_base, mo_coefficients, mo_directOf, mo_otherOf)
              else
                if ((1 : Int32) <<< (((2 : Int32) * p2) &&& 31)) ≤ p3 then
                  some ((0 : Int32), (0 : Int32), mo_width, mo_height, mo_many, mo_unitsAcross, mo_unitsDown, mo_mask, mo_first, mo_last, mo_before, mo_bits, mo_interval, mo_h, mo_v, mo_across, mo_down, mo_ownAcross, mo_ownDown, mo_base, mo_coefficients, mo_directOf, mo_otherOf)
                else
                  (f_M_lay N p0 p1 p2 p3 mo_width mo_height mo_many mo_unitsAcross mo_unitsDown mo_h mo_v mo_across mo_down mo_ownAcross mo_ownDown mo_base).bind fun z1 =>
                  if z1.1 ≤ (192 : Int32) then
                    (f_M_base N mo_coefficients mo_directOf mo_otherOf).bind fun z2 =>
                    some ((1 : Int32), (0 : Int32), z1.2.1, z1.2.2.1, z1.2.2.2.1, z1.2.2.2.2.1, z1.2.2.2.2.2.1, z2.1, z2.2.1, z2.2.2.1, z2.2.2.2.1, z2.2.2.2.2.1, z2.2.2.2.2.2.1, z1.2.2.2.2.2.2.1, z1.2.2.2.2.2.2.2.1, z1.2.2.2.2.2.2.2.2.1, z1.2.2.2.2.2.2.2.2.2.1, z1.2.2.2.2.2.2.2.2.2.2.1, z1.2.2.2.2.2.2.2.2.2.2.2.1, z1.2.2.2.2.2.2.2.2.2.2.2.2, z2.2.2.2.2.2.2.1, z2.2.2.2.2.2.2.2.1, z2.2.2.2.2.2.2.2.2)
                  else
                    some ((0 : Int32), (0 : Int32), z1.2.1, z1.2.2.1, z1.2.2.2.1, z1.2.2.2.2.1, z1.2.2.2.2.2.1, mo_mask, mo_first, mo_last, mo_before, mo_bits, mo_interval, z1.2.2.2.2.2.2.1, z1.2.2.2.2.2.2.2.1, z1.2.2.2.2.2.2.2.2.1, z1.2.2.2.2.2.2.2.2.2.1, z1.2.2.2.2.2.2.2.2.2.2.1, z1.2.2.2.2.2.2.2.2.2.2.2.1, z1.2.2.2.2.2.2.2.2.2.2.2.2, mo_coefficients, mo_directOf, mo_otherOf)
abbrev w_M_frame (cI cB cS cT : ClassId) (a_mo : Nat) (a_mo_h : Nat) (a_mo_v : Nat) (a_mo_across : Nat) (a_mo_down : Nat) (a_mo_ownAcross : Nat) (a_mo_ownDown : Nat) (a_mo_base : Nat) (a_mo_coefficients : Nat) (a_mo_directOf : Nat) (a_mo_otherOf : Nat) (a_mo_before0 : Nat) (a_mo_draftCounts : Nat) (a_mo_draft : Nat) (a_mo_words : Nat) (a_mo_lengths : Nat) (a_mo_codes : Nat) (a_mo_data : Nat) (a_mo_out : Nat) (a_mo_times : Nat) (a_mo_prediction : Nat) (a_mo_runBits : Nat) (a_mo_toCome : Nat) (a_mo_timesKept : Nat) (mo_thrown : Int32) (mo_width : Int32) (mo_height : Int32) (mo_many : Int32) (mo_unitsAcross : Int32) (mo_unitsDown : Int32) (mo_drafts : Int32) (mo_mask : Int32) (mo_first : Int32) (mo_last : Int32) (mo_before : Int32) (mo_bits : Int32) (mo_interval : Int32) (mo_size : Int32) (mo_outs : Int32) (mo_part : Int32) (mo_parted : Int32) (mo_failed : Int32) (mo_counting : Int32) (mo_run : Int32) (mo_runMany : Int32) (mo_comes : Int32) (mo_at : Int32) (mo_taken : Int32) (mo_left : Int32) (mo_fault : Int32) (mo_h : Nat → Int32) (mo_v : Nat → Int32) (mo_across : Nat → Int32) (mo_down : Nat → Int32) (mo_ownAcross : Nat → Int32) (mo_ownDown : Nat → Int32) (mo_base : Nat → Int32) (mo_coefficients : Nat → Int32) (mo_directOf : Nat → Int32) (mo_otherOf : Nat → Int32) : va_W := [(a_mo, .inr (11, [.int mo_thrown, .int mo_width, .int mo_height, .int mo_many, .ref a_mo_h, .ref a_mo_v, .ref a_mo_across, .ref a_mo_down, .ref a_mo_ownAcross, .ref a_mo_ownDown, .ref a_mo_base, .int mo_unitsAcross, .int mo_unitsDown, .ref a_mo_coefficients, .ref a_mo_before0, .ref a_mo_draftCounts, .ref a_mo_draft, .int mo_drafts, .ref a_mo_words, .ref a_mo_lengths, .ref a_mo_codes, .ref a_mo_directOf, .ref a_mo_otherOf, .int mo_mask, .int mo_first, .int mo_last, .int mo_before, .int mo_bits, .int mo_interval, .ref a_mo_data, .int mo_size, .ref a_mo_out, .int mo_outs, .int mo_part, .int mo_parted, .int mo_failed, .int mo_counting, .ref a_mo_times, .ref a_mo_prediction, .int mo_run, .ref a_mo_runBits, .int mo_runMany, .ref a_mo_toCome, .int mo_comes, .int mo_at, .int mo_taken, .int mo_left, .int mo_fault, .ref a_mo_timesKept])), (a_mo_h, .inl (cI, 4, .inl mo_h)), (a_mo_v, .inl (cI, 4, .inl mo_v)), (a_mo_across, .inl (cI, 4, .inl mo_across)), (a_mo_down, .inl (cI, 4, .inl mo_down)), (a_mo_ownAcross, .inl (cI, 4, .inl mo_ownAcross)), (a_mo_ownDown, .inl (cI, 4, .inl mo_ownDown)), (a_mo_base, .inl (cI, 4, .inl mo_base)), (a_mo_coefficients, .inl (cS, 12288, .inl mo_coefficients)), (a_mo_directOf, .inl (cI, 4, .inl mo_directOf)), (a_mo_otherOf, .inl (cI, 4, .inl mo_otherOf))]
def rm_M_frame : Room := { frames := 2, cells := 0, slots := 0, locals := 52 }
set_option maxHeartbeats 1000000 in
set_option maxRecDepth 100000 in
theorem c_M_frame (l : Launch) (dC : Nat → ClassId) (dI : Nat → Nat → Nat) (cI cB cS cT : ClassId) (N : Nat) (a_mo : Nat) (a_mo_h : Nat) (a_mo_v : Nat) (a_mo_across : Nat) (a_mo_down : Nat) (a_mo_ownAcross : Nat) (a_mo_ownDown : Nat) (a_mo_base : Nat) (a_mo_coefficients : Nat) (a_mo_directOf : Nat) (a_mo_otherOf : Nat) (a_mo_before0 : Nat) (a_mo_draftCounts : Nat) (a_mo_draft : Nat) (a_mo_words : Nat) (a_mo_lengths : Nat) (a_mo_codes : Nat) (a_mo_data : Nat) (a_mo_out : Nat) (a_mo_times : Nat) (a_mo_prediction : Nat) (a_mo_runBits : Nat) (a_mo_toCome : Nat) (a_mo_timesKept : Nat) (mo_thrown : Int32) (mo_width : Int32) (mo_height : Int32) (mo_many : Int32) (mo_unitsAcross : Int32) (mo_unitsDown : Int32) (mo_drafts : Int32) (mo_mask : Int32) (mo_first : Int32) (mo_last : Int32) (mo_before : Int32) (mo_bits : Int32) (mo_interval : Int32) (mo_size : Int32) (mo_outs : Int32) (mo_part : Int32) (mo_parted : Int32) (mo_failed : Int32) (mo_counting : Int32) (mo_run : Int32) (mo_runMany : Int32) (mo_comes : Int32) (mo_at : Int32) (mo_taken : Int32) (mo_left : Int32) (mo_fault : Int32) (mo_h : Nat → Int32) (mo_v : Nat → Int32) (mo_across : Nat → Int32) (mo_down : Nat → Int32) (mo_ownAcross : Nat → Int32) (mo_ownDown : Nat → Int32) (mo_base : Nat → Int32) (mo_coefficients : Nat → Int32) (mo_directOf : Nat → Int32) (mo_otherOf : Nat → Int32) (p0 : Int32) (p1 : Int32) (p2 : Int32) (p3 : Int32) (sz : Nat) (z : Int32 × Int32 × Int32 × Int32 × Int32 × Int32 × Int32 × Int32 × Int32 × Int32 × Int32 × Int32 × Int32 × (Nat → Int32) × (Nat → Int32) × (Nat → Int32) × (Nat → Int32) × (Nat → Int32) × (Nat → Int32) × (Nat → Int32) × (Nat → Int32) × (Nat → Int32) × (Nat → Int32)) (hf : f_M_frame N p0 p1 p2 p3 mo_width mo_height mo_many mo_unitsAcross mo_unitsDown mo_mask mo_first mo_last mo_before mo_bits mo_interval mo_h mo_v mo_across mo_down mo_ownAcross mo_ownDown mo_base mo_coefficients mo_directOf mo_otherOf = some z) : Met l y_m985 ws_m985 rm_M_frame (gPre (dC, dI) [.ref a_mo, .int p0, .int p1, .int p2, .int p3] (gT cI cB cS cT) (w_M_frame cI cB cS cT a_mo a_mo_h a_mo_v a_mo_across a_mo_down a_mo_ownAcross a_mo_ownDown a_mo_base a_mo_coefficients a_mo_directOf a_mo_otherOf a_mo_before0 a_mo_draftCounts a_mo_draft a_mo_words a_mo_lengths a_mo_codes a_mo_data a_mo_out a_mo_times a_mo_prediction a_mo_runBits a_mo_toCome a_mo_timesKept mo_thrown mo_width mo_height mo_many mo_unitsAcross mo_unitsDown mo_drafts mo_mask mo_first mo_last mo_before mo_bits mo_interval mo_size mo_outs mo_part mo_parted mo_failed mo_counting mo_run mo_runMany mo_comes mo_at mo_taken mo_left mo_fault mo_h mo_v mo_across mo_down mo_ownAcross mo_ownDown mo_base mo_coefficients mo_directOf mo_otherOf) sz) (gQi (dC, dI) (gT cI cB cS cT) z.1 (w_M_frame cI cB cS cT a_mo a_mo_h a_mo_v a_mo_across a_mo_down a_mo_ownAcross a_mo_ownDown a_mo_base a_mo_coefficients a_mo_directOf a_mo_otherOf a_mo_before0 a_mo_draftCounts a_mo_draft a_mo_words a_mo_lengths a_mo_codes a_mo_data a_mo_out a_mo_times a_mo_prediction a_mo_runBits a_mo_toCome a_mo_timesKept mo_thrown mo_width mo_height mo_many mo_unitsAcross mo_unitsDown mo_drafts mo_mask mo_first mo_last mo_before mo_bits mo_interval mo_size mo_outs mo_part mo_parted mo_failed mo_counting mo_run mo_runMany mo_comes mo_at mo_taken mo_left mo_fault mo_h mo_v mo_across mo_down mo_ownAcross mo_ownDown mo_base mo_coefficients mo_directOf mo_otherOf) (w_M_frame cI cB cS cT a_mo a_mo_h a_mo_v a_mo_across a_mo_down a_mo_ownAcross a_mo_ownDown a_mo_base a_mo_coefficients a_mo_directOf a_mo_otherOf a_mo_before0 a_mo_draftCounts a_mo_draft a_mo_words a_mo_lengths a_mo_codes a_mo_data a_mo_out a_mo_times a_mo_prediction a_mo_runBits a_mo_toCome a_mo_timesKept z.2.1 z.2.2.1 z.2.2.2.1 z.2.2.2.2.1 z.2.2.2.2.2.1 z.2.2.2.2.2.2.1 mo_drafts z.2.2.2.2.2.2.2.1 z.2.2.2.2.2.2.2.2.1 z.2.2.2.2.2.2.2.2.2.1 z.2.2.2.2.2.2.2.2.2.2.1 z.2.2.2.2.2.2.2.2.2.2.2.1 z.2.2.2.2.2.2.2.2.2.2.2.2.1 mo_size mo_outs mo_part mo_parted mo_failed mo_counting mo_run mo_runMany mo_comes mo_at mo_taken mo_left mo_fault z.2.2.2.2.2.2.2.2.2.2.2.2.2.1 z.2.2.2.2.2.2.2.2.2.2.2.2.2.2.1 z.2.2.2.2.2.2.2.2.2.2.2.2.2.2.2.1 z.2.2.2.2.2.2.2.2.2.2.2.2.2.2.2.2.1 z.2.2.2.2.2.2.2.2.2.2.2.2.2.2.2.2.2.1 z.2.2.2.2.2.2.2.2.2.2.2.2.2.2.2.2.2.2.1 z.2.2.2.2.2.2.2.2.2.2.2.2.2.2.2.2.2.2.2.1 z.2.2.2.2.2.2.2.2.2.2.2.2.2.2.2.2.2.2.2.2.1 z.2.2.2.2.2.2.2.2.2.2.2.2.2.2.2.2.2.2.2.2.2.1 z.2.2.2.2.2.2.2.2.2.2.2.2.2.2.2.2.2.2.2.2.2.2) sz) 0 0 (va_A (w_M_frame cI cB cS cT a_mo a_mo_h a_mo_v a_mo_across a_mo_down a_mo_ownAcross a_mo_ownDown a_mo_base a_mo_coefficients a_mo_directOf a_mo_otherOf a_mo_before0 a_mo_draftCounts a_mo_draft a_mo_words a_mo_lengths a_mo_codes a_mo_data a_mo_out a_mo_times a_mo_prediction a_mo_runBits a_mo_toCome a_mo_timesKept mo_thrown mo_width mo_height mo_many mo_unitsAcross mo_unitsDown mo_drafts mo_mask mo_first mo_last mo_before mo_bits mo_interval mo_size mo_outs mo_part mo_parted mo_failed mo_counting mo_run mo_runMany mo_comes mo_at mo_taken mo_left mo_fault mo_h mo_v mo_across mo_down mo_ownAcross mo_ownDown mo_base mo_coefficients mo_directOf mo_otherOf) sz) := by
  refine Met.ofW (cc := prog_14_method_6_code) (maxL := 5) (ret := (some .boolean)) (by decide) rfl ?_
  intro p e s m args below meth c s₁ B hml hv
  obtain ⟨hargs, hsz, hP, hKN, hD0⟩ := hv
  have hK := hKN.1
  have hx := B.exec
  have hb := B.bytes
  have hr := B.returns
  have hts := atoms_spec (ws := ws_m985) B.pre
  have hown : s.vm.findClass "ScanCoderModel" = some m.cls := findClass_of_methodNamed B.named
  have hlocks := B.notSynchronized
  have k0 := hts _ (List.mem_cons_of_mem _ tw_834)
  have n0 : ∀ w ∈ u_ws "ScanCoderModel" T_11 49, w ∈ ws_m985 := fun w h => List.mem_cons_of_mem _ (in_11 w h)
  subst hsz
  have hD := hD0.self (sz := s.heap.size)
  obtain ⟨A, hAe⟩ : ∃ A : Nat → Prop, va_A (w_M_frame cI cB cS cT a_mo a_mo_h a_mo_v a_mo_across a_mo_down a_mo_ownAcross a_mo_ownDown a_mo_base a_mo_coefficients a_mo_directOf a_mo_otherOf a_mo_before0 a_mo_draftCounts a_mo_draft a_mo_words a_mo_lengths a_mo_codes a_mo_data a_mo_out a_mo_times a_mo_prediction a_mo_runBits a_mo_toCome a_mo_timesKept mo_thrown mo_width mo_height mo_many mo_unitsAcross mo_unitsDown mo_drafts mo_mask mo_first mo_last mo_before mo_bits mo_interval mo_size mo_outs mo_part mo_parted mo_failed mo_counting mo_run mo_runMany mo_comes mo_at mo_taken mo_left mo_fault mo_h mo_v mo_across mo_down mo_ownAcross mo_ownDown mo_base mo_coefficients mo_directOf mo_otherOf) s.heap.size = A := ⟨_, rfl⟩
  rw [hAe] at hD
  have hA : ∀ q : Nat, s.heap.size ≤ q → A q := fun q h => by rw [← hAe]; exact Or.inr h
  have hS : va_S A s.heap s.heap [] := va_S.rf
  have hl := lv_entry ([.ref a_mo, .int p0, .int p1, .int p2, .int p3]) (n := 5) (Nat.le_of_ble_eq_true rfl)
  have hfr : entryFrame m args 5 = F0 m 0 ((lg_sl ([.ref a_mo, .int p0, .int p1, .int p2, .int p3]) ++ List.replicate (5 - (lg_sl ([.ref a_mo, .int p0, .int p1, .int p2, .int p3])).length) Slot.unset).toArray) [] := by rw [hargs]; exact lg_entry_eq _ _ _
  rw [hfr]
  generalize (lg_sl ([.ref a_mo, .int p0, .int p1, .int p2, .int p3]) ++ List.replicate (5 - (lg_sl ([.ref a_mo, .int p0, .int p1, .int p2, .int p3])).length) Slot.unset).toArray = ls at hl ⊢
  have hl : lv_has ls 5 [(0, .ref a_mo), (1, .int p0), (2, .int p1), (3, .int p2), (4, .int p3)] := hl
  refine gen_Q (fun Q hQ => ?_)
  clear hfr
  have hgo : ∀ (H : Heap) (locs : List Loc), va_P (dC, dI) vwCl (w_M_frame cI cB cS cT a_mo a_mo_h a_mo_v a_mo_across a_mo_down a_mo_ownAcross a_mo_ownDown a_mo_base a_mo_coefficients a_mo_directOf a_mo_otherOf a_mo_before0 a_mo_draftCounts a_mo_draft a_mo_words a_mo_lengths a_mo_codes a_mo_data a_mo_out a_mo_times a_mo_prediction a_mo_runBits a_mo_toCome a_mo_timesKept mo_thrown mo_width mo_height mo_many mo_unitsAcross mo_unitsDown mo_drafts mo_mask mo_first mo_last mo_before mo_bits mo_interval mo_size mo_outs mo_part mo_parted mo_failed mo_counting mo_run mo_runMany mo_comes mo_at mo_taken mo_left mo_fault mo_h mo_v mo_across mo_down mo_ownAcross mo_ownDown mo_base mo_coefficients mo_directOf mo_otherOf) H → va_S A s.heap H locs → W p l e (headSpec ws_m985 rm_M_frame).room s m args below meth c H locs 0 0 Q (F0 m 0 ls []) := by
    intro H locs hP hS
    unfold f_M_frame at hf
    refine lv_aload_n hx hb d_m985_0 rfl (lv_at hl 0 rfl) ?_
    refine lv_iconst (v := (0 : Int32)) hx hb d_m985_1 (by decide) ?_
    refine va_put (D := (dC, dI)) (ci := 11) (v := .int (0 : Int32)) (ty := .int) (C := "ScanCoderModel") (T := T_11) (N := 49) hx hb hts n0 ty_11 tyok_11 nm_11 hown hK hP hD hS 0 rfl rfl 0 (by decide) k0 (fun _ h9 => h9) rfl (by decide +kernel) rfl rfl (Nat.le_of_ble_eq_true rfl) d_m985_2 (fun H locs hP hD hS => ?_)
    have hP : va_P (dC, dI) vwCl (w_M_frame cI cB cS cT a_mo a_mo_h a_mo_v a_mo_across a_mo_down a_mo_ownAcross a_mo_ownDown a_mo_base a_mo_coefficients a_mo_directOf a_mo_otherOf a_mo_before0 a_mo_draftCounts a_mo_draft a_mo_words a_mo_lengths a_mo_codes a_mo_data a_mo_out a_mo_times a_mo_prediction a_mo_runBits a_mo_toCome a_mo_timesKept (0 : Int32) mo_width mo_height mo_many mo_unitsAcross mo_unitsDown mo_drafts mo_mask mo_first mo_last mo_before mo_bits mo_interval mo_size mo_outs mo_part mo_parted mo_failed mo_counting mo_run mo_runMany mo_comes mo_at mo_taken mo_left mo_fault mo_h mo_v mo_across mo_down mo_ownAcross mo_ownDown mo_base mo_coefficients mo_directOf mo_otherOf) H := hP
    have hD : va_D A (w_M_frame cI cB cS cT a_mo a_mo_h a_mo_v a_mo_across a_mo_down a_mo_ownAcross a_mo_ownDown a_mo_base a_mo_coefficients a_mo_directOf a_mo_otherOf a_mo_before0 a_mo_draftCounts a_mo_draft a_mo_words a_mo_lengths a_mo_codes a_mo_data a_mo_out a_mo_times a_mo_prediction a_mo_runBits a_mo_toCome a_mo_timesKept (0 : Int32) mo_width mo_height mo_many mo_unitsAcross mo_unitsDown mo_drafts mo_mask mo_first mo_last mo_before mo_bits mo_interval mo_size mo_outs mo_part mo_parted mo_failed mo_counting mo_run mo_runMany mo_comes mo_at mo_taken mo_left mo_fault mo_h mo_v mo_across mo_down mo_ownAcross mo_ownDown mo_base mo_coefficients mo_directOf mo_otherOf) := hD
    refine lv_iload_n hx hb d_m985_5 rfl (lv_at hl 1 rfl) ?_
    refine lv_iconst (v := (1 : Int32)) hx hb d_m985_6 (by decide) ?_
    refine lv_icmp_lt (tgt := 67) hx hb d_m985_7 (by decide) (fun hc => ?_) (fun hc => ?_)
    · replace hf := (if_pos hc).symm.trans hf
      refine lv_iconst (v := (0 : Int32)) hx hb d_m985_67 (by decide) ?_
      obtain rfl := Option.some.inj hf
      subst hQ
      subst hAe
      exact W.zret (v := (0 : Int32)) hx hb hr (by decide) (fun t ht hW => ⟨⟨(0 : Int32), (), rfl, rfl, by rw [ht]; exact hP, hD⟩, hS.F ht⟩) hS.2.2 d_m985_68
    · replace hf := (if_neg hc).symm.trans hf
      refine lv_iload_n hx hb d_m985_10 rfl (lv_at hl 1 rfl) ?_
      refine lv_bipush (v := (64 : Int32)) hx hb d_m985_11 (by decide) ?_
      refine lv_icmp_gt (tgt := 67) hx hb d_m985_13 (by decide) (fun hc => ?_) (fun hc => ?_)
      · replace hf := (if_pos hc).symm.trans hf
        refine lv_iconst (v := (0 : Int32)) hx hb d_m985_67 (by decide) ?_
        obtain rfl := Option.some.inj hf
        subst hQ
        subst hAe
        exact W.zret (v := (0 : Int32)) hx hb hr (by decide) (fun t ht hW => ⟨⟨(0 : Int32), (), rfl, rfl, by rw [ht]; exact hP, hD⟩, hS.F ht⟩) hS.2.2 d_m985_68
      · replace hf := (if_neg hc).symm.trans hf
        refine lv_iload_n hx hb d_m985_16 rfl (lv_at hl 2 rfl) ?_
        refine lv_iconst (v := (1 : Int32)) hx hb d_m985_17 (by decide) ?_
        refine lv_icmp_lt (tgt := 67) hx hb d_m985_18 (by decide) (fun hc => ?_) (fun hc => ?_)
        · replace hf := (if_pos hc).symm.trans hf
          refine lv_iconst (v := (0 : Int32)) hx hb d_m985_67 (by decide) ?_
          obtain rfl := Option.some.inj hf
          subst hQ
          subst hAe
          exact W.zret (v := (0 : Int32)) hx hb hr (by decide) (fun t ht hW => ⟨⟨(0 : Int32), (), rfl, rfl, by rw [ht]; exact hP, hD⟩, hS.F ht⟩) hS.2.2 d_m985_68
        · replace hf := (if_neg hc).symm.trans hf
          refine lv_iload_n hx hb d_m985_21 rfl (lv_at hl 2 rfl) ?_
          refine lv_bipush (v := (64 : Int32)) hx hb d_m985_22 (by decide) ?_
          refine lv_icmp_gt (tgt := 67) hx hb d_m985_24 (by decide) (fun hc => ?_) (fun hc => ?_)
          · replace hf := (if_pos hc).symm.trans hf
            refine lv_iconst (v := (0 : Int32)) hx hb d_m985_67 (by decide) ?_
            obtain rfl := Option.some.inj hf
            subst hQ
            subst hAe
            exact W.zret (v := (0 : Int32)) hx hb hr (by decide) (fun t ht hW => ⟨⟨(0 : Int32), (), rfl, rfl, by rw [ht]; exact hP, hD⟩, hS.F ht⟩) hS.2.2 d_m985_68
          · replace hf := (if_neg hc).symm.trans hf
            refine lv_iload_n hx hb d_m985_27 rfl (lv_at hl 3 rfl) ?_
            refine lv_iconst (v := (1 : Int32)) hx hb d_m985_28 (by decide) ?_
            refine lv_icmp_lt (tgt := 67) hx hb d_m985_29 (by decide) (fun hc => ?_) (fun hc => ?_)
            · replace hf := (if_pos hc).symm.trans hf
              refine lv_iconst (v := (0 : Int32)) hx hb d_m985_67 (by decide) ?_
              obtain rfl := Option.some.inj hf
              subst hQ
              subst hAe
              exact W.zret (v := (0 : Int32)) hx hb hr (by decide) (fun t ht hW => ⟨⟨(0 : Int32), (), rfl, rfl, by rw [ht]; exact hP, hD⟩, hS.F ht⟩) hS.2.2 d_m985_68
            · replace hf := (if_neg hc).symm.trans hf
              refine lv_iload_n hx hb d_m985_32 rfl (lv_at hl 3 rfl) ?_
              refine lv_iconst (v := (4 : Int32)) hx hb d_m985_33 (by decide) ?_
              refine lv_icmp_gt (tgt := 67) hx hb d_m985_34 (by decide) (fun hc => ?_) (fun hc => ?_)
              · replace hf := (if_pos hc).symm.trans hf
                refine lv_iconst (v := (0 : Int32)) hx hb d_m985_67 (by decide) ?_
                obtain rfl := Option.some.inj hf
                subst hQ
                subst hAe
                exact W.zret (v := (0 : Int32)) hx hb hr (by decide) (fun t ht hW => ⟨⟨(0 : Int32), (), rfl, rfl, by rw [ht]; exact hP, hD⟩, hS.F ht⟩) hS.2.2 d_m985_68
              · replace hf := (if_neg hc).symm.trans hf
                refine lv_iload hx hb d_m985_37 (lv_at hl 4 rfl) ?_
                refine lv_if_lt (tgt := 67) hx hb d_m985_39 (by decide) (fun hc => ?_) (fun hc => ?_)
                · replace hf := (if_pos hc).symm.trans hf
                  refine lv_iconst (v := (0 : Int32)) hx hb d_m985_67 (by decide) ?_
                  obtain rfl := Option.some.inj hf
                  subst hQ
                  subst hAe
                  exact W.zret (v := (0 : Int32)) hx hb hr (by decide) (fun t ht hW => ⟨⟨(0 : Int32), (), rfl, rfl, by rw [ht]; exact hP, hD⟩, hS.F ht⟩) hS.2.2 d_m985_68
                · replace hf := (if_neg hc).symm.trans hf
                  refine lv_iload hx hb d_m985_42 (lv_at hl 4 rfl) ?_
                  refine lv_iconst (v := (1 : Int32)) hx hb d_m985_44 (by decide) ?_
                  refine lv_iconst (v := (2 : Int32)) hx hb d_m985_45 (by decide) ?_
                  refine lv_iload_n hx hb d_m985_46 rfl (lv_at hl 3 rfl) ?_
                  refine lv_imul hx hb d_m985_47 ?_
                  refine lv_ishl hx hb d_m985_48 ?_
                  refine lv_icmp_ge (tgt := 67) hx hb d_m985_49 (by decide) (fun hc => ?_) (fun hc => ?_)
                  · replace hf := (if_pos hc).symm.trans hf
                    refine lv_iconst (v := (0 : Int32)) hx hb d_m985_67 (by decide) ?_
                    obtain rfl := Option.some.inj hf
                    subst hQ
                    subst hAe
                    exact W.zret (v := (0 : Int32)) hx hb hr (by decide) (fun t ht hW => ⟨⟨(0 : Int32), (), rfl, rfl, by rw [ht]; exact hP, hD⟩, hS.F ht⟩) hS.2.2 d_m985_68
                  · replace hf := (if_neg hc).symm.trans hf
                    refine lv_aload_n hx hb d_m985_52 rfl (lv_at hl 0 rfl) ?_
                    refine lv_iload_n hx hb d_m985_53 rfl (lv_at hl 1 rfl) ?_
                    refine lv_iload_n hx hb d_m985_54 rfl (lv_at hl 2 rfl) ?_
                    refine lv_iload_n hx hb d_m985_55 rfl (lv_at hl 3 rfl) ?_
                    refine lv_iload hx hb d_m985_56 (lv_at hl 4 rfl) ?_
                    obtain ⟨z1, hz1, hf⟩ := ob_bind hf
                    refine g_calli (wc := (w_M_lay cI cB cS cT a_mo a_mo_h a_mo_v a_mo_across a_mo_down a_mo_ownAcross a_mo_ownDown a_mo_base a_mo_coefficients a_mo_before0 a_mo_draftCounts a_mo_draft a_mo_words a_mo_lengths a_mo_codes a_mo_directOf a_mo_otherOf a_mo_data a_mo_out a_mo_times a_mo_prediction a_mo_runBits a_mo_toCome a_mo_timesKept (0 : Int32) mo_width mo_height mo_many mo_unitsAcross mo_unitsDown mo_drafts mo_mask mo_first mo_last mo_before mo_bits mo_interval mo_size mo_outs mo_part mo_parted mo_failed mo_counting mo_run mo_runMany mo_comes mo_at mo_taken mo_left mo_fault mo_h mo_v mo_across mo_down mo_ownAcross mo_ownDown mo_base)) (w1 := (w_M_lay cI cB cS cT a_mo a_mo_h a_mo_v a_mo_across a_mo_down a_mo_ownAcross a_mo_ownDown a_mo_base a_mo_coefficients a_mo_before0 a_mo_draftCounts a_mo_draft a_mo_words a_mo_lengths a_mo_codes a_mo_directOf a_mo_otherOf a_mo_data a_mo_out a_mo_times a_mo_prediction a_mo_runBits a_mo_toCome a_mo_timesKept (0 : Int32) z1.2.1 z1.2.2.1 z1.2.2.2.1 z1.2.2.2.2.1 z1.2.2.2.2.2.1 mo_drafts mo_mask mo_first mo_last mo_before mo_bits mo_interval mo_size mo_outs mo_part mo_parted mo_failed mo_counting mo_run mo_runMany mo_comes mo_at mo_taken mo_left mo_fault z1.2.2.2.2.2.2.1 z1.2.2.2.2.2.2.2.1 z1.2.2.2.2.2.2.2.2.1 z1.2.2.2.2.2.2.2.2.2.1 z1.2.2.2.2.2.2.2.2.2.2.1 z1.2.2.2.2.2.2.2.2.2.2.2.1 z1.2.2.2.2.2.2.2.2.2.2.2.2)) (w2 := (w_M_frame cI cB cS cT a_mo a_mo_h a_mo_v a_mo_across a_mo_down a_mo_ownAcross a_mo_ownDown a_mo_base a_mo_coefficients a_mo_directOf a_mo_otherOf a_mo_before0 a_mo_draftCounts a_mo_draft a_mo_words a_mo_lengths a_mo_codes a_mo_data a_mo_out a_mo_times a_mo_prediction a_mo_runBits a_mo_toCome a_mo_timesKept (0 : Int32) z1.2.1 z1.2.2.1 z1.2.2.2.1 z1.2.2.2.2.1 z1.2.2.2.2.2.1 mo_drafts mo_mask mo_first mo_last mo_before mo_bits mo_interval mo_size mo_outs mo_part mo_parted mo_failed mo_counting mo_run mo_runMany mo_comes mo_at mo_taken mo_left mo_fault z1.2.2.2.2.2.2.1 z1.2.2.2.2.2.2.2.1 z1.2.2.2.2.2.2.2.2.1 z1.2.2.2.2.2.2.2.2.2.1 z1.2.2.2.2.2.2.2.2.2.2.1 z1.2.2.2.2.2.2.2.2.2.2.2.1 z1.2.2.2.2.2.2.2.2.2.2.2.2 mo_coefficients mo_directOf mo_otherOf)) [0, 1, 2, 3, 4, 5, 6, 7] [some 0, some 1, some 2, some 3, some 4, some 5, some 6, some 7, none, none, none] hP hD hS hA rfl rfl rfl rfl (va_runV (As := [.int p0, .int p1, .int p2, .int p3]) (rest := []) ⟨hx, hb, hml, hown, hts⟩ (c_M_lay l dC dI cI cB cS cT N a_mo a_mo_h a_mo_v a_mo_across a_mo_down a_mo_ownAcross a_mo_ownDown a_mo_base a_mo_coefficients a_mo_before0 a_mo_draftCounts a_mo_draft a_mo_words a_mo_lengths a_mo_codes a_mo_directOf a_mo_otherOf a_mo_data a_mo_out a_mo_times a_mo_prediction a_mo_runBits a_mo_toCome a_mo_timesKept (0 : Int32) mo_width mo_height mo_many mo_unitsAcross mo_unitsDown mo_drafts mo_mask mo_first mo_last mo_before mo_bits mo_interval mo_size mo_outs mo_part mo_parted mo_failed mo_counting mo_run mo_runMany mo_comes mo_at mo_taken mo_left mo_fault mo_h mo_v mo_across mo_down mo_ownAcross mo_ownDown mo_base p0 p1 p2 p3 H.size z1 hz1) ⟨(callB_of 4 hts (gi tw_826 rfl) rfl rfl rfl (hts _ (List.mem_cons_of_mem _ tw_16)) (hts _ (List.mem_cons_of_mem _ tw_823)) (by decide +kernel) ⟨Nat.le_of_ble_eq_true rfl, Nat.le_of_ble_eq_true rfl⟩), hts _ (List.mem_cons_of_mem _ tw_825), hts _ (List.mem_cons_of_mem _ ts_m826)⟩ ⟨g_blind, va_recv hK hP (ci := 11) (q0 := 0) rfl rfl, g_at hKN (g_pm hP [0, 1, 2, 3, 4, 5, 6, 7] rfl) (hD.sub [0, 1, 2, 3, 4, 5, 6, 7] (by decide) rfl)⟩ rfl rfl hl.1 rfl (lv_room (Nat.le_of_ble_eq_true rfl)) d_m985_58 ⟨Nat.zero_le _, Nat.zero_le _⟩) (fun H locs hP hD hS => ?_)
                    refine W.eq (g2 := F0 m 61 ls [.int z1.1]) rfl ?_
                    refine lv_sipush (v := (192 : Int32)) hx hb d_m985_61 (by decide) ?_
                    refine lv_icmp_le (tgt := 69) hx hb d_m985_64 (by decide) (fun hc => ?_) (fun hc => ?_)
                    · replace hf := (if_pos hc).symm.trans hf
                      refine lv_aload_n hx hb d_m985_69 rfl (lv_at hl 0 rfl) ?_
                      obtain ⟨z2, hz2, hf⟩ := ob_bind hf
                      refine g_callv (wc := (w_M_base cI cB cS cT a_mo a_mo_coefficients a_mo_directOf a_mo_otherOf a_mo_h a_mo_v a_mo_across a_mo_down a_mo_ownAcross a_mo_ownDown a_mo_base a_mo_before0 a_mo_draftCounts a_mo_draft a_mo_words a_mo_lengths a_mo_codes a_mo_data a_mo_out a_mo_times a_mo_prediction a_mo_runBits a_mo_toCome a_mo_timesKept (0 : Int32) z1.2.1 z1.2.2.1 z1.2.2.2.1 z1.2.2.2.2.1 z1.2.2.2.2.2.1 mo_drafts mo_mask mo_first mo_last mo_before mo_bits mo_interval mo_size mo_outs mo_part mo_parted mo_failed mo_counting mo_run mo_runMany mo_comes mo_at mo_taken mo_left mo_fault mo_coefficients mo_directOf mo_otherOf)) (w1 := (w_M_base cI cB cS cT a_mo a_mo_coefficients a_mo_directOf a_mo_otherOf a_mo_h a_mo_v a_mo_across a_mo_down a_mo_ownAcross a_mo_ownDown a_mo_base a_mo_before0 a_mo_draftCounts a_mo_draft a_mo_words a_mo_lengths a_mo_codes a_mo_data a_mo_out a_mo_times a_mo_prediction a_mo_runBits a_mo_toCome a_mo_timesKept (0 : Int32) z1.2.1 z1.2.2.1 z1.2.2.2.1 z1.2.2.2.2.1 z1.2.2.2.2.2.1 mo_drafts z2.1 z2.2.1 z2.2.2.1 z2.2.2.2.1 z2.2.2.2.2.1 z2.2.2.2.2.2.1 mo_size mo_outs mo_part mo_parted mo_failed mo_counting mo_run mo_runMany mo_comes mo_at mo_taken mo_left mo_fault z2.2.2.2.2.2.2.1 z2.2.2.2.2.2.2.2.1 z2.2.2.2.2.2.2.2.2)) (w2 := (w_M_frame cI cB cS cT a_mo a_mo_h a_mo_v a_mo_across a_mo_down a_mo_ownAcross a_mo_ownDown a_mo_base a_mo_coefficients a_mo_directOf a_mo_otherOf a_mo_before0 a_mo_draftCounts a_mo_draft a_mo_words a_mo_lengths a_mo_codes a_mo_data a_mo_out a_mo_times a_mo_prediction a_mo_runBits a_mo_toCome a_mo_timesKept (0 : Int32) z1.2.1 z1.2.2.1 z1.2.2.2.1 z1.2.2.2.2.1 z1.2.2.2.2.2.1 mo_drafts z2.1 z2.2.1 z2.2.2.1 z2.2.2.2.1 z2.2.2.2.2.1 z2.2.2.2.2.2.1 mo_size mo_outs mo_part mo_parted mo_failed mo_counting mo_run mo_runMany mo_comes mo_at mo_taken mo_left mo_fault z1.2.2.2.2.2.2.1 z1.2.2.2.2.2.2.2.1 z1.2.2.2.2.2.2.2.2.1 z1.2.2.2.2.2.2.2.2.2.1 z1.2.2.2.2.2.2.2.2.2.2.1 z1.2.2.2.2.2.2.2.2.2.2.2.1 z1.2.2.2.2.2.2.2.2.2.2.2.2 z2.2.2.2.2.2.2.1 z2.2.2.2.2.2.2.2.1 z2.2.2.2.2.2.2.2.2)) [0, 8, 9, 10] [some 0, none, none, none, none, none, none, none, some 1, some 2, some 3] hP hD hS hA rfl rfl rfl rfl (va_runV (As := []) (rest := []) ⟨hx, hb, hml, hown, hts⟩ (c_M_base l dC dI cI cB cS cT N a_mo a_mo_coefficients a_mo_directOf a_mo_otherOf a_mo_h a_mo_v a_mo_across a_mo_down a_mo_ownAcross a_mo_ownDown a_mo_base a_mo_before0 a_mo_draftCounts a_mo_draft a_mo_words a_mo_lengths a_mo_codes a_mo_data a_mo_out a_mo_times a_mo_prediction a_mo_runBits a_mo_toCome a_mo_timesKept (0 : Int32) z1.2.1 z1.2.2.1 z1.2.2.2.1 z1.2.2.2.2.1 z1.2.2.2.2.2.1 mo_drafts mo_mask mo_first mo_last mo_before mo_bits mo_interval mo_size mo_outs mo_part mo_parted mo_failed mo_counting mo_run mo_runMany mo_comes mo_at mo_taken mo_left mo_fault mo_coefficients mo_directOf mo_otherOf H.size z2 hz2) ⟨(callB_of 0 hts (gi tw_833 rfl) rfl rfl rfl (hts _ (List.mem_cons_of_mem _ tw_16)) (hts _ (List.mem_cons_of_mem _ tw_830)) (by decide +kernel) ⟨Nat.le_of_ble_eq_true rfl, Nat.le_of_ble_eq_true rfl⟩), hts _ (List.mem_cons_of_mem _ tw_832), hts _ (List.mem_cons_of_mem _ ts_m833)⟩ ⟨g_blind, va_recv hK hP (ci := 11) (q0 := 0) rfl rfl, g_at hKN (g_pm hP [0, 8, 9, 10] rfl) (hD.sub [0, 8, 9, 10] (by decide) rfl)⟩ rfl rfl hl.1 rfl (lv_room (Nat.le_of_ble_eq_true rfl)) d_m985_70 ⟨Nat.zero_le _, Nat.zero_le _⟩) (fun H locs hP hD hS => ?_)
                      refine W.eq (g2 := F0 m 73 ls []) rfl ?_
                      refine lv_iconst (v := (1 : Int32)) hx hb d_m985_73 (by decide) ?_
                      obtain rfl := Option.some.inj hf
                      subst hQ
                      subst hAe
                      exact W.zret (v := (1 : Int32)) hx hb hr (by decide) (fun t ht hW => ⟨⟨(1 : Int32), (), rfl, rfl, by rw [ht]; exact hP, hD⟩, hS.F ht⟩) hS.2.2 d_m985_74
                    · replace hf := (if_neg hc).symm.trans hf
                      refine lv_iconst (v := (0 : Int32)) hx hb d_m985_67 (by decide) ?_
                      obtain rfl := Option.some.inj hf
                      subst hQ
                      subst hAe
                      exact W.zret (v := (0 : Int32)) hx hb hr (by decide) (fun t ht hW => ⟨⟨(0 : Int32), (), rfl, rfl, by rw [ht]; exact hP, hD⟩, hS.F ht⟩) hS.2.2 d_m985_68
  exact hgo _ _ hP hS
def f_M_counts_L8b (p0 : Int64) (p1 : Int64) (N : Nat) (rec : (Int32 × (Nat → Int32)) → Option (Nat → Int32)) (v5_8 : Int32) (mo_draftCounts_8 : Nat → Int32) : Option (Nat → Int32) :=
  if (8 : Int32) ≤ v5_8 then
    some mo_draftCounts_8
  else
    if ((1 : Int32) + v5_8) < 0 ∨ 17 ≤ ((1 : Int32) + v5_8).toNatClampNeg then none else
    if ((9 : Int32) + v5_8) < 0 ∨ 17 ≤ ((9 : Int32) + v5_8).toNatClampNeg then none else
    rec (v5_8 + (1 : Int32), upd (upd mo_draftCounts_8 ((1 : Int32) + v5_8).toNatClampNeg (((p0 >>> (((8 : Int32) * v5_8).toInt64 &&& 63)) &&& (255 : Int64)).toInt32)) ((9 : Int32) + v5_8).toNatClampNeg (((p1 >>> (((8 : Int32) * v5_8).toInt64 &&& 63)) &&& (255 : Int64)).toInt32))
def f_M_counts_L8 (p0 : Int64) (p1 : Int64) (N : Nat) (k : Nat) : (Int32 × (Nat → Int32)) → Option (Nat → Int32) := it (fun rec a => f_M_counts_L8b p0 p1 N rec a.1 a.2) k
def f_M_counts (N : Nat) (p0 : Int64) (p1 : Int64) (mo_draftCounts : Nat → Int32) : Option (Int32 × Int32 × (Nat → Int32)) :=
  (f_M_counts_L8 p0 p1 N N ((0 : Int32), mo_draftCounts)).bind fun z1 =>
    some ((0 : Int32), (0 : Int32), z1)
abbrev w_M_counts (cI cB cS cT : ClassId) (a_mo : Nat) (a_mo_draftCounts : Nat) (a_mo_h : Nat) (a_mo_v : Nat) (a_mo_across : Nat) (a_mo_down : Nat) (a_mo_ownAcross : Nat) (a_mo_ownDown : Nat) (a_mo_base : Nat) (a_mo_coefficients : Nat) (a_mo_before0 : Nat) (a_mo_draft : Nat) (a_mo_words : Nat) (a_mo_lengths : Nat) (a_mo_codes : Nat) (a_mo_directOf : Nat) (a_mo_otherOf : Nat) (a_mo_data : Nat) (a_mo_out : Nat) (a_mo_times : Nat) (a_mo_prediction : Nat) (a_mo_runBits : Nat) (a_mo_toCome : Nat) (a_mo_timesKept : Nat) (mo_thrown : Int32) (mo_width : Int32) (mo_height : Int32) (mo_many : Int32) (mo_unitsAcross : Int32) (mo_unitsDown : Int32) (mo_drafts : Int32) (mo_mask : Int32) (mo_first : Int32) (mo_last : Int32) (mo_before : Int32) (mo_bits : Int32) (mo_interval : Int32) (mo_size : Int32) (mo_outs : Int32) (mo_part : Int32) (mo_parted : Int32) (mo_failed : Int32) (mo_counting : Int32) (mo_run : Int32) (mo_runMany : Int32) (mo_comes : Int32) (mo_at : Int32) (mo_taken : Int32) (mo_left : Int32) (mo_fault : Int32) (mo_draftCounts : Nat → Int32) : va_W := [(a_mo, .inr (11, [.int mo_thrown, .int mo_width, .int mo_height, .int mo_many, .ref a_mo_h, .ref a_mo_v, .ref a_mo_across, .ref a_mo_down, .ref a_mo_ownAcross, .ref a_mo_ownDown, .ref a_mo_base, .int mo_unitsAcross, .int mo_unitsDown, .ref a_mo_coefficients, .ref a_mo_before0, .ref a_mo_draftCounts, .ref a_mo_draft, .int mo_drafts, .ref a_mo_words, .ref a_mo_lengths, .ref a_mo_codes, .ref a_mo_directOf, .ref a_mo_otherOf, .int mo_mask, .int mo_first, .int mo_last, .int mo_before, .int mo_bits, .int mo_interval, .ref a_mo_data, .int mo_size, .ref a_mo_out, .int mo_outs, .int mo_part, .int mo_parted, .int mo_failed, .int mo_counting, .ref a_mo_times, .ref a_mo_prediction, .int mo_run, .ref a_mo_runBits, .int mo_runMany, .ref a_mo_toCome, .int mo_comes, .int mo_at, .int mo_taken, .int mo_left, .int mo_fault, .ref a_mo_timesKept])), (a_mo_draftCounts, .inl (cI, 17, .inl mo_draftCounts))]
def rm_M_counts : Room := { frames := 0, cells := 0, slots := 0, locals := 0 }
set_option maxHeartbeats 1000000 in
set_option maxRecDepth 100000 in
theorem c_M_counts (l : Launch) (dC : Nat → ClassId) (dI : Nat → Nat → Nat) (cI cB cS cT : ClassId) (N : Nat) (a_mo : Nat) (a_mo_draftCounts : Nat) (a_mo_h : Nat) (a_mo_v : Nat) (a_mo_across : Nat) (a_mo_down : Nat) (a_mo_ownAcross : Nat) (a_mo_ownDown : Nat) (a_mo_base : Nat) (a_mo_coefficients : Nat) (a_mo_before0 : Nat) (a_mo_draft : Nat) (a_mo_words : Nat) (a_mo_lengths : Nat) (a_mo_codes : Nat) (a_mo_directOf : Nat) (a_mo_otherOf : Nat) (a_mo_data : Nat) (a_mo_out : Nat) (a_mo_times : Nat) (a_mo_prediction : Nat) (a_mo_runBits : Nat) (a_mo_toCome : Nat) (a_mo_timesKept : Nat) (mo_thrown : Int32) (mo_width : Int32) (mo_height : Int32) (mo_many : Int32) (mo_unitsAcross : Int32) (mo_unitsDown : Int32) (mo_drafts : Int32) (mo_mask : Int32) (mo_first : Int32) (mo_last : Int32) (mo_before : Int32) (mo_bits : Int32) (mo_interval : Int32) (mo_size : Int32) (mo_outs : Int32) (mo_part : Int32) (mo_parted : Int32) (mo_failed : Int32) (mo_counting : Int32) (mo_run : Int32) (mo_runMany : Int32) (mo_comes : Int32) (mo_at : Int32) (mo_taken : Int32) (mo_left : Int32) (mo_fault : Int32) (mo_draftCounts : Nat → Int32) (p0 : Int64) (p1 : Int64) (sz : Nat) (z : Int32 × Int32 × (Nat → Int32)) (hf : f_M_counts N p0 p1 mo_draftCounts = some z) : Met l y_m989 ws_m989 rm_M_counts (gPre (dC, dI) [.ref a_mo, .long p0, .long p1] (gT cI cB cS cT) (w_M_counts cI cB cS cT a_mo a_mo_draftCounts a_mo_h a_mo_v a_mo_across a_mo_down a_mo_ownAcross a_mo_ownDown a_mo_base a_mo_coefficients a_mo_before0 a_mo_draft a_mo_words a_mo_lengths a_mo_codes a_mo_directOf a_mo_otherOf a_mo_data a_mo_out a_mo_times a_mo_prediction a_mo_runBits a_mo_toCome a_mo_timesKept mo_thrown mo_width mo_height mo_many mo_unitsAcross mo_unitsDown mo_drafts mo_mask mo_first mo_last mo_before mo_bits mo_interval mo_size mo_outs mo_part mo_parted mo_failed mo_counting mo_run mo_runMany mo_comes mo_at mo_taken mo_left mo_fault mo_draftCounts) sz) (gQv (dC, dI) (gT cI cB cS cT) (w_M_counts cI cB cS cT a_mo a_mo_draftCounts a_mo_h a_mo_v a_mo_across a_mo_down a_mo_ownAcross a_mo_ownDown a_mo_base a_mo_coefficients a_mo_before0 a_mo_draft a_mo_words a_mo_lengths a_mo_codes a_mo_directOf a_mo_otherOf a_mo_data a_mo_out a_mo_times a_mo_prediction a_mo_runBits a_mo_toCome a_mo_timesKept mo_thrown mo_width mo_height mo_many mo_unitsAcross mo_unitsDown mo_drafts mo_mask mo_first mo_last mo_before mo_bits mo_interval mo_size mo_outs mo_part mo_parted mo_failed mo_counting mo_run mo_runMany mo_comes mo_at mo_taken mo_left mo_fault mo_draftCounts) (w_M_counts cI cB cS cT a_mo a_mo_draftCounts a_mo_h a_mo_v a_mo_across a_mo_down a_mo_ownAcross a_mo_ownDown a_mo_base a_mo_coefficients a_mo_before0 a_mo_draft a_mo_words a_mo_lengths a_mo_codes a_mo_directOf a_mo_otherOf a_mo_data a_mo_out a_mo_times a_mo_prediction a_mo_runBits a_mo_toCome a_mo_timesKept z.1 mo_width mo_height mo_many mo_unitsAcross mo_unitsDown z.2.1 mo_mask mo_first mo_last mo_before mo_bits mo_interval mo_size mo_outs mo_part mo_parted mo_failed mo_counting mo_run mo_runMany mo_comes mo_at mo_taken mo_left mo_fault z.2.2) sz) 0 0 (va_A (w_M_counts cI cB cS cT a_mo a_mo_draftCounts a_mo_h a_mo_v a_mo_across a_mo_down a_mo_ownAcross a_mo_ownDown a_mo_base a_mo_coefficients a_mo_before0 a_mo_draft a_mo_words a_mo_lengths a_mo_codes a_mo_directOf a_mo_otherOf a_mo_data a_mo_out a_mo_times a_mo_prediction a_mo_runBits a_mo_toCome a_mo_timesKept mo_thrown mo_width mo_height mo_many mo_unitsAcross mo_unitsDown mo_drafts mo_mask mo_first mo_last mo_before mo_bits mo_interval mo_size mo_outs mo_part mo_parted mo_failed mo_counting mo_run mo_runMany mo_comes mo_at mo_taken mo_left mo_fault mo_draftCounts) sz) := by
  refine Met.ofW (cc := prog_14_method_7_code) (maxL := 6) (ret := none) (by decide) rfl ?_
  intro p e s m args below meth c s₁ B hml hv
  obtain ⟨hargs, hsz, hP, hKN, hD0⟩ := hv
  have hK := hKN.1
  have hx := B.exec
  have hb := B.bytes
  have hr := B.returns
  have hts := atoms_spec (ws := ws_m989) B.pre
  have hown : s.vm.findClass "ScanCoderModel" = some m.cls := findClass_of_methodNamed B.named
  have hlocks := B.notSynchronized
  have k0 := hts _ (List.mem_cons_of_mem _ tw_834)
  have k1 := hts _ (List.mem_cons_of_mem _ tw_849)
  have k2 := hts _ (List.mem_cons_of_mem _ tw_990)
  have k3 := hts _ (List.mem_cons_of_mem _ tw_851)
  have n0 : ∀ w ∈ u_ws "ScanCoderModel" T_11 49, w ∈ ws_m989 := fun w h => List.mem_cons_of_mem _ (in_11 w h)
  subst hsz
  have hD := hD0.self (sz := s.heap.size)
  obtain ⟨A, hAe⟩ : ∃ A : Nat → Prop, va_A (w_M_counts cI cB cS cT a_mo a_mo_draftCounts a_mo_h a_mo_v a_mo_across a_mo_down a_mo_ownAcross a_mo_ownDown a_mo_base a_mo_coefficients a_mo_before0 a_mo_draft a_mo_words a_mo_lengths a_mo_codes a_mo_directOf a_mo_otherOf a_mo_data a_mo_out a_mo_times a_mo_prediction a_mo_runBits a_mo_toCome a_mo_timesKept mo_thrown mo_width mo_height mo_many mo_unitsAcross mo_unitsDown mo_drafts mo_mask mo_first mo_last mo_before mo_bits mo_interval mo_size mo_outs mo_part mo_parted mo_failed mo_counting mo_run mo_runMany mo_comes mo_at mo_taken mo_left mo_fault mo_draftCounts) s.heap.size = A := ⟨_, rfl⟩
  rw [hAe] at hD
  have hA : ∀ q : Nat, s.heap.size ≤ q → A q := fun q h => by rw [← hAe]; exact Or.inr h
  have hS : va_S A s.heap s.heap [] := va_S.rf
  have hl := lv_entry ([.ref a_mo, .long p0, .long p1]) (n := 6) (Nat.le_of_ble_eq_true rfl)
  have hfr : entryFrame m args 6 = F0 m 0 ((lg_sl ([.ref a_mo, .long p0, .long p1]) ++ List.replicate (6 - (lg_sl ([.ref a_mo, .long p0, .long p1])).length) Slot.unset).toArray) [] := by rw [hargs]; exact lg_entry_eq _ _ _
  rw [hfr]
  generalize (lg_sl ([.ref a_mo, .long p0, .long p1]) ++ List.replicate (6 - (lg_sl ([.ref a_mo, .long p0, .long p1])).length) Slot.unset).toArray = ls at hl ⊢
  have hl : lv_has ls 6 [(0, .ref a_mo), (1, .long p0), (3, .long p1)] := hl
  refine gen_Q (fun Q hQ => ?_)
  clear hfr
  have L8 : ∀ (mo_thrown_8 : Int32) (z : Nat → Int32), (GW (dC, dI) A p l e (headSpec ws_m989 rm_M_counts).room s m args below meth c 0 0 Q 6 64 (w_M_counts cI cB cS cT a_mo a_mo_draftCounts a_mo_h a_mo_v a_mo_across a_mo_down a_mo_ownAcross a_mo_ownDown a_mo_base a_mo_coefficients a_mo_before0 a_mo_draft a_mo_words a_mo_lengths a_mo_codes a_mo_directOf a_mo_otherOf a_mo_data a_mo_out a_mo_times a_mo_prediction a_mo_runBits a_mo_toCome a_mo_timesKept mo_thrown_8 mo_width mo_height mo_many mo_unitsAcross mo_unitsDown mo_drafts mo_mask mo_first mo_last mo_before mo_bits mo_interval mo_size mo_outs mo_part mo_parted mo_failed mo_counting mo_run mo_runMany mo_comes mo_at mo_taken mo_left mo_fault z) [(0, .ref a_mo)] []) → ∀ (k : Nat) (v5_8 : Int32) (mo_draftCounts_8 : Nat → Int32), f_M_counts_L8 p0 p1 N k (v5_8, mo_draftCounts_8) = some z → GW (dC, dI) A p l e (headSpec ws_m989 rm_M_counts).room s m args below meth c 0 0 Q 6 8 (w_M_counts cI cB cS cT a_mo a_mo_draftCounts a_mo_h a_mo_v a_mo_across a_mo_down a_mo_ownAcross a_mo_ownDown a_mo_base a_mo_coefficients a_mo_before0 a_mo_draft a_mo_words a_mo_lengths a_mo_codes a_mo_directOf a_mo_otherOf a_mo_data a_mo_out a_mo_times a_mo_prediction a_mo_runBits a_mo_toCome a_mo_timesKept mo_thrown_8 mo_width mo_height mo_many mo_unitsAcross mo_unitsDown mo_drafts mo_mask mo_first mo_last mo_before mo_bits mo_interval mo_size mo_outs mo_part mo_parted mo_failed mo_counting mo_run mo_runMany mo_comes mo_at mo_taken mo_left mo_fault mo_draftCounts_8) [(0, .ref a_mo), (1, .long p0), (3, .long p1), (5, .int v5_8)] [] := by
    intro mo_thrown_8 z hE0 k
    induction k with
    | zero =>
      intro v5_8 mo_draftCounts_8 hf
      exact (it_zero hf).elim
    | succ k ih =>
      intro v5_8 mo_draftCounts_8 hf H locs ls hP hD hS hl
      have hf : f_M_counts_L8b p0 p1 N (f_M_counts_L8 p0 p1 N k) v5_8 mo_draftCounts_8 = some z := hf
      unfold f_M_counts_L8b at hf
      refine lv_iload hx hb d_m989_8 (lv_at hl 3 rfl) ?_
      refine lv_bipush (v := (8 : Int32)) hx hb d_m989_10 (by decide) ?_
      refine lv_icmp_ge (tgt := 64) hx hb d_m989_12 (by decide) (fun hc => ?_) (fun hc => ?_)
      · replace hf := (if_pos hc).symm.trans hf
        obtain rfl := Option.some.inj hf
        exact hE0  H locs ls hP hD hS (lv_sub hl [0] rfl)
      · replace hf := (if_neg hc).symm.trans hf
        refine lv_aload_n hx hb d_m989_15 rfl (lv_at hl 0 rfl) ?_
        refine va_get (D := (dC, dI)) (ci := 11) (v := .ref a_mo_draftCounts) (C := "ScanCoderModel") (T := T_11) (N := 49) hx hb hts n0 hown hK hP 0 rfl rfl 15 (by decide) k1 (fun _ h9 => h9) rfl d_m989_16 ?_
        refine lv_iconst (v := (1 : Int32)) hx hb d_m989_19 (by decide) ?_
        refine lv_iload hx hb d_m989_20 (lv_at hl 3 rfl) ?_
        refine lv_iadd hx hb d_m989_22 ?_
        refine lv_lload_n hx hb d_m989_23 rfl (lv_at hl 1 rfl) ?_
        refine lv_bipush (v := (8 : Int32)) hx hb d_m989_24 (by decide) ?_
        refine lv_iload hx hb d_m989_26 (lv_at hl 3 rfl) ?_
        refine lv_imul hx hb d_m989_28 ?_
        refine lv_lshr hx hb d_m989_29 rfl ?_
        refine lv_ldc2 (v := (255 : Int64)) hx hb hown k2 d_m989_30 ?_
        refine lv_land hx hb d_m989_33 ?_
        refine lv_l2i hx hb d_m989_34 rfl ?_
        obtain ⟨hi, hf⟩ := ob_if hf
        refine va_iast hx hb hK hP hD hS 1 0 rfl rfl hi d_m989_35 (fun H locs hP hD hS => ?_)
        have hP : va_P (dC, dI) vwCl (w_M_counts cI cB cS cT a_mo a_mo_draftCounts a_mo_h a_mo_v a_mo_across a_mo_down a_mo_ownAcross a_mo_ownDown a_mo_base a_mo_coefficients a_mo_before0 a_mo_draft a_mo_words a_mo_lengths a_mo_codes a_mo_directOf a_mo_otherOf a_mo_data a_mo_out a_mo_times a_mo_prediction a_mo_runBits a_mo_toCome a_mo_timesKept mo_thrown_8 mo_width mo_height mo_many mo_unitsAcross mo_unitsDown mo_drafts mo_mask mo_first mo_last mo_before mo_bits mo_interval mo_size mo_outs mo_part mo_parted mo_failed mo_counting mo_run mo_runMany mo_comes mo_at mo_taken mo_left mo_fault (upd mo_draftCounts_8 ((1 : Int32) + v5_8).toNatClampNeg (((p0 >>> (((8 : Int32) * v5_8).toInt64 &&& 63)) &&& (255 : Int64)).toInt32))) H := hP
        have hD : va_D A (w_M_counts cI cB cS cT a_mo a_mo_draftCounts a_mo_h a_mo_v a_mo_across a_mo_down a_mo_ownAcross a_mo_ownDown a_mo_base a_mo_coefficients a_mo_before0 a_mo_draft a_mo_words a_mo_lengths a_mo_codes a_mo_directOf a_mo_otherOf a_mo_data a_mo_out a_mo_times a_mo_prediction a_mo_runBits a_mo_toCome a_mo_timesKept mo_thrown_8 mo_width mo_height mo_many mo_unitsAcross mo_unitsDown mo_drafts mo_mask mo_first mo_last mo_before mo_bits mo_interval mo_size mo_outs mo_part mo_parted mo_failed mo_counting mo_run mo_runMany mo_comes mo_at mo_taken mo_left mo_fault (upd mo_draftCounts_8 ((1 : Int32) + v5_8).toNatClampNeg (((p0 >>> (((8 : Int32) * v5_8).toInt64 &&& 63)) &&& (255 : Int64)).toInt32))) := hD
        refine lv_aload_n hx hb d_m989_36 rfl (lv_at hl 0 rfl) ?_
        refine va_get (D := (dC, dI)) (ci := 11) (v := .ref a_mo_draftCounts) (C := "ScanCoderModel") (T := T_11) (N := 49) hx hb hts n0 hown hK hP 0 rfl rfl 15 (by decide) k1 (fun _ h9 => h9) rfl d_m989_37 ?_
        refine lv_bipush (v := (9 : Int32)) hx hb d_m989_40 (by decide) ?_
        refine lv_iload hx hb d_m989_42 (lv_at hl 3 rfl) ?_
        refine lv_iadd hx hb d_m989_44 ?_
        refine lv_lload_n hx hb d_m989_45 rfl (lv_at hl 2 rfl) ?_
        refine lv_bipush (v := (8 : Int32)) hx hb d_m989_46 (by decide) ?_
        refine lv_iload hx hb d_m989_48 (lv_at hl 3 rfl) ?_
        refine lv_imul hx hb d_m989_50 ?_
        refine lv_lshr hx hb d_m989_51 rfl ?_
        refine lv_ldc2 (v := (255 : Int64)) hx hb hown k2 d_m989_52 ?_
        refine lv_land hx hb d_m989_55 ?_
        refine lv_l2i hx hb d_m989_56 rfl ?_
        obtain ⟨hi, hf⟩ := ob_if hf
        refine va_iast hx hb hK hP hD hS 1 0 rfl rfl hi d_m989_57 (fun H locs hP hD hS => ?_)
        have hP : va_P (dC, dI) vwCl (w_M_counts cI cB cS cT a_mo a_mo_draftCounts a_mo_h a_mo_v a_mo_across a_mo_down a_mo_ownAcross a_mo_ownDown a_mo_base a_mo_coefficients a_mo_before0 a_mo_draft a_mo_words a_mo_lengths a_mo_codes a_mo_directOf a_mo_otherOf a_mo_data a_mo_out a_mo_times a_mo_prediction a_mo_runBits a_mo_toCome a_mo_timesKept mo_thrown_8 mo_width mo_height mo_many mo_unitsAcross mo_unitsDown mo_drafts mo_mask mo_first mo_last mo_before mo_bits mo_interval mo_size mo_outs mo_part mo_parted mo_failed mo_counting mo_run mo_runMany mo_comes mo_at mo_taken mo_left mo_fault (upd (upd mo_draftCounts_8 ((1 : Int32) + v5_8).toNatClampNeg (((p0 >>> (((8 : Int32) * v5_8).toInt64 &&& 63)) &&& (255 : Int64)).toInt32)) ((9 : Int32) + v5_8).toNatClampNeg (((p1 >>> (((8 : Int32) * v5_8).toInt64 &&& 63)) &&& (255 : Int64)).toInt32))) H := hP
        have hD : va_D A (w_M_counts cI cB cS cT a_mo a_mo_draftCounts a_mo_h a_mo_v a_mo_across a_mo_down a_mo_ownAcross a_mo_ownDown a_mo_base a_mo_coefficients a_mo_before0 a_mo_draft a_mo_words a_mo_lengths a_mo_codes a_mo_directOf a_mo_otherOf a_mo_data a_mo_out a_mo_times a_mo_prediction a_mo_runBits a_mo_toCome a_mo_timesKept mo_thrown_8 mo_width mo_height mo_many mo_unitsAcross mo_unitsDown mo_drafts mo_mask mo_first mo_last mo_before mo_bits mo_interval mo_size mo_outs mo_part mo_parted mo_failed mo_counting mo_run mo_runMany mo_comes mo_at mo_taken mo_left mo_fault (upd (upd mo_draftCounts_8 ((1 : Int32) + v5_8).toNatClampNeg (((p0 >>> (((8 : Int32) * v5_8).toInt64 &&& 63)) &&& (255 : Int64)).toInt32)) ((9 : Int32) + v5_8).toNatClampNeg (((p1 >>> (((8 : Int32) * v5_8).toInt64 &&& 63)) &&& (255 : Int64)).toInt32))) := hD
        refine lv_iinc (v := v5_8 + (1 : Int32)) (lv' := [(5, .int (v5_8 + (1 : Int32))), (0, .ref a_mo), (1, .long p0), (3, .long p1)]) hx hb d_m989_58 hl (k := 3) rfl rfl (by decide) rfl (fun ls hl => ?_)
        refine lv_goto (tgt := 8) hx hb d_m989_61 (by decide) ?_
        exact ih (v5_8 + (1 : Int32)) (upd (upd mo_draftCounts_8 ((1 : Int32) + v5_8).toNatClampNeg (((p0 >>> (((8 : Int32) * v5_8).toInt64 &&& 63)) &&& (255 : Int64)).toInt32)) ((9 : Int32) + v5_8).toNatClampNeg (((p1 >>> (((8 : Int32) * v5_8).toInt64 &&& 63)) &&& (255 : Int64)).toInt32)) hf H locs ls hP hD hS (lv_sub hl [1, 2, 3, 0] rfl)
  have hgo : ∀ (H : Heap) (locs : List Loc), va_P (dC, dI) vwCl (w_M_counts cI cB cS cT a_mo a_mo_draftCounts a_mo_h a_mo_v a_mo_across a_mo_down a_mo_ownAcross a_mo_ownDown a_mo_base a_mo_coefficients a_mo_before0 a_mo_draft a_mo_words a_mo_lengths a_mo_codes a_mo_directOf a_mo_otherOf a_mo_data a_mo_out a_mo_times a_mo_prediction a_mo_runBits a_mo_toCome a_mo_timesKept mo_thrown mo_width mo_height mo_many mo_unitsAcross mo_unitsDown mo_drafts mo_mask mo_first mo_last mo_before mo_bits mo_interval mo_size mo_outs mo_part mo_parted mo_failed mo_counting mo_run mo_runMany mo_comes mo_at mo_taken mo_left mo_fault mo_draftCounts) H → va_S A s.heap H locs → W p l e (headSpec ws_m989 rm_M_counts).room s m args below meth c H locs 0 0 Q (F0 m 0 ls []) := by
    intro H locs hP hS
    unfold f_M_counts at hf
    refine lv_aload_n hx hb d_m989_0 rfl (lv_at hl 0 rfl) ?_
    refine lv_iconst (v := (0 : Int32)) hx hb d_m989_1 (by decide) ?_
    refine va_put (D := (dC, dI)) (ci := 11) (v := .int (0 : Int32)) (ty := .int) (C := "ScanCoderModel") (T := T_11) (N := 49) hx hb hts n0 ty_11 tyok_11 nm_11 hown hK hP hD hS 0 rfl rfl 0 (by decide) k0 (fun _ h9 => h9) rfl (by decide +kernel) rfl rfl (Nat.le_of_ble_eq_true rfl) d_m989_2 (fun H locs hP hD hS => ?_)
    have hP : va_P (dC, dI) vwCl (w_M_counts cI cB cS cT a_mo a_mo_draftCounts a_mo_h a_mo_v a_mo_across a_mo_down a_mo_ownAcross a_mo_ownDown a_mo_base a_mo_coefficients a_mo_before0 a_mo_draft a_mo_words a_mo_lengths a_mo_codes a_mo_directOf a_mo_otherOf a_mo_data a_mo_out a_mo_times a_mo_prediction a_mo_runBits a_mo_toCome a_mo_timesKept (0 : Int32) mo_width mo_height mo_many mo_unitsAcross mo_unitsDown mo_drafts mo_mask mo_first mo_last mo_before mo_bits mo_interval mo_size mo_outs mo_part mo_parted mo_failed mo_counting mo_run mo_runMany mo_comes mo_at mo_taken mo_left mo_fault mo_draftCounts) H := hP
    have hD : va_D A (w_M_counts cI cB cS cT a_mo a_mo_draftCounts a_mo_h a_mo_v a_mo_across a_mo_down a_mo_ownAcross a_mo_ownDown a_mo_base a_mo_coefficients a_mo_before0 a_mo_draft a_mo_words a_mo_lengths a_mo_codes a_mo_directOf a_mo_otherOf a_mo_data a_mo_out a_mo_times a_mo_prediction a_mo_runBits a_mo_toCome a_mo_timesKept (0 : Int32) mo_width mo_height mo_many mo_unitsAcross mo_unitsDown mo_drafts mo_mask mo_first mo_last mo_before mo_bits mo_interval mo_size mo_outs mo_part mo_parted mo_failed mo_counting mo_run mo_runMany mo_comes mo_at mo_taken mo_left mo_fault mo_draftCounts) := hD
    refine lv_iconst (v := (0 : Int32)) hx hb d_m989_5 (by decide) ?_
    refine lv_istore (lv' := [(5, .int (0 : Int32)), (0, .ref a_mo), (1, .long p0), (3, .long p1)]) hx hb d_m989_6 hl (by decide) rfl (fun ls hl => ?_)
    obtain ⟨z1, hz1, hf⟩ := ob_bind hf
    refine L8 (0 : Int32) z1 ?_ N (0 : Int32) mo_draftCounts hz1 H locs ls hP hD hS (lv_sub hl [1, 2, 3, 0] rfl)
    · intro H locs ls hP hD hS hl
      refine lv_aload_n hx hb d_m989_64 rfl (lv_at hl 0 rfl) ?_
      refine lv_iconst (v := (0 : Int32)) hx hb d_m989_65 (by decide) ?_
      refine va_put (D := (dC, dI)) (ci := 11) (v := .int (0 : Int32)) (ty := .int) (C := "ScanCoderModel") (T := T_11) (N := 49) hx hb hts n0 ty_11 tyok_11 nm_11 hown hK hP hD hS 0 rfl rfl 17 (by decide) k3 (fun _ h9 => h9) rfl (by decide +kernel) rfl rfl (Nat.le_of_ble_eq_true rfl) d_m989_66 (fun H locs hP hD hS => ?_)
      have hP : va_P (dC, dI) vwCl (w_M_counts cI cB cS cT a_mo a_mo_draftCounts a_mo_h a_mo_v a_mo_across a_mo_down a_mo_ownAcross a_mo_ownDown a_mo_base a_mo_coefficients a_mo_before0 a_mo_draft a_mo_words a_mo_lengths a_mo_codes a_mo_directOf a_mo_otherOf a_mo_data a_mo_out a_mo_times a_mo_prediction a_mo_runBits a_mo_toCome a_mo_timesKept (0 : Int32) mo_width mo_height mo_many mo_unitsAcross mo_unitsDown (0 : Int32) mo_mask mo_first mo_last mo_before mo_bits mo_interval mo_size mo_outs mo_part mo_parted mo_failed mo_counting mo_run mo_runMany mo_comes mo_at mo_taken mo_left mo_fault z1) H := hP
      have hD : va_D A (w_M_counts cI cB cS cT a_mo a_mo_draftCounts a_mo_h a_mo_v a_mo_across a_mo_down a_mo_ownAcross a_mo_ownDown a_mo_base a_mo_coefficients a_mo_before0 a_mo_draft a_mo_words a_mo_lengths a_mo_codes a_mo_directOf a_mo_otherOf a_mo_data a_mo_out a_mo_times a_mo_prediction a_mo_runBits a_mo_toCome a_mo_timesKept (0 : Int32) mo_width mo_height mo_many mo_unitsAcross mo_unitsDown (0 : Int32) mo_mask mo_first mo_last mo_before mo_bits mo_interval mo_size mo_outs mo_part mo_parted mo_failed mo_counting mo_run mo_runMany mo_comes mo_at mo_taken mo_left mo_fault z1) := hD
      obtain rfl := Option.some.inj hf
      subst hQ
      subst hAe
      exact W.vret hx hb hr (fun t ht hW => ⟨⟨(), rfl, trivial, by rw [ht]; exact hP, hD⟩, hS.F ht⟩) hS.2.2 d_m989_69
  exact hgo _ _ hP hS
def f_M_symbols_L35b (p0 : Int64) (N : Nat) (rec : (Int32 × Int32 × (Nat → Int32)) → Option (Int32 × (Nat → Int32))) (v4_35 : Int32) (mo_drafts_35 : Int32) (mo_draft_35 : Nat → Int32) : Option (Int32 × (Nat → Int32)) :=
  if v4_35 < 0 then
    some (mo_drafts_35, mo_draft_35)
  else
    if mo_drafts_35 < 0 ∨ 256 ≤ mo_drafts_35.toNatClampNeg then none else
    rec (v4_35 + (-1 : Int32), mo_drafts_35 + (1 : Int32), upd mo_draft_35 mo_drafts_35.toNatClampNeg (((p0 >>> (((8 : Int32) * v4_35).toInt64 &&& 63)) &&& (255 : Int64)).toInt32))
def f_M_symbols_L35 (p0 : Int64) (N : Nat) (k : Nat) : (Int32 × Int32 × (Nat → Int32)) → Option (Int32 × (Nat → Int32)) := it (fun rec a => f_M_symbols_L35b p0 N rec a.1 a.2.1 a.2.2) k
def f_M_symbols (N : Nat) (p0 : Int64) (p1 : Int32) (mo_drafts : Int32) (mo_draft : Nat → Int32) : Option (Int32 × Int32 × Int32 × (Nat → Int32)) :=
  if p1 < (1 : Int32) then
    some ((0 : Int32), (0 : Int32), mo_drafts, mo_draft)
  else
    if (8 : Int32) < p1 then
      some ((0 : Int32), (0 : Int32), mo_drafts, mo_draft)
    else
      if (mo_drafts + p1) ≤ (256 : Int32) then
        (f_M_symbols_L35 p0 N N (p1 - (1 : Int32), mo_drafts, mo_draft)).bind fun z1 =>
          some ((1 : Int32), (0 : Int32), z1.1, z1.2)
      else
        some ((0 : Int32), (0 : Int32), mo_drafts, mo_draft)
abbrev w_M_symbols (cI cB cS cT : ClassId) (a_mo : Nat) (a_mo_draft : Nat) (a_mo_h : Nat) (a_mo_v : Nat) (a_mo_across : Nat) (a_mo_down : Nat) (a_mo_ownAcross : Nat) (a_mo_ownDown : Nat) (a_mo_base : Nat) (a_mo_coefficients : Nat) (a_mo_before0 : Nat) (a_mo_draftCounts : Nat) (a_mo_words : Nat) (a_mo_lengths : Nat) (a_mo_codes : Nat) (a_mo_directOf : Nat) (a_mo_otherOf : Nat) (a_mo_data : Nat) (a_mo_out : Nat) (a_mo_times : Nat) (a_mo_prediction : Nat) (a_mo_runBits : Nat) (a_mo_toCome : Nat) (a_mo_timesKept : Nat) (mo_thrown : Int32) (mo_width : Int32) (mo_height : Int32) (mo_many : Int32) (mo_unitsAcross : Int32) (mo_unitsDown : Int32) (mo_drafts : Int32) (mo_mask : Int32) (mo_first : Int32) (mo_last : Int32) (mo_before : Int32) (mo_bits : Int32) (mo_interval : Int32) (mo_size : Int32) (mo_outs : Int32) (mo_part : Int32) (mo_parted : Int32) (mo_failed : Int32) (mo_counting : Int32) (mo_run : Int32) (mo_runMany : Int32) (mo_comes : Int32) (mo_at : Int32) (mo_taken : Int32) (mo_left : Int32) (mo_fault : Int32) (mo_draft : Nat → Int32) : va_W := [(a_mo, .inr (11, [.int mo_thrown, .int mo_width, .int mo_height, .int mo_many, .ref a_mo_h, .ref a_mo_v, .ref a_mo_across, .ref a_mo_down, .ref a_mo_ownAcross, .ref a_mo_ownDown, .ref a_mo_base, .int mo_unitsAcross, .int mo_unitsDown, .ref a_mo_coefficients, .ref a_mo_before0, .ref a_mo_draftCounts, .ref a_mo_draft, .int mo_drafts, .ref a_mo_words, .ref a_mo_lengths, .ref a_mo_codes, .ref a_mo_directOf, .ref a_mo_otherOf, .int mo_mask, .int mo_first, .int mo_last, .int mo_before, .int mo_bits, .int mo_interval, .ref a_mo_data, .int mo_size, .ref a_mo_out, .int mo_outs, .int mo_part, .int mo_parted, .int mo_failed, .int mo_counting, .ref a_mo_times, .ref a_mo_prediction, .int mo_run, .ref a_mo_runBits, .int mo_runMany, .ref a_mo_toCome, .int mo_comes, .int mo_at, .int mo_taken, .int mo_left, .int mo_fault, .ref a_mo_timesKept])), (a_mo_draft, .inl (cI, 256, .inl mo_draft))]
def rm_M_symbols : Room := { frames := 0, cells := 0, slots := 0, locals := 0 }
set_option maxHeartbeats 1000000 in
set_option maxRecDepth 100000 in
theorem c_M_symbols (l : Launch) (dC : Nat → ClassId) (dI : Nat → Nat → Nat) (cI cB cS cT : ClassId) (N : Nat) (a_mo : Nat) (a_mo_draft : Nat) (a_mo_h : Nat) (a_mo_v : Nat) (a_mo_across : Nat) (a_mo_down : Nat) (a_mo_ownAcross : Nat) (a_mo_ownDown : Nat) (a_mo_base : Nat) (a_mo_coefficients : Nat) (a_mo_before0 : Nat) (a_mo_draftCounts : Nat) (a_mo_words : Nat) (a_mo_lengths : Nat) (a_mo_codes : Nat) (a_mo_directOf : Nat) (a_mo_otherOf : Nat) (a_mo_data : Nat) (a_mo_out : Nat) (a_mo_times : Nat) (a_mo_prediction : Nat) (a_mo_runBits : Nat) (a_mo_toCome : Nat) (a_mo_timesKept : Nat) (mo_thrown : Int32) (mo_width : Int32) (mo_height : Int32) (mo_many : Int32) (mo_unitsAcross : Int32) (mo_unitsDown : Int32) (mo_drafts : Int32) (mo_mask : Int32) (mo_first : Int32) (mo_last : Int32) (mo_before : Int32) (mo_bits : Int32) (mo_interval : Int32) (mo_size : Int32) (mo_outs : Int32) (mo_part : Int32) (mo_parted : Int32) (mo_failed : Int32) (mo_counting : Int32) (mo_run : Int32) (mo_runMany : Int32) (mo_comes : Int32) (mo_at : Int32) (mo_taken : Int32) (mo_left : Int32) (mo_fault : Int32) (mo_draft : Nat → Int32) (p0 : Int64) (p1 : Int32) (sz : Nat) (z : Int32 × Int32 × Int32 × (Nat → Int32)) (hf : f_M_symbols N p0 p1 mo_drafts mo_draft = some z) : Met l y_m994 ws_m994 rm_M_symbols (gPre (dC, dI) [.ref a_mo, .long p0, .int p1] (gT cI cB cS cT) (w_M_symbols cI cB cS cT a_mo a_mo_draft a_mo_h a_mo_v a_mo_across a_mo_down a_mo_ownAcross a_mo_ownDown a_mo_base a_mo_coefficients a_mo_before0 a_mo_draftCounts a_mo_words a_mo_lengths a_mo_codes a_mo_directOf a_mo_otherOf a_mo_data a_mo_out a_mo_times a_mo_prediction a_mo_runBits a_mo_toCome a_mo_timesKept mo_thrown mo_width mo_height mo_many mo_unitsAcross mo_unitsDown mo_drafts mo_mask mo_first mo_last mo_before mo_bits mo_interval mo_size mo_outs mo_part mo_parted mo_failed mo_counting mo_run mo_runMany mo_comes mo_at mo_taken mo_left mo_fault mo_draft) sz) (gQi (dC, dI) (gT cI cB cS cT) z.1 (w_M_symbols cI cB cS cT a_mo a_mo_draft a_mo_h a_mo_v a_mo_across a_mo_down a_mo_ownAcross a_mo_ownDown a_mo_base a_mo_coefficients a_mo_before0 a_mo_draftCounts a_mo_words a_mo_lengths a_mo_codes a_mo_directOf a_mo_otherOf a_mo_data a_mo_out a_mo_times a_mo_prediction a_mo_runBits a_mo_toCome a_mo_timesKept mo_thrown mo_width mo_height mo_many mo_unitsAcross mo_unitsDown mo_drafts mo_mask mo_first mo_last mo_before mo_bits mo_interval mo_size mo_outs mo_part mo_parted mo_failed mo_counting mo_run mo_runMany mo_comes mo_at mo_taken mo_left mo_fault mo_draft) (w_M_symbols cI cB cS cT a_mo a_mo_draft a_mo_h a_mo_v a_mo_across a_mo_down a_mo_ownAcross a_mo_ownDown a_mo_base a_mo_coefficients a_mo_before0 a_mo_draftCounts a_mo_words a_mo_lengths a_mo_codes a_mo_directOf a_mo_otherOf a_mo_data a_mo_out a_mo_times a_mo_prediction a_mo_runBits a_mo_toCome a_mo_timesKept z.2.1 mo_width mo_height mo_many mo_unitsAcross mo_unitsDown z.2.2.1 mo_mask mo_first mo_last mo_before mo_bits mo_interval mo_size mo_outs mo_part mo_parted mo_failed mo_counting mo_run mo_runMany mo_comes mo_at mo_taken mo_left mo_fault z.2.2.2) sz) 0 0 (va_A (w_M_symbols cI cB cS cT a_mo a_mo_draft a_mo_h a_mo_v a_mo_across a_mo_down a_mo_ownAcross a_mo_ownDown a_mo_base a_mo_coefficients a_mo_before0 a_mo_draftCounts a_mo_words a_mo_lengths a_mo_codes a_mo_directOf a_mo_otherOf a_mo_data a_mo_out a_mo_times a_mo_prediction a_mo_runBits a_mo_toCome a_mo_timesKept mo_thrown mo_width mo_height mo_many mo_unitsAcross mo_unitsDown mo_drafts mo_mask mo_first mo_last mo_before mo_bits mo_interval mo_size mo_outs mo_part mo_parted mo_failed mo_counting mo_run mo_runMany mo_comes mo_at mo_taken mo_left mo_fault mo_draft) sz) := by
  refine Met.ofW (cc := prog_14_method_8_code) (maxL := 5) (ret := (some .boolean)) (by decide) rfl ?_
  intro p e s m args below meth c s₁ B hml hv
  obtain ⟨hargs, hsz, hP, hKN, hD0⟩ := hv
  have hK := hKN.1
  have hx := B.exec
  have hb := B.bytes
  have hr := B.returns
  have hts := atoms_spec (ws := ws_m994) B.pre
  have hown : s.vm.findClass "ScanCoderModel" = some m.cls := findClass_of_methodNamed B.named
  have hlocks := B.notSynchronized
  have k0 := hts _ (List.mem_cons_of_mem _ tw_834)
  have k1 := hts _ (List.mem_cons_of_mem _ tw_851)
  have k2 := hts _ (List.mem_cons_of_mem _ tw_850)
  have k3 := hts _ (List.mem_cons_of_mem _ tw_990)
  have n0 : ∀ w ∈ u_ws "ScanCoderModel" T_11 49, w ∈ ws_m994 := fun w h => List.mem_cons_of_mem _ (in_11 w h)
  subst hsz
  have hD := hD0.self (sz := s.heap.size)
  obtain ⟨A, hAe⟩ : ∃ A : Nat → Prop, va_A (w_M_symbols cI cB cS cT a_mo a_mo_draft a_mo_h a_mo_v a_mo_across a_mo_down a_mo_ownAcross a_mo_ownDown a_mo_base a_mo_coefficients a_mo_before0 a_mo_draftCounts a_mo_words a_mo_lengths a_mo_codes a_mo_directOf a_mo_otherOf a_mo_data a_mo_out a_mo_times a_mo_prediction a_mo_runBits a_mo_toCome a_mo_timesKept mo_thrown mo_width mo_height mo_many mo_unitsAcross mo_unitsDown mo_drafts mo_mask mo_first mo_last mo_before mo_bits mo_interval mo_size mo_outs mo_part mo_parted mo_failed mo_counting mo_run mo_runMany mo_comes mo_at mo_taken mo_left mo_fault mo_draft) s.heap.size = A := ⟨_, rfl⟩
  rw [hAe] at hD
  have hA : ∀ q : Nat, s.heap.size ≤ q → A q := fun q h => by rw [← hAe]; exact Or.inr h
  have hS : va_S A s.heap s.heap [] := va_S.rf
  have hl := lv_entry ([.ref a_mo, .long p0, .int p1]) (n := 5) (Nat.le_of_ble_eq_true rfl)
  have hfr : entryFrame m args 5 = F0 m 0 ((lg_sl ([.ref a_mo, .long p0, .int p1]) ++ List.replicate (5 - (lg_sl ([.ref a_mo, .long p0, .int p1])).length) Slot.unset).toArray) [] := by rw [hargs]; exact lg_entry_eq _ _ _
  rw [hfr]
  generalize (lg_sl ([.ref a_mo, .long p0, .int p1]) ++ List.replicate (5 - (lg_sl ([.ref a_mo, .long p0, .int p1])).length) Slot.unset).toArray = ls at hl ⊢
  have hl : lv_has ls 5 [(0, .ref a_mo), (1, .long p0), (3, .int p1)] := hl
  refine gen_Q (fun Q hQ => ?_)
  clear hfr
  have L35 : ∀ (mo_thrown_35 : Int32) (z : Int32 × (Nat → Int32)), (GW (dC, dI) A p l e (headSpec ws_m994 rm_M_symbols).room s m args below meth c 0 0 Q 5 77 (w_M_symbols cI cB cS cT a_mo a_mo_draft a_mo_h a_mo_v a_mo_across a_mo_down a_mo_ownAcross a_mo_ownDown a_mo_base a_mo_coefficients a_mo_before0 a_mo_draftCounts a_mo_words a_mo_lengths a_mo_codes a_mo_directOf a_mo_otherOf a_mo_data a_mo_out a_mo_times a_mo_prediction a_mo_runBits a_mo_toCome a_mo_timesKept mo_thrown_35 mo_width mo_height mo_many mo_unitsAcross mo_unitsDown z.1 mo_mask mo_first mo_last mo_before mo_bits mo_interval mo_size mo_outs mo_part mo_parted mo_failed mo_counting mo_run mo_runMany mo_comes mo_at mo_taken mo_left mo_fault z.2) [] []) → ∀ (k : Nat) (v4_35 : Int32) (mo_drafts_35 : Int32) (mo_draft_35 : Nat → Int32), f_M_symbols_L35 p0 N k (v4_35, mo_drafts_35, mo_draft_35) = some z → GW (dC, dI) A p l e (headSpec ws_m994 rm_M_symbols).room s m args below meth c 0 0 Q 5 35 (w_M_symbols cI cB cS cT a_mo a_mo_draft a_mo_h a_mo_v a_mo_across a_mo_down a_mo_ownAcross a_mo_ownDown a_mo_base a_mo_coefficients a_mo_before0 a_mo_draftCounts a_mo_words a_mo_lengths a_mo_codes a_mo_directOf a_mo_otherOf a_mo_data a_mo_out a_mo_times a_mo_prediction a_mo_runBits a_mo_toCome a_mo_timesKept mo_thrown_35 mo_width mo_height mo_many mo_unitsAcross mo_unitsDown mo_drafts_35 mo_mask mo_first mo_last mo_before mo_bits mo_interval mo_size mo_outs mo_part mo_parted mo_failed mo_counting mo_run mo_runMany mo_comes mo_at mo_taken mo_left mo_fault mo_draft_35) [(0, .ref a_mo), (1, .long p0), (4, .int v4_35)] [] := by
    intro mo_thrown_35 z hE0 k
    induction k with
    | zero =>
      intro v4_35 mo_drafts_35 mo_draft_35 hf
      exact (it_zero hf).elim
    | succ k ih =>
      intro v4_35 mo_drafts_35 mo_draft_35 hf H locs ls hP hD hS hl
      have hf : f_M_symbols_L35b p0 N (f_M_symbols_L35 p0 N k) v4_35 mo_drafts_35 mo_draft_35 = some z := hf
      unfold f_M_symbols_L35b at hf
      refine lv_iload hx hb d_m994_35 (lv_at hl 2 rfl) ?_
      refine lv_if_lt (tgt := 77) hx hb d_m994_37 (by decide) (fun hc => ?_) (fun hc => ?_)
      · replace hf := (if_pos hc).symm.trans hf
        obtain rfl := Option.some.inj hf
        exact hE0  H locs ls hP hD hS (lv_sub hl [] rfl)
      · replace hf := (if_neg hc).symm.trans hf
        refine lv_aload_n hx hb d_m994_40 rfl (lv_at hl 0 rfl) ?_
        refine va_get (D := (dC, dI)) (ci := 11) (v := .ref a_mo_draft) (C := "ScanCoderModel") (T := T_11) (N := 49) hx hb hts n0 hown hK hP 0 rfl rfl 16 (by decide) k2 (fun _ h9 => h9) rfl d_m994_41 ?_
        refine lv_aload_n hx hb d_m994_44 rfl (lv_at hl 0 rfl) ?_
        refine va_get (D := (dC, dI)) (ci := 11) (v := .int mo_drafts_35) (C := "ScanCoderModel") (T := T_11) (N := 49) hx hb hts n0 hown hK hP 0 rfl rfl 17 (by decide) k1 (fun _ h9 => h9) rfl d_m994_45 ?_
        refine lv_lload_n hx hb d_m994_48 rfl (lv_at hl 1 rfl) ?_
        refine lv_bipush (v := (8 : Int32)) hx hb d_m994_49 (by decide) ?_
        refine lv_iload hx hb d_m994_51 (lv_at hl 2 rfl) ?_
        refine lv_imul hx hb d_m994_53 ?_
        refine lv_lshr hx hb d_m994_54 rfl ?_
        refine lv_ldc2 (v := (255 : Int64)) hx hb hown k3 d_m994_55 ?_
        refine lv_land hx hb d_m994_58 ?_
        refine lv_l2i hx hb d_m994_59 rfl ?_
        obtain ⟨hi, hf⟩ := ob_if hf
        refine va_iast hx hb hK hP hD hS 1 0 rfl rfl hi d_m994_60 (fun H locs hP hD hS => ?_)
        have hP : va_P (dC, dI) vwCl (w_M_symbols cI cB cS cT a_mo a_mo_draft a_mo_h a_mo_v a_mo_across a_mo_down a_mo_ownAcross a_mo_ownDown a_mo_base a_mo_coefficients a_mo_before0 a_mo_draftCounts a_mo_words a_mo_lengths a_mo_codes a_mo_directOf a_mo_otherOf a_mo_data a_mo_out a_mo_times a_mo_prediction a_mo_runBits a_mo_toCome a_mo_timesKept mo_thrown_35 mo_width mo_height mo_many mo_unitsAcross mo_unitsDown mo_drafts_35 mo_mask mo_first mo_last mo_before mo_bits mo_interval mo_size mo_outs mo_part mo_parted mo_failed mo_counting mo_run mo_runMany mo_comes mo_at mo_taken mo_left mo_fault (upd mo_draft_35 mo_drafts_35.toNatClampNeg (((p0 >>> (((8 : Int32) * v4_35).toInt64 &&& 63)) &&& (255 : Int64)).toInt32))) H := hP
        have hD : va_D A (w_M_symbols cI cB cS cT a_mo a_mo_draft a_mo_h a_mo_v a_mo_across a_mo_down a_mo_ownAcross a_mo_ownDown a_mo_base a_mo_coefficients a_mo_before0 a_mo_draftCounts a_mo_words a_mo_lengths a_mo_codes a_mo_directOf a_mo_otherOf a_mo_data a_mo_out a_mo_times a_mo_prediction a_mo_runBits a_mo_toCome a_mo_timesKept mo_thrown_35 mo_width mo_height mo_many mo_unitsAcross mo_unitsDown mo_drafts_35 mo_mask mo_first mo_last mo_before mo_bits mo_interval mo_size mo_outs mo_part mo_parted mo_failed mo_counting mo_run mo_runMany mo_comes mo_at mo_taken mo_left mo_fault (upd mo_draft_35 mo_drafts_35.toNatClampNeg (((p0 >>> (((8 : Int32) * v4_35).toInt64 &&& 63)) &&& (255 : Int64)).toInt32))) := hD
        refine lv_aload_n hx hb d_m994_61 rfl (lv_at hl 0 rfl) ?_
        refine lv_dup hx hb d_m994_62 rfl ?_
        refine va_get (D := (dC, dI)) (ci := 11) (v := .int mo_drafts_35) (C := "ScanCoderModel") (T := T_11) (N := 49) hx hb hts n0 hown hK hP 0 rfl rfl 17 (by decide) k1 (fun _ h9 => h9) rfl d_m994_63 ?_
        refine lv_iconst (v := (1 : Int32)) hx hb d_m994_66 (by decide) ?_
        refine lv_iadd hx hb d_m994_67 ?_
        refine va_put (D := (dC, dI)) (ci := 11) (v := .int (mo_drafts_35 + (1 : Int32))) (ty := .int) (C := "ScanCoderModel") (T := T_11) (N := 49) hx hb hts n0 ty_11 tyok_11 nm_11 hown hK hP hD hS 0 rfl rfl 17 (by decide) k1 (fun _ h9 => h9) rfl (by decide +kernel) rfl rfl (Nat.le_of_ble_eq_true rfl) d_m994_68 (fun H locs hP hD hS => ?_)
        have hP : va_P (dC, dI) vwCl (w_M_symbols cI cB cS cT a_mo a_mo_draft a_mo_h a_mo_v a_mo_across a_mo_down a_mo_ownAcross a_mo_ownDown a_mo_base a_mo_coefficients a_mo_before0 a_mo_draftCounts a_mo_words a_mo_lengths a_mo_codes a_mo_directOf a_mo_otherOf a_mo_data a_mo_out a_mo_times a_mo_prediction a_mo_runBits a_mo_toCome a_mo_timesKept mo_thrown_35 mo_width mo_height mo_many mo_unitsAcross mo_unitsDown (mo_drafts_35 + (1 : Int32)) mo_mask mo_first mo_last mo_before mo_bits mo_interval mo_size mo_outs mo_part mo_parted mo_failed mo_counting mo_run mo_runMany mo_comes mo_at mo_taken mo_left mo_fault (upd mo_draft_35 mo_drafts_35.toNatClampNeg (((p0 >>> (((8 : Int32) * v4_35).toInt64 &&& 63)) &&& (255 : Int64)).toInt32))) H := hP
        have hD : va_D A (w_M_symbols cI cB cS cT a_mo a_mo_draft a_mo_h a_mo_v a_mo_across a_mo_down a_mo_ownAcross a_mo_ownDown a_mo_base a_mo_coefficients a_mo_before0 a_mo_draftCounts a_mo_words a_mo_lengths a_mo_codes a_mo_directOf a_mo_otherOf a_mo_data a_mo_out a_mo_times a_mo_prediction a_mo_runBits a_mo_toCome a_mo_timesKept mo_thrown_35 mo_width mo_height mo_many mo_unitsAcross mo_unitsDown (mo_drafts_35 + (1 : Int32)) mo_mask mo_first mo_last mo_before mo_bits mo_interval mo_size mo_outs mo_part mo_parted mo_failed mo_counting mo_run mo_runMany mo_comes mo_at mo_taken mo_left mo_fault (upd mo_draft_35 mo_drafts_35.toNatClampNeg (((p0 >>> (((8 : Int32) * v4_35).toInt64 &&& 63)) &&& (255 : Int64)).toInt32))) := hD
        refine lv_iinc (v := v4_35 + (-1 : Int32)) (lv' := [(4, .int (v4_35 + (-1 : Int32))), (0, .ref a_mo), (1, .long p0)]) hx hb d_m994_71 hl (k := 2) rfl rfl (by decide) rfl (fun ls hl => ?_)
        refine lv_goto (tgt := 35) hx hb d_m994_74 (by decide) ?_
        exact ih (v4_35 + (-1 : Int32)) (mo_drafts_35 + (1 : Int32)) (upd mo_draft_35 mo_drafts_35.toNatClampNeg (((p0 >>> (((8 : Int32) * v4_35).toInt64 &&& 63)) &&& (255 : Int64)).toInt32)) hf H locs ls hP hD hS (lv_sub hl [1, 2, 0] rfl)
  have hgo : ∀ (H : Heap) (locs : List Loc), va_P (dC, dI) vwCl (w_M_symbols cI cB cS cT a_mo a_mo_draft a_mo_h a_mo_v a_mo_across a_mo_down a_mo_ownAcross a_mo_ownDown a_mo_base a_mo_coefficients a_mo_before0 a_mo_draftCounts a_mo_words a_mo_lengths a_mo_codes a_mo_directOf a_mo_otherOf a_mo_data a_mo_out a_mo_times a_mo_prediction a_mo_runBits a_mo_toCome a_mo_timesKept mo_thrown mo_width mo_height mo_many mo_unitsAcross mo_unitsDown mo_drafts mo_mask mo_first mo_last mo_before mo_bits mo_interval mo_size mo_outs mo_part mo_parted mo_failed mo_counting mo_run mo_runMany mo_comes mo_at mo_taken mo_left mo_fault mo_draft) H → va_S A s.heap H locs → W p l e (headSpec ws_m994 rm_M_symbols).room s m args below meth c H locs 0 0 Q (F0 m 0 ls []) := by
    intro H locs hP hS
    unfold f_M_symbols at hf
    refine lv_aload_n hx hb d_m994_0 rfl (lv_at hl 0 rfl) ?_
    refine lv_iconst (v := (0 : Int32)) hx hb d_m994_1 (by decide) ?_
    refine va_put (D := (dC, dI)) (ci := 11) (v := .int (0 : Int32)) (ty := .int) (C := "ScanCoderModel") (T := T_11) (N := 49) hx hb hts n0 ty_11 tyok_11 nm_11 hown hK hP hD hS 0 rfl rfl 0 (by decide) k0 (fun _ h9 => h9) rfl (by decide +kernel) rfl rfl (Nat.le_of_ble_eq_true rfl) d_m994_2 (fun H locs hP hD hS => ?_)
    have hP : va_P (dC, dI) vwCl (w_M_symbols cI cB cS cT a_mo a_mo_draft a_mo_h a_mo_v a_mo_across a_mo_down a_mo_ownAcross a_mo_ownDown a_mo_base a_mo_coefficients a_mo_before0 a_mo_draftCounts a_mo_words a_mo_lengths a_mo_codes a_mo_directOf a_mo_otherOf a_mo_data a_mo_out a_mo_times a_mo_prediction a_mo_runBits a_mo_toCome a_mo_timesKept (0 : Int32) mo_width mo_height mo_many mo_unitsAcross mo_unitsDown mo_drafts mo_mask mo_first mo_last mo_before mo_bits mo_interval mo_size mo_outs mo_part mo_parted mo_failed mo_counting mo_run mo_runMany mo_comes mo_at mo_taken mo_left mo_fault mo_draft) H := hP
    have hD : va_D A (w_M_symbols cI cB cS cT a_mo a_mo_draft a_mo_h a_mo_v a_mo_across a_mo_down a_mo_ownAcross a_mo_ownDown a_mo_base a_mo_coefficients a_mo_before0 a_mo_draftCounts a_mo_words a_mo_lengths a_mo_codes a_mo_directOf a_mo_otherOf a_mo_data a_mo_out a_mo_times a_mo_prediction a_mo_runBits a_mo_toCome a_mo_timesKept (0 : Int32) mo_width mo_height mo_many mo_unitsAcross mo_unitsDown mo_drafts mo_mask mo_first mo_last mo_before mo_bits mo_interval mo_size mo_outs mo_part mo_parted mo_failed mo_counting mo_run mo_runMany mo_comes mo_at mo_taken mo_left mo_fault mo_draft) := hD
    refine lv_iload_n hx hb d_m994_5 rfl (lv_at hl 2 rfl) ?_
    refine lv_iconst (v := (1 : Int32)) hx hb d_m994_6 (by decide) ?_
    refine lv_icmp_lt (tgt := 28) hx hb d_m994_7 (by decide) (fun hc => ?_) (fun hc => ?_)
    · replace hf := (if_pos hc).symm.trans hf
      refine lv_iconst (v := (0 : Int32)) hx hb d_m994_28 (by decide) ?_
      obtain rfl := Option.some.inj hf
      subst hQ
      subst hAe
      exact W.zret (v := (0 : Int32)) hx hb hr (by decide) (fun t ht hW => ⟨⟨(0 : Int32), (), rfl, rfl, by rw [ht]; exact hP, hD⟩, hS.F ht⟩) hS.2.2 d_m994_29
    · replace hf := (if_neg hc).symm.trans hf
      refine lv_iload_n hx hb d_m994_10 rfl (lv_at hl 2 rfl) ?_
      refine lv_bipush (v := (8 : Int32)) hx hb d_m994_11 (by decide) ?_
      refine lv_icmp_gt (tgt := 28) hx hb d_m994_13 (by decide) (fun hc => ?_) (fun hc => ?_)
      · replace hf := (if_pos hc).symm.trans hf
        refine lv_iconst (v := (0 : Int32)) hx hb d_m994_28 (by decide) ?_
        obtain rfl := Option.some.inj hf
        subst hQ
        subst hAe
        exact W.zret (v := (0 : Int32)) hx hb hr (by decide) (fun t ht hW => ⟨⟨(0 : Int32), (), rfl, rfl, by rw [ht]; exact hP, hD⟩, hS.F ht⟩) hS.2.2 d_m994_29
      · replace hf := (if_neg hc).symm.trans hf
        refine lv_aload_n hx hb d_m994_16 rfl (lv_at hl 0 rfl) ?_
        refine va_get (D := (dC, dI)) (ci := 11) (v := .int mo_drafts) (C := "ScanCoderModel") (T := T_11) (N := 49) hx hb hts n0 hown hK hP 0 rfl rfl 17 (by decide) k1 (fun _ h9 => h9) rfl d_m994_17 ?_
        refine lv_iload_n hx hb d_m994_20 rfl (lv_at hl 2 rfl) ?_
        refine lv_iadd hx hb d_m994_21 ?_
        refine lv_sipush (v := (256 : Int32)) hx hb d_m994_22 (by decide) ?_
        refine lv_icmp_le (tgt := 30) hx hb d_m994_25 (by decide) (fun hc => ?_) (fun hc => ?_)
        · replace hf := (if_pos hc).symm.trans hf
          refine lv_iload_n hx hb d_m994_30 rfl (lv_at hl 2 rfl) ?_
          refine lv_iconst (v := (1 : Int32)) hx hb d_m994_31 (by decide) ?_
          refine lv_isub hx hb d_m994_32 ?_
          refine lv_istore (lv' := [(4, .int (p1 - (1 : Int32))), (0, .ref a_mo), (1, .long p0), (3, .int p1)]) hx hb d_m994_33 hl (by decide) rfl (fun ls hl => ?_)
          obtain ⟨z1, hz1, hf⟩ := ob_bind hf
          refine L35 (0 : Int32) z1 ?_ N (p1 - (1 : Int32)) mo_drafts mo_draft hz1 H locs ls hP hD hS (lv_sub hl [1, 2, 0] rfl)
          · intro H locs ls hP hD hS hl
            refine lv_iconst (v := (1 : Int32)) hx hb d_m994_77 (by decide) ?_
            obtain rfl := Option.some.inj hf
            subst hQ
            subst hAe
            exact W.zret (v := (1 : Int32)) hx hb hr (by decide) (fun t ht hW => ⟨⟨(1 : Int32), (), rfl, rfl, by rw [ht]; exact hP, hD⟩, hS.F ht⟩) hS.2.2 d_m994_78
        · replace hf := (if_neg hc).symm.trans hf
          refine lv_iconst (v := (0 : Int32)) hx hb d_m994_28 (by decide) ?_
          obtain rfl := Option.some.inj hf
          subst hQ
          subst hAe
          exact W.zret (v := (0 : Int32)) hx hb hr (by decide) (fun t ht hW => ⟨⟨(0 : Int32), (), rfl, rfl, by rw [ht]; exact hP, hD⟩, hS.F ht⟩) hS.2.2 d_m994_29
  exact hgo _ _ hP hS
def f_M_isTable_J10_61 (N : Nat) (rec : (Int32 × Int64 × Int32 × Int32) → Option (Int32 × Int32)) (v1_j61 : Int32) (v2_j61 : Int64) (s0_j61 : Int32) (v5_10 : Int32) : Option (Int32 × Int32) :=
  rec (v1_j61, v2_j61, s0_j61, v5_10 + (1 : Int32))
def f_M_isTable_J10_60 (N : Nat) (rec : (Int32 × Int64 × Int32 × Int32) → Option (Int32 × Int32)) (v1_j60 : Int32) (v2_j60 : Int64) (v5_10 : Int32) : Option (Int32 × Int32) :=
  f_M_isTable_J10_61 N rec v1_j60 v2_j60 (0 : Int32) v5_10
def f_M_isTable_L10b (mo_draftCounts : Nat → Int32) (N : Nat) (rec : (Int32 × Int64 × Int32 × Int32) → Option (Int32 × Int32)) (v1_10 : Int32) (v2_10 : Int64) (v4_10 : Int32) (v5_10 : Int32) : Option (Int32 × Int32) :=
  if (16 : Int32) < v5_10 then
    some (v1_10, v4_10)
  else
    if v5_10 < 0 ∨ 17 ≤ v5_10.toNatClampNeg then none else
    if v5_10 < 0 ∨ 17 ≤ v5_10.toNatClampNeg then none else
    if v4_10 = 0 then
      f_M_isTable_J10_60 N rec (v1_10 + (mo_draftCounts v5_10.toNatClampNeg)) (((2 : Int64) * v2_10) + ((mo_draftCounts v5_10.toNatClampNeg).toInt64)) v5_10
    else
      if 0 ≤ (lg_cmp (((2 : Int64) * v2_10) + ((mo_draftCounts v5_10.toNatClampNeg).toInt64)) ((1 : Int64) <<< (v5_10.toInt64 &&& 63))) then
        f_M_isTable_J10_60 N rec (v1_10 + (mo_draftCounts v5_10.toNatClampNeg)) (((2 : Int64) * v2_10) + ((mo_draftCounts v5_10.toNatClampNeg).toInt64)) v5_10
      else
        f_M_isTable_J10_61 N rec (v1_10 + (mo_draftCounts v5_10.toNatClampNeg)) (((2 : Int64) * v2_10) + ((mo_draftCounts v5_10.toNatClampNeg).toInt64)) (1 : Int32) v5_10
def f_M_isTable_L10 (mo_draftCounts : Nat → Int32) (N : Nat) (k : Nat) : (Int32 × Int64 × Int32 × Int32) → Option (Int32 × Int32) := it (fun rec a => f_M_isTable_L10b mo_draftCounts N rec a.1 a.2.1 a.2.2.1 a.2.2.2) k
def f_M_isTable_J84_118 (N : Nat) (rec : (Int32 × Int32) → Option (Int32)) (s0_j118 : Int32) (v6_84 : Int32) : Option (Int32) :=
  rec (s0_j118, v6_84 + (1 : Int32))
def f_M_isTable_J84_117 (N : Nat) (rec : (Int32 × Int32) → Option (Int32)) (v6_84 : Int32) : Option (Int32) :=
  f_M_isTable_J84_118 N rec (0 : Int32) v6_84
def f_M_isTable_L84b (v5_72 : Int32) (mo_draft : Nat → Int32) (N : Nat) (rec : (Int32 × Int32) → Option (Int32)) (v4_84 : Int32) (v6_84 : Int32) : Option (Int32) :=
  if v5_72 ≤ v6_84 then
    some v4_84
  else
    if v4_84 = 0 then
      f_M_isTable_J84_117 N rec v6_84
    else
      if v5_72 < 0 ∨ 256 ≤ v5_72.toNatClampNeg then none else
      if v6_84 < 0 ∨ 256 ≤ v6_84.toNatClampNeg then none else
      if (mo_draft v5_72.toNatClampNeg) = (mo_draft v6_84.toNatClampNeg) then
        f_M_isTable_J84_117 N rec v6_84
      else
        f_M_isTable_J84_118 N rec (1 : Int32) v6_84
def f_M_isTable_L84 (v5_72 : Int32) (mo_draft : Nat → Int32) (N : Nat) (k : Nat) : (Int32 × Int32) → Option (Int32) := it (fun rec a => f_M_isTable_L84b v5_72 mo_draft N rec a.1 a.2) k
def f_M_isTable_L72b (mo_drafts : Int32) (mo_draft : Nat → Int32) (N : Nat) (rec : (Int32 × Int32) → Option (Int32)) (v4_72 : Int32) (v5_72 : Int32) : Option (Int32) :=
  if mo_drafts ≤ v5_72 then
    some v4_72
  else
    (f_M_isTable_L84 v5_72 mo_draft N N (v4_72, (0 : Int32))).bind fun z2 =>
      rec (z2, v5_72 + (1 : Int32))
def f_M_isTable_L72 (mo_drafts : Int32) (mo_draft : Nat → Int32) (N : Nat) (k : Nat) : (Int32 × Int32) → Option (Int32) := it (fun rec a => f_M_isTable_L72b mo_drafts mo_draft N rec a.1 a.2) k
def f_M_isTable (N : Nat) (mo_drafts : Int32) (mo_draftCounts : Nat → Int32) (mo_draft : Nat → Int32) : Option (Int32) :=
  (f_M_isTable_L10 mo_draftCounts N N ((0 : Int32), (0 : Int64), (1 : Int32), (1 : Int32))).bind fun z1 =>
    (f_M_isTable_L72 mo_drafts mo_draft N N (z1.2, (0 : Int32))).bind fun z3 =>
    if z3 = 0 then
    some (0 : Int32)
  else
    if z1.1 = mo_drafts then
      some (1 : Int32)
    else
      some (0 : Int32)
abbrev w_M_isTable (cI cB cS cT : ClassId) (a_mo : Nat) (a_mo_draftCounts : Nat) (a_mo_draft : Nat) (a_mo_h : Nat) (a_mo_v : Nat) (a_mo_across : Nat) (a_mo_down : Nat) (a_mo_ownAcross : Nat) (a_mo_ownDown : Nat) (a_mo_base : Nat) (a_mo_coefficients : Nat) (a_mo_before0 : Nat) (a_mo_words : Nat) (a_mo_lengths : Nat) (a_mo_codes : Nat) (a_mo_directOf : Nat) (a_mo_otherOf : Nat) (a_mo_data : Nat) (a_mo_out : Nat) (a_mo_times : Nat) (a_mo_prediction : Nat) (a_mo_runBits : Nat) (a_mo_toCome : Nat) (a_mo_timesKept : Nat) (mo_thrown : Int32) (mo_width : Int32) (mo_height : Int32) (mo_many : Int32) (mo_unitsAcross : Int32) (mo_unitsDown : Int32) (mo_drafts : Int32) (mo_mask : Int32) (mo_first : Int32) (mo_last : Int32) (mo_before : Int32) (mo_bits : Int32) (mo_interval : Int32) (mo_size : Int32) (mo_outs : Int32) (mo_part : Int32) (mo_parted : Int32) (mo_failed : Int32) (mo_counting : Int32) (mo_run : Int32) (mo_runMany : Int32) (mo_comes : Int32) (mo_at : Int32) (mo_taken : Int32) (mo_left : Int32) (mo_fault : Int32) (mo_draftCounts : Nat → Int32) (mo_draft : Nat → Int32) : va_W := [(a_mo, .inr (11, [.int mo_thrown, .int mo_width, .int mo_height, .int mo_many, .ref a_mo_h, .ref a_mo_v, .ref a_mo_across, .ref a_mo_down, .ref a_mo_ownAcross, .ref a_mo_ownDown, .ref a_mo_base, .int mo_unitsAcross, .int mo_unitsDown, .ref a_mo_coefficients, .ref a_mo_before0, .ref a_mo_draftCounts, .ref a_mo_draft, .int mo_drafts, .ref a_mo_words, .ref a_mo_lengths, .ref a_mo_codes, .ref a_mo_directOf, .ref a_mo_otherOf, .int mo_mask, .int mo_first, .int mo_last, .int mo_before, .int mo_bits, .int mo_interval, .ref a_mo_data, .int mo_size, .ref a_mo_out, .int mo_outs, .int mo_part, .int mo_parted, .int mo_failed, .int mo_counting, .ref a_mo_times, .ref a_mo_prediction, .int mo_run, .ref a_mo_runBits, .int mo_runMany, .ref a_mo_toCome, .int mo_comes, .int mo_at, .int mo_taken, .int mo_left, .int mo_fault, .ref a_mo_timesKept])), (a_mo_draftCounts, .inl (cI, 17, .inl mo_draftCounts)), (a_mo_draft, .inl (cI, 256, .inl mo_draft))]
def rm_M_isTable : Room := { frames := 0, cells := 0, slots := 0, locals := 0 }
set_option maxHeartbeats 1000000 in
set_option maxRecDepth 100000 in
theorem c_M_isTable (l : Launch) (dC : Nat → ClassId) (dI : Nat → Nat → Nat) (cI cB cS cT : ClassId) (N : Nat) (a_mo : Nat) (a_mo_draftCounts : Nat) (a_mo_draft : Nat) (a_mo_h : Nat) (a_mo_v : Nat) (a_mo_across : Nat) (a_mo_down : Nat) (a_mo_ownAcross : Nat) (a_mo_ownDown : Nat) (a_mo_base : Nat) (a_mo_coefficients : Nat) (a_mo_before0 : Nat) (a_mo_words : Nat) (a_mo_lengths : Nat) (a_mo_codes : Nat) (a_mo_directOf : Nat) (a_mo_otherOf : Nat) (a_mo_data : Nat) (a_mo_out : Nat) (a_mo_times : Nat) (a_mo_prediction : Nat) (a_mo_runBits : Nat) (a_mo_toCome : Nat) (a_mo_timesKept : Nat) (mo_thrown : Int32) (mo_width : Int32) (mo_height : Int32) (mo_many : Int32) (mo_unitsAcross : Int32) (mo_unitsDown : Int32) (mo_drafts : Int32) (mo_mask : Int32) (mo_first : Int32) (mo_last : Int32) (mo_before : Int32) (mo_bits : Int32) (mo_interval : Int32) (mo_size : Int32) (mo_outs : Int32) (mo_part : Int32) (mo_parted : Int32) (mo_failed : Int32) (mo_counting : Int32) (mo_run : Int32) (mo_runMany : Int32) (mo_comes : Int32) (mo_at : Int32) (mo_taken : Int32) (mo_left : Int32) (mo_fault : Int32) (mo_draftCounts : Nat → Int32) (mo_draft : Nat → Int32) (z : Int32) (hf : f_M_isTable N mo_drafts mo_draftCounts mo_draft = some z) : Met l y_m1002 ws_m1002 rm_M_isTable (gPreP (dC, dI) [.ref a_mo] (gT cI cB cS cT) (w_M_isTable cI cB cS cT a_mo a_mo_draftCounts a_mo_draft a_mo_h a_mo_v a_mo_across a_mo_down a_mo_ownAcross a_mo_ownDown a_mo_base a_mo_coefficients a_mo_before0 a_mo_words a_mo_lengths a_mo_codes a_mo_directOf a_mo_otherOf a_mo_data a_mo_out a_mo_times a_mo_prediction a_mo_runBits a_mo_toCome a_mo_timesKept mo_thrown mo_width mo_height mo_many mo_unitsAcross mo_unitsDown mo_drafts mo_mask mo_first mo_last mo_before mo_bits mo_interval mo_size mo_outs mo_part mo_parted mo_failed mo_counting mo_run mo_runMany mo_comes mo_at mo_taken mo_left mo_fault mo_draftCounts mo_draft)) (vp_Si (fun r => r = z)) 0 0 (fun _ => False) := by
  refine Met.ofW (cc := prog_14_method_9_code) (maxL := 7) (ret := (some .boolean)) (by decide) rfl ?_
  intro p e s m args below meth c s₁ B hml hv
  obtain ⟨hargs, hP, hKN⟩ := hv
  have hK := hKN.1
  have hx := B.exec
  have hb := B.bytes
  have hr := B.returns
  have hts := atoms_spec (ws := ws_m1002) B.pre
  have hown : s.vm.findClass "ScanCoderModel" = some m.cls := findClass_of_methodNamed B.named
  have hlocks := B.notSynchronized
  have k0 := hts _ (List.mem_cons_of_mem _ tw_849)
  have k1 := hts _ (List.mem_cons_of_mem _ tw_1003)
  have k2 := hts _ (List.mem_cons_of_mem _ tw_851)
  have k3 := hts _ (List.mem_cons_of_mem _ tw_850)
  have n0 : ∀ w ∈ u_ws "ScanCoderModel" T_11 49, w ∈ ws_m1002 := fun w h => List.mem_cons_of_mem _ (in_11 w h)
  have hl := lv_entry ([.ref a_mo]) (n := 7) (Nat.le_of_ble_eq_true rfl)
  have hfr : entryFrame m args 7 = F0 m 0 ((lg_sl ([.ref a_mo]) ++ List.replicate (7 - (lg_sl ([.ref a_mo])).length) Slot.unset).toArray) [] := by rw [hargs]; exact lg_entry_eq _ _ _
  rw [hfr]
  generalize (lg_sl ([.ref a_mo]) ++ List.replicate (7 - (lg_sl ([.ref a_mo])).length) Slot.unset).toArray = ls at hl ⊢
  have hl : lv_has ls 7 [(0, .ref a_mo)] := hl
  refine gen_Q (fun Q hQ => ?_)
  clear hfr
  have L10 : ∀  (z : Int32 × Int32), (GP p l e (headSpec ws_m1002 rm_M_isTable).room s m args below meth c Q 7 69 [(0, .ref a_mo), (1, .int z.1), (4, .int z.2)] []) → ∀ (k : Nat) (v1_10 : Int32) (v2_10 : Int64) (v4_10 : Int32) (v5_10 : Int32), f_M_isTable_L10 mo_draftCounts N k (v1_10, v2_10, v4_10, v5_10) = some z → GP p l e (headSpec ws_m1002 rm_M_isTable).room s m args below meth c Q 7 10 [(0, .ref a_mo), (1, .int v1_10), (2, .long v2_10), (4, .int v4_10), (5, .int v5_10)] [] := by
    intro  z hE0 k
    induction k with
    | zero =>
      intro v1_10 v2_10 v4_10 v5_10 hf
      exact (it_zero hf).elim
    | succ k ih =>
      intro v1_10 v2_10 v4_10 v5_10 hf ls hl
      have J10_61 : ∀ (v1_j61 : Int32) (v2_j61 : Int64) (s0_j61 : Int32), f_M_isTable_J10_61 N (f_M_isTable_L10 mo_draftCounts N k) v1_j61 v2_j61 s0_j61 v5_10 = some z → GP p l e (headSpec ws_m1002 rm_M_isTable).room s m args below meth c Q 7 61 [(0, .ref a_mo), (1, .int v1_j61), (2, .long v2_j61), (5, .int v5_10)] [.int s0_j61] := by
        intro v1_j61 v2_j61 s0_j61 hf ls hl
        unfold f_M_isTable_J10_61 at hf
        refine lv_istore (lv' := [(4, .int s0_j61), (0, .ref a_mo), (1, .int v1_j61), (2, .long v2_j61), (5, .int v5_10)]) hx hb d_m1002_61 hl (by decide) rfl (fun ls hl => ?_)
        refine lv_iinc (v := v5_10 + (1 : Int32)) (lv' := [(5, .int (v5_10 + (1 : Int32))), (4, .int s0_j61), (0, .ref a_mo), (1, .int v1_j61), (2, .long v2_j61)]) hx hb d_m1002_63 hl (k := 4) rfl rfl (by decide) rfl (fun ls hl => ?_)
        refine lv_goto (tgt := 10) hx hb d_m1002_66 (by decide) ?_
        exact ih v1_j61 v2_j61 s0_j61 (v5_10 + (1 : Int32)) hf ls (lv_sub hl [2, 3, 4, 1, 0] rfl)
      have J10_60 : ∀ (v1_j60 : Int32) (v2_j60 : Int64), f_M_isTable_J10_60 N (f_M_isTable_L10 mo_draftCounts N k) v1_j60 v2_j60 v5_10 = some z → GP p l e (headSpec ws_m1002 rm_M_isTable).room s m args below meth c Q 7 60 [(0, .ref a_mo), (1, .int v1_j60), (2, .long v2_j60), (5, .int v5_10)] [] := by
        intro v1_j60 v2_j60 hf ls hl
        unfold f_M_isTable_J10_60 at hf
        refine lv_iconst (v := (0 : Int32)) hx hb d_m1002_60 (by decide) ?_
        exact J10_61 v1_j60 v2_j60 (0 : Int32) hf ls hl
      have hf : f_M_isTable_L10b mo_draftCounts N (f_M_isTable_L10 mo_draftCounts N k) v1_10 v2_10 v4_10 v5_10 = some z := hf
      unfold f_M_isTable_L10b at hf
      refine lv_iload hx hb d_m1002_10 (lv_at hl 4 rfl) ?_
      refine lv_bipush (v := (16 : Int32)) hx hb d_m1002_12 (by decide) ?_
      refine lv_icmp_gt (tgt := 69) hx hb d_m1002_14 (by decide) (fun hc => ?_) (fun hc => ?_)
      · replace hf := (if_pos hc).symm.trans hf
        obtain rfl := Option.some.inj hf
        exact hE0  ls (lv_sub hl [0, 1, 3] rfl)
      · replace hf := (if_neg hc).symm.trans hf
        refine lv_iload_n hx hb d_m1002_17 rfl (lv_at hl 1 rfl) ?_
        refine lv_aload_n hx hb d_m1002_18 rfl (lv_at hl 0 rfl) ?_
        refine va_get (D := (dC, dI)) (ci := 11) (v := .ref a_mo_draftCounts) (C := "ScanCoderModel") (T := T_11) (N := 49) hx hb hts n0 hown hK hP 0 rfl rfl 15 (by decide) k0 (fun _ h9 => h9) rfl d_m1002_19 ?_
        refine lv_iload hx hb d_m1002_22 (lv_at hl 4 rfl) ?_
        obtain ⟨hi, hf⟩ := ob_if hf
        refine va_iald hx hb hK hP 1 0 rfl rfl hi d_m1002_24 ?_
        refine lv_iadd hx hb d_m1002_25 ?_
        refine lv_istore_n (lv' := [(1, .int (v1_10 + (mo_draftCounts v5_10.toNatClampNeg))), (0, .ref a_mo), (2, .long v2_10), (4, .int v4_10), (5, .int v5_10)]) hx hb d_m1002_26 rfl hl (by decide) rfl (fun ls hl => ?_)
        refine lv_ldc2 (v := (2 : Int64)) hx hb hown k1 d_m1002_27 ?_
        refine lv_lload_n hx hb d_m1002_30 rfl (lv_at hl 2 rfl) ?_
        refine lv_lmul hx hb d_m1002_31 ?_
        refine lv_aload_n hx hb d_m1002_32 rfl (lv_at hl 1 rfl) ?_
        refine va_get (D := (dC, dI)) (ci := 11) (v := .ref a_mo_draftCounts) (C := "ScanCoderModel") (T := T_11) (N := 49) hx hb hts n0 hown hK hP 0 rfl rfl 15 (by decide) k0 (fun _ h9 => h9) rfl d_m1002_33 ?_
        refine lv_iload hx hb d_m1002_36 (lv_at hl 4 rfl) ?_
        obtain ⟨hi, hf⟩ := ob_if hf
        refine va_iald hx hb hK hP 1 0 rfl rfl hi d_m1002_38 ?_
        refine lv_i2l hx hb d_m1002_39 rfl ?_
        refine lv_ladd hx hb d_m1002_40 ?_
        refine lv_lstore_n (lv' := [(2, .long (((2 : Int64) * v2_10) + ((mo_draftCounts v5_10.toNatClampNeg).toInt64))), (1, .int (v1_10 + (mo_draftCounts v5_10.toNatClampNeg))), (0, .ref a_mo), (4, .int v4_10), (5, .int v5_10)]) hx hb d_m1002_41 rfl hl (by decide) rfl (fun ls hl => ?_)
        refine lv_iload hx hb d_m1002_42 (lv_at hl 3 rfl) ?_
        refine lv_if_eq (tgt := 60) hx hb d_m1002_44 (by decide) (fun hc => ?_) (fun hc => ?_)
        · replace hf := (if_pos hc).symm.trans hf
          exact J10_60 (v1_10 + (mo_draftCounts v5_10.toNatClampNeg)) (((2 : Int64) * v2_10) + ((mo_draftCounts v5_10.toNatClampNeg).toInt64)) hf ls (lv_sub hl [2, 1, 0, 4] rfl)
        · replace hf := (if_neg hc).symm.trans hf
          refine lv_lload_n hx hb d_m1002_47 rfl (lv_at hl 0 rfl) ?_
          refine lv_lconst (v := (1 : Int64)) hx hb d_m1002_48 (by decide) ?_
          refine lv_iload hx hb d_m1002_49 (lv_at hl 4 rfl) ?_
          refine lv_lshl hx hb d_m1002_51 rfl ?_
          refine W.lcmp hx hb d_m1002_52 ?_
          refine lv_if_ge (tgt := 60) hx hb d_m1002_53 (by decide) (fun hc => ?_) (fun hc => ?_)
          · replace hf := (if_pos hc).symm.trans hf
            exact J10_60 (v1_10 + (mo_draftCounts v5_10.toNatClampNeg)) (((2 : Int64) * v2_10) + ((mo_draftCounts v5_10.toNatClampNeg).toInt64)) hf ls (lv_sub hl [2, 1, 0, 4] rfl)
          · replace hf := (if_neg hc).symm.trans hf
            refine lv_iconst (v := (1 : Int32)) hx hb d_m1002_56 (by decide) ?_
            refine lv_goto (tgt := 61) hx hb d_m1002_57 (by decide) ?_
            exact J10_61 (v1_10 + (mo_draftCounts v5_10.toNatClampNeg)) (((2 : Int64) * v2_10) + ((mo_draftCounts v5_10.toNatClampNeg).toInt64)) (1 : Int32) hf ls (lv_sub hl [2, 1, 0, 4] rfl)
  have L84 : ∀ (v5_72 : Int32) (v1_72 : Int32) (z : Int32), (GP p l e (headSpec ws_m1002 rm_M_isTable).room s m args below meth c Q 7 126 [(0, .ref a_mo), (1, .int v1_72), (4, .int z), (5, .int v5_72)] []) → ∀ (k : Nat) (v4_84 : Int32) (v6_84 : Int32), f_M_isTable_L84 v5_72 mo_draft N k (v4_84, v6_84) = some z → GP p l e (headSpec ws_m1002 rm_M_isTable).room s m args below meth c Q 7 84 [(0, .ref a_mo), (1, .int v1_72), (4, .int v4_84), (5, .int v5_72), (6, .int v6_84)] [] := by
    intro v5_72 v1_72 z hE0 k
    induction k with
    | zero =>
      intro v4_84 v6_84 hf
      exact (it_zero hf).elim
    | succ k ih =>
      intro v4_84 v6_84 hf ls hl
      have J84_118 : ∀ (s0_j118 : Int32), f_M_isTable_J84_118 N (f_M_isTable_L84 v5_72 mo_draft N k) s0_j118 v6_84 = some z → GP p l e (headSpec ws_m1002 rm_M_isTable).room s m args below meth c Q 7 118 [(0, .ref a_mo), (1, .int v1_72), (5, .int v5_72), (6, .int v6_84)] [.int s0_j118] := by
        intro s0_j118 hf ls hl
        unfold f_M_isTable_J84_118 at hf
        refine lv_istore (lv' := [(4, .int s0_j118), (0, .ref a_mo), (1, .int v1_72), (5, .int v5_72), (6, .int v6_84)]) hx hb d_m1002_118 hl (by decide) rfl (fun ls hl => ?_)
        refine lv_iinc (v := v6_84 + (1 : Int32)) (lv' := [(6, .int (v6_84 + (1 : Int32))), (4, .int s0_j118), (0, .ref a_mo), (1, .int v1_72), (5, .int v5_72)]) hx hb d_m1002_120 hl (k := 4) rfl rfl (by decide) rfl (fun ls hl => ?_)
        refine lv_goto (tgt := 84) hx hb d_m1002_123 (by decide) ?_
        exact ih s0_j118 (v6_84 + (1 : Int32)) hf ls (lv_sub hl [2, 3, 1, 4, 0] rfl)
      have J84_117 : ∀ (_ : Unit), f_M_isTable_J84_117 N (f_M_isTable_L84 v5_72 mo_draft N k) v6_84 = some z → GP p l e (headSpec ws_m1002 rm_M_isTable).room s m args below meth c Q 7 117 [(0, .ref a_mo), (1, .int v1_72), (5, .int v5_72), (6, .int v6_84)] [] := by
        intro _ hf ls hl
        unfold f_M_isTable_J84_117 at hf
        refine lv_iconst (v := (0 : Int32)) hx hb d_m1002_117 (by decide) ?_
        exact J84_118 (0 : Int32) hf ls hl
      have hf : f_M_isTable_L84b v5_72 mo_draft N (f_M_isTable_L84 v5_72 mo_draft N k) v4_84 v6_84 = some z := hf
      unfold f_M_isTable_L84b at hf
      refine lv_iload hx hb d_m1002_84 (lv_at hl 4 rfl) ?_
      refine lv_iload hx hb d_m1002_86 (lv_at hl 3 rfl) ?_
      refine lv_icmp_ge (tgt := 126) hx hb d_m1002_88 (by decide) (fun hc => ?_) (fun hc => ?_)
      · replace hf := (if_pos hc).symm.trans hf
        obtain rfl := Option.some.inj hf
        exact hE0  ls (lv_sub hl [0, 1, 2, 3] rfl)
      · replace hf := (if_neg hc).symm.trans hf
        refine lv_iload hx hb d_m1002_91 (lv_at hl 2 rfl) ?_
        refine lv_if_eq (tgt := 117) hx hb d_m1002_93 (by decide) (fun hc => ?_) (fun hc => ?_)
        · replace hf := (if_pos hc).symm.trans hf
          exact J84_117 () hf ls (lv_sub hl [0, 1, 3, 4] rfl)
        · replace hf := (if_neg hc).symm.trans hf
          refine lv_aload_n hx hb d_m1002_96 rfl (lv_at hl 0 rfl) ?_
          refine va_get (D := (dC, dI)) (ci := 11) (v := .ref a_mo_draft) (C := "ScanCoderModel") (T := T_11) (N := 49) hx hb hts n0 hown hK hP 0 rfl rfl 16 (by decide) k3 (fun _ h9 => h9) rfl d_m1002_97 ?_
          refine lv_iload hx hb d_m1002_100 (lv_at hl 3 rfl) ?_
          obtain ⟨hi, hf⟩ := ob_if hf
          refine va_iald hx hb hK hP 2 0 rfl rfl hi d_m1002_102 ?_
          refine lv_aload_n hx hb d_m1002_103 rfl (lv_at hl 0 rfl) ?_
          refine va_get (D := (dC, dI)) (ci := 11) (v := .ref a_mo_draft) (C := "ScanCoderModel") (T := T_11) (N := 49) hx hb hts n0 hown hK hP 0 rfl rfl 16 (by decide) k3 (fun _ h9 => h9) rfl d_m1002_104 ?_
          refine lv_iload hx hb d_m1002_107 (lv_at hl 4 rfl) ?_
          obtain ⟨hi, hf⟩ := ob_if hf
          refine va_iald hx hb hK hP 2 0 rfl rfl hi d_m1002_109 ?_
          refine lv_icmp_eq (tgt := 117) hx hb d_m1002_110 (by decide) (fun hc => ?_) (fun hc => ?_)
          · replace hf := (if_pos hc).symm.trans hf
            exact J84_117 () hf ls (lv_sub hl [0, 1, 3, 4] rfl)
          · replace hf := (if_neg hc).symm.trans hf
            refine lv_iconst (v := (1 : Int32)) hx hb d_m1002_113 (by decide) ?_
            refine lv_goto (tgt := 118) hx hb d_m1002_114 (by decide) ?_
            exact J84_118 (1 : Int32) hf ls (lv_sub hl [0, 1, 3, 4] rfl)
  have L72 : ∀ (v1_72 : Int32) (z : Int32), (GP p l e (headSpec ws_m1002 rm_M_isTable).room s m args below meth c Q 7 132 [(0, .ref a_mo), (1, .int v1_72), (4, .int z)] []) → ∀ (k : Nat) (v4_72 : Int32) (v5_72 : Int32), f_M_isTable_L72 mo_drafts mo_draft N k (v4_72, v5_72) = some z → GP p l e (headSpec ws_m1002 rm_M_isTable).room s m args below meth c Q 7 72 [(0, .ref a_mo), (1, .int v1_72), (4, .int v4_72), (5, .int v5_72)] [] := by
    intro v1_72 z hE0 k
    induction k with
    | zero =>
      intro v4_72 v5_72 hf
      exact (it_zero hf).elim
    | succ k ih =>
      intro v4_72 v5_72 hf ls hl
      have hf : f_M_isTable_L72b mo_drafts mo_draft N (f_M_isTable_L72 mo_drafts mo_draft N k) v4_72 v5_72 = some z := hf
      unfold f_M_isTable_L72b at hf
      refine lv_iload hx hb d_m1002_72 (lv_at hl 3 rfl) ?_
      refine lv_aload_n hx hb d_m1002_74 rfl (lv_at hl 0 rfl) ?_
      refine va_get (D := (dC, dI)) (ci := 11) (v := .int mo_drafts) (C := "ScanCoderModel") (T := T_11) (N := 49) hx hb hts n0 hown hK hP 0 rfl rfl 17 (by decide) k2 (fun _ h9 => h9) rfl d_m1002_75 ?_
      refine lv_icmp_ge (tgt := 132) hx hb d_m1002_78 (by decide) (fun hc => ?_) (fun hc => ?_)
      · replace hf := (if_pos hc).symm.trans hf
        obtain rfl := Option.some.inj hf
        exact hE0  ls (lv_sub hl [0, 1, 2] rfl)
      · replace hf := (if_neg hc).symm.trans hf
        refine lv_iconst (v := (0 : Int32)) hx hb d_m1002_81 (by decide) ?_
        refine lv_istore (lv' := [(6, .int (0 : Int32)), (0, .ref a_mo), (1, .int v1_72), (4, .int v4_72), (5, .int v5_72)]) hx hb d_m1002_82 hl (by decide) rfl (fun ls hl => ?_)
        obtain ⟨z2, hz2, hf⟩ := ob_bind hf
        refine L84 v5_72 v1_72 z2 ?_ N v4_72 (0 : Int32) hz2 ls (lv_sub hl [1, 2, 3, 4, 0] rfl)
        · intro ls hl
          refine lv_iinc (v := v5_72 + (1 : Int32)) (lv' := [(5, .int (v5_72 + (1 : Int32))), (0, .ref a_mo), (1, .int v1_72), (4, .int z2)]) hx hb d_m1002_126 hl (k := 3) rfl rfl (by decide) rfl (fun ls hl => ?_)
          refine lv_goto (tgt := 72) hx hb d_m1002_129 (by decide) ?_
          exact ih z2 (v5_72 + (1 : Int32)) hf ls (lv_sub hl [1, 2, 3, 0] rfl)
  unfold f_M_isTable at hf
  refine lv_iconst (v := (0 : Int32)) hx hb d_m1002_0 (by decide) ?_
  refine lv_istore_n (lv' := [(1, .int (0 : Int32)), (0, .ref a_mo)]) hx hb d_m1002_1 rfl hl (by decide) rfl (fun ls hl => ?_)
  refine lv_lconst (v := (0 : Int64)) hx hb d_m1002_2 (by decide) ?_
  refine lv_lstore_n (lv' := [(2, .long (0 : Int64)), (1, .int (0 : Int32)), (0, .ref a_mo)]) hx hb d_m1002_3 rfl hl (by decide) rfl (fun ls hl => ?_)
  refine lv_iconst (v := (1 : Int32)) hx hb d_m1002_4 (by decide) ?_
  refine lv_istore (lv' := [(4, .int (1 : Int32)), (2, .long (0 : Int64)), (1, .int (0 : Int32)), (0, .ref a_mo)]) hx hb d_m1002_5 hl (by decide) rfl (fun ls hl => ?_)
  refine lv_iconst (v := (1 : Int32)) hx hb d_m1002_7 (by decide) ?_
  refine lv_istore (lv' := [(5, .int (1 : Int32)), (4, .int (1 : Int32)), (2, .long (0 : Int64)), (1, .int (0 : Int32)), (0, .ref a_mo)]) hx hb d_m1002_8 hl (by decide) rfl (fun ls hl => ?_)
  obtain ⟨z1, hz1, hf⟩ := ob_bind hf
  refine L10  z1 ?_ N (0 : Int32) (0 : Int64) (1 : Int32) (1 : Int32) hz1 ls (lv_sub hl [4, 3, 2, 1, 0] rfl)
  · intro ls hl
    refine lv_iconst (v := (0 : Int32)) hx hb d_m1002_69 (by decide) ?_
    refine lv_istore (lv' := [(5, .int (0 : Int32)), (0, .ref a_mo), (1, .int z1.1), (4, .int z1.2)]) hx hb d_m1002_70 hl (by decide) rfl (fun ls hl => ?_)
    obtain ⟨z3, hz3, hf⟩ := ob_bind hf
    refine L72 z1.1 z3 ?_ N z1.2 (0 : Int32) hz3 ls (lv_sub hl [1, 2, 3, 0] rfl)
    · intro ls hl
      refine lv_iload hx hb d_m1002_132 (lv_at hl 2 rfl) ?_
      refine lv_if_eq (tgt := 149) hx hb d_m1002_134 (by decide) (fun hc => ?_) (fun hc => ?_)
      · replace hf := (if_pos hc).symm.trans hf
        refine lv_iconst (v := (0 : Int32)) hx hb d_m1002_149 (by decide) ?_
        obtain rfl := Option.some.inj hf
        subst hQ
        exact W.zret (v := (0 : Int32)) hx hb hr (by decide) (fun t ht hW => ⟨(0 : Int32), rfl, rfl, ht⟩) (fun q h => by cases h) d_m1002_150
      · replace hf := (if_neg hc).symm.trans hf
        refine lv_iload_n hx hb d_m1002_137 rfl (lv_at hl 1 rfl) ?_
        refine lv_aload_n hx hb d_m1002_138 rfl (lv_at hl 0 rfl) ?_
        refine va_get (D := (dC, dI)) (ci := 11) (v := .int mo_drafts) (C := "ScanCoderModel") (T := T_11) (N := 49) hx hb hts n0 hown hK hP 0 rfl rfl 17 (by decide) k2 (fun _ h9 => h9) rfl d_m1002_139 ?_
        refine lv_icmp_ne (tgt := 149) hx hb d_m1002_142 (by decide) (fun hc => ?_) (fun hc => ?_)
        · replace hf := (if_neg hc).symm.trans hf
          refine lv_iconst (v := (0 : Int32)) hx hb d_m1002_149 (by decide) ?_
          obtain rfl := Option.some.inj hf
          subst hQ
          exact W.zret (v := (0 : Int32)) hx hb hr (by decide) (fun t ht hW => ⟨(0 : Int32), rfl, rfl, ht⟩) (fun q h => by cases h) d_m1002_150
        · replace hf := (if_pos hc).symm.trans hf
          refine lv_iconst (v := (1 : Int32)) hx hb d_m1002_145 (by decide) ?_
          refine lv_goto (tgt := 150) hx hb d_m1002_146 (by decide) ?_
          obtain rfl := Option.some.inj hf
          subst hQ
          exact W.zret (v := (1 : Int32)) hx hb hr (by decide) (fun t ht hW => ⟨(1 : Int32), rfl, rfl, ht⟩) (fun q h => by cases h) d_m1002_150
def f_M_make_L26b (p0 : Int32) (N : Nat) (rec : (Int32 × (Nat → Int32)) → Option (Nat → Int32)) (v2_26 : Int32) (mo_lengths_26 : Nat → Int32) : Option (Nat → Int32) :=
  if (256 : Int32) ≤ v2_26 then
    some mo_lengths_26
  else
    if (((256 : Int32) * p0) + v2_26) < 0 ∨ 2048 ≤ (((256 : Int32) * p0) + v2_26).toNatClampNeg then none else
    rec (v2_26 + (1 : Int32), upd mo_lengths_26 (((256 : Int32) * p0) + v2_26).toNatClampNeg (0 : Int32))
def f_M_make_L26 (p0 : Int32) (N : Nat) (k : Nat) : (Int32 × (Nat → Int32)) → Option (Nat → Int32) := it (fun rec a => f_M_make_L26b p0 N rec a.1 a.2) k
def f_M_make_L73b (v4_59 : Int32) (mo_draftCounts : Nat → Int32) (p0 : Int32) (mo_draft : Nat → Int32) (N : Nat) (rec : (Int32 × Int32 × Int32 × (Nat → Int32) × (Nat → Int32)) → Option (Int32 × Int32 × (Nat → Int32) × (Nat → Int32))) (v2_73 : Int32) (v3_73 : Int32) (v5_73 : Int32) (mo_lengths_73 : Nat → Int32) (mo_codes_73 : Nat → Int32) : Option (Int32 × Int32 × (Nat → Int32) × (Nat → Int32)) :=
  if v4_59 < 0 ∨ 17 ≤ v4_59.toNatClampNeg then none else
  if (mo_draftCounts v4_59.toNatClampNeg) ≤ v5_73 then
    some (v2_73, v3_73, mo_lengths_73, mo_codes_73)
  else
    if v3_73 < 0 ∨ 256 ≤ v3_73.toNatClampNeg then none else
    if (((256 : Int32) * p0) + (mo_draft v3_73.toNatClampNeg)) < 0 ∨ 2048 ≤ (((256 : Int32) * p0) + (mo_draft v3_73.toNatClampNeg)).toNatClampNeg then none else
    if v3_73 < 0 ∨ 256 ≤ v3_73.toNatClampNeg then none else
    if (((256 : Int32) * p0) + (mo_draft v3_73.toNatClampNeg)) < 0 ∨ 2048 ≤ (((256 : Int32) * p0) + (mo_draft v3_73.toNatClampNeg)).toNatClampNeg then none else
    rec (v2_73 + (1 : Int32), v3_73 + (1 : Int32), v5_73 + (1 : Int32), upd mo_lengths_73 (((256 : Int32) * p0) + (mo_draft v3_73.toNatClampNeg)).toNatClampNeg v4_59, upd mo_codes_73 (((256 : Int32) * p0) + (mo_draft v3_73.toNatClampNeg)).toNatClampNeg v2_73)
def f_M_make_L73 (v4_59 : Int32) (mo_draftCounts : Nat → Int32) (p0 : Int32) (mo_draft : Nat → Int32) (N : Nat) (k : Nat) : (Int32 × Int32 × Int32 × (Nat → Int32) × (Nat → Int32)) → Option (Int32 × Int32 × (Nat → Int32) × (Nat → Int32)) := it (fun rec a => f_M_make_L73b v4_59 mo_draftCounts p0 mo_draft N rec a.1 a.2.1 a.2.2.1 a.2.2.2.1 a.2.2.2.2) k
def f_M_make_L59b (mo_draftCounts : Nat → Int32) (p0 : Int32) (mo_draft : Nat → Int32) (N : Nat) (rec : (Int32 × Int32 × Int32 × (Nat → Int32) × (Nat → Int32)) → Option ((Nat → Int32) × (Nat → Int32))) (v2_59 : Int32) (v3_59 : Int32) (v4_59 : Int32) (mo_lengths_59 : Nat → Int32) (mo_codes_59 : Nat → Int32) : Option ((Nat → Int32) × (Nat → Int32)) :=
  if (16 : Int32) < v4_59 then
    some (mo_lengths_59, mo_codes_59)
  else
    (f_M_make_L73 v4_59 mo_draftCounts p0 mo_draft N N ((2 : Int32) * v2_59, v3_59, (0 : Int32), mo_lengths_59, mo_codes_59)).bind fun z3 =>
      rec (z3.1, z3.2.1, v4_59 + (1 : Int32), z3.2.2.1, z3.2.2.2)
def f_M_make_L59 (mo_draftCounts : Nat → Int32) (p0 : Int32) (mo_draft : Nat → Int32) (N : Nat) (k : Nat) : (Int32 × Int32 × Int32 × (Nat → Int32) × (Nat → Int32)) → Option ((Nat → Int32) × (Nat → Int32)) := it (fun rec a => f_M_make_L59b mo_draftCounts p0 mo_draft N rec a.1 a.2.1 a.2.2.1 a.2.2.2.1 a.2.2.2.2) k
def f_M_make (N : Nat) (p0 : Int32) (mo_drafts : Int32) (mo_draftCounts : Nat → Int32) (mo_draft : Nat → Int32) (mo_words : Nat → Int32) (mo_lengths : Nat → Int32) (mo_codes : Nat → Int32) : Option (Int32 × Int32 × (Nat → Int32) × (Nat → Int32) × (Nat → Int32)) :=
  if p0 < 0 then
    some ((0 : Int32), (0 : Int32), mo_words, mo_lengths, mo_codes)
  else
    if (7 : Int32) < p0 then
      some ((0 : Int32), (0 : Int32), mo_words, mo_lengths, mo_codes)
    else
      (f_M_isTable N mo_drafts mo_draftCounts mo_draft).bind fun z1 =>
      if z1 = 0 then
        some ((0 : Int32), (0 : Int32), mo_words, mo_lengths, mo_codes)
      else
        (f_M_make_L26 p0 N N ((0 : Int32), mo_lengths)).bind fun z2 =>
          (f_M_make_L59 mo_draftCounts p0 mo_draft N N ((0 : Int32), (0 : Int32), (1 : Int32), z2, mo_codes)).bind fun z4 =>
          if p0 < 0 ∨ 8 ≤ p0.toNatClampNeg then none else
        some ((1 : Int32), (0 : Int32), upd mo_words p0.toNatClampNeg mo_drafts, z4.1, z4.2)
abbrev w_M_make (cI cB cS cT : ClassId) (a_mo : Nat) (a_mo_draftCounts : Nat) (a_mo_draft : Nat) (a_mo_words : Nat) (a_mo_lengths : Nat) (a_mo_codes : Nat) (a_mo_h : Nat) (a_mo_v : Nat) (a_mo_across : Nat) (a_mo_down : Nat) (a_mo_ownAcross : Nat) (a_mo_ownDown : Nat) (a_mo_base : Nat) (a_mo_coefficients : Nat) (a_mo_before0 : Nat) (a_mo_directOf : Nat) (a_mo_otherOf : Nat) (a_mo_data : Nat) (a_mo_out : Nat) (a_mo_times : Nat) (a_mo_prediction : Nat) (a_mo_runBits : Nat) (a_mo_toCome : Nat) (a_mo_timesKept : Nat) (mo_thrown : Int32) (mo_width : Int32) (mo_height : Int32) (mo_many : Int32) (mo_unitsAcross : Int32) (mo_unitsDown : Int32) (mo_drafts : Int32) (mo_mask : Int32) (mo_first : Int32) (mo_last : Int32) (mo_before : Int32) (mo_bits : Int32) (mo_interval : Int32) (mo_size : Int32) (mo_outs : Int32) (mo_part : Int32) (mo_parted : Int32) (mo_failed : Int32) (mo_counting : Int32) (mo_run : Int32) (mo_runMany : Int32) (mo_comes : Int32) (mo_at : Int32) (mo_taken : Int32) (mo_left : Int32) (mo_fault : Int32) (mo_draftCounts : Nat → Int32) (mo_draft : Nat → Int32) (mo_words : Nat → Int32) (mo_lengths : Nat → Int32) (mo_codes : Nat → Int32) : va_W := [(a_mo, .inr (11, [.int mo_thrown, .int mo_width, .int mo_height, .int mo_many, .ref a_mo_h, .ref a_mo_v, .ref a_mo_across, .ref a_mo_down, .ref a_mo_ownAcross, .ref a_mo_ownDown, .ref a_mo_base, .int mo_unitsAcross, .int mo_unitsDown, .ref a_mo_coefficients, .ref a_mo_before0, .ref a_mo_draftCounts, .ref a_mo_draft, .int mo_drafts, .ref a_mo_words, .ref a_mo_lengths, .ref a_mo_codes, .ref a_mo_directOf, .ref a_mo_otherOf, .int mo_mask, .int mo_first, .int mo_last, .int mo_before, .int mo_bits, .int mo_interval, .ref a_mo_data, .int mo_size, .ref a_mo_out, .int mo_outs, .int mo_part, .int mo_parted, .int mo_failed, .int mo_counting, .ref a_mo_times, .ref a_mo_prediction, .int mo_run, .ref a_mo_runBits, .int mo_runMany, .ref a_mo_toCome, .int mo_comes, .int mo_at, .int mo_taken, .int mo_left, .int mo_fault, .ref a_mo_timesKept])), (a_mo_draftCounts, .inl (cI, 17, .inl mo_draftCounts)), (a_mo_draft, .inl (cI, 256, .inl mo_draft)), (a_mo_words, .inl (cI, 8, .inl mo_words)), (a_mo_lengths, .inl (cI, 2048, .inl mo_lengths)), (a_mo_codes, .inl (cI, 2048, .inl mo_codes))]
def rm_M_make : Room := { frames := 1, cells := 0, slots := 0, locals := 26 }
set_option maxHeartbeats 1000000 in
set_option maxRecDepth 100000 in
theorem c_M_make (l : Launch) (dC : Nat → ClassId) (dI : Nat → Nat → Nat) (cI cB cS cT : ClassId) (N : Nat) (a_mo : Nat) (a_mo_draftCounts : Nat) (a_mo_draft : Nat) (a_mo_words : Nat) (a_mo_lengths : Nat) (a_mo_codes : Nat) (a_mo_h : Nat) (a_mo_v : Nat) (a_mo_across : Nat) (a_mo_down : Nat) (a_mo_ownAcross : Nat) (a_mo_ownDown : Nat) (a_mo_base : Nat) (a_mo_coefficients : Nat) (a_mo_before0 : Nat) (a_mo_directOf : Nat) (a_mo_otherOf : Nat) (a_mo_data : Nat) (a_mo_out : Nat) (a_mo_times : Nat) (a_mo_prediction : Nat) (a_mo_runBits : Nat) (a_mo_toCome : Nat) (a_mo_timesKept : Nat) (mo_thrown : Int32) (mo_width : Int32) (mo_height : Int32) (mo_many : Int32) (mo_unitsAcross : Int32) (mo_unitsDown : Int32) (mo_drafts : Int32) (mo_mask : Int32) (mo_first : Int32) (mo_last : Int32) (mo_before : Int32) (mo_bits : Int32) (mo_interval : Int32) (mo_size : Int32) (mo_outs : Int32) (mo_part : Int32) (mo_parted : Int32) (mo_failed : Int32) (mo_counting : Int32) (mo_run : Int32) (mo_runMany : Int32) (mo_comes : Int32) (mo_at : Int32) (mo_taken : Int32) (mo_left : Int32) (mo_fault : Int32) (mo_draftCounts : Nat → Int32) (mo_draft : Nat → Int32) (mo_words : Nat → Int32) (mo_lengths : Nat → Int32) (mo_codes : Nat → Int32) (p0 : Int32) (sz : Nat) (z : Int32 × Int32 × (Nat → Int32) × (Nat → Int32) × (Nat → Int32)) (hf : f_M_make N p0 mo_drafts mo_draftCounts mo_draft mo_words mo_lengths mo_codes = some z) : Met l y_m998 ws_m998 rm_M_make (gPre (dC, dI) [.ref a_mo, .int p0] (gT cI cB cS cT) (w_M_make cI cB cS cT a_mo a_mo_draftCounts a_mo_draft a_mo_words a_mo_lengths a_mo_codes a_mo_h a_mo_v a_mo_across a_mo_down a_mo_ownAcross a_mo_ownDown a_mo_base a_mo_coefficients a_mo_before0 a_mo_directOf a_mo_otherOf a_mo_data a_mo_out a_mo_times a_mo_prediction a_mo_runBits a_mo_toCome a_mo_timesKept mo_thrown mo_width mo_height mo_many mo_unitsAcross mo_unitsDown mo_drafts mo_mask mo_first mo_last mo_before mo_bits mo_interval mo_size mo_outs mo_part mo_parted mo_failed mo_counting mo_run mo_runMany mo_comes mo_at mo_taken mo_left mo_fault mo_draftCounts mo_draft mo_words mo_lengths mo_codes) sz) (gQi (dC, dI) (gT cI cB cS cT) z.1 (w_M_make cI cB cS cT a_mo a_mo_draftCounts a_mo_draft a_mo_words a_mo_lengths a_mo_codes a_mo_h a_mo_v a_mo_across a_mo_down a_mo_ownAcross a_mo_ownDown a_mo_base a_mo_coefficients a_mo_before0 a_mo_directOf a_mo_otherOf a_mo_data a_mo_out a_mo_times a_mo_prediction a_mo_runBits a_mo_toCome a_mo_timesKept mo_thrown mo_width mo_height mo_many mo_unitsAcross mo_unitsDown mo_drafts mo_mask mo_first mo_last mo_before mo_bits mo_interval mo_size mo_outs mo_part mo_parted mo_failed mo_counting mo_run mo_runMany mo_comes mo_at mo_taken mo_left mo_fault mo_draftCounts mo_draft mo_words mo_lengths mo_codes) (w_M_make cI cB cS cT a_mo a_mo_draftCounts a_mo_draft a_mo_words a_mo_lengths a_mo_codes a_mo_h a_mo_v a_mo_across a_mo_down a_mo_ownAcross a_mo_ownDown a_mo_base a_mo_coefficients a_mo_before0 a_mo_directOf a_mo_otherOf a_mo_data a_mo_out a_mo_times a_mo_prediction a_mo_runBits a_mo_toCome a_mo_timesKept z.2.1 mo_width mo_height mo_many mo_unitsAcross mo_unitsDown mo_drafts mo_mask mo_first mo_last mo_before mo_bits mo_interval mo_size mo_outs mo_part mo_parted mo_failed mo_counting mo_run mo_runMany mo_comes mo_at mo_taken mo_left mo_fault mo_draftCounts mo_draft z.2.2.1 z.2.2.2.1 z.2.2.2.2) sz) 0 0 (va_A (w_M_make cI cB cS cT a_mo a_mo_draftCounts a_mo_draft a_mo_words a_mo_lengths a_mo_codes a_mo_h a_mo_v a_mo_across a_mo_down a_mo_ownAcross a_mo_ownDown a_mo_base a_mo_coefficients a_mo_before0 a_mo_directOf a_mo_otherOf a_mo_data a_mo_out a_mo_times a_mo_prediction a_mo_runBits a_mo_toCome a_mo_timesKept mo_thrown mo_width mo_height mo_many mo_unitsAcross mo_unitsDown mo_drafts mo_mask mo_first mo_last mo_before mo_bits mo_interval mo_size mo_outs mo_part mo_parted mo_failed mo_counting mo_run mo_runMany mo_comes mo_at mo_taken mo_left mo_fault mo_draftCounts mo_draft mo_words mo_lengths mo_codes) sz) := by
  refine Met.ofW (cc := prog_14_method_10_code) (maxL := 6) (ret := (some .boolean)) (by decide) rfl ?_
  intro p e s m args below meth c s₁ B hml hv
  obtain ⟨hargs, hsz, hP, hKN, hD0⟩ := hv
  have hK := hKN.1
  have hx := B.exec
  have hb := B.bytes
  have hr := B.returns
  have hts := atoms_spec (ws := ws_m998) B.pre
  have hown : s.vm.findClass "ScanCoderModel" = some m.cls := findClass_of_methodNamed B.named
  have hlocks := B.notSynchronized
  have k0 := hts _ (List.mem_cons_of_mem _ tw_834)
  have k1 := hts _ (List.mem_cons_of_mem _ tw_853)
  have k2 := hts _ (List.mem_cons_of_mem _ tw_849)
  have k3 := hts _ (List.mem_cons_of_mem _ tw_850)
  have k4 := hts _ (List.mem_cons_of_mem _ tw_854)
  have k5 := hts _ (List.mem_cons_of_mem _ tw_852)
  have k6 := hts _ (List.mem_cons_of_mem _ tw_851)
  have n0 : ∀ w ∈ u_ws "ScanCoderModel" T_11 49, w ∈ ws_m998 := fun w h => List.mem_cons_of_mem _ (in_11 w h)
  subst hsz
  have hD := hD0.self (sz := s.heap.size)
  obtain ⟨A, hAe⟩ : ∃ A : Nat → Prop, va_A (w_M_make cI cB cS cT a_mo a_mo_draftCounts a_mo_draft a_mo_words a_mo_lengths a_mo_codes a_mo_h a_mo_v a_mo_across a_mo_down a_mo_ownAcross a_mo_ownDown a_mo_base a_mo_coefficients a_mo_before0 a_mo_directOf a_mo_otherOf a_mo_data a_mo_out a_mo_times a_mo_prediction a_mo_runBits a_mo_toCome a_mo_timesKept mo_thrown mo_width mo_height mo_many mo_unitsAcross mo_unitsDown mo_drafts mo_mask mo_first mo_last mo_before mo_bits mo_interval mo_size mo_outs mo_part mo_parted mo_failed mo_counting mo_run mo_runMany mo_comes mo_at mo_taken mo_left mo_fault mo_draftCounts mo_draft mo_words mo_lengths mo_codes) s.heap.size = A := ⟨_, rfl⟩
  rw [hAe] at hD
  have hA : ∀ q : Nat, s.heap.size ≤ q → A q := fun q h => by rw [← hAe]; exact Or.inr h
  have hS : va_S A s.heap s.heap [] := va_S.rf
  have hl := lv_entry ([.ref a_mo, .int p0]) (n := 6) (Nat.le_of_ble_eq_true rfl)
  have hfr : entryFrame m args 6 = F0 m 0 ((lg_sl ([.ref a_mo, .int p0]) ++ List.replicate (6 - (lg_sl ([.ref a_mo, .int p0])).length) Slot.unset).toArray) [] := by rw [hargs]; exact lg_entry_eq _ _ _
  rw [hfr]
  generalize (lg_sl ([.ref a_mo, .int p0]) ++ List.replicate (6 - (lg_sl ([.ref a_mo, .int p0])).length) Slot.unset).toArray = ls at hl ⊢
  have hl : lv_has ls 6 [(0, .ref a_mo), (1, .int p0)] := hl
  refine gen_Q (fun Q hQ => ?_)
  clear hfr
  have L26 : ∀ (mo_thrown_26 : Int32) (z : Nat → Int32), (GW (dC, dI) A p l e (headSpec ws_m998 rm_M_make).room s m args below meth c 0 0 Q 6 52 (w_M_make cI cB cS cT a_mo a_mo_draftCounts a_mo_draft a_mo_words a_mo_lengths a_mo_codes a_mo_h a_mo_v a_mo_across a_mo_down a_mo_ownAcross a_mo_ownDown a_mo_base a_mo_coefficients a_mo_before0 a_mo_directOf a_mo_otherOf a_mo_data a_mo_out a_mo_times a_mo_prediction a_mo_runBits a_mo_toCome a_mo_timesKept mo_thrown_26 mo_width mo_height mo_many mo_unitsAcross mo_unitsDown mo_drafts mo_mask mo_first mo_last mo_before mo_bits mo_interval mo_size mo_outs mo_part mo_parted mo_failed mo_counting mo_run mo_runMany mo_comes mo_at mo_taken mo_left mo_fault mo_draftCounts mo_draft mo_words z mo_codes) [(0, .ref a_mo), (1, .int p0)] []) → ∀ (k : Nat) (v2_26 : Int32) (mo_lengths_26 : Nat → Int32), f_M_make_L26 p0 N k (v2_26, mo_lengths_26) = some z → GW (dC, dI) A p l e (headSpec ws_m998 rm_M_make).room s m args below meth c 0 0 Q 6 26 (w_M_make cI cB cS cT a_mo a_mo_draftCounts a_mo_draft a_mo_words a_mo_lengths a_mo_codes a_mo_h a_mo_v a_mo_across a_mo_down a_mo_ownAcross a_mo_ownDown a_mo_base a_mo_coefficients a_mo_before0 a_mo_directOf a_mo_otherOf a_mo_data a_mo_out a_mo_times a_mo_prediction a_mo_runBits a_mo_toCome a_mo_timesKept mo_thrown_26 mo_width mo_height mo_many mo_unitsAcross mo_unitsDown mo_drafts mo_mask mo_first mo_last mo_before mo_bits mo_interval mo_size mo_outs mo_part mo_parted mo_failed mo_counting mo_run mo_runMany mo_comes mo_at mo_taken mo_left mo_fault mo_draftCounts mo_draft mo_words mo_lengths_26 mo_codes) [(0, .ref a_mo), (1, .int p0), (2, .int v2_26)] [] := by
    intro mo_thrown_26 z hE0 k
    induction k with
    | zero =>
      intro v2_26 mo_lengths_26 hf
      exact (it_zero hf).elim
    | succ k ih =>
      intro v2_26 mo_lengths_26 hf H locs ls hP hD hS hl
      have hf : f_M_make_L26b p0 N (f_M_make_L26 p0 N k) v2_26 mo_lengths_26 = some z := hf
      unfold f_M_make_L26b at hf
      refine lv_iload_n hx hb d_m998_26 rfl (lv_at hl 2 rfl) ?_
      refine lv_sipush (v := (256 : Int32)) hx hb d_m998_27 (by decide) ?_
      refine lv_icmp_ge (tgt := 52) hx hb d_m998_30 (by decide) (fun hc => ?_) (fun hc => ?_)
      · replace hf := (if_pos hc).symm.trans hf
        obtain rfl := Option.some.inj hf
        exact hE0  H locs ls hP hD hS (lv_sub hl [0, 1] rfl)
      · replace hf := (if_neg hc).symm.trans hf
        refine lv_aload_n hx hb d_m998_33 rfl (lv_at hl 0 rfl) ?_
        refine va_get (D := (dC, dI)) (ci := 11) (v := .ref a_mo_lengths) (C := "ScanCoderModel") (T := T_11) (N := 49) hx hb hts n0 hown hK hP 0 rfl rfl 19 (by decide) k1 (fun _ h9 => h9) rfl d_m998_34 ?_
        refine lv_sipush (v := (256 : Int32)) hx hb d_m998_37 (by decide) ?_
        refine lv_iload_n hx hb d_m998_40 rfl (lv_at hl 1 rfl) ?_
        refine lv_imul hx hb d_m998_41 ?_
        refine lv_iload_n hx hb d_m998_42 rfl (lv_at hl 2 rfl) ?_
        refine lv_iadd hx hb d_m998_43 ?_
        refine lv_iconst (v := (0 : Int32)) hx hb d_m998_44 (by decide) ?_
        obtain ⟨hi, hf⟩ := ob_if hf
        refine va_iast hx hb hK hP hD hS 4 0 rfl rfl hi d_m998_45 (fun H locs hP hD hS => ?_)
        have hP : va_P (dC, dI) vwCl (w_M_make cI cB cS cT a_mo a_mo_draftCounts a_mo_draft a_mo_words a_mo_lengths a_mo_codes a_mo_h a_mo_v a_mo_across a_mo_down a_mo_ownAcross a_mo_ownDown a_mo_base a_mo_coefficients a_mo_before0 a_mo_directOf a_mo_otherOf a_mo_data a_mo_out a_mo_times a_mo_prediction a_mo_runBits a_mo_toCome a_mo_timesKept mo_thrown_26 mo_width mo_height mo_many mo_unitsAcross mo_unitsDown mo_drafts mo_mask mo_first mo_last mo_before mo_bits mo_interval mo_size mo_outs mo_part mo_parted mo_failed mo_counting mo_run mo_runMany mo_comes mo_at mo_taken mo_left mo_fault mo_draftCounts mo_draft mo_words (upd mo_lengths_26 (((256 : Int32) * p0) + v2_26).toNatClampNeg (0 : Int32)) mo_codes) H := hP
        have hD : va_D A (w_M_make cI cB cS cT a_mo a_mo_draftCounts a_mo_draft a_mo_words a_mo_lengths a_mo_codes a_mo_h a_mo_v a_mo_across a_mo_down a_mo_ownAcross a_mo_ownDown a_mo_base a_mo_coefficients a_mo_before0 a_mo_directOf a_mo_otherOf a_mo_data a_mo_out a_mo_times a_mo_prediction a_mo_runBits a_mo_toCome a_mo_timesKept mo_thrown_26 mo_width mo_height mo_many mo_unitsAcross mo_unitsDown mo_drafts mo_mask mo_first mo_last mo_before mo_bits mo_interval mo_size mo_outs mo_part mo_parted mo_failed mo_counting mo_run mo_runMany mo_comes mo_at mo_taken mo_left mo_fault mo_draftCounts mo_draft mo_words (upd mo_lengths_26 (((256 : Int32) * p0) + v2_26).toNatClampNeg (0 : Int32)) mo_codes) := hD
        refine lv_iinc (v := v2_26 + (1 : Int32)) (lv' := [(2, .int (v2_26 + (1 : Int32))), (0, .ref a_mo), (1, .int p0)]) hx hb d_m998_46 hl (k := 2) rfl rfl (by decide) rfl (fun ls hl => ?_)
        refine lv_goto (tgt := 26) hx hb d_m998_49 (by decide) ?_
        exact ih (v2_26 + (1 : Int32)) (upd mo_lengths_26 (((256 : Int32) * p0) + v2_26).toNatClampNeg (0 : Int32)) hf H locs ls hP hD hS (lv_sub hl [1, 2, 0] rfl)
  have L73 : ∀ (v4_59 : Int32) (mo_thrown_59 : Int32) (z : Int32 × Int32 × (Nat → Int32) × (Nat → Int32)), (GW (dC, dI) A p l e (headSpec ws_m998 rm_M_make).room s m args below meth c 0 0 Q 6 134 (w_M_make cI cB cS cT a_mo a_mo_draftCounts a_mo_draft a_mo_words a_mo_lengths a_mo_codes a_mo_h a_mo_v a_mo_across a_mo_down a_mo_ownAcross a_mo_ownDown a_mo_base a_mo_coefficients a_mo_before0 a_mo_directOf a_mo_otherOf a_mo_data a_mo_out a_mo_times a_mo_prediction a_mo_runBits a_mo_toCome a_mo_timesKept mo_thrown_59 mo_width mo_height mo_many mo_unitsAcross mo_unitsDown mo_drafts mo_mask mo_first mo_last mo_before mo_bits mo_interval mo_size mo_outs mo_part mo_parted mo_failed mo_counting mo_run mo_runMany mo_comes mo_at mo_taken mo_left mo_fault mo_draftCounts mo_draft mo_words z.2.2.1 z.2.2.2) [(0, .ref a_mo), (1, .int p0), (2, .int z.1), (3, .int z.2.1), (4, .int v4_59)] []) → ∀ (k : Nat) (v2_73 : Int32) (v3_73 : Int32) (v5_73 : Int32) (mo_lengths_73 : Nat → Int32) (mo_codes_73 : Nat → Int32), f_M_make_L73 v4_59 mo_draftCounts p0 mo_draft N k (v2_73, v3_73, v5_73, mo_lengths_73, mo_codes_73) = some z → GW (dC, dI) A p l e (headSpec ws_m998 rm_M_make).room s m args below meth c 0 0 Q 6 73 (w_M_make cI cB cS cT a_mo a_mo_draftCounts a_mo_draft a_mo_words a_mo_lengths a_mo_codes a_mo_h a_mo_v a_mo_across a_mo_down a_mo_ownAcross a_mo_ownDown a_mo_base a_mo_coefficients a_mo_before0 a_mo_directOf a_mo_otherOf a_mo_data a_mo_out a_mo_times a_mo_prediction a_mo_runBits a_mo_toCome a_mo_timesKept mo_thrown_59 mo_width mo_height mo_many mo_unitsAcross mo_unitsDown mo_drafts mo_mask mo_first mo_last mo_before mo_bits mo_interval mo_size mo_outs mo_part mo_parted mo_failed mo_counting mo_run mo_runMany mo_comes mo_at mo_taken mo_left mo_fault mo_draftCounts mo_draft mo_words mo_lengths_73 mo_codes_73) [(0, .ref a_mo), (1, .int p0), (2, .int v2_73), (3, .int v3_73), (4, .int v4_59), (5, .int v5_73)] [] := by
    intro v4_59 mo_thrown_59 z hE0 k
    induction k with
    | zero =>
      intro v2_73 v3_73 v5_73 mo_lengths_73 mo_codes_73 hf
      exact (it_zero hf).elim
    | succ k ih =>
      intro v2_73 v3_73 v5_73 mo_lengths_73 mo_codes_73 hf H locs ls hP hD hS hl
      have hf : f_M_make_L73b v4_59 mo_draftCounts p0 mo_draft N (f_M_make_L73 v4_59 mo_draftCounts p0 mo_draft N k) v2_73 v3_73 v5_73 mo_lengths_73 mo_codes_73 = some z := hf
      unfold f_M_make_L73b at hf
      refine lv_iload hx hb d_m998_73 (lv_at hl 5 rfl) ?_
      refine lv_aload_n hx hb d_m998_75 rfl (lv_at hl 0 rfl) ?_
      refine va_get (D := (dC, dI)) (ci := 11) (v := .ref a_mo_draftCounts) (C := "ScanCoderModel") (T := T_11) (N := 49) hx hb hts n0 hown hK hP 0 rfl rfl 15 (by decide) k2 (fun _ h9 => h9) rfl d_m998_76 ?_
      refine lv_iload hx hb d_m998_79 (lv_at hl 4 rfl) ?_
      obtain ⟨hi, hf⟩ := ob_if hf
      refine va_iald hx hb hK hP 1 0 rfl rfl hi d_m998_81 ?_
      refine lv_icmp_ge (tgt := 134) hx hb d_m998_82 (by decide) (fun hc => ?_) (fun hc => ?_)
      · replace hf := (if_pos hc).symm.trans hf
        obtain rfl := Option.some.inj hf
        exact hE0  H locs ls hP hD hS (lv_sub hl [0, 1, 2, 3, 4] rfl)
      · replace hf := (if_neg hc).symm.trans hf
        refine lv_aload_n hx hb d_m998_85 rfl (lv_at hl 0 rfl) ?_
        refine va_get (D := (dC, dI)) (ci := 11) (v := .ref a_mo_lengths) (C := "ScanCoderModel") (T := T_11) (N := 49) hx hb hts n0 hown hK hP 0 rfl rfl 19 (by decide) k1 (fun _ h9 => h9) rfl d_m998_86 ?_
        refine lv_sipush (v := (256 : Int32)) hx hb d_m998_89 (by decide) ?_
        refine lv_iload_n hx hb d_m998_92 rfl (lv_at hl 1 rfl) ?_
        refine lv_imul hx hb d_m998_93 ?_
        refine lv_aload_n hx hb d_m998_94 rfl (lv_at hl 0 rfl) ?_
        refine va_get (D := (dC, dI)) (ci := 11) (v := .ref a_mo_draft) (C := "ScanCoderModel") (T := T_11) (N := 49) hx hb hts n0 hown hK hP 0 rfl rfl 16 (by decide) k3 (fun _ h9 => h9) rfl d_m998_95 ?_
        refine lv_iload_n hx hb d_m998_98 rfl (lv_at hl 3 rfl) ?_
        obtain ⟨hi, hf⟩ := ob_if hf
        refine va_iald hx hb hK hP 2 0 rfl rfl hi d_m998_99 ?_
        refine lv_iadd hx hb d_m998_100 ?_
        refine lv_iload hx hb d_m998_101 (lv_at hl 4 rfl) ?_
        obtain ⟨hi, hf⟩ := ob_if hf
        refine va_iast hx hb hK hP hD hS 4 0 rfl rfl hi d_m998_103 (fun H locs hP hD hS => ?_)
        have hP : va_P (dC, dI) vwCl (w_M_make cI cB cS cT a_mo a_mo_draftCounts a_mo_draft a_mo_words a_mo_lengths a_mo_codes a_mo_h a_mo_v a_mo_across a_mo_down a_mo_ownAcross a_mo_ownDown a_mo_base a_mo_coefficients a_mo_before0 a_mo_directOf a_mo_otherOf a_mo_data a_mo_out a_mo_times a_mo_prediction a_mo_runBits a_mo_toCome a_mo_timesKept mo_thrown_59 mo_width mo_height mo_many mo_unitsAcross mo_unitsDown mo_drafts mo_mask mo_first mo_last mo_before mo_bits mo_interval mo_size mo_outs mo_part mo_parted mo_failed mo_counting mo_run mo_runMany mo_comes mo_at mo_taken mo_left mo_fault mo_draftCounts mo_draft mo_words (upd mo_lengths_73 (((256 : Int32) * p0) + (mo_draft v3_73.toNatClampNeg)).toNatClampNeg v4_59) mo_codes_73) H := hP
        have hD : va_D A (w_M_make cI cB cS cT a_mo a_mo_draftCounts a_mo_draft a_mo_words a_mo_lengths a_mo_codes a_mo_h a_mo_v a_mo_across a_mo_down a_mo_ownAcross a_mo_ownDown a_mo_base a_mo_coefficients a_mo_before0 a_mo_directOf a_mo_otherOf a_mo_data a_mo_out a_mo_times a_mo_prediction a_mo_runBits a_mo_toCome a_mo_timesKept mo_thrown_59 mo_width mo_height mo_many mo_unitsAcross mo_unitsDown mo_drafts mo_mask mo_first mo_last mo_before mo_bits mo_interval mo_size mo_outs mo_part mo_parted mo_failed mo_counting mo_run mo_runMany mo_comes mo_at mo_taken mo_left mo_fault mo_draftCounts mo_draft mo_words (upd mo_lengths_73 (((256 : Int32) * p0) + (mo_draft v3_73.toNatClampNeg)).toNatClampNeg v4_59) mo_codes_73) := hD
        refine lv_aload_n hx hb d_m998_104 rfl (lv_at hl 0 rfl) ?_
        refine va_get (D := (dC, dI)) (ci := 11) (v := .ref a_mo_codes) (C := "ScanCoderModel") (T := T_11) (N := 49) hx hb hts n0 hown hK hP 0 rfl rfl 20 (by decide) k4 (fun _ h9 => h9) rfl d_m998_105 ?_
        refine lv_sipush (v := (256 : Int32)) hx hb d_m998_108 (by decide) ?_
        refine lv_iload_n hx hb d_m998_111 rfl (lv_at hl 1 rfl) ?_
        refine lv_imul hx hb d_m998_112 ?_
        refine lv_aload_n hx hb d_m998_113 rfl (lv_at hl 0 rfl) ?_
        refine va_get (D := (dC, dI)) (ci := 11) (v := .ref a_mo_draft) (C := "ScanCoderModel") (T := T_11) (N := 49) hx hb hts n0 hown hK hP 0 rfl rfl 16 (by decide) k3 (fun _ h9 => h9) rfl d_m998_114 ?_
        refine lv_iload_n hx hb d_m998_117 rfl (lv_at hl 3 rfl) ?_
        obtain ⟨hi, hf⟩ := ob_if hf
        refine va_iald hx hb hK hP 2 0 rfl rfl hi d_m998_118 ?_
        refine lv_iadd hx hb d_m998_119 ?_
        refine lv_iload_n hx hb d_m998_120 rfl (lv_at hl 2 rfl) ?_
        obtain ⟨hi, hf⟩ := ob_if hf
        refine va_iast hx hb hK hP hD hS 5 0 rfl rfl hi d_m998_121 (fun H locs hP hD hS => ?_)
        have hP : va_P (dC, dI) vwCl (w_M_make cI cB cS cT a_mo a_mo_draftCounts a_mo_draft a_mo_words a_mo_lengths a_mo_codes a_mo_h a_mo_v a_mo_across a_mo_down a_mo_ownAcross a_mo_ownDown a_mo_base a_mo_coefficients a_mo_before0 a_mo_directOf a_mo_otherOf a_mo_data a_mo_out a_mo_times a_mo_prediction a_mo_runBits a_mo_toCome a_mo_timesKept mo_thrown_59 mo_width mo_height mo_many mo_unitsAcross mo_unitsDown mo_drafts mo_mask mo_first mo_last mo_before mo_bits mo_interval mo_size mo_outs mo_part mo_parted mo_failed mo_counting mo_run mo_runMany mo_comes mo_at mo_taken mo_left mo_fault mo_draftCounts mo_draft mo_words (upd mo_lengths_73 (((256 : Int32) * p0) + (mo_draft v3_73.toNatClampNeg)).toNatClampNeg v4_59) (upd mo_codes_73 (((256 : Int32) * p0) + (mo_draft v3_73.toNatClampNeg)).toNatClampNeg v2_73)) H := hP
        have hD : va_D A (w_M_make cI cB cS cT a_mo a_mo_draftCounts a_mo_draft a_mo_words a_mo_lengths a_mo_codes a_mo_h a_mo_v a_mo_across a_mo_down a_mo_ownAcross a_mo_ownDown a_mo_base a_mo_coefficients a_mo_before0 a_mo_directOf a_mo_otherOf a_mo_data a_mo_out a_mo_times a_mo_prediction a_mo_runBits a_mo_toCome a_mo_timesKept mo_thrown_59 mo_width mo_height mo_many mo_unitsAcross mo_unitsDown mo_drafts mo_mask mo_first mo_last mo_before mo_bits mo_interval mo_size mo_outs mo_part mo_parted mo_failed mo_counting mo_run mo_runMany mo_comes mo_at mo_taken mo_left mo_fault mo_draftCounts mo_draft mo_words (upd mo_lengths_73 (((256 : Int32) * p0) + (mo_draft v3_73.toNatClampNeg)).toNatClampNeg v4_59) (upd mo_codes_73 (((256 : Int32) * p0) + (mo_draft v3_73.toNatClampNeg)).toNatClampNeg v2_73)) := hD
        refine lv_iinc (v := v2_73 + (1 : Int32)) (lv' := [(2, .int (v2_73 + (1 : Int32))), (0, .ref a_mo), (1, .int p0), (3, .int v3_73), (4, .int v4_59), (5, .int v5_73)]) hx hb d_m998_122 hl (k := 2) rfl rfl (by decide) rfl (fun ls hl => ?_)
        refine lv_iinc (v := v3_73 + (1 : Int32)) (lv' := [(3, .int (v3_73 + (1 : Int32))), (2, .int (v2_73 + (1 : Int32))), (0, .ref a_mo), (1, .int p0), (4, .int v4_59), (5, .int v5_73)]) hx hb d_m998_125 hl (k := 3) rfl rfl (by decide) rfl (fun ls hl => ?_)
        refine lv_iinc (v := v5_73 + (1 : Int32)) (lv' := [(5, .int (v5_73 + (1 : Int32))), (3, .int (v3_73 + (1 : Int32))), (2, .int (v2_73 + (1 : Int32))), (0, .ref a_mo), (1, .int p0), (4, .int v4_59)]) hx hb d_m998_128 hl (k := 5) rfl rfl (by decide) rfl (fun ls hl => ?_)
        refine lv_goto (tgt := 73) hx hb d_m998_131 (by decide) ?_
        exact ih (v2_73 + (1 : Int32)) (v3_73 + (1 : Int32)) (v5_73 + (1 : Int32)) (upd mo_lengths_73 (((256 : Int32) * p0) + (mo_draft v3_73.toNatClampNeg)).toNatClampNeg v4_59) (upd mo_codes_73 (((256 : Int32) * p0) + (mo_draft v3_73.toNatClampNeg)).toNatClampNeg v2_73) hf H locs ls hP hD hS (lv_sub hl [3, 4, 2, 1, 5, 0] rfl)
  have L59 : ∀ (mo_thrown_59 : Int32) (z : (Nat → Int32) × (Nat → Int32)), (GW (dC, dI) A p l e (headSpec ws_m998 rm_M_make).room s m args below meth c 0 0 Q 6 140 (w_M_make cI cB cS cT a_mo a_mo_draftCounts a_mo_draft a_mo_words a_mo_lengths a_mo_codes a_mo_h a_mo_v a_mo_across a_mo_down a_mo_ownAcross a_mo_ownDown a_mo_base a_mo_coefficients a_mo_before0 a_mo_directOf a_mo_otherOf a_mo_data a_mo_out a_mo_times a_mo_prediction a_mo_runBits a_mo_toCome a_mo_timesKept mo_thrown_59 mo_width mo_height mo_many mo_unitsAcross mo_unitsDown mo_drafts mo_mask mo_first mo_last mo_before mo_bits mo_interval mo_size mo_outs mo_part mo_parted mo_failed mo_counting mo_run mo_runMany mo_comes mo_at mo_taken mo_left mo_fault mo_draftCounts mo_draft mo_words z.1 z.2) [(0, .ref a_mo), (1, .int p0)] []) → ∀ (k : Nat) (v2_59 : Int32) (v3_59 : Int32) (v4_59 : Int32) (mo_lengths_59 : Nat → Int32) (mo_codes_59 : Nat → Int32), f_M_make_L59 mo_draftCounts p0 mo_draft N k (v2_59, v3_59, v4_59, mo_lengths_59, mo_codes_59) = some z → GW (dC, dI) A p l e (headSpec ws_m998 rm_M_make).room s m args below meth c 0 0 Q 6 59 (w_M_make cI cB cS cT a_mo a_mo_draftCounts a_mo_draft a_mo_words a_mo_lengths a_mo_codes a_mo_h a_mo_v a_mo_across a_mo_down a_mo_ownAcross a_mo_ownDown a_mo_base a_mo_coefficients a_mo_before0 a_mo_directOf a_mo_otherOf a_mo_data a_mo_out a_mo_times a_mo_prediction a_mo_runBits a_mo_toCome a_mo_timesKept mo_thrown_59 mo_width mo_height mo_many mo_unitsAcross mo_unitsDown mo_drafts mo_mask mo_first mo_last mo_before mo_bits mo_interval mo_size mo_outs mo_part mo_parted mo_failed mo_counting mo_run mo_runMany mo_comes mo_at mo_taken mo_left mo_fault mo_draftCounts mo_draft mo_words mo_lengths_59 mo_codes_59) [(0, .ref a_mo), (1, .int p0), (2, .int v2_59), (3, .int v3_59), (4, .int v4_59)] [] := by
    intro mo_thrown_59 z hE0 k
    induction k with
    | zero =>
      intro v2_59 v3_59 v4_59 mo_lengths_59 mo_codes_59 hf
      exact (it_zero hf).elim
    | succ k ih =>
      intro v2_59 v3_59 v4_59 mo_lengths_59 mo_codes_59 hf H locs ls hP hD hS hl
      have hf : f_M_make_L59b mo_draftCounts p0 mo_draft N (f_M_make_L59 mo_draftCounts p0 mo_draft N k) v2_59 v3_59 v4_59 mo_lengths_59 mo_codes_59 = some z := hf
      unfold f_M_make_L59b at hf
      refine lv_iload hx hb d_m998_59 (lv_at hl 4 rfl) ?_
      refine lv_bipush (v := (16 : Int32)) hx hb d_m998_61 (by decide) ?_
      refine lv_icmp_gt (tgt := 140) hx hb d_m998_63 (by decide) (fun hc => ?_) (fun hc => ?_)
      · replace hf := (if_pos hc).symm.trans hf
        obtain rfl := Option.some.inj hf
        exact hE0  H locs ls hP hD hS (lv_sub hl [0, 1] rfl)
      · replace hf := (if_neg hc).symm.trans hf
        refine lv_iconst (v := (2 : Int32)) hx hb d_m998_66 (by decide) ?_
        refine lv_iload_n hx hb d_m998_67 rfl (lv_at hl 2 rfl) ?_
        refine lv_imul hx hb d_m998_68 ?_
        refine lv_istore_n (lv' := [(2, .int ((2 : Int32) * v2_59)), (0, .ref a_mo), (1, .int p0), (3, .int v3_59), (4, .int v4_59)]) hx hb d_m998_69 rfl hl (by decide) rfl (fun ls hl => ?_)
        refine lv_iconst (v := (0 : Int32)) hx hb d_m998_70 (by decide) ?_
        refine lv_istore (lv' := [(5, .int (0 : Int32)), (2, .int ((2 : Int32) * v2_59)), (0, .ref a_mo), (1, .int p0), (3, .int v3_59), (4, .int v4_59)]) hx hb d_m998_71 hl (by decide) rfl (fun ls hl => ?_)
        obtain ⟨z3, hz3, hf⟩ := ob_bind hf
        refine L73 v4_59 mo_thrown_59 z3 ?_ N ((2 : Int32) * v2_59) v3_59 (0 : Int32) mo_lengths_59 mo_codes_59 hz3 H locs ls hP hD hS (lv_sub hl [2, 3, 1, 4, 5, 0] rfl)
        · intro H locs ls hP hD hS hl
          refine lv_iinc (v := v4_59 + (1 : Int32)) (lv' := [(4, .int (v4_59 + (1 : Int32))), (0, .ref a_mo), (1, .int p0), (2, .int z3.1), (3, .int z3.2.1)]) hx hb d_m998_134 hl (k := 4) rfl rfl (by decide) rfl (fun ls hl => ?_)
          refine lv_goto (tgt := 59) hx hb d_m998_137 (by decide) ?_
          exact ih z3.1 z3.2.1 (v4_59 + (1 : Int32)) z3.2.2.1 z3.2.2.2 hf H locs ls hP hD hS (lv_sub hl [1, 2, 3, 4, 0] rfl)
  have hgo : ∀ (H : Heap) (locs : List Loc), va_P (dC, dI) vwCl (w_M_make cI cB cS cT a_mo a_mo_draftCounts a_mo_draft a_mo_words a_mo_lengths a_mo_codes a_mo_h a_mo_v a_mo_across a_mo_down a_mo_ownAcross a_mo_ownDown a_mo_base a_mo_coefficients a_mo_before0 a_mo_directOf a_mo_otherOf a_mo_data a_mo_out a_mo_times a_mo_prediction a_mo_runBits a_mo_toCome a_mo_timesKept mo_thrown mo_width mo_height mo_many mo_unitsAcross mo_unitsDown mo_drafts mo_mask mo_first mo_last mo_before mo_bits mo_interval mo_size mo_outs mo_part mo_parted mo_failed mo_counting mo_run mo_runMany mo_comes mo_at mo_taken mo_left mo_fault mo_draftCounts mo_draft mo_words mo_lengths mo_codes) H → va_S A s.heap H locs → W p l e (headSpec ws_m998 rm_M_make).room s m args below meth c H locs 0 0 Q (F0 m 0 ls []) := by
    intro H locs hP hS
    unfold f_M_make at hf
    refine lv_aload_n hx hb d_m998_0 rfl (lv_at hl 0 rfl) ?_
    refine lv_iconst (v := (0 : Int32)) hx hb d_m998_1 (by decide) ?_
    refine va_put (D := (dC, dI)) (ci := 11) (v := .int (0 : Int32)) (ty := .int) (C := "ScanCoderModel") (T := T_11) (N := 49) hx hb hts n0 ty_11 tyok_11 nm_11 hown hK hP hD hS 0 rfl rfl 0 (by decide) k0 (fun _ h9 => h9) rfl (by decide +kernel) rfl rfl (Nat.le_of_ble_eq_true rfl) d_m998_2 (fun H locs hP hD hS => ?_)
    have hP : va_P (dC, dI) vwCl (w_M_make cI cB cS cT a_mo a_mo_draftCounts a_mo_draft a_mo_words a_mo_lengths a_mo_codes a_mo_h a_mo_v a_mo_across a_mo_down a_mo_ownAcross a_mo_ownDown a_mo_base a_mo_coefficients a_mo_before0 a_mo_directOf a_mo_otherOf a_mo_data a_mo_out a_mo_times a_mo_prediction a_mo_runBits a_mo_toCome a_mo_timesKept (0 : Int32) mo_width mo_height mo_many mo_unitsAcross mo_unitsDown mo_drafts mo_mask mo_first mo_last mo_before mo_bits mo_interval mo_size mo_outs mo_part mo_parted mo_failed mo_counting mo_run mo_runMany mo_comes mo_at mo_taken mo_left mo_fault mo_draftCounts mo_draft mo_words mo_lengths mo_codes) H := hP
    have hD : va_D A (w_M_make cI cB cS cT a_mo a_mo_draftCounts a_mo_draft a_mo_words a_mo_lengths a_mo_codes a_mo_h a_mo_v a_mo_across a_mo_down a_mo_ownAcross a_mo_ownDown a_mo_base a_mo_coefficients a_mo_before0 a_mo_directOf a_mo_otherOf a_mo_data a_mo_out a_mo_times a_mo_prediction a_mo_runBits a_mo_toCome a_mo_timesKept (0 : Int32) mo_width mo_height mo_many mo_unitsAcross mo_unitsDown mo_drafts mo_mask mo_first mo_last mo_before mo_bits mo_interval mo_size mo_outs mo_part mo_parted mo_failed mo_counting mo_run mo_runMany mo_comes mo_at mo_taken mo_left mo_fault mo_draftCounts mo_draft mo_words mo_lengths mo_codes) := hD
    refine lv_iload_n hx hb d_m998_5 rfl (lv_at hl 1 rfl) ?_
    refine lv_if_lt (tgt := 22) hx hb d_m998_6 (by decide) (fun hc => ?_) (fun hc => ?_)
    · replace hf := (if_pos hc).symm.trans hf
      refine lv_iconst (v := (0 : Int32)) hx hb d_m998_22 (by decide) ?_
      obtain rfl := Option.some.inj hf
      subst hQ
      subst hAe
      exact W.zret (v := (0 : Int32)) hx hb hr (by decide) (fun t ht hW => ⟨⟨(0 : Int32), (), rfl, rfl, by rw [ht]; exact hP, hD⟩, hS.F ht⟩) hS.2.2 d_m998_23
    · replace hf := (if_neg hc).symm.trans hf
      refine lv_iload_n hx hb d_m998_9 rfl (lv_at hl 1 rfl) ?_
      refine lv_bipush (v := (7 : Int32)) hx hb d_m998_10 (by decide) ?_
      refine lv_icmp_gt (tgt := 22) hx hb d_m998_12 (by decide) (fun hc => ?_) (fun hc => ?_)
      · replace hf := (if_pos hc).symm.trans hf
        refine lv_iconst (v := (0 : Int32)) hx hb d_m998_22 (by decide) ?_
        obtain rfl := Option.some.inj hf
        subst hQ
        subst hAe
        exact W.zret (v := (0 : Int32)) hx hb hr (by decide) (fun t ht hW => ⟨⟨(0 : Int32), (), rfl, rfl, by rw [ht]; exact hP, hD⟩, hS.F ht⟩) hS.2.2 d_m998_23
      · replace hf := (if_neg hc).symm.trans hf
        refine lv_aload_n hx hb d_m998_15 rfl (lv_at hl 0 rfl) ?_
        obtain ⟨z1, hz1, hf⟩ := ob_bind hf
        refine vp_callSi (g_run (va_runV (As := []) (rest := []) ⟨hx, hb, hml, hown, hts⟩ (c_M_isTable l dC dI cI cB cS cT N a_mo a_mo_draftCounts a_mo_draft a_mo_h a_mo_v a_mo_across a_mo_down a_mo_ownAcross a_mo_ownDown a_mo_base a_mo_coefficients a_mo_before0 a_mo_words a_mo_lengths a_mo_codes a_mo_directOf a_mo_otherOf a_mo_data a_mo_out a_mo_times a_mo_prediction a_mo_runBits a_mo_toCome a_mo_timesKept (0 : Int32) mo_width mo_height mo_many mo_unitsAcross mo_unitsDown mo_drafts mo_mask mo_first mo_last mo_before mo_bits mo_interval mo_size mo_outs mo_part mo_parted mo_failed mo_counting mo_run mo_runMany mo_comes mo_at mo_taken mo_left mo_fault mo_draftCounts mo_draft z1 hz1) ⟨(callB_of 0 hts (gi tw_1002 rfl) rfl rfl rfl (hts _ (List.mem_cons_of_mem _ tw_16)) (hts _ (List.mem_cons_of_mem _ tw_999)) (by decide +kernel) ⟨Nat.le_of_ble_eq_true rfl, Nat.le_of_ble_eq_true rfl⟩), hts _ (List.mem_cons_of_mem _ tw_1001), hts _ (List.mem_cons_of_mem _ ts_m1002)⟩ ⟨gp_blind, va_recv hK hP (ci := 11) (q0 := 0) rfl rfl, gp_at hKN (g_pm hP [0, 1, 2] rfl)⟩ rfl rfl hl.1 rfl (lv_room (Nat.le_of_ble_eq_true rfl)) d_m998_16 ⟨Nat.zero_le _, Nat.zero_le _⟩)) (fun r hrz1 => ?_)
        have hrz1 := hrz1.symm
        subst hrz1
        refine W.eq (g2 := F0 m 19 ls [.int z1]) rfl ?_
        refine lv_if_ne (tgt := 24) hx hb d_m998_19 (by decide) (fun hc => ?_) (fun hc => ?_)
        · replace hf := (if_neg hc).symm.trans hf
          refine lv_iconst (v := (0 : Int32)) hx hb d_m998_24 (by decide) ?_
          refine lv_istore_n (lv' := [(2, .int (0 : Int32)), (0, .ref a_mo), (1, .int p0)]) hx hb d_m998_25 rfl hl (by decide) rfl (fun ls hl => ?_)
          obtain ⟨z2, hz2, hf⟩ := ob_bind hf
          refine L26 (0 : Int32) z2 ?_ N (0 : Int32) mo_lengths hz2 H locs ls hP hD hS (lv_sub hl [1, 2, 0] rfl)
          · intro H locs ls hP hD hS hl
            refine lv_iconst (v := (0 : Int32)) hx hb d_m998_52 (by decide) ?_
            refine lv_istore_n (lv' := [(2, .int (0 : Int32)), (0, .ref a_mo), (1, .int p0)]) hx hb d_m998_53 rfl hl (by decide) rfl (fun ls hl => ?_)
            refine lv_iconst (v := (0 : Int32)) hx hb d_m998_54 (by decide) ?_
            refine lv_istore_n (lv' := [(3, .int (0 : Int32)), (2, .int (0 : Int32)), (0, .ref a_mo), (1, .int p0)]) hx hb d_m998_55 rfl hl (by decide) rfl (fun ls hl => ?_)
            refine lv_iconst (v := (1 : Int32)) hx hb d_m998_56 (by decide) ?_
            refine lv_istore (lv' := [(4, .int (1 : Int32)), (3, .int (0 : Int32)), (2, .int (0 : Int32)), (0, .ref a_mo), (1, .int p0)]) hx hb d_m998_57 hl (by decide) rfl (fun ls hl => ?_)
            obtain ⟨z4, hz4, hf⟩ := ob_bind hf
            refine L59 (0 : Int32) z4 ?_ N (0 : Int32) (0 : Int32) (1 : Int32) z2 mo_codes hz4 H locs ls hP hD hS (lv_sub hl [3, 4, 2, 1, 0] rfl)
            · intro H locs ls hP hD hS hl
              refine lv_aload_n hx hb d_m998_140 rfl (lv_at hl 0 rfl) ?_
              refine va_get (D := (dC, dI)) (ci := 11) (v := .ref a_mo_words) (C := "ScanCoderModel") (T := T_11) (N := 49) hx hb hts n0 hown hK hP 0 rfl rfl 18 (by decide) k5 (fun _ h9 => h9) rfl d_m998_141 ?_
              refine lv_iload_n hx hb d_m998_144 rfl (lv_at hl 1 rfl) ?_
              refine lv_aload_n hx hb d_m998_145 rfl (lv_at hl 0 rfl) ?_
              refine va_get (D := (dC, dI)) (ci := 11) (v := .int mo_drafts) (C := "ScanCoderModel") (T := T_11) (N := 49) hx hb hts n0 hown hK hP 0 rfl rfl 17 (by decide) k6 (fun _ h9 => h9) rfl d_m998_146 ?_
              obtain ⟨hi, hf⟩ := ob_if hf
              refine va_iast hx hb hK hP hD hS 3 0 rfl rfl hi d_m998_149 (fun H locs hP hD hS => ?_)
              have hP : va_P (dC, dI) vwCl (w_M_make cI cB cS cT a_mo a_mo_draftCounts a_mo_draft a_mo_words a_mo_lengths a_mo_codes a_mo_h a_mo_v a_mo_across a_mo_down a_mo_ownAcross a_mo_ownDown a_mo_base a_mo_coefficients a_mo_before0 a_mo_directOf a_mo_otherOf a_mo_data a_mo_out a_mo_times a_mo_prediction a_mo_runBits a_mo_toCome a_mo_timesKept (0 : Int32) mo_width mo_height mo_many mo_unitsAcross mo_unitsDown mo_drafts mo_mask mo_first mo_last mo_before mo_bits mo_interval mo_size mo_outs mo_part mo_parted mo_failed mo_counting mo_run mo_runMany mo_comes mo_at mo_taken mo_left mo_fault mo_draftCounts mo_draft (upd mo_words p0.toNatClampNeg mo_drafts) z4.1 z4.2) H := hP
              have hD : va_D A (w_M_make cI cB cS cT a_mo a_mo_draftCounts a_mo_draft a_mo_words a_mo_lengths a_mo_codes a_mo_h a_mo_v a_mo_across a_mo_down a_mo_ownAcross a_mo_ownDown a_mo_base a_mo_coefficients a_mo_before0 a_mo_directOf a_mo_otherOf a_mo_data a_mo_out a_mo_times a_mo_prediction a_mo_runBits a_mo_toCome a_mo_timesKept (0 : Int32) mo_width mo_height mo_many mo_unitsAcross mo_unitsDown mo_drafts mo_mask mo_first mo_last mo_before mo_bits mo_interval mo_size mo_outs mo_part mo_parted mo_failed mo_counting mo_run mo_runMany mo_comes mo_at mo_taken mo_left mo_fault mo_draftCounts mo_draft (upd mo_words p0.toNatClampNeg mo_drafts) z4.1 z4.2) := hD
              refine lv_iconst (v := (1 : Int32)) hx hb d_m998_150 (by decide) ?_
              obtain rfl := Option.some.inj hf
              subst hQ
              subst hAe
              exact W.zret (v := (1 : Int32)) hx hb hr (by decide) (fun t ht hW => ⟨⟨(1 : Int32), (), rfl, rfl, by rw [ht]; exact hP, hD⟩, hS.F ht⟩) hS.2.2 d_m998_151
        · replace hf := (if_pos hc).symm.trans hf
          refine lv_iconst (v := (0 : Int32)) hx hb d_m998_22 (by decide) ?_
          obtain rfl := Option.some.inj hf
          subst hQ
          subst hAe
          exact W.zret (v := (0 : Int32)) hx hb hr (by decide) (fun t ht hW => ⟨⟨(0 : Int32), (), rfl, rfl, by rw [ht]; exact hP, hD⟩, hS.F ht⟩) hS.2.2 d_m998_23
  exact hgo _ _ hP hS
def f_M_ones_L4b (p0 : Int32) (N : Nat) (rec : (Int32 × Int32) → Option (Int32)) (v1_4 : Int32) (v2_4 : Int32) : Option (Int32) :=
  if (4 : Int32) ≤ v2_4 then
    some v1_4
  else
    rec (v1_4 + ((p0 >>> (v2_4 &&& 31)) &&& (1 : Int32)), v2_4 + (1 : Int32))
def f_M_ones_L4 (p0 : Int32) (N : Nat) (k : Nat) : (Int32 × Int32) → Option (Int32) := it (fun rec a => f_M_ones_L4b p0 N rec a.1 a.2) k
def f_M_ones (N : Nat) (p0 : Int32) : Option (Int32) :=
  (f_M_ones_L4 p0 N N ((0 : Int32), (0 : Int32))).bind fun z1 =>
    some z1
abbrev w_M_ones (cI cB cS cT : ClassId)  : va_W := []
def rm_M_ones : Room := { frames := 0, cells := 0, slots := 0, locals := 0 }
set_option maxHeartbeats 1000000 in
set_option maxRecDepth 100000 in
theorem c_M_ones (l : Launch) (dC : Nat → ClassId) (dI : Nat → Nat → Nat) (cI cB cS cT : ClassId) (N : Nat) (p0 : Int32) (z : Int32) (hf : f_M_ones N p0 = some z) : Met l y_m1010 ws_m1010 rm_M_ones (gPreP (dC, dI) [.int p0] (gT cI cB cS cT) (w_M_ones cI cB cS cT)) (vp_Si (fun r => r = z)) 0 0 (fun _ => False) := by
  refine Met.ofW (cc := prog_14_method_11_code) (maxL := 3) (ret := (some .int)) (by decide) rfl ?_
  intro p e s m args below meth c s₁ B hml hv
  obtain ⟨hargs, hP, hKN⟩ := hv
  have hK := hKN.1
  have hx := B.exec
  have hb := B.bytes
  have hr := B.returns
  have hts := atoms_spec (ws := ws_m1010) B.pre
  have hown : s.vm.findClass "ScanCoderModel" = some m.cls := findClass_of_methodNamed B.named
  have hlocks := B.notSynchronized
  have hl := lv_entry ([.int p0]) (n := 3) (Nat.le_of_ble_eq_true rfl)
  have hfr : entryFrame m args 3 = F0 m 0 ((lg_sl ([.int p0]) ++ List.replicate (3 - (lg_sl ([.int p0])).length) Slot.unset).toArray) [] := by rw [hargs]; exact lg_entry_eq _ _ _
  rw [hfr]
  generalize (lg_sl ([.int p0]) ++ List.replicate (3 - (lg_sl ([.int p0])).length) Slot.unset).toArray = ls at hl ⊢
  have hl : lv_has ls 3 [(0, .int p0)] := hl
  refine gen_Q (fun Q hQ => ?_)
  clear hfr
  have L4 : ∀  (z : Int32), (GP p l e (headSpec ws_m1010 rm_M_ones).room s m args below meth c Q 3 23 [(1, .int z)] []) → ∀ (k : Nat) (v1_4 : Int32) (v2_4 : Int32), f_M_ones_L4 p0 N k (v1_4, v2_4) = some z → GP p l e (headSpec ws_m1010 rm_M_ones).room s m args below meth c Q 3 4 [(0, .int p0), (1, .int v1_4), (2, .int v2_4)] [] := by
    intro  z hE0 k
    induction k with
    | zero =>
      intro v1_4 v2_4 hf
      exact (it_zero hf).elim
    | succ k ih =>
      intro v1_4 v2_4 hf ls hl
      have hf : f_M_ones_L4b p0 N (f_M_ones_L4 p0 N k) v1_4 v2_4 = some z := hf
      unfold f_M_ones_L4b at hf
      refine lv_iload_n hx hb d_m1010_4 rfl (lv_at hl 2 rfl) ?_
      refine lv_iconst (v := (4 : Int32)) hx hb d_m1010_5 (by decide) ?_
      refine lv_icmp_ge (tgt := 23) hx hb d_m1010_6 (by decide) (fun hc => ?_) (fun hc => ?_)
      · replace hf := (if_pos hc).symm.trans hf
        obtain rfl := Option.some.inj hf
        exact hE0  ls (lv_sub hl [1] rfl)
      · replace hf := (if_neg hc).symm.trans hf
        refine lv_iload_n hx hb d_m1010_9 rfl (lv_at hl 1 rfl) ?_
        refine lv_iload_n hx hb d_m1010_10 rfl (lv_at hl 0 rfl) ?_
        refine lv_iload_n hx hb d_m1010_11 rfl (lv_at hl 2 rfl) ?_
        refine lv_ishr hx hb d_m1010_12 ?_
        refine lv_iconst (v := (1 : Int32)) hx hb d_m1010_13 (by decide) ?_
        refine lv_iand hx hb d_m1010_14 ?_
        refine lv_iadd hx hb d_m1010_15 ?_
        refine lv_istore_n (lv' := [(1, .int (v1_4 + ((p0 >>> (v2_4 &&& 31)) &&& (1 : Int32)))), (0, .int p0), (2, .int v2_4)]) hx hb d_m1010_16 rfl hl (by decide) rfl (fun ls hl => ?_)
        refine lv_iinc (v := v2_4 + (1 : Int32)) (lv' := [(2, .int (v2_4 + (1 : Int32))), (1, .int (v1_4 + ((p0 >>> (v2_4 &&& 31)) &&& (1 : Int32)))), (0, .int p0)]) hx hb d_m1010_17 hl (k := 2) rfl rfl (by decide) rfl (fun ls hl => ?_)
        refine lv_goto (tgt := 4) hx hb d_m1010_20 (by decide) ?_
        exact ih (v1_4 + ((p0 >>> (v2_4 &&& 31)) &&& (1 : Int32))) (v2_4 + (1 : Int32)) hf ls (lv_sub hl [2, 1, 0] rfl)
  unfold f_M_ones at hf
  refine lv_iconst (v := (0 : Int32)) hx hb d_m1010_0 (by decide) ?_
  refine lv_istore_n (lv' := [(1, .int (0 : Int32)), (0, .int p0)]) hx hb d_m1010_1 rfl hl (by decide) rfl (fun ls hl => ?_)
  refine lv_iconst (v := (0 : Int32)) hx hb d_m1010_2 (by decide) ?_
  refine lv_istore_n (lv' := [(2, .int (0 : Int32)), (1, .int (0 : Int32)), (0, .int p0)]) hx hb d_m1010_3 rfl hl (by decide) rfl (fun ls hl => ?_)
  obtain ⟨z1, hz1, hf⟩ := ob_bind hf
  refine L4  z1 ?_ N (0 : Int32) (0 : Int32) hz1 ls (lv_sub hl [2, 1, 0] rfl)
  · intro ls hl
    refine lv_iload_n hx hb d_m1010_23 rfl (lv_at hl 0 rfl) ?_
    obtain rfl := Option.some.inj hf
    subst hQ
    exact W.iret (v := z1) hx hb hr (fun t ht hW => ⟨z1, rfl, rfl, ht⟩) (fun q h => by cases h) d_m1010_24
def f_M_scan_J153 (N : Nat) (mo_thrown_j153 : Int32) (p0 : Int32) (p1 : Int32) (p2 : Int32) (p3 : Int32) (p4 : Int32) : Option (Int32 × Int32 × Int32 × Int32 × Int32 × Int32 × Int32) :=
  some ((1 : Int32), mo_thrown_j153, p0, p1, p2, p3, p4)
def f_M_scan_J129 (N : Nat) (v6_j129 : Int32) (mo_thrown_j129 : Int32) (mo_mask : Int32) (mo_first : Int32) (mo_last : Int32) (mo_before : Int32) (mo_bits : Int32) (v7_j129 : Int32) (v8_j129 : Int32) (s0_j129 : Int32) (p0 : Int32) (p1 : Int32) (p2 : Int32) (p3 : Int32) (p4 : Int32) : Option (Int32 × Int32 × Int32 × Int32 × Int32 × Int32 × Int32) :=
  if v6_j129 = 0 then
    some ((0 : Int32), mo_thrown_j129, mo_mask, mo_first, mo_last, mo_before, mo_bits)
  else
    if v7_j129 = 0 then
      if v8_j129 = 0 then
        if s0_j129 = 0 then
          some ((0 : Int32), mo_thrown_j129, mo_mask, mo_first, mo_last, mo_before, mo_bits)
        else
          f_M_scan_J153 N mo_thrown_j129 p0 p1 p2 p3 p4
      else
        f_M_scan_J153 N mo_thrown_j129 p0 p1 p2 p3 p4
    else
      f_M_scan_J153 N mo_thrown_j129 p0 p1 p2 p3 p4
def f_M_scan_J128 (N : Nat) (v6_j128 : Int32) (mo_thrown_j128 : Int32) (mo_mask : Int32) (mo_first : Int32) (mo_last : Int32) (mo_before : Int32) (mo_bits : Int32) (v7_j128 : Int32) (v8_j128 : Int32) (p0 : Int32) (p1 : Int32) (p2 : Int32) (p3 : Int32) (p4 : Int32) : Option (Int32 × Int32 × Int32 × Int32 × Int32 × Int32 × Int32) :=
  f_M_scan_J129 N v6_j128 mo_thrown_j128 mo_mask mo_first mo_last mo_before mo_bits v7_j128 v8_j128 (0 : Int32) p0 p1 p2 p3 p4
def f_M_scan_J92 (N : Nat) (p1 : Int32) (v6_j92 : Int32) (mo_thrown_j92 : Int32) (mo_mask : Int32) (mo_first : Int32) (mo_last : Int32) (mo_before : Int32) (mo_bits : Int32) (v7_j92 : Int32) (s0_j92 : Int32) (p0 : Int32) (p2 : Int32) (p3 : Int32) (p4 : Int32) : Option (Int32 × Int32 × Int32 × Int32 × Int32 × Int32 × Int32) :=
  if p1 < (1 : Int32) then
    f_M_scan_J128 N v6_j92 mo_thrown_j92 mo_mask mo_first mo_last mo_before mo_bits v7_j92 s0_j92 p0 p1 p2 p3 p4
  else
    if (63 : Int32) < p1 then
      f_M_scan_J128 N v6_j92 mo_thrown_j92 mo_mask mo_first mo_last mo_before mo_bits v7_j92 s0_j92 p0 p1 p2 p3 p4
    else
      if p2 < p1 then
        f_M_scan_J128 N v6_j92 mo_thrown_j92 mo_mask mo_first mo_last mo_before mo_bits v7_j92 s0_j92 p0 p1 p2 p3 p4
      else
        if (63 : Int32) < p2 then
          f_M_scan_J128 N v6_j92 mo_thrown_j92 mo_mask mo_first mo_last mo_before mo_bits v7_j92 s0_j92 p0 p1 p2 p3 p4
        else
          (f_M_ones N p0).bind fun z1 =>
          if z1 = (1 : Int32) then
            f_M_scan_J129 N v6_j92 mo_thrown_j92 mo_mask mo_first mo_last mo_before mo_bits v7_j92 s0_j92 (1 : Int32) p0 p1 p2 p3 p4
          else
            f_M_scan_J128 N v6_j92 mo_thrown_j92 mo_mask mo_first mo_last mo_before mo_bits v7_j92 s0_j92 p0 p1 p2 p3 p4
def f_M_scan_J91 (N : Nat) (p1 : Int32) (v6_j91 : Int32) (mo_thrown_j91 : Int32) (mo_mask : Int32) (mo_first : Int32) (mo_last : Int32) (mo_before : Int32) (mo_bits : Int32) (v7_j91 : Int32) (p0 : Int32) (p2 : Int32) (p3 : Int32) (p4 : Int32) : Option (Int32 × Int32 × Int32 × Int32 × Int32 × Int32 × Int32) :=
  f_M_scan_J92 N p1 v6_j91 mo_thrown_j91 mo_mask mo_first mo_last mo_before mo_bits v7_j91 (0 : Int32) p0 p2 p3 p4
def f_M_scan_J77 (N : Nat) (p1 : Int32) (p2 : Int32) (v6_j77 : Int32) (mo_thrown_j77 : Int32) (mo_mask : Int32) (mo_first : Int32) (mo_last : Int32) (mo_before : Int32) (mo_bits : Int32) (s0_j77 : Int32) (p0 : Int32) (p3 : Int32) (p4 : Int32) : Option (Int32 × Int32 × Int32 × Int32 × Int32 × Int32 × Int32) :=
  if p1 = 0 then
    if p2 = 0 then
      f_M_scan_J92 N p1 v6_j77 mo_thrown_j77 mo_mask mo_first mo_last mo_before mo_bits s0_j77 (1 : Int32) p0 p2 p3 p4
    else
      f_M_scan_J91 N p1 v6_j77 mo_thrown_j77 mo_mask mo_first mo_last mo_before mo_bits s0_j77 p0 p2 p3 p4
  else
    f_M_scan_J91 N p1 v6_j77 mo_thrown_j77 mo_mask mo_first mo_last mo_before mo_bits s0_j77 p0 p2 p3 p4
def f_M_scan_J76 (N : Nat) (p1 : Int32) (p2 : Int32) (v6_j76 : Int32) (mo_thrown_j76 : Int32) (mo_mask : Int32) (mo_first : Int32) (mo_last : Int32) (mo_before : Int32) (mo_bits : Int32) (p0 : Int32) (p3 : Int32) (p4 : Int32) : Option (Int32 × Int32 × Int32 × Int32 × Int32 × Int32 × Int32) :=
  f_M_scan_J77 N p1 p2 v6_j76 mo_thrown_j76 mo_mask mo_first mo_last mo_before mo_bits (0 : Int32) p0 p3 p4
def f_M_scan_J50 (N : Nat) (p1 : Int32) (p2 : Int32) (p3 : Int32) (p4 : Int32) (s0_j50 : Int32) (mo_thrown_j50 : Int32) (mo_mask : Int32) (mo_first : Int32) (mo_last : Int32) (mo_before : Int32) (mo_bits : Int32) (p0 : Int32) : Option (Int32 × Int32 × Int32 × Int32 × Int32 × Int32 × Int32) :=
  if p1 = 0 then
    if p2 = (63 : Int32) then
      if p3 = 0 then
        if p4 = 0 then
          f_M_scan_J77 N p1 p2 s0_j50 mo_thrown_j50 mo_mask mo_first mo_last mo_before mo_bits (1 : Int32) p0 p3 p4
        else
          f_M_scan_J76 N p1 p2 s0_j50 mo_thrown_j50 mo_mask mo_first mo_last mo_before mo_bits p0 p3 p4
      else
        f_M_scan_J76 N p1 p2 s0_j50 mo_thrown_j50 mo_mask mo_first mo_last mo_before mo_bits p0 p3 p4
    else
      f_M_scan_J76 N p1 p2 s0_j50 mo_thrown_j50 mo_mask mo_first mo_last mo_before mo_bits p0 p3 p4
  else
    f_M_scan_J76 N p1 p2 s0_j50 mo_thrown_j50 mo_mask mo_first mo_last mo_before mo_bits p0 p3 p4
def f_M_scan_J49 (N : Nat) (p1 : Int32) (p2 : Int32) (p3 : Int32) (p4 : Int32) (mo_thrown_j49 : Int32) (mo_mask : Int32) (mo_first : Int32) (mo_last : Int32) (mo_before : Int32) (mo_bits : Int32) (p0 : Int32) : Option (Int32 × Int32 × Int32 × Int32 × Int32 × Int32 × Int32) :=
  f_M_scan_J50 N p1 p2 p3 p4 (0 : Int32) mo_thrown_j49 mo_mask mo_first mo_last mo_before mo_bits p0
def f_M_scan_J45 (N : Nat) (p1 : Int32) (p2 : Int32) (p3 : Int32) (p4 : Int32) (mo_thrown_j45 : Int32) (mo_mask : Int32) (mo_first : Int32) (mo_last : Int32) (mo_before : Int32) (mo_bits : Int32) (p0 : Int32) : Option (Int32 × Int32 × Int32 × Int32 × Int32 × Int32 × Int32) :=
  f_M_scan_J50 N p1 p2 p3 p4 (1 : Int32) mo_thrown_j45 mo_mask mo_first mo_last mo_before mo_bits p0
def f_M_scan (N : Nat) (p0 : Int32) (p1 : Int32) (p2 : Int32) (p3 : Int32) (p4 : Int32) (mo_many : Int32) (mo_mask : Int32) (mo_first : Int32) (mo_last : Int32) (mo_before : Int32) (mo_bits : Int32) : Option (Int32 × Int32 × Int32 × Int32 × Int32 × Int32 × Int32) :=
  if p0 ≤ 0 then
    f_M_scan_J49 N p1 p2 p3 p4 (0 : Int32) mo_mask mo_first mo_last mo_before mo_bits p0
  else
    if ((1 : Int32) <<< (mo_many &&& 31)) ≤ p0 then
      f_M_scan_J49 N p1 p2 p3 p4 (0 : Int32) mo_mask mo_first mo_last mo_before mo_bits p0
    else
      if p4 < 0 then
        f_M_scan_J49 N p1 p2 p3 p4 (0 : Int32) mo_mask mo_first mo_last mo_before mo_bits p0
      else
        if (9 : Int32) < p4 then
          f_M_scan_J49 N p1 p2 p3 p4 (0 : Int32) mo_mask mo_first mo_last mo_before mo_bits p0
        else
          if p3 = 0 then
            f_M_scan_J45 N p1 p2 p3 p4 (0 : Int32) mo_mask mo_first mo_last mo_before mo_bits p0
          else
            if p3 = (p4 + (1 : Int32)) then
              f_M_scan_J45 N p1 p2 p3 p4 (0 : Int32) mo_mask mo_first mo_last mo_before mo_bits p0
            else
              f_M_scan_J49 N p1 p2 p3 p4 (0 : Int32) mo_mask mo_first mo_last mo_before mo_bits p0
abbrev w_M_scan (cI cB cS cT : ClassId) (a_mo : Nat) (a_mo_h : Nat) (a_mo_v : Nat) (a_mo_across : Nat) (a_mo_down : Nat) (a_mo_ownAcross : Nat) (a_mo_ownDown : Nat) (a_mo_base : Nat) (a_mo_coefficients : Nat) (a_mo_before0 : Nat) (a_mo_draftCounts : Nat) (a_mo_draft : Nat) (a_mo_words : Nat) (a_mo_lengths : Nat) (a_mo_codes : Nat) (a_mo_directOf : Nat) (a_mo_otherOf : Nat) (a_mo_data : Nat) (a_mo_out : Nat) (a_mo_times : Nat) (a_mo_prediction : Nat) (a_mo_runBits : Nat) (a_mo_toCome : Nat) (a_mo_timesKept : Nat) (mo_thrown : Int32) (mo_width : Int32) (mo_height : Int32) (mo_many : Int32) (mo_unitsAcross : Int32) (mo_unitsDown : Int32) (mo_drafts : Int32) (mo_mask : Int32) (mo_first : Int32) (mo_last : Int32) (mo_before : Int32) (mo_bits : Int32) (mo_interval : Int32) (mo_size : Int32) (mo_outs : Int32) (mo_part : Int32) (mo_parted : Int32) (mo_failed : Int32) (mo_counting : Int32) (mo_run : Int32) (mo_runMany : Int32) (mo_comes : Int32) (mo_at : Int32) (mo_taken : Int32) (mo_left : Int32) (mo_fault : Int32) : va_W := [(a_mo, .inr (11, [.int mo_thrown, .int mo_width, .int mo_height, .int mo_many, .ref a_mo_h, .ref a_mo_v, .ref a_mo_across, .ref a_mo_down, .ref a_mo_ownAcross, .ref a_mo_ownDown, .ref a_mo_base, .int mo_unitsAcross, .int mo_unitsDown, .ref a_mo_coefficients, .ref a_mo_before0, .ref a_mo_draftCounts, .ref a_mo_draft, .int mo_drafts, .ref a_mo_words, .ref a_mo_lengths, .ref a_mo_codes, .ref a_mo_directOf, .ref a_mo_otherOf, .int mo_mask, .int mo_first, .int mo_last, .int mo_before, .int mo_bits, .int mo_interval, .ref a_mo_data, .int mo_size, .ref a_mo_out, .int mo_outs, .int mo_part, .int mo_parted, .int mo_failed, .int mo_counting, .ref a_mo_times, .ref a_mo_prediction, .int mo_run, .ref a_mo_runBits, .int mo_runMany, .ref a_mo_toCome, .int mo_comes, .int mo_at, .int mo_taken, .int mo_left, .int mo_fault, .ref a_mo_timesKept]))]
def rm_M_scan : Room := { frames := 1, cells := 0, slots := 0, locals := 22 }
set_option maxHeartbeats 1000000 in
set_option maxRecDepth 100000 in
theorem c_M_scan (l : Launch) (dC : Nat → ClassId) (dI : Nat → Nat → Nat) (cI cB cS cT : ClassId) (N : Nat) (a_mo : Nat) (a_mo_h : Nat) (a_mo_v : Nat) (a_mo_across : Nat) (a_mo_down : Nat) (a_mo_ownAcross : Nat) (a_mo_ownDown : Nat) (a_mo_base : Nat) (a_mo_coefficients : Nat) (a_mo_before0 : Nat) (a_mo_draftCounts : Nat) (a_mo_draft : Nat) (a_mo_words : Nat) (a_mo_lengths : Nat) (a_mo_codes : Nat) (a_mo_directOf : Nat) (a_mo_otherOf : Nat) (a_mo_data : Nat) (a_mo_out : Nat) (a_mo_times : Nat) (a_mo_prediction : Nat) (a_mo_runBits : Nat) (a_mo_toCome : Nat) (a_mo_timesKept : Nat) (mo_thrown : Int32) (mo_width : Int32) (mo_height : Int32) (mo_many : Int32) (mo_unitsAcross : Int32) (mo_unitsDown : Int32) (mo_drafts : Int32) (mo_mask : Int32) (mo_first : Int32) (mo_last : Int32) (mo_before : Int32) (mo_bits : Int32) (mo_interval : Int32) (mo_size : Int32) (mo_outs : Int32) (mo_part : Int32) (mo_parted : Int32) (mo_failed : Int32) (mo_counting : Int32) (mo_run : Int32) (mo_runMany : Int32) (mo_comes : Int32) (mo_at : Int32) (mo_taken : Int32) (mo_left : Int32) (mo_fault : Int32) (p0 : Int32) (p1 : Int32) (p2 : Int32) (p3 : Int32) (p4 : Int32) (sz : Nat) (z : Int32 × Int32 × Int32 × Int32 × Int32 × Int32 × Int32) (hf : f_M_scan N p0 p1 p2 p3 p4 mo_many mo_mask mo_first mo_last mo_before mo_bits = some z) : Met l y_m1007 ws_m1007 rm_M_scan (gPre (dC, dI) [.ref a_mo, .int p0, .int p1, .int p2, .int p3, .int p4] (gT cI cB cS cT) (w_M_scan cI cB cS cT a_mo a_mo_h a_mo_v a_mo_across a_mo_down a_mo_ownAcross a_mo_ownDown a_mo_base a_mo_coefficients a_mo_before0 a_mo_draftCounts a_mo_draft a_mo_words a_mo_lengths a_mo_codes a_mo_directOf a_mo_otherOf a_mo_data a_mo_out a_mo_times a_mo_prediction a_mo_runBits a_mo_toCome a_mo_timesKept mo_thrown mo_width mo_height mo_many mo_unitsAcross mo_unitsDown mo_drafts mo_mask mo_first mo_last mo_before mo_bits mo_interval mo_size mo_outs mo_part mo_parted mo_failed mo_counting mo_run mo_runMany mo_comes mo_at mo_taken mo_left mo_fault) sz) (gQi (dC, dI) (gT cI cB cS cT) z.1 (w_M_scan cI cB cS cT a_mo a_mo_h a_mo_v a_mo_across a_mo_down a_mo_ownAcross a_mo_ownDown a_mo_base a_mo_coefficients a_mo_before0 a_mo_draftCounts a_mo_draft a_mo_words a_mo_lengths a_mo_codes a_mo_directOf a_mo_otherOf a_mo_data a_mo_out a_mo_times a_mo_prediction a_mo_runBits a_mo_toCome a_mo_timesKept mo_thrown mo_width mo_height mo_many mo_unitsAcross mo_unitsDown mo_drafts mo_mask mo_first mo_last mo_before mo_bits mo_interval mo_size mo_outs mo_part mo_parted mo_failed mo_counting mo_run mo_runMany mo_comes mo_at mo_taken mo_left mo_fault) (w_M_scan cI cB cS cT a_mo a_mo_h a_mo_v a_mo_across a_mo_down a_mo_ownAcross a_mo_ownDown a_mo_base a_mo_coefficients a_mo_before0 a_mo_draftCounts a_mo_draft a_mo_words a_mo_lengths a_mo_codes a_mo_directOf a_mo_otherOf a_mo_data a_mo_out a_mo_times a_mo_prediction a_mo_runBits a_mo_toCome a_mo_timesKept z.2.1 mo_width mo_height mo_many mo_unitsAcross mo_unitsDown mo_drafts z.2.2.1 z.2.2.2.1 z.2.2.2.2.1 z.2.2.2.2.2.1 z.2.2.2.2.2.2 mo_interval mo_size mo_outs mo_part mo_parted mo_failed mo_counting mo_run mo_runMany mo_comes mo_at mo_taken mo_left mo_fault) sz) 0 0 (va_A (w_M_scan cI cB cS cT a_mo a_mo_h a_mo_v a_mo_across a_mo_down a_mo_ownAcross a_mo_ownDown a_mo_base a_mo_coefficients a_mo_before0 a_mo_draftCounts a_mo_draft a_mo_words a_mo_lengths a_mo_codes a_mo_directOf a_mo_otherOf a_mo_data a_mo_out a_mo_times a_mo_prediction a_mo_runBits a_mo_toCome a_mo_timesKept mo_thrown mo_width mo_height mo_many mo_unitsAcross mo_unitsDown mo_drafts mo_mask mo_first mo_last mo_before mo_bits mo_interval mo_size mo_outs mo_part mo_parted mo_failed mo_counting mo_run mo_runMany mo_comes mo_at mo_taken mo_left mo_fault) sz) := by
  refine Met.ofW (cc := prog_14_method_12_code) (maxL := 10) (ret := (some .boolean)) (by decide) rfl ?_
  intro p e s m args below meth c s₁ B hml hv
  obtain ⟨hargs, hsz, hP, hKN, hD0⟩ := hv
  have hK := hKN.1
  have hx := B.exec
  have hb := B.bytes
  have hr := B.returns
  have hts := atoms_spec (ws := ws_m1007) B.pre
  have hown : s.vm.findClass "ScanCoderModel" = some m.cls := findClass_of_methodNamed B.named
  have hlocks := B.notSynchronized
  have k0 := hts _ (List.mem_cons_of_mem _ tw_834)
  have k1 := hts _ (List.mem_cons_of_mem _ tw_857)
  have k2 := hts _ (List.mem_cons_of_mem _ tw_858)
  have k3 := hts _ (List.mem_cons_of_mem _ tw_859)
  have k4 := hts _ (List.mem_cons_of_mem _ tw_860)
  have k5 := hts _ (List.mem_cons_of_mem _ tw_861)
  have k6 := hts _ (List.mem_cons_of_mem _ tw_837)
  have n0 : ∀ w ∈ u_ws "ScanCoderModel" T_11 49, w ∈ ws_m1007 := fun w h => List.mem_cons_of_mem _ (in_11 w h)
  subst hsz
  have hD := hD0.self (sz := s.heap.size)
  obtain ⟨A, hAe⟩ : ∃ A : Nat → Prop, va_A (w_M_scan cI cB cS cT a_mo a_mo_h a_mo_v a_mo_across a_mo_down a_mo_ownAcross a_mo_ownDown a_mo_base a_mo_coefficients a_mo_before0 a_mo_draftCounts a_mo_draft a_mo_words a_mo_lengths a_mo_codes a_mo_directOf a_mo_otherOf a_mo_data a_mo_out a_mo_times a_mo_prediction a_mo_runBits a_mo_toCome a_mo_timesKept mo_thrown mo_width mo_height mo_many mo_unitsAcross mo_unitsDown mo_drafts mo_mask mo_first mo_last mo_before mo_bits mo_interval mo_size mo_outs mo_part mo_parted mo_failed mo_counting mo_run mo_runMany mo_comes mo_at mo_taken mo_left mo_fault) s.heap.size = A := ⟨_, rfl⟩
  rw [hAe] at hD
  have hA : ∀ q : Nat, s.heap.size ≤ q → A q := fun q h => by rw [← hAe]; exact Or.inr h
  have hS : va_S A s.heap s.heap [] := va_S.rf
  have hl := lv_entry ([.ref a_mo, .int p0, .int p1, .int p2, .int p3, .int p4]) (n := 10) (Nat.le_of_ble_eq_true rfl)
  have hfr : entryFrame m args 10 = F0 m 0 ((lg_sl ([.ref a_mo, .int p0, .int p1, .int p2, .int p3, .int p4]) ++ List.replicate (10 - (lg_sl ([.ref a_mo, .int p0, .int p1, .int p2, .int p3, .int p4])).length) Slot.unset).toArray) [] := by rw [hargs]; exact lg_entry_eq _ _ _
  rw [hfr]
  generalize (lg_sl ([.ref a_mo, .int p0, .int p1, .int p2, .int p3, .int p4]) ++ List.replicate (10 - (lg_sl ([.ref a_mo, .int p0, .int p1, .int p2, .int p3, .int p4])).length) Slot.unset).toArray = ls at hl ⊢
  have hl : lv_has ls 10 [(0, .ref a_mo), (1, .int p0), (2, .int p1), (3, .int p2), (4, .int p3), (5, .int p4)] := hl
  refine gen_Q (fun Q hQ => ?_)
  clear hfr
  have J153 : ∀ (mo_thrown_j153 : Int32), f_M_scan_J153 N mo_thrown_j153 p0 p1 p2 p3 p4 = some z → GW (dC, dI) A p l e (headSpec ws_m1007 rm_M_scan).room s m args below meth c 0 0 Q 10 153 (w_M_scan cI cB cS cT a_mo a_mo_h a_mo_v a_mo_across a_mo_down a_mo_ownAcross a_mo_ownDown a_mo_base a_mo_coefficients a_mo_before0 a_mo_draftCounts a_mo_draft a_mo_words a_mo_lengths a_mo_codes a_mo_directOf a_mo_otherOf a_mo_data a_mo_out a_mo_times a_mo_prediction a_mo_runBits a_mo_toCome a_mo_timesKept mo_thrown_j153 mo_width mo_height mo_many mo_unitsAcross mo_unitsDown mo_drafts mo_mask mo_first mo_last mo_before mo_bits mo_interval mo_size mo_outs mo_part mo_parted mo_failed mo_counting mo_run mo_runMany mo_comes mo_at mo_taken mo_left mo_fault) [(0, .ref a_mo), (1, .int p0), (2, .int p1), (3, .int p2), (4, .int p3), (5, .int p4)] [] := by
    intro mo_thrown_j153 hf H locs ls hP hD hS hl
    unfold f_M_scan_J153 at hf
    refine lv_aload_n hx hb d_m1007_153 rfl (lv_at hl 0 rfl) ?_
    refine lv_iload_n hx hb d_m1007_154 rfl (lv_at hl 1 rfl) ?_
    refine va_put (D := (dC, dI)) (ci := 11) (v := .int p0) (ty := .int) (C := "ScanCoderModel") (T := T_11) (N := 49) hx hb hts n0 ty_11 tyok_11 nm_11 hown hK hP hD hS 0 rfl rfl 23 (by decide) k1 (fun _ h9 => h9) rfl (by decide +kernel) rfl rfl (Nat.le_of_ble_eq_true rfl) d_m1007_155 (fun H locs hP hD hS => ?_)
    have hP : va_P (dC, dI) vwCl (w_M_scan cI cB cS cT a_mo a_mo_h a_mo_v a_mo_across a_mo_down a_mo_ownAcross a_mo_ownDown a_mo_base a_mo_coefficients a_mo_before0 a_mo_draftCounts a_mo_draft a_mo_words a_mo_lengths a_mo_codes a_mo_directOf a_mo_otherOf a_mo_data a_mo_out a_mo_times a_mo_prediction a_mo_runBits a_mo_toCome a_mo_timesKept mo_thrown_j153 mo_width mo_height mo_many mo_unitsAcross mo_unitsDown mo_drafts p0 mo_first mo_last mo_before mo_bits mo_interval mo_size mo_outs mo_part mo_parted mo_failed mo_counting mo_run mo_runMany mo_comes mo_at mo_taken mo_left mo_fault) H := hP
    have hD : va_D A (w_M_scan cI cB cS cT a_mo a_mo_h a_mo_v a_mo_across a_mo_down a_mo_ownAcross a_mo_ownDown a_mo_base a_mo_coefficients a_mo_before0 a_mo_draftCounts a_mo_draft a_mo_words a_mo_lengths a_mo_codes a_mo_directOf a_mo_otherOf a_mo_data a_mo_out a_mo_times a_mo_prediction a_mo_runBits a_mo_toCome a_mo_timesKept mo_thrown_j153 mo_width mo_height mo_many mo_unitsAcross mo_unitsDown mo_drafts p0 mo_first mo_last mo_before mo_bits mo_interval mo_size mo_outs mo_part mo_parted mo_failed mo_counting mo_run mo_runMany mo_comes mo_at mo_taken mo_left mo_fault) := hD
    refine lv_aload_n hx hb d_m1007_158 rfl (lv_at hl 0 rfl) ?_
    refine lv_iload_n hx hb d_m1007_159 rfl (lv_at hl 2 rfl) ?_
    refine va_put (D := (dC, dI)) (ci := 11) (v := .int p1) (ty := .int) (C := "ScanCoderModel") (T := T_11) (N := 49) hx hb hts n0 ty_11 tyok_11 nm_11 hown hK hP hD hS 0 rfl rfl 24 (by decide) k2 (fun _ h9 => h9) rfl (by decide +kernel) rfl rfl (Nat.le_of_ble_eq_true rfl) d_m1007_160 (fun H locs hP hD hS => ?_)
    have hP : va_P (dC, dI) vwCl (w_M_scan cI cB cS cT a_mo a_mo_h a_mo_v a_mo_across a_mo_down a_mo_ownAcross a_mo_ownDown a_mo_base a_mo_coefficients a_mo_before0 a_mo_draftCounts a_mo_draft a_mo_words a_mo_lengths a_mo_codes a_mo_directOf a_mo_otherOf a_mo_data a_mo_out a_mo_times a_mo_prediction a_mo_runBits a_mo_toCome a_mo_timesKept mo_thrown_j153 mo_width mo_height mo_many mo_unitsAcross mo_unitsDown mo_drafts p0 p1 mo_last mo_before mo_bits mo_interval mo_size mo_outs mo_part mo_parted mo_failed mo_counting mo_run mo_runMany mo_comes mo_at mo_taken mo_left mo_fault) H := hP
    have hD : va_D A (w_M_scan cI cB cS cT a_mo a_mo_h a_mo_v a_mo_across a_mo_down a_mo_ownAcross a_mo_ownDown a_mo_base a_mo_coefficients a_mo_before0 a_mo_draftCounts a_mo_draft a_mo_words a_mo_lengths a_mo_codes a_mo_directOf a_mo_otherOf a_mo_data a_mo_out a_mo_times a_mo_prediction a_mo_runBits a_mo_toCome a_mo_timesKept mo_thrown_j153 mo_width mo_height mo_many mo_unitsAcross mo_unitsDown mo_drafts p0 p1 mo_last mo_before mo_bits mo_interval mo_size mo_outs mo_part mo_parted mo_failed mo_counting mo_run mo_runMany mo_comes mo_at mo_taken mo_left mo_fault) := hD
    refine lv_aload_n hx hb d_m1007_163 rfl (lv_at hl 0 rfl) ?_
    refine lv_iload_n hx hb d_m1007_164 rfl (lv_at hl 3 rfl) ?_
    refine va_put (D := (dC, dI)) (ci := 11) (v := .int p2) (ty := .int) (C := "ScanCoderModel") (T := T_11) (N := 49) hx hb hts n0 ty_11 tyok_11 nm_11 hown hK hP hD hS 0 rfl rfl 25 (by decide) k3 (fun _ h9 => h9) rfl (by decide +kernel) rfl rfl (Nat.le_of_ble_eq_true rfl) d_m1007_165 (fun H locs hP hD hS => ?_)
    have hP : va_P (dC, dI) vwCl (w_M_scan cI cB cS cT a_mo a_mo_h a_mo_v a_mo_across a_mo_down a_mo_ownAcross a_mo_ownDown a_mo_base a_mo_coefficients a_mo_before0 a_mo_draftCounts a_mo_draft a_mo_words a_mo_lengths a_mo_codes a_mo_directOf a_mo_otherOf a_mo_data a_mo_out a_mo_times a_mo_prediction a_mo_runBits a_mo_toCome a_mo_timesKept mo_thrown_j153 mo_width mo_height mo_many mo_unitsAcross mo_unitsDown mo_drafts p0 p1 p2 mo_before mo_bits mo_interval mo_size mo_outs mo_part mo_parted mo_failed mo_counting mo_run mo_runMany mo_comes mo_at mo_taken mo_left mo_fault) H := hP
    have hD : va_D A (w_M_scan cI cB cS cT a_mo a_mo_h a_mo_v a_mo_across a_mo_down a_mo_ownAcross a_mo_ownDown a_mo_base a_mo_coefficients a_mo_before0 a_mo_draftCounts a_mo_draft a_mo_words a_mo_lengths a_mo_codes a_mo_directOf a_mo_otherOf a_mo_data a_mo_out a_mo_times a_mo_prediction a_mo_runBits a_mo_toCome a_mo_timesKept mo_thrown_j153 mo_width mo_height mo_many mo_unitsAcross mo_unitsDown mo_drafts p0 p1 p2 mo_before mo_bits mo_interval mo_size mo_outs mo_part mo_parted mo_failed mo_counting mo_run mo_runMany mo_comes mo_at mo_taken mo_left mo_fault) := hD
    refine lv_aload_n hx hb d_m1007_168 rfl (lv_at hl 0 rfl) ?_
    refine lv_iload hx hb d_m1007_169 (lv_at hl 4 rfl) ?_
    refine va_put (D := (dC, dI)) (ci := 11) (v := .int p3) (ty := .int) (C := "ScanCoderModel") (T := T_11) (N := 49) hx hb hts n0 ty_11 tyok_11 nm_11 hown hK hP hD hS 0 rfl rfl 26 (by decide) k4 (fun _ h9 => h9) rfl (by decide +kernel) rfl rfl (Nat.le_of_ble_eq_true rfl) d_m1007_171 (fun H locs hP hD hS => ?_)
    have hP : va_P (dC, dI) vwCl (w_M_scan cI cB cS cT a_mo a_mo_h a_mo_v a_mo_across a_mo_down a_mo_ownAcross a_mo_ownDown a_mo_base a_mo_coefficients a_mo_before0 a_mo_draftCounts a_mo_draft a_mo_words a_mo_lengths a_mo_codes a_mo_directOf a_mo_otherOf a_mo_data a_mo_out a_mo_times a_mo_prediction a_mo_runBits a_mo_toCome a_mo_timesKept mo_thrown_j153 mo_width mo_height mo_many mo_unitsAcross mo_unitsDown mo_drafts p0 p1 p2 p3 mo_bits mo_interval mo_size mo_outs mo_part mo_parted mo_failed mo_counting mo_run mo_runMany mo_comes mo_at mo_taken mo_left mo_fault) H := hP
    have hD : va_D A (w_M_scan cI cB cS cT a_mo a_mo_h a_mo_v a_mo_across a_mo_down a_mo_ownAcross a_mo_ownDown a_mo_base a_mo_coefficients a_mo_before0 a_mo_draftCounts a_mo_draft a_mo_words a_mo_lengths a_mo_codes a_mo_directOf a_mo_otherOf a_mo_data a_mo_out a_mo_times a_mo_prediction a_mo_runBits a_mo_toCome a_mo_timesKept mo_thrown_j153 mo_width mo_height mo_many mo_unitsAcross mo_unitsDown mo_drafts p0 p1 p2 p3 mo_bits mo_interval mo_size mo_outs mo_part mo_parted mo_failed mo_counting mo_run mo_runMany mo_comes mo_at mo_taken mo_left mo_fault) := hD
    refine lv_aload_n hx hb d_m1007_174 rfl (lv_at hl 0 rfl) ?_
    refine lv_iload hx hb d_m1007_175 (lv_at hl 5 rfl) ?_
    refine va_put (D := (dC, dI)) (ci := 11) (v := .int p4) (ty := .int) (C := "ScanCoderModel") (T := T_11) (N := 49) hx hb hts n0 ty_11 tyok_11 nm_11 hown hK hP hD hS 0 rfl rfl 27 (by decide) k5 (fun _ h9 => h9) rfl (by decide +kernel) rfl rfl (Nat.le_of_ble_eq_true rfl) d_m1007_177 (fun H locs hP hD hS => ?_)
    have hP : va_P (dC, dI) vwCl (w_M_scan cI cB cS cT a_mo a_mo_h a_mo_v a_mo_across a_mo_down a_mo_ownAcross a_mo_ownDown a_mo_base a_mo_coefficients a_mo_before0 a_mo_draftCounts a_mo_draft a_mo_words a_mo_lengths a_mo_codes a_mo_directOf a_mo_otherOf a_mo_data a_mo_out a_mo_times a_mo_prediction a_mo_runBits a_mo_toCome a_mo_timesKept mo_thrown_j153 mo_width mo_height mo_many mo_unitsAcross mo_unitsDown mo_drafts p0 p1 p2 p3 p4 mo_interval mo_size mo_outs mo_part mo_parted mo_failed mo_counting mo_run mo_runMany mo_comes mo_at mo_taken mo_left mo_fault) H := hP
    have hD : va_D A (w_M_scan cI cB cS cT a_mo a_mo_h a_mo_v a_mo_across a_mo_down a_mo_ownAcross a_mo_ownDown a_mo_base a_mo_coefficients a_mo_before0 a_mo_draftCounts a_mo_draft a_mo_words a_mo_lengths a_mo_codes a_mo_directOf a_mo_otherOf a_mo_data a_mo_out a_mo_times a_mo_prediction a_mo_runBits a_mo_toCome a_mo_timesKept mo_thrown_j153 mo_width mo_height mo_many mo_unitsAcross mo_unitsDown mo_drafts p0 p1 p2 p3 p4 mo_interval mo_size mo_outs mo_part mo_parted mo_failed mo_counting mo_run mo_runMany mo_comes mo_at mo_taken mo_left mo_fault) := hD
    refine lv_iconst (v := (1 : Int32)) hx hb d_m1007_180 (by decide) ?_
    obtain rfl := Option.some.inj hf
    subst hQ
    subst hAe
    exact W.zret (v := (1 : Int32)) hx hb hr (by decide) (fun t ht hW => ⟨⟨(1 : Int32), (), rfl, rfl, by rw [ht]; exact hP, hD⟩, hS.F ht⟩) hS.2.2 d_m1007_181
  have J129 : ∀ (v6_j129 : Int32) (v7_j129 : Int32) (v8_j129 : Int32) (mo_thrown_j129 : Int32) (s0_j129 : Int32), f_M_scan_J129 N v6_j129 mo_thrown_j129 mo_mask mo_first mo_last mo_before mo_bits v7_j129 v8_j129 s0_j129 p0 p1 p2 p3 p4 = some z → GW (dC, dI) A p l e (headSpec ws_m1007 rm_M_scan).room s m args below meth c 0 0 Q 10 129 (w_M_scan cI cB cS cT a_mo a_mo_h a_mo_v a_mo_across a_mo_down a_mo_ownAcross a_mo_ownDown a_mo_base a_mo_coefficients a_mo_before0 a_mo_draftCounts a_mo_draft a_mo_words a_mo_lengths a_mo_codes a_mo_directOf a_mo_otherOf a_mo_data a_mo_out a_mo_times a_mo_prediction a_mo_runBits a_mo_toCome a_mo_timesKept mo_thrown_j129 mo_width mo_height mo_many mo_unitsAcross mo_unitsDown mo_drafts mo_mask mo_first mo_last mo_before mo_bits mo_interval mo_size mo_outs mo_part mo_parted mo_failed mo_counting mo_run mo_runMany mo_comes mo_at mo_taken mo_left mo_fault) [(0, .ref a_mo), (1, .int p0), (2, .int p1), (3, .int p2), (4, .int p3), (5, .int p4), (6, .int v6_j129), (7, .int v7_j129), (8, .int v8_j129)] [.int s0_j129] := by
    intro v6_j129 v7_j129 v8_j129 mo_thrown_j129 s0_j129 hf H locs ls hP hD hS hl
    unfold f_M_scan_J129 at hf
    refine lv_istore (lv' := [(9, .int s0_j129), (0, .ref a_mo), (1, .int p0), (2, .int p1), (3, .int p2), (4, .int p3), (5, .int p4), (6, .int v6_j129), (7, .int v7_j129), (8, .int v8_j129)]) hx hb d_m1007_129 hl (by decide) rfl (fun ls hl => ?_)
    refine lv_iload hx hb d_m1007_131 (lv_at hl 7 rfl) ?_
    refine lv_if_eq (tgt := 151) hx hb d_m1007_133 (by decide) (fun hc => ?_) (fun hc => ?_)
    · replace hf := (if_pos hc).symm.trans hf
      refine lv_iconst (v := (0 : Int32)) hx hb d_m1007_151 (by decide) ?_
      obtain rfl := Option.some.inj hf
      subst hQ
      subst hAe
      exact W.zret (v := (0 : Int32)) hx hb hr (by decide) (fun t ht hW => ⟨⟨(0 : Int32), (), rfl, rfl, by rw [ht]; exact hP, hD⟩, hS.F ht⟩) hS.2.2 d_m1007_152
    · replace hf := (if_neg hc).symm.trans hf
      refine lv_iload hx hb d_m1007_136 (lv_at hl 8 rfl) ?_
      refine lv_if_ne (tgt := 153) hx hb d_m1007_138 (by decide) (fun hc => ?_) (fun hc => ?_)
      · replace hf := (if_neg hc).symm.trans hf
        exact J153 mo_thrown_j129 hf H locs ls hP hD hS (lv_sub hl [1, 2, 3, 4, 5, 6] rfl)
      · replace hf := (if_pos hc).symm.trans hf
        refine lv_iload hx hb d_m1007_141 (lv_at hl 9 rfl) ?_
        refine lv_if_ne (tgt := 153) hx hb d_m1007_143 (by decide) (fun hc => ?_) (fun hc => ?_)
        · replace hf := (if_neg hc).symm.trans hf
          exact J153 mo_thrown_j129 hf H locs ls hP hD hS (lv_sub hl [1, 2, 3, 4, 5, 6] rfl)
        · replace hf := (if_pos hc).symm.trans hf
          refine lv_iload hx hb d_m1007_146 (lv_at hl 0 rfl) ?_
          refine lv_if_ne (tgt := 153) hx hb d_m1007_148 (by decide) (fun hc => ?_) (fun hc => ?_)
          · replace hf := (if_neg hc).symm.trans hf
            exact J153 mo_thrown_j129 hf H locs ls hP hD hS (lv_sub hl [1, 2, 3, 4, 5, 6] rfl)
          · replace hf := (if_pos hc).symm.trans hf
            refine lv_iconst (v := (0 : Int32)) hx hb d_m1007_151 (by decide) ?_
            obtain rfl := Option.some.inj hf
            subst hQ
            subst hAe
            exact W.zret (v := (0 : Int32)) hx hb hr (by decide) (fun t ht hW => ⟨⟨(0 : Int32), (), rfl, rfl, by rw [ht]; exact hP, hD⟩, hS.F ht⟩) hS.2.2 d_m1007_152
  have J128 : ∀ (v6_j128 : Int32) (v7_j128 : Int32) (v8_j128 : Int32) (mo_thrown_j128 : Int32), f_M_scan_J128 N v6_j128 mo_thrown_j128 mo_mask mo_first mo_last mo_before mo_bits v7_j128 v8_j128 p0 p1 p2 p3 p4 = some z → GW (dC, dI) A p l e (headSpec ws_m1007 rm_M_scan).room s m args below meth c 0 0 Q 10 128 (w_M_scan cI cB cS cT a_mo a_mo_h a_mo_v a_mo_across a_mo_down a_mo_ownAcross a_mo_ownDown a_mo_base a_mo_coefficients a_mo_before0 a_mo_draftCounts a_mo_draft a_mo_words a_mo_lengths a_mo_codes a_mo_directOf a_mo_otherOf a_mo_data a_mo_out a_mo_times a_mo_prediction a_mo_runBits a_mo_toCome a_mo_timesKept mo_thrown_j128 mo_width mo_height mo_many mo_unitsAcross mo_unitsDown mo_drafts mo_mask mo_first mo_last mo_before mo_bits mo_interval mo_size mo_outs mo_part mo_parted mo_failed mo_counting mo_run mo_runMany mo_comes mo_at mo_taken mo_left mo_fault) [(0, .ref a_mo), (1, .int p0), (2, .int p1), (3, .int p2), (4, .int p3), (5, .int p4), (6, .int v6_j128), (7, .int v7_j128), (8, .int v8_j128)] [] := by
    intro v6_j128 v7_j128 v8_j128 mo_thrown_j128 hf H locs ls hP hD hS hl
    unfold f_M_scan_J128 at hf
    refine lv_iconst (v := (0 : Int32)) hx hb d_m1007_128 (by decide) ?_
    exact J129 v6_j128 v7_j128 v8_j128 mo_thrown_j128 (0 : Int32) hf H locs ls hP hD hS hl
  have J92 : ∀ (v6_j92 : Int32) (v7_j92 : Int32) (mo_thrown_j92 : Int32) (s0_j92 : Int32), f_M_scan_J92 N p1 v6_j92 mo_thrown_j92 mo_mask mo_first mo_last mo_before mo_bits v7_j92 s0_j92 p0 p2 p3 p4 = some z → GW (dC, dI) A p l e (headSpec ws_m1007 rm_M_scan).room s m args below meth c 0 0 Q 10 92 (w_M_scan cI cB cS cT a_mo a_mo_h a_mo_v a_mo_across a_mo_down a_mo_ownAcross a_mo_ownDown a_mo_base a_mo_coefficients a_mo_before0 a_mo_draftCounts a_mo_draft a_mo_words a_mo_lengths a_mo_codes a_mo_directOf a_mo_otherOf a_mo_data a_mo_out a_mo_times a_mo_prediction a_mo_runBits a_mo_toCome a_mo_timesKept mo_thrown_j92 mo_width mo_height mo_many mo_unitsAcross mo_unitsDown mo_drafts mo_mask mo_first mo_last mo_before mo_bits mo_interval mo_size mo_outs mo_part mo_parted mo_failed mo_counting mo_run mo_runMany mo_comes mo_at mo_taken mo_left mo_fault) [(0, .ref a_mo), (1, .int p0), (2, .int p1), (3, .int p2), (4, .int p3), (5, .int p4), (6, .int v6_j92), (7, .int v7_j92)] [.int s0_j92] := by
    intro v6_j92 v7_j92 mo_thrown_j92 s0_j92 hf H locs ls hP hD hS hl
    unfold f_M_scan_J92 at hf
    refine lv_istore (lv' := [(8, .int s0_j92), (0, .ref a_mo), (1, .int p0), (2, .int p1), (3, .int p2), (4, .int p3), (5, .int p4), (6, .int v6_j92), (7, .int v7_j92)]) hx hb d_m1007_92 hl (by decide) rfl (fun ls hl => ?_)
    refine lv_iload_n hx hb d_m1007_94 rfl (lv_at hl 3 rfl) ?_
    refine lv_iconst (v := (1 : Int32)) hx hb d_m1007_95 (by decide) ?_
    refine lv_icmp_lt (tgt := 128) hx hb d_m1007_96 (by decide) (fun hc => ?_) (fun hc => ?_)
    · replace hf := (if_pos hc).symm.trans hf
      exact J128 v6_j92 v7_j92 s0_j92 mo_thrown_j92 hf H locs ls hP hD hS (lv_sub hl [1, 2, 3, 4, 5, 6, 7, 8, 0] rfl)
    · replace hf := (if_neg hc).symm.trans hf
      refine lv_iload_n hx hb d_m1007_99 rfl (lv_at hl 3 rfl) ?_
      refine lv_bipush (v := (63 : Int32)) hx hb d_m1007_100 (by decide) ?_
      refine lv_icmp_gt (tgt := 128) hx hb d_m1007_102 (by decide) (fun hc => ?_) (fun hc => ?_)
      · replace hf := (if_pos hc).symm.trans hf
        exact J128 v6_j92 v7_j92 s0_j92 mo_thrown_j92 hf H locs ls hP hD hS (lv_sub hl [1, 2, 3, 4, 5, 6, 7, 8, 0] rfl)
      · replace hf := (if_neg hc).symm.trans hf
        refine lv_iload_n hx hb d_m1007_105 rfl (lv_at hl 4 rfl) ?_
        refine lv_iload_n hx hb d_m1007_106 rfl (lv_at hl 3 rfl) ?_
        refine lv_icmp_lt (tgt := 128) hx hb d_m1007_107 (by decide) (fun hc => ?_) (fun hc => ?_)
        · replace hf := (if_pos hc).symm.trans hf
          exact J128 v6_j92 v7_j92 s0_j92 mo_thrown_j92 hf H locs ls hP hD hS (lv_sub hl [1, 2, 3, 4, 5, 6, 7, 8, 0] rfl)
        · replace hf := (if_neg hc).symm.trans hf
          refine lv_iload_n hx hb d_m1007_110 rfl (lv_at hl 4 rfl) ?_
          refine lv_bipush (v := (63 : Int32)) hx hb d_m1007_111 (by decide) ?_
          refine lv_icmp_gt (tgt := 128) hx hb d_m1007_113 (by decide) (fun hc => ?_) (fun hc => ?_)
          · replace hf := (if_pos hc).symm.trans hf
            exact J128 v6_j92 v7_j92 s0_j92 mo_thrown_j92 hf H locs ls hP hD hS (lv_sub hl [1, 2, 3, 4, 5, 6, 7, 8, 0] rfl)
          · replace hf := (if_neg hc).symm.trans hf
            refine lv_iload_n hx hb d_m1007_116 rfl (lv_at hl 2 rfl) ?_
            obtain ⟨z1, hz1, hf⟩ := ob_bind hf
            refine vp_callSi (g_run (va_runS (As := [.int p0]) (rest := []) ⟨hx, hb, hml, hown, hts⟩ (c_M_ones l dC dI cI cB cS cT N p0 z1 hz1) ⟨(callB_of 1 hts (gi tw_1010 rfl) rfl rfl rfl (hts _ (List.mem_cons_of_mem _ tw_16)) (hts _ (List.mem_cons_of_mem _ tw_1008)) (by decide +kernel) ⟨Nat.le_of_ble_eq_true rfl, Nat.le_of_ble_eq_true rfl⟩), hts _ (List.mem_cons_of_mem _ tw_1009)⟩ ⟨gp_blind, gp_at hKN (g_pm hP [] rfl)⟩ rfl rfl hl.1 rfl (lv_room (Nat.le_of_ble_eq_true rfl)) d_m1007_117 ⟨Nat.zero_le _, Nat.zero_le _⟩)) (fun r hrz1 => ?_)
            have hrz1 := hrz1.symm
            subst hrz1
            refine W.eq (g2 := F0 m 120 ls [.int z1]) rfl ?_
            refine lv_iconst (v := (1 : Int32)) hx hb d_m1007_120 (by decide) ?_
            refine lv_icmp_ne (tgt := 128) hx hb d_m1007_121 (by decide) (fun hc => ?_) (fun hc => ?_)
            · replace hf := (if_neg hc).symm.trans hf
              exact J128 v6_j92 v7_j92 s0_j92 mo_thrown_j92 hf H locs ls hP hD hS (lv_sub hl [1, 2, 3, 4, 5, 6, 7, 8, 0] rfl)
            · replace hf := (if_pos hc).symm.trans hf
              refine lv_iconst (v := (1 : Int32)) hx hb d_m1007_124 (by decide) ?_
              refine lv_goto (tgt := 129) hx hb d_m1007_125 (by decide) ?_
              exact J129 v6_j92 v7_j92 s0_j92 mo_thrown_j92 (1 : Int32) hf H locs ls hP hD hS (lv_sub hl [1, 2, 3, 4, 5, 6, 7, 8, 0] rfl)
  have J91 : ∀ (v6_j91 : Int32) (v7_j91 : Int32) (mo_thrown_j91 : Int32), f_M_scan_J91 N p1 v6_j91 mo_thrown_j91 mo_mask mo_first mo_last mo_before mo_bits v7_j91 p0 p2 p3 p4 = some z → GW (dC, dI) A p l e (headSpec ws_m1007 rm_M_scan).room s m args below meth c 0 0 Q 10 91 (w_M_scan cI cB cS cT a_mo a_mo_h a_mo_v a_mo_across a_mo_down a_mo_ownAcross a_mo_ownDown a_mo_base a_mo_coefficients a_mo_before0 a_mo_draftCounts a_mo_draft a_mo_words a_mo_lengths a_mo_codes a_mo_directOf a_mo_otherOf a_mo_data a_mo_out a_mo_times a_mo_prediction a_mo_runBits a_mo_toCome a_mo_timesKept mo_thrown_j91 mo_width mo_height mo_many mo_unitsAcross mo_unitsDown mo_drafts mo_mask mo_first mo_last mo_before mo_bits mo_interval mo_size mo_outs mo_part mo_parted mo_failed mo_counting mo_run mo_runMany mo_comes mo_at mo_taken mo_left mo_fault) [(0, .ref a_mo), (1, .int p0), (2, .int p1), (3, .int p2), (4, .int p3), (5, .int p4), (6, .int v6_j91), (7, .int v7_j91)] [] := by
    intro v6_j91 v7_j91 mo_thrown_j91 hf H locs ls hP hD hS hl
    unfold f_M_scan_J91 at hf
    refine lv_iconst (v := (0 : Int32)) hx hb d_m1007_91 (by decide) ?_
    exact J92 v6_j91 v7_j91 mo_thrown_j91 (0 : Int32) hf H locs ls hP hD hS hl
  have J77 : ∀ (v6_j77 : Int32) (mo_thrown_j77 : Int32) (s0_j77 : Int32), f_M_scan_J77 N p1 p2 v6_j77 mo_thrown_j77 mo_mask mo_first mo_last mo_before mo_bits s0_j77 p0 p3 p4 = some z → GW (dC, dI) A p l e (headSpec ws_m1007 rm_M_scan).room s m args below meth c 0 0 Q 10 77 (w_M_scan cI cB cS cT a_mo a_mo_h a_mo_v a_mo_across a_mo_down a_mo_ownAcross a_mo_ownDown a_mo_base a_mo_coefficients a_mo_before0 a_mo_draftCounts a_mo_draft a_mo_words a_mo_lengths a_mo_codes a_mo_directOf a_mo_otherOf a_mo_data a_mo_out a_mo_times a_mo_prediction a_mo_runBits a_mo_toCome a_mo_timesKept mo_thrown_j77 mo_width mo_height mo_many mo_unitsAcross mo_unitsDown mo_drafts mo_mask mo_first mo_last mo_before mo_bits mo_interval mo_size mo_outs mo_part mo_parted mo_failed mo_counting mo_run mo_runMany mo_comes mo_at mo_taken mo_left mo_fault) [(0, .ref a_mo), (1, .int p0), (2, .int p1), (3, .int p2), (4, .int p3), (5, .int p4), (6, .int v6_j77)] [.int s0_j77] := by
    intro v6_j77 mo_thrown_j77 s0_j77 hf H locs ls hP hD hS hl
    unfold f_M_scan_J77 at hf
    refine lv_istore (lv' := [(7, .int s0_j77), (0, .ref a_mo), (1, .int p0), (2, .int p1), (3, .int p2), (4, .int p3), (5, .int p4), (6, .int v6_j77)]) hx hb d_m1007_77 hl (by decide) rfl (fun ls hl => ?_)
    refine lv_iload_n hx hb d_m1007_79 rfl (lv_at hl 3 rfl) ?_
    refine lv_if_ne (tgt := 91) hx hb d_m1007_80 (by decide) (fun hc => ?_) (fun hc => ?_)
    · replace hf := (if_neg hc).symm.trans hf
      exact J91 v6_j77 s0_j77 mo_thrown_j77 hf H locs ls hP hD hS (lv_sub hl [1, 2, 3, 4, 5, 6, 7, 0] rfl)
    · replace hf := (if_pos hc).symm.trans hf
      refine lv_iload_n hx hb d_m1007_83 rfl (lv_at hl 4 rfl) ?_
      refine lv_if_ne (tgt := 91) hx hb d_m1007_84 (by decide) (fun hc => ?_) (fun hc => ?_)
      · replace hf := (if_neg hc).symm.trans hf
        exact J91 v6_j77 s0_j77 mo_thrown_j77 hf H locs ls hP hD hS (lv_sub hl [1, 2, 3, 4, 5, 6, 7, 0] rfl)
      · replace hf := (if_pos hc).symm.trans hf
        refine lv_iconst (v := (1 : Int32)) hx hb d_m1007_87 (by decide) ?_
        refine lv_goto (tgt := 92) hx hb d_m1007_88 (by decide) ?_
        exact J92 v6_j77 s0_j77 mo_thrown_j77 (1 : Int32) hf H locs ls hP hD hS (lv_sub hl [1, 2, 3, 4, 5, 6, 7, 0] rfl)
  have J76 : ∀ (v6_j76 : Int32) (mo_thrown_j76 : Int32), f_M_scan_J76 N p1 p2 v6_j76 mo_thrown_j76 mo_mask mo_first mo_last mo_before mo_bits p0 p3 p4 = some z → GW (dC, dI) A p l e (headSpec ws_m1007 rm_M_scan).room s m args below meth c 0 0 Q 10 76 (w_M_scan cI cB cS cT a_mo a_mo_h a_mo_v a_mo_across a_mo_down a_mo_ownAcross a_mo_ownDown a_mo_base a_mo_coefficients a_mo_before0 a_mo_draftCounts a_mo_draft a_mo_words a_mo_lengths a_mo_codes a_mo_directOf a_mo_otherOf a_mo_data a_mo_out a_mo_times a_mo_prediction a_mo_runBits a_mo_toCome a_mo_timesKept mo_thrown_j76 mo_width mo_height mo_many mo_unitsAcross mo_unitsDown mo_drafts mo_mask mo_first mo_last mo_before mo_bits mo_interval mo_size mo_outs mo_part mo_parted mo_failed mo_counting mo_run mo_runMany mo_comes mo_at mo_taken mo_left mo_fault) [(0, .ref a_mo), (1, .int p0), (2, .int p1), (3, .int p2), (4, .int p3), (5, .int p4), (6, .int v6_j76)] [] := by
    intro v6_j76 mo_thrown_j76 hf H locs ls hP hD hS hl
    unfold f_M_scan_J76 at hf
    refine lv_iconst (v := (0 : Int32)) hx hb d_m1007_76 (by decide) ?_
    exact J77 v6_j76 mo_thrown_j76 (0 : Int32) hf H locs ls hP hD hS hl
  have J50 : ∀ (mo_thrown_j50 : Int32) (s0_j50 : Int32), f_M_scan_J50 N p1 p2 p3 p4 s0_j50 mo_thrown_j50 mo_mask mo_first mo_last mo_before mo_bits p0 = some z → GW (dC, dI) A p l e (headSpec ws_m1007 rm_M_scan).room s m args below meth c 0 0 Q 10 50 (w_M_scan cI cB cS cT a_mo a_mo_h a_mo_v a_mo_across a_mo_down a_mo_ownAcross a_mo_ownDown a_mo_base a_mo_coefficients a_mo_before0 a_mo_draftCounts a_mo_draft a_mo_words a_mo_lengths a_mo_codes a_mo_directOf a_mo_otherOf a_mo_data a_mo_out a_mo_times a_mo_prediction a_mo_runBits a_mo_toCome a_mo_timesKept mo_thrown_j50 mo_width mo_height mo_many mo_unitsAcross mo_unitsDown mo_drafts mo_mask mo_first mo_last mo_before mo_bits mo_interval mo_size mo_outs mo_part mo_parted mo_failed mo_counting mo_run mo_runMany mo_comes mo_at mo_taken mo_left mo_fault) [(0, .ref a_mo), (1, .int p0), (2, .int p1), (3, .int p2), (4, .int p3), (5, .int p4)] [.int s0_j50] := by
    intro mo_thrown_j50 s0_j50 hf H locs ls hP hD hS hl
    unfold f_M_scan_J50 at hf
    refine lv_istore (lv' := [(6, .int s0_j50), (0, .ref a_mo), (1, .int p0), (2, .int p1), (3, .int p2), (4, .int p3), (5, .int p4)]) hx hb d_m1007_50 hl (by decide) rfl (fun ls hl => ?_)
    refine lv_iload_n hx hb d_m1007_52 rfl (lv_at hl 3 rfl) ?_
    refine lv_if_ne (tgt := 76) hx hb d_m1007_53 (by decide) (fun hc => ?_) (fun hc => ?_)
    · replace hf := (if_neg hc).symm.trans hf
      exact J76 s0_j50 mo_thrown_j50 hf H locs ls hP hD hS (lv_sub hl [1, 2, 3, 4, 5, 6, 0] rfl)
    · replace hf := (if_pos hc).symm.trans hf
      refine lv_iload_n hx hb d_m1007_56 rfl (lv_at hl 4 rfl) ?_
      refine lv_bipush (v := (63 : Int32)) hx hb d_m1007_57 (by decide) ?_
      refine lv_icmp_ne (tgt := 76) hx hb d_m1007_59 (by decide) (fun hc => ?_) (fun hc => ?_)
      · replace hf := (if_neg hc).symm.trans hf
        exact J76 s0_j50 mo_thrown_j50 hf H locs ls hP hD hS (lv_sub hl [1, 2, 3, 4, 5, 6, 0] rfl)
      · replace hf := (if_pos hc).symm.trans hf
        refine lv_iload hx hb d_m1007_62 (lv_at hl 5 rfl) ?_
        refine lv_if_ne (tgt := 76) hx hb d_m1007_64 (by decide) (fun hc => ?_) (fun hc => ?_)
        · replace hf := (if_neg hc).symm.trans hf
          exact J76 s0_j50 mo_thrown_j50 hf H locs ls hP hD hS (lv_sub hl [1, 2, 3, 4, 5, 6, 0] rfl)
        · replace hf := (if_pos hc).symm.trans hf
          refine lv_iload hx hb d_m1007_67 (lv_at hl 6 rfl) ?_
          refine lv_if_ne (tgt := 76) hx hb d_m1007_69 (by decide) (fun hc => ?_) (fun hc => ?_)
          · replace hf := (if_neg hc).symm.trans hf
            exact J76 s0_j50 mo_thrown_j50 hf H locs ls hP hD hS (lv_sub hl [1, 2, 3, 4, 5, 6, 0] rfl)
          · replace hf := (if_pos hc).symm.trans hf
            refine lv_iconst (v := (1 : Int32)) hx hb d_m1007_72 (by decide) ?_
            refine lv_goto (tgt := 77) hx hb d_m1007_73 (by decide) ?_
            exact J77 s0_j50 mo_thrown_j50 (1 : Int32) hf H locs ls hP hD hS (lv_sub hl [1, 2, 3, 4, 5, 6, 0] rfl)
  have J49 : ∀ (mo_thrown_j49 : Int32), f_M_scan_J49 N p1 p2 p3 p4 mo_thrown_j49 mo_mask mo_first mo_last mo_before mo_bits p0 = some z → GW (dC, dI) A p l e (headSpec ws_m1007 rm_M_scan).room s m args below meth c 0 0 Q 10 49 (w_M_scan cI cB cS cT a_mo a_mo_h a_mo_v a_mo_across a_mo_down a_mo_ownAcross a_mo_ownDown a_mo_base a_mo_coefficients a_mo_before0 a_mo_draftCounts a_mo_draft a_mo_words a_mo_lengths a_mo_codes a_mo_directOf a_mo_otherOf a_mo_data a_mo_out a_mo_times a_mo_prediction a_mo_runBits a_mo_toCome a_mo_timesKept mo_thrown_j49 mo_width mo_height mo_many mo_unitsAcross mo_unitsDown mo_drafts mo_mask mo_first mo_last mo_before mo_bits mo_interval mo_size mo_outs mo_part mo_parted mo_failed mo_counting mo_run mo_runMany mo_comes mo_at mo_taken mo_left mo_fault) [(0, .ref a_mo), (1, .int p0), (2, .int p1), (3, .int p2), (4, .int p3), (5, .int p4)] [] := by
    intro mo_thrown_j49 hf H locs ls hP hD hS hl
    unfold f_M_scan_J49 at hf
    refine lv_iconst (v := (0 : Int32)) hx hb d_m1007_49 (by decide) ?_
    exact J50 mo_thrown_j49 (0 : Int32) hf H locs ls hP hD hS hl
  have J45 : ∀ (mo_thrown_j45 : Int32), f_M_scan_J45 N p1 p2 p3 p4 mo_thrown_j45 mo_mask mo_first mo_last mo_before mo_bits p0 = some z → GW (dC, dI) A p l e (headSpec ws_m1007 rm_M_scan).room s m args below meth c 0 0 Q 10 45 (w_M_scan cI cB cS cT a_mo a_mo_h a_mo_v a_mo_across a_mo_down a_mo_ownAcross a_mo_ownDown a_mo_base a_mo_coefficients a_mo_before0 a_mo_draftCounts a_mo_draft a_mo_words a_mo_lengths a_mo_codes a_mo_directOf a_mo_otherOf a_mo_data a_mo_out a_mo_times a_mo_prediction a_mo_runBits a_mo_toCome a_mo_timesKept mo_thrown_j45 mo_width mo_height mo_many mo_unitsAcross mo_unitsDown mo_drafts mo_mask mo_first mo_last mo_before mo_bits mo_interval mo_size mo_outs mo_part mo_parted mo_failed mo_counting mo_run mo_runMany mo_comes mo_at mo_taken mo_left mo_fault) [(0, .ref a_mo), (1, .int p0), (2, .int p1), (3, .int p2), (4, .int p3), (5, .int p4)] [] := by
    intro mo_thrown_j45 hf H locs ls hP hD hS hl
    unfold f_M_scan_J45 at hf
    refine lv_iconst (v := (1 : Int32)) hx hb d_m1007_45 (by decide) ?_
    refine lv_goto (tgt := 50) hx hb d_m1007_46 (by decide) ?_
    exact J50 mo_thrown_j45 (1 : Int32) hf H locs ls hP hD hS hl
  have hgo : ∀ (H : Heap) (locs : List Loc), va_P (dC, dI) vwCl (w_M_scan cI cB cS cT a_mo a_mo_h a_mo_v a_mo_across a_mo_down a_mo_ownAcross a_mo_ownDown a_mo_base a_mo_coefficients a_mo_before0 a_mo_draftCounts a_mo_draft a_mo_words a_mo_lengths a_mo_codes a_mo_directOf a_mo_otherOf a_mo_data a_mo_out a_mo_times a_mo_prediction a_mo_runBits a_mo_toCome a_mo_timesKept mo_thrown mo_width mo_height mo_many mo_unitsAcross mo_unitsDown mo_drafts mo_mask mo_first mo_last mo_before mo_bits mo_interval mo_size mo_outs mo_part mo_parted mo_failed mo_counting mo_run mo_runMany mo_comes mo_at mo_taken mo_left mo_fault) H → va_S A s.heap H locs → W p l e (headSpec ws_m1007 rm_M_scan).room s m args below meth c H locs 0 0 Q (F0 m 0 ls []) := by
    intro H locs hP hS
    unfold f_M_scan at hf
    refine lv_aload_n hx hb d_m1007_0 rfl (lv_at hl 0 rfl) ?_
    refine lv_iconst (v := (0 : Int32)) hx hb d_m1007_1 (by decide) ?_
    refine va_put (D := (dC, dI)) (ci := 11) (v := .int (0 : Int32)) (ty := .int) (C := "ScanCoderModel") (T := T_11) (N := 49) hx hb hts n0 ty_11 tyok_11 nm_11 hown hK hP hD hS 0 rfl rfl 0 (by decide) k0 (fun _ h9 => h9) rfl (by decide +kernel) rfl rfl (Nat.le_of_ble_eq_true rfl) d_m1007_2 (fun H locs hP hD hS => ?_)
    have hP : va_P (dC, dI) vwCl (w_M_scan cI cB cS cT a_mo a_mo_h a_mo_v a_mo_across a_mo_down a_mo_ownAcross a_mo_ownDown a_mo_base a_mo_coefficients a_mo_before0 a_mo_draftCounts a_mo_draft a_mo_words a_mo_lengths a_mo_codes a_mo_directOf a_mo_otherOf a_mo_data a_mo_out a_mo_times a_mo_prediction a_mo_runBits a_mo_toCome a_mo_timesKept (0 : Int32) mo_width mo_height mo_many mo_unitsAcross mo_unitsDown mo_drafts mo_mask mo_first mo_last mo_before mo_bits mo_interval mo_size mo_outs mo_part mo_parted mo_failed mo_counting mo_run mo_runMany mo_comes mo_at mo_taken mo_left mo_fault) H := hP
    have hD : va_D A (w_M_scan cI cB cS cT a_mo a_mo_h a_mo_v a_mo_across a_mo_down a_mo_ownAcross a_mo_ownDown a_mo_base a_mo_coefficients a_mo_before0 a_mo_draftCounts a_mo_draft a_mo_words a_mo_lengths a_mo_codes a_mo_directOf a_mo_otherOf a_mo_data a_mo_out a_mo_times a_mo_prediction a_mo_runBits a_mo_toCome a_mo_timesKept (0 : Int32) mo_width mo_height mo_many mo_unitsAcross mo_unitsDown mo_drafts mo_mask mo_first mo_last mo_before mo_bits mo_interval mo_size mo_outs mo_part mo_parted mo_failed mo_counting mo_run mo_runMany mo_comes mo_at mo_taken mo_left mo_fault) := hD
    refine lv_iload_n hx hb d_m1007_5 rfl (lv_at hl 1 rfl) ?_
    refine lv_if_le (tgt := 49) hx hb d_m1007_6 (by decide) (fun hc => ?_) (fun hc => ?_)
    · replace hf := (if_pos hc).symm.trans hf
      exact J49 (0 : Int32) hf H locs ls hP hD hS hl
    · replace hf := (if_neg hc).symm.trans hf
      refine lv_iload_n hx hb d_m1007_9 rfl (lv_at hl 1 rfl) ?_
      refine lv_iconst (v := (1 : Int32)) hx hb d_m1007_10 (by decide) ?_
      refine lv_aload_n hx hb d_m1007_11 rfl (lv_at hl 0 rfl) ?_
      refine va_get (D := (dC, dI)) (ci := 11) (v := .int mo_many) (C := "ScanCoderModel") (T := T_11) (N := 49) hx hb hts n0 hown hK hP 0 rfl rfl 3 (by decide) k6 (fun _ h9 => h9) rfl d_m1007_12 ?_
      refine lv_ishl hx hb d_m1007_15 ?_
      refine lv_icmp_ge (tgt := 49) hx hb d_m1007_16 (by decide) (fun hc => ?_) (fun hc => ?_)
      · replace hf := (if_pos hc).symm.trans hf
        exact J49 (0 : Int32) hf H locs ls hP hD hS hl
      · replace hf := (if_neg hc).symm.trans hf
        refine lv_iload hx hb d_m1007_19 (lv_at hl 5 rfl) ?_
        refine lv_if_lt (tgt := 49) hx hb d_m1007_21 (by decide) (fun hc => ?_) (fun hc => ?_)
        · replace hf := (if_pos hc).symm.trans hf
          exact J49 (0 : Int32) hf H locs ls hP hD hS hl
        · replace hf := (if_neg hc).symm.trans hf
          refine lv_iload hx hb d_m1007_24 (lv_at hl 5 rfl) ?_
          refine lv_bipush (v := (9 : Int32)) hx hb d_m1007_26 (by decide) ?_
          refine lv_icmp_gt (tgt := 49) hx hb d_m1007_28 (by decide) (fun hc => ?_) (fun hc => ?_)
          · replace hf := (if_pos hc).symm.trans hf
            exact J49 (0 : Int32) hf H locs ls hP hD hS hl
          · replace hf := (if_neg hc).symm.trans hf
            refine lv_iload hx hb d_m1007_31 (lv_at hl 4 rfl) ?_
            refine lv_if_eq (tgt := 45) hx hb d_m1007_33 (by decide) (fun hc => ?_) (fun hc => ?_)
            · replace hf := (if_pos hc).symm.trans hf
              exact J45 (0 : Int32) hf H locs ls hP hD hS hl
            · replace hf := (if_neg hc).symm.trans hf
              refine lv_iload hx hb d_m1007_36 (lv_at hl 4 rfl) ?_
              refine lv_iload hx hb d_m1007_38 (lv_at hl 5 rfl) ?_
              refine lv_iconst (v := (1 : Int32)) hx hb d_m1007_40 (by decide) ?_
              refine lv_iadd hx hb d_m1007_41 ?_
              refine lv_icmp_ne (tgt := 49) hx hb d_m1007_42 (by decide) (fun hc => ?_) (fun hc => ?_)
              · replace hf := (if_neg hc).symm.trans hf
                exact J49 (0 : Int32) hf H locs ls hP hD hS hl
              · replace hf := (if_pos hc).symm.trans hf
                exact J45 (0 : Int32) hf H locs ls hP hD hS hl
  exact hgo _ _ hP hS

def f_M_tables (p0 : Int32) (p1 : Int32) (p2 : Int32) (mo_many : Int32) (mo_directOf : Nat → Int32) (mo_otherOf : Nat → Int32) : Option (Int32 × Int32 × (Nat → Int32) × (Nat → Int32)) :=
  if p0 < 0 then
    some ((0 : Int32), (0 : Int32), mo_directOf, mo_otherOf)
  else
    if mo_many ≤ p0 then
      some ((0 : Int32), (0 : Int32), mo_directOf, mo_otherOf)
    else
      if p1 < 0 then
        some ((0 : Int32), (0 : Int32), mo_directOf, mo_otherOf)
      else
        if (3 : Int32) < p1 then
          some ((0 : Int32), (0 : Int32), mo_directOf, mo_otherOf)
        else
          if p2 < (4 : Int32) then
            some ((0 : Int32), (0 : Int32), mo_directOf, mo_otherOf)
          else
            if p2 ≤ (7 : Int32) then
              if p0 < 0 ∨ 4 ≤ p0.toNatClampNeg then none else
              if p0 < 0 ∨ 4 ≤ p0.toNatClampNeg then none else
              some ((1 : Int32), (0 : Int32), upd mo_directOf p0.toNatClampNeg p1, upd mo_otherOf p0.toNatClampNeg p2)
            else
              some ((0 : Int32), (0 : Int32), mo_directOf, mo_otherOf)
abbrev w_M_tables (cI cB cS cT : ClassId) (a_mo : Nat) (a_mo_directOf : Nat) (a_mo_otherOf : Nat) (a_mo_h : Nat) (a_mo_v : Nat) (a_mo_across : Nat) (a_mo_down : Nat) (a_mo_ownAcross : Nat) (a_mo_ownDown : Nat) (a_mo_base : Nat) (a_mo_coefficients : Nat) (a_mo_before0 : Nat) (a_mo_draftCounts : Nat) (a_mo_draft : Nat) (a_mo_words : Nat) (a_mo_lengths : Nat) (a_mo_codes : Nat) (a_mo_data : Nat) (a_mo_out : Nat) (a_mo_times : Nat) (a_mo_prediction : Nat) (a_mo_runBits : Nat) (a_mo_toCome : Nat) (a_mo_timesKept : Nat) (mo_thrown : Int32) (mo_width : Int32) (mo_height : Int32) (mo_many : Int32) (mo_unitsAcross : Int32) (mo_unitsDown : Int32) (mo_drafts : Int32) (mo_mask : Int32) (mo_first : Int32) (mo_last : Int32) (mo_before : Int32) (mo_bits : Int32) (mo_interval : Int32) (mo_size : Int32) (mo_outs : Int32) (mo_part : Int32) (mo_parted : Int32) (mo_failed : Int32) (mo_counting : Int32) (mo_run : Int32) (mo_runMany : Int32) (mo_comes : Int32) (mo_at : Int32) (mo_taken : Int32) (mo_left : Int32) (mo_fault : Int32) (mo_directOf : Nat → Int32) (mo_otherOf : Nat → Int32) : va_W := [(a_mo, .inr (11, [.int mo_thrown, .int mo_width, .int mo_height, .int mo_many, .ref a_mo_h, .ref a_mo_v, .ref a_mo_across, .ref a_mo_down, .ref a_mo_ownAcross, .ref a_mo_ownDown, .ref a_mo_base, .int mo_unitsAcross, .int mo_unitsDown, .ref a_mo_coefficients, .ref a_mo_before0, .ref a_mo_draftCounts, .ref a_mo_draft, .int mo_drafts, .ref a_mo_words, .ref a_mo_lengths, .ref a_mo_codes, .ref a_mo_directOf, .ref a_mo_otherOf, .int mo_mask, .int mo_first, .int mo_last, .int mo_before, .int mo_bits, .int mo_interval, .ref a_mo_data, .int mo_size, .ref a_mo_out, .int mo_outs, .int mo_part, .int mo_parted, .int mo_failed, .int mo_counting, .ref a_mo_times, .ref a_mo_prediction, .int mo_run, .ref a_mo_runBits, .int mo_runMany, .ref a_mo_toCome, .int mo_comes, .int mo_at, .int mo_taken, .int mo_left, .int mo_fault, .ref a_mo_timesKept])), (a_mo_directOf, .inl (cI, 4, .inl mo_directOf)), (a_mo_otherOf, .inl (cI, 4, .inl mo_otherOf))]
def rm_M_tables : Room := { frames := 0, cells := 0, slots := 0, locals := 0 }
set_option maxHeartbeats 1000000 in
set_option maxRecDepth 100000 in
theorem c_M_tables (l : Launch) (dC : Nat → ClassId) (dI : Nat → Nat → Nat) (cI cB cS cT : ClassId) (a_mo : Nat) (a_mo_directOf : Nat) (a_mo_otherOf : Nat) (a_mo_h : Nat) (a_mo_v : Nat) (a_mo_across : Nat) (a_mo_down : Nat) (a_mo_ownAcross : Nat) (a_mo_ownDown : Nat) (a_mo_base : Nat) (a_mo_coefficients : Nat) (a_mo_before0 : Nat) (a_mo_draftCounts : Nat) (a_mo_draft : Nat) (a_mo_words : Nat) (a_mo_lengths : Nat) (a_mo_codes : Nat) (a_mo_data : Nat) (a_mo_out : Nat) (a_mo_times : Nat) (a_mo_prediction : Nat) (a_mo_runBits : Nat) (a_mo_toCome : Nat) (a_mo_timesKept : Nat) (mo_thrown : Int32) (mo_width : Int32) (mo_height : Int32) (mo_many : Int32) (mo_unitsAcross : Int32) (mo_unitsDown : Int32) (mo_drafts : Int32) (mo_mask : Int32) (mo_first : Int32) (mo_last : Int32) (mo_before : Int32) (mo_bits : Int32) (mo_interval : Int32) (mo_size : Int32) (mo_outs : Int32) (mo_part : Int32) (mo_parted : Int32) (mo_failed : Int32) (mo_counting : Int32) (mo_run : Int32) (mo_runMany : Int32) (mo_comes : Int32) (mo_at : Int32) (mo_taken : Int32) (mo_left : Int32) (mo_fault : Int32) (mo_directOf : Nat → Int32) (mo_otherOf : Nat → Int32) (p0 : Int32) (p1 : Int32) (p2 : Int32) (sz : Nat) (z : Int32 × Int32 × (Nat → Int32) × (Nat → Int32)) (hf : f_M_tables p0 p1 p2 mo_many mo_directOf mo_otherOf = some z) : Met l y_m1014 ws_m1014 rm_M_tables (gPre (dC, dI) [.ref a_mo, .int p0, .int p1, .int p2] (gT cI cB cS cT) (w_M_tables cI cB cS cT a_mo a_mo_directOf a_mo_otherOf a_mo_h a_mo_v a_mo_across a_mo_down a_mo_ownAcross a_mo_ownDown a_mo_base a_mo_coefficients a_mo_before0 a_mo_draftCounts a_mo_draft a_mo_words a_mo_lengths a_mo_codes a_mo_data a_mo_out a_mo_times a_mo_prediction a_mo_runBits a_mo_toCome a_mo_timesKept mo_thrown mo_width mo_height mo_many mo_unitsAcross mo_unitsDown mo_drafts mo_mask mo_first mo_last mo_before mo_bits mo_interval mo_size mo_outs mo_part mo_parted mo_failed mo_counting mo_run mo_runMany mo_comes mo_at mo_taken mo_left mo_fault mo_directOf mo_otherOf) sz) (gQi (dC, dI) (gT cI cB cS cT) z.1 (w_M_tables cI cB cS cT a_mo a_mo_directOf a_mo_otherOf a_mo_h a_mo_v a_mo_across a_mo_down a_mo_ownAcross a_mo_ownDown a_mo_base a_mo_coefficients a_mo_before0 a_mo_draftCounts a_mo_draft a_mo_words a_mo_lengths a_mo_codes a_mo_data a_mo_out a_mo_times a_mo_prediction a_mo_runBits a_mo_toCome a_mo_timesKept mo_thrown mo_width mo_height mo_many mo_unitsAcross mo_unitsDown mo_drafts mo_mask mo_first mo_last mo_before mo_bits mo_interval mo_size mo_outs mo_part mo_parted mo_failed mo_counting mo_run mo_runMany mo_comes mo_at mo_taken mo_left mo_fault mo_directOf mo_otherOf) (w_M_tables cI cB cS cT a_mo a_mo_directOf a_mo_otherOf a_mo_h a_mo_v a_mo_across a_mo_down a_mo_ownAcross a_mo_ownDown a_mo_base a_mo_coefficients a_mo_before0 a_mo_draftCounts a_mo_draft a_mo_words a_mo_lengths a_mo_codes a_mo_data a_mo_out a_mo_times a_mo_prediction a_mo_runBits a_mo_toCome a_mo_timesKept z.2.1 mo_width mo_height mo_many mo_unitsAcross mo_unitsDown mo_drafts mo_mask mo_first mo_last mo_before mo_bits mo_interval mo_size mo_outs mo_part mo_parted mo_failed mo_counting mo_run mo_runMany mo_comes mo_at mo_taken mo_left mo_fault z.2.2.1 z.2.2.2) sz) 0 0 (va_A (w_M_tables cI cB cS cT a_mo a_mo_directOf a_mo_otherOf a_mo_h a_mo_v a_mo_across a_mo_down a_mo_ownAcross a_mo_ownDown a_mo_base a_mo_coefficients a_mo_before0 a_mo_draftCounts a_mo_draft a_mo_words a_mo_lengths a_mo_codes a_mo_data a_mo_out a_mo_times a_mo_prediction a_mo_runBits a_mo_toCome a_mo_timesKept mo_thrown mo_width mo_height mo_many mo_unitsAcross mo_unitsDown mo_drafts mo_mask mo_first mo_last mo_before mo_bits mo_interval mo_size mo_outs mo_part mo_parted mo_failed mo_counting mo_run mo_runMany mo_comes mo_at mo_taken mo_left mo_fault mo_directOf mo_otherOf) sz) := by
  refine Met.ofW (cc := prog_14_method_13_code) (maxL := 4) (ret := (some .boolean)) (by decide) rfl ?_
  intro p e s m args below meth c s₁ B hml hv
  obtain ⟨hargs, hsz, hP, hKN, hD0⟩ := hv
  have hK := hKN.1
  have hx := B.exec
  have hb := B.bytes
  have hr := B.returns
  have hts := atoms_spec (ws := ws_m1014) B.pre
  have hown : s.vm.findClass "ScanCoderModel" = some m.cls := findClass_of_methodNamed B.named
  have hlocks := B.notSynchronized
  have k0 := hts _ (List.mem_cons_of_mem _ tw_834)
  have k1 := hts _ (List.mem_cons_of_mem _ tw_837)
  have k2 := hts _ (List.mem_cons_of_mem _ tw_855)
  have k3 := hts _ (List.mem_cons_of_mem _ tw_856)
  have n0 : ∀ w ∈ u_ws "ScanCoderModel" T_11 49, w ∈ ws_m1014 := fun w h => List.mem_cons_of_mem _ (in_11 w h)
  subst hsz
  have hD := hD0.self (sz := s.heap.size)
  obtain ⟨A, hAe⟩ : ∃ A : Nat → Prop, va_A (w_M_tables cI cB cS cT a_mo a_mo_directOf a_mo_otherOf a_mo_h a_mo_v a_mo_across a_mo_down a_mo_ownAcross a_mo_ownDown a_mo_base a_mo_coefficients a_mo_before0 a_mo_draftCounts a_mo_draft a_mo_words a_mo_lengths a_mo_codes a_mo_data a_mo_out a_mo_times a_mo_prediction a_mo_runBits a_mo_toCome a_mo_timesKept mo_thrown mo_width mo_height mo_many mo_unitsAcross mo_unitsDown mo_drafts mo_mask mo_first mo_last mo_before mo_bits mo_interval mo_size mo_outs mo_part mo_parted mo_failed mo_counting mo_run mo_runMany mo_comes mo_at mo_taken mo_left mo_fault mo_directOf mo_otherOf) s.heap.size = A := ⟨_, rfl⟩
  rw [hAe] at hD
  have hA : ∀ q : Nat, s.heap.size ≤ q → A q := fun q h => by rw [← hAe]; exact Or.inr h
  have hS : va_S A s.heap s.heap [] := va_S.rf
  have hl := lv_entry ([.ref a_mo, .int p0, .int p1, .int p2]) (n := 4) (Nat.le_of_ble_eq_true rfl)
  have hfr : entryFrame m args 4 = F0 m 0 ((lg_sl ([.ref a_mo, .int p0, .int p1, .int p2]) ++ List.replicate (4 - (lg_sl ([.ref a_mo, .int p0, .int p1, .int p2])).length) Slot.unset).toArray) [] := by rw [hargs]; exact lg_entry_eq _ _ _
  rw [hfr]
  generalize (lg_sl ([.ref a_mo, .int p0, .int p1, .int p2]) ++ List.replicate (4 - (lg_sl ([.ref a_mo, .int p0, .int p1, .int p2])).length) Slot.unset).toArray = ls at hl ⊢
  have hl : lv_has ls 4 [(0, .ref a_mo), (1, .int p0), (2, .int p1), (3, .int p2)] := hl
  refine gen_Q (fun Q hQ => ?_)
  clear hfr
  have hgo : ∀ (H : Heap) (locs : List Loc), va_P (dC, dI) vwCl (w_M_tables cI cB cS cT a_mo a_mo_directOf a_mo_otherOf a_mo_h a_mo_v a_mo_across a_mo_down a_mo_ownAcross a_mo_ownDown a_mo_base a_mo_coefficients a_mo_before0 a_mo_draftCounts a_mo_draft a_mo_words a_mo_lengths a_mo_codes a_mo_data a_mo_out a_mo_times a_mo_prediction a_mo_runBits a_mo_toCome a_mo_timesKept mo_thrown mo_width mo_height mo_many mo_unitsAcross mo_unitsDown mo_drafts mo_mask mo_first mo_last mo_before mo_bits mo_interval mo_size mo_outs mo_part mo_parted mo_failed mo_counting mo_run mo_runMany mo_comes mo_at mo_taken mo_left mo_fault mo_directOf mo_otherOf) H → va_S A s.heap H locs → W p l e (headSpec ws_m1014 rm_M_tables).room s m args below meth c H locs 0 0 Q (F0 m 0 ls []) := by
    intro H locs hP hS
    unfold f_M_tables at hf
    refine lv_aload_n hx hb d_m1014_0 rfl (lv_at hl 0 rfl) ?_
    refine lv_iconst (v := (0 : Int32)) hx hb d_m1014_1 (by decide) ?_
    refine va_put (D := (dC, dI)) (ci := 11) (v := .int (0 : Int32)) (ty := .int) (C := "ScanCoderModel") (T := T_11) (N := 49) hx hb hts n0 ty_11 tyok_11 nm_11 hown hK hP hD hS 0 rfl rfl 0 (by decide) k0 (fun _ h9 => h9) rfl (by decide +kernel) rfl rfl (Nat.le_of_ble_eq_true rfl) d_m1014_2 (fun H locs hP hD hS => ?_)
    have hP : va_P (dC, dI) vwCl (w_M_tables cI cB cS cT a_mo a_mo_directOf a_mo_otherOf a_mo_h a_mo_v a_mo_across a_mo_down a_mo_ownAcross a_mo_ownDown a_mo_base a_mo_coefficients a_mo_before0 a_mo_draftCounts a_mo_draft a_mo_words a_mo_lengths a_mo_codes a_mo_data a_mo_out a_mo_times a_mo_prediction a_mo_runBits a_mo_toCome a_mo_timesKept (0 : Int32) mo_width mo_height mo_many mo_unitsAcross mo_unitsDown mo_drafts mo_mask mo_first mo_last mo_before mo_bits mo_interval mo_size mo_outs mo_part mo_parted mo_failed mo_counting mo_run mo_runMany mo_comes mo_at mo_taken mo_left mo_fault mo_directOf mo_otherOf) H := hP
    have hD : va_D A (w_M_tables cI cB cS cT a_mo a_mo_directOf a_mo_otherOf a_mo_h a_mo_v a_mo_across a_mo_down a_mo_ownAcross a_mo_ownDown a_mo_base a_mo_coefficients a_mo_before0 a_mo_draftCounts a_mo_draft a_mo_words a_mo_lengths a_mo_codes a_mo_data a_mo_out a_mo_times a_mo_prediction a_mo_runBits a_mo_toCome a_mo_timesKept (0 : Int32) mo_width mo_height mo_many mo_unitsAcross mo_unitsDown mo_drafts mo_mask mo_first mo_last mo_before mo_bits mo_interval mo_size mo_outs mo_part mo_parted mo_failed mo_counting mo_run mo_runMany mo_comes mo_at mo_taken mo_left mo_fault mo_directOf mo_otherOf) := hD
    refine lv_iload_n hx hb d_m1014_5 rfl (lv_at hl 1 rfl) ?_
    refine lv_if_lt (tgt := 37) hx hb d_m1014_6 (by decide) (fun hc => ?_) (fun hc => ?_)
    · replace hf := (if_pos hc).symm.trans hf
      refine lv_iconst (v := (0 : Int32)) hx hb d_m1014_37 (by decide) ?_
      obtain rfl := Option.some.inj hf
      subst hQ
      subst hAe
      exact W.zret (v := (0 : Int32)) hx hb hr (by decide) (fun t ht hW => ⟨⟨(0 : Int32), (), rfl, rfl, by rw [ht]; exact hP, hD⟩, hS.F ht⟩) hS.2.2 d_m1014_38
    · replace hf := (if_neg hc).symm.trans hf
      refine lv_iload_n hx hb d_m1014_9 rfl (lv_at hl 1 rfl) ?_
      refine lv_aload_n hx hb d_m1014_10 rfl (lv_at hl 0 rfl) ?_
      refine va_get (D := (dC, dI)) (ci := 11) (v := .int mo_many) (C := "ScanCoderModel") (T := T_11) (N := 49) hx hb hts n0 hown hK hP 0 rfl rfl 3 (by decide) k1 (fun _ h9 => h9) rfl d_m1014_11 ?_
      refine lv_icmp_ge (tgt := 37) hx hb d_m1014_14 (by decide) (fun hc => ?_) (fun hc => ?_)
      · replace hf := (if_pos hc).symm.trans hf
        refine lv_iconst (v := (0 : Int32)) hx hb d_m1014_37 (by decide) ?_
        obtain rfl := Option.some.inj hf
        subst hQ
        subst hAe
        exact W.zret (v := (0 : Int32)) hx hb hr (by decide) (fun t ht hW => ⟨⟨(0 : Int32), (), rfl, rfl, by rw [ht]; exact hP, hD⟩, hS.F ht⟩) hS.2.2 d_m1014_38
      · replace hf := (if_neg hc).symm.trans hf
        refine lv_iload_n hx hb d_m1014_17 rfl (lv_at hl 2 rfl) ?_
        refine lv_if_lt (tgt := 37) hx hb d_m1014_18 (by decide) (fun hc => ?_) (fun hc => ?_)
        · replace hf := (if_pos hc).symm.trans hf
          refine lv_iconst (v := (0 : Int32)) hx hb d_m1014_37 (by decide) ?_
          obtain rfl := Option.some.inj hf
          subst hQ
          subst hAe
          exact W.zret (v := (0 : Int32)) hx hb hr (by decide) (fun t ht hW => ⟨⟨(0 : Int32), (), rfl, rfl, by rw [ht]; exact hP, hD⟩, hS.F ht⟩) hS.2.2 d_m1014_38
        · replace hf := (if_neg hc).symm.trans hf
          refine lv_iload_n hx hb d_m1014_21 rfl (lv_at hl 2 rfl) ?_
          refine lv_iconst (v := (3 : Int32)) hx hb d_m1014_22 (by decide) ?_
          refine lv_icmp_gt (tgt := 37) hx hb d_m1014_23 (by decide) (fun hc => ?_) (fun hc => ?_)
          · replace hf := (if_pos hc).symm.trans hf
            refine lv_iconst (v := (0 : Int32)) hx hb d_m1014_37 (by decide) ?_
            obtain rfl := Option.some.inj hf
            subst hQ
            subst hAe
            exact W.zret (v := (0 : Int32)) hx hb hr (by decide) (fun t ht hW => ⟨⟨(0 : Int32), (), rfl, rfl, by rw [ht]; exact hP, hD⟩, hS.F ht⟩) hS.2.2 d_m1014_38
          · replace hf := (if_neg hc).symm.trans hf
            refine lv_iload_n hx hb d_m1014_26 rfl (lv_at hl 3 rfl) ?_
            refine lv_iconst (v := (4 : Int32)) hx hb d_m1014_27 (by decide) ?_
            refine lv_icmp_lt (tgt := 37) hx hb d_m1014_28 (by decide) (fun hc => ?_) (fun hc => ?_)
            · replace hf := (if_pos hc).symm.trans hf
              refine lv_iconst (v := (0 : Int32)) hx hb d_m1014_37 (by decide) ?_
              obtain rfl := Option.some.inj hf
              subst hQ
              subst hAe
              exact W.zret (v := (0 : Int32)) hx hb hr (by decide) (fun t ht hW => ⟨⟨(0 : Int32), (), rfl, rfl, by rw [ht]; exact hP, hD⟩, hS.F ht⟩) hS.2.2 d_m1014_38
            · replace hf := (if_neg hc).symm.trans hf
              refine lv_iload_n hx hb d_m1014_31 rfl (lv_at hl 3 rfl) ?_
              refine lv_bipush (v := (7 : Int32)) hx hb d_m1014_32 (by decide) ?_
              refine lv_icmp_le (tgt := 39) hx hb d_m1014_34 (by decide) (fun hc => ?_) (fun hc => ?_)
              · replace hf := (if_pos hc).symm.trans hf
                refine lv_aload_n hx hb d_m1014_39 rfl (lv_at hl 0 rfl) ?_
                refine va_get (D := (dC, dI)) (ci := 11) (v := .ref a_mo_directOf) (C := "ScanCoderModel") (T := T_11) (N := 49) hx hb hts n0 hown hK hP 0 rfl rfl 21 (by decide) k2 (fun _ h9 => h9) rfl d_m1014_40 ?_
                refine lv_iload_n hx hb d_m1014_43 rfl (lv_at hl 1 rfl) ?_
                refine lv_iload_n hx hb d_m1014_44 rfl (lv_at hl 2 rfl) ?_
                obtain ⟨hi, hf⟩ := ob_if hf
                refine va_iast hx hb hK hP hD hS 1 0 rfl rfl hi d_m1014_45 (fun H locs hP hD hS => ?_)
                have hP : va_P (dC, dI) vwCl (w_M_tables cI cB cS cT a_mo a_mo_directOf a_mo_otherOf a_mo_h a_mo_v a_mo_across a_mo_down a_mo_ownAcross a_mo_ownDown a_mo_base a_mo_coefficients a_mo_before0 a_mo_draftCounts a_mo_draft a_mo_words a_mo_lengths a_mo_codes a_mo_data a_mo_out a_mo_times a_mo_prediction a_mo_runBits a_mo_toCome a_mo_timesKept (0 : Int32) mo_width mo_height mo_many mo_unitsAcross mo_unitsDown mo_drafts mo_mask mo_first mo_last mo_before mo_bits mo_interval mo_size mo_outs mo_part mo_parted mo_failed mo_counting mo_run mo_runMany mo_comes mo_at mo_taken mo_left mo_fault (upd mo_directOf p0.toNatClampNeg p1) mo_otherOf) H := hP
                have hD : va_D A (w_M_tables cI cB cS cT a_mo a_mo_directOf a_mo_otherOf a_mo_h a_mo_v a_mo_across a_mo_down a_mo_ownAcross a_mo_ownDown a_mo_base a_mo_coefficients a_mo_before0 a_mo_draftCounts a_mo_draft a_mo_words a_mo_lengths a_mo_codes a_mo_data a_mo_out a_mo_times a_mo_prediction a_mo_runBits a_mo_toCome a_mo_timesKept (0 : Int32) mo_width mo_height mo_many mo_unitsAcross mo_unitsDown mo_drafts mo_mask mo_first mo_last mo_before mo_bits mo_interval mo_size mo_outs mo_part mo_parted mo_failed mo_counting mo_run mo_runMany mo_comes mo_at mo_taken mo_left mo_fault (upd mo_directOf p0.toNatClampNeg p1) mo_otherOf) := hD
                refine lv_aload_n hx hb d_m1014_46 rfl (lv_at hl 0 rfl) ?_
                refine va_get (D := (dC, dI)) (ci := 11) (v := .ref a_mo_otherOf) (C := "ScanCoderModel") (T := T_11) (N := 49) hx hb hts n0 hown hK hP 0 rfl rfl 22 (by decide) k3 (fun _ h9 => h9) rfl d_m1014_47 ?_
                refine lv_iload_n hx hb d_m1014_50 rfl (lv_at hl 1 rfl) ?_
                refine lv_iload_n hx hb d_m1014_51 rfl (lv_at hl 3 rfl) ?_
                obtain ⟨hi, hf⟩ := ob_if hf
                refine va_iast hx hb hK hP hD hS 2 0 rfl rfl hi d_m1014_52 (fun H locs hP hD hS => ?_)
                have hP : va_P (dC, dI) vwCl (w_M_tables cI cB cS cT a_mo a_mo_directOf a_mo_otherOf a_mo_h a_mo_v a_mo_across a_mo_down a_mo_ownAcross a_mo_ownDown a_mo_base a_mo_coefficients a_mo_before0 a_mo_draftCounts a_mo_draft a_mo_words a_mo_lengths a_mo_codes a_mo_data a_mo_out a_mo_times a_mo_prediction a_mo_runBits a_mo_toCome a_mo_timesKept (0 : Int32) mo_width mo_height mo_many mo_unitsAcross mo_unitsDown mo_drafts mo_mask mo_first mo_last mo_before mo_bits mo_interval mo_size mo_outs mo_part mo_parted mo_failed mo_counting mo_run mo_runMany mo_comes mo_at mo_taken mo_left mo_fault (upd mo_directOf p0.toNatClampNeg p1) (upd mo_otherOf p0.toNatClampNeg p2)) H := hP
                have hD : va_D A (w_M_tables cI cB cS cT a_mo a_mo_directOf a_mo_otherOf a_mo_h a_mo_v a_mo_across a_mo_down a_mo_ownAcross a_mo_ownDown a_mo_base a_mo_coefficients a_mo_before0 a_mo_draftCounts a_mo_draft a_mo_words a_mo_lengths a_mo_codes a_mo_data a_mo_out a_mo_times a_mo_prediction a_mo_runBits a_mo_toCome a_mo_timesKept (0 : Int32) mo_width mo_height mo_many mo_unitsAcross mo_unitsDown mo_drafts mo_mask mo_first mo_last mo_before mo_bits mo_interval mo_size mo_outs mo_part mo_parted mo_failed mo_counting mo_run mo_runMany mo_comes mo_at mo_taken mo_left mo_fault (upd mo_directOf p0.toNatClampNeg p1) (upd mo_otherOf p0.toNatClampNeg p2)) := hD
                refine lv_iconst (v := (1 : Int32)) hx hb d_m1014_53 (by decide) ?_
                obtain rfl := Option.some.inj hf
                subst hQ
                subst hAe
                exact W.zret (v := (1 : Int32)) hx hb hr (by decide) (fun t ht hW => ⟨⟨(1 : Int32), (), rfl, rfl, by rw [ht]; exact hP, hD⟩, hS.F ht⟩) hS.2.2 d_m1014_54
              · replace hf := (if_neg hc).symm.trans hf
                refine lv_iconst (v := (0 : Int32)) hx hb d_m1014_37 (by decide) ?_
                obtain rfl := Option.some.inj hf
                subst hQ
                subst hAe
                exact W.zret (v := (0 : Int32)) hx hb hr (by decide) (fun t ht hW => ⟨⟨(0 : Int32), (), rfl, rfl, by rw [ht]; exact hP, hD⟩, hS.F ht⟩) hS.2.2 d_m1014_38
  exact hgo _ _ hP hS

def f_M_restart (p0 : Int32) (mo_interval : Int32) : Option (Int32 × Int32 × Int32) :=
  if p0 < 0 then
    some ((0 : Int32), (0 : Int32), mo_interval)
  else
    if p0 ≤ (65535 : Int32) then
      some ((1 : Int32), (0 : Int32), p0)
    else
      some ((0 : Int32), (0 : Int32), mo_interval)
abbrev w_M_restart (cI cB cS cT : ClassId) (a_mo : Nat) (a_mo_h : Nat) (a_mo_v : Nat) (a_mo_across : Nat) (a_mo_down : Nat) (a_mo_ownAcross : Nat) (a_mo_ownDown : Nat) (a_mo_base : Nat) (a_mo_coefficients : Nat) (a_mo_before0 : Nat) (a_mo_draftCounts : Nat) (a_mo_draft : Nat) (a_mo_words : Nat) (a_mo_lengths : Nat) (a_mo_codes : Nat) (a_mo_directOf : Nat) (a_mo_otherOf : Nat) (a_mo_data : Nat) (a_mo_out : Nat) (a_mo_times : Nat) (a_mo_prediction : Nat) (a_mo_runBits : Nat) (a_mo_toCome : Nat) (a_mo_timesKept : Nat) (mo_thrown : Int32) (mo_width : Int32) (mo_height : Int32) (mo_many : Int32) (mo_unitsAcross : Int32) (mo_unitsDown : Int32) (mo_drafts : Int32) (mo_mask : Int32) (mo_first : Int32) (mo_last : Int32) (mo_before : Int32) (mo_bits : Int32) (mo_interval : Int32) (mo_size : Int32) (mo_outs : Int32) (mo_part : Int32) (mo_parted : Int32) (mo_failed : Int32) (mo_counting : Int32) (mo_run : Int32) (mo_runMany : Int32) (mo_comes : Int32) (mo_at : Int32) (mo_taken : Int32) (mo_left : Int32) (mo_fault : Int32) : va_W := [(a_mo, .inr (11, [.int mo_thrown, .int mo_width, .int mo_height, .int mo_many, .ref a_mo_h, .ref a_mo_v, .ref a_mo_across, .ref a_mo_down, .ref a_mo_ownAcross, .ref a_mo_ownDown, .ref a_mo_base, .int mo_unitsAcross, .int mo_unitsDown, .ref a_mo_coefficients, .ref a_mo_before0, .ref a_mo_draftCounts, .ref a_mo_draft, .int mo_drafts, .ref a_mo_words, .ref a_mo_lengths, .ref a_mo_codes, .ref a_mo_directOf, .ref a_mo_otherOf, .int mo_mask, .int mo_first, .int mo_last, .int mo_before, .int mo_bits, .int mo_interval, .ref a_mo_data, .int mo_size, .ref a_mo_out, .int mo_outs, .int mo_part, .int mo_parted, .int mo_failed, .int mo_counting, .ref a_mo_times, .ref a_mo_prediction, .int mo_run, .ref a_mo_runBits, .int mo_runMany, .ref a_mo_toCome, .int mo_comes, .int mo_at, .int mo_taken, .int mo_left, .int mo_fault, .ref a_mo_timesKept]))]
def rm_M_restart : Room := { frames := 0, cells := 0, slots := 0, locals := 0 }
set_option maxHeartbeats 1000000 in
set_option maxRecDepth 100000 in
theorem c_M_restart (l : Launch) (dC : Nat → ClassId) (dI : Nat → Nat → Nat) (cI cB cS cT : ClassId) (a_mo : Nat) (a_mo_h : Nat) (a_mo_v : Nat) (a_mo_across : Nat) (a_mo_down : Nat) (a_mo_ownAcross : Nat) (a_mo_ownDown : Nat) (a_mo_base : Nat) (a_mo_coefficients : Nat) (a_mo_before0 : Nat) (a_mo_draftCounts : Nat) (a_mo_draft : Nat) (a_mo_words : Nat) (a_mo_lengths : Nat) (a_mo_codes : Nat) (a_mo_directOf : Nat) (a_mo_otherOf : Nat) (a_mo_data : Nat) (a_mo_out : Nat) (a_mo_times : Nat) (a_mo_prediction : Nat) (a_mo_runBits : Nat) (a_mo_toCome : Nat) (a_mo_timesKept : Nat) (mo_thrown : Int32) (mo_width : Int32) (mo_height : Int32) (mo_many : Int32) (mo_unitsAcross : Int32) (mo_unitsDown : Int32) (mo_drafts : Int32) (mo_mask : Int32) (mo_first : Int32) (mo_last : Int32) (mo_before : Int32) (mo_bits : Int32) (mo_interval : Int32) (mo_size : Int32) (mo_outs : Int32) (mo_part : Int32) (mo_parted : Int32) (mo_failed : Int32) (mo_counting : Int32) (mo_run : Int32) (mo_runMany : Int32) (mo_comes : Int32) (mo_at : Int32) (mo_taken : Int32) (mo_left : Int32) (mo_fault : Int32) (p0 : Int32) (sz : Nat) (z : Int32 × Int32 × Int32) (hf : f_M_restart p0 mo_interval = some z) : Met l y_m1018 ws_m1018 rm_M_restart (gPre (dC, dI) [.ref a_mo, .int p0] (gT cI cB cS cT) (w_M_restart cI cB cS cT a_mo a_mo_h a_mo_v a_mo_across a_mo_down a_mo_ownAcross a_mo_ownDown a_mo_base a_mo_coefficients a_mo_before0 a_mo_draftCounts a_mo_draft a_mo_words a_mo_lengths a_mo_codes a_mo_directOf a_mo_otherOf a_mo_data a_mo_out a_mo_times a_mo_prediction a_mo_runBits a_mo_toCome a_mo_timesKept mo_thrown mo_width mo_height mo_many mo_unitsAcross mo_unitsDown mo_drafts mo_mask mo_first mo_last mo_before mo_bits mo_interval mo_size mo_outs mo_part mo_parted mo_failed mo_counting mo_run mo_runMany mo_comes mo_at mo_taken mo_left mo_fault) sz) (gQi (dC, dI) (gT cI cB cS cT) z.1 (w_M_restart cI cB cS cT a_mo a_mo_h a_mo_v a_mo_across a_mo_down a_mo_ownAcross a_mo_ownDown a_mo_base a_mo_coefficients a_mo_before0 a_mo_draftCounts a_mo_draft a_mo_words a_mo_lengths a_mo_codes a_mo_directOf a_mo_otherOf a_mo_data a_mo_out a_mo_times a_mo_prediction a_mo_runBits a_mo_toCome a_mo_timesKept mo_thrown mo_width mo_height mo_many mo_unitsAcross mo_unitsDown mo_drafts mo_mask mo_first mo_last mo_before mo_bits mo_interval mo_size mo_outs mo_part mo_parted mo_failed mo_counting mo_run mo_runMany mo_comes mo_at mo_taken mo_left mo_fault) (w_M_restart cI cB cS cT a_mo a_mo_h a_mo_v a_mo_across a_mo_down a_mo_ownAcross a_mo_ownDown a_mo_base a_mo_coefficients a_mo_before0 a_mo_draftCounts a_mo_draft a_mo_words a_mo_lengths a_mo_codes a_mo_directOf a_mo_otherOf a_mo_data a_mo_out a_mo_times a_mo_prediction a_mo_runBits a_mo_toCome a_mo_timesKept z.2.1 mo_width mo_height mo_many mo_unitsAcross mo_unitsDown mo_drafts mo_mask mo_first mo_last mo_before mo_bits z.2.2 mo_size mo_outs mo_part mo_parted mo_failed mo_counting mo_run mo_runMany mo_comes mo_at mo_taken mo_left mo_fault) sz) 0 0 (va_A (w_M_restart cI cB cS cT a_mo a_mo_h a_mo_v a_mo_across a_mo_down a_mo_ownAcross a_mo_ownDown a_mo_base a_mo_coefficients a_mo_before0 a_mo_draftCounts a_mo_draft a_mo_words a_mo_lengths a_mo_codes a_mo_directOf a_mo_otherOf a_mo_data a_mo_out a_mo_times a_mo_prediction a_mo_runBits a_mo_toCome a_mo_timesKept mo_thrown mo_width mo_height mo_many mo_unitsAcross mo_unitsDown mo_drafts mo_mask mo_first mo_last mo_before mo_bits mo_interval mo_size mo_outs mo_part mo_parted mo_failed mo_counting mo_run mo_runMany mo_comes mo_at mo_taken mo_left mo_fault) sz) := by
  refine Met.ofW (cc := prog_14_method_14_code) (maxL := 2) (ret := (some .boolean)) (by decide) rfl ?_
  intro p e s m args below meth c s₁ B hml hv
  obtain ⟨hargs, hsz, hP, hKN, hD0⟩ := hv
  have hK := hKN.1
  have hx := B.exec
  have hb := B.bytes
  have hr := B.returns
  have hts := atoms_spec (ws := ws_m1018) B.pre
  have hown : s.vm.findClass "ScanCoderModel" = some m.cls := findClass_of_methodNamed B.named
  have hlocks := B.notSynchronized
  have k0 := hts _ (List.mem_cons_of_mem _ tw_834)
  have k1 := hts _ (List.mem_cons_of_mem _ tw_1019)
  have k2 := hts _ (List.mem_cons_of_mem _ tw_862)
  have n0 : ∀ w ∈ u_ws "ScanCoderModel" T_11 49, w ∈ ws_m1018 := fun w h => List.mem_cons_of_mem _ (in_11 w h)
  subst hsz
  have hD := hD0.self (sz := s.heap.size)
  obtain ⟨A, hAe⟩ : ∃ A : Nat → Prop, va_A (w_M_restart cI cB cS cT a_mo a_mo_h a_mo_v a_mo_across a_mo_down a_mo_ownAcross a_mo_ownDown a_mo_base a_mo_coefficients a_mo_before0 a_mo_draftCounts a_mo_draft a_mo_words a_mo_lengths a_mo_codes a_mo_directOf a_mo_otherOf a_mo_data a_mo_out a_mo_times a_mo_prediction a_mo_runBits a_mo_toCome a_mo_timesKept mo_thrown mo_width mo_height mo_many mo_unitsAcross mo_unitsDown mo_drafts mo_mask mo_first mo_last mo_before mo_bits mo_interval mo_size mo_outs mo_part mo_parted mo_failed mo_counting mo_run mo_runMany mo_comes mo_at mo_taken mo_left mo_fault) s.heap.size = A := ⟨_, rfl⟩
  rw [hAe] at hD
  have hA : ∀ q : Nat, s.heap.size ≤ q → A q := fun q h => by rw [← hAe]; exact Or.inr h
  have hS : va_S A s.heap s.heap [] := va_S.rf
  have hl := lv_entry ([.ref a_mo, .int p0]) (n := 2) (Nat.le_of_ble_eq_true rfl)
  have hfr : entryFrame m args 2 = F0 m 0 ((lg_sl ([.ref a_mo, .int p0]) ++ List.replicate (2 - (lg_sl ([.ref a_mo, .int p0])).length) Slot.unset).toArray) [] := by rw [hargs]; exact lg_entry_eq _ _ _
  rw [hfr]
  generalize (lg_sl ([.ref a_mo, .int p0]) ++ List.replicate (2 - (lg_sl ([.ref a_mo, .int p0])).length) Slot.unset).toArray = ls at hl ⊢
  have hl : lv_has ls 2 [(0, .ref a_mo), (1, .int p0)] := hl
  refine gen_Q (fun Q hQ => ?_)
  clear hfr
  have hgo : ∀ (H : Heap) (locs : List Loc), va_P (dC, dI) vwCl (w_M_restart cI cB cS cT a_mo a_mo_h a_mo_v a_mo_across a_mo_down a_mo_ownAcross a_mo_ownDown a_mo_base a_mo_coefficients a_mo_before0 a_mo_draftCounts a_mo_draft a_mo_words a_mo_lengths a_mo_codes a_mo_directOf a_mo_otherOf a_mo_data a_mo_out a_mo_times a_mo_prediction a_mo_runBits a_mo_toCome a_mo_timesKept mo_thrown mo_width mo_height mo_many mo_unitsAcross mo_unitsDown mo_drafts mo_mask mo_first mo_last mo_before mo_bits mo_interval mo_size mo_outs mo_part mo_parted mo_failed mo_counting mo_run mo_runMany mo_comes mo_at mo_taken mo_left mo_fault) H → va_S A s.heap H locs → W p l e (headSpec ws_m1018 rm_M_restart).room s m args below meth c H locs 0 0 Q (F0 m 0 ls []) := by
    intro H locs hP hS
    unfold f_M_restart at hf
    refine lv_aload_n hx hb d_m1018_0 rfl (lv_at hl 0 rfl) ?_
    refine lv_iconst (v := (0 : Int32)) hx hb d_m1018_1 (by decide) ?_
    refine va_put (D := (dC, dI)) (ci := 11) (v := .int (0 : Int32)) (ty := .int) (C := "ScanCoderModel") (T := T_11) (N := 49) hx hb hts n0 ty_11 tyok_11 nm_11 hown hK hP hD hS 0 rfl rfl 0 (by decide) k0 (fun _ h9 => h9) rfl (by decide +kernel) rfl rfl (Nat.le_of_ble_eq_true rfl) d_m1018_2 (fun H locs hP hD hS => ?_)
    have hP : va_P (dC, dI) vwCl (w_M_restart cI cB cS cT a_mo a_mo_h a_mo_v a_mo_across a_mo_down a_mo_ownAcross a_mo_ownDown a_mo_base a_mo_coefficients a_mo_before0 a_mo_draftCounts a_mo_draft a_mo_words a_mo_lengths a_mo_codes a_mo_directOf a_mo_otherOf a_mo_data a_mo_out a_mo_times a_mo_prediction a_mo_runBits a_mo_toCome a_mo_timesKept (0 : Int32) mo_width mo_height mo_many mo_unitsAcross mo_unitsDown mo_drafts mo_mask mo_first mo_last mo_before mo_bits mo_interval mo_size mo_outs mo_part mo_parted mo_failed mo_counting mo_run mo_runMany mo_comes mo_at mo_taken mo_left mo_fault) H := hP
    have hD : va_D A (w_M_restart cI cB cS cT a_mo a_mo_h a_mo_v a_mo_across a_mo_down a_mo_ownAcross a_mo_ownDown a_mo_base a_mo_coefficients a_mo_before0 a_mo_draftCounts a_mo_draft a_mo_words a_mo_lengths a_mo_codes a_mo_directOf a_mo_otherOf a_mo_data a_mo_out a_mo_times a_mo_prediction a_mo_runBits a_mo_toCome a_mo_timesKept (0 : Int32) mo_width mo_height mo_many mo_unitsAcross mo_unitsDown mo_drafts mo_mask mo_first mo_last mo_before mo_bits mo_interval mo_size mo_outs mo_part mo_parted mo_failed mo_counting mo_run mo_runMany mo_comes mo_at mo_taken mo_left mo_fault) := hD
    refine lv_iload_n hx hb d_m1018_5 rfl (lv_at hl 1 rfl) ?_
    refine lv_if_lt (tgt := 15) hx hb d_m1018_6 (by decide) (fun hc => ?_) (fun hc => ?_)
    · replace hf := (if_pos hc).symm.trans hf
      refine lv_iconst (v := (0 : Int32)) hx hb d_m1018_15 (by decide) ?_
      obtain rfl := Option.some.inj hf
      subst hQ
      subst hAe
      exact W.zret (v := (0 : Int32)) hx hb hr (by decide) (fun t ht hW => ⟨⟨(0 : Int32), (), rfl, rfl, by rw [ht]; exact hP, hD⟩, hS.F ht⟩) hS.2.2 d_m1018_16
    · replace hf := (if_neg hc).symm.trans hf
      refine lv_iload_n hx hb d_m1018_9 rfl (lv_at hl 1 rfl) ?_
      refine lv_ldc (v := (65535 : Int32)) hx hb hown k1 d_m1018_10 ?_
      refine lv_icmp_le (tgt := 17) hx hb d_m1018_12 (by decide) (fun hc => ?_) (fun hc => ?_)
      · replace hf := (if_pos hc).symm.trans hf
        refine lv_aload_n hx hb d_m1018_17 rfl (lv_at hl 0 rfl) ?_
        refine lv_iload_n hx hb d_m1018_18 rfl (lv_at hl 1 rfl) ?_
        refine va_put (D := (dC, dI)) (ci := 11) (v := .int p0) (ty := .int) (C := "ScanCoderModel") (T := T_11) (N := 49) hx hb hts n0 ty_11 tyok_11 nm_11 hown hK hP hD hS 0 rfl rfl 28 (by decide) k2 (fun _ h9 => h9) rfl (by decide +kernel) rfl rfl (Nat.le_of_ble_eq_true rfl) d_m1018_19 (fun H locs hP hD hS => ?_)
        have hP : va_P (dC, dI) vwCl (w_M_restart cI cB cS cT a_mo a_mo_h a_mo_v a_mo_across a_mo_down a_mo_ownAcross a_mo_ownDown a_mo_base a_mo_coefficients a_mo_before0 a_mo_draftCounts a_mo_draft a_mo_words a_mo_lengths a_mo_codes a_mo_directOf a_mo_otherOf a_mo_data a_mo_out a_mo_times a_mo_prediction a_mo_runBits a_mo_toCome a_mo_timesKept (0 : Int32) mo_width mo_height mo_many mo_unitsAcross mo_unitsDown mo_drafts mo_mask mo_first mo_last mo_before mo_bits p0 mo_size mo_outs mo_part mo_parted mo_failed mo_counting mo_run mo_runMany mo_comes mo_at mo_taken mo_left mo_fault) H := hP
        have hD : va_D A (w_M_restart cI cB cS cT a_mo a_mo_h a_mo_v a_mo_across a_mo_down a_mo_ownAcross a_mo_ownDown a_mo_base a_mo_coefficients a_mo_before0 a_mo_draftCounts a_mo_draft a_mo_words a_mo_lengths a_mo_codes a_mo_directOf a_mo_otherOf a_mo_data a_mo_out a_mo_times a_mo_prediction a_mo_runBits a_mo_toCome a_mo_timesKept (0 : Int32) mo_width mo_height mo_many mo_unitsAcross mo_unitsDown mo_drafts mo_mask mo_first mo_last mo_before mo_bits p0 mo_size mo_outs mo_part mo_parted mo_failed mo_counting mo_run mo_runMany mo_comes mo_at mo_taken mo_left mo_fault) := hD
        refine lv_iconst (v := (1 : Int32)) hx hb d_m1018_22 (by decide) ?_
        obtain rfl := Option.some.inj hf
        subst hQ
        subst hAe
        exact W.zret (v := (1 : Int32)) hx hb hr (by decide) (fun t ht hW => ⟨⟨(1 : Int32), (), rfl, rfl, by rw [ht]; exact hP, hD⟩, hS.F ht⟩) hS.2.2 d_m1018_23
      · replace hf := (if_neg hc).symm.trans hf
        refine lv_iconst (v := (0 : Int32)) hx hb d_m1018_15 (by decide) ?_
        obtain rfl := Option.some.inj hf
        subst hQ
        subst hAe
        exact W.zret (v := (0 : Int32)) hx hb hr (by decide) (fun t ht hW => ⟨⟨(0 : Int32), (), rfl, rfl, by rw [ht]; exact hP, hD⟩, hS.F ht⟩) hS.2.2 d_m1018_16
  exact hgo _ _ hP hS
def f_M_isBlock_J60 (s3_j60 : Int32) (s1_j60 : Int32) (mo_down : Nat → Int32) (s0_j60 : Int32) : Option (Int32) :=
  if s3_j60 < 0 ∨ 4 ≤ s3_j60.toNatClampNeg then none else
  if (s1_j60 * (mo_down s3_j60.toNatClampNeg)) ≤ s0_j60 then
    some (0 : Int32)
  else
    some (1 : Int32)
def f_M_isBlock_J59 (s1_j59 : Int32) (mo_down : Nat → Int32) (s0_j59 : Int32) : Option (Int32) :=
  f_M_isBlock_J60 (0 : Int32) s1_j59 mo_down s0_j59
def f_M_isBlock_J38 (s2_j38 : Int32) (p0 : Int32) (mo_across : Nat → Int32) (mo_down : Nat → Int32) (s0_j38 : Int32) (mo_many : Int32) : Option (Int32) :=
  if s2_j38 < 0 ∨ 4 ≤ s2_j38.toNatClampNeg then none else
  if p0 < 0 then
    f_M_isBlock_J59 (mo_across s2_j38.toNatClampNeg) mo_down s0_j38
  else
    if mo_many ≤ p0 then
      f_M_isBlock_J59 (mo_across s2_j38.toNatClampNeg) mo_down s0_j38
    else
      f_M_isBlock_J60 p0 (mo_across s2_j38.toNatClampNeg) mo_down s0_j38
def f_M_isBlock_J37 (p0 : Int32) (mo_across : Nat → Int32) (mo_down : Nat → Int32) (s0_j37 : Int32) (mo_many : Int32) : Option (Int32) :=
  f_M_isBlock_J38 (0 : Int32) p0 mo_across mo_down s0_j37 mo_many
def f_M_isBlock (p0 : Int32) (p1 : Int32) (mo_many : Int32) (mo_across : Nat → Int32) (mo_down : Nat → Int32) : Option (Int32) :=
  if p0 < 0 then
    some (0 : Int32)
  else
    if mo_many ≤ p0 then
      some (0 : Int32)
    else
      if p1 < 0 then
        some (0 : Int32)
      else
        if p0 < 0 then
          f_M_isBlock_J37 p0 mo_across mo_down p1 mo_many
        else
          if mo_many ≤ p0 then
            f_M_isBlock_J37 p0 mo_across mo_down p1 mo_many
          else
            f_M_isBlock_J38 p0 p0 mo_across mo_down p1 mo_many
abbrev w_M_isBlock (cI cB cS cT : ClassId) (a_mo : Nat) (a_mo_across : Nat) (a_mo_down : Nat) (a_mo_h : Nat) (a_mo_v : Nat) (a_mo_ownAcross : Nat) (a_mo_ownDown : Nat) (a_mo_base : Nat) (a_mo_coefficients : Nat) (a_mo_before0 : Nat) (a_mo_draftCounts : Nat) (a_mo_draft : Nat) (a_mo_words : Nat) (a_mo_lengths : Nat) (a_mo_codes : Nat) (a_mo_directOf : Nat) (a_mo_otherOf : Nat) (a_mo_data : Nat) (a_mo_out : Nat) (a_mo_times : Nat) (a_mo_prediction : Nat) (a_mo_runBits : Nat) (a_mo_toCome : Nat) (a_mo_timesKept : Nat) (mo_thrown : Int32) (mo_width : Int32) (mo_height : Int32) (mo_many : Int32) (mo_unitsAcross : Int32) (mo_unitsDown : Int32) (mo_drafts : Int32) (mo_mask : Int32) (mo_first : Int32) (mo_last : Int32) (mo_before : Int32) (mo_bits : Int32) (mo_interval : Int32) (mo_size : Int32) (mo_outs : Int32) (mo_part : Int32) (mo_parted : Int32) (mo_failed : Int32) (mo_counting : Int32) (mo_run : Int32) (mo_runMany : Int32) (mo_comes : Int32) (mo_at : Int32) (mo_taken : Int32) (mo_left : Int32) (mo_fault : Int32) (mo_across : Nat → Int32) (mo_down : Nat → Int32) : va_W := [(a_mo, .inr (11, [.int mo_thrown, .int mo_width, .int mo_height, .int mo_many, .ref a_mo_h, .ref a_mo_v, .ref a_mo_across, .ref a_mo_down, .ref a_mo_ownAcross, .ref a_mo_ownDown, .ref a_mo_base, .int mo_unitsAcross, .int mo_unitsDown, .ref a_mo_coefficients, .ref a_mo_before0, .ref a_mo_draftCounts, .ref a_mo_draft, .int mo_drafts, .ref a_mo_words, .ref a_mo_lengths, .ref a_mo_codes, .ref a_mo_directOf, .ref a_mo_otherOf, .int mo_mask, .int mo_first, .int mo_last, .int mo_before, .int mo_bits, .int mo_interval, .ref a_mo_data, .int mo_size, .ref a_mo_out, .int mo_outs, .int mo_part, .int mo_parted, .int mo_failed, .int mo_counting, .ref a_mo_times, .ref a_mo_prediction, .int mo_run, .ref a_mo_runBits, .int mo_runMany, .ref a_mo_toCome, .int mo_comes, .int mo_at, .int mo_taken, .int mo_left, .int mo_fault, .ref a_mo_timesKept])), (a_mo_across, .inl (cI, 4, .inl mo_across)), (a_mo_down, .inl (cI, 4, .inl mo_down))]
def rm_M_isBlock : Room := { frames := 0, cells := 0, slots := 0, locals := 0 }
set_option maxHeartbeats 1000000 in
set_option maxRecDepth 100000 in
theorem c_M_isBlock (l : Launch) (dC : Nat → ClassId) (dI : Nat → Nat → Nat) (cI cB cS cT : ClassId) (a_mo : Nat) (a_mo_across : Nat) (a_mo_down : Nat) (a_mo_h : Nat) (a_mo_v : Nat) (a_mo_ownAcross : Nat) (a_mo_ownDown : Nat) (a_mo_base : Nat) (a_mo_coefficients : Nat) (a_mo_before0 : Nat) (a_mo_draftCounts : Nat) (a_mo_draft : Nat) (a_mo_words : Nat) (a_mo_lengths : Nat) (a_mo_codes : Nat) (a_mo_directOf : Nat) (a_mo_otherOf : Nat) (a_mo_data : Nat) (a_mo_out : Nat) (a_mo_times : Nat) (a_mo_prediction : Nat) (a_mo_runBits : Nat) (a_mo_toCome : Nat) (a_mo_timesKept : Nat) (mo_thrown : Int32) (mo_width : Int32) (mo_height : Int32) (mo_many : Int32) (mo_unitsAcross : Int32) (mo_unitsDown : Int32) (mo_drafts : Int32) (mo_mask : Int32) (mo_first : Int32) (mo_last : Int32) (mo_before : Int32) (mo_bits : Int32) (mo_interval : Int32) (mo_size : Int32) (mo_outs : Int32) (mo_part : Int32) (mo_parted : Int32) (mo_failed : Int32) (mo_counting : Int32) (mo_run : Int32) (mo_runMany : Int32) (mo_comes : Int32) (mo_at : Int32) (mo_taken : Int32) (mo_left : Int32) (mo_fault : Int32) (mo_across : Nat → Int32) (mo_down : Nat → Int32) (p0 : Int32) (p1 : Int32) (z : Int32) (hf : f_M_isBlock p0 p1 mo_many mo_across mo_down = some z) : Met l y_m1027 ws_m1027 rm_M_isBlock (gPreP (dC, dI) [.ref a_mo, .int p0, .int p1] (gT cI cB cS cT) (w_M_isBlock cI cB cS cT a_mo a_mo_across a_mo_down a_mo_h a_mo_v a_mo_ownAcross a_mo_ownDown a_mo_base a_mo_coefficients a_mo_before0 a_mo_draftCounts a_mo_draft a_mo_words a_mo_lengths a_mo_codes a_mo_directOf a_mo_otherOf a_mo_data a_mo_out a_mo_times a_mo_prediction a_mo_runBits a_mo_toCome a_mo_timesKept mo_thrown mo_width mo_height mo_many mo_unitsAcross mo_unitsDown mo_drafts mo_mask mo_first mo_last mo_before mo_bits mo_interval mo_size mo_outs mo_part mo_parted mo_failed mo_counting mo_run mo_runMany mo_comes mo_at mo_taken mo_left mo_fault mo_across mo_down)) (vp_Si (fun r => r = z)) 0 0 (fun _ => False) := by
  refine Met.ofW (cc := prog_14_method_15_code) (maxL := 3) (ret := (some .boolean)) (by decide) rfl ?_
  intro p e s m args below meth c s₁ B hml hv
  obtain ⟨hargs, hP, hKN⟩ := hv
  have hK := hKN.1
  have hx := B.exec
  have hb := B.bytes
  have hr := B.returns
  have hts := atoms_spec (ws := ws_m1027) B.pre
  have hown : s.vm.findClass "ScanCoderModel" = some m.cls := findClass_of_methodNamed B.named
  have hlocks := B.notSynchronized
  have k0 := hts _ (List.mem_cons_of_mem _ tw_837)
  have k1 := hts _ (List.mem_cons_of_mem _ tw_840)
  have k2 := hts _ (List.mem_cons_of_mem _ tw_841)
  have n0 : ∀ w ∈ u_ws "ScanCoderModel" T_11 49, w ∈ ws_m1027 := fun w h => List.mem_cons_of_mem _ (in_11 w h)
  have hl := lv_entry ([.ref a_mo, .int p0, .int p1]) (n := 3) (Nat.le_of_ble_eq_true rfl)
  have hfr : entryFrame m args 3 = F0 m 0 ((lg_sl ([.ref a_mo, .int p0, .int p1]) ++ List.replicate (3 - (lg_sl ([.ref a_mo, .int p0, .int p1])).length) Slot.unset).toArray) [] := by rw [hargs]; exact lg_entry_eq _ _ _
  rw [hfr]
  generalize (lg_sl ([.ref a_mo, .int p0, .int p1]) ++ List.replicate (3 - (lg_sl ([.ref a_mo, .int p0, .int p1])).length) Slot.unset).toArray = ls at hl ⊢
  have hl : lv_has ls 3 [(0, .ref a_mo), (1, .int p0), (2, .int p1)] := hl
  refine gen_Q (fun Q hQ => ?_)
  clear hfr
  have J60 : ∀ (s0_j60 : Int32) (s1_j60 : Int32) (s3_j60 : Int32), f_M_isBlock_J60 s3_j60 s1_j60 mo_down s0_j60 = some z → GP p l e (headSpec ws_m1027 rm_M_isBlock).room s m args below meth c Q 3 60 [] [.int s3_j60, .ref a_mo_down, .int s1_j60, .int s0_j60] := by
    intro s0_j60 s1_j60 s3_j60 hf ls hl
    unfold f_M_isBlock_J60 at hf
    obtain ⟨hi, hf⟩ := ob_if hf
    refine va_iald hx hb hK hP 2 0 rfl rfl hi d_m1027_60 ?_
    refine lv_imul hx hb d_m1027_61 ?_
    refine lv_icmp_ge (tgt := 69) hx hb d_m1027_62 (by decide) (fun hc => ?_) (fun hc => ?_)
    · replace hf := (if_pos hc).symm.trans hf
      refine lv_iconst (v := (0 : Int32)) hx hb d_m1027_69 (by decide) ?_
      obtain rfl := Option.some.inj hf
      subst hQ
      exact W.zret (v := (0 : Int32)) hx hb hr (by decide) (fun t ht hW => ⟨(0 : Int32), rfl, rfl, ht⟩) (fun q h => by cases h) d_m1027_70
    · replace hf := (if_neg hc).symm.trans hf
      refine lv_iconst (v := (1 : Int32)) hx hb d_m1027_65 (by decide) ?_
      refine lv_goto (tgt := 70) hx hb d_m1027_66 (by decide) ?_
      obtain rfl := Option.some.inj hf
      subst hQ
      exact W.zret (v := (1 : Int32)) hx hb hr (by decide) (fun t ht hW => ⟨(1 : Int32), rfl, rfl, ht⟩) (fun q h => by cases h) d_m1027_70
  have J59 : ∀ (s0_j59 : Int32) (s1_j59 : Int32), f_M_isBlock_J59 s1_j59 mo_down s0_j59 = some z → GP p l e (headSpec ws_m1027 rm_M_isBlock).room s m args below meth c Q 3 59 [] [.ref a_mo_down, .int s1_j59, .int s0_j59] := by
    intro s0_j59 s1_j59 hf ls hl
    unfold f_M_isBlock_J59 at hf
    refine lv_iconst (v := (0 : Int32)) hx hb d_m1027_59 (by decide) ?_
    exact J60 s0_j59 s1_j59 (0 : Int32) hf ls hl
  have J38 : ∀ (s0_j38 : Int32) (s2_j38 : Int32), f_M_isBlock_J38 s2_j38 p0 mo_across mo_down s0_j38 mo_many = some z → GP p l e (headSpec ws_m1027 rm_M_isBlock).room s m args below meth c Q 3 38 [(0, .ref a_mo), (1, .int p0)] [.int s2_j38, .ref a_mo_across, .int s0_j38] := by
    intro s0_j38 s2_j38 hf ls hl
    unfold f_M_isBlock_J38 at hf
    obtain ⟨hi, hf⟩ := ob_if hf
    refine va_iald hx hb hK hP 1 0 rfl rfl hi d_m1027_38 ?_
    refine lv_aload_n hx hb d_m1027_39 rfl (lv_at hl 0 rfl) ?_
    refine va_get (D := (dC, dI)) (ci := 11) (v := .ref a_mo_down) (C := "ScanCoderModel") (T := T_11) (N := 49) hx hb hts n0 hown hK hP 0 rfl rfl 7 (by decide) k2 (fun _ h9 => h9) rfl d_m1027_40 ?_
    refine lv_iload_n hx hb d_m1027_43 rfl (lv_at hl 1 rfl) ?_
    refine lv_if_lt (tgt := 59) hx hb d_m1027_44 (by decide) (fun hc => ?_) (fun hc => ?_)
    · replace hf := (if_pos hc).symm.trans hf
      exact J59 s0_j38 (mo_across s2_j38.toNatClampNeg) hf ls (lv_sub hl [] rfl)
    · replace hf := (if_neg hc).symm.trans hf
      refine lv_iload_n hx hb d_m1027_47 rfl (lv_at hl 1 rfl) ?_
      refine lv_aload_n hx hb d_m1027_48 rfl (lv_at hl 0 rfl) ?_
      refine va_get (D := (dC, dI)) (ci := 11) (v := .int mo_many) (C := "ScanCoderModel") (T := T_11) (N := 49) hx hb hts n0 hown hK hP 0 rfl rfl 3 (by decide) k0 (fun _ h9 => h9) rfl d_m1027_49 ?_
      refine lv_icmp_ge (tgt := 59) hx hb d_m1027_52 (by decide) (fun hc => ?_) (fun hc => ?_)
      · replace hf := (if_pos hc).symm.trans hf
        exact J59 s0_j38 (mo_across s2_j38.toNatClampNeg) hf ls (lv_sub hl [] rfl)
      · replace hf := (if_neg hc).symm.trans hf
        refine lv_iload_n hx hb d_m1027_55 rfl (lv_at hl 1 rfl) ?_
        refine lv_goto (tgt := 60) hx hb d_m1027_56 (by decide) ?_
        exact J60 s0_j38 (mo_across s2_j38.toNatClampNeg) p0 hf ls (lv_sub hl [] rfl)
  have J37 : ∀ (s0_j37 : Int32), f_M_isBlock_J37 p0 mo_across mo_down s0_j37 mo_many = some z → GP p l e (headSpec ws_m1027 rm_M_isBlock).room s m args below meth c Q 3 37 [(0, .ref a_mo), (1, .int p0)] [.ref a_mo_across, .int s0_j37] := by
    intro s0_j37 hf ls hl
    unfold f_M_isBlock_J37 at hf
    refine lv_iconst (v := (0 : Int32)) hx hb d_m1027_37 (by decide) ?_
    exact J38 s0_j37 (0 : Int32) hf ls hl
  unfold f_M_isBlock at hf
  refine lv_iload_n hx hb d_m1027_0 rfl (lv_at hl 1 rfl) ?_
  refine lv_if_lt (tgt := 69) hx hb d_m1027_1 (by decide) (fun hc => ?_) (fun hc => ?_)
  · replace hf := (if_pos hc).symm.trans hf
    refine lv_iconst (v := (0 : Int32)) hx hb d_m1027_69 (by decide) ?_
    obtain rfl := Option.some.inj hf
    subst hQ
    exact W.zret (v := (0 : Int32)) hx hb hr (by decide) (fun t ht hW => ⟨(0 : Int32), rfl, rfl, ht⟩) (fun q h => by cases h) d_m1027_70
  · replace hf := (if_neg hc).symm.trans hf
    refine lv_iload_n hx hb d_m1027_4 rfl (lv_at hl 1 rfl) ?_
    refine lv_aload_n hx hb d_m1027_5 rfl (lv_at hl 0 rfl) ?_
    refine va_get (D := (dC, dI)) (ci := 11) (v := .int mo_many) (C := "ScanCoderModel") (T := T_11) (N := 49) hx hb hts n0 hown hK hP 0 rfl rfl 3 (by decide) k0 (fun _ h9 => h9) rfl d_m1027_6 ?_
    refine lv_icmp_ge (tgt := 69) hx hb d_m1027_9 (by decide) (fun hc => ?_) (fun hc => ?_)
    · replace hf := (if_pos hc).symm.trans hf
      refine lv_iconst (v := (0 : Int32)) hx hb d_m1027_69 (by decide) ?_
      obtain rfl := Option.some.inj hf
      subst hQ
      exact W.zret (v := (0 : Int32)) hx hb hr (by decide) (fun t ht hW => ⟨(0 : Int32), rfl, rfl, ht⟩) (fun q h => by cases h) d_m1027_70
    · replace hf := (if_neg hc).symm.trans hf
      refine lv_iload_n hx hb d_m1027_12 rfl (lv_at hl 2 rfl) ?_
      refine lv_if_lt (tgt := 69) hx hb d_m1027_13 (by decide) (fun hc => ?_) (fun hc => ?_)
      · replace hf := (if_pos hc).symm.trans hf
        refine lv_iconst (v := (0 : Int32)) hx hb d_m1027_69 (by decide) ?_
        obtain rfl := Option.some.inj hf
        subst hQ
        exact W.zret (v := (0 : Int32)) hx hb hr (by decide) (fun t ht hW => ⟨(0 : Int32), rfl, rfl, ht⟩) (fun q h => by cases h) d_m1027_70
      · replace hf := (if_neg hc).symm.trans hf
        refine lv_iload_n hx hb d_m1027_16 rfl (lv_at hl 2 rfl) ?_
        refine lv_aload_n hx hb d_m1027_17 rfl (lv_at hl 0 rfl) ?_
        refine va_get (D := (dC, dI)) (ci := 11) (v := .ref a_mo_across) (C := "ScanCoderModel") (T := T_11) (N := 49) hx hb hts n0 hown hK hP 0 rfl rfl 6 (by decide) k1 (fun _ h9 => h9) rfl d_m1027_18 ?_
        refine lv_iload_n hx hb d_m1027_21 rfl (lv_at hl 1 rfl) ?_
        refine lv_if_lt (tgt := 37) hx hb d_m1027_22 (by decide) (fun hc => ?_) (fun hc => ?_)
        · replace hf := (if_pos hc).symm.trans hf
          exact J37 p1 hf ls (lv_sub hl [0, 1] rfl)
        · replace hf := (if_neg hc).symm.trans hf
          refine lv_iload_n hx hb d_m1027_25 rfl (lv_at hl 1 rfl) ?_
          refine lv_aload_n hx hb d_m1027_26 rfl (lv_at hl 0 rfl) ?_
          refine va_get (D := (dC, dI)) (ci := 11) (v := .int mo_many) (C := "ScanCoderModel") (T := T_11) (N := 49) hx hb hts n0 hown hK hP 0 rfl rfl 3 (by decide) k0 (fun _ h9 => h9) rfl d_m1027_27 ?_
          refine lv_icmp_ge (tgt := 37) hx hb d_m1027_30 (by decide) (fun hc => ?_) (fun hc => ?_)
          · replace hf := (if_pos hc).symm.trans hf
            exact J37 p1 hf ls (lv_sub hl [0, 1] rfl)
          · replace hf := (if_neg hc).symm.trans hf
            refine lv_iload_n hx hb d_m1027_33 rfl (lv_at hl 1 rfl) ?_
            refine lv_goto (tgt := 38) hx hb d_m1027_34 (by decide) ?_
            exact J38 p1 p0 hf ls (lv_sub hl [0, 1] rfl)
def f_M_canBe_J14 (s0_j14 : Int32) (s1_j14 : Int32) (p1 : Int32) : Option (Int32) :=
  if s0_j14 < s1_j14 then
    some (0 : Int32)
  else
    if (1023 : Int32) < p1 then
      some (0 : Int32)
    else
      some (1 : Int32)
def f_M_canBe (p0 : Int32) (p1 : Int32) : Option (Int32) :=
  if p0 = 0 then
    f_M_canBe_J14 p1 (-1024 : Int32) p1
  else
    f_M_canBe_J14 p1 (-1023 : Int32) p1
abbrev w_M_canBe (cI cB cS cT : ClassId)  : va_W := []
def rm_M_canBe : Room := { frames := 0, cells := 0, slots := 0, locals := 0 }
set_option maxHeartbeats 1000000 in
set_option maxRecDepth 100000 in
theorem c_M_canBe (l : Launch) (dC : Nat → ClassId) (dI : Nat → Nat → Nat) (cI cB cS cT : ClassId) (p0 : Int32) (p1 : Int32) (z : Int32) (hf : f_M_canBe p0 p1 = some z) : Met l y_m1030 ws_m1030 rm_M_canBe (gPreP (dC, dI) [.int p0, .int p1] (gT cI cB cS cT) (w_M_canBe cI cB cS cT)) (vp_Si (fun r => r = z)) 0 0 (fun _ => False) := by
  refine Met.ofW (cc := prog_14_method_16_code) (maxL := 2) (ret := (some .boolean)) (by decide) rfl ?_
  intro p e s m args below meth c s₁ B hml hv
  obtain ⟨hargs, hP, hKN⟩ := hv
  have hK := hKN.1
  have hx := B.exec
  have hb := B.bytes
  have hr := B.returns
  have hts := atoms_spec (ws := ws_m1030) B.pre
  have hown : s.vm.findClass "ScanCoderModel" = some m.cls := findClass_of_methodNamed B.named
  have hlocks := B.notSynchronized
  have hl := lv_entry ([.int p0, .int p1]) (n := 2) (Nat.le_of_ble_eq_true rfl)
  have hfr : entryFrame m args 2 = F0 m 0 ((lg_sl ([.int p0, .int p1]) ++ List.replicate (2 - (lg_sl ([.int p0, .int p1])).length) Slot.unset).toArray) [] := by rw [hargs]; exact lg_entry_eq _ _ _
  rw [hfr]
  generalize (lg_sl ([.int p0, .int p1]) ++ List.replicate (2 - (lg_sl ([.int p0, .int p1])).length) Slot.unset).toArray = ls at hl ⊢
  have hl : lv_has ls 2 [(0, .int p0), (1, .int p1)] := hl
  refine gen_Q (fun Q hQ => ?_)
  clear hfr
  have J14 : ∀ (s0_j14 : Int32) (s1_j14 : Int32), f_M_canBe_J14 s0_j14 s1_j14 p1 = some z → GP p l e (headSpec ws_m1030 rm_M_canBe).room s m args below meth c Q 2 14 [(1, .int p1)] [.int s1_j14, .int s0_j14] := by
    intro s0_j14 s1_j14 hf ls hl
    unfold f_M_canBe_J14 at hf
    refine lv_icmp_lt (tgt := 28) hx hb d_m1030_14 (by decide) (fun hc => ?_) (fun hc => ?_)
    · replace hf := (if_pos hc).symm.trans hf
      refine lv_iconst (v := (0 : Int32)) hx hb d_m1030_28 (by decide) ?_
      obtain rfl := Option.some.inj hf
      subst hQ
      exact W.zret (v := (0 : Int32)) hx hb hr (by decide) (fun t ht hW => ⟨(0 : Int32), rfl, rfl, ht⟩) (fun q h => by cases h) d_m1030_29
    · replace hf := (if_neg hc).symm.trans hf
      refine lv_iload_n hx hb d_m1030_17 rfl (lv_at hl 0 rfl) ?_
      refine lv_sipush (v := (1023 : Int32)) hx hb d_m1030_18 (by decide) ?_
      refine lv_icmp_gt (tgt := 28) hx hb d_m1030_21 (by decide) (fun hc => ?_) (fun hc => ?_)
      · replace hf := (if_pos hc).symm.trans hf
        refine lv_iconst (v := (0 : Int32)) hx hb d_m1030_28 (by decide) ?_
        obtain rfl := Option.some.inj hf
        subst hQ
        exact W.zret (v := (0 : Int32)) hx hb hr (by decide) (fun t ht hW => ⟨(0 : Int32), rfl, rfl, ht⟩) (fun q h => by cases h) d_m1030_29
      · replace hf := (if_neg hc).symm.trans hf
        refine lv_iconst (v := (1 : Int32)) hx hb d_m1030_24 (by decide) ?_
        refine lv_goto (tgt := 29) hx hb d_m1030_25 (by decide) ?_
        obtain rfl := Option.some.inj hf
        subst hQ
        exact W.zret (v := (1 : Int32)) hx hb hr (by decide) (fun t ht hW => ⟨(1 : Int32), rfl, rfl, ht⟩) (fun q h => by cases h) d_m1030_29
  unfold f_M_canBe at hf
  refine lv_iload_n hx hb d_m1030_0 rfl (lv_at hl 1 rfl) ?_
  refine lv_iload_n hx hb d_m1030_1 rfl (lv_at hl 0 rfl) ?_
  refine lv_if_ne (tgt := 11) hx hb d_m1030_2 (by decide) (fun hc => ?_) (fun hc => ?_)
  · replace hf := (if_neg hc).symm.trans hf
    refine lv_sipush (v := (-1023 : Int32)) hx hb d_m1030_11 (by decide) ?_
    exact J14 p1 (-1023 : Int32) hf ls (lv_sub hl [1] rfl)
  · replace hf := (if_pos hc).symm.trans hf
    refine lv_sipush (v := (-1024 : Int32)) hx hb d_m1030_5 (by decide) ?_
    refine lv_goto (tgt := 14) hx hb d_m1030_8 (by decide) ?_
    exact J14 p1 (-1024 : Int32) hf ls (lv_sub hl [1] rfl)

def f_M_set (p0 : Int32) (p1 : Int32) (p2 : Int32) (p3 : Int32) (mo_many : Int32) (mo_across : Nat → Int32) (mo_down : Nat → Int32) (mo_base : Nat → Int32) (mo_coefficients : Nat → Int32) : Option (Int32 × Int32 × (Nat → Int32)) :=
  (f_M_isBlock p0 p1 mo_many mo_across mo_down).bind fun z1 =>
  if z1 = 0 then
    some ((0 : Int32), (0 : Int32), mo_coefficients)
  else
    if p2 < 0 then
      some ((0 : Int32), (0 : Int32), mo_coefficients)
    else
      if (63 : Int32) < p2 then
        some ((0 : Int32), (0 : Int32), mo_coefficients)
      else
        (f_M_canBe p2 p3).bind fun z2 =>
        if z2 = 0 then
          some ((0 : Int32), (0 : Int32), mo_coefficients)
        else
          if p0 < 0 ∨ 4 ≤ p0.toNatClampNeg then none else
          if (((64 : Int32) * ((mo_base p0.toNatClampNeg) + p1)) + p2) < 0 ∨ 12288 ≤ (((64 : Int32) * ((mo_base p0.toNatClampNeg) + p1)) + p2).toNatClampNeg then none else
          some ((1 : Int32), (0 : Int32), upd mo_coefficients (((64 : Int32) * ((mo_base p0.toNatClampNeg) + p1)) + p2).toNatClampNeg (vp_nar .short p3.toInt16.toInt32))
abbrev w_M_set (cI cB cS cT : ClassId) (a_mo : Nat) (a_mo_across : Nat) (a_mo_down : Nat) (a_mo_base : Nat) (a_mo_coefficients : Nat) (a_mo_h : Nat) (a_mo_v : Nat) (a_mo_ownAcross : Nat) (a_mo_ownDown : Nat) (a_mo_before0 : Nat) (a_mo_draftCounts : Nat) (a_mo_draft : Nat) (a_mo_words : Nat) (a_mo_lengths : Nat) (a_mo_codes : Nat) (a_mo_directOf : Nat) (a_mo_otherOf : Nat) (a_mo_data : Nat) (a_mo_out : Nat) (a_mo_times : Nat) (a_mo_prediction : Nat) (a_mo_runBits : Nat) (a_mo_toCome : Nat) (a_mo_timesKept : Nat) (mo_thrown : Int32) (mo_width : Int32) (mo_height : Int32) (mo_many : Int32) (mo_unitsAcross : Int32) (mo_unitsDown : Int32) (mo_drafts : Int32) (mo_mask : Int32) (mo_first : Int32) (mo_last : Int32) (mo_before : Int32) (mo_bits : Int32) (mo_interval : Int32) (mo_size : Int32) (mo_outs : Int32) (mo_part : Int32) (mo_parted : Int32) (mo_failed : Int32) (mo_counting : Int32) (mo_run : Int32) (mo_runMany : Int32) (mo_comes : Int32) (mo_at : Int32) (mo_taken : Int32) (mo_left : Int32) (mo_fault : Int32) (mo_across : Nat → Int32) (mo_down : Nat → Int32) (mo_base : Nat → Int32) (mo_coefficients : Nat → Int32) : va_W := [(a_mo, .inr (11, [.int mo_thrown, .int mo_width, .int mo_height, .int mo_many, .ref a_mo_h, .ref a_mo_v, .ref a_mo_across, .ref a_mo_down, .ref a_mo_ownAcross, .ref a_mo_ownDown, .ref a_mo_base, .int mo_unitsAcross, .int mo_unitsDown, .ref a_mo_coefficients, .ref a_mo_before0, .ref a_mo_draftCounts, .ref a_mo_draft, .int mo_drafts, .ref a_mo_words, .ref a_mo_lengths, .ref a_mo_codes, .ref a_mo_directOf, .ref a_mo_otherOf, .int mo_mask, .int mo_first, .int mo_last, .int mo_before, .int mo_bits, .int mo_interval, .ref a_mo_data, .int mo_size, .ref a_mo_out, .int mo_outs, .int mo_part, .int mo_parted, .int mo_failed, .int mo_counting, .ref a_mo_times, .ref a_mo_prediction, .int mo_run, .ref a_mo_runBits, .int mo_runMany, .ref a_mo_toCome, .int mo_comes, .int mo_at, .int mo_taken, .int mo_left, .int mo_fault, .ref a_mo_timesKept])), (a_mo_across, .inl (cI, 4, .inl mo_across)), (a_mo_down, .inl (cI, 4, .inl mo_down)), (a_mo_base, .inl (cI, 4, .inl mo_base)), (a_mo_coefficients, .inl (cS, 12288, .inl mo_coefficients))]
def rm_M_set : Room := { frames := 1, cells := 0, slots := 0, locals := 22 }
set_option maxHeartbeats 1000000 in
set_option maxRecDepth 100000 in
theorem c_M_set (l : Launch) (dC : Nat → ClassId) (dI : Nat → Nat → Nat) (cI cB cS cT : ClassId) (a_mo : Nat) (a_mo_across : Nat) (a_mo_down : Nat) (a_mo_base : Nat) (a_mo_coefficients : Nat) (a_mo_h : Nat) (a_mo_v : Nat) (a_mo_ownAcross : Nat) (a_mo_ownDown : Nat) (a_mo_before0 : Nat) (a_mo_draftCounts : Nat) (a_mo_draft : Nat) (a_mo_words : Nat) (a_mo_lengths : Nat) (a_mo_codes : Nat) (a_mo_directOf : Nat) (a_mo_otherOf : Nat) (a_mo_data : Nat) (a_mo_out : Nat) (a_mo_times : Nat) (a_mo_prediction : Nat) (a_mo_runBits : Nat) (a_mo_toCome : Nat) (a_mo_timesKept : Nat) (mo_thrown : Int32) (mo_width : Int32) (mo_height : Int32) (mo_many : Int32) (mo_unitsAcross : Int32) (mo_unitsDown : Int32) (mo_drafts : Int32) (mo_mask : Int32) (mo_first : Int32) (mo_last : Int32) (mo_before : Int32) (mo_bits : Int32) (mo_interval : Int32) (mo_size : Int32) (mo_outs : Int32) (mo_part : Int32) (mo_parted : Int32) (mo_failed : Int32) (mo_counting : Int32) (mo_run : Int32) (mo_runMany : Int32) (mo_comes : Int32) (mo_at : Int32) (mo_taken : Int32) (mo_left : Int32) (mo_fault : Int32) (mo_across : Nat → Int32) (mo_down : Nat → Int32) (mo_base : Nat → Int32) (mo_coefficients : Nat → Int32) (p0 : Int32) (p1 : Int32) (p2 : Int32) (p3 : Int32) (sz : Nat) (z : Int32 × Int32 × (Nat → Int32)) (hf : f_M_set p0 p1 p2 p3 mo_many mo_across mo_down mo_base mo_coefficients = some z) : Met l y_m1023 ws_m1023 rm_M_set (gPre (dC, dI) [.ref a_mo, .int p0, .int p1, .int p2, .int p3] (gT cI cB cS cT) (w_M_set cI cB cS cT a_mo a_mo_across a_mo_down a_mo_base a_mo_coefficients a_mo_h a_mo_v a_mo_ownAcross a_mo_ownDown a_mo_before0 a_mo_draftCounts a_mo_draft a_mo_words a_mo_lengths a_mo_codes a_mo_directOf a_mo_otherOf a_mo_data a_mo_out a_mo_times a_mo_prediction a_mo_runBits a_mo_toCome a_mo_timesKept mo_thrown mo_width mo_height mo_many mo_unitsAcross mo_unitsDown mo_drafts mo_mask mo_first mo_last mo_before mo_bits mo_interval mo_size mo_outs mo_part mo_parted mo_failed mo_counting mo_run mo_runMany mo_comes mo_at mo_taken mo_left mo_fault mo_across mo_down mo_base mo_coefficients) sz) (gQi (dC, dI) (gT cI cB cS cT) z.1 (w_M_set cI cB cS cT a_mo a_mo_across a_mo_down a_mo_base a_mo_coefficients a_mo_h a_mo_v a_mo_ownAcross a_mo_ownDown a_mo_before0 a_mo_draftCounts a_mo_draft a_mo_words a_mo_lengths a_mo_codes a_mo_directOf a_mo_otherOf a_mo_data a_mo_out a_mo_times a_mo_prediction a_mo_runBits a_mo_toCome a_mo_timesKept mo_thrown mo_width mo_height mo_many mo_unitsAcross mo_unitsDown mo_drafts mo_mask mo_first mo_last mo_before mo_bits mo_interval mo_size mo_outs mo_part mo_parted mo_failed mo_counting mo_run mo_runMany mo_comes mo_at mo_taken mo_left mo_fault mo_across mo_down mo_base mo_coefficients) (w_M_set cI cB cS cT a_mo a_mo_across a_mo_down a_mo_base a_mo_coefficients a_mo_h a_mo_v a_mo_ownAcross a_mo_ownDown a_mo_before0 a_mo_draftCounts a_mo_draft a_mo_words a_mo_lengths a_mo_codes a_mo_directOf a_mo_otherOf a_mo_data a_mo_out a_mo_times a_mo_prediction a_mo_runBits a_mo_toCome a_mo_timesKept z.2.1 mo_width mo_height mo_many mo_unitsAcross mo_unitsDown mo_drafts mo_mask mo_first mo_last mo_before mo_bits mo_interval mo_size mo_outs mo_part mo_parted mo_failed mo_counting mo_run mo_runMany mo_comes mo_at mo_taken mo_left mo_fault mo_across mo_down mo_base z.2.2) sz) 0 0 (va_A (w_M_set cI cB cS cT a_mo a_mo_across a_mo_down a_mo_base a_mo_coefficients a_mo_h a_mo_v a_mo_ownAcross a_mo_ownDown a_mo_before0 a_mo_draftCounts a_mo_draft a_mo_words a_mo_lengths a_mo_codes a_mo_directOf a_mo_otherOf a_mo_data a_mo_out a_mo_times a_mo_prediction a_mo_runBits a_mo_toCome a_mo_timesKept mo_thrown mo_width mo_height mo_many mo_unitsAcross mo_unitsDown mo_drafts mo_mask mo_first mo_last mo_before mo_bits mo_interval mo_size mo_outs mo_part mo_parted mo_failed mo_counting mo_run mo_runMany mo_comes mo_at mo_taken mo_left mo_fault mo_across mo_down mo_base mo_coefficients) sz) := by
  refine Met.ofW (cc := prog_14_method_17_code) (maxL := 5) (ret := (some .boolean)) (by decide) rfl ?_
  intro p e s m args below meth c s₁ B hml hv
  obtain ⟨hargs, hsz, hP, hKN, hD0⟩ := hv
  have hK := hKN.1
  have hx := B.exec
  have hb := B.bytes
  have hr := B.returns
  have hts := atoms_spec (ws := ws_m1023) B.pre
  have hown : s.vm.findClass "ScanCoderModel" = some m.cls := findClass_of_methodNamed B.named
  have hlocks := B.notSynchronized
  have k0 := hts _ (List.mem_cons_of_mem _ tw_834)
  have k1 := hts _ (List.mem_cons_of_mem _ tw_847)
  have k2 := hts _ (List.mem_cons_of_mem _ tw_844)
  have n0 : ∀ w ∈ u_ws "ScanCoderModel" T_11 49, w ∈ ws_m1023 := fun w h => List.mem_cons_of_mem _ (in_11 w h)
  subst hsz
  have hD := hD0.self (sz := s.heap.size)
  obtain ⟨A, hAe⟩ : ∃ A : Nat → Prop, va_A (w_M_set cI cB cS cT a_mo a_mo_across a_mo_down a_mo_base a_mo_coefficients a_mo_h a_mo_v a_mo_ownAcross a_mo_ownDown a_mo_before0 a_mo_draftCounts a_mo_draft a_mo_words a_mo_lengths a_mo_codes a_mo_directOf a_mo_otherOf a_mo_data a_mo_out a_mo_times a_mo_prediction a_mo_runBits a_mo_toCome a_mo_timesKept mo_thrown mo_width mo_height mo_many mo_unitsAcross mo_unitsDown mo_drafts mo_mask mo_first mo_last mo_before mo_bits mo_interval mo_size mo_outs mo_part mo_parted mo_failed mo_counting mo_run mo_runMany mo_comes mo_at mo_taken mo_left mo_fault mo_across mo_down mo_base mo_coefficients) s.heap.size = A := ⟨_, rfl⟩
  rw [hAe] at hD
  have hA : ∀ q : Nat, s.heap.size ≤ q → A q := fun q h => by rw [← hAe]; exact Or.inr h
  have hS : va_S A s.heap s.heap [] := va_S.rf
  have hl := lv_entry ([.ref a_mo, .int p0, .int p1, .int p2, .int p3]) (n := 5) (Nat.le_of_ble_eq_true rfl)
  have hfr : entryFrame m args 5 = F0 m 0 ((lg_sl ([.ref a_mo, .int p0, .int p1, .int p2, .int p3]) ++ List.replicate (5 - (lg_sl ([.ref a_mo, .int p0, .int p1, .int p2, .int p3])).length) Slot.unset).toArray) [] := by rw [hargs]; exact lg_entry_eq _ _ _
  rw [hfr]
  generalize (lg_sl ([.ref a_mo, .int p0, .int p1, .int p2, .int p3]) ++ List.replicate (5 - (lg_sl ([.ref a_mo, .int p0, .int p1, .int p2, .int p3])).length) Slot.unset).toArray = ls at hl ⊢
  have hl : lv_has ls 5 [(0, .ref a_mo), (1, .int p0), (2, .int p1), (3, .int p2), (4, .int p3)] := hl
  refine gen_Q (fun Q hQ => ?_)
  clear hfr
  have hgo : ∀ (H : Heap) (locs : List Loc), va_P (dC, dI) vwCl (w_M_set cI cB cS cT a_mo a_mo_across a_mo_down a_mo_base a_mo_coefficients a_mo_h a_mo_v a_mo_ownAcross a_mo_ownDown a_mo_before0 a_mo_draftCounts a_mo_draft a_mo_words a_mo_lengths a_mo_codes a_mo_directOf a_mo_otherOf a_mo_data a_mo_out a_mo_times a_mo_prediction a_mo_runBits a_mo_toCome a_mo_timesKept mo_thrown mo_width mo_height mo_many mo_unitsAcross mo_unitsDown mo_drafts mo_mask mo_first mo_last mo_before mo_bits mo_interval mo_size mo_outs mo_part mo_parted mo_failed mo_counting mo_run mo_runMany mo_comes mo_at mo_taken mo_left mo_fault mo_across mo_down mo_base mo_coefficients) H → va_S A s.heap H locs → W p l e (headSpec ws_m1023 rm_M_set).room s m args below meth c H locs 0 0 Q (F0 m 0 ls []) := by
    intro H locs hP hS
    unfold f_M_set at hf
    refine lv_aload_n hx hb d_m1023_0 rfl (lv_at hl 0 rfl) ?_
    refine lv_iconst (v := (0 : Int32)) hx hb d_m1023_1 (by decide) ?_
    refine va_put (D := (dC, dI)) (ci := 11) (v := .int (0 : Int32)) (ty := .int) (C := "ScanCoderModel") (T := T_11) (N := 49) hx hb hts n0 ty_11 tyok_11 nm_11 hown hK hP hD hS 0 rfl rfl 0 (by decide) k0 (fun _ h9 => h9) rfl (by decide +kernel) rfl rfl (Nat.le_of_ble_eq_true rfl) d_m1023_2 (fun H locs hP hD hS => ?_)
    have hP : va_P (dC, dI) vwCl (w_M_set cI cB cS cT a_mo a_mo_across a_mo_down a_mo_base a_mo_coefficients a_mo_h a_mo_v a_mo_ownAcross a_mo_ownDown a_mo_before0 a_mo_draftCounts a_mo_draft a_mo_words a_mo_lengths a_mo_codes a_mo_directOf a_mo_otherOf a_mo_data a_mo_out a_mo_times a_mo_prediction a_mo_runBits a_mo_toCome a_mo_timesKept (0 : Int32) mo_width mo_height mo_many mo_unitsAcross mo_unitsDown mo_drafts mo_mask mo_first mo_last mo_before mo_bits mo_interval mo_size mo_outs mo_part mo_parted mo_failed mo_counting mo_run mo_runMany mo_comes mo_at mo_taken mo_left mo_fault mo_across mo_down mo_base mo_coefficients) H := hP
    have hD : va_D A (w_M_set cI cB cS cT a_mo a_mo_across a_mo_down a_mo_base a_mo_coefficients a_mo_h a_mo_v a_mo_ownAcross a_mo_ownDown a_mo_before0 a_mo_draftCounts a_mo_draft a_mo_words a_mo_lengths a_mo_codes a_mo_directOf a_mo_otherOf a_mo_data a_mo_out a_mo_times a_mo_prediction a_mo_runBits a_mo_toCome a_mo_timesKept (0 : Int32) mo_width mo_height mo_many mo_unitsAcross mo_unitsDown mo_drafts mo_mask mo_first mo_last mo_before mo_bits mo_interval mo_size mo_outs mo_part mo_parted mo_failed mo_counting mo_run mo_runMany mo_comes mo_at mo_taken mo_left mo_fault mo_across mo_down mo_base mo_coefficients) := hD
    refine lv_aload_n hx hb d_m1023_5 rfl (lv_at hl 0 rfl) ?_
    refine lv_iload_n hx hb d_m1023_6 rfl (lv_at hl 1 rfl) ?_
    refine lv_iload_n hx hb d_m1023_7 rfl (lv_at hl 2 rfl) ?_
    obtain ⟨z1, hz1, hf⟩ := ob_bind hf
    refine vp_callSi (g_run (va_runV (As := [.int p0, .int p1]) (rest := []) ⟨hx, hb, hml, hown, hts⟩ (c_M_isBlock l dC dI cI cB cS cT a_mo a_mo_across a_mo_down a_mo_h a_mo_v a_mo_ownAcross a_mo_ownDown a_mo_base a_mo_coefficients a_mo_before0 a_mo_draftCounts a_mo_draft a_mo_words a_mo_lengths a_mo_codes a_mo_directOf a_mo_otherOf a_mo_data a_mo_out a_mo_times a_mo_prediction a_mo_runBits a_mo_toCome a_mo_timesKept (0 : Int32) mo_width mo_height mo_many mo_unitsAcross mo_unitsDown mo_drafts mo_mask mo_first mo_last mo_before mo_bits mo_interval mo_size mo_outs mo_part mo_parted mo_failed mo_counting mo_run mo_runMany mo_comes mo_at mo_taken mo_left mo_fault mo_across mo_down p0 p1 z1 hz1) ⟨(callB_of 2 hts (gi tw_1027 rfl) rfl rfl rfl (hts _ (List.mem_cons_of_mem _ tw_16)) (hts _ (List.mem_cons_of_mem _ tw_1024)) (by decide +kernel) ⟨Nat.le_of_ble_eq_true rfl, Nat.le_of_ble_eq_true rfl⟩), hts _ (List.mem_cons_of_mem _ tw_1026), hts _ (List.mem_cons_of_mem _ ts_m1027)⟩ ⟨gp_blind, va_recv hK hP (ci := 11) (q0 := 0) rfl rfl, gp_at hKN (g_pm hP [0, 1, 2] rfl)⟩ rfl rfl hl.1 rfl (lv_room (Nat.le_of_ble_eq_true rfl)) d_m1023_8 ⟨Nat.zero_le _, Nat.zero_le _⟩)) (fun r hrz1 => ?_)
    have hrz1 := hrz1.symm
    subst hrz1
    refine W.eq (g2 := F0 m 11 ls [.int z1]) rfl ?_
    refine lv_if_eq (tgt := 33) hx hb d_m1023_11 (by decide) (fun hc => ?_) (fun hc => ?_)
    · replace hf := (if_pos hc).symm.trans hf
      refine lv_iconst (v := (0 : Int32)) hx hb d_m1023_33 (by decide) ?_
      obtain rfl := Option.some.inj hf
      subst hQ
      subst hAe
      exact W.zret (v := (0 : Int32)) hx hb hr (by decide) (fun t ht hW => ⟨⟨(0 : Int32), (), rfl, rfl, by rw [ht]; exact hP, hD⟩, hS.F ht⟩) hS.2.2 d_m1023_34
    · replace hf := (if_neg hc).symm.trans hf
      refine lv_iload_n hx hb d_m1023_14 rfl (lv_at hl 3 rfl) ?_
      refine lv_if_lt (tgt := 33) hx hb d_m1023_15 (by decide) (fun hc => ?_) (fun hc => ?_)
      · replace hf := (if_pos hc).symm.trans hf
        refine lv_iconst (v := (0 : Int32)) hx hb d_m1023_33 (by decide) ?_
        obtain rfl := Option.some.inj hf
        subst hQ
        subst hAe
        exact W.zret (v := (0 : Int32)) hx hb hr (by decide) (fun t ht hW => ⟨⟨(0 : Int32), (), rfl, rfl, by rw [ht]; exact hP, hD⟩, hS.F ht⟩) hS.2.2 d_m1023_34
      · replace hf := (if_neg hc).symm.trans hf
        refine lv_iload_n hx hb d_m1023_18 rfl (lv_at hl 3 rfl) ?_
        refine lv_bipush (v := (63 : Int32)) hx hb d_m1023_19 (by decide) ?_
        refine lv_icmp_gt (tgt := 33) hx hb d_m1023_21 (by decide) (fun hc => ?_) (fun hc => ?_)
        · replace hf := (if_pos hc).symm.trans hf
          refine lv_iconst (v := (0 : Int32)) hx hb d_m1023_33 (by decide) ?_
          obtain rfl := Option.some.inj hf
          subst hQ
          subst hAe
          exact W.zret (v := (0 : Int32)) hx hb hr (by decide) (fun t ht hW => ⟨⟨(0 : Int32), (), rfl, rfl, by rw [ht]; exact hP, hD⟩, hS.F ht⟩) hS.2.2 d_m1023_34
        · replace hf := (if_neg hc).symm.trans hf
          refine lv_iload_n hx hb d_m1023_24 rfl (lv_at hl 3 rfl) ?_
          refine lv_iload hx hb d_m1023_25 (lv_at hl 4 rfl) ?_
          obtain ⟨z2, hz2, hf⟩ := ob_bind hf
          refine vp_callSi (g_run (va_runS (As := [.int p2, .int p3]) (rest := []) ⟨hx, hb, hml, hown, hts⟩ (c_M_canBe l dC dI cI cB cS cT p2 p3 z2 hz2) ⟨(callB_of 2 hts (gi tw_1030 rfl) rfl rfl rfl (hts _ (List.mem_cons_of_mem _ tw_16)) (hts _ (List.mem_cons_of_mem _ tw_1028)) (by decide +kernel) ⟨Nat.le_of_ble_eq_true rfl, Nat.le_of_ble_eq_true rfl⟩), hts _ (List.mem_cons_of_mem _ tw_1029)⟩ ⟨gp_blind, gp_at hKN (g_pm hP [] rfl)⟩ rfl rfl hl.1 rfl (lv_room (Nat.le_of_ble_eq_true rfl)) d_m1023_27 ⟨Nat.zero_le _, Nat.zero_le _⟩)) (fun r hrz2 => ?_)
          have hrz2 := hrz2.symm
          subst hrz2
          refine W.eq (g2 := F0 m 30 ls [.int z2]) rfl ?_
          refine lv_if_ne (tgt := 35) hx hb d_m1023_30 (by decide) (fun hc => ?_) (fun hc => ?_)
          · replace hf := (if_neg hc).symm.trans hf
            refine lv_aload_n hx hb d_m1023_35 rfl (lv_at hl 0 rfl) ?_
            refine va_get (D := (dC, dI)) (ci := 11) (v := .ref a_mo_coefficients) (C := "ScanCoderModel") (T := T_11) (N := 49) hx hb hts n0 hown hK hP 0 rfl rfl 13 (by decide) k1 (fun _ h9 => h9) rfl d_m1023_36 ?_
            refine lv_bipush (v := (64 : Int32)) hx hb d_m1023_39 (by decide) ?_
            refine lv_aload_n hx hb d_m1023_41 rfl (lv_at hl 0 rfl) ?_
            refine va_get (D := (dC, dI)) (ci := 11) (v := .ref a_mo_base) (C := "ScanCoderModel") (T := T_11) (N := 49) hx hb hts n0 hown hK hP 0 rfl rfl 10 (by decide) k2 (fun _ h9 => h9) rfl d_m1023_42 ?_
            refine lv_iload_n hx hb d_m1023_45 rfl (lv_at hl 1 rfl) ?_
            obtain ⟨hi, hf⟩ := ob_if hf
            refine va_iald hx hb hK hP 3 0 rfl rfl hi d_m1023_46 ?_
            refine lv_iload_n hx hb d_m1023_47 rfl (lv_at hl 2 rfl) ?_
            refine lv_iadd hx hb d_m1023_48 ?_
            refine lv_imul hx hb d_m1023_49 ?_
            refine lv_iload_n hx hb d_m1023_50 rfl (lv_at hl 3 rfl) ?_
            refine lv_iadd hx hb d_m1023_51 ?_
            refine lv_iload hx hb d_m1023_52 (lv_at hl 4 rfl) ?_
            refine lv_i2s hx hb d_m1023_54 rfl ?_
            obtain ⟨hi, hf⟩ := ob_if hf
            refine va_sast hx hb hK hP hD hS 4 2 rfl rfl hi d_m1023_55 (fun H locs hP hD hS => ?_)
            have hP : va_P (dC, dI) vwCl (w_M_set cI cB cS cT a_mo a_mo_across a_mo_down a_mo_base a_mo_coefficients a_mo_h a_mo_v a_mo_ownAcross a_mo_ownDown a_mo_before0 a_mo_draftCounts a_mo_draft a_mo_words a_mo_lengths a_mo_codes a_mo_directOf a_mo_otherOf a_mo_data a_mo_out a_mo_times a_mo_prediction a_mo_runBits a_mo_toCome a_mo_timesKept (0 : Int32) mo_width mo_height mo_many mo_unitsAcross mo_unitsDown mo_drafts mo_mask mo_first mo_last mo_before mo_bits mo_interval mo_size mo_outs mo_part mo_parted mo_failed mo_counting mo_run mo_runMany mo_comes mo_at mo_taken mo_left mo_fault mo_across mo_down mo_base (upd mo_coefficients (((64 : Int32) * ((mo_base p0.toNatClampNeg) + p1)) + p2).toNatClampNeg (vp_nar .short p3.toInt16.toInt32))) H := hP
            have hD : va_D A (w_M_set cI cB cS cT a_mo a_mo_across a_mo_down a_mo_base a_mo_coefficients a_mo_h a_mo_v a_mo_ownAcross a_mo_ownDown a_mo_before0 a_mo_draftCounts a_mo_draft a_mo_words a_mo_lengths a_mo_codes a_mo_directOf a_mo_otherOf a_mo_data a_mo_out a_mo_times a_mo_prediction a_mo_runBits a_mo_toCome a_mo_timesKept (0 : Int32) mo_width mo_height mo_many mo_unitsAcross mo_unitsDown mo_drafts mo_mask mo_first mo_last mo_before mo_bits mo_interval mo_size mo_outs mo_part mo_parted mo_failed mo_counting mo_run mo_runMany mo_comes mo_at mo_taken mo_left mo_fault mo_across mo_down mo_base (upd mo_coefficients (((64 : Int32) * ((mo_base p0.toNatClampNeg) + p1)) + p2).toNatClampNeg (vp_nar .short p3.toInt16.toInt32))) := hD
            refine lv_iconst (v := (1 : Int32)) hx hb d_m1023_56 (by decide) ?_
            obtain rfl := Option.some.inj hf
            subst hQ
            subst hAe
            exact W.zret (v := (1 : Int32)) hx hb hr (by decide) (fun t ht hW => ⟨⟨(1 : Int32), (), rfl, rfl, by rw [ht]; exact hP, hD⟩, hS.F ht⟩) hS.2.2 d_m1023_57
          · replace hf := (if_pos hc).symm.trans hf
            refine lv_iconst (v := (0 : Int32)) hx hb d_m1023_33 (by decide) ?_
            obtain rfl := Option.some.inj hf
            subst hQ
            subst hAe
            exact W.zret (v := (0 : Int32)) hx hb hr (by decide) (fun t ht hW => ⟨⟨(0 : Int32), (), rfl, rfl, by rw [ht]; exact hP, hD⟩, hS.F ht⟩) hS.2.2 d_m1023_34
  exact hgo _ _ hP hS

def f_M_get (p0 : Int32) (p1 : Int32) (p2 : Int32) (mo_many : Int32) (mo_across : Nat → Int32) (mo_down : Nat → Int32) (mo_base : Nat → Int32) (mo_coefficients : Nat → Int32) : Option (Int32 × Int32) :=
  (f_M_isBlock p0 p1 mo_many mo_across mo_down).bind fun z1 =>
  if z1 = 0 then
    some ((0 : Int32), (0 : Int32))
  else
    if p2 < 0 then
      some ((0 : Int32), (0 : Int32))
    else
      if p2 ≤ (63 : Int32) then
        if p0 < 0 ∨ 4 ≤ p0.toNatClampNeg then none else
        if (((64 : Int32) * ((mo_base p0.toNatClampNeg) + p1)) + p2) < 0 ∨ 12288 ≤ (((64 : Int32) * ((mo_base p0.toNatClampNeg) + p1)) + p2).toNatClampNeg then none else
        some (mo_coefficients (((64 : Int32) * ((mo_base p0.toNatClampNeg) + p1)) + p2).toNatClampNeg, (0 : Int32))
      else
        some ((0 : Int32), (0 : Int32))
abbrev w_M_get (cI cB cS cT : ClassId) (a_mo : Nat) (a_mo_across : Nat) (a_mo_down : Nat) (a_mo_base : Nat) (a_mo_coefficients : Nat) (a_mo_h : Nat) (a_mo_v : Nat) (a_mo_ownAcross : Nat) (a_mo_ownDown : Nat) (a_mo_before0 : Nat) (a_mo_draftCounts : Nat) (a_mo_draft : Nat) (a_mo_words : Nat) (a_mo_lengths : Nat) (a_mo_codes : Nat) (a_mo_directOf : Nat) (a_mo_otherOf : Nat) (a_mo_data : Nat) (a_mo_out : Nat) (a_mo_times : Nat) (a_mo_prediction : Nat) (a_mo_runBits : Nat) (a_mo_toCome : Nat) (a_mo_timesKept : Nat) (mo_thrown : Int32) (mo_width : Int32) (mo_height : Int32) (mo_many : Int32) (mo_unitsAcross : Int32) (mo_unitsDown : Int32) (mo_drafts : Int32) (mo_mask : Int32) (mo_first : Int32) (mo_last : Int32) (mo_before : Int32) (mo_bits : Int32) (mo_interval : Int32) (mo_size : Int32) (mo_outs : Int32) (mo_part : Int32) (mo_parted : Int32) (mo_failed : Int32) (mo_counting : Int32) (mo_run : Int32) (mo_runMany : Int32) (mo_comes : Int32) (mo_at : Int32) (mo_taken : Int32) (mo_left : Int32) (mo_fault : Int32) (mo_across : Nat → Int32) (mo_down : Nat → Int32) (mo_base : Nat → Int32) (mo_coefficients : Nat → Int32) : va_W := [(a_mo, .inr (11, [.int mo_thrown, .int mo_width, .int mo_height, .int mo_many, .ref a_mo_h, .ref a_mo_v, .ref a_mo_across, .ref a_mo_down, .ref a_mo_ownAcross, .ref a_mo_ownDown, .ref a_mo_base, .int mo_unitsAcross, .int mo_unitsDown, .ref a_mo_coefficients, .ref a_mo_before0, .ref a_mo_draftCounts, .ref a_mo_draft, .int mo_drafts, .ref a_mo_words, .ref a_mo_lengths, .ref a_mo_codes, .ref a_mo_directOf, .ref a_mo_otherOf, .int mo_mask, .int mo_first, .int mo_last, .int mo_before, .int mo_bits, .int mo_interval, .ref a_mo_data, .int mo_size, .ref a_mo_out, .int mo_outs, .int mo_part, .int mo_parted, .int mo_failed, .int mo_counting, .ref a_mo_times, .ref a_mo_prediction, .int mo_run, .ref a_mo_runBits, .int mo_runMany, .ref a_mo_toCome, .int mo_comes, .int mo_at, .int mo_taken, .int mo_left, .int mo_fault, .ref a_mo_timesKept])), (a_mo_across, .inl (cI, 4, .inl mo_across)), (a_mo_down, .inl (cI, 4, .inl mo_down)), (a_mo_base, .inl (cI, 4, .inl mo_base)), (a_mo_coefficients, .inl (cS, 12288, .inl mo_coefficients))]
def rm_M_get : Room := { frames := 1, cells := 0, slots := 0, locals := 22 }
set_option maxHeartbeats 1000000 in
set_option maxRecDepth 100000 in
theorem c_M_get (l : Launch) (dC : Nat → ClassId) (dI : Nat → Nat → Nat) (cI cB cS cT : ClassId) (a_mo : Nat) (a_mo_across : Nat) (a_mo_down : Nat) (a_mo_base : Nat) (a_mo_coefficients : Nat) (a_mo_h : Nat) (a_mo_v : Nat) (a_mo_ownAcross : Nat) (a_mo_ownDown : Nat) (a_mo_before0 : Nat) (a_mo_draftCounts : Nat) (a_mo_draft : Nat) (a_mo_words : Nat) (a_mo_lengths : Nat) (a_mo_codes : Nat) (a_mo_directOf : Nat) (a_mo_otherOf : Nat) (a_mo_data : Nat) (a_mo_out : Nat) (a_mo_times : Nat) (a_mo_prediction : Nat) (a_mo_runBits : Nat) (a_mo_toCome : Nat) (a_mo_timesKept : Nat) (mo_thrown : Int32) (mo_width : Int32) (mo_height : Int32) (mo_many : Int32) (mo_unitsAcross : Int32) (mo_unitsDown : Int32) (mo_drafts : Int32) (mo_mask : Int32) (mo_first : Int32) (mo_last : Int32) (mo_before : Int32) (mo_bits : Int32) (mo_interval : Int32) (mo_size : Int32) (mo_outs : Int32) (mo_part : Int32) (mo_parted : Int32) (mo_failed : Int32) (mo_counting : Int32) (mo_run : Int32) (mo_runMany : Int32) (mo_comes : Int32) (mo_at : Int32) (mo_taken : Int32) (mo_left : Int32) (mo_fault : Int32) (mo_across : Nat → Int32) (mo_down : Nat → Int32) (mo_base : Nat → Int32) (mo_coefficients : Nat → Int32) (p0 : Int32) (p1 : Int32) (p2 : Int32) (sz : Nat) (z : Int32 × Int32) (hf : f_M_get p0 p1 p2 mo_many mo_across mo_down mo_base mo_coefficients = some z) : Met l y_m1034 ws_m1034 rm_M_get (gPre (dC, dI) [.ref a_mo, .int p0, .int p1, .int p2] (gT cI cB cS cT) (w_M_get cI cB cS cT a_mo a_mo_across a_mo_down a_mo_base a_mo_coefficients a_mo_h a_mo_v a_mo_ownAcross a_mo_ownDown a_mo_before0 a_mo_draftCounts a_mo_draft a_mo_words a_mo_lengths a_mo_codes a_mo_directOf a_mo_otherOf a_mo_data a_mo_out a_mo_times a_mo_prediction a_mo_runBits a_mo_toCome a_mo_timesKept mo_thrown mo_width mo_height mo_many mo_unitsAcross mo_unitsDown mo_drafts mo_mask mo_first mo_last mo_before mo_bits mo_interval mo_size mo_outs mo_part mo_parted mo_failed mo_counting mo_run mo_runMany mo_comes mo_at mo_taken mo_left mo_fault mo_across mo_down mo_base mo_coefficients) sz) (gQi (dC, dI) (gT cI cB cS cT) z.1 (w_M_get cI cB cS cT a_mo a_mo_across a_mo_down a_mo_base a_mo_coefficients a_mo_h a_mo_v a_mo_ownAcross a_mo_ownDown a_mo_before0 a_mo_draftCounts a_mo_draft a_mo_words a_mo_lengths a_mo_codes a_mo_directOf a_mo_otherOf a_mo_data a_mo_out a_mo_times a_mo_prediction a_mo_runBits a_mo_toCome a_mo_timesKept mo_thrown mo_width mo_height mo_many mo_unitsAcross mo_unitsDown mo_drafts mo_mask mo_first mo_last mo_before mo_bits mo_interval mo_size mo_outs mo_part mo_parted mo_failed mo_counting mo_run mo_runMany mo_comes mo_at mo_taken mo_left mo_fault mo_across mo_down mo_base mo_coefficients) (w_M_get cI cB cS cT a_mo a_mo_across a_mo_down a_mo_base a_mo_coefficients a_mo_h a_mo_v a_mo_ownAcross a_mo_ownDown a_mo_before0 a_mo_draftCounts a_mo_draft a_mo_words a_mo_lengths a_mo_codes a_mo_directOf a_mo_otherOf a_mo_data a_mo_out a_mo_times a_mo_prediction a_mo_runBits a_mo_toCome a_mo_timesKept z.2 mo_width mo_height mo_many mo_unitsAcross mo_unitsDown mo_drafts mo_mask mo_first mo_last mo_before mo_bits mo_interval mo_size mo_outs mo_part mo_parted mo_failed mo_counting mo_run mo_runMany mo_comes mo_at mo_taken mo_left mo_fault mo_across mo_down mo_base mo_coefficients) sz) 0 0 (va_A (w_M_get cI cB cS cT a_mo a_mo_across a_mo_down a_mo_base a_mo_coefficients a_mo_h a_mo_v a_mo_ownAcross a_mo_ownDown a_mo_before0 a_mo_draftCounts a_mo_draft a_mo_words a_mo_lengths a_mo_codes a_mo_directOf a_mo_otherOf a_mo_data a_mo_out a_mo_times a_mo_prediction a_mo_runBits a_mo_toCome a_mo_timesKept mo_thrown mo_width mo_height mo_many mo_unitsAcross mo_unitsDown mo_drafts mo_mask mo_first mo_last mo_before mo_bits mo_interval mo_size mo_outs mo_part mo_parted mo_failed mo_counting mo_run mo_runMany mo_comes mo_at mo_taken mo_left mo_fault mo_across mo_down mo_base mo_coefficients) sz) := by
  refine Met.ofW (cc := prog_14_method_18_code) (maxL := 4) (ret := (some .int)) (by decide) rfl ?_
  intro p e s m args below meth c s₁ B hml hv
  obtain ⟨hargs, hsz, hP, hKN, hD0⟩ := hv
  have hK := hKN.1
  have hx := B.exec
  have hb := B.bytes
  have hr := B.returns
  have hts := atoms_spec (ws := ws_m1034) B.pre
  have hown : s.vm.findClass "ScanCoderModel" = some m.cls := findClass_of_methodNamed B.named
  have hlocks := B.notSynchronized
  have k0 := hts _ (List.mem_cons_of_mem _ tw_834)
  have k1 := hts _ (List.mem_cons_of_mem _ tw_847)
  have k2 := hts _ (List.mem_cons_of_mem _ tw_844)
  have n0 : ∀ w ∈ u_ws "ScanCoderModel" T_11 49, w ∈ ws_m1034 := fun w h => List.mem_cons_of_mem _ (in_11 w h)
  subst hsz
  have hD := hD0.self (sz := s.heap.size)
  obtain ⟨A, hAe⟩ : ∃ A : Nat → Prop, va_A (w_M_get cI cB cS cT a_mo a_mo_across a_mo_down a_mo_base a_mo_coefficients a_mo_h a_mo_v a_mo_ownAcross a_mo_ownDown a_mo_before0 a_mo_draftCounts a_mo_draft a_mo_words a_mo_lengths a_mo_codes a_mo_directOf a_mo_otherOf a_mo_data a_mo_out a_mo_times a_mo_prediction a_mo_runBits a_mo_toCome a_mo_timesKept mo_thrown mo_width mo_height mo_many mo_unitsAcross mo_unitsDown mo_drafts mo_mask mo_first mo_last mo_before mo_bits mo_interval mo_size mo_outs mo_part mo_parted mo_failed mo_counting mo_run mo_runMany mo_comes mo_at mo_taken mo_left mo_fault mo_across mo_down mo_base mo_coefficients) s.heap.size = A := ⟨_, rfl⟩
  rw [hAe] at hD
  have hA : ∀ q : Nat, s.heap.size ≤ q → A q := fun q h => by rw [← hAe]; exact Or.inr h
  have hS : va_S A s.heap s.heap [] := va_S.rf
  have hl := lv_entry ([.ref a_mo, .int p0, .int p1, .int p2]) (n := 4) (Nat.le_of_ble_eq_true rfl)
  have hfr : entryFrame m args 4 = F0 m 0 ((lg_sl ([.ref a_mo, .int p0, .int p1, .int p2]) ++ List.replicate (4 - (lg_sl ([.ref a_mo, .int p0, .int p1, .int p2])).length) Slot.unset).toArray) [] := by rw [hargs]; exact lg_entry_eq _ _ _
  rw [hfr]
  generalize (lg_sl ([.ref a_mo, .int p0, .int p1, .int p2]) ++ List.replicate (4 - (lg_sl ([.ref a_mo, .int p0, .int p1, .int p2])).length) Slot.unset).toArray = ls at hl ⊢
  have hl : lv_has ls 4 [(0, .ref a_mo), (1, .int p0), (2, .int p1), (3, .int p2)] := hl
  refine gen_Q (fun Q hQ => ?_)
  clear hfr
  have hgo : ∀ (H : Heap) (locs : List Loc), va_P (dC, dI) vwCl (w_M_get cI cB cS cT a_mo a_mo_across a_mo_down a_mo_base a_mo_coefficients a_mo_h a_mo_v a_mo_ownAcross a_mo_ownDown a_mo_before0 a_mo_draftCounts a_mo_draft a_mo_words a_mo_lengths a_mo_codes a_mo_directOf a_mo_otherOf a_mo_data a_mo_out a_mo_times a_mo_prediction a_mo_runBits a_mo_toCome a_mo_timesKept mo_thrown mo_width mo_height mo_many mo_unitsAcross mo_unitsDown mo_drafts mo_mask mo_first mo_last mo_before mo_bits mo_interval mo_size mo_outs mo_part mo_parted mo_failed mo_counting mo_run mo_runMany mo_comes mo_at mo_taken mo_left mo_fault mo_across mo_down mo_base mo_coefficients) H → va_S A s.heap H locs → W p l e (headSpec ws_m1034 rm_M_get).room s m args below meth c H locs 0 0 Q (F0 m 0 ls []) := by
    intro H locs hP hS
    unfold f_M_get at hf
    refine lv_aload_n hx hb d_m1034_0 rfl (lv_at hl 0 rfl) ?_
    refine lv_iconst (v := (0 : Int32)) hx hb d_m1034_1 (by decide) ?_
    refine va_put (D := (dC, dI)) (ci := 11) (v := .int (0 : Int32)) (ty := .int) (C := "ScanCoderModel") (T := T_11) (N := 49) hx hb hts n0 ty_11 tyok_11 nm_11 hown hK hP hD hS 0 rfl rfl 0 (by decide) k0 (fun _ h9 => h9) rfl (by decide +kernel) rfl rfl (Nat.le_of_ble_eq_true rfl) d_m1034_2 (fun H locs hP hD hS => ?_)
    have hP : va_P (dC, dI) vwCl (w_M_get cI cB cS cT a_mo a_mo_across a_mo_down a_mo_base a_mo_coefficients a_mo_h a_mo_v a_mo_ownAcross a_mo_ownDown a_mo_before0 a_mo_draftCounts a_mo_draft a_mo_words a_mo_lengths a_mo_codes a_mo_directOf a_mo_otherOf a_mo_data a_mo_out a_mo_times a_mo_prediction a_mo_runBits a_mo_toCome a_mo_timesKept (0 : Int32) mo_width mo_height mo_many mo_unitsAcross mo_unitsDown mo_drafts mo_mask mo_first mo_last mo_before mo_bits mo_interval mo_size mo_outs mo_part mo_parted mo_failed mo_counting mo_run mo_runMany mo_comes mo_at mo_taken mo_left mo_fault mo_across mo_down mo_base mo_coefficients) H := hP
    have hD : va_D A (w_M_get cI cB cS cT a_mo a_mo_across a_mo_down a_mo_base a_mo_coefficients a_mo_h a_mo_v a_mo_ownAcross a_mo_ownDown a_mo_before0 a_mo_draftCounts a_mo_draft a_mo_words a_mo_lengths a_mo_codes a_mo_directOf a_mo_otherOf a_mo_data a_mo_out a_mo_times a_mo_prediction a_mo_runBits a_mo_toCome a_mo_timesKept (0 : Int32) mo_width mo_height mo_many mo_unitsAcross mo_unitsDown mo_drafts mo_mask mo_first mo_last mo_before mo_bits mo_interval mo_size mo_outs mo_part mo_parted mo_failed mo_counting mo_run mo_runMany mo_comes mo_at mo_taken mo_left mo_fault mo_across mo_down mo_base mo_coefficients) := hD
    refine lv_aload_n hx hb d_m1034_5 rfl (lv_at hl 0 rfl) ?_
    refine lv_iload_n hx hb d_m1034_6 rfl (lv_at hl 1 rfl) ?_
    refine lv_iload_n hx hb d_m1034_7 rfl (lv_at hl 2 rfl) ?_
    obtain ⟨z1, hz1, hf⟩ := ob_bind hf
    refine vp_callSi (g_run (va_runV (As := [.int p0, .int p1]) (rest := []) ⟨hx, hb, hml, hown, hts⟩ (c_M_isBlock l dC dI cI cB cS cT a_mo a_mo_across a_mo_down a_mo_h a_mo_v a_mo_ownAcross a_mo_ownDown a_mo_base a_mo_coefficients a_mo_before0 a_mo_draftCounts a_mo_draft a_mo_words a_mo_lengths a_mo_codes a_mo_directOf a_mo_otherOf a_mo_data a_mo_out a_mo_times a_mo_prediction a_mo_runBits a_mo_toCome a_mo_timesKept (0 : Int32) mo_width mo_height mo_many mo_unitsAcross mo_unitsDown mo_drafts mo_mask mo_first mo_last mo_before mo_bits mo_interval mo_size mo_outs mo_part mo_parted mo_failed mo_counting mo_run mo_runMany mo_comes mo_at mo_taken mo_left mo_fault mo_across mo_down p0 p1 z1 hz1) ⟨(callB_of 2 hts (gi tw_1027 rfl) rfl rfl rfl (hts _ (List.mem_cons_of_mem _ tw_16)) (hts _ (List.mem_cons_of_mem _ tw_1024)) (by decide +kernel) ⟨Nat.le_of_ble_eq_true rfl, Nat.le_of_ble_eq_true rfl⟩), hts _ (List.mem_cons_of_mem _ tw_1026), hts _ (List.mem_cons_of_mem _ ts_m1027)⟩ ⟨gp_blind, va_recv hK hP (ci := 11) (q0 := 0) rfl rfl, gp_at hKN (g_pm hP [0, 1, 2] rfl)⟩ rfl rfl hl.1 rfl (lv_room (Nat.le_of_ble_eq_true rfl)) d_m1034_8 ⟨Nat.zero_le _, Nat.zero_le _⟩)) (fun r hrz1 => ?_)
    have hrz1 := hrz1.symm
    subst hrz1
    refine W.eq (g2 := F0 m 11 ls [.int z1]) rfl ?_
    refine lv_if_eq (tgt := 24) hx hb d_m1034_11 (by decide) (fun hc => ?_) (fun hc => ?_)
    · replace hf := (if_pos hc).symm.trans hf
      refine lv_iconst (v := (0 : Int32)) hx hb d_m1034_24 (by decide) ?_
      refine lv_goto (tgt := 46) hx hb d_m1034_25 (by decide) ?_
      obtain rfl := Option.some.inj hf
      subst hQ
      subst hAe
      exact W.iret (v := (0 : Int32)) hx hb hr (fun t ht hW => ⟨⟨(0 : Int32), (), rfl, rfl, by rw [ht]; exact hP, hD⟩, hS.F ht⟩) hS.2.2 d_m1034_46
    · replace hf := (if_neg hc).symm.trans hf
      refine lv_iload_n hx hb d_m1034_14 rfl (lv_at hl 3 rfl) ?_
      refine lv_if_lt (tgt := 24) hx hb d_m1034_15 (by decide) (fun hc => ?_) (fun hc => ?_)
      · replace hf := (if_pos hc).symm.trans hf
        refine lv_iconst (v := (0 : Int32)) hx hb d_m1034_24 (by decide) ?_
        refine lv_goto (tgt := 46) hx hb d_m1034_25 (by decide) ?_
        obtain rfl := Option.some.inj hf
        subst hQ
        subst hAe
        exact W.iret (v := (0 : Int32)) hx hb hr (fun t ht hW => ⟨⟨(0 : Int32), (), rfl, rfl, by rw [ht]; exact hP, hD⟩, hS.F ht⟩) hS.2.2 d_m1034_46
      · replace hf := (if_neg hc).symm.trans hf
        refine lv_iload_n hx hb d_m1034_18 rfl (lv_at hl 3 rfl) ?_
        refine lv_bipush (v := (63 : Int32)) hx hb d_m1034_19 (by decide) ?_
        refine lv_icmp_le (tgt := 28) hx hb d_m1034_21 (by decide) (fun hc => ?_) (fun hc => ?_)
        · replace hf := (if_pos hc).symm.trans hf
          refine lv_aload_n hx hb d_m1034_28 rfl (lv_at hl 0 rfl) ?_
          refine va_get (D := (dC, dI)) (ci := 11) (v := .ref a_mo_coefficients) (C := "ScanCoderModel") (T := T_11) (N := 49) hx hb hts n0 hown hK hP 0 rfl rfl 13 (by decide) k1 (fun _ h9 => h9) rfl d_m1034_29 ?_
          refine lv_bipush (v := (64 : Int32)) hx hb d_m1034_32 (by decide) ?_
          refine lv_aload_n hx hb d_m1034_34 rfl (lv_at hl 0 rfl) ?_
          refine va_get (D := (dC, dI)) (ci := 11) (v := .ref a_mo_base) (C := "ScanCoderModel") (T := T_11) (N := 49) hx hb hts n0 hown hK hP 0 rfl rfl 10 (by decide) k2 (fun _ h9 => h9) rfl d_m1034_35 ?_
          refine lv_iload_n hx hb d_m1034_38 rfl (lv_at hl 1 rfl) ?_
          obtain ⟨hi, hf⟩ := ob_if hf
          refine va_iald hx hb hK hP 3 0 rfl rfl hi d_m1034_39 ?_
          refine lv_iload_n hx hb d_m1034_40 rfl (lv_at hl 2 rfl) ?_
          refine lv_iadd hx hb d_m1034_41 ?_
          refine lv_imul hx hb d_m1034_42 ?_
          refine lv_iload_n hx hb d_m1034_43 rfl (lv_at hl 3 rfl) ?_
          refine lv_iadd hx hb d_m1034_44 ?_
          obtain ⟨hi, hf⟩ := ob_if hf
          refine va_sald hx hb hK hP 4 2 rfl rfl hi d_m1034_45 ?_
          obtain rfl := Option.some.inj hf
          subst hQ
          subst hAe
          exact W.iret (v := mo_coefficients (((64 : Int32) * ((mo_base p0.toNatClampNeg) + p1)) + p2).toNatClampNeg) hx hb hr (fun t ht hW => ⟨⟨mo_coefficients (((64 : Int32) * ((mo_base p0.toNatClampNeg) + p1)) + p2).toNatClampNeg, (), rfl, rfl, by rw [ht]; exact hP, hD⟩, hS.F ht⟩) hS.2.2 d_m1034_46
        · replace hf := (if_neg hc).symm.trans hf
          refine lv_iconst (v := (0 : Int32)) hx hb d_m1034_24 (by decide) ?_
          refine lv_goto (tgt := 46) hx hb d_m1034_25 (by decide) ?_
          obtain rfl := Option.some.inj hf
          subst hQ
          subst hAe
          exact W.iret (v := (0 : Int32)) hx hb hr (fun t ht hW => ⟨⟨(0 : Int32), (), rfl, rfl, by rw [ht]; exact hP, hD⟩, hS.F ht⟩) hS.2.2 d_m1034_46
  exact hgo _ _ hP hS
