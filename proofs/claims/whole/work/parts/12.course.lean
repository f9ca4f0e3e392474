def f_Course_kindOf_J53 (p0 : Int32) (p1 : Int32) (p3 : Int32) (v4_j53 : Int32) : Option (Int32) :=
  if p0 = 0 then
    if p1 = (63 : Int32) then
      if p3 = 0 then
        if v4_j53 = 0 then
          some (0 : Int32)
        else
          some (-1 : Int32)
      else
        some (-1 : Int32)
    else
      some (-1 : Int32)
  else
    if p0 < 0 then
      some (-1 : Int32)
    else
      if p1 < p0 then
        some (-1 : Int32)
      else
        if p1 ≤ (63 : Int32) then
          if v4_j53 = 0 then
            some (3 : Int32)
          else
            some (4 : Int32)
        else
          some (-1 : Int32)
def f_Course_kindOf_J32 (p0 : Int32) (p1 : Int32) (s0_j32 : Int32) (p3 : Int32) : Option (Int32) :=
  if p0 = 0 then
    if p1 = 0 then
      if s0_j32 = 0 then
        some (1 : Int32)
      else
        some (2 : Int32)
    else
      f_Course_kindOf_J53 p0 p1 p3 s0_j32
  else
    f_Course_kindOf_J53 p0 p1 p3 s0_j32
def f_Course_kindOf_J23 (p2 : Int32) (p0 : Int32) (p1 : Int32) (p3 : Int32) : Option (Int32) :=
  if p2 = 0 then
    f_Course_kindOf_J32 p0 p1 (0 : Int32) p3
  else
    f_Course_kindOf_J32 p0 p1 (1 : Int32) p3
def f_Course_kindOf (p0 : Int32) (p1 : Int32) (p2 : Int32) (p3 : Int32) : Option (Int32) :=
  if p3 < 0 then
    some (-1 : Int32)
  else
    if (9 : Int32) < p3 then
      some (-1 : Int32)
    else
      if p2 = 0 then
        f_Course_kindOf_J23 p2 p0 p1 p3
      else
        if p2 = (p3 + (1 : Int32)) then
          f_Course_kindOf_J23 p2 p0 p1 p3
        else
          some (-1 : Int32)
abbrev w_Course_kindOf (cI cB cS cT : ClassId)  : va_W := []
def rm_Course_kindOf : Room := { frames := 0, cells := 0, slots := 0, locals := 0 }
set_option maxHeartbeats 1000000 in
set_option maxRecDepth 100000 in
theorem c_Course_kindOf (l : Launch) (dC : Nat → ClassId) (dI : Nat → Nat → Nat) (cI cB cS cT : ClassId) (p0 : Int32) (p1 : Int32) (p2 : Int32) (p3 : Int32) (z : Int32) (hf : f_Course_kindOf p0 p1 p2 p3 = some z) : Met l y_m506 ws_m506 rm_Course_kindOf (gPreP (dC, dI) [.int p0, .int p1, .int p2, .int p3] (gT cI cB cS cT) (w_Course_kindOf cI cB cS cT)) (vp_Si (fun r => r = z)) 0 0 (fun _ => False) := by
  refine Met.ofW (cc := prog_5_method_3_code) (maxL := 5) (ret := (some .int)) (by decide) rfl ?_
  intro p e s m args below meth c s₁ B hml hv
  obtain ⟨hargs, hP, hKN⟩ := hv
  have hK := hKN.1
  have hx := B.exec
  have hb := B.bytes
  have hr := B.returns
  have hts := atoms_spec (ws := ws_m506) B.pre
  have hown : s.vm.findClass "ScanCoder$Course" = some m.cls := findClass_of_methodNamed B.named
  have hlocks := B.notSynchronized
  have hl := lv_entry ([.int p0, .int p1, .int p2, .int p3]) (n := 5) (Nat.le_of_ble_eq_true rfl)
  have hfr : entryFrame m args 5 = F0 m 0 ((lg_sl ([.int p0, .int p1, .int p2, .int p3]) ++ List.replicate (5 - (lg_sl ([.int p0, .int p1, .int p2, .int p3])).length) Slot.unset).toArray) [] := by rw [hargs]; exact lg_entry_eq _ _ _
  rw [hfr]
  generalize (lg_sl ([.int p0, .int p1, .int p2, .int p3]) ++ List.replicate (5 - (lg_sl ([.int p0, .int p1, .int p2, .int p3])).length) Slot.unset).toArray = ls at hl ⊢
  have hl : lv_has ls 5 [(0, .int p0), (1, .int p1), (2, .int p2), (3, .int p3)] := hl
  refine gen_Q (fun Q hQ => ?_)
  clear hfr
  have J53 : ∀ (v4_j53 : Int32), f_Course_kindOf_J53 p0 p1 p3 v4_j53 = some z → GP p l e (headSpec ws_m506 rm_Course_kindOf).room s m args below meth c Q 5 53 [(0, .int p0), (1, .int p1), (3, .int p3), (4, .int v4_j53)] [] := by
    intro v4_j53 hf ls hl
    unfold f_Course_kindOf_J53 at hf
    refine lv_iload_n hx hb d_m506_53 rfl (lv_at hl 0 rfl) ?_
    refine lv_if_ne (tgt := 78) hx hb d_m506_54 (by decide) (fun hc => ?_) (fun hc => ?_)
    · replace hf := (if_neg hc).symm.trans hf
      refine lv_iload_n hx hb d_m506_78 rfl (lv_at hl 0 rfl) ?_
      refine lv_if_lt (tgt := 93) hx hb d_m506_79 (by decide) (fun hc => ?_) (fun hc => ?_)
      · replace hf := (if_pos hc).symm.trans hf
        refine lv_iconst (v := (-1 : Int32)) hx hb d_m506_93 (by decide) ?_
        obtain rfl := Option.some.inj hf
        subst hQ
        exact W.iret (v := (-1 : Int32)) hx hb hr (fun t ht hW => ⟨(-1 : Int32), rfl, rfl, ht⟩) (fun q h => by cases h) d_m506_94
      · replace hf := (if_neg hc).symm.trans hf
        refine lv_iload_n hx hb d_m506_82 rfl (lv_at hl 1 rfl) ?_
        refine lv_iload_n hx hb d_m506_83 rfl (lv_at hl 0 rfl) ?_
        refine lv_icmp_lt (tgt := 93) hx hb d_m506_84 (by decide) (fun hc => ?_) (fun hc => ?_)
        · replace hf := (if_pos hc).symm.trans hf
          refine lv_iconst (v := (-1 : Int32)) hx hb d_m506_93 (by decide) ?_
          obtain rfl := Option.some.inj hf
          subst hQ
          exact W.iret (v := (-1 : Int32)) hx hb hr (fun t ht hW => ⟨(-1 : Int32), rfl, rfl, ht⟩) (fun q h => by cases h) d_m506_94
        · replace hf := (if_neg hc).symm.trans hf
          refine lv_iload_n hx hb d_m506_87 rfl (lv_at hl 1 rfl) ?_
          refine lv_bipush (v := (63 : Int32)) hx hb d_m506_88 (by decide) ?_
          refine lv_icmp_le (tgt := 95) hx hb d_m506_90 (by decide) (fun hc => ?_) (fun hc => ?_)
          · replace hf := (if_pos hc).symm.trans hf
            refine lv_iload hx hb d_m506_95 (lv_at hl 3 rfl) ?_
            refine lv_if_eq (tgt := 104) hx hb d_m506_97 (by decide) (fun hc => ?_) (fun hc => ?_)
            · replace hf := (if_pos hc).symm.trans hf
              refine lv_iconst (v := (3 : Int32)) hx hb d_m506_104 (by decide) ?_
              obtain rfl := Option.some.inj hf
              subst hQ
              exact W.iret (v := (3 : Int32)) hx hb hr (fun t ht hW => ⟨(3 : Int32), rfl, rfl, ht⟩) (fun q h => by cases h) d_m506_105
            · replace hf := (if_neg hc).symm.trans hf
              refine lv_iconst (v := (4 : Int32)) hx hb d_m506_100 (by decide) ?_
              refine lv_goto (tgt := 105) hx hb d_m506_101 (by decide) ?_
              obtain rfl := Option.some.inj hf
              subst hQ
              exact W.iret (v := (4 : Int32)) hx hb hr (fun t ht hW => ⟨(4 : Int32), rfl, rfl, ht⟩) (fun q h => by cases h) d_m506_105
          · replace hf := (if_neg hc).symm.trans hf
            refine lv_iconst (v := (-1 : Int32)) hx hb d_m506_93 (by decide) ?_
            obtain rfl := Option.some.inj hf
            subst hQ
            exact W.iret (v := (-1 : Int32)) hx hb hr (fun t ht hW => ⟨(-1 : Int32), rfl, rfl, ht⟩) (fun q h => by cases h) d_m506_94
    · replace hf := (if_pos hc).symm.trans hf
      refine lv_iload_n hx hb d_m506_57 rfl (lv_at hl 1 rfl) ?_
      refine lv_bipush (v := (63 : Int32)) hx hb d_m506_58 (by decide) ?_
      refine lv_icmp_ne (tgt := 76) hx hb d_m506_60 (by decide) (fun hc => ?_) (fun hc => ?_)
      · replace hf := (if_neg hc).symm.trans hf
        refine lv_iconst (v := (-1 : Int32)) hx hb d_m506_76 (by decide) ?_
        obtain rfl := Option.some.inj hf
        subst hQ
        exact W.iret (v := (-1 : Int32)) hx hb hr (fun t ht hW => ⟨(-1 : Int32), rfl, rfl, ht⟩) (fun q h => by cases h) d_m506_77
      · replace hf := (if_pos hc).symm.trans hf
        refine lv_iload_n hx hb d_m506_63 rfl (lv_at hl 2 rfl) ?_
        refine lv_if_ne (tgt := 76) hx hb d_m506_64 (by decide) (fun hc => ?_) (fun hc => ?_)
        · replace hf := (if_neg hc).symm.trans hf
          refine lv_iconst (v := (-1 : Int32)) hx hb d_m506_76 (by decide) ?_
          obtain rfl := Option.some.inj hf
          subst hQ
          exact W.iret (v := (-1 : Int32)) hx hb hr (fun t ht hW => ⟨(-1 : Int32), rfl, rfl, ht⟩) (fun q h => by cases h) d_m506_77
        · replace hf := (if_pos hc).symm.trans hf
          refine lv_iload hx hb d_m506_67 (lv_at hl 3 rfl) ?_
          refine lv_if_ne (tgt := 76) hx hb d_m506_69 (by decide) (fun hc => ?_) (fun hc => ?_)
          · replace hf := (if_neg hc).symm.trans hf
            refine lv_iconst (v := (-1 : Int32)) hx hb d_m506_76 (by decide) ?_
            obtain rfl := Option.some.inj hf
            subst hQ
            exact W.iret (v := (-1 : Int32)) hx hb hr (fun t ht hW => ⟨(-1 : Int32), rfl, rfl, ht⟩) (fun q h => by cases h) d_m506_77
          · replace hf := (if_pos hc).symm.trans hf
            refine lv_iconst (v := (0 : Int32)) hx hb d_m506_72 (by decide) ?_
            refine lv_goto (tgt := 77) hx hb d_m506_73 (by decide) ?_
            obtain rfl := Option.some.inj hf
            subst hQ
            exact W.iret (v := (0 : Int32)) hx hb hr (fun t ht hW => ⟨(0 : Int32), rfl, rfl, ht⟩) (fun q h => by cases h) d_m506_77
  have J32 : ∀ (s0_j32 : Int32), f_Course_kindOf_J32 p0 p1 s0_j32 p3 = some z → GP p l e (headSpec ws_m506 rm_Course_kindOf).room s m args below meth c Q 5 32 [(0, .int p0), (1, .int p1), (3, .int p3)] [.int s0_j32] := by
    intro s0_j32 hf ls hl
    unfold f_Course_kindOf_J32 at hf
    refine lv_istore (lv' := [(4, .int s0_j32), (0, .int p0), (1, .int p1), (3, .int p3)]) hx hb d_m506_32 hl (by decide) rfl (fun ls hl => ?_)
    refine lv_iload_n hx hb d_m506_34 rfl (lv_at hl 1 rfl) ?_
    refine lv_if_ne (tgt := 53) hx hb d_m506_35 (by decide) (fun hc => ?_) (fun hc => ?_)
    · replace hf := (if_neg hc).symm.trans hf
      exact J53 s0_j32 hf ls (lv_sub hl [1, 2, 3, 0] rfl)
    · replace hf := (if_pos hc).symm.trans hf
      refine lv_iload_n hx hb d_m506_38 rfl (lv_at hl 2 rfl) ?_
      refine lv_if_ne (tgt := 53) hx hb d_m506_39 (by decide) (fun hc => ?_) (fun hc => ?_)
      · replace hf := (if_neg hc).symm.trans hf
        exact J53 s0_j32 hf ls (lv_sub hl [1, 2, 3, 0] rfl)
      · replace hf := (if_pos hc).symm.trans hf
        refine lv_iload hx hb d_m506_42 (lv_at hl 0 rfl) ?_
        refine lv_if_eq (tgt := 51) hx hb d_m506_44 (by decide) (fun hc => ?_) (fun hc => ?_)
        · replace hf := (if_pos hc).symm.trans hf
          refine lv_iconst (v := (1 : Int32)) hx hb d_m506_51 (by decide) ?_
          obtain rfl := Option.some.inj hf
          subst hQ
          exact W.iret (v := (1 : Int32)) hx hb hr (fun t ht hW => ⟨(1 : Int32), rfl, rfl, ht⟩) (fun q h => by cases h) d_m506_52
        · replace hf := (if_neg hc).symm.trans hf
          refine lv_iconst (v := (2 : Int32)) hx hb d_m506_47 (by decide) ?_
          refine lv_goto (tgt := 52) hx hb d_m506_48 (by decide) ?_
          obtain rfl := Option.some.inj hf
          subst hQ
          exact W.iret (v := (2 : Int32)) hx hb hr (fun t ht hW => ⟨(2 : Int32), rfl, rfl, ht⟩) (fun q h => by cases h) d_m506_52
  have J23 : ∀ (_ : Unit), f_Course_kindOf_J23 p2 p0 p1 p3 = some z → GP p l e (headSpec ws_m506 rm_Course_kindOf).room s m args below meth c Q 5 23 [(0, .int p0), (1, .int p1), (2, .int p2), (3, .int p3)] [] := by
    intro _ hf ls hl
    unfold f_Course_kindOf_J23 at hf
    refine lv_iload_n hx hb d_m506_23 rfl (lv_at hl 2 rfl) ?_
    refine lv_if_eq (tgt := 31) hx hb d_m506_24 (by decide) (fun hc => ?_) (fun hc => ?_)
    · replace hf := (if_pos hc).symm.trans hf
      refine lv_iconst (v := (0 : Int32)) hx hb d_m506_31 (by decide) ?_
      exact J32 (0 : Int32) hf ls (lv_sub hl [0, 1, 3] rfl)
    · replace hf := (if_neg hc).symm.trans hf
      refine lv_iconst (v := (1 : Int32)) hx hb d_m506_27 (by decide) ?_
      refine lv_goto (tgt := 32) hx hb d_m506_28 (by decide) ?_
      exact J32 (1 : Int32) hf ls (lv_sub hl [0, 1, 3] rfl)
  unfold f_Course_kindOf at hf
  refine lv_iload_n hx hb d_m506_0 rfl (lv_at hl 3 rfl) ?_
  refine lv_if_lt (tgt := 21) hx hb d_m506_1 (by decide) (fun hc => ?_) (fun hc => ?_)
  · replace hf := (if_pos hc).symm.trans hf
    refine lv_iconst (v := (-1 : Int32)) hx hb d_m506_21 (by decide) ?_
    obtain rfl := Option.some.inj hf
    subst hQ
    exact W.iret (v := (-1 : Int32)) hx hb hr (fun t ht hW => ⟨(-1 : Int32), rfl, rfl, ht⟩) (fun q h => by cases h) d_m506_22
  · replace hf := (if_neg hc).symm.trans hf
    refine lv_iload_n hx hb d_m506_4 rfl (lv_at hl 3 rfl) ?_
    refine lv_bipush (v := (9 : Int32)) hx hb d_m506_5 (by decide) ?_
    refine lv_icmp_gt (tgt := 21) hx hb d_m506_7 (by decide) (fun hc => ?_) (fun hc => ?_)
    · replace hf := (if_pos hc).symm.trans hf
      refine lv_iconst (v := (-1 : Int32)) hx hb d_m506_21 (by decide) ?_
      obtain rfl := Option.some.inj hf
      subst hQ
      exact W.iret (v := (-1 : Int32)) hx hb hr (fun t ht hW => ⟨(-1 : Int32), rfl, rfl, ht⟩) (fun q h => by cases h) d_m506_22
    · replace hf := (if_neg hc).symm.trans hf
      refine lv_iload_n hx hb d_m506_10 rfl (lv_at hl 2 rfl) ?_
      refine lv_if_eq (tgt := 23) hx hb d_m506_11 (by decide) (fun hc => ?_) (fun hc => ?_)
      · replace hf := (if_pos hc).symm.trans hf
        exact J23 () hf ls hl
      · replace hf := (if_neg hc).symm.trans hf
        refine lv_iload_n hx hb d_m506_14 rfl (lv_at hl 2 rfl) ?_
        refine lv_iload_n hx hb d_m506_15 rfl (lv_at hl 3 rfl) ?_
        refine lv_iconst (v := (1 : Int32)) hx hb d_m506_16 (by decide) ?_
        refine lv_iadd hx hb d_m506_17 ?_
        refine lv_icmp_eq (tgt := 23) hx hb d_m506_18 (by decide) (fun hc => ?_) (fun hc => ?_)
        · replace hf := (if_pos hc).symm.trans hf
          exact J23 () hf ls hl
        · replace hf := (if_neg hc).symm.trans hf
          refine lv_iconst (v := (-1 : Int32)) hx hb d_m506_21 (by decide) ?_
          obtain rfl := Option.some.inj hf
          subst hQ
          exact W.iret (v := (-1 : Int32)) hx hb hr (fun t ht hW => ⟨(-1 : Int32), rfl, rfl, ht⟩) (fun q h => by cases h) d_m506_22
def f_Course_allows_J28 (p1 : Int32) : Option (Int32) :=
  (f_Integer_bitCount p1).bind fun z1 =>
  if z1 = (1 : Int32) then
    some (1 : Int32)
  else
    some (0 : Int32)
def f_Course_allows (p0 : Int32) (p1 : Int32) (pic_many : Int32) : Option (Int32) :=
  if p1 = 0 then
    some (0 : Int32)
  else
    if ((p1.toUInt32 >>> (pic_many.toUInt32 &&& Int32.toUInt32 31)).toInt32) = 0 then
      if p0 = (3 : Int32) then
        f_Course_allows_J28 p1
      else
        if p0 = (4 : Int32) then
          f_Course_allows_J28 p1
        else
          some (1 : Int32)
    else
      some (0 : Int32)
abbrev w_Course_allows (cI cB cS cT : ClassId) (a_pic : Nat) (a_crs : Nat) (a_pic_h : Nat) (a_pic_v : Nat) (a_pic_ac : Nat) (a_pic_dn : Nat) (a_pic_oa : Nat) (a_pic_od : Nat) (a_pic_st : Nat) (a_pic_co : Nat) (a_crs_ow : Nat) (a_crs_pl : Nat) (a_crs_dt : Nat) (a_crs_ot : Nat) (pic_many : Int32) (pic_unitsAcross : Int32) (pic_unitsDown : Int32) (pic_blocks : Int32) (crs_kind : Int32) (crs_first : Int32) (crs_last : Int32) (crs_bits : Int32) (crs_interval : Int32) (crs_units : Int32) (crs_blocksOfUnit : Int32) (crs_laid : Int32) : va_W := [(a_pic, .inr (8, [.ref a_pic_h, .ref a_pic_v, .ref a_pic_ac, .ref a_pic_dn, .ref a_pic_oa, .ref a_pic_od, .ref a_pic_st, .int pic_many, .int pic_unitsAcross, .int pic_unitsDown, .int pic_blocks, .ref a_pic_co])), (a_crs, .inr (4, [.ref a_pic, .ref a_crs_ow, .ref a_crs_pl, .ref a_crs_dt, .ref a_crs_ot, .int crs_kind, .int crs_first, .int crs_last, .int crs_bits, .int crs_interval, .int crs_units, .int crs_blocksOfUnit, .int crs_laid]))]
def rm_Course_allows : Room := { frames := 1, cells := 0, slots := 0, locals := 20 }
set_option maxHeartbeats 1000000 in
set_option maxRecDepth 100000 in
theorem c_Course_allows (l : Launch) (dC : Nat → ClassId) (dI : Nat → Nat → Nat) (cI cB cS cT : ClassId) (a_pic : Nat) (a_crs : Nat) (a_pic_h : Nat) (a_pic_v : Nat) (a_pic_ac : Nat) (a_pic_dn : Nat) (a_pic_oa : Nat) (a_pic_od : Nat) (a_pic_st : Nat) (a_pic_co : Nat) (a_crs_ow : Nat) (a_crs_pl : Nat) (a_crs_dt : Nat) (a_crs_ot : Nat) (pic_many : Int32) (pic_unitsAcross : Int32) (pic_unitsDown : Int32) (pic_blocks : Int32) (crs_kind : Int32) (crs_first : Int32) (crs_last : Int32) (crs_bits : Int32) (crs_interval : Int32) (crs_units : Int32) (crs_blocksOfUnit : Int32) (crs_laid : Int32) (p0 : Int32) (p1 : Int32) (z : Int32) (hf : f_Course_allows p0 p1 pic_many = some z) : Met l y_m510 ws_m510 rm_Course_allows (gPreP (dC, dI) [.ref a_crs, .int p0, .int p1] (gT cI cB cS cT) (w_Course_allows cI cB cS cT a_pic a_crs a_pic_h a_pic_v a_pic_ac a_pic_dn a_pic_oa a_pic_od a_pic_st a_pic_co a_crs_ow a_crs_pl a_crs_dt a_crs_ot pic_many pic_unitsAcross pic_unitsDown pic_blocks crs_kind crs_first crs_last crs_bits crs_interval crs_units crs_blocksOfUnit crs_laid)) (vp_Si (fun r => r = z)) 0 0 (fun _ => False) := by
  refine Met.ofW (cc := prog_5_method_4_code) (maxL := 3) (ret := (some .boolean)) (by decide) rfl ?_
  intro p e s m args below meth c s₁ B hml hv
  obtain ⟨hargs, hP, hKN⟩ := hv
  have hK := hKN.1
  have hx := B.exec
  have hb := B.bytes
  have hr := B.returns
  have hts := atoms_spec (ws := ws_m510) B.pre
  have hown : s.vm.findClass "ScanCoder$Course" = some m.cls := findClass_of_methodNamed B.named
  have hlocks := B.notSynchronized
  have k0 := hts _ (List.mem_cons_of_mem _ tw_157)
  have k1 := hts _ (List.mem_cons_of_mem _ tw_70)
  have n0 : ∀ w ∈ u_ws "ScanCoder$Course" T_4 13, w ∈ ws_m510 := fun w h => List.mem_cons_of_mem _ (in_4 w h)
  have n1 : ∀ w ∈ u_ws "ScanCoder$Picture" T_8 12, w ∈ ws_m510 := fun w h => List.mem_cons_of_mem _ (in_8 w h)
  have hl := lv_entry ([.ref a_crs, .int p0, .int p1]) (n := 3) (Nat.le_of_ble_eq_true rfl)
  have hfr : entryFrame m args 3 = F0 m 0 ((lg_sl ([.ref a_crs, .int p0, .int p1]) ++ List.replicate (3 - (lg_sl ([.ref a_crs, .int p0, .int p1])).length) Slot.unset).toArray) [] := by rw [hargs]; exact lg_entry_eq _ _ _
  rw [hfr]
  generalize (lg_sl ([.ref a_crs, .int p0, .int p1]) ++ List.replicate (3 - (lg_sl ([.ref a_crs, .int p0, .int p1])).length) Slot.unset).toArray = ls at hl ⊢
  have hl : lv_has ls 3 [(0, .ref a_crs), (1, .int p0), (2, .int p1)] := hl
  refine gen_Q (fun Q hQ => ?_)
  clear hfr
  have J28 : ∀ (_ : Unit), f_Course_allows_J28 p1 = some z → GP p l e (headSpec ws_m510 rm_Course_allows).room s m args below meth c Q 3 28 [(2, .int p1)] [] := by
    intro _ hf ls hl
    unfold f_Course_allows_J28 at hf
    refine lv_iload_n hx hb d_m510_28 rfl (lv_at hl 0 rfl) ?_
    obtain ⟨z1, hz1, hf⟩ := ob_bind hf
    refine vp_callSi (g_run (va_runS (As := [.int p1]) (rest := []) ⟨hx, hb, hml, hown, hts⟩ (c_Integer_bitCount l dC dI cI cB cS cT p1 z1 hz1) ⟨(callB_of 1 hts (gi tw_133 rfl) rfl rfl rfl (hts _ (List.mem_cons_of_mem _ tw_6)) (hts _ (List.mem_cons_of_mem _ tw_131)) (by decide +kernel) ⟨Nat.le_of_ble_eq_true rfl, Nat.le_of_ble_eq_true rfl⟩), hts _ (List.mem_cons_of_mem _ tw_132)⟩ ⟨gp_blind, gp_at hKN (g_pm hP [] rfl)⟩ rfl rfl hl.1 rfl (lv_room (Nat.le_of_ble_eq_true rfl)) d_m510_29 ⟨Nat.zero_le _, Nat.zero_le _⟩)) (fun r hrz1 => ?_)
    have hrz1 := hrz1.symm
    subst hrz1
    refine W.eq (g2 := F0 m 32 ls [.int z1]) rfl ?_
    refine lv_iconst (v := (1 : Int32)) hx hb d_m510_32 (by decide) ?_
    refine lv_icmp_ne (tgt := 40) hx hb d_m510_33 (by decide) (fun hc => ?_) (fun hc => ?_)
    · replace hf := (if_neg hc).symm.trans hf
      refine lv_iconst (v := (0 : Int32)) hx hb d_m510_40 (by decide) ?_
      obtain rfl := Option.some.inj hf
      subst hQ
      exact W.zret (v := (0 : Int32)) hx hb hr (by decide) (fun t ht hW => ⟨(0 : Int32), rfl, rfl, ht⟩) (fun q h => by cases h) d_m510_41
    · replace hf := (if_pos hc).symm.trans hf
      refine lv_iconst (v := (1 : Int32)) hx hb d_m510_36 (by decide) ?_
      refine lv_goto (tgt := 41) hx hb d_m510_37 (by decide) ?_
      obtain rfl := Option.some.inj hf
      subst hQ
      exact W.zret (v := (1 : Int32)) hx hb hr (by decide) (fun t ht hW => ⟨(1 : Int32), rfl, rfl, ht⟩) (fun q h => by cases h) d_m510_41
  unfold f_Course_allows at hf
  refine lv_iload_n hx hb d_m510_0 rfl (lv_at hl 2 rfl) ?_
  refine lv_if_eq (tgt := 16) hx hb d_m510_1 (by decide) (fun hc => ?_) (fun hc => ?_)
  · replace hf := (if_pos hc).symm.trans hf
    refine lv_iconst (v := (0 : Int32)) hx hb d_m510_16 (by decide) ?_
    obtain rfl := Option.some.inj hf
    subst hQ
    exact W.zret (v := (0 : Int32)) hx hb hr (by decide) (fun t ht hW => ⟨(0 : Int32), rfl, rfl, ht⟩) (fun q h => by cases h) d_m510_17
  · replace hf := (if_neg hc).symm.trans hf
    refine lv_iload_n hx hb d_m510_4 rfl (lv_at hl 2 rfl) ?_
    refine lv_aload_n hx hb d_m510_5 rfl (lv_at hl 0 rfl) ?_
    refine va_get (D := (dC, dI)) (ci := 4) (v := .ref a_pic) (C := "ScanCoder$Course") (T := T_4) (N := 13) hx hb hts n0 hown hK hP 1 rfl rfl 0 (by decide) k0 (fun _ h9 => h9) rfl d_m510_6 ?_
    refine va_get (D := (dC, dI)) (ci := 8) (v := .int pic_many) (C := "ScanCoder$Picture") (T := T_8) (N := 12) hx hb hts n1 hown hK hP 0 rfl rfl 7 (by decide) k1 (fun _ h9 => h9) rfl d_m510_9 ?_
    refine lv_iushr hx hb d_m510_12 rfl ?_
    refine lv_if_eq (tgt := 18) hx hb d_m510_13 (by decide) (fun hc => ?_) (fun hc => ?_)
    · replace hf := (if_pos hc).symm.trans hf
      refine lv_iload_n hx hb d_m510_18 rfl (lv_at hl 1 rfl) ?_
      refine lv_iconst (v := (3 : Int32)) hx hb d_m510_19 (by decide) ?_
      refine lv_icmp_eq (tgt := 28) hx hb d_m510_20 (by decide) (fun hc => ?_) (fun hc => ?_)
      · replace hf := (if_pos hc).symm.trans hf
        exact J28 () hf ls (lv_sub hl [2] rfl)
      · replace hf := (if_neg hc).symm.trans hf
        refine lv_iload_n hx hb d_m510_23 rfl (lv_at hl 1 rfl) ?_
        refine lv_iconst (v := (4 : Int32)) hx hb d_m510_24 (by decide) ?_
        refine lv_icmp_ne (tgt := 36) hx hb d_m510_25 (by decide) (fun hc => ?_) (fun hc => ?_)
        · replace hf := (if_neg hc).symm.trans hf
          refine lv_iconst (v := (1 : Int32)) hx hb d_m510_36 (by decide) ?_
          refine lv_goto (tgt := 41) hx hb d_m510_37 (by decide) ?_
          obtain rfl := Option.some.inj hf
          subst hQ
          exact W.zret (v := (1 : Int32)) hx hb hr (by decide) (fun t ht hW => ⟨(1 : Int32), rfl, rfl, ht⟩) (fun q h => by cases h) d_m510_41
        · replace hf := (if_pos hc).symm.trans hf
          exact J28 () hf ls (lv_sub hl [2] rfl)
    · replace hf := (if_neg hc).symm.trans hf
      refine lv_iconst (v := (0 : Int32)) hx hb d_m510_16 (by decide) ?_
      obtain rfl := Option.some.inj hf
      subst hQ
      exact W.zret (v := (0 : Int32)) hx hb hr (by decide) (fun t ht hW => ⟨(0 : Int32), rfl, rfl, ht⟩) (fun q h => by cases h) d_m510_17

def f_Course_choose (p0 : Int32) (p1 : Int32) (p2 : Int32) (p3 : Int32) : Option (Int32 × Int32 × Int32 × Int32) :=
  some (p0, p1, p2, p3)
abbrev w_Course_choose (cI cB cS cT : ClassId) (a_crs : Nat) (a_pic : Nat) (a_crs_ow : Nat) (a_crs_pl : Nat) (a_crs_dt : Nat) (a_crs_ot : Nat) (crs_kind : Int32) (crs_first : Int32) (crs_last : Int32) (crs_bits : Int32) (crs_interval : Int32) (crs_units : Int32) (crs_blocksOfUnit : Int32) (crs_laid : Int32) : va_W := [(a_crs, .inr (4, [.ref a_pic, .ref a_crs_ow, .ref a_crs_pl, .ref a_crs_dt, .ref a_crs_ot, .int crs_kind, .int crs_first, .int crs_last, .int crs_bits, .int crs_interval, .int crs_units, .int crs_blocksOfUnit, .int crs_laid]))]
def rm_Course_choose : Room := { frames := 0, cells := 0, slots := 0, locals := 0 }
set_option maxHeartbeats 1000000 in
set_option maxRecDepth 100000 in
theorem c_Course_choose (l : Launch) (dC : Nat → ClassId) (dI : Nat → Nat → Nat) (cI cB cS cT : ClassId) (a_crs : Nat) (a_pic : Nat) (a_crs_ow : Nat) (a_crs_pl : Nat) (a_crs_dt : Nat) (a_crs_ot : Nat) (crs_kind : Int32) (crs_first : Int32) (crs_last : Int32) (crs_bits : Int32) (crs_interval : Int32) (crs_units : Int32) (crs_blocksOfUnit : Int32) (crs_laid : Int32) (p0 : Int32) (p1 : Int32) (p2 : Int32) (p3 : Int32) (sz : Nat) (z : Int32 × Int32 × Int32 × Int32) (hf : f_Course_choose p0 p1 p2 p3 = some z) : Met l y_m126 ws_m126 rm_Course_choose (gPre (dC, dI) [.ref a_crs, .int p0, .int p1, .int p2, .int p3] (gT cI cB cS cT) (w_Course_choose cI cB cS cT a_crs a_pic a_crs_ow a_crs_pl a_crs_dt a_crs_ot crs_kind crs_first crs_last crs_bits crs_interval crs_units crs_blocksOfUnit crs_laid) sz) (gQv (dC, dI) (gT cI cB cS cT) (w_Course_choose cI cB cS cT a_crs a_pic a_crs_ow a_crs_pl a_crs_dt a_crs_ot crs_kind crs_first crs_last crs_bits crs_interval crs_units crs_blocksOfUnit crs_laid) (w_Course_choose cI cB cS cT a_crs a_pic a_crs_ow a_crs_pl a_crs_dt a_crs_ot z.1 z.2.1 z.2.2.1 z.2.2.2 crs_interval crs_units crs_blocksOfUnit crs_laid) sz) 0 0 (va_A (w_Course_choose cI cB cS cT a_crs a_pic a_crs_ow a_crs_pl a_crs_dt a_crs_ot crs_kind crs_first crs_last crs_bits crs_interval crs_units crs_blocksOfUnit crs_laid) sz) := by
  refine Met.ofW (cc := prog_5_method_5_code) (maxL := 5) (ret := none) (by decide) rfl ?_
  intro p e s m args below meth c s₁ B hml hv
  obtain ⟨hargs, hsz, hP, hKN, hD0⟩ := hv
  have hK := hKN.1
  have hx := B.exec
  have hb := B.bytes
  have hr := B.returns
  have hts := atoms_spec (ws := ws_m126) B.pre
  have hown : s.vm.findClass "ScanCoder$Course" = some m.cls := findClass_of_methodNamed B.named
  have hlocks := B.notSynchronized
  have k0 := hts _ (List.mem_cons_of_mem _ tw_174)
  have k1 := hts _ (List.mem_cons_of_mem _ tw_177)
  have k2 := hts _ (List.mem_cons_of_mem _ tw_178)
  have k3 := hts _ (List.mem_cons_of_mem _ tw_182)
  have n0 : ∀ w ∈ u_ws "ScanCoder$Course" T_4 13, w ∈ ws_m126 := fun w h => List.mem_cons_of_mem _ (in_4 w h)
  subst hsz
  have hD := hD0.self (sz := s.heap.size)
  obtain ⟨A, hAe⟩ : ∃ A : Nat → Prop, va_A (w_Course_choose cI cB cS cT a_crs a_pic a_crs_ow a_crs_pl a_crs_dt a_crs_ot crs_kind crs_first crs_last crs_bits crs_interval crs_units crs_blocksOfUnit crs_laid) s.heap.size = A := ⟨_, rfl⟩
  rw [hAe] at hD
  have hA : ∀ q : Nat, s.heap.size ≤ q → A q := fun q h => by rw [← hAe]; exact Or.inr h
  have hS : va_S A s.heap s.heap [] := va_S.rf
  have hl := lv_entry ([.ref a_crs, .int p0, .int p1, .int p2, .int p3]) (n := 5) (Nat.le_of_ble_eq_true rfl)
  have hfr : entryFrame m args 5 = F0 m 0 ((lg_sl ([.ref a_crs, .int p0, .int p1, .int p2, .int p3]) ++ List.replicate (5 - (lg_sl ([.ref a_crs, .int p0, .int p1, .int p2, .int p3])).length) Slot.unset).toArray) [] := by rw [hargs]; exact lg_entry_eq _ _ _
  rw [hfr]
  generalize (lg_sl ([.ref a_crs, .int p0, .int p1, .int p2, .int p3]) ++ List.replicate (5 - (lg_sl ([.ref a_crs, .int p0, .int p1, .int p2, .int p3])).length) Slot.unset).toArray = ls at hl ⊢
  have hl : lv_has ls 5 [(0, .ref a_crs), (1, .int p0), (2, .int p1), (3, .int p2), (4, .int p3)] := hl
  refine gen_Q (fun Q hQ => ?_)
  clear hfr
  have hgo : ∀ (H : Heap) (locs : List Loc), va_P (dC, dI) vwCl (w_Course_choose cI cB cS cT a_crs a_pic a_crs_ow a_crs_pl a_crs_dt a_crs_ot crs_kind crs_first crs_last crs_bits crs_interval crs_units crs_blocksOfUnit crs_laid) H → va_S A s.heap H locs → W p l e (headSpec ws_m126 rm_Course_choose).room s m args below meth c H locs 0 0 Q (F0 m 0 ls []) := by
    intro H locs hP hS
    unfold f_Course_choose at hf
    refine lv_aload_n hx hb d_m126_0 rfl (lv_at hl 0 rfl) ?_
    refine lv_iload_n hx hb d_m126_1 rfl (lv_at hl 1 rfl) ?_
    refine va_put (D := (dC, dI)) (ci := 4) (v := .int p0) (ty := .int) (C := "ScanCoder$Course") (T := T_4) (N := 13) hx hb hts n0 ty_4 tyok_4 nm_4 hown hK hP hD hS 0 rfl rfl 5 (by decide) k0 (fun _ h9 => h9) rfl (by decide +kernel) rfl rfl (Nat.le_of_ble_eq_true rfl) d_m126_2 (fun H locs hP hD hS => ?_)
    have hP : va_P (dC, dI) vwCl (w_Course_choose cI cB cS cT a_crs a_pic a_crs_ow a_crs_pl a_crs_dt a_crs_ot p0 crs_first crs_last crs_bits crs_interval crs_units crs_blocksOfUnit crs_laid) H := hP
    have hD : va_D A (w_Course_choose cI cB cS cT a_crs a_pic a_crs_ow a_crs_pl a_crs_dt a_crs_ot p0 crs_first crs_last crs_bits crs_interval crs_units crs_blocksOfUnit crs_laid) := hD
    refine lv_aload_n hx hb d_m126_5 rfl (lv_at hl 0 rfl) ?_
    refine lv_iload_n hx hb d_m126_6 rfl (lv_at hl 2 rfl) ?_
    refine va_put (D := (dC, dI)) (ci := 4) (v := .int p1) (ty := .int) (C := "ScanCoder$Course") (T := T_4) (N := 13) hx hb hts n0 ty_4 tyok_4 nm_4 hown hK hP hD hS 0 rfl rfl 6 (by decide) k1 (fun _ h9 => h9) rfl (by decide +kernel) rfl rfl (Nat.le_of_ble_eq_true rfl) d_m126_7 (fun H locs hP hD hS => ?_)
    have hP : va_P (dC, dI) vwCl (w_Course_choose cI cB cS cT a_crs a_pic a_crs_ow a_crs_pl a_crs_dt a_crs_ot p0 p1 crs_last crs_bits crs_interval crs_units crs_blocksOfUnit crs_laid) H := hP
    have hD : va_D A (w_Course_choose cI cB cS cT a_crs a_pic a_crs_ow a_crs_pl a_crs_dt a_crs_ot p0 p1 crs_last crs_bits crs_interval crs_units crs_blocksOfUnit crs_laid) := hD
    refine lv_aload_n hx hb d_m126_10 rfl (lv_at hl 0 rfl) ?_
    refine lv_iload_n hx hb d_m126_11 rfl (lv_at hl 3 rfl) ?_
    refine va_put (D := (dC, dI)) (ci := 4) (v := .int p2) (ty := .int) (C := "ScanCoder$Course") (T := T_4) (N := 13) hx hb hts n0 ty_4 tyok_4 nm_4 hown hK hP hD hS 0 rfl rfl 7 (by decide) k2 (fun _ h9 => h9) rfl (by decide +kernel) rfl rfl (Nat.le_of_ble_eq_true rfl) d_m126_12 (fun H locs hP hD hS => ?_)
    have hP : va_P (dC, dI) vwCl (w_Course_choose cI cB cS cT a_crs a_pic a_crs_ow a_crs_pl a_crs_dt a_crs_ot p0 p1 p2 crs_bits crs_interval crs_units crs_blocksOfUnit crs_laid) H := hP
    have hD : va_D A (w_Course_choose cI cB cS cT a_crs a_pic a_crs_ow a_crs_pl a_crs_dt a_crs_ot p0 p1 p2 crs_bits crs_interval crs_units crs_blocksOfUnit crs_laid) := hD
    refine lv_aload_n hx hb d_m126_15 rfl (lv_at hl 0 rfl) ?_
    refine lv_iload hx hb d_m126_16 (lv_at hl 4 rfl) ?_
    refine va_put (D := (dC, dI)) (ci := 4) (v := .int p3) (ty := .int) (C := "ScanCoder$Course") (T := T_4) (N := 13) hx hb hts n0 ty_4 tyok_4 nm_4 hown hK hP hD hS 0 rfl rfl 8 (by decide) k3 (fun _ h9 => h9) rfl (by decide +kernel) rfl rfl (Nat.le_of_ble_eq_true rfl) d_m126_18 (fun H locs hP hD hS => ?_)
    have hP : va_P (dC, dI) vwCl (w_Course_choose cI cB cS cT a_crs a_pic a_crs_ow a_crs_pl a_crs_dt a_crs_ot p0 p1 p2 p3 crs_interval crs_units crs_blocksOfUnit crs_laid) H := hP
    have hD : va_D A (w_Course_choose cI cB cS cT a_crs a_pic a_crs_ow a_crs_pl a_crs_dt a_crs_ot p0 p1 p2 p3 crs_interval crs_units crs_blocksOfUnit crs_laid) := hD
    obtain rfl := Option.some.inj hf
    subst hQ
    subst hAe
    exact W.vret hx hb hr (fun t ht hW => ⟨⟨(), rfl, trivial, by rw [ht]; exact hP, hD⟩, hS.F ht⟩) hS.2.2 d_m126_21
  exact hgo _ _ hP hS
def f_Course_layRows_J15_97 (N : Nat) (rec : (Int32 × Int32 × (Nat → Int32) × (Nat → Int32)) → Option (Int32 × (Nat → Int32) × (Nat → Int32))) (v7_15 : Int32) (crs_laid_j97 : Int32) (crs_ow_j97 : Nat → Int32) (crs_pl_j97 : Nat → Int32) : Option (Int32 × (Nat → Int32) × (Nat → Int32)) :=
  rec (v7_15 + (1 : Int32), crs_laid_j97, crs_ow_j97, crs_pl_j97)
def f_Course_layRows_L15b (p1 : Int32) (p3 : Int32) (p0 : Int32) (v6_3 : Int32) (pic_ac : Nat → Int32) (pic_many : Int32) (pic_dn : Nat → Int32) (pic_st : Nat → Int32) (N : Nat) (rec : (Int32 × Int32 × (Nat → Int32) × (Nat → Int32)) → Option (Int32 × (Nat → Int32) × (Nat → Int32))) (v7_15 : Int32) (crs_laid_15 : Int32) (crs_ow_15 : Nat → Int32) (crs_pl_15 : Nat → Int32) : Option (Int32 × (Nat → Int32) × (Nat → Int32)) :=
  if (p1 + p3) ≤ v7_15 then
    some (crs_laid_15, crs_ow_15, crs_pl_15)
  else
    if p0 < 0 ∨ 4 ≤ p0.toNatClampNeg then none else
    (f_Picture_placeOf p0 ((v6_3 * (pic_ac p0.toNatClampNeg)) + v7_15) (0 : Int32) pic_many pic_ac pic_dn pic_st).bind fun z1 =>
    if z1 = (-1 : Int32) then
      f_Course_layRows_J15_97 N rec v7_15 crs_laid_15 crs_ow_15 crs_pl_15
    else
      if (192 : Int32) ≤ crs_laid_15 then
        f_Course_layRows_J15_97 N rec v7_15 crs_laid_15 crs_ow_15 crs_pl_15
      else
        if crs_laid_15 < 0 ∨ 192 ≤ crs_laid_15.toNatClampNeg then none else
        if crs_laid_15 < 0 ∨ 192 ≤ crs_laid_15.toNatClampNeg then none else
        f_Course_layRows_J15_97 N rec v7_15 (crs_laid_15 + (1 : Int32)) (upd crs_ow_15 crs_laid_15.toNatClampNeg p0) (upd crs_pl_15 crs_laid_15.toNatClampNeg z1)
def f_Course_layRows_L15 (p1 : Int32) (p3 : Int32) (p0 : Int32) (v6_3 : Int32) (pic_ac : Nat → Int32) (pic_many : Int32) (pic_dn : Nat → Int32) (pic_st : Nat → Int32) (N : Nat) (k : Nat) : (Int32 × Int32 × (Nat → Int32) × (Nat → Int32)) → Option (Int32 × (Nat → Int32) × (Nat → Int32)) := it (fun rec a => f_Course_layRows_L15b p1 p3 p0 v6_3 pic_ac pic_many pic_dn pic_st N rec a.1 a.2.1 a.2.2.1 a.2.2.2) k
def f_Course_layRows_L3b (p2 : Int32) (p4 : Int32) (p1 : Int32) (p3 : Int32) (p0 : Int32) (pic_ac : Nat → Int32) (pic_many : Int32) (pic_dn : Nat → Int32) (pic_st : Nat → Int32) (N : Nat) (rec : (Int32 × Int32 × (Nat → Int32) × (Nat → Int32)) → Option (Int32 × (Nat → Int32) × (Nat → Int32))) (v6_3 : Int32) (crs_laid_3 : Int32) (crs_ow_3 : Nat → Int32) (crs_pl_3 : Nat → Int32) : Option (Int32 × (Nat → Int32) × (Nat → Int32)) :=
  if (p2 + p4) ≤ v6_3 then
    some (crs_laid_3, crs_ow_3, crs_pl_3)
  else
    (f_Course_layRows_L15 p1 p3 p0 v6_3 pic_ac pic_many pic_dn pic_st N N (p1, crs_laid_3, crs_ow_3, crs_pl_3)).bind fun z2 =>
      rec (v6_3 + (1 : Int32), z2.1, z2.2.1, z2.2.2)
def f_Course_layRows_L3 (p2 : Int32) (p4 : Int32) (p1 : Int32) (p3 : Int32) (p0 : Int32) (pic_ac : Nat → Int32) (pic_many : Int32) (pic_dn : Nat → Int32) (pic_st : Nat → Int32) (N : Nat) (k : Nat) : (Int32 × Int32 × (Nat → Int32) × (Nat → Int32)) → Option (Int32 × (Nat → Int32) × (Nat → Int32)) := it (fun rec a => f_Course_layRows_L3b p2 p4 p1 p3 p0 pic_ac pic_many pic_dn pic_st N rec a.1 a.2.1 a.2.2.1 a.2.2.2) k
def f_Course_layRows (N : Nat) (p0 : Int32) (p1 : Int32) (p2 : Int32) (p3 : Int32) (p4 : Int32) (pic_many : Int32) (pic_ac : Nat → Int32) (pic_dn : Nat → Int32) (pic_st : Nat → Int32) (crs_laid : Int32) (crs_ow : Nat → Int32) (crs_pl : Nat → Int32) : Option (Int32 × (Nat → Int32) × (Nat → Int32)) :=
  (f_Course_layRows_L3 p2 p4 p1 p3 p0 pic_ac pic_many pic_dn pic_st N N (p2, crs_laid, crs_ow, crs_pl)).bind fun z3 =>
    some (z3.1, z3.2.1, z3.2.2)
abbrev w_Course_layRows (cI cB cS cT : ClassId) (a_pic : Nat) (a_pic_ac : Nat) (a_pic_dn : Nat) (a_pic_st : Nat) (a_crs : Nat) (a_crs_ow : Nat) (a_crs_pl : Nat) (a_pic_h : Nat) (a_pic_v : Nat) (a_pic_oa : Nat) (a_pic_od : Nat) (a_pic_co : Nat) (a_crs_dt : Nat) (a_crs_ot : Nat) (pic_many : Int32) (pic_unitsAcross : Int32) (pic_unitsDown : Int32) (pic_blocks : Int32) (pic_ac : Nat → Int32) (pic_dn : Nat → Int32) (pic_st : Nat → Int32) (crs_kind : Int32) (crs_first : Int32) (crs_last : Int32) (crs_bits : Int32) (crs_interval : Int32) (crs_units : Int32) (crs_blocksOfUnit : Int32) (crs_laid : Int32) (crs_ow : Nat → Int32) (crs_pl : Nat → Int32) : va_W := [(a_pic, .inr (8, [.ref a_pic_h, .ref a_pic_v, .ref a_pic_ac, .ref a_pic_dn, .ref a_pic_oa, .ref a_pic_od, .ref a_pic_st, .int pic_many, .int pic_unitsAcross, .int pic_unitsDown, .int pic_blocks, .ref a_pic_co])), (a_pic_ac, .inl (cI, 4, .inl pic_ac)), (a_pic_dn, .inl (cI, 4, .inl pic_dn)), (a_pic_st, .inl (cI, 4, .inl pic_st)), (a_crs, .inr (4, [.ref a_pic, .ref a_crs_ow, .ref a_crs_pl, .ref a_crs_dt, .ref a_crs_ot, .int crs_kind, .int crs_first, .int crs_last, .int crs_bits, .int crs_interval, .int crs_units, .int crs_blocksOfUnit, .int crs_laid])), (a_crs_ow, .inl (cI, 192, .inl crs_ow)), (a_crs_pl, .inl (cI, 192, .inl crs_pl))]
def rm_Course_layRows : Room := { frames := 1, cells := 0, slots := 0, locals := 23 }
set_option maxHeartbeats 1000000 in
set_option maxRecDepth 100000 in
theorem c_Course_layRows (l : Launch) (dC : Nat → ClassId) (dI : Nat → Nat → Nat) (cI cB cS cT : ClassId) (N : Nat) (a_pic : Nat) (a_pic_ac : Nat) (a_pic_dn : Nat) (a_pic_st : Nat) (a_crs : Nat) (a_crs_ow : Nat) (a_crs_pl : Nat) (a_pic_h : Nat) (a_pic_v : Nat) (a_pic_oa : Nat) (a_pic_od : Nat) (a_pic_co : Nat) (a_crs_dt : Nat) (a_crs_ot : Nat) (pic_many : Int32) (pic_unitsAcross : Int32) (pic_unitsDown : Int32) (pic_blocks : Int32) (pic_ac : Nat → Int32) (pic_dn : Nat → Int32) (pic_st : Nat → Int32) (crs_kind : Int32) (crs_first : Int32) (crs_last : Int32) (crs_bits : Int32) (crs_interval : Int32) (crs_units : Int32) (crs_blocksOfUnit : Int32) (crs_laid : Int32) (crs_ow : Nat → Int32) (crs_pl : Nat → Int32) (p0 : Int32) (p1 : Int32) (p2 : Int32) (p3 : Int32) (p4 : Int32) (sz : Nat) (z : Int32 × (Nat → Int32) × (Nat → Int32)) (hf : f_Course_layRows N p0 p1 p2 p3 p4 pic_many pic_ac pic_dn pic_st crs_laid crs_ow crs_pl = some z) : Met l y_m144 ws_m144 rm_Course_layRows (gPre (dC, dI) [.ref a_crs, .int p0, .int p1, .int p2, .int p3, .int p4] (gT cI cB cS cT) (w_Course_layRows cI cB cS cT a_pic a_pic_ac a_pic_dn a_pic_st a_crs a_crs_ow a_crs_pl a_pic_h a_pic_v a_pic_oa a_pic_od a_pic_co a_crs_dt a_crs_ot pic_many pic_unitsAcross pic_unitsDown pic_blocks pic_ac pic_dn pic_st crs_kind crs_first crs_last crs_bits crs_interval crs_units crs_blocksOfUnit crs_laid crs_ow crs_pl) sz) (gQv (dC, dI) (gT cI cB cS cT) (w_Course_layRows cI cB cS cT a_pic a_pic_ac a_pic_dn a_pic_st a_crs a_crs_ow a_crs_pl a_pic_h a_pic_v a_pic_oa a_pic_od a_pic_co a_crs_dt a_crs_ot pic_many pic_unitsAcross pic_unitsDown pic_blocks pic_ac pic_dn pic_st crs_kind crs_first crs_last crs_bits crs_interval crs_units crs_blocksOfUnit crs_laid crs_ow crs_pl) (w_Course_layRows cI cB cS cT a_pic a_pic_ac a_pic_dn a_pic_st a_crs a_crs_ow a_crs_pl a_pic_h a_pic_v a_pic_oa a_pic_od a_pic_co a_crs_dt a_crs_ot pic_many pic_unitsAcross pic_unitsDown pic_blocks pic_ac pic_dn pic_st crs_kind crs_first crs_last crs_bits crs_interval crs_units crs_blocksOfUnit z.1 z.2.1 z.2.2) sz) 0 0 (va_A (w_Course_layRows cI cB cS cT a_pic a_pic_ac a_pic_dn a_pic_st a_crs a_crs_ow a_crs_pl a_pic_h a_pic_v a_pic_oa a_pic_od a_pic_co a_crs_dt a_crs_ot pic_many pic_unitsAcross pic_unitsDown pic_blocks pic_ac pic_dn pic_st crs_kind crs_first crs_last crs_bits crs_interval crs_units crs_blocksOfUnit crs_laid crs_ow crs_pl) sz) := by
  refine Met.ofW (cc := prog_5_method_10_code) (maxL := 9) (ret := none) (by decide) rfl ?_
  intro p e s m args below meth c s₁ B hml hv
  obtain ⟨hargs, hsz, hP, hKN, hD0⟩ := hv
  have hK := hKN.1
  have hx := B.exec
  have hb := B.bytes
  have hr := B.returns
  have hts := atoms_spec (ws := ws_m144) B.pre
  have hown : s.vm.findClass "ScanCoder$Course" = some m.cls := findClass_of_methodNamed B.named
  have hlocks := B.notSynchronized
  have k0 := hts _ (List.mem_cons_of_mem _ tw_157)
  have k1 := hts _ (List.mem_cons_of_mem _ tw_63)
  have k2 := hts _ (List.mem_cons_of_mem _ tw_193)
  have k3 := hts _ (List.mem_cons_of_mem _ tw_158)
  have k4 := hts _ (List.mem_cons_of_mem _ tw_161)
  have n0 : ∀ w ∈ u_ws "ScanCoder$Course" T_4 13, w ∈ ws_m144 := fun w h => List.mem_cons_of_mem _ (in_4 w h)
  have n1 : ∀ w ∈ u_ws "ScanCoder$Picture" T_8 12, w ∈ ws_m144 := fun w h => List.mem_cons_of_mem _ (in_8 w h)
  subst hsz
  have hD := hD0.self (sz := s.heap.size)
  obtain ⟨A, hAe⟩ : ∃ A : Nat → Prop, va_A (w_Course_layRows cI cB cS cT a_pic a_pic_ac a_pic_dn a_pic_st a_crs a_crs_ow a_crs_pl a_pic_h a_pic_v a_pic_oa a_pic_od a_pic_co a_crs_dt a_crs_ot pic_many pic_unitsAcross pic_unitsDown pic_blocks pic_ac pic_dn pic_st crs_kind crs_first crs_last crs_bits crs_interval crs_units crs_blocksOfUnit crs_laid crs_ow crs_pl) s.heap.size = A := ⟨_, rfl⟩
  rw [hAe] at hD
  have hA : ∀ q : Nat, s.heap.size ≤ q → A q := fun q h => by rw [← hAe]; exact Or.inr h
  have hS : va_S A s.heap s.heap [] := va_S.rf
  have hl := lv_entry ([.ref a_crs, .int p0, .int p1, .int p2, .int p3, .int p4]) (n := 9) (Nat.le_of_ble_eq_true rfl)
  have hfr : entryFrame m args 9 = F0 m 0 ((lg_sl ([.ref a_crs, .int p0, .int p1, .int p2, .int p3, .int p4]) ++ List.replicate (9 - (lg_sl ([.ref a_crs, .int p0, .int p1, .int p2, .int p3, .int p4])).length) Slot.unset).toArray) [] := by rw [hargs]; exact lg_entry_eq _ _ _
  rw [hfr]
  generalize (lg_sl ([.ref a_crs, .int p0, .int p1, .int p2, .int p3, .int p4]) ++ List.replicate (9 - (lg_sl ([.ref a_crs, .int p0, .int p1, .int p2, .int p3, .int p4])).length) Slot.unset).toArray = ls at hl ⊢
  have hl : lv_has ls 9 [(0, .ref a_crs), (1, .int p0), (2, .int p1), (3, .int p2), (4, .int p3), (5, .int p4)] := hl
  refine gen_Q (fun Q hQ => ?_)
  clear hfr
  have L15 : ∀ (v6_3 : Int32) (z : Int32 × (Nat → Int32) × (Nat → Int32)), (GW (dC, dI) A p l e (headSpec ws_m144 rm_Course_layRows).room s m args below meth c 0 0 Q 9 103 (w_Course_layRows cI cB cS cT a_pic a_pic_ac a_pic_dn a_pic_st a_crs a_crs_ow a_crs_pl a_pic_h a_pic_v a_pic_oa a_pic_od a_pic_co a_crs_dt a_crs_ot pic_many pic_unitsAcross pic_unitsDown pic_blocks pic_ac pic_dn pic_st crs_kind crs_first crs_last crs_bits crs_interval crs_units crs_blocksOfUnit z.1 z.2.1 z.2.2) [(0, .ref a_crs), (1, .int p0), (2, .int p1), (3, .int p2), (4, .int p3), (5, .int p4), (6, .int v6_3)] []) → ∀ (k : Nat) (v7_15 : Int32) (crs_laid_15 : Int32) (crs_ow_15 : Nat → Int32) (crs_pl_15 : Nat → Int32), f_Course_layRows_L15 p1 p3 p0 v6_3 pic_ac pic_many pic_dn pic_st N k (v7_15, crs_laid_15, crs_ow_15, crs_pl_15) = some z → GW (dC, dI) A p l e (headSpec ws_m144 rm_Course_layRows).room s m args below meth c 0 0 Q 9 15 (w_Course_layRows cI cB cS cT a_pic a_pic_ac a_pic_dn a_pic_st a_crs a_crs_ow a_crs_pl a_pic_h a_pic_v a_pic_oa a_pic_od a_pic_co a_crs_dt a_crs_ot pic_many pic_unitsAcross pic_unitsDown pic_blocks pic_ac pic_dn pic_st crs_kind crs_first crs_last crs_bits crs_interval crs_units crs_blocksOfUnit crs_laid_15 crs_ow_15 crs_pl_15) [(0, .ref a_crs), (1, .int p0), (2, .int p1), (3, .int p2), (4, .int p3), (5, .int p4), (6, .int v6_3), (7, .int v7_15)] [] := by
    intro v6_3 z hE0 k
    induction k with
    | zero =>
      intro v7_15 crs_laid_15 crs_ow_15 crs_pl_15 hf
      exact (it_zero hf).elim
    | succ k ih =>
      intro v7_15 crs_laid_15 crs_ow_15 crs_pl_15 hf H locs ls hP hD hS hl
      have J15_97 : ∀ (crs_laid_j97 : Int32) (crs_ow_j97 : Nat → Int32) (crs_pl_j97 : Nat → Int32), f_Course_layRows_J15_97 N (f_Course_layRows_L15 p1 p3 p0 v6_3 pic_ac pic_many pic_dn pic_st N k) v7_15 crs_laid_j97 crs_ow_j97 crs_pl_j97 = some z → GW (dC, dI) A p l e (headSpec ws_m144 rm_Course_layRows).room s m args below meth c 0 0 Q 9 97 (w_Course_layRows cI cB cS cT a_pic a_pic_ac a_pic_dn a_pic_st a_crs a_crs_ow a_crs_pl a_pic_h a_pic_v a_pic_oa a_pic_od a_pic_co a_crs_dt a_crs_ot pic_many pic_unitsAcross pic_unitsDown pic_blocks pic_ac pic_dn pic_st crs_kind crs_first crs_last crs_bits crs_interval crs_units crs_blocksOfUnit crs_laid_j97 crs_ow_j97 crs_pl_j97) [(0, .ref a_crs), (1, .int p0), (2, .int p1), (3, .int p2), (4, .int p3), (5, .int p4), (6, .int v6_3), (7, .int v7_15)] [] := by
        intro crs_laid_j97 crs_ow_j97 crs_pl_j97 hf H locs ls hP hD hS hl
        unfold f_Course_layRows_J15_97 at hf
        refine lv_iinc (v := v7_15 + (1 : Int32)) (lv' := [(7, .int (v7_15 + (1 : Int32))), (0, .ref a_crs), (1, .int p0), (2, .int p1), (3, .int p2), (4, .int p3), (5, .int p4), (6, .int v6_3)]) hx hb d_m144_97 hl (k := 7) rfl rfl (by decide) rfl (fun ls hl => ?_)
        refine lv_goto (tgt := 15) hx hb d_m144_100 (by decide) ?_
        exact ih (v7_15 + (1 : Int32)) crs_laid_j97 crs_ow_j97 crs_pl_j97 hf H locs ls hP hD hS (lv_sub hl [1, 2, 3, 4, 5, 6, 7, 0] rfl)
      have hf : f_Course_layRows_L15b p1 p3 p0 v6_3 pic_ac pic_many pic_dn pic_st N (f_Course_layRows_L15 p1 p3 p0 v6_3 pic_ac pic_many pic_dn pic_st N k) v7_15 crs_laid_15 crs_ow_15 crs_pl_15 = some z := hf
      unfold f_Course_layRows_L15b at hf
      refine lv_iload hx hb d_m144_15 (lv_at hl 7 rfl) ?_
      refine lv_iload_n hx hb d_m144_17 rfl (lv_at hl 2 rfl) ?_
      refine lv_iload hx hb d_m144_18 (lv_at hl 4 rfl) ?_
      refine lv_iadd hx hb d_m144_20 ?_
      refine lv_icmp_ge (tgt := 103) hx hb d_m144_21 (by decide) (fun hc => ?_) (fun hc => ?_)
      · replace hf := (if_pos hc).symm.trans hf
        obtain rfl := Option.some.inj hf
        exact hE0  H locs ls hP hD hS (lv_sub hl [0, 1, 2, 3, 4, 5, 6] rfl)
      · replace hf := (if_neg hc).symm.trans hf
        refine lv_aload_n hx hb d_m144_24 rfl (lv_at hl 0 rfl) ?_
        refine va_get (D := (dC, dI)) (ci := 4) (v := .ref a_pic) (C := "ScanCoder$Course") (T := T_4) (N := 13) hx hb hts n0 hown hK hP 4 rfl rfl 0 (by decide) k0 (fun _ h9 => h9) rfl d_m144_25 ?_
        refine lv_iload_n hx hb d_m144_28 rfl (lv_at hl 1 rfl) ?_
        refine lv_iload hx hb d_m144_29 (lv_at hl 6 rfl) ?_
        refine lv_aload_n hx hb d_m144_31 rfl (lv_at hl 0 rfl) ?_
        refine va_get (D := (dC, dI)) (ci := 4) (v := .ref a_pic) (C := "ScanCoder$Course") (T := T_4) (N := 13) hx hb hts n0 hown hK hP 4 rfl rfl 0 (by decide) k0 (fun _ h9 => h9) rfl d_m144_32 ?_
        refine va_get (D := (dC, dI)) (ci := 8) (v := .ref a_pic_ac) (C := "ScanCoder$Picture") (T := T_8) (N := 12) hx hb hts n1 hown hK hP 0 rfl rfl 2 (by decide) k1 (fun _ h9 => h9) rfl d_m144_35 ?_
        refine lv_iload_n hx hb d_m144_38 rfl (lv_at hl 1 rfl) ?_
        obtain ⟨hi, hf⟩ := ob_if hf
        refine va_iald hx hb hK hP 1 0 rfl rfl hi d_m144_39 ?_
        refine lv_imul hx hb d_m144_40 ?_
        refine lv_iload hx hb d_m144_41 (lv_at hl 7 rfl) ?_
        refine lv_iadd hx hb d_m144_43 ?_
        refine lv_iconst (v := (0 : Int32)) hx hb d_m144_44 (by decide) ?_
        obtain ⟨z1, hz1, hf⟩ := ob_bind hf
        refine vp_callSi (g_run (va_runV (As := [.int p0, .int ((v6_3 * (pic_ac p0.toNatClampNeg)) + v7_15), .int (0 : Int32)]) (rest := []) ⟨hx, hb, hml, hown, hts⟩ (c_Picture_placeOf l dC dI cI cB cS cT a_pic a_pic_ac a_pic_dn a_pic_st a_pic_h a_pic_v a_pic_oa a_pic_od a_pic_co pic_many pic_unitsAcross pic_unitsDown pic_blocks pic_ac pic_dn pic_st p0 ((v6_3 * (pic_ac p0.toNatClampNeg)) + v7_15) (0 : Int32) z1 hz1) ⟨(callB_of 3 hts (gi tw_148 rfl) rfl rfl rfl (hts _ (List.mem_cons_of_mem _ tw_2)) (hts _ (List.mem_cons_of_mem _ tw_145)) (by decide +kernel) ⟨Nat.le_of_ble_eq_true rfl, Nat.le_of_ble_eq_true rfl⟩), hts _ (List.mem_cons_of_mem _ tw_146), hts _ (List.mem_cons_of_mem _ tw_147)⟩ ⟨gp_blind, va_recv hK hP (ci := 8) (q0 := 0) rfl rfl, gp_at hKN (g_pm hP [0, 1, 2, 3] rfl)⟩ rfl rfl hl.1 rfl (lv_room (Nat.le_of_ble_eq_true rfl)) d_m144_45 ⟨Nat.zero_le _, Nat.zero_le _⟩)) (fun r hrz1 => ?_)
        have hrz1 := hrz1.symm
        subst hrz1
        refine W.eq (g2 := F0 m 48 ls [.int z1]) rfl ?_
        refine lv_istore (lv' := [(8, .int z1), (0, .ref a_crs), (1, .int p0), (2, .int p1), (3, .int p2), (4, .int p3), (5, .int p4), (6, .int v6_3), (7, .int v7_15)]) hx hb d_m144_48 hl (by decide) rfl (fun ls hl => ?_)
        refine lv_iload hx hb d_m144_50 (lv_at hl 0 rfl) ?_
        refine lv_iconst (v := (-1 : Int32)) hx hb d_m144_52 (by decide) ?_
        refine lv_icmp_eq (tgt := 97) hx hb d_m144_53 (by decide) (fun hc => ?_) (fun hc => ?_)
        · replace hf := (if_pos hc).symm.trans hf
          exact J15_97 crs_laid_15 crs_ow_15 crs_pl_15 hf H locs ls hP hD hS (lv_sub hl [1, 2, 3, 4, 5, 6, 7, 8] rfl)
        · replace hf := (if_neg hc).symm.trans hf
          refine lv_aload_n hx hb d_m144_56 rfl (lv_at hl 1 rfl) ?_
          refine va_get (D := (dC, dI)) (ci := 4) (v := .int crs_laid_15) (C := "ScanCoder$Course") (T := T_4) (N := 13) hx hb hts n0 hown hK hP 4 rfl rfl 12 (by decide) k2 (fun _ h9 => h9) rfl d_m144_57 ?_
          refine lv_sipush (v := (192 : Int32)) hx hb d_m144_60 (by decide) ?_
          refine lv_icmp_ge (tgt := 97) hx hb d_m144_63 (by decide) (fun hc => ?_) (fun hc => ?_)
          · replace hf := (if_pos hc).symm.trans hf
            exact J15_97 crs_laid_15 crs_ow_15 crs_pl_15 hf H locs ls hP hD hS (lv_sub hl [1, 2, 3, 4, 5, 6, 7, 8] rfl)
          · replace hf := (if_neg hc).symm.trans hf
            refine lv_aload_n hx hb d_m144_66 rfl (lv_at hl 1 rfl) ?_
            refine va_get (D := (dC, dI)) (ci := 4) (v := .ref a_crs_ow) (C := "ScanCoder$Course") (T := T_4) (N := 13) hx hb hts n0 hown hK hP 4 rfl rfl 1 (by decide) k3 (fun _ h9 => h9) rfl d_m144_67 ?_
            refine lv_aload_n hx hb d_m144_70 rfl (lv_at hl 1 rfl) ?_
            refine va_get (D := (dC, dI)) (ci := 4) (v := .int crs_laid_15) (C := "ScanCoder$Course") (T := T_4) (N := 13) hx hb hts n0 hown hK hP 4 rfl rfl 12 (by decide) k2 (fun _ h9 => h9) rfl d_m144_71 ?_
            refine lv_iload_n hx hb d_m144_74 rfl (lv_at hl 2 rfl) ?_
            obtain ⟨hi, hf⟩ := ob_if hf
            refine va_iast hx hb hK hP hD hS 5 0 rfl rfl hi d_m144_75 (fun H locs hP hD hS => ?_)
            have hP : va_P (dC, dI) vwCl (w_Course_layRows cI cB cS cT a_pic a_pic_ac a_pic_dn a_pic_st a_crs a_crs_ow a_crs_pl a_pic_h a_pic_v a_pic_oa a_pic_od a_pic_co a_crs_dt a_crs_ot pic_many pic_unitsAcross pic_unitsDown pic_blocks pic_ac pic_dn pic_st crs_kind crs_first crs_last crs_bits crs_interval crs_units crs_blocksOfUnit crs_laid_15 (upd crs_ow_15 crs_laid_15.toNatClampNeg p0) crs_pl_15) H := hP
            have hD : va_D A (w_Course_layRows cI cB cS cT a_pic a_pic_ac a_pic_dn a_pic_st a_crs a_crs_ow a_crs_pl a_pic_h a_pic_v a_pic_oa a_pic_od a_pic_co a_crs_dt a_crs_ot pic_many pic_unitsAcross pic_unitsDown pic_blocks pic_ac pic_dn pic_st crs_kind crs_first crs_last crs_bits crs_interval crs_units crs_blocksOfUnit crs_laid_15 (upd crs_ow_15 crs_laid_15.toNatClampNeg p0) crs_pl_15) := hD
            refine lv_aload_n hx hb d_m144_76 rfl (lv_at hl 1 rfl) ?_
            refine va_get (D := (dC, dI)) (ci := 4) (v := .ref a_crs_pl) (C := "ScanCoder$Course") (T := T_4) (N := 13) hx hb hts n0 hown hK hP 4 rfl rfl 2 (by decide) k4 (fun _ h9 => h9) rfl d_m144_77 ?_
            refine lv_aload_n hx hb d_m144_80 rfl (lv_at hl 1 rfl) ?_
            refine va_get (D := (dC, dI)) (ci := 4) (v := .int crs_laid_15) (C := "ScanCoder$Course") (T := T_4) (N := 13) hx hb hts n0 hown hK hP 4 rfl rfl 12 (by decide) k2 (fun _ h9 => h9) rfl d_m144_81 ?_
            refine lv_iload hx hb d_m144_84 (lv_at hl 0 rfl) ?_
            obtain ⟨hi, hf⟩ := ob_if hf
            refine va_iast hx hb hK hP hD hS 6 0 rfl rfl hi d_m144_86 (fun H locs hP hD hS => ?_)
            have hP : va_P (dC, dI) vwCl (w_Course_layRows cI cB cS cT a_pic a_pic_ac a_pic_dn a_pic_st a_crs a_crs_ow a_crs_pl a_pic_h a_pic_v a_pic_oa a_pic_od a_pic_co a_crs_dt a_crs_ot pic_many pic_unitsAcross pic_unitsDown pic_blocks pic_ac pic_dn pic_st crs_kind crs_first crs_last crs_bits crs_interval crs_units crs_blocksOfUnit crs_laid_15 (upd crs_ow_15 crs_laid_15.toNatClampNeg p0) (upd crs_pl_15 crs_laid_15.toNatClampNeg z1)) H := hP
            have hD : va_D A (w_Course_layRows cI cB cS cT a_pic a_pic_ac a_pic_dn a_pic_st a_crs a_crs_ow a_crs_pl a_pic_h a_pic_v a_pic_oa a_pic_od a_pic_co a_crs_dt a_crs_ot pic_many pic_unitsAcross pic_unitsDown pic_blocks pic_ac pic_dn pic_st crs_kind crs_first crs_last crs_bits crs_interval crs_units crs_blocksOfUnit crs_laid_15 (upd crs_ow_15 crs_laid_15.toNatClampNeg p0) (upd crs_pl_15 crs_laid_15.toNatClampNeg z1)) := hD
            refine lv_aload_n hx hb d_m144_87 rfl (lv_at hl 1 rfl) ?_
            refine lv_dup hx hb d_m144_88 rfl ?_
            refine va_get (D := (dC, dI)) (ci := 4) (v := .int crs_laid_15) (C := "ScanCoder$Course") (T := T_4) (N := 13) hx hb hts n0 hown hK hP 4 rfl rfl 12 (by decide) k2 (fun _ h9 => h9) rfl d_m144_89 ?_
            refine lv_iconst (v := (1 : Int32)) hx hb d_m144_92 (by decide) ?_
            refine lv_iadd hx hb d_m144_93 ?_
            refine va_put (D := (dC, dI)) (ci := 4) (v := .int (crs_laid_15 + (1 : Int32))) (ty := .int) (C := "ScanCoder$Course") (T := T_4) (N := 13) hx hb hts n0 ty_4 tyok_4 nm_4 hown hK hP hD hS 4 rfl rfl 12 (by decide) k2 (fun _ h9 => h9) rfl (by decide +kernel) rfl rfl (Nat.le_of_ble_eq_true rfl) d_m144_94 (fun H locs hP hD hS => ?_)
            have hP : va_P (dC, dI) vwCl (w_Course_layRows cI cB cS cT a_pic a_pic_ac a_pic_dn a_pic_st a_crs a_crs_ow a_crs_pl a_pic_h a_pic_v a_pic_oa a_pic_od a_pic_co a_crs_dt a_crs_ot pic_many pic_unitsAcross pic_unitsDown pic_blocks pic_ac pic_dn pic_st crs_kind crs_first crs_last crs_bits crs_interval crs_units crs_blocksOfUnit (crs_laid_15 + (1 : Int32)) (upd crs_ow_15 crs_laid_15.toNatClampNeg p0) (upd crs_pl_15 crs_laid_15.toNatClampNeg z1)) H := hP
            have hD : va_D A (w_Course_layRows cI cB cS cT a_pic a_pic_ac a_pic_dn a_pic_st a_crs a_crs_ow a_crs_pl a_pic_h a_pic_v a_pic_oa a_pic_od a_pic_co a_crs_dt a_crs_ot pic_many pic_unitsAcross pic_unitsDown pic_blocks pic_ac pic_dn pic_st crs_kind crs_first crs_last crs_bits crs_interval crs_units crs_blocksOfUnit (crs_laid_15 + (1 : Int32)) (upd crs_ow_15 crs_laid_15.toNatClampNeg p0) (upd crs_pl_15 crs_laid_15.toNatClampNeg z1)) := hD
            exact J15_97 (crs_laid_15 + (1 : Int32)) (upd crs_ow_15 crs_laid_15.toNatClampNeg p0) (upd crs_pl_15 crs_laid_15.toNatClampNeg z1) hf H locs ls hP hD hS (lv_sub hl [1, 2, 3, 4, 5, 6, 7, 8] rfl)
  have L3 : ∀  (z : Int32 × (Nat → Int32) × (Nat → Int32)), (GW (dC, dI) A p l e (headSpec ws_m144 rm_Course_layRows).room s m args below meth c 0 0 Q 9 109 (w_Course_layRows cI cB cS cT a_pic a_pic_ac a_pic_dn a_pic_st a_crs a_crs_ow a_crs_pl a_pic_h a_pic_v a_pic_oa a_pic_od a_pic_co a_crs_dt a_crs_ot pic_many pic_unitsAcross pic_unitsDown pic_blocks pic_ac pic_dn pic_st crs_kind crs_first crs_last crs_bits crs_interval crs_units crs_blocksOfUnit z.1 z.2.1 z.2.2) [] []) → ∀ (k : Nat) (v6_3 : Int32) (crs_laid_3 : Int32) (crs_ow_3 : Nat → Int32) (crs_pl_3 : Nat → Int32), f_Course_layRows_L3 p2 p4 p1 p3 p0 pic_ac pic_many pic_dn pic_st N k (v6_3, crs_laid_3, crs_ow_3, crs_pl_3) = some z → GW (dC, dI) A p l e (headSpec ws_m144 rm_Course_layRows).room s m args below meth c 0 0 Q 9 3 (w_Course_layRows cI cB cS cT a_pic a_pic_ac a_pic_dn a_pic_st a_crs a_crs_ow a_crs_pl a_pic_h a_pic_v a_pic_oa a_pic_od a_pic_co a_crs_dt a_crs_ot pic_many pic_unitsAcross pic_unitsDown pic_blocks pic_ac pic_dn pic_st crs_kind crs_first crs_last crs_bits crs_interval crs_units crs_blocksOfUnit crs_laid_3 crs_ow_3 crs_pl_3) [(0, .ref a_crs), (1, .int p0), (2, .int p1), (3, .int p2), (4, .int p3), (5, .int p4), (6, .int v6_3)] [] := by
    intro  z hE0 k
    induction k with
    | zero =>
      intro v6_3 crs_laid_3 crs_ow_3 crs_pl_3 hf
      exact (it_zero hf).elim
    | succ k ih =>
      intro v6_3 crs_laid_3 crs_ow_3 crs_pl_3 hf H locs ls hP hD hS hl
      have hf : f_Course_layRows_L3b p2 p4 p1 p3 p0 pic_ac pic_many pic_dn pic_st N (f_Course_layRows_L3 p2 p4 p1 p3 p0 pic_ac pic_many pic_dn pic_st N k) v6_3 crs_laid_3 crs_ow_3 crs_pl_3 = some z := hf
      unfold f_Course_layRows_L3b at hf
      refine lv_iload hx hb d_m144_3 (lv_at hl 6 rfl) ?_
      refine lv_iload_n hx hb d_m144_5 rfl (lv_at hl 3 rfl) ?_
      refine lv_iload hx hb d_m144_6 (lv_at hl 5 rfl) ?_
      refine lv_iadd hx hb d_m144_8 ?_
      refine lv_icmp_ge (tgt := 109) hx hb d_m144_9 (by decide) (fun hc => ?_) (fun hc => ?_)
      · replace hf := (if_pos hc).symm.trans hf
        obtain rfl := Option.some.inj hf
        exact hE0  H locs ls hP hD hS (lv_sub hl [] rfl)
      · replace hf := (if_neg hc).symm.trans hf
        refine lv_iload_n hx hb d_m144_12 rfl (lv_at hl 2 rfl) ?_
        refine lv_istore (lv' := [(7, .int p1), (0, .ref a_crs), (1, .int p0), (2, .int p1), (3, .int p2), (4, .int p3), (5, .int p4), (6, .int v6_3)]) hx hb d_m144_13 hl (by decide) rfl (fun ls hl => ?_)
        obtain ⟨z2, hz2, hf⟩ := ob_bind hf
        refine L15 v6_3 z2 ?_ N p1 crs_laid_3 crs_ow_3 crs_pl_3 hz2 H locs ls hP hD hS (lv_sub hl [1, 2, 3, 4, 5, 6, 7, 0] rfl)
        · intro H locs ls hP hD hS hl
          refine lv_iinc (v := v6_3 + (1 : Int32)) (lv' := [(6, .int (v6_3 + (1 : Int32))), (0, .ref a_crs), (1, .int p0), (2, .int p1), (3, .int p2), (4, .int p3), (5, .int p4)]) hx hb d_m144_103 hl (k := 6) rfl rfl (by decide) rfl (fun ls hl => ?_)
          refine lv_goto (tgt := 3) hx hb d_m144_106 (by decide) ?_
          exact ih (v6_3 + (1 : Int32)) z2.1 z2.2.1 z2.2.2 hf H locs ls hP hD hS (lv_sub hl [1, 2, 3, 4, 5, 6, 0] rfl)
  have hgo : ∀ (H : Heap) (locs : List Loc), va_P (dC, dI) vwCl (w_Course_layRows cI cB cS cT a_pic a_pic_ac a_pic_dn a_pic_st a_crs a_crs_ow a_crs_pl a_pic_h a_pic_v a_pic_oa a_pic_od a_pic_co a_crs_dt a_crs_ot pic_many pic_unitsAcross pic_unitsDown pic_blocks pic_ac pic_dn pic_st crs_kind crs_first crs_last crs_bits crs_interval crs_units crs_blocksOfUnit crs_laid crs_ow crs_pl) H → va_S A s.heap H locs → W p l e (headSpec ws_m144 rm_Course_layRows).room s m args below meth c H locs 0 0 Q (F0 m 0 ls []) := by
    intro H locs hP hS
    unfold f_Course_layRows at hf
    refine lv_iload_n hx hb d_m144_0 rfl (lv_at hl 3 rfl) ?_
    refine lv_istore (lv' := [(6, .int p2), (0, .ref a_crs), (1, .int p0), (2, .int p1), (3, .int p2), (4, .int p3), (5, .int p4)]) hx hb d_m144_1 hl (by decide) rfl (fun ls hl => ?_)
    obtain ⟨z3, hz3, hf⟩ := ob_bind hf
    refine L3  z3 ?_ N p2 crs_laid crs_ow crs_pl hz3 H locs ls hP hD hS (lv_sub hl [1, 2, 3, 4, 5, 6, 0] rfl)
    · intro H locs ls hP hD hS hl
      obtain rfl := Option.some.inj hf
      subst hQ
      subst hAe
      exact W.vret hx hb hr (fun t ht hW => ⟨⟨(), rfl, trivial, by rw [ht]; exact hP, hD⟩, hS.F ht⟩) hS.2.2 d_m144_109
  exact hgo _ _ hP hS
def f_Course_layUnit_J3_67 (N : Nat) (rec : (Int32 × Int32 × (Nat → Int32) × (Nat → Int32)) → Option (Int32 × (Nat → Int32) × (Nat → Int32))) (v4_3 : Int32) (crs_laid_j67 : Int32) (crs_ow_j67 : Nat → Int32) (crs_pl_j67 : Nat → Int32) : Option (Int32 × (Nat → Int32) × (Nat → Int32)) :=
  rec (v4_3 + (1 : Int32), crs_laid_j67, crs_ow_j67, crs_pl_j67)
def f_Course_layUnit_L3b (pic_many : Int32) (p0 : Int32) (p1 : Int32) (pic_h : Nat → Int32) (p2 : Int32) (pic_v : Nat → Int32) (pic_ac : Nat → Int32) (pic_dn : Nat → Int32) (pic_st : Nat → Int32) (N : Nat) (rec : (Int32 × Int32 × (Nat → Int32) × (Nat → Int32)) → Option (Int32 × (Nat → Int32) × (Nat → Int32))) (v4_3 : Int32) (crs_laid_3 : Int32) (crs_ow_3 : Nat → Int32) (crs_pl_3 : Nat → Int32) : Option (Int32 × (Nat → Int32) × (Nat → Int32)) :=
  if pic_many ≤ v4_3 then
    some (crs_laid_3, crs_ow_3, crs_pl_3)
  else
    if ((p0 >>> (v4_3 &&& 31)) &&& (1 : Int32)) = (1 : Int32) then
      if v4_3 < 0 ∨ 4 ≤ v4_3.toNatClampNeg then none else
      if v4_3 < 0 ∨ 4 ≤ v4_3.toNatClampNeg then none else
      (f_Course_layRows N v4_3 (p1 * (pic_h v4_3.toNatClampNeg)) (p2 * (pic_v v4_3.toNatClampNeg)) (pic_h v4_3.toNatClampNeg) (pic_v v4_3.toNatClampNeg) pic_many pic_ac pic_dn pic_st crs_laid_3 crs_ow_3 crs_pl_3).bind fun z1 =>
      f_Course_layUnit_J3_67 N rec v4_3 z1.1 z1.2.1 z1.2.2
    else
      f_Course_layUnit_J3_67 N rec v4_3 crs_laid_3 crs_ow_3 crs_pl_3
def f_Course_layUnit_L3 (pic_many : Int32) (p0 : Int32) (p1 : Int32) (pic_h : Nat → Int32) (p2 : Int32) (pic_v : Nat → Int32) (pic_ac : Nat → Int32) (pic_dn : Nat → Int32) (pic_st : Nat → Int32) (N : Nat) (k : Nat) : (Int32 × Int32 × (Nat → Int32) × (Nat → Int32)) → Option (Int32 × (Nat → Int32) × (Nat → Int32)) := it (fun rec a => f_Course_layUnit_L3b pic_many p0 p1 pic_h p2 pic_v pic_ac pic_dn pic_st N rec a.1 a.2.1 a.2.2.1 a.2.2.2) k
def f_Course_layUnit (N : Nat) (p0 : Int32) (p1 : Int32) (p2 : Int32) (pic_many : Int32) (pic_h : Nat → Int32) (pic_v : Nat → Int32) (pic_ac : Nat → Int32) (pic_dn : Nat → Int32) (pic_st : Nat → Int32) (crs_laid : Int32) (crs_ow : Nat → Int32) (crs_pl : Nat → Int32) : Option (Int32 × (Nat → Int32) × (Nat → Int32)) :=
  (f_Course_layUnit_L3 pic_many p0 p1 pic_h p2 pic_v pic_ac pic_dn pic_st N N ((0 : Int32), crs_laid, crs_ow, crs_pl)).bind fun z2 =>
    some (z2.1, z2.2.1, z2.2.2)
abbrev w_Course_layUnit (cI cB cS cT : ClassId) (a_pic : Nat) (a_pic_h : Nat) (a_pic_v : Nat) (a_pic_ac : Nat) (a_pic_dn : Nat) (a_pic_st : Nat) (a_crs : Nat) (a_crs_ow : Nat) (a_crs_pl : Nat) (a_pic_oa : Nat) (a_pic_od : Nat) (a_pic_co : Nat) (a_crs_dt : Nat) (a_crs_ot : Nat) (pic_many : Int32) (pic_unitsAcross : Int32) (pic_unitsDown : Int32) (pic_blocks : Int32) (pic_h : Nat → Int32) (pic_v : Nat → Int32) (pic_ac : Nat → Int32) (pic_dn : Nat → Int32) (pic_st : Nat → Int32) (crs_kind : Int32) (crs_first : Int32) (crs_last : Int32) (crs_bits : Int32) (crs_interval : Int32) (crs_units : Int32) (crs_blocksOfUnit : Int32) (crs_laid : Int32) (crs_ow : Nat → Int32) (crs_pl : Nat → Int32) : va_W := [(a_pic, .inr (8, [.ref a_pic_h, .ref a_pic_v, .ref a_pic_ac, .ref a_pic_dn, .ref a_pic_oa, .ref a_pic_od, .ref a_pic_st, .int pic_many, .int pic_unitsAcross, .int pic_unitsDown, .int pic_blocks, .ref a_pic_co])), (a_pic_h, .inl (cI, 4, .inl pic_h)), (a_pic_v, .inl (cI, 4, .inl pic_v)), (a_pic_ac, .inl (cI, 4, .inl pic_ac)), (a_pic_dn, .inl (cI, 4, .inl pic_dn)), (a_pic_st, .inl (cI, 4, .inl pic_st)), (a_crs, .inr (4, [.ref a_pic, .ref a_crs_ow, .ref a_crs_pl, .ref a_crs_dt, .ref a_crs_ot, .int crs_kind, .int crs_first, .int crs_last, .int crs_bits, .int crs_interval, .int crs_units, .int crs_blocksOfUnit, .int crs_laid])), (a_crs_ow, .inl (cI, 192, .inl crs_ow)), (a_crs_pl, .inl (cI, 192, .inl crs_pl))]
def rm_Course_layUnit : Room := { frames := 2, cells := 0, slots := 0, locals := 51 }
set_option maxHeartbeats 1000000 in
set_option maxRecDepth 100000 in
theorem c_Course_layUnit (l : Launch) (dC : Nat → ClassId) (dI : Nat → Nat → Nat) (cI cB cS cT : ClassId) (N : Nat) (a_pic : Nat) (a_pic_h : Nat) (a_pic_v : Nat) (a_pic_ac : Nat) (a_pic_dn : Nat) (a_pic_st : Nat) (a_crs : Nat) (a_crs_ow : Nat) (a_crs_pl : Nat) (a_pic_oa : Nat) (a_pic_od : Nat) (a_pic_co : Nat) (a_crs_dt : Nat) (a_crs_ot : Nat) (pic_many : Int32) (pic_unitsAcross : Int32) (pic_unitsDown : Int32) (pic_blocks : Int32) (pic_h : Nat → Int32) (pic_v : Nat → Int32) (pic_ac : Nat → Int32) (pic_dn : Nat → Int32) (pic_st : Nat → Int32) (crs_kind : Int32) (crs_first : Int32) (crs_last : Int32) (crs_bits : Int32) (crs_interval : Int32) (crs_units : Int32) (crs_blocksOfUnit : Int32) (crs_laid : Int32) (crs_ow : Nat → Int32) (crs_pl : Nat → Int32) (p0 : Int32) (p1 : Int32) (p2 : Int32) (sz : Nat) (z : Int32 × (Nat → Int32) × (Nat → Int32)) (hf : f_Course_layUnit N p0 p1 p2 pic_many pic_h pic_v pic_ac pic_dn pic_st crs_laid crs_ow crs_pl = some z) : Met l y_m156 ws_m156 rm_Course_layUnit (gPre (dC, dI) [.ref a_crs, .int p0, .int p1, .int p2] (gT cI cB cS cT) (w_Course_layUnit cI cB cS cT a_pic a_pic_h a_pic_v a_pic_ac a_pic_dn a_pic_st a_crs a_crs_ow a_crs_pl a_pic_oa a_pic_od a_pic_co a_crs_dt a_crs_ot pic_many pic_unitsAcross pic_unitsDown pic_blocks pic_h pic_v pic_ac pic_dn pic_st crs_kind crs_first crs_last crs_bits crs_interval crs_units crs_blocksOfUnit crs_laid crs_ow crs_pl) sz) (gQv (dC, dI) (gT cI cB cS cT) (w_Course_layUnit cI cB cS cT a_pic a_pic_h a_pic_v a_pic_ac a_pic_dn a_pic_st a_crs a_crs_ow a_crs_pl a_pic_oa a_pic_od a_pic_co a_crs_dt a_crs_ot pic_many pic_unitsAcross pic_unitsDown pic_blocks pic_h pic_v pic_ac pic_dn pic_st crs_kind crs_first crs_last crs_bits crs_interval crs_units crs_blocksOfUnit crs_laid crs_ow crs_pl) (w_Course_layUnit cI cB cS cT a_pic a_pic_h a_pic_v a_pic_ac a_pic_dn a_pic_st a_crs a_crs_ow a_crs_pl a_pic_oa a_pic_od a_pic_co a_crs_dt a_crs_ot pic_many pic_unitsAcross pic_unitsDown pic_blocks pic_h pic_v pic_ac pic_dn pic_st crs_kind crs_first crs_last crs_bits crs_interval crs_units crs_blocksOfUnit z.1 z.2.1 z.2.2) sz) 0 0 (va_A (w_Course_layUnit cI cB cS cT a_pic a_pic_h a_pic_v a_pic_ac a_pic_dn a_pic_st a_crs a_crs_ow a_crs_pl a_pic_oa a_pic_od a_pic_co a_crs_dt a_crs_ot pic_many pic_unitsAcross pic_unitsDown pic_blocks pic_h pic_v pic_ac pic_dn pic_st crs_kind crs_first crs_last crs_bits crs_interval crs_units crs_blocksOfUnit crs_laid crs_ow crs_pl) sz) := by
  refine Met.ofW (cc := prog_5_method_9_code) (maxL := 7) (ret := none) (by decide) rfl ?_
  intro p e s m args below meth c s₁ B hml hv
  obtain ⟨hargs, hsz, hP, hKN, hD0⟩ := hv
  have hK := hKN.1
  have hx := B.exec
  have hb := B.bytes
  have hr := B.returns
  have hts := atoms_spec (ws := ws_m156) B.pre
  have hown : s.vm.findClass "ScanCoder$Course" = some m.cls := findClass_of_methodNamed B.named
  have hlocks := B.notSynchronized
  have k0 := hts _ (List.mem_cons_of_mem _ tw_157)
  have k1 := hts _ (List.mem_cons_of_mem _ tw_70)
  have k2 := hts _ (List.mem_cons_of_mem _ tw_59)
  have k3 := hts _ (List.mem_cons_of_mem _ tw_61)
  have n0 : ∀ w ∈ u_ws "ScanCoder$Course" T_4 13, w ∈ ws_m156 := fun w h => List.mem_cons_of_mem _ (in_4 w h)
  have n1 : ∀ w ∈ u_ws "ScanCoder$Picture" T_8 12, w ∈ ws_m156 := fun w h => List.mem_cons_of_mem _ (in_8 w h)
  subst hsz
  have hD := hD0.self (sz := s.heap.size)
  obtain ⟨A, hAe⟩ : ∃ A : Nat → Prop, va_A (w_Course_layUnit cI cB cS cT a_pic a_pic_h a_pic_v a_pic_ac a_pic_dn a_pic_st a_crs a_crs_ow a_crs_pl a_pic_oa a_pic_od a_pic_co a_crs_dt a_crs_ot pic_many pic_unitsAcross pic_unitsDown pic_blocks pic_h pic_v pic_ac pic_dn pic_st crs_kind crs_first crs_last crs_bits crs_interval crs_units crs_blocksOfUnit crs_laid crs_ow crs_pl) s.heap.size = A := ⟨_, rfl⟩
  rw [hAe] at hD
  have hA : ∀ q : Nat, s.heap.size ≤ q → A q := fun q h => by rw [← hAe]; exact Or.inr h
  have hS : va_S A s.heap s.heap [] := va_S.rf
  have hl := lv_entry ([.ref a_crs, .int p0, .int p1, .int p2]) (n := 7) (Nat.le_of_ble_eq_true rfl)
  have hfr : entryFrame m args 7 = F0 m 0 ((lg_sl ([.ref a_crs, .int p0, .int p1, .int p2]) ++ List.replicate (7 - (lg_sl ([.ref a_crs, .int p0, .int p1, .int p2])).length) Slot.unset).toArray) [] := by rw [hargs]; exact lg_entry_eq _ _ _
  rw [hfr]
  generalize (lg_sl ([.ref a_crs, .int p0, .int p1, .int p2]) ++ List.replicate (7 - (lg_sl ([.ref a_crs, .int p0, .int p1, .int p2])).length) Slot.unset).toArray = ls at hl ⊢
  have hl : lv_has ls 7 [(0, .ref a_crs), (1, .int p0), (2, .int p1), (3, .int p2)] := hl
  refine gen_Q (fun Q hQ => ?_)
  clear hfr
  have L3 : ∀  (z : Int32 × (Nat → Int32) × (Nat → Int32)), (GW (dC, dI) A p l e (headSpec ws_m156 rm_Course_layUnit).room s m args below meth c 0 0 Q 7 73 (w_Course_layUnit cI cB cS cT a_pic a_pic_h a_pic_v a_pic_ac a_pic_dn a_pic_st a_crs a_crs_ow a_crs_pl a_pic_oa a_pic_od a_pic_co a_crs_dt a_crs_ot pic_many pic_unitsAcross pic_unitsDown pic_blocks pic_h pic_v pic_ac pic_dn pic_st crs_kind crs_first crs_last crs_bits crs_interval crs_units crs_blocksOfUnit z.1 z.2.1 z.2.2) [] []) → ∀ (k : Nat) (v4_3 : Int32) (crs_laid_3 : Int32) (crs_ow_3 : Nat → Int32) (crs_pl_3 : Nat → Int32), f_Course_layUnit_L3 pic_many p0 p1 pic_h p2 pic_v pic_ac pic_dn pic_st N k (v4_3, crs_laid_3, crs_ow_3, crs_pl_3) = some z → GW (dC, dI) A p l e (headSpec ws_m156 rm_Course_layUnit).room s m args below meth c 0 0 Q 7 3 (w_Course_layUnit cI cB cS cT a_pic a_pic_h a_pic_v a_pic_ac a_pic_dn a_pic_st a_crs a_crs_ow a_crs_pl a_pic_oa a_pic_od a_pic_co a_crs_dt a_crs_ot pic_many pic_unitsAcross pic_unitsDown pic_blocks pic_h pic_v pic_ac pic_dn pic_st crs_kind crs_first crs_last crs_bits crs_interval crs_units crs_blocksOfUnit crs_laid_3 crs_ow_3 crs_pl_3) [(0, .ref a_crs), (1, .int p0), (2, .int p1), (3, .int p2), (4, .int v4_3)] [] := by
    intro  z hE0 k
    induction k with
    | zero =>
      intro v4_3 crs_laid_3 crs_ow_3 crs_pl_3 hf
      exact (it_zero hf).elim
    | succ k ih =>
      intro v4_3 crs_laid_3 crs_ow_3 crs_pl_3 hf H locs ls hP hD hS hl
      have J3_67 : ∀ (crs_laid_j67 : Int32) (crs_ow_j67 : Nat → Int32) (crs_pl_j67 : Nat → Int32), f_Course_layUnit_J3_67 N (f_Course_layUnit_L3 pic_many p0 p1 pic_h p2 pic_v pic_ac pic_dn pic_st N k) v4_3 crs_laid_j67 crs_ow_j67 crs_pl_j67 = some z → GW (dC, dI) A p l e (headSpec ws_m156 rm_Course_layUnit).room s m args below meth c 0 0 Q 7 67 (w_Course_layUnit cI cB cS cT a_pic a_pic_h a_pic_v a_pic_ac a_pic_dn a_pic_st a_crs a_crs_ow a_crs_pl a_pic_oa a_pic_od a_pic_co a_crs_dt a_crs_ot pic_many pic_unitsAcross pic_unitsDown pic_blocks pic_h pic_v pic_ac pic_dn pic_st crs_kind crs_first crs_last crs_bits crs_interval crs_units crs_blocksOfUnit crs_laid_j67 crs_ow_j67 crs_pl_j67) [(0, .ref a_crs), (1, .int p0), (2, .int p1), (3, .int p2), (4, .int v4_3)] [] := by
        intro crs_laid_j67 crs_ow_j67 crs_pl_j67 hf H locs ls hP hD hS hl
        unfold f_Course_layUnit_J3_67 at hf
        refine lv_iinc (v := v4_3 + (1 : Int32)) (lv' := [(4, .int (v4_3 + (1 : Int32))), (0, .ref a_crs), (1, .int p0), (2, .int p1), (3, .int p2)]) hx hb d_m156_67 hl (k := 4) rfl rfl (by decide) rfl (fun ls hl => ?_)
        refine lv_goto (tgt := 3) hx hb d_m156_70 (by decide) ?_
        exact ih (v4_3 + (1 : Int32)) crs_laid_j67 crs_ow_j67 crs_pl_j67 hf H locs ls hP hD hS (lv_sub hl [1, 2, 3, 4, 0] rfl)
      have hf : f_Course_layUnit_L3b pic_many p0 p1 pic_h p2 pic_v pic_ac pic_dn pic_st N (f_Course_layUnit_L3 pic_many p0 p1 pic_h p2 pic_v pic_ac pic_dn pic_st N k) v4_3 crs_laid_3 crs_ow_3 crs_pl_3 = some z := hf
      unfold f_Course_layUnit_L3b at hf
      refine lv_iload hx hb d_m156_3 (lv_at hl 4 rfl) ?_
      refine lv_aload_n hx hb d_m156_5 rfl (lv_at hl 0 rfl) ?_
      refine va_get (D := (dC, dI)) (ci := 4) (v := .ref a_pic) (C := "ScanCoder$Course") (T := T_4) (N := 13) hx hb hts n0 hown hK hP 6 rfl rfl 0 (by decide) k0 (fun _ h9 => h9) rfl d_m156_6 ?_
      refine va_get (D := (dC, dI)) (ci := 8) (v := .int pic_many) (C := "ScanCoder$Picture") (T := T_8) (N := 12) hx hb hts n1 hown hK hP 0 rfl rfl 7 (by decide) k1 (fun _ h9 => h9) rfl d_m156_9 ?_
      refine lv_icmp_ge (tgt := 73) hx hb d_m156_12 (by decide) (fun hc => ?_) (fun hc => ?_)
      · replace hf := (if_pos hc).symm.trans hf
        obtain rfl := Option.some.inj hf
        exact hE0  H locs ls hP hD hS (lv_sub hl [] rfl)
      · replace hf := (if_neg hc).symm.trans hf
        refine lv_iload_n hx hb d_m156_15 rfl (lv_at hl 1 rfl) ?_
        refine lv_iload hx hb d_m156_16 (lv_at hl 4 rfl) ?_
        refine lv_ishr hx hb d_m156_18 ?_
        refine lv_iconst (v := (1 : Int32)) hx hb d_m156_19 (by decide) ?_
        refine lv_iand hx hb d_m156_20 ?_
        refine lv_iconst (v := (1 : Int32)) hx hb d_m156_21 (by decide) ?_
        refine lv_icmp_ne (tgt := 67) hx hb d_m156_22 (by decide) (fun hc => ?_) (fun hc => ?_)
        · replace hf := (if_neg hc).symm.trans hf
          exact J3_67 crs_laid_3 crs_ow_3 crs_pl_3 hf H locs ls hP hD hS hl
        · replace hf := (if_pos hc).symm.trans hf
          refine lv_aload_n hx hb d_m156_25 rfl (lv_at hl 0 rfl) ?_
          refine va_get (D := (dC, dI)) (ci := 4) (v := .ref a_pic) (C := "ScanCoder$Course") (T := T_4) (N := 13) hx hb hts n0 hown hK hP 6 rfl rfl 0 (by decide) k0 (fun _ h9 => h9) rfl d_m156_26 ?_
          refine va_get (D := (dC, dI)) (ci := 8) (v := .ref a_pic_h) (C := "ScanCoder$Picture") (T := T_8) (N := 12) hx hb hts n1 hown hK hP 0 rfl rfl 0 (by decide) k2 (fun _ h9 => h9) rfl d_m156_29 ?_
          refine lv_iload hx hb d_m156_32 (lv_at hl 4 rfl) ?_
          obtain ⟨hi, hf⟩ := ob_if hf
          refine va_iald hx hb hK hP 1 0 rfl rfl hi d_m156_34 ?_
          refine lv_istore (lv' := [(5, .int (pic_h v4_3.toNatClampNeg)), (0, .ref a_crs), (1, .int p0), (2, .int p1), (3, .int p2), (4, .int v4_3)]) hx hb d_m156_35 hl (by decide) rfl (fun ls hl => ?_)
          refine lv_aload_n hx hb d_m156_37 rfl (lv_at hl 1 rfl) ?_
          refine va_get (D := (dC, dI)) (ci := 4) (v := .ref a_pic) (C := "ScanCoder$Course") (T := T_4) (N := 13) hx hb hts n0 hown hK hP 6 rfl rfl 0 (by decide) k0 (fun _ h9 => h9) rfl d_m156_38 ?_
          refine va_get (D := (dC, dI)) (ci := 8) (v := .ref a_pic_v) (C := "ScanCoder$Picture") (T := T_8) (N := 12) hx hb hts n1 hown hK hP 0 rfl rfl 1 (by decide) k3 (fun _ h9 => h9) rfl d_m156_41 ?_
          refine lv_iload hx hb d_m156_44 (lv_at hl 5 rfl) ?_
          obtain ⟨hi, hf⟩ := ob_if hf
          refine va_iald hx hb hK hP 2 0 rfl rfl hi d_m156_46 ?_
          refine lv_istore (lv' := [(6, .int (pic_v v4_3.toNatClampNeg)), (5, .int (pic_h v4_3.toNatClampNeg)), (0, .ref a_crs), (1, .int p0), (2, .int p1), (3, .int p2), (4, .int v4_3)]) hx hb d_m156_47 hl (by decide) rfl (fun ls hl => ?_)
          refine lv_aload_n hx hb d_m156_49 rfl (lv_at hl 2 rfl) ?_
          refine lv_iload hx hb d_m156_50 (lv_at hl 6 rfl) ?_
          refine lv_iload_n hx hb d_m156_52 rfl (lv_at hl 4 rfl) ?_
          refine lv_iload hx hb d_m156_53 (lv_at hl 1 rfl) ?_
          refine lv_imul hx hb d_m156_55 ?_
          refine lv_iload_n hx hb d_m156_56 rfl (lv_at hl 5 rfl) ?_
          refine lv_iload hx hb d_m156_57 (lv_at hl 0 rfl) ?_
          refine lv_imul hx hb d_m156_59 ?_
          refine lv_iload hx hb d_m156_60 (lv_at hl 1 rfl) ?_
          refine lv_iload hx hb d_m156_62 (lv_at hl 0 rfl) ?_
          obtain ⟨z1, hz1, hf⟩ := ob_bind hf
          refine g_callv (wc := (w_Course_layRows cI cB cS cT a_pic a_pic_ac a_pic_dn a_pic_st a_crs a_crs_ow a_crs_pl a_pic_h a_pic_v a_pic_oa a_pic_od a_pic_co a_crs_dt a_crs_ot pic_many pic_unitsAcross pic_unitsDown pic_blocks pic_ac pic_dn pic_st crs_kind crs_first crs_last crs_bits crs_interval crs_units crs_blocksOfUnit crs_laid_3 crs_ow_3 crs_pl_3)) (w1 := (w_Course_layRows cI cB cS cT a_pic a_pic_ac a_pic_dn a_pic_st a_crs a_crs_ow a_crs_pl a_pic_h a_pic_v a_pic_oa a_pic_od a_pic_co a_crs_dt a_crs_ot pic_many pic_unitsAcross pic_unitsDown pic_blocks pic_ac pic_dn pic_st crs_kind crs_first crs_last crs_bits crs_interval crs_units crs_blocksOfUnit z1.1 z1.2.1 z1.2.2)) (w2 := (w_Course_layUnit cI cB cS cT a_pic a_pic_h a_pic_v a_pic_ac a_pic_dn a_pic_st a_crs a_crs_ow a_crs_pl a_pic_oa a_pic_od a_pic_co a_crs_dt a_crs_ot pic_many pic_unitsAcross pic_unitsDown pic_blocks pic_h pic_v pic_ac pic_dn pic_st crs_kind crs_first crs_last crs_bits crs_interval crs_units crs_blocksOfUnit z1.1 z1.2.1 z1.2.2)) [0, 3, 4, 5, 6, 7, 8] [some 0, none, none, some 1, some 2, some 3, some 4, some 5, some 6] hP hD hS hA rfl rfl rfl rfl (va_runV (As := [.int v4_3, .int (p1 * (pic_h v4_3.toNatClampNeg)), .int (p2 * (pic_v v4_3.toNatClampNeg)), .int (pic_h v4_3.toNatClampNeg), .int (pic_v v4_3.toNatClampNeg)]) (rest := []) ⟨hx, hb, hml, hown, hts⟩ (c_Course_layRows l dC dI cI cB cS cT N a_pic a_pic_ac a_pic_dn a_pic_st a_crs a_crs_ow a_crs_pl a_pic_h a_pic_v a_pic_oa a_pic_od a_pic_co a_crs_dt a_crs_ot pic_many pic_unitsAcross pic_unitsDown pic_blocks pic_ac pic_dn pic_st crs_kind crs_first crs_last crs_bits crs_interval crs_units crs_blocksOfUnit crs_laid_3 crs_ow_3 crs_pl_3 v4_3 (p1 * (pic_h v4_3.toNatClampNeg)) (p2 * (pic_v v4_3.toNatClampNeg)) (pic_h v4_3.toNatClampNeg) (pic_v v4_3.toNatClampNeg) H.size z1 hz1) ⟨(callB_of 5 hts (gi tw_144 rfl) rfl rfl rfl (hts _ (List.mem_cons_of_mem _ tw_5)) (hts _ (List.mem_cons_of_mem _ tw_141)) (by decide +kernel) ⟨Nat.le_of_ble_eq_true rfl, Nat.le_of_ble_eq_true rfl⟩), hts _ (List.mem_cons_of_mem _ tw_143), hts _ (List.mem_cons_of_mem _ ts_m144)⟩ ⟨g_blind, va_recv hK hP (ci := 4) (q0 := 6) rfl rfl, g_at hKN (g_pm hP [0, 3, 4, 5, 6, 7, 8] rfl) (hD.sub [0, 3, 4, 5, 6, 7, 8] (by decide) rfl)⟩ rfl rfl hl.1 rfl (lv_room (Nat.le_of_ble_eq_true rfl)) d_m156_64 ⟨Nat.zero_le _, Nat.zero_le _⟩) (fun H locs hP hD hS => ?_)
          refine W.eq (g2 := F0 m 67 ls []) rfl ?_
          exact J3_67 z1.1 z1.2.1 z1.2.2 hf H locs ls hP hD hS (lv_sub hl [2, 3, 4, 5, 6] rfl)
  have hgo : ∀ (H : Heap) (locs : List Loc), va_P (dC, dI) vwCl (w_Course_layUnit cI cB cS cT a_pic a_pic_h a_pic_v a_pic_ac a_pic_dn a_pic_st a_crs a_crs_ow a_crs_pl a_pic_oa a_pic_od a_pic_co a_crs_dt a_crs_ot pic_many pic_unitsAcross pic_unitsDown pic_blocks pic_h pic_v pic_ac pic_dn pic_st crs_kind crs_first crs_last crs_bits crs_interval crs_units crs_blocksOfUnit crs_laid crs_ow crs_pl) H → va_S A s.heap H locs → W p l e (headSpec ws_m156 rm_Course_layUnit).room s m args below meth c H locs 0 0 Q (F0 m 0 ls []) := by
    intro H locs hP hS
    unfold f_Course_layUnit at hf
    refine lv_iconst (v := (0 : Int32)) hx hb d_m156_0 (by decide) ?_
    refine lv_istore (lv' := [(4, .int (0 : Int32)), (0, .ref a_crs), (1, .int p0), (2, .int p1), (3, .int p2)]) hx hb d_m156_1 hl (by decide) rfl (fun ls hl => ?_)
    obtain ⟨z2, hz2, hf⟩ := ob_bind hf
    refine L3  z2 ?_ N (0 : Int32) crs_laid crs_ow crs_pl hz2 H locs ls hP hD hS (lv_sub hl [1, 2, 3, 4, 0] rfl)
    · intro H locs ls hP hD hS hl
      obtain rfl := Option.some.inj hf
      subst hQ
      subst hAe
      exact W.vret hx hb hr (fun t ht hW => ⟨⟨(), rfl, trivial, by rw [ht]; exact hP, hD⟩, hS.F ht⟩) hS.2.2 d_m156_73
  exact hgo _ _ hP hS
def f_Course_layOne_J2_47 (N : Nat) (rec : (Int32 × Int32 × (Nat → Int32) × (Nat → Int32)) → Option (Int32 × (Nat → Int32) × (Nat → Int32))) (v2_2 : Int32) (crs_laid_j47 : Int32) (crs_ow_j47 : Nat → Int32) (crs_pl_j47 : Nat → Int32) : Option (Int32 × (Nat → Int32) × (Nat → Int32)) :=
  rec (v2_2 + (1 : Int32), crs_laid_j47, crs_ow_j47, crs_pl_j47)
def f_Course_layOne_L2b (pic_many : Int32) (p0 : Int32) (pic_oa : Nat → Int32) (pic_od : Nat → Int32) (pic_ac : Nat → Int32) (pic_dn : Nat → Int32) (pic_st : Nat → Int32) (N : Nat) (rec : (Int32 × Int32 × (Nat → Int32) × (Nat → Int32)) → Option (Int32 × (Nat → Int32) × (Nat → Int32))) (v2_2 : Int32) (crs_laid_2 : Int32) (crs_ow_2 : Nat → Int32) (crs_pl_2 : Nat → Int32) : Option (Int32 × (Nat → Int32) × (Nat → Int32)) :=
  if pic_many ≤ v2_2 then
    some (crs_laid_2, crs_ow_2, crs_pl_2)
  else
    if ((p0 >>> (v2_2 &&& 31)) &&& (1 : Int32)) = (1 : Int32) then
      if v2_2 < 0 ∨ 4 ≤ v2_2.toNatClampNeg then none else
      if v2_2 < 0 ∨ 4 ≤ v2_2.toNatClampNeg then none else
      (f_Course_layRows N v2_2 (0 : Int32) (0 : Int32) (pic_oa v2_2.toNatClampNeg) (pic_od v2_2.toNatClampNeg) pic_many pic_ac pic_dn pic_st crs_laid_2 crs_ow_2 crs_pl_2).bind fun z1 =>
      f_Course_layOne_J2_47 N rec v2_2 z1.1 z1.2.1 z1.2.2
    else
      f_Course_layOne_J2_47 N rec v2_2 crs_laid_2 crs_ow_2 crs_pl_2
def f_Course_layOne_L2 (pic_many : Int32) (p0 : Int32) (pic_oa : Nat → Int32) (pic_od : Nat → Int32) (pic_ac : Nat → Int32) (pic_dn : Nat → Int32) (pic_st : Nat → Int32) (N : Nat) (k : Nat) : (Int32 × Int32 × (Nat → Int32) × (Nat → Int32)) → Option (Int32 × (Nat → Int32) × (Nat → Int32)) := it (fun rec a => f_Course_layOne_L2b pic_many p0 pic_oa pic_od pic_ac pic_dn pic_st N rec a.1 a.2.1 a.2.2.1 a.2.2.2) k
def f_Course_layOne (N : Nat) (p0 : Int32) (pic_many : Int32) (pic_ac : Nat → Int32) (pic_dn : Nat → Int32) (pic_oa : Nat → Int32) (pic_od : Nat → Int32) (pic_st : Nat → Int32) (crs_laid : Int32) (crs_ow : Nat → Int32) (crs_pl : Nat → Int32) : Option (Int32 × Int32 × Int32 × (Nat → Int32) × (Nat → Int32)) :=
  (f_Course_layOne_L2 pic_many p0 pic_oa pic_od pic_ac pic_dn pic_st N N ((0 : Int32), crs_laid, crs_ow, crs_pl)).bind fun z2 =>
    some (z2.1, (1 : Int32), z2.1, z2.2.1, z2.2.2)
abbrev w_Course_layOne (cI cB cS cT : ClassId) (a_pic : Nat) (a_pic_ac : Nat) (a_pic_dn : Nat) (a_pic_oa : Nat) (a_pic_od : Nat) (a_pic_st : Nat) (a_crs : Nat) (a_crs_ow : Nat) (a_crs_pl : Nat) (a_pic_h : Nat) (a_pic_v : Nat) (a_pic_co : Nat) (a_crs_dt : Nat) (a_crs_ot : Nat) (pic_many : Int32) (pic_unitsAcross : Int32) (pic_unitsDown : Int32) (pic_blocks : Int32) (pic_ac : Nat → Int32) (pic_dn : Nat → Int32) (pic_oa : Nat → Int32) (pic_od : Nat → Int32) (pic_st : Nat → Int32) (crs_kind : Int32) (crs_first : Int32) (crs_last : Int32) (crs_bits : Int32) (crs_interval : Int32) (crs_units : Int32) (crs_blocksOfUnit : Int32) (crs_laid : Int32) (crs_ow : Nat → Int32) (crs_pl : Nat → Int32) : va_W := [(a_pic, .inr (8, [.ref a_pic_h, .ref a_pic_v, .ref a_pic_ac, .ref a_pic_dn, .ref a_pic_oa, .ref a_pic_od, .ref a_pic_st, .int pic_many, .int pic_unitsAcross, .int pic_unitsDown, .int pic_blocks, .ref a_pic_co])), (a_pic_ac, .inl (cI, 4, .inl pic_ac)), (a_pic_dn, .inl (cI, 4, .inl pic_dn)), (a_pic_oa, .inl (cI, 4, .inl pic_oa)), (a_pic_od, .inl (cI, 4, .inl pic_od)), (a_pic_st, .inl (cI, 4, .inl pic_st)), (a_crs, .inr (4, [.ref a_pic, .ref a_crs_ow, .ref a_crs_pl, .ref a_crs_dt, .ref a_crs_ot, .int crs_kind, .int crs_first, .int crs_last, .int crs_bits, .int crs_interval, .int crs_units, .int crs_blocksOfUnit, .int crs_laid])), (a_crs_ow, .inl (cI, 192, .inl crs_ow)), (a_crs_pl, .inl (cI, 192, .inl crs_pl))]
def rm_Course_layOne : Room := { frames := 2, cells := 0, slots := 0, locals := 51 }
set_option maxHeartbeats 1000000 in
set_option maxRecDepth 100000 in
theorem c_Course_layOne (l : Launch) (dC : Nat → ClassId) (dI : Nat → Nat → Nat) (cI cB cS cT : ClassId) (N : Nat) (a_pic : Nat) (a_pic_ac : Nat) (a_pic_dn : Nat) (a_pic_oa : Nat) (a_pic_od : Nat) (a_pic_st : Nat) (a_crs : Nat) (a_crs_ow : Nat) (a_crs_pl : Nat) (a_pic_h : Nat) (a_pic_v : Nat) (a_pic_co : Nat) (a_crs_dt : Nat) (a_crs_ot : Nat) (pic_many : Int32) (pic_unitsAcross : Int32) (pic_unitsDown : Int32) (pic_blocks : Int32) (pic_ac : Nat → Int32) (pic_dn : Nat → Int32) (pic_oa : Nat → Int32) (pic_od : Nat → Int32) (pic_st : Nat → Int32) (crs_kind : Int32) (crs_first : Int32) (crs_last : Int32) (crs_bits : Int32) (crs_interval : Int32) (crs_units : Int32) (crs_blocksOfUnit : Int32) (crs_laid : Int32) (crs_ow : Nat → Int32) (crs_pl : Nat → Int32) (p0 : Int32) (sz : Nat) (z : Int32 × Int32 × Int32 × (Nat → Int32) × (Nat → Int32)) (hf : f_Course_layOne N p0 pic_many pic_ac pic_dn pic_oa pic_od pic_st crs_laid crs_ow crs_pl = some z) : Met l y_m140 ws_m140 rm_Course_layOne (gPre (dC, dI) [.ref a_crs, .int p0] (gT cI cB cS cT) (w_Course_layOne cI cB cS cT a_pic a_pic_ac a_pic_dn a_pic_oa a_pic_od a_pic_st a_crs a_crs_ow a_crs_pl a_pic_h a_pic_v a_pic_co a_crs_dt a_crs_ot pic_many pic_unitsAcross pic_unitsDown pic_blocks pic_ac pic_dn pic_oa pic_od pic_st crs_kind crs_first crs_last crs_bits crs_interval crs_units crs_blocksOfUnit crs_laid crs_ow crs_pl) sz) (gQv (dC, dI) (gT cI cB cS cT) (w_Course_layOne cI cB cS cT a_pic a_pic_ac a_pic_dn a_pic_oa a_pic_od a_pic_st a_crs a_crs_ow a_crs_pl a_pic_h a_pic_v a_pic_co a_crs_dt a_crs_ot pic_many pic_unitsAcross pic_unitsDown pic_blocks pic_ac pic_dn pic_oa pic_od pic_st crs_kind crs_first crs_last crs_bits crs_interval crs_units crs_blocksOfUnit crs_laid crs_ow crs_pl) (w_Course_layOne cI cB cS cT a_pic a_pic_ac a_pic_dn a_pic_oa a_pic_od a_pic_st a_crs a_crs_ow a_crs_pl a_pic_h a_pic_v a_pic_co a_crs_dt a_crs_ot pic_many pic_unitsAcross pic_unitsDown pic_blocks pic_ac pic_dn pic_oa pic_od pic_st crs_kind crs_first crs_last crs_bits crs_interval z.1 z.2.1 z.2.2.1 z.2.2.2.1 z.2.2.2.2) sz) 0 0 (va_A (w_Course_layOne cI cB cS cT a_pic a_pic_ac a_pic_dn a_pic_oa a_pic_od a_pic_st a_crs a_crs_ow a_crs_pl a_pic_h a_pic_v a_pic_co a_crs_dt a_crs_ot pic_many pic_unitsAcross pic_unitsDown pic_blocks pic_ac pic_dn pic_oa pic_od pic_st crs_kind crs_first crs_last crs_bits crs_interval crs_units crs_blocksOfUnit crs_laid crs_ow crs_pl) sz) := by
  refine Met.ofW (cc := prog_5_method_7_code) (maxL := 3) (ret := none) (by decide) rfl ?_
  intro p e s m args below meth c s₁ B hml hv
  obtain ⟨hargs, hsz, hP, hKN, hD0⟩ := hv
  have hK := hKN.1
  have hx := B.exec
  have hb := B.bytes
  have hr := B.returns
  have hts := atoms_spec (ws := ws_m140) B.pre
  have hown : s.vm.findClass "ScanCoder$Course" = some m.cls := findClass_of_methodNamed B.named
  have hlocks := B.notSynchronized
  have k0 := hts _ (List.mem_cons_of_mem _ tw_157)
  have k1 := hts _ (List.mem_cons_of_mem _ tw_70)
  have k2 := hts _ (List.mem_cons_of_mem _ tw_66)
  have k3 := hts _ (List.mem_cons_of_mem _ tw_68)
  have k4 := hts _ (List.mem_cons_of_mem _ tw_193)
  have k5 := hts _ (List.mem_cons_of_mem _ tw_188)
  have k6 := hts _ (List.mem_cons_of_mem _ tw_192)
  have n0 : ∀ w ∈ u_ws "ScanCoder$Course" T_4 13, w ∈ ws_m140 := fun w h => List.mem_cons_of_mem _ (in_4 w h)
  have n1 : ∀ w ∈ u_ws "ScanCoder$Picture" T_8 12, w ∈ ws_m140 := fun w h => List.mem_cons_of_mem _ (in_8 w h)
  subst hsz
  have hD := hD0.self (sz := s.heap.size)
  obtain ⟨A, hAe⟩ : ∃ A : Nat → Prop, va_A (w_Course_layOne cI cB cS cT a_pic a_pic_ac a_pic_dn a_pic_oa a_pic_od a_pic_st a_crs a_crs_ow a_crs_pl a_pic_h a_pic_v a_pic_co a_crs_dt a_crs_ot pic_many pic_unitsAcross pic_unitsDown pic_blocks pic_ac pic_dn pic_oa pic_od pic_st crs_kind crs_first crs_last crs_bits crs_interval crs_units crs_blocksOfUnit crs_laid crs_ow crs_pl) s.heap.size = A := ⟨_, rfl⟩
  rw [hAe] at hD
  have hA : ∀ q : Nat, s.heap.size ≤ q → A q := fun q h => by rw [← hAe]; exact Or.inr h
  have hS : va_S A s.heap s.heap [] := va_S.rf
  have hl := lv_entry ([.ref a_crs, .int p0]) (n := 3) (Nat.le_of_ble_eq_true rfl)
  have hfr : entryFrame m args 3 = F0 m 0 ((lg_sl ([.ref a_crs, .int p0]) ++ List.replicate (3 - (lg_sl ([.ref a_crs, .int p0])).length) Slot.unset).toArray) [] := by rw [hargs]; exact lg_entry_eq _ _ _
  rw [hfr]
  generalize (lg_sl ([.ref a_crs, .int p0]) ++ List.replicate (3 - (lg_sl ([.ref a_crs, .int p0])).length) Slot.unset).toArray = ls at hl ⊢
  have hl : lv_has ls 3 [(0, .ref a_crs), (1, .int p0)] := hl
  refine gen_Q (fun Q hQ => ?_)
  clear hfr
  have L2 : ∀  (z : Int32 × (Nat → Int32) × (Nat → Int32)), (GW (dC, dI) A p l e (headSpec ws_m140 rm_Course_layOne).room s m args below meth c 0 0 Q 3 53 (w_Course_layOne cI cB cS cT a_pic a_pic_ac a_pic_dn a_pic_oa a_pic_od a_pic_st a_crs a_crs_ow a_crs_pl a_pic_h a_pic_v a_pic_co a_crs_dt a_crs_ot pic_many pic_unitsAcross pic_unitsDown pic_blocks pic_ac pic_dn pic_oa pic_od pic_st crs_kind crs_first crs_last crs_bits crs_interval crs_units crs_blocksOfUnit z.1 z.2.1 z.2.2) [(0, .ref a_crs)] []) → ∀ (k : Nat) (v2_2 : Int32) (crs_laid_2 : Int32) (crs_ow_2 : Nat → Int32) (crs_pl_2 : Nat → Int32), f_Course_layOne_L2 pic_many p0 pic_oa pic_od pic_ac pic_dn pic_st N k (v2_2, crs_laid_2, crs_ow_2, crs_pl_2) = some z → GW (dC, dI) A p l e (headSpec ws_m140 rm_Course_layOne).room s m args below meth c 0 0 Q 3 2 (w_Course_layOne cI cB cS cT a_pic a_pic_ac a_pic_dn a_pic_oa a_pic_od a_pic_st a_crs a_crs_ow a_crs_pl a_pic_h a_pic_v a_pic_co a_crs_dt a_crs_ot pic_many pic_unitsAcross pic_unitsDown pic_blocks pic_ac pic_dn pic_oa pic_od pic_st crs_kind crs_first crs_last crs_bits crs_interval crs_units crs_blocksOfUnit crs_laid_2 crs_ow_2 crs_pl_2) [(0, .ref a_crs), (1, .int p0), (2, .int v2_2)] [] := by
    intro  z hE0 k
    induction k with
    | zero =>
      intro v2_2 crs_laid_2 crs_ow_2 crs_pl_2 hf
      exact (it_zero hf).elim
    | succ k ih =>
      intro v2_2 crs_laid_2 crs_ow_2 crs_pl_2 hf H locs ls hP hD hS hl
      have J2_47 : ∀ (crs_laid_j47 : Int32) (crs_ow_j47 : Nat → Int32) (crs_pl_j47 : Nat → Int32), f_Course_layOne_J2_47 N (f_Course_layOne_L2 pic_many p0 pic_oa pic_od pic_ac pic_dn pic_st N k) v2_2 crs_laid_j47 crs_ow_j47 crs_pl_j47 = some z → GW (dC, dI) A p l e (headSpec ws_m140 rm_Course_layOne).room s m args below meth c 0 0 Q 3 47 (w_Course_layOne cI cB cS cT a_pic a_pic_ac a_pic_dn a_pic_oa a_pic_od a_pic_st a_crs a_crs_ow a_crs_pl a_pic_h a_pic_v a_pic_co a_crs_dt a_crs_ot pic_many pic_unitsAcross pic_unitsDown pic_blocks pic_ac pic_dn pic_oa pic_od pic_st crs_kind crs_first crs_last crs_bits crs_interval crs_units crs_blocksOfUnit crs_laid_j47 crs_ow_j47 crs_pl_j47) [(0, .ref a_crs), (1, .int p0), (2, .int v2_2)] [] := by
        intro crs_laid_j47 crs_ow_j47 crs_pl_j47 hf H locs ls hP hD hS hl
        unfold f_Course_layOne_J2_47 at hf
        refine lv_iinc (v := v2_2 + (1 : Int32)) (lv' := [(2, .int (v2_2 + (1 : Int32))), (0, .ref a_crs), (1, .int p0)]) hx hb d_m140_47 hl (k := 2) rfl rfl (by decide) rfl (fun ls hl => ?_)
        refine lv_goto (tgt := 2) hx hb d_m140_50 (by decide) ?_
        exact ih (v2_2 + (1 : Int32)) crs_laid_j47 crs_ow_j47 crs_pl_j47 hf H locs ls hP hD hS (lv_sub hl [1, 2, 0] rfl)
      have hf : f_Course_layOne_L2b pic_many p0 pic_oa pic_od pic_ac pic_dn pic_st N (f_Course_layOne_L2 pic_many p0 pic_oa pic_od pic_ac pic_dn pic_st N k) v2_2 crs_laid_2 crs_ow_2 crs_pl_2 = some z := hf
      unfold f_Course_layOne_L2b at hf
      refine lv_iload_n hx hb d_m140_2 rfl (lv_at hl 2 rfl) ?_
      refine lv_aload_n hx hb d_m140_3 rfl (lv_at hl 0 rfl) ?_
      refine va_get (D := (dC, dI)) (ci := 4) (v := .ref a_pic) (C := "ScanCoder$Course") (T := T_4) (N := 13) hx hb hts n0 hown hK hP 6 rfl rfl 0 (by decide) k0 (fun _ h9 => h9) rfl d_m140_4 ?_
      refine va_get (D := (dC, dI)) (ci := 8) (v := .int pic_many) (C := "ScanCoder$Picture") (T := T_8) (N := 12) hx hb hts n1 hown hK hP 0 rfl rfl 7 (by decide) k1 (fun _ h9 => h9) rfl d_m140_7 ?_
      refine lv_icmp_ge (tgt := 53) hx hb d_m140_10 (by decide) (fun hc => ?_) (fun hc => ?_)
      · replace hf := (if_pos hc).symm.trans hf
        obtain rfl := Option.some.inj hf
        exact hE0  H locs ls hP hD hS (lv_sub hl [0] rfl)
      · replace hf := (if_neg hc).symm.trans hf
        refine lv_iload_n hx hb d_m140_13 rfl (lv_at hl 1 rfl) ?_
        refine lv_iload_n hx hb d_m140_14 rfl (lv_at hl 2 rfl) ?_
        refine lv_ishr hx hb d_m140_15 ?_
        refine lv_iconst (v := (1 : Int32)) hx hb d_m140_16 (by decide) ?_
        refine lv_iand hx hb d_m140_17 ?_
        refine lv_iconst (v := (1 : Int32)) hx hb d_m140_18 (by decide) ?_
        refine lv_icmp_ne (tgt := 47) hx hb d_m140_19 (by decide) (fun hc => ?_) (fun hc => ?_)
        · replace hf := (if_neg hc).symm.trans hf
          exact J2_47 crs_laid_2 crs_ow_2 crs_pl_2 hf H locs ls hP hD hS hl
        · replace hf := (if_pos hc).symm.trans hf
          refine lv_aload_n hx hb d_m140_22 rfl (lv_at hl 0 rfl) ?_
          refine lv_iload_n hx hb d_m140_23 rfl (lv_at hl 2 rfl) ?_
          refine lv_iconst (v := (0 : Int32)) hx hb d_m140_24 (by decide) ?_
          refine lv_iconst (v := (0 : Int32)) hx hb d_m140_25 (by decide) ?_
          refine lv_aload_n hx hb d_m140_26 rfl (lv_at hl 0 rfl) ?_
          refine va_get (D := (dC, dI)) (ci := 4) (v := .ref a_pic) (C := "ScanCoder$Course") (T := T_4) (N := 13) hx hb hts n0 hown hK hP 6 rfl rfl 0 (by decide) k0 (fun _ h9 => h9) rfl d_m140_27 ?_
          refine va_get (D := (dC, dI)) (ci := 8) (v := .ref a_pic_oa) (C := "ScanCoder$Picture") (T := T_8) (N := 12) hx hb hts n1 hown hK hP 0 rfl rfl 4 (by decide) k2 (fun _ h9 => h9) rfl d_m140_30 ?_
          refine lv_iload_n hx hb d_m140_33 rfl (lv_at hl 2 rfl) ?_
          obtain ⟨hi, hf⟩ := ob_if hf
          refine va_iald hx hb hK hP 3 0 rfl rfl hi d_m140_34 ?_
          refine lv_aload_n hx hb d_m140_35 rfl (lv_at hl 0 rfl) ?_
          refine va_get (D := (dC, dI)) (ci := 4) (v := .ref a_pic) (C := "ScanCoder$Course") (T := T_4) (N := 13) hx hb hts n0 hown hK hP 6 rfl rfl 0 (by decide) k0 (fun _ h9 => h9) rfl d_m140_36 ?_
          refine va_get (D := (dC, dI)) (ci := 8) (v := .ref a_pic_od) (C := "ScanCoder$Picture") (T := T_8) (N := 12) hx hb hts n1 hown hK hP 0 rfl rfl 5 (by decide) k3 (fun _ h9 => h9) rfl d_m140_39 ?_
          refine lv_iload_n hx hb d_m140_42 rfl (lv_at hl 2 rfl) ?_
          obtain ⟨hi, hf⟩ := ob_if hf
          refine va_iald hx hb hK hP 4 0 rfl rfl hi d_m140_43 ?_
          obtain ⟨z1, hz1, hf⟩ := ob_bind hf
          refine g_callv (wc := (w_Course_layRows cI cB cS cT a_pic a_pic_ac a_pic_dn a_pic_st a_crs a_crs_ow a_crs_pl a_pic_h a_pic_v a_pic_oa a_pic_od a_pic_co a_crs_dt a_crs_ot pic_many pic_unitsAcross pic_unitsDown pic_blocks pic_ac pic_dn pic_st crs_kind crs_first crs_last crs_bits crs_interval crs_units crs_blocksOfUnit crs_laid_2 crs_ow_2 crs_pl_2)) (w1 := (w_Course_layRows cI cB cS cT a_pic a_pic_ac a_pic_dn a_pic_st a_crs a_crs_ow a_crs_pl a_pic_h a_pic_v a_pic_oa a_pic_od a_pic_co a_crs_dt a_crs_ot pic_many pic_unitsAcross pic_unitsDown pic_blocks pic_ac pic_dn pic_st crs_kind crs_first crs_last crs_bits crs_interval crs_units crs_blocksOfUnit z1.1 z1.2.1 z1.2.2)) (w2 := (w_Course_layOne cI cB cS cT a_pic a_pic_ac a_pic_dn a_pic_oa a_pic_od a_pic_st a_crs a_crs_ow a_crs_pl a_pic_h a_pic_v a_pic_co a_crs_dt a_crs_ot pic_many pic_unitsAcross pic_unitsDown pic_blocks pic_ac pic_dn pic_oa pic_od pic_st crs_kind crs_first crs_last crs_bits crs_interval crs_units crs_blocksOfUnit z1.1 z1.2.1 z1.2.2)) [0, 1, 2, 5, 6, 7, 8] [some 0, some 1, some 2, none, none, some 3, some 4, some 5, some 6] hP hD hS hA rfl rfl rfl rfl (va_runV (As := [.int v2_2, .int (0 : Int32), .int (0 : Int32), .int (pic_oa v2_2.toNatClampNeg), .int (pic_od v2_2.toNatClampNeg)]) (rest := []) ⟨hx, hb, hml, hown, hts⟩ (c_Course_layRows l dC dI cI cB cS cT N a_pic a_pic_ac a_pic_dn a_pic_st a_crs a_crs_ow a_crs_pl a_pic_h a_pic_v a_pic_oa a_pic_od a_pic_co a_crs_dt a_crs_ot pic_many pic_unitsAcross pic_unitsDown pic_blocks pic_ac pic_dn pic_st crs_kind crs_first crs_last crs_bits crs_interval crs_units crs_blocksOfUnit crs_laid_2 crs_ow_2 crs_pl_2 v2_2 (0 : Int32) (0 : Int32) (pic_oa v2_2.toNatClampNeg) (pic_od v2_2.toNatClampNeg) H.size z1 hz1) ⟨(callB_of 5 hts (gi tw_144 rfl) rfl rfl rfl (hts _ (List.mem_cons_of_mem _ tw_5)) (hts _ (List.mem_cons_of_mem _ tw_141)) (by decide +kernel) ⟨Nat.le_of_ble_eq_true rfl, Nat.le_of_ble_eq_true rfl⟩), hts _ (List.mem_cons_of_mem _ tw_143), hts _ (List.mem_cons_of_mem _ ts_m144)⟩ ⟨g_blind, va_recv hK hP (ci := 4) (q0 := 6) rfl rfl, g_at hKN (g_pm hP [0, 1, 2, 5, 6, 7, 8] rfl) (hD.sub [0, 1, 2, 5, 6, 7, 8] (by decide) rfl)⟩ rfl rfl hl.1 rfl (lv_room (Nat.le_of_ble_eq_true rfl)) d_m140_44 ⟨Nat.zero_le _, Nat.zero_le _⟩) (fun H locs hP hD hS => ?_)
          refine W.eq (g2 := F0 m 47 ls []) rfl ?_
          exact J2_47 z1.1 z1.2.1 z1.2.2 hf H locs ls hP hD hS hl
  have hgo : ∀ (H : Heap) (locs : List Loc), va_P (dC, dI) vwCl (w_Course_layOne cI cB cS cT a_pic a_pic_ac a_pic_dn a_pic_oa a_pic_od a_pic_st a_crs a_crs_ow a_crs_pl a_pic_h a_pic_v a_pic_co a_crs_dt a_crs_ot pic_many pic_unitsAcross pic_unitsDown pic_blocks pic_ac pic_dn pic_oa pic_od pic_st crs_kind crs_first crs_last crs_bits crs_interval crs_units crs_blocksOfUnit crs_laid crs_ow crs_pl) H → va_S A s.heap H locs → W p l e (headSpec ws_m140 rm_Course_layOne).room s m args below meth c H locs 0 0 Q (F0 m 0 ls []) := by
    intro H locs hP hS
    unfold f_Course_layOne at hf
    refine lv_iconst (v := (0 : Int32)) hx hb d_m140_0 (by decide) ?_
    refine lv_istore_n (lv' := [(2, .int (0 : Int32)), (0, .ref a_crs), (1, .int p0)]) hx hb d_m140_1 rfl hl (by decide) rfl (fun ls hl => ?_)
    obtain ⟨z2, hz2, hf⟩ := ob_bind hf
    refine L2  z2 ?_ N (0 : Int32) crs_laid crs_ow crs_pl hz2 H locs ls hP hD hS (lv_sub hl [1, 2, 0] rfl)
    · intro H locs ls hP hD hS hl
      refine lv_aload_n hx hb d_m140_53 rfl (lv_at hl 0 rfl) ?_
      refine lv_aload_n hx hb d_m140_54 rfl (lv_at hl 0 rfl) ?_
      refine va_get (D := (dC, dI)) (ci := 4) (v := .int z2.1) (C := "ScanCoder$Course") (T := T_4) (N := 13) hx hb hts n0 hown hK hP 6 rfl rfl 12 (by decide) k4 (fun _ h9 => h9) rfl d_m140_55 ?_
      refine va_put (D := (dC, dI)) (ci := 4) (v := .int z2.1) (ty := .int) (C := "ScanCoder$Course") (T := T_4) (N := 13) hx hb hts n0 ty_4 tyok_4 nm_4 hown hK hP hD hS 6 rfl rfl 10 (by decide) k5 (fun _ h9 => h9) rfl (by decide +kernel) rfl rfl (Nat.le_of_ble_eq_true rfl) d_m140_58 (fun H locs hP hD hS => ?_)
      have hP : va_P (dC, dI) vwCl (w_Course_layOne cI cB cS cT a_pic a_pic_ac a_pic_dn a_pic_oa a_pic_od a_pic_st a_crs a_crs_ow a_crs_pl a_pic_h a_pic_v a_pic_co a_crs_dt a_crs_ot pic_many pic_unitsAcross pic_unitsDown pic_blocks pic_ac pic_dn pic_oa pic_od pic_st crs_kind crs_first crs_last crs_bits crs_interval z2.1 crs_blocksOfUnit z2.1 z2.2.1 z2.2.2) H := hP
      have hD : va_D A (w_Course_layOne cI cB cS cT a_pic a_pic_ac a_pic_dn a_pic_oa a_pic_od a_pic_st a_crs a_crs_ow a_crs_pl a_pic_h a_pic_v a_pic_co a_crs_dt a_crs_ot pic_many pic_unitsAcross pic_unitsDown pic_blocks pic_ac pic_dn pic_oa pic_od pic_st crs_kind crs_first crs_last crs_bits crs_interval z2.1 crs_blocksOfUnit z2.1 z2.2.1 z2.2.2) := hD
      refine lv_aload_n hx hb d_m140_61 rfl (lv_at hl 0 rfl) ?_
      refine lv_iconst (v := (1 : Int32)) hx hb d_m140_62 (by decide) ?_
      refine va_put (D := (dC, dI)) (ci := 4) (v := .int (1 : Int32)) (ty := .int) (C := "ScanCoder$Course") (T := T_4) (N := 13) hx hb hts n0 ty_4 tyok_4 nm_4 hown hK hP hD hS 6 rfl rfl 11 (by decide) k6 (fun _ h9 => h9) rfl (by decide +kernel) rfl rfl (Nat.le_of_ble_eq_true rfl) d_m140_63 (fun H locs hP hD hS => ?_)
      have hP : va_P (dC, dI) vwCl (w_Course_layOne cI cB cS cT a_pic a_pic_ac a_pic_dn a_pic_oa a_pic_od a_pic_st a_crs a_crs_ow a_crs_pl a_pic_h a_pic_v a_pic_co a_crs_dt a_crs_ot pic_many pic_unitsAcross pic_unitsDown pic_blocks pic_ac pic_dn pic_oa pic_od pic_st crs_kind crs_first crs_last crs_bits crs_interval z2.1 (1 : Int32) z2.1 z2.2.1 z2.2.2) H := hP
      have hD : va_D A (w_Course_layOne cI cB cS cT a_pic a_pic_ac a_pic_dn a_pic_oa a_pic_od a_pic_st a_crs a_crs_ow a_crs_pl a_pic_h a_pic_v a_pic_co a_crs_dt a_crs_ot pic_many pic_unitsAcross pic_unitsDown pic_blocks pic_ac pic_dn pic_oa pic_od pic_st crs_kind crs_first crs_last crs_bits crs_interval z2.1 (1 : Int32) z2.1 z2.2.1 z2.2.2) := hD
      obtain rfl := Option.some.inj hf
      subst hQ
      subst hAe
      exact W.vret hx hb hr (fun t ht hW => ⟨⟨(), rfl, trivial, by rw [ht]; exact hP, hD⟩, hS.F ht⟩) hS.2.2 d_m140_66
  exact hgo _ _ hP hS
def f_Course_laySeveral_L34b (pic_unitsAcross : Int32) (p0 : Int32) (v2_21 : Int32) (pic_many : Int32) (pic_h : Nat → Int32) (pic_v : Nat → Int32) (pic_ac : Nat → Int32) (pic_dn : Nat → Int32) (pic_st : Nat → Int32) (N : Nat) (rec : (Int32 × Int32 × (Nat → Int32) × (Nat → Int32)) → Option (Int32 × (Nat → Int32) × (Nat → Int32))) (v3_34 : Int32) (crs_laid_34 : Int32) (crs_ow_34 : Nat → Int32) (crs_pl_34 : Nat → Int32) : Option (Int32 × (Nat → Int32) × (Nat → Int32)) :=
  if pic_unitsAcross ≤ v3_34 then
    some (crs_laid_34, crs_ow_34, crs_pl_34)
  else
    (f_Course_layUnit N p0 v3_34 v2_21 pic_many pic_h pic_v pic_ac pic_dn pic_st crs_laid_34 crs_ow_34 crs_pl_34).bind fun z1 =>
    rec (v3_34 + (1 : Int32), z1.1, z1.2.1, z1.2.2)
def f_Course_laySeveral_L34 (pic_unitsAcross : Int32) (p0 : Int32) (v2_21 : Int32) (pic_many : Int32) (pic_h : Nat → Int32) (pic_v : Nat → Int32) (pic_ac : Nat → Int32) (pic_dn : Nat → Int32) (pic_st : Nat → Int32) (N : Nat) (k : Nat) : (Int32 × Int32 × (Nat → Int32) × (Nat → Int32)) → Option (Int32 × (Nat → Int32) × (Nat → Int32)) := it (fun rec a => f_Course_laySeveral_L34b pic_unitsAcross p0 v2_21 pic_many pic_h pic_v pic_ac pic_dn pic_st N rec a.1 a.2.1 a.2.2.1 a.2.2.2) k
def f_Course_laySeveral_L21b (pic_unitsDown : Int32) (pic_unitsAcross : Int32) (p0 : Int32) (pic_many : Int32) (pic_h : Nat → Int32) (pic_v : Nat → Int32) (pic_ac : Nat → Int32) (pic_dn : Nat → Int32) (pic_st : Nat → Int32) (N : Nat) (rec : (Int32 × Int32 × (Nat → Int32) × (Nat → Int32)) → Option (Int32 × (Nat → Int32) × (Nat → Int32))) (v2_21 : Int32) (crs_laid_21 : Int32) (crs_ow_21 : Nat → Int32) (crs_pl_21 : Nat → Int32) : Option (Int32 × (Nat → Int32) × (Nat → Int32)) :=
  if pic_unitsDown ≤ v2_21 then
    some (crs_laid_21, crs_ow_21, crs_pl_21)
  else
    (f_Course_laySeveral_L34 pic_unitsAcross p0 v2_21 pic_many pic_h pic_v pic_ac pic_dn pic_st N N ((0 : Int32), crs_laid_21, crs_ow_21, crs_pl_21)).bind fun z2 =>
      rec (v2_21 + (1 : Int32), z2.1, z2.2.1, z2.2.2)
def f_Course_laySeveral_L21 (pic_unitsDown : Int32) (pic_unitsAcross : Int32) (p0 : Int32) (pic_many : Int32) (pic_h : Nat → Int32) (pic_v : Nat → Int32) (pic_ac : Nat → Int32) (pic_dn : Nat → Int32) (pic_st : Nat → Int32) (N : Nat) (k : Nat) : (Int32 × Int32 × (Nat → Int32) × (Nat → Int32)) → Option (Int32 × (Nat → Int32) × (Nat → Int32)) := it (fun rec a => f_Course_laySeveral_L21b pic_unitsDown pic_unitsAcross p0 pic_many pic_h pic_v pic_ac pic_dn pic_st N rec a.1 a.2.1 a.2.2.1 a.2.2.2) k
def f_Course_laySeveral_J86 (N : Nat) (crs_units_j86 : Int32) (s1_j86 : Int32) (crs_laid_j86 : Int32) (crs_ow_j86 : Nat → Int32) (crs_pl_j86 : Nat → Int32) : Option (Int32 × Int32 × Int32 × (Nat → Int32) × (Nat → Int32)) :=
  some (crs_units_j86, s1_j86, crs_laid_j86, crs_ow_j86, crs_pl_j86)
def f_Course_laySeveral (N : Nat) (p0 : Int32) (pic_many : Int32) (pic_unitsAcross : Int32) (pic_unitsDown : Int32) (pic_h : Nat → Int32) (pic_v : Nat → Int32) (pic_ac : Nat → Int32) (pic_dn : Nat → Int32) (pic_st : Nat → Int32) (crs_laid : Int32) (crs_ow : Nat → Int32) (crs_pl : Nat → Int32) : Option (Int32 × Int32 × Int32 × (Nat → Int32) × (Nat → Int32)) :=
  (f_Course_laySeveral_L21 pic_unitsDown pic_unitsAcross p0 pic_many pic_h pic_v pic_ac pic_dn pic_st N N ((0 : Int32), crs_laid, crs_ow, crs_pl)).bind fun z3 =>
    if (1 : Int32) ≤ (pic_unitsAcross * pic_unitsDown) then
    if (pic_unitsAcross * pic_unitsDown) = 0 then none else f_Course_laySeveral_J86 N (pic_unitsAcross * pic_unitsDown) (z3.1 / (pic_unitsAcross * pic_unitsDown)) z3.1 z3.2.1 z3.2.2
  else
    f_Course_laySeveral_J86 N (pic_unitsAcross * pic_unitsDown) (0 : Int32) z3.1 z3.2.1 z3.2.2
abbrev w_Course_laySeveral (cI cB cS cT : ClassId) (a_pic : Nat) (a_pic_h : Nat) (a_pic_v : Nat) (a_pic_ac : Nat) (a_pic_dn : Nat) (a_pic_st : Nat) (a_crs : Nat) (a_crs_ow : Nat) (a_crs_pl : Nat) (a_pic_oa : Nat) (a_pic_od : Nat) (a_pic_co : Nat) (a_crs_dt : Nat) (a_crs_ot : Nat) (pic_many : Int32) (pic_unitsAcross : Int32) (pic_unitsDown : Int32) (pic_blocks : Int32) (pic_h : Nat → Int32) (pic_v : Nat → Int32) (pic_ac : Nat → Int32) (pic_dn : Nat → Int32) (pic_st : Nat → Int32) (crs_kind : Int32) (crs_first : Int32) (crs_last : Int32) (crs_bits : Int32) (crs_interval : Int32) (crs_units : Int32) (crs_blocksOfUnit : Int32) (crs_laid : Int32) (crs_ow : Nat → Int32) (crs_pl : Nat → Int32) : va_W := [(a_pic, .inr (8, [.ref a_pic_h, .ref a_pic_v, .ref a_pic_ac, .ref a_pic_dn, .ref a_pic_oa, .ref a_pic_od, .ref a_pic_st, .int pic_many, .int pic_unitsAcross, .int pic_unitsDown, .int pic_blocks, .ref a_pic_co])), (a_pic_h, .inl (cI, 4, .inl pic_h)), (a_pic_v, .inl (cI, 4, .inl pic_v)), (a_pic_ac, .inl (cI, 4, .inl pic_ac)), (a_pic_dn, .inl (cI, 4, .inl pic_dn)), (a_pic_st, .inl (cI, 4, .inl pic_st)), (a_crs, .inr (4, [.ref a_pic, .ref a_crs_ow, .ref a_crs_pl, .ref a_crs_dt, .ref a_crs_ot, .int crs_kind, .int crs_first, .int crs_last, .int crs_bits, .int crs_interval, .int crs_units, .int crs_blocksOfUnit, .int crs_laid])), (a_crs_ow, .inl (cI, 192, .inl crs_ow)), (a_crs_pl, .inl (cI, 192, .inl crs_pl))]
def rm_Course_laySeveral : Room := { frames := 3, cells := 0, slots := 0, locals := 77 }
set_option maxHeartbeats 1000000 in
set_option maxRecDepth 100000 in
theorem c_Course_laySeveral (l : Launch) (dC : Nat → ClassId) (dI : Nat → Nat → Nat) (cI cB cS cT : ClassId) (N : Nat) (a_pic : Nat) (a_pic_h : Nat) (a_pic_v : Nat) (a_pic_ac : Nat) (a_pic_dn : Nat) (a_pic_st : Nat) (a_crs : Nat) (a_crs_ow : Nat) (a_crs_pl : Nat) (a_pic_oa : Nat) (a_pic_od : Nat) (a_pic_co : Nat) (a_crs_dt : Nat) (a_crs_ot : Nat) (pic_many : Int32) (pic_unitsAcross : Int32) (pic_unitsDown : Int32) (pic_blocks : Int32) (pic_h : Nat → Int32) (pic_v : Nat → Int32) (pic_ac : Nat → Int32) (pic_dn : Nat → Int32) (pic_st : Nat → Int32) (crs_kind : Int32) (crs_first : Int32) (crs_last : Int32) (crs_bits : Int32) (crs_interval : Int32) (crs_units : Int32) (crs_blocksOfUnit : Int32) (crs_laid : Int32) (crs_ow : Nat → Int32) (crs_pl : Nat → Int32) (p0 : Int32) (sz : Nat) (z : Int32 × Int32 × Int32 × (Nat → Int32) × (Nat → Int32)) (hf : f_Course_laySeveral N p0 pic_many pic_unitsAcross pic_unitsDown pic_h pic_v pic_ac pic_dn pic_st crs_laid crs_ow crs_pl = some z) : Met l y_m152 ws_m152 rm_Course_laySeveral (gPre (dC, dI) [.ref a_crs, .int p0] (gT cI cB cS cT) (w_Course_laySeveral cI cB cS cT a_pic a_pic_h a_pic_v a_pic_ac a_pic_dn a_pic_st a_crs a_crs_ow a_crs_pl a_pic_oa a_pic_od a_pic_co a_crs_dt a_crs_ot pic_many pic_unitsAcross pic_unitsDown pic_blocks pic_h pic_v pic_ac pic_dn pic_st crs_kind crs_first crs_last crs_bits crs_interval crs_units crs_blocksOfUnit crs_laid crs_ow crs_pl) sz) (gQv (dC, dI) (gT cI cB cS cT) (w_Course_laySeveral cI cB cS cT a_pic a_pic_h a_pic_v a_pic_ac a_pic_dn a_pic_st a_crs a_crs_ow a_crs_pl a_pic_oa a_pic_od a_pic_co a_crs_dt a_crs_ot pic_many pic_unitsAcross pic_unitsDown pic_blocks pic_h pic_v pic_ac pic_dn pic_st crs_kind crs_first crs_last crs_bits crs_interval crs_units crs_blocksOfUnit crs_laid crs_ow crs_pl) (w_Course_laySeveral cI cB cS cT a_pic a_pic_h a_pic_v a_pic_ac a_pic_dn a_pic_st a_crs a_crs_ow a_crs_pl a_pic_oa a_pic_od a_pic_co a_crs_dt a_crs_ot pic_many pic_unitsAcross pic_unitsDown pic_blocks pic_h pic_v pic_ac pic_dn pic_st crs_kind crs_first crs_last crs_bits crs_interval z.1 z.2.1 z.2.2.1 z.2.2.2.1 z.2.2.2.2) sz) 0 0 (va_A (w_Course_laySeveral cI cB cS cT a_pic a_pic_h a_pic_v a_pic_ac a_pic_dn a_pic_st a_crs a_crs_ow a_crs_pl a_pic_oa a_pic_od a_pic_co a_crs_dt a_crs_ot pic_many pic_unitsAcross pic_unitsDown pic_blocks pic_h pic_v pic_ac pic_dn pic_st crs_kind crs_first crs_last crs_bits crs_interval crs_units crs_blocksOfUnit crs_laid crs_ow crs_pl) sz) := by
  refine Met.ofW (cc := prog_5_method_8_code) (maxL := 4) (ret := none) (by decide) rfl ?_
  intro p e s m args below meth c s₁ B hml hv
  obtain ⟨hargs, hsz, hP, hKN, hD0⟩ := hv
  have hK := hKN.1
  have hx := B.exec
  have hb := B.bytes
  have hr := B.returns
  have hts := atoms_spec (ws := ws_m152) B.pre
  have hown : s.vm.findClass "ScanCoder$Course" = some m.cls := findClass_of_methodNamed B.named
  have hlocks := B.notSynchronized
  have k0 := hts _ (List.mem_cons_of_mem _ tw_157)
  have k1 := hts _ (List.mem_cons_of_mem _ tw_74)
  have k2 := hts _ (List.mem_cons_of_mem _ tw_76)
  have k3 := hts _ (List.mem_cons_of_mem _ tw_188)
  have k4 := hts _ (List.mem_cons_of_mem _ tw_193)
  have k5 := hts _ (List.mem_cons_of_mem _ tw_192)
  have n0 : ∀ w ∈ u_ws "ScanCoder$Course" T_4 13, w ∈ ws_m152 := fun w h => List.mem_cons_of_mem _ (in_4 w h)
  have n1 : ∀ w ∈ u_ws "ScanCoder$Picture" T_8 12, w ∈ ws_m152 := fun w h => List.mem_cons_of_mem _ (in_8 w h)
  subst hsz
  have hD := hD0.self (sz := s.heap.size)
  obtain ⟨A, hAe⟩ : ∃ A : Nat → Prop, va_A (w_Course_laySeveral cI cB cS cT a_pic a_pic_h a_pic_v a_pic_ac a_pic_dn a_pic_st a_crs a_crs_ow a_crs_pl a_pic_oa a_pic_od a_pic_co a_crs_dt a_crs_ot pic_many pic_unitsAcross pic_unitsDown pic_blocks pic_h pic_v pic_ac pic_dn pic_st crs_kind crs_first crs_last crs_bits crs_interval crs_units crs_blocksOfUnit crs_laid crs_ow crs_pl) s.heap.size = A := ⟨_, rfl⟩
  rw [hAe] at hD
  have hA : ∀ q : Nat, s.heap.size ≤ q → A q := fun q h => by rw [← hAe]; exact Or.inr h
  have hS : va_S A s.heap s.heap [] := va_S.rf
  have hl := lv_entry ([.ref a_crs, .int p0]) (n := 4) (Nat.le_of_ble_eq_true rfl)
  have hfr : entryFrame m args 4 = F0 m 0 ((lg_sl ([.ref a_crs, .int p0]) ++ List.replicate (4 - (lg_sl ([.ref a_crs, .int p0])).length) Slot.unset).toArray) [] := by rw [hargs]; exact lg_entry_eq _ _ _
  rw [hfr]
  generalize (lg_sl ([.ref a_crs, .int p0]) ++ List.replicate (4 - (lg_sl ([.ref a_crs, .int p0])).length) Slot.unset).toArray = ls at hl ⊢
  have hl : lv_has ls 4 [(0, .ref a_crs), (1, .int p0)] := hl
  refine gen_Q (fun Q hQ => ?_)
  clear hfr
  have L34 : ∀ (v2_21 : Int32) (crs_units_21 : Int32) (z : Int32 × (Nat → Int32) × (Nat → Int32)), (GW (dC, dI) A p l e (headSpec ws_m152 rm_Course_laySeveral).room s m args below meth c 0 0 Q 4 58 (w_Course_laySeveral cI cB cS cT a_pic a_pic_h a_pic_v a_pic_ac a_pic_dn a_pic_st a_crs a_crs_ow a_crs_pl a_pic_oa a_pic_od a_pic_co a_crs_dt a_crs_ot pic_many pic_unitsAcross pic_unitsDown pic_blocks pic_h pic_v pic_ac pic_dn pic_st crs_kind crs_first crs_last crs_bits crs_interval crs_units_21 crs_blocksOfUnit z.1 z.2.1 z.2.2) [(0, .ref a_crs), (1, .int p0), (2, .int v2_21)] []) → ∀ (k : Nat) (v3_34 : Int32) (crs_laid_34 : Int32) (crs_ow_34 : Nat → Int32) (crs_pl_34 : Nat → Int32), f_Course_laySeveral_L34 pic_unitsAcross p0 v2_21 pic_many pic_h pic_v pic_ac pic_dn pic_st N k (v3_34, crs_laid_34, crs_ow_34, crs_pl_34) = some z → GW (dC, dI) A p l e (headSpec ws_m152 rm_Course_laySeveral).room s m args below meth c 0 0 Q 4 34 (w_Course_laySeveral cI cB cS cT a_pic a_pic_h a_pic_v a_pic_ac a_pic_dn a_pic_st a_crs a_crs_ow a_crs_pl a_pic_oa a_pic_od a_pic_co a_crs_dt a_crs_ot pic_many pic_unitsAcross pic_unitsDown pic_blocks pic_h pic_v pic_ac pic_dn pic_st crs_kind crs_first crs_last crs_bits crs_interval crs_units_21 crs_blocksOfUnit crs_laid_34 crs_ow_34 crs_pl_34) [(0, .ref a_crs), (1, .int p0), (2, .int v2_21), (3, .int v3_34)] [] := by
    intro v2_21 crs_units_21 z hE0 k
    induction k with
    | zero =>
      intro v3_34 crs_laid_34 crs_ow_34 crs_pl_34 hf
      exact (it_zero hf).elim
    | succ k ih =>
      intro v3_34 crs_laid_34 crs_ow_34 crs_pl_34 hf H locs ls hP hD hS hl
      have hf : f_Course_laySeveral_L34b pic_unitsAcross p0 v2_21 pic_many pic_h pic_v pic_ac pic_dn pic_st N (f_Course_laySeveral_L34 pic_unitsAcross p0 v2_21 pic_many pic_h pic_v pic_ac pic_dn pic_st N k) v3_34 crs_laid_34 crs_ow_34 crs_pl_34 = some z := hf
      unfold f_Course_laySeveral_L34b at hf
      refine lv_iload_n hx hb d_m152_34 rfl (lv_at hl 3 rfl) ?_
      refine lv_aload_n hx hb d_m152_35 rfl (lv_at hl 0 rfl) ?_
      refine va_get (D := (dC, dI)) (ci := 4) (v := .ref a_pic) (C := "ScanCoder$Course") (T := T_4) (N := 13) hx hb hts n0 hown hK hP 6 rfl rfl 0 (by decide) k0 (fun _ h9 => h9) rfl d_m152_36 ?_
      refine va_get (D := (dC, dI)) (ci := 8) (v := .int pic_unitsAcross) (C := "ScanCoder$Picture") (T := T_8) (N := 12) hx hb hts n1 hown hK hP 0 rfl rfl 8 (by decide) k1 (fun _ h9 => h9) rfl d_m152_39 ?_
      refine lv_icmp_ge (tgt := 58) hx hb d_m152_42 (by decide) (fun hc => ?_) (fun hc => ?_)
      · replace hf := (if_pos hc).symm.trans hf
        obtain rfl := Option.some.inj hf
        exact hE0  H locs ls hP hD hS (lv_sub hl [0, 1, 2] rfl)
      · replace hf := (if_neg hc).symm.trans hf
        refine lv_aload_n hx hb d_m152_45 rfl (lv_at hl 0 rfl) ?_
        refine lv_iload_n hx hb d_m152_46 rfl (lv_at hl 1 rfl) ?_
        refine lv_iload_n hx hb d_m152_47 rfl (lv_at hl 3 rfl) ?_
        refine lv_iload_n hx hb d_m152_48 rfl (lv_at hl 2 rfl) ?_
        obtain ⟨z1, hz1, hf⟩ := ob_bind hf
        refine g_callv (wc := (w_Course_layUnit cI cB cS cT a_pic a_pic_h a_pic_v a_pic_ac a_pic_dn a_pic_st a_crs a_crs_ow a_crs_pl a_pic_oa a_pic_od a_pic_co a_crs_dt a_crs_ot pic_many pic_unitsAcross pic_unitsDown pic_blocks pic_h pic_v pic_ac pic_dn pic_st crs_kind crs_first crs_last crs_bits crs_interval crs_units_21 crs_blocksOfUnit crs_laid_34 crs_ow_34 crs_pl_34)) (w1 := (w_Course_layUnit cI cB cS cT a_pic a_pic_h a_pic_v a_pic_ac a_pic_dn a_pic_st a_crs a_crs_ow a_crs_pl a_pic_oa a_pic_od a_pic_co a_crs_dt a_crs_ot pic_many pic_unitsAcross pic_unitsDown pic_blocks pic_h pic_v pic_ac pic_dn pic_st crs_kind crs_first crs_last crs_bits crs_interval crs_units_21 crs_blocksOfUnit z1.1 z1.2.1 z1.2.2)) (w2 := (w_Course_laySeveral cI cB cS cT a_pic a_pic_h a_pic_v a_pic_ac a_pic_dn a_pic_st a_crs a_crs_ow a_crs_pl a_pic_oa a_pic_od a_pic_co a_crs_dt a_crs_ot pic_many pic_unitsAcross pic_unitsDown pic_blocks pic_h pic_v pic_ac pic_dn pic_st crs_kind crs_first crs_last crs_bits crs_interval crs_units_21 crs_blocksOfUnit z1.1 z1.2.1 z1.2.2)) [0, 1, 2, 3, 4, 5, 6, 7, 8] [some 0, some 1, some 2, some 3, some 4, some 5, some 6, some 7, some 8] hP hD hS hA rfl rfl rfl rfl (va_runV (As := [.int p0, .int v3_34, .int v2_21]) (rest := []) ⟨hx, hb, hml, hown, hts⟩ (c_Course_layUnit l dC dI cI cB cS cT N a_pic a_pic_h a_pic_v a_pic_ac a_pic_dn a_pic_st a_crs a_crs_ow a_crs_pl a_pic_oa a_pic_od a_pic_co a_crs_dt a_crs_ot pic_many pic_unitsAcross pic_unitsDown pic_blocks pic_h pic_v pic_ac pic_dn pic_st crs_kind crs_first crs_last crs_bits crs_interval crs_units_21 crs_blocksOfUnit crs_laid_34 crs_ow_34 crs_pl_34 p0 v3_34 v2_21 H.size z1 hz1) ⟨(callB_of 3 hts (gi tw_156 rfl) rfl rfl rfl (hts _ (List.mem_cons_of_mem _ tw_5)) (hts _ (List.mem_cons_of_mem _ tw_153)) (by decide +kernel) ⟨Nat.le_of_ble_eq_true rfl, Nat.le_of_ble_eq_true rfl⟩), hts _ (List.mem_cons_of_mem _ tw_155), hts _ (List.mem_cons_of_mem _ ts_m156)⟩ ⟨g_blind, va_recv hK hP (ci := 4) (q0 := 6) rfl rfl, g_at hKN (g_pm hP [0, 1, 2, 3, 4, 5, 6, 7, 8] rfl) (hD.sub [0, 1, 2, 3, 4, 5, 6, 7, 8] (by decide) rfl)⟩ rfl rfl hl.1 rfl (lv_room (Nat.le_of_ble_eq_true rfl)) d_m152_49 ⟨Nat.zero_le _, Nat.zero_le _⟩) (fun H locs hP hD hS => ?_)
        refine W.eq (g2 := F0 m 52 ls []) rfl ?_
        refine lv_iinc (v := v3_34 + (1 : Int32)) (lv' := [(3, .int (v3_34 + (1 : Int32))), (0, .ref a_crs), (1, .int p0), (2, .int v2_21)]) hx hb d_m152_52 hl (k := 3) rfl rfl (by decide) rfl (fun ls hl => ?_)
        refine lv_goto (tgt := 34) hx hb d_m152_55 (by decide) ?_
        exact ih (v3_34 + (1 : Int32)) z1.1 z1.2.1 z1.2.2 hf H locs ls hP hD hS (lv_sub hl [1, 2, 3, 0] rfl)
  have L21 : ∀ (crs_units_21 : Int32) (z : Int32 × (Nat → Int32) × (Nat → Int32)), (GW (dC, dI) A p l e (headSpec ws_m152 rm_Course_laySeveral).room s m args below meth c 0 0 Q 4 64 (w_Course_laySeveral cI cB cS cT a_pic a_pic_h a_pic_v a_pic_ac a_pic_dn a_pic_st a_crs a_crs_ow a_crs_pl a_pic_oa a_pic_od a_pic_co a_crs_dt a_crs_ot pic_many pic_unitsAcross pic_unitsDown pic_blocks pic_h pic_v pic_ac pic_dn pic_st crs_kind crs_first crs_last crs_bits crs_interval crs_units_21 crs_blocksOfUnit z.1 z.2.1 z.2.2) [(0, .ref a_crs)] []) → ∀ (k : Nat) (v2_21 : Int32) (crs_laid_21 : Int32) (crs_ow_21 : Nat → Int32) (crs_pl_21 : Nat → Int32), f_Course_laySeveral_L21 pic_unitsDown pic_unitsAcross p0 pic_many pic_h pic_v pic_ac pic_dn pic_st N k (v2_21, crs_laid_21, crs_ow_21, crs_pl_21) = some z → GW (dC, dI) A p l e (headSpec ws_m152 rm_Course_laySeveral).room s m args below meth c 0 0 Q 4 21 (w_Course_laySeveral cI cB cS cT a_pic a_pic_h a_pic_v a_pic_ac a_pic_dn a_pic_st a_crs a_crs_ow a_crs_pl a_pic_oa a_pic_od a_pic_co a_crs_dt a_crs_ot pic_many pic_unitsAcross pic_unitsDown pic_blocks pic_h pic_v pic_ac pic_dn pic_st crs_kind crs_first crs_last crs_bits crs_interval crs_units_21 crs_blocksOfUnit crs_laid_21 crs_ow_21 crs_pl_21) [(0, .ref a_crs), (1, .int p0), (2, .int v2_21)] [] := by
    intro crs_units_21 z hE0 k
    induction k with
    | zero =>
      intro v2_21 crs_laid_21 crs_ow_21 crs_pl_21 hf
      exact (it_zero hf).elim
    | succ k ih =>
      intro v2_21 crs_laid_21 crs_ow_21 crs_pl_21 hf H locs ls hP hD hS hl
      have hf : f_Course_laySeveral_L21b pic_unitsDown pic_unitsAcross p0 pic_many pic_h pic_v pic_ac pic_dn pic_st N (f_Course_laySeveral_L21 pic_unitsDown pic_unitsAcross p0 pic_many pic_h pic_v pic_ac pic_dn pic_st N k) v2_21 crs_laid_21 crs_ow_21 crs_pl_21 = some z := hf
      unfold f_Course_laySeveral_L21b at hf
      refine lv_iload_n hx hb d_m152_21 rfl (lv_at hl 2 rfl) ?_
      refine lv_aload_n hx hb d_m152_22 rfl (lv_at hl 0 rfl) ?_
      refine va_get (D := (dC, dI)) (ci := 4) (v := .ref a_pic) (C := "ScanCoder$Course") (T := T_4) (N := 13) hx hb hts n0 hown hK hP 6 rfl rfl 0 (by decide) k0 (fun _ h9 => h9) rfl d_m152_23 ?_
      refine va_get (D := (dC, dI)) (ci := 8) (v := .int pic_unitsDown) (C := "ScanCoder$Picture") (T := T_8) (N := 12) hx hb hts n1 hown hK hP 0 rfl rfl 9 (by decide) k2 (fun _ h9 => h9) rfl d_m152_26 ?_
      refine lv_icmp_ge (tgt := 64) hx hb d_m152_29 (by decide) (fun hc => ?_) (fun hc => ?_)
      · replace hf := (if_pos hc).symm.trans hf
        obtain rfl := Option.some.inj hf
        exact hE0  H locs ls hP hD hS (lv_sub hl [0] rfl)
      · replace hf := (if_neg hc).symm.trans hf
        refine lv_iconst (v := (0 : Int32)) hx hb d_m152_32 (by decide) ?_
        refine lv_istore_n (lv' := [(3, .int (0 : Int32)), (0, .ref a_crs), (1, .int p0), (2, .int v2_21)]) hx hb d_m152_33 rfl hl (by decide) rfl (fun ls hl => ?_)
        obtain ⟨z2, hz2, hf⟩ := ob_bind hf
        refine L34 v2_21 crs_units_21 z2 ?_ N (0 : Int32) crs_laid_21 crs_ow_21 crs_pl_21 hz2 H locs ls hP hD hS (lv_sub hl [1, 2, 3, 0] rfl)
        · intro H locs ls hP hD hS hl
          refine lv_iinc (v := v2_21 + (1 : Int32)) (lv' := [(2, .int (v2_21 + (1 : Int32))), (0, .ref a_crs), (1, .int p0)]) hx hb d_m152_58 hl (k := 2) rfl rfl (by decide) rfl (fun ls hl => ?_)
          refine lv_goto (tgt := 21) hx hb d_m152_61 (by decide) ?_
          exact ih (v2_21 + (1 : Int32)) z2.1 z2.2.1 z2.2.2 hf H locs ls hP hD hS (lv_sub hl [1, 2, 0] rfl)
  have J86 : ∀ (crs_units_j86 : Int32) (crs_laid_j86 : Int32) (crs_ow_j86 : Nat → Int32) (crs_pl_j86 : Nat → Int32) (s1_j86 : Int32), f_Course_laySeveral_J86 N crs_units_j86 s1_j86 crs_laid_j86 crs_ow_j86 crs_pl_j86 = some z → GW (dC, dI) A p l e (headSpec ws_m152 rm_Course_laySeveral).room s m args below meth c 0 0 Q 4 86 (w_Course_laySeveral cI cB cS cT a_pic a_pic_h a_pic_v a_pic_ac a_pic_dn a_pic_st a_crs a_crs_ow a_crs_pl a_pic_oa a_pic_od a_pic_co a_crs_dt a_crs_ot pic_many pic_unitsAcross pic_unitsDown pic_blocks pic_h pic_v pic_ac pic_dn pic_st crs_kind crs_first crs_last crs_bits crs_interval crs_units_j86 crs_blocksOfUnit crs_laid_j86 crs_ow_j86 crs_pl_j86) [] [.int s1_j86, .ref a_crs] := by
    intro crs_units_j86 crs_laid_j86 crs_ow_j86 crs_pl_j86 s1_j86 hf H locs ls hP hD hS hl
    unfold f_Course_laySeveral_J86 at hf
    refine va_put (D := (dC, dI)) (ci := 4) (v := .int s1_j86) (ty := .int) (C := "ScanCoder$Course") (T := T_4) (N := 13) hx hb hts n0 ty_4 tyok_4 nm_4 hown hK hP hD hS 6 rfl rfl 11 (by decide) k5 (fun _ h9 => h9) rfl (by decide +kernel) rfl rfl (Nat.le_of_ble_eq_true rfl) d_m152_86 (fun H locs hP hD hS => ?_)
    have hP : va_P (dC, dI) vwCl (w_Course_laySeveral cI cB cS cT a_pic a_pic_h a_pic_v a_pic_ac a_pic_dn a_pic_st a_crs a_crs_ow a_crs_pl a_pic_oa a_pic_od a_pic_co a_crs_dt a_crs_ot pic_many pic_unitsAcross pic_unitsDown pic_blocks pic_h pic_v pic_ac pic_dn pic_st crs_kind crs_first crs_last crs_bits crs_interval crs_units_j86 s1_j86 crs_laid_j86 crs_ow_j86 crs_pl_j86) H := hP
    have hD : va_D A (w_Course_laySeveral cI cB cS cT a_pic a_pic_h a_pic_v a_pic_ac a_pic_dn a_pic_st a_crs a_crs_ow a_crs_pl a_pic_oa a_pic_od a_pic_co a_crs_dt a_crs_ot pic_many pic_unitsAcross pic_unitsDown pic_blocks pic_h pic_v pic_ac pic_dn pic_st crs_kind crs_first crs_last crs_bits crs_interval crs_units_j86 s1_j86 crs_laid_j86 crs_ow_j86 crs_pl_j86) := hD
    obtain rfl := Option.some.inj hf
    subst hQ
    subst hAe
    exact W.vret hx hb hr (fun t ht hW => ⟨⟨(), rfl, trivial, by rw [ht]; exact hP, hD⟩, hS.F ht⟩) hS.2.2 d_m152_89
  have hgo : ∀ (H : Heap) (locs : List Loc), va_P (dC, dI) vwCl (w_Course_laySeveral cI cB cS cT a_pic a_pic_h a_pic_v a_pic_ac a_pic_dn a_pic_st a_crs a_crs_ow a_crs_pl a_pic_oa a_pic_od a_pic_co a_crs_dt a_crs_ot pic_many pic_unitsAcross pic_unitsDown pic_blocks pic_h pic_v pic_ac pic_dn pic_st crs_kind crs_first crs_last crs_bits crs_interval crs_units crs_blocksOfUnit crs_laid crs_ow crs_pl) H → va_S A s.heap H locs → W p l e (headSpec ws_m152 rm_Course_laySeveral).room s m args below meth c H locs 0 0 Q (F0 m 0 ls []) := by
    intro H locs hP hS
    unfold f_Course_laySeveral at hf
    refine lv_aload_n hx hb d_m152_0 rfl (lv_at hl 0 rfl) ?_
    refine lv_aload_n hx hb d_m152_1 rfl (lv_at hl 0 rfl) ?_
    refine va_get (D := (dC, dI)) (ci := 4) (v := .ref a_pic) (C := "ScanCoder$Course") (T := T_4) (N := 13) hx hb hts n0 hown hK hP 6 rfl rfl 0 (by decide) k0 (fun _ h9 => h9) rfl d_m152_2 ?_
    refine va_get (D := (dC, dI)) (ci := 8) (v := .int pic_unitsAcross) (C := "ScanCoder$Picture") (T := T_8) (N := 12) hx hb hts n1 hown hK hP 0 rfl rfl 8 (by decide) k1 (fun _ h9 => h9) rfl d_m152_5 ?_
    refine lv_aload_n hx hb d_m152_8 rfl (lv_at hl 0 rfl) ?_
    refine va_get (D := (dC, dI)) (ci := 4) (v := .ref a_pic) (C := "ScanCoder$Course") (T := T_4) (N := 13) hx hb hts n0 hown hK hP 6 rfl rfl 0 (by decide) k0 (fun _ h9 => h9) rfl d_m152_9 ?_
    refine va_get (D := (dC, dI)) (ci := 8) (v := .int pic_unitsDown) (C := "ScanCoder$Picture") (T := T_8) (N := 12) hx hb hts n1 hown hK hP 0 rfl rfl 9 (by decide) k2 (fun _ h9 => h9) rfl d_m152_12 ?_
    refine lv_imul hx hb d_m152_15 ?_
    refine va_put (D := (dC, dI)) (ci := 4) (v := .int (pic_unitsAcross * pic_unitsDown)) (ty := .int) (C := "ScanCoder$Course") (T := T_4) (N := 13) hx hb hts n0 ty_4 tyok_4 nm_4 hown hK hP hD hS 6 rfl rfl 10 (by decide) k3 (fun _ h9 => h9) rfl (by decide +kernel) rfl rfl (Nat.le_of_ble_eq_true rfl) d_m152_16 (fun H locs hP hD hS => ?_)
    have hP : va_P (dC, dI) vwCl (w_Course_laySeveral cI cB cS cT a_pic a_pic_h a_pic_v a_pic_ac a_pic_dn a_pic_st a_crs a_crs_ow a_crs_pl a_pic_oa a_pic_od a_pic_co a_crs_dt a_crs_ot pic_many pic_unitsAcross pic_unitsDown pic_blocks pic_h pic_v pic_ac pic_dn pic_st crs_kind crs_first crs_last crs_bits crs_interval (pic_unitsAcross * pic_unitsDown) crs_blocksOfUnit crs_laid crs_ow crs_pl) H := hP
    have hD : va_D A (w_Course_laySeveral cI cB cS cT a_pic a_pic_h a_pic_v a_pic_ac a_pic_dn a_pic_st a_crs a_crs_ow a_crs_pl a_pic_oa a_pic_od a_pic_co a_crs_dt a_crs_ot pic_many pic_unitsAcross pic_unitsDown pic_blocks pic_h pic_v pic_ac pic_dn pic_st crs_kind crs_first crs_last crs_bits crs_interval (pic_unitsAcross * pic_unitsDown) crs_blocksOfUnit crs_laid crs_ow crs_pl) := hD
    refine lv_iconst (v := (0 : Int32)) hx hb d_m152_19 (by decide) ?_
    refine lv_istore_n (lv' := [(2, .int (0 : Int32)), (0, .ref a_crs), (1, .int p0)]) hx hb d_m152_20 rfl hl (by decide) rfl (fun ls hl => ?_)
    obtain ⟨z3, hz3, hf⟩ := ob_bind hf
    refine L21 (pic_unitsAcross * pic_unitsDown) z3 ?_ N (0 : Int32) crs_laid crs_ow crs_pl hz3 H locs ls hP hD hS (lv_sub hl [1, 2, 0] rfl)
    · intro H locs ls hP hD hS hl
      refine lv_aload_n hx hb d_m152_64 rfl (lv_at hl 0 rfl) ?_
      refine lv_aload_n hx hb d_m152_65 rfl (lv_at hl 0 rfl) ?_
      refine va_get (D := (dC, dI)) (ci := 4) (v := .int (pic_unitsAcross * pic_unitsDown)) (C := "ScanCoder$Course") (T := T_4) (N := 13) hx hb hts n0 hown hK hP 6 rfl rfl 10 (by decide) k3 (fun _ h9 => h9) rfl d_m152_66 ?_
      refine lv_iconst (v := (1 : Int32)) hx hb d_m152_69 (by decide) ?_
      refine lv_icmp_ge (tgt := 77) hx hb d_m152_70 (by decide) (fun hc => ?_) (fun hc => ?_)
      · replace hf := (if_pos hc).symm.trans hf
        refine lv_aload_n hx hb d_m152_77 rfl (lv_at hl 0 rfl) ?_
        refine va_get (D := (dC, dI)) (ci := 4) (v := .int z3.1) (C := "ScanCoder$Course") (T := T_4) (N := 13) hx hb hts n0 hown hK hP 6 rfl rfl 12 (by decide) k4 (fun _ h9 => h9) rfl d_m152_78 ?_
        refine lv_aload_n hx hb d_m152_81 rfl (lv_at hl 0 rfl) ?_
        refine va_get (D := (dC, dI)) (ci := 4) (v := .int (pic_unitsAcross * pic_unitsDown)) (C := "ScanCoder$Course") (T := T_4) (N := 13) hx hb hts n0 hown hK hP 6 rfl rfl 10 (by decide) k3 (fun _ h9 => h9) rfl d_m152_82 ?_
        obtain ⟨hi, hf⟩ := ob_if hf
        refine lv_idiv hx hb d_m152_85 hi ?_
        exact J86 (pic_unitsAcross * pic_unitsDown) z3.1 z3.2.1 z3.2.2 (z3.1 / (pic_unitsAcross * pic_unitsDown)) hf H locs ls hP hD hS (lv_sub hl [] rfl)
      · replace hf := (if_neg hc).symm.trans hf
        refine lv_iconst (v := (0 : Int32)) hx hb d_m152_73 (by decide) ?_
        refine lv_goto (tgt := 86) hx hb d_m152_74 (by decide) ?_
        exact J86 (pic_unitsAcross * pic_unitsDown) z3.1 z3.2.1 z3.2.2 (0 : Int32) hf H locs ls hP hD hS (lv_sub hl [] rfl)
  exact hgo _ _ hP hS

def f_Course_lay (N : Nat) (p0 : Int32) (pic_many : Int32) (pic_unitsAcross : Int32) (pic_unitsDown : Int32) (pic_h : Nat → Int32) (pic_v : Nat → Int32) (pic_ac : Nat → Int32) (pic_dn : Nat → Int32) (pic_oa : Nat → Int32) (pic_od : Nat → Int32) (pic_st : Nat → Int32) (crs_ow : Nat → Int32) (crs_pl : Nat → Int32) : Option (Int32 × Int32 × Int32 × (Nat → Int32) × (Nat → Int32)) :=
  (f_Integer_bitCount p0).bind fun z1 =>
  if z1 = (1 : Int32) then
    (f_Course_layOne N p0 pic_many pic_ac pic_dn pic_oa pic_od pic_st (0 : Int32) crs_ow crs_pl).bind fun z3 =>
    some (z3.1, z3.2.1, z3.2.2.1, z3.2.2.2.1, z3.2.2.2.2)
  else
    (f_Course_laySeveral N p0 pic_many pic_unitsAcross pic_unitsDown pic_h pic_v pic_ac pic_dn pic_st (0 : Int32) crs_ow crs_pl).bind fun z2 =>
    some (z2.1, z2.2.1, z2.2.2.1, z2.2.2.2.1, z2.2.2.2.2)
abbrev w_Course_lay (cI cB cS cT : ClassId) (a_pic : Nat) (a_pic_h : Nat) (a_pic_v : Nat) (a_pic_ac : Nat) (a_pic_dn : Nat) (a_pic_oa : Nat) (a_pic_od : Nat) (a_pic_st : Nat) (a_crs : Nat) (a_crs_ow : Nat) (a_crs_pl : Nat) (a_pic_co : Nat) (a_crs_dt : Nat) (a_crs_ot : Nat) (pic_many : Int32) (pic_unitsAcross : Int32) (pic_unitsDown : Int32) (pic_blocks : Int32) (pic_h : Nat → Int32) (pic_v : Nat → Int32) (pic_ac : Nat → Int32) (pic_dn : Nat → Int32) (pic_oa : Nat → Int32) (pic_od : Nat → Int32) (pic_st : Nat → Int32) (crs_kind : Int32) (crs_first : Int32) (crs_last : Int32) (crs_bits : Int32) (crs_interval : Int32) (crs_units : Int32) (crs_blocksOfUnit : Int32) (crs_laid : Int32) (crs_ow : Nat → Int32) (crs_pl : Nat → Int32) : va_W := [(a_pic, .inr (8, [.ref a_pic_h, .ref a_pic_v, .ref a_pic_ac, .ref a_pic_dn, .ref a_pic_oa, .ref a_pic_od, .ref a_pic_st, .int pic_many, .int pic_unitsAcross, .int pic_unitsDown, .int pic_blocks, .ref a_pic_co])), (a_pic_h, .inl (cI, 4, .inl pic_h)), (a_pic_v, .inl (cI, 4, .inl pic_v)), (a_pic_ac, .inl (cI, 4, .inl pic_ac)), (a_pic_dn, .inl (cI, 4, .inl pic_dn)), (a_pic_oa, .inl (cI, 4, .inl pic_oa)), (a_pic_od, .inl (cI, 4, .inl pic_od)), (a_pic_st, .inl (cI, 4, .inl pic_st)), (a_crs, .inr (4, [.ref a_pic, .ref a_crs_ow, .ref a_crs_pl, .ref a_crs_dt, .ref a_crs_ot, .int crs_kind, .int crs_first, .int crs_last, .int crs_bits, .int crs_interval, .int crs_units, .int crs_blocksOfUnit, .int crs_laid])), (a_crs_ow, .inl (cI, 192, .inl crs_ow)), (a_crs_pl, .inl (cI, 192, .inl crs_pl))]
def rm_Course_lay : Room := { frames := 4, cells := 0, slots := 0, locals := 100 }
set_option maxHeartbeats 1000000 in
set_option maxRecDepth 100000 in
theorem c_Course_lay (l : Launch) (dC : Nat → ClassId) (dI : Nat → Nat → Nat) (cI cB cS cT : ClassId) (N : Nat) (a_pic : Nat) (a_pic_h : Nat) (a_pic_v : Nat) (a_pic_ac : Nat) (a_pic_dn : Nat) (a_pic_oa : Nat) (a_pic_od : Nat) (a_pic_st : Nat) (a_crs : Nat) (a_crs_ow : Nat) (a_crs_pl : Nat) (a_pic_co : Nat) (a_crs_dt : Nat) (a_crs_ot : Nat) (pic_many : Int32) (pic_unitsAcross : Int32) (pic_unitsDown : Int32) (pic_blocks : Int32) (pic_h : Nat → Int32) (pic_v : Nat → Int32) (pic_ac : Nat → Int32) (pic_dn : Nat → Int32) (pic_oa : Nat → Int32) (pic_od : Nat → Int32) (pic_st : Nat → Int32) (crs_kind : Int32) (crs_first : Int32) (crs_last : Int32) (crs_bits : Int32) (crs_interval : Int32) (crs_units : Int32) (crs_blocksOfUnit : Int32) (crs_laid : Int32) (crs_ow : Nat → Int32) (crs_pl : Nat → Int32) (p0 : Int32) (sz : Nat) (z : Int32 × Int32 × Int32 × (Nat → Int32) × (Nat → Int32)) (hf : f_Course_lay N p0 pic_many pic_unitsAcross pic_unitsDown pic_h pic_v pic_ac pic_dn pic_oa pic_od pic_st crs_ow crs_pl = some z) : Met l y_m130 ws_m130 rm_Course_lay (gPre (dC, dI) [.ref a_crs, .int p0] (gT cI cB cS cT) (w_Course_lay cI cB cS cT a_pic a_pic_h a_pic_v a_pic_ac a_pic_dn a_pic_oa a_pic_od a_pic_st a_crs a_crs_ow a_crs_pl a_pic_co a_crs_dt a_crs_ot pic_many pic_unitsAcross pic_unitsDown pic_blocks pic_h pic_v pic_ac pic_dn pic_oa pic_od pic_st crs_kind crs_first crs_last crs_bits crs_interval crs_units crs_blocksOfUnit crs_laid crs_ow crs_pl) sz) (gQv (dC, dI) (gT cI cB cS cT) (w_Course_lay cI cB cS cT a_pic a_pic_h a_pic_v a_pic_ac a_pic_dn a_pic_oa a_pic_od a_pic_st a_crs a_crs_ow a_crs_pl a_pic_co a_crs_dt a_crs_ot pic_many pic_unitsAcross pic_unitsDown pic_blocks pic_h pic_v pic_ac pic_dn pic_oa pic_od pic_st crs_kind crs_first crs_last crs_bits crs_interval crs_units crs_blocksOfUnit crs_laid crs_ow crs_pl) (w_Course_lay cI cB cS cT a_pic a_pic_h a_pic_v a_pic_ac a_pic_dn a_pic_oa a_pic_od a_pic_st a_crs a_crs_ow a_crs_pl a_pic_co a_crs_dt a_crs_ot pic_many pic_unitsAcross pic_unitsDown pic_blocks pic_h pic_v pic_ac pic_dn pic_oa pic_od pic_st crs_kind crs_first crs_last crs_bits crs_interval z.1 z.2.1 z.2.2.1 z.2.2.2.1 z.2.2.2.2) sz) 0 0 (va_A (w_Course_lay cI cB cS cT a_pic a_pic_h a_pic_v a_pic_ac a_pic_dn a_pic_oa a_pic_od a_pic_st a_crs a_crs_ow a_crs_pl a_pic_co a_crs_dt a_crs_ot pic_many pic_unitsAcross pic_unitsDown pic_blocks pic_h pic_v pic_ac pic_dn pic_oa pic_od pic_st crs_kind crs_first crs_last crs_bits crs_interval crs_units crs_blocksOfUnit crs_laid crs_ow crs_pl) sz) := by
  refine Met.ofW (cc := prog_5_method_6_code) (maxL := 2) (ret := none) (by decide) rfl ?_
  intro p e s m args below meth c s₁ B hml hv
  obtain ⟨hargs, hsz, hP, hKN, hD0⟩ := hv
  have hK := hKN.1
  have hx := B.exec
  have hb := B.bytes
  have hr := B.returns
  have hts := atoms_spec (ws := ws_m130) B.pre
  have hown : s.vm.findClass "ScanCoder$Course" = some m.cls := findClass_of_methodNamed B.named
  have hlocks := B.notSynchronized
  have k0 := hts _ (List.mem_cons_of_mem _ tw_193)
  have n0 : ∀ w ∈ u_ws "ScanCoder$Course" T_4 13, w ∈ ws_m130 := fun w h => List.mem_cons_of_mem _ (in_4 w h)
  subst hsz
  have hD := hD0.self (sz := s.heap.size)
  obtain ⟨A, hAe⟩ : ∃ A : Nat → Prop, va_A (w_Course_lay cI cB cS cT a_pic a_pic_h a_pic_v a_pic_ac a_pic_dn a_pic_oa a_pic_od a_pic_st a_crs a_crs_ow a_crs_pl a_pic_co a_crs_dt a_crs_ot pic_many pic_unitsAcross pic_unitsDown pic_blocks pic_h pic_v pic_ac pic_dn pic_oa pic_od pic_st crs_kind crs_first crs_last crs_bits crs_interval crs_units crs_blocksOfUnit crs_laid crs_ow crs_pl) s.heap.size = A := ⟨_, rfl⟩
  rw [hAe] at hD
  have hA : ∀ q : Nat, s.heap.size ≤ q → A q := fun q h => by rw [← hAe]; exact Or.inr h
  have hS : va_S A s.heap s.heap [] := va_S.rf
  have hl := lv_entry ([.ref a_crs, .int p0]) (n := 2) (Nat.le_of_ble_eq_true rfl)
  have hfr : entryFrame m args 2 = F0 m 0 ((lg_sl ([.ref a_crs, .int p0]) ++ List.replicate (2 - (lg_sl ([.ref a_crs, .int p0])).length) Slot.unset).toArray) [] := by rw [hargs]; exact lg_entry_eq _ _ _
  rw [hfr]
  generalize (lg_sl ([.ref a_crs, .int p0]) ++ List.replicate (2 - (lg_sl ([.ref a_crs, .int p0])).length) Slot.unset).toArray = ls at hl ⊢
  have hl : lv_has ls 2 [(0, .ref a_crs), (1, .int p0)] := hl
  refine gen_Q (fun Q hQ => ?_)
  clear hfr
  have hgo : ∀ (H : Heap) (locs : List Loc), va_P (dC, dI) vwCl (w_Course_lay cI cB cS cT a_pic a_pic_h a_pic_v a_pic_ac a_pic_dn a_pic_oa a_pic_od a_pic_st a_crs a_crs_ow a_crs_pl a_pic_co a_crs_dt a_crs_ot pic_many pic_unitsAcross pic_unitsDown pic_blocks pic_h pic_v pic_ac pic_dn pic_oa pic_od pic_st crs_kind crs_first crs_last crs_bits crs_interval crs_units crs_blocksOfUnit crs_laid crs_ow crs_pl) H → va_S A s.heap H locs → W p l e (headSpec ws_m130 rm_Course_lay).room s m args below meth c H locs 0 0 Q (F0 m 0 ls []) := by
    intro H locs hP hS
    unfold f_Course_lay at hf
    refine lv_aload_n hx hb d_m130_0 rfl (lv_at hl 0 rfl) ?_
    refine lv_iconst (v := (0 : Int32)) hx hb d_m130_1 (by decide) ?_
    refine va_put (D := (dC, dI)) (ci := 4) (v := .int (0 : Int32)) (ty := .int) (C := "ScanCoder$Course") (T := T_4) (N := 13) hx hb hts n0 ty_4 tyok_4 nm_4 hown hK hP hD hS 8 rfl rfl 12 (by decide) k0 (fun _ h9 => h9) rfl (by decide +kernel) rfl rfl (Nat.le_of_ble_eq_true rfl) d_m130_2 (fun H locs hP hD hS => ?_)
    have hP : va_P (dC, dI) vwCl (w_Course_lay cI cB cS cT a_pic a_pic_h a_pic_v a_pic_ac a_pic_dn a_pic_oa a_pic_od a_pic_st a_crs a_crs_ow a_crs_pl a_pic_co a_crs_dt a_crs_ot pic_many pic_unitsAcross pic_unitsDown pic_blocks pic_h pic_v pic_ac pic_dn pic_oa pic_od pic_st crs_kind crs_first crs_last crs_bits crs_interval crs_units crs_blocksOfUnit (0 : Int32) crs_ow crs_pl) H := hP
    have hD : va_D A (w_Course_lay cI cB cS cT a_pic a_pic_h a_pic_v a_pic_ac a_pic_dn a_pic_oa a_pic_od a_pic_st a_crs a_crs_ow a_crs_pl a_pic_co a_crs_dt a_crs_ot pic_many pic_unitsAcross pic_unitsDown pic_blocks pic_h pic_v pic_ac pic_dn pic_oa pic_od pic_st crs_kind crs_first crs_last crs_bits crs_interval crs_units crs_blocksOfUnit (0 : Int32) crs_ow crs_pl) := hD
    refine lv_iload_n hx hb d_m130_5 rfl (lv_at hl 1 rfl) ?_
    obtain ⟨z1, hz1, hf⟩ := ob_bind hf
    refine vp_callSi (g_run (va_runS (As := [.int p0]) (rest := []) ⟨hx, hb, hml, hown, hts⟩ (c_Integer_bitCount l dC dI cI cB cS cT p0 z1 hz1) ⟨(callB_of 1 hts (gi tw_133 rfl) rfl rfl rfl (hts _ (List.mem_cons_of_mem _ tw_6)) (hts _ (List.mem_cons_of_mem _ tw_131)) (by decide +kernel) ⟨Nat.le_of_ble_eq_true rfl, Nat.le_of_ble_eq_true rfl⟩), hts _ (List.mem_cons_of_mem _ tw_132)⟩ ⟨gp_blind, gp_at hKN (g_pm hP [] rfl)⟩ rfl rfl hl.1 rfl (lv_room (Nat.le_of_ble_eq_true rfl)) d_m130_6 ⟨Nat.zero_le _, Nat.zero_le _⟩)) (fun r hrz1 => ?_)
    have hrz1 := hrz1.symm
    subst hrz1
    refine W.eq (g2 := F0 m 9 ls [.int z1]) rfl ?_
    refine lv_iconst (v := (1 : Int32)) hx hb d_m130_9 (by decide) ?_
    refine lv_icmp_ne (tgt := 21) hx hb d_m130_10 (by decide) (fun hc => ?_) (fun hc => ?_)
    · replace hf := (if_neg hc).symm.trans hf
      refine lv_aload_n hx hb d_m130_21 rfl (lv_at hl 0 rfl) ?_
      refine lv_iload_n hx hb d_m130_22 rfl (lv_at hl 1 rfl) ?_
      obtain ⟨z2, hz2, hf⟩ := ob_bind hf
      refine g_callv (wc := (w_Course_laySeveral cI cB cS cT a_pic a_pic_h a_pic_v a_pic_ac a_pic_dn a_pic_st a_crs a_crs_ow a_crs_pl a_pic_oa a_pic_od a_pic_co a_crs_dt a_crs_ot pic_many pic_unitsAcross pic_unitsDown pic_blocks pic_h pic_v pic_ac pic_dn pic_st crs_kind crs_first crs_last crs_bits crs_interval crs_units crs_blocksOfUnit (0 : Int32) crs_ow crs_pl)) (w1 := (w_Course_laySeveral cI cB cS cT a_pic a_pic_h a_pic_v a_pic_ac a_pic_dn a_pic_st a_crs a_crs_ow a_crs_pl a_pic_oa a_pic_od a_pic_co a_crs_dt a_crs_ot pic_many pic_unitsAcross pic_unitsDown pic_blocks pic_h pic_v pic_ac pic_dn pic_st crs_kind crs_first crs_last crs_bits crs_interval z2.1 z2.2.1 z2.2.2.1 z2.2.2.2.1 z2.2.2.2.2)) (w2 := (w_Course_lay cI cB cS cT a_pic a_pic_h a_pic_v a_pic_ac a_pic_dn a_pic_oa a_pic_od a_pic_st a_crs a_crs_ow a_crs_pl a_pic_co a_crs_dt a_crs_ot pic_many pic_unitsAcross pic_unitsDown pic_blocks pic_h pic_v pic_ac pic_dn pic_oa pic_od pic_st crs_kind crs_first crs_last crs_bits crs_interval z2.1 z2.2.1 z2.2.2.1 z2.2.2.2.1 z2.2.2.2.2)) [0, 1, 2, 3, 4, 7, 8, 9, 10] [some 0, some 1, some 2, some 3, some 4, none, none, some 5, some 6, some 7, some 8] hP hD hS hA rfl rfl rfl rfl (va_runV (As := [.int p0]) (rest := []) ⟨hx, hb, hml, hown, hts⟩ (c_Course_laySeveral l dC dI cI cB cS cT N a_pic a_pic_h a_pic_v a_pic_ac a_pic_dn a_pic_st a_crs a_crs_ow a_crs_pl a_pic_oa a_pic_od a_pic_co a_crs_dt a_crs_ot pic_many pic_unitsAcross pic_unitsDown pic_blocks pic_h pic_v pic_ac pic_dn pic_st crs_kind crs_first crs_last crs_bits crs_interval crs_units crs_blocksOfUnit (0 : Int32) crs_ow crs_pl p0 H.size z2 hz2) ⟨(callB_of 1 hts (gi tw_152 rfl) rfl rfl rfl (hts _ (List.mem_cons_of_mem _ tw_5)) (hts _ (List.mem_cons_of_mem _ tw_149)) (by decide +kernel) ⟨Nat.le_of_ble_eq_true rfl, Nat.le_of_ble_eq_true rfl⟩), hts _ (List.mem_cons_of_mem _ tw_151), hts _ (List.mem_cons_of_mem _ ts_m152)⟩ ⟨g_blind, va_recv hK hP (ci := 4) (q0 := 8) rfl rfl, g_at hKN (g_pm hP [0, 1, 2, 3, 4, 7, 8, 9, 10] rfl) (hD.sub [0, 1, 2, 3, 4, 7, 8, 9, 10] (by decide) rfl)⟩ rfl rfl hl.1 rfl (lv_room (Nat.le_of_ble_eq_true rfl)) d_m130_23 ⟨Nat.zero_le _, Nat.zero_le _⟩) (fun H locs hP hD hS => ?_)
      refine W.eq (g2 := F0 m 26 ls []) rfl ?_
      obtain rfl := Option.some.inj hf
      subst hQ
      subst hAe
      exact W.vret hx hb hr (fun t ht hW => ⟨⟨(), rfl, trivial, by rw [ht]; exact hP, hD⟩, hS.F ht⟩) hS.2.2 d_m130_26
    · replace hf := (if_pos hc).symm.trans hf
      refine lv_aload_n hx hb d_m130_13 rfl (lv_at hl 0 rfl) ?_
      refine lv_iload_n hx hb d_m130_14 rfl (lv_at hl 1 rfl) ?_
      obtain ⟨z3, hz3, hf⟩ := ob_bind hf
      refine g_callv (wc := (w_Course_layOne cI cB cS cT a_pic a_pic_ac a_pic_dn a_pic_oa a_pic_od a_pic_st a_crs a_crs_ow a_crs_pl a_pic_h a_pic_v a_pic_co a_crs_dt a_crs_ot pic_many pic_unitsAcross pic_unitsDown pic_blocks pic_ac pic_dn pic_oa pic_od pic_st crs_kind crs_first crs_last crs_bits crs_interval crs_units crs_blocksOfUnit (0 : Int32) crs_ow crs_pl)) (w1 := (w_Course_layOne cI cB cS cT a_pic a_pic_ac a_pic_dn a_pic_oa a_pic_od a_pic_st a_crs a_crs_ow a_crs_pl a_pic_h a_pic_v a_pic_co a_crs_dt a_crs_ot pic_many pic_unitsAcross pic_unitsDown pic_blocks pic_ac pic_dn pic_oa pic_od pic_st crs_kind crs_first crs_last crs_bits crs_interval z3.1 z3.2.1 z3.2.2.1 z3.2.2.2.1 z3.2.2.2.2)) (w2 := (w_Course_lay cI cB cS cT a_pic a_pic_h a_pic_v a_pic_ac a_pic_dn a_pic_oa a_pic_od a_pic_st a_crs a_crs_ow a_crs_pl a_pic_co a_crs_dt a_crs_ot pic_many pic_unitsAcross pic_unitsDown pic_blocks pic_h pic_v pic_ac pic_dn pic_oa pic_od pic_st crs_kind crs_first crs_last crs_bits crs_interval z3.1 z3.2.1 z3.2.2.1 z3.2.2.2.1 z3.2.2.2.2)) [0, 3, 4, 5, 6, 7, 8, 9, 10] [some 0, none, none, some 1, some 2, some 3, some 4, some 5, some 6, some 7, some 8] hP hD hS hA rfl rfl rfl rfl (va_runV (As := [.int p0]) (rest := []) ⟨hx, hb, hml, hown, hts⟩ (c_Course_layOne l dC dI cI cB cS cT N a_pic a_pic_ac a_pic_dn a_pic_oa a_pic_od a_pic_st a_crs a_crs_ow a_crs_pl a_pic_h a_pic_v a_pic_co a_crs_dt a_crs_ot pic_many pic_unitsAcross pic_unitsDown pic_blocks pic_ac pic_dn pic_oa pic_od pic_st crs_kind crs_first crs_last crs_bits crs_interval crs_units crs_blocksOfUnit (0 : Int32) crs_ow crs_pl p0 H.size z3 hz3) ⟨(callB_of 1 hts (gi tw_140 rfl) rfl rfl rfl (hts _ (List.mem_cons_of_mem _ tw_5)) (hts _ (List.mem_cons_of_mem _ tw_137)) (by decide +kernel) ⟨Nat.le_of_ble_eq_true rfl, Nat.le_of_ble_eq_true rfl⟩), hts _ (List.mem_cons_of_mem _ tw_139), hts _ (List.mem_cons_of_mem _ ts_m140)⟩ ⟨g_blind, va_recv hK hP (ci := 4) (q0 := 8) rfl rfl, g_at hKN (g_pm hP [0, 3, 4, 5, 6, 7, 8, 9, 10] rfl) (hD.sub [0, 3, 4, 5, 6, 7, 8, 9, 10] (by decide) rfl)⟩ rfl rfl hl.1 rfl (lv_room (Nat.le_of_ble_eq_true rfl)) d_m130_15 ⟨Nat.zero_le _, Nat.zero_le _⟩) (fun H locs hP hD hS => ?_)
      refine W.eq (g2 := F0 m 18 ls []) rfl ?_
      refine lv_goto (tgt := 26) hx hb d_m130_18 (by decide) ?_
      obtain rfl := Option.some.inj hf
      subst hQ
      subst hAe
      exact W.vret hx hb hr (fun t ht hW => ⟨⟨(), rfl, trivial, by rw [ht]; exact hP, hD⟩, hS.F ht⟩) hS.2.2 d_m130_26
  exact hgo _ _ hP hS

def f_Course_startAnew (N : Nat) (pic_many : Int32) (pic_unitsAcross : Int32) (pic_unitsDown : Int32) (pic_h : Nat → Int32) (pic_v : Nat → Int32) (pic_ac : Nat → Int32) (pic_dn : Nat → Int32) (pic_oa : Nat → Int32) (pic_od : Nat → Int32) (pic_st : Nat → Int32) (crs_ow : Nat → Int32) (crs_pl : Nat → Int32) (crs_dt : Nat → Int32) (crs_ot : Nat → Int32) : Option (Int32 × Int32 × Int32 × Int32 × Int32 × Int32 × Int32 × Int32 × (Nat → Int32) × (Nat → Int32) × (Nat → Int32) × (Nat → Int32)) :=
  (f_Arrays_fillI N (0 : Int32) 4 crs_dt).bind fun z1 =>
  (f_Arrays_fillI N (4 : Int32) 4 crs_ot).bind fun z2 =>
  (f_Course_choose (0 : Int32) (0 : Int32) (63 : Int32) (0 : Int32)).bind fun z3 =>
  (f_Course_lay N (1 : Int32) pic_many pic_unitsAcross pic_unitsDown pic_h pic_v pic_ac pic_dn pic_oa pic_od pic_st crs_ow crs_pl).bind fun z4 =>
  some (z3.1, z3.2.1, z3.2.2.1, z3.2.2.2, (0 : Int32), z4.1, z4.2.1, z4.2.2.1, z4.2.2.2.1, z4.2.2.2.2, z1, z2)
abbrev w_Course_startAnew (cI cB cS cT : ClassId) (a_pic : Nat) (a_pic_h : Nat) (a_pic_v : Nat) (a_pic_ac : Nat) (a_pic_dn : Nat) (a_pic_oa : Nat) (a_pic_od : Nat) (a_pic_st : Nat) (a_crs : Nat) (a_crs_ow : Nat) (a_crs_pl : Nat) (a_crs_dt : Nat) (a_crs_ot : Nat) (a_pic_co : Nat) (pic_many : Int32) (pic_unitsAcross : Int32) (pic_unitsDown : Int32) (pic_blocks : Int32) (pic_h : Nat → Int32) (pic_v : Nat → Int32) (pic_ac : Nat → Int32) (pic_dn : Nat → Int32) (pic_oa : Nat → Int32) (pic_od : Nat → Int32) (pic_st : Nat → Int32) (crs_kind : Int32) (crs_first : Int32) (crs_last : Int32) (crs_bits : Int32) (crs_interval : Int32) (crs_units : Int32) (crs_blocksOfUnit : Int32) (crs_laid : Int32) (crs_ow : Nat → Int32) (crs_pl : Nat → Int32) (crs_dt : Nat → Int32) (crs_ot : Nat → Int32) : va_W := [(a_pic, .inr (8, [.ref a_pic_h, .ref a_pic_v, .ref a_pic_ac, .ref a_pic_dn, .ref a_pic_oa, .ref a_pic_od, .ref a_pic_st, .int pic_many, .int pic_unitsAcross, .int pic_unitsDown, .int pic_blocks, .ref a_pic_co])), (a_pic_h, .inl (cI, 4, .inl pic_h)), (a_pic_v, .inl (cI, 4, .inl pic_v)), (a_pic_ac, .inl (cI, 4, .inl pic_ac)), (a_pic_dn, .inl (cI, 4, .inl pic_dn)), (a_pic_oa, .inl (cI, 4, .inl pic_oa)), (a_pic_od, .inl (cI, 4, .inl pic_od)), (a_pic_st, .inl (cI, 4, .inl pic_st)), (a_crs, .inr (4, [.ref a_pic, .ref a_crs_ow, .ref a_crs_pl, .ref a_crs_dt, .ref a_crs_ot, .int crs_kind, .int crs_first, .int crs_last, .int crs_bits, .int crs_interval, .int crs_units, .int crs_blocksOfUnit, .int crs_laid])), (a_crs_ow, .inl (cI, 192, .inl crs_ow)), (a_crs_pl, .inl (cI, 192, .inl crs_pl)), (a_crs_dt, .inl (cI, 4, .inl crs_dt)), (a_crs_ot, .inl (cI, 4, .inl crs_ot))]
def rm_Course_startAnew : Room := { frames := 5, cells := 0, slots := 0, locals := 121 }
set_option maxHeartbeats 1000000 in
set_option maxRecDepth 100000 in
theorem c_Course_startAnew (l : Launch) (dC : Nat → ClassId) (dI : Nat → Nat → Nat) (cI cB cS cT : ClassId) (N : Nat) (a_pic : Nat) (a_pic_h : Nat) (a_pic_v : Nat) (a_pic_ac : Nat) (a_pic_dn : Nat) (a_pic_oa : Nat) (a_pic_od : Nat) (a_pic_st : Nat) (a_crs : Nat) (a_crs_ow : Nat) (a_crs_pl : Nat) (a_crs_dt : Nat) (a_crs_ot : Nat) (a_pic_co : Nat) (pic_many : Int32) (pic_unitsAcross : Int32) (pic_unitsDown : Int32) (pic_blocks : Int32) (pic_h : Nat → Int32) (pic_v : Nat → Int32) (pic_ac : Nat → Int32) (pic_dn : Nat → Int32) (pic_oa : Nat → Int32) (pic_od : Nat → Int32) (pic_st : Nat → Int32) (crs_kind : Int32) (crs_first : Int32) (crs_last : Int32) (crs_bits : Int32) (crs_interval : Int32) (crs_units : Int32) (crs_blocksOfUnit : Int32) (crs_laid : Int32) (crs_ow : Nat → Int32) (crs_pl : Nat → Int32) (crs_dt : Nat → Int32) (crs_ot : Nat → Int32) (sz : Nat) (z : Int32 × Int32 × Int32 × Int32 × Int32 × Int32 × Int32 × Int32 × (Nat → Int32) × (Nat → Int32) × (Nat → Int32) × (Nat → Int32)) (hf : f_Course_startAnew N pic_many pic_unitsAcross pic_unitsDown pic_h pic_v pic_ac pic_dn pic_oa pic_od pic_st crs_ow crs_pl crs_dt crs_ot = some z) : Met l y_m119 ws_m119 rm_Course_startAnew (gPre (dC, dI) [.ref a_crs] (gT cI cB cS cT) (w_Course_startAnew cI cB cS cT a_pic a_pic_h a_pic_v a_pic_ac a_pic_dn a_pic_oa a_pic_od a_pic_st a_crs a_crs_ow a_crs_pl a_crs_dt a_crs_ot a_pic_co pic_many pic_unitsAcross pic_unitsDown pic_blocks pic_h pic_v pic_ac pic_dn pic_oa pic_od pic_st crs_kind crs_first crs_last crs_bits crs_interval crs_units crs_blocksOfUnit crs_laid crs_ow crs_pl crs_dt crs_ot) sz) (gQv (dC, dI) (gT cI cB cS cT) (w_Course_startAnew cI cB cS cT a_pic a_pic_h a_pic_v a_pic_ac a_pic_dn a_pic_oa a_pic_od a_pic_st a_crs a_crs_ow a_crs_pl a_crs_dt a_crs_ot a_pic_co pic_many pic_unitsAcross pic_unitsDown pic_blocks pic_h pic_v pic_ac pic_dn pic_oa pic_od pic_st crs_kind crs_first crs_last crs_bits crs_interval crs_units crs_blocksOfUnit crs_laid crs_ow crs_pl crs_dt crs_ot) (w_Course_startAnew cI cB cS cT a_pic a_pic_h a_pic_v a_pic_ac a_pic_dn a_pic_oa a_pic_od a_pic_st a_crs a_crs_ow a_crs_pl a_crs_dt a_crs_ot a_pic_co pic_many pic_unitsAcross pic_unitsDown pic_blocks pic_h pic_v pic_ac pic_dn pic_oa pic_od pic_st z.1 z.2.1 z.2.2.1 z.2.2.2.1 z.2.2.2.2.1 z.2.2.2.2.2.1 z.2.2.2.2.2.2.1 z.2.2.2.2.2.2.2.1 z.2.2.2.2.2.2.2.2.1 z.2.2.2.2.2.2.2.2.2.1 z.2.2.2.2.2.2.2.2.2.2.1 z.2.2.2.2.2.2.2.2.2.2.2) sz) 0 0 (va_A (w_Course_startAnew cI cB cS cT a_pic a_pic_h a_pic_v a_pic_ac a_pic_dn a_pic_oa a_pic_od a_pic_st a_crs a_crs_ow a_crs_pl a_crs_dt a_crs_ot a_pic_co pic_many pic_unitsAcross pic_unitsDown pic_blocks pic_h pic_v pic_ac pic_dn pic_oa pic_od pic_st crs_kind crs_first crs_last crs_bits crs_interval crs_units crs_blocksOfUnit crs_laid crs_ow crs_pl crs_dt crs_ot) sz) := by
  refine Met.ofW (cc := prog_5_method_2_code) (maxL := 1) (ret := none) (by decide) rfl ?_
  intro p e s m args below meth c s₁ B hml hv
  obtain ⟨hargs, hsz, hP, hKN, hD0⟩ := hv
  have hK := hKN.1
  have hx := B.exec
  have hb := B.bytes
  have hr := B.returns
  have hts := atoms_spec (ws := ws_m119) B.pre
  have hown : s.vm.findClass "ScanCoder$Course" = some m.cls := findClass_of_methodNamed B.named
  have hlocks := B.notSynchronized
  have k0 := hts _ (List.mem_cons_of_mem _ tw_164)
  have k1 := hts _ (List.mem_cons_of_mem _ tw_168)
  have k2 := hts _ (List.mem_cons_of_mem _ tw_184)
  have n0 : ∀ w ∈ u_ws "ScanCoder$Course" T_4 13, w ∈ ws_m119 := fun w h => List.mem_cons_of_mem _ (in_4 w h)
  subst hsz
  have hD := hD0.self (sz := s.heap.size)
  obtain ⟨A, hAe⟩ : ∃ A : Nat → Prop, va_A (w_Course_startAnew cI cB cS cT a_pic a_pic_h a_pic_v a_pic_ac a_pic_dn a_pic_oa a_pic_od a_pic_st a_crs a_crs_ow a_crs_pl a_crs_dt a_crs_ot a_pic_co pic_many pic_unitsAcross pic_unitsDown pic_blocks pic_h pic_v pic_ac pic_dn pic_oa pic_od pic_st crs_kind crs_first crs_last crs_bits crs_interval crs_units crs_blocksOfUnit crs_laid crs_ow crs_pl crs_dt crs_ot) s.heap.size = A := ⟨_, rfl⟩
  rw [hAe] at hD
  have hA : ∀ q : Nat, s.heap.size ≤ q → A q := fun q h => by rw [← hAe]; exact Or.inr h
  have hS : va_S A s.heap s.heap [] := va_S.rf
  have hl := lv_entry ([.ref a_crs]) (n := 1) (Nat.le_of_ble_eq_true rfl)
  have hfr : entryFrame m args 1 = F0 m 0 ((lg_sl ([.ref a_crs]) ++ List.replicate (1 - (lg_sl ([.ref a_crs])).length) Slot.unset).toArray) [] := by rw [hargs]; exact lg_entry_eq _ _ _
  rw [hfr]
  generalize (lg_sl ([.ref a_crs]) ++ List.replicate (1 - (lg_sl ([.ref a_crs])).length) Slot.unset).toArray = ls at hl ⊢
  have hl : lv_has ls 1 [(0, .ref a_crs)] := hl
  refine gen_Q (fun Q hQ => ?_)
  clear hfr
  have hgo : ∀ (H : Heap) (locs : List Loc), va_P (dC, dI) vwCl (w_Course_startAnew cI cB cS cT a_pic a_pic_h a_pic_v a_pic_ac a_pic_dn a_pic_oa a_pic_od a_pic_st a_crs a_crs_ow a_crs_pl a_crs_dt a_crs_ot a_pic_co pic_many pic_unitsAcross pic_unitsDown pic_blocks pic_h pic_v pic_ac pic_dn pic_oa pic_od pic_st crs_kind crs_first crs_last crs_bits crs_interval crs_units crs_blocksOfUnit crs_laid crs_ow crs_pl crs_dt crs_ot) H → va_S A s.heap H locs → W p l e (headSpec ws_m119 rm_Course_startAnew).room s m args below meth c H locs 0 0 Q (F0 m 0 ls []) := by
    intro H locs hP hS
    unfold f_Course_startAnew at hf
    refine lv_aload_n hx hb d_m119_0 rfl (lv_at hl 0 rfl) ?_
    refine va_get (D := (dC, dI)) (ci := 4) (v := .ref a_crs_dt) (C := "ScanCoder$Course") (T := T_4) (N := 13) hx hb hts n0 hown hK hP 8 rfl rfl 3 (by decide) k0 (fun _ h9 => h9) rfl d_m119_1 ?_
    refine lv_iconst (v := (0 : Int32)) hx hb d_m119_4 (by decide) ?_
    obtain ⟨z1, hz1, hf⟩ := ob_bind hf
    refine g_callv (wc := (w_Arrays_fillI cI cB cS cT a_crs_dt 4 crs_dt)) (w1 := (w_Arrays_fillI cI cB cS cT a_crs_dt 4 z1)) (w2 := (w_Course_startAnew cI cB cS cT a_pic a_pic_h a_pic_v a_pic_ac a_pic_dn a_pic_oa a_pic_od a_pic_st a_crs a_crs_ow a_crs_pl a_crs_dt a_crs_ot a_pic_co pic_many pic_unitsAcross pic_unitsDown pic_blocks pic_h pic_v pic_ac pic_dn pic_oa pic_od pic_st crs_kind crs_first crs_last crs_bits crs_interval crs_units crs_blocksOfUnit crs_laid crs_ow crs_pl z1 crs_ot)) [11] [none, none, none, none, none, none, none, none, none, none, none, some 0, none] hP hD hS hA rfl rfl rfl rfl (va_runS (As := [.ref a_crs_dt, .int (0 : Int32)]) (rest := []) ⟨hx, hb, hml, hown, hts⟩ (c_Arrays_fillI l dC dI cI cB cS cT N a_crs_dt 4 crs_dt (0 : Int32) H.size z1 hz1) ⟨(callB_of 2 hts (gi tw_122 rfl) rfl rfl rfl (hts _ (List.mem_cons_of_mem _ tw_4)) (hts _ (List.mem_cons_of_mem _ tw_120)) (by decide +kernel) ⟨Nat.le_of_ble_eq_true rfl, Nat.le_of_ble_eq_true rfl⟩), hts _ (List.mem_cons_of_mem _ tw_121)⟩ ⟨g_blind, g_at hKN (g_pm hP [11] rfl) (hD.sub [11] (by decide) rfl)⟩ rfl rfl hl.1 rfl (lv_room (Nat.le_of_ble_eq_true rfl)) d_m119_5 ⟨Nat.zero_le _, Nat.zero_le _⟩) (fun H locs hP hD hS => ?_)
    refine W.eq (g2 := F0 m 8 ls []) rfl ?_
    refine lv_aload_n hx hb d_m119_8 rfl (lv_at hl 0 rfl) ?_
    refine va_get (D := (dC, dI)) (ci := 4) (v := .ref a_crs_ot) (C := "ScanCoder$Course") (T := T_4) (N := 13) hx hb hts n0 hown hK hP 8 rfl rfl 4 (by decide) k1 (fun _ h9 => h9) rfl d_m119_9 ?_
    refine lv_iconst (v := (4 : Int32)) hx hb d_m119_12 (by decide) ?_
    obtain ⟨z2, hz2, hf⟩ := ob_bind hf
    refine g_callv (wc := (w_Arrays_fillI cI cB cS cT a_crs_ot 4 crs_ot)) (w1 := (w_Arrays_fillI cI cB cS cT a_crs_ot 4 z2)) (w2 := (w_Course_startAnew cI cB cS cT a_pic a_pic_h a_pic_v a_pic_ac a_pic_dn a_pic_oa a_pic_od a_pic_st a_crs a_crs_ow a_crs_pl a_crs_dt a_crs_ot a_pic_co pic_many pic_unitsAcross pic_unitsDown pic_blocks pic_h pic_v pic_ac pic_dn pic_oa pic_od pic_st crs_kind crs_first crs_last crs_bits crs_interval crs_units crs_blocksOfUnit crs_laid crs_ow crs_pl z1 z2)) [12] [none, none, none, none, none, none, none, none, none, none, none, none, some 0] hP hD hS hA rfl rfl rfl rfl (va_runS (As := [.ref a_crs_ot, .int (4 : Int32)]) (rest := []) ⟨hx, hb, hml, hown, hts⟩ (c_Arrays_fillI l dC dI cI cB cS cT N a_crs_ot 4 crs_ot (4 : Int32) H.size z2 hz2) ⟨(callB_of 2 hts (gi tw_122 rfl) rfl rfl rfl (hts _ (List.mem_cons_of_mem _ tw_4)) (hts _ (List.mem_cons_of_mem _ tw_120)) (by decide +kernel) ⟨Nat.le_of_ble_eq_true rfl, Nat.le_of_ble_eq_true rfl⟩), hts _ (List.mem_cons_of_mem _ tw_121)⟩ ⟨g_blind, g_at hKN (g_pm hP [12] rfl) (hD.sub [12] (by decide) rfl)⟩ rfl rfl hl.1 rfl (lv_room (Nat.le_of_ble_eq_true rfl)) d_m119_13 ⟨Nat.zero_le _, Nat.zero_le _⟩) (fun H locs hP hD hS => ?_)
    refine W.eq (g2 := F0 m 16 ls []) rfl ?_
    refine lv_aload_n hx hb d_m119_16 rfl (lv_at hl 0 rfl) ?_
    refine lv_iconst (v := (0 : Int32)) hx hb d_m119_17 (by decide) ?_
    refine va_put (D := (dC, dI)) (ci := 4) (v := .int (0 : Int32)) (ty := .int) (C := "ScanCoder$Course") (T := T_4) (N := 13) hx hb hts n0 ty_4 tyok_4 nm_4 hown hK hP hD hS 8 rfl rfl 9 (by decide) k2 (fun _ h9 => h9) rfl (by decide +kernel) rfl rfl (Nat.le_of_ble_eq_true rfl) d_m119_18 (fun H locs hP hD hS => ?_)
    have hP : va_P (dC, dI) vwCl (w_Course_startAnew cI cB cS cT a_pic a_pic_h a_pic_v a_pic_ac a_pic_dn a_pic_oa a_pic_od a_pic_st a_crs a_crs_ow a_crs_pl a_crs_dt a_crs_ot a_pic_co pic_many pic_unitsAcross pic_unitsDown pic_blocks pic_h pic_v pic_ac pic_dn pic_oa pic_od pic_st crs_kind crs_first crs_last crs_bits (0 : Int32) crs_units crs_blocksOfUnit crs_laid crs_ow crs_pl z1 z2) H := hP
    have hD : va_D A (w_Course_startAnew cI cB cS cT a_pic a_pic_h a_pic_v a_pic_ac a_pic_dn a_pic_oa a_pic_od a_pic_st a_crs a_crs_ow a_crs_pl a_crs_dt a_crs_ot a_pic_co pic_many pic_unitsAcross pic_unitsDown pic_blocks pic_h pic_v pic_ac pic_dn pic_oa pic_od pic_st crs_kind crs_first crs_last crs_bits (0 : Int32) crs_units crs_blocksOfUnit crs_laid crs_ow crs_pl z1 z2) := hD
    refine lv_aload_n hx hb d_m119_21 rfl (lv_at hl 0 rfl) ?_
    refine lv_iconst (v := (0 : Int32)) hx hb d_m119_22 (by decide) ?_
    refine lv_iconst (v := (0 : Int32)) hx hb d_m119_23 (by decide) ?_
    refine lv_bipush (v := (63 : Int32)) hx hb d_m119_24 (by decide) ?_
    refine lv_iconst (v := (0 : Int32)) hx hb d_m119_26 (by decide) ?_
    obtain ⟨z3, hz3, hf⟩ := ob_bind hf
    refine g_callv (wc := (w_Course_choose cI cB cS cT a_crs a_pic a_crs_ow a_crs_pl a_crs_dt a_crs_ot crs_kind crs_first crs_last crs_bits (0 : Int32) crs_units crs_blocksOfUnit crs_laid)) (w1 := (w_Course_choose cI cB cS cT a_crs a_pic a_crs_ow a_crs_pl a_crs_dt a_crs_ot z3.1 z3.2.1 z3.2.2.1 z3.2.2.2 (0 : Int32) crs_units crs_blocksOfUnit crs_laid)) (w2 := (w_Course_startAnew cI cB cS cT a_pic a_pic_h a_pic_v a_pic_ac a_pic_dn a_pic_oa a_pic_od a_pic_st a_crs a_crs_ow a_crs_pl a_crs_dt a_crs_ot a_pic_co pic_many pic_unitsAcross pic_unitsDown pic_blocks pic_h pic_v pic_ac pic_dn pic_oa pic_od pic_st z3.1 z3.2.1 z3.2.2.1 z3.2.2.2 (0 : Int32) crs_units crs_blocksOfUnit crs_laid crs_ow crs_pl z1 z2)) [8] [none, none, none, none, none, none, none, none, some 0, none, none, none, none] hP hD hS hA rfl rfl rfl rfl (va_runV (As := [.int (0 : Int32), .int (0 : Int32), .int (63 : Int32), .int (0 : Int32)]) (rest := []) ⟨hx, hb, hml, hown, hts⟩ (c_Course_choose l dC dI cI cB cS cT a_crs a_pic a_crs_ow a_crs_pl a_crs_dt a_crs_ot crs_kind crs_first crs_last crs_bits (0 : Int32) crs_units crs_blocksOfUnit crs_laid (0 : Int32) (0 : Int32) (63 : Int32) (0 : Int32) H.size z3 hz3) ⟨(callB_of 4 hts (gi tw_126 rfl) rfl rfl rfl (hts _ (List.mem_cons_of_mem _ tw_5)) (hts _ (List.mem_cons_of_mem _ tw_123)) (by decide +kernel) ⟨Nat.le_of_ble_eq_true rfl, Nat.le_of_ble_eq_true rfl⟩), hts _ (List.mem_cons_of_mem _ tw_124), hts _ (List.mem_cons_of_mem _ tw_125)⟩ ⟨g_blind, va_recv hK hP (ci := 4) (q0 := 8) rfl rfl, g_at hKN (g_pm hP [8] rfl) (hD.sub [8] (by decide) rfl)⟩ rfl rfl hl.1 rfl (lv_room (Nat.le_of_ble_eq_true rfl)) d_m119_27 ⟨Nat.zero_le _, Nat.zero_le _⟩) (fun H locs hP hD hS => ?_)
    refine W.eq (g2 := F0 m 30 ls []) rfl ?_
    refine lv_aload_n hx hb d_m119_30 rfl (lv_at hl 0 rfl) ?_
    refine lv_iconst (v := (1 : Int32)) hx hb d_m119_31 (by decide) ?_
    obtain ⟨z4, hz4, hf⟩ := ob_bind hf
    refine g_callv (wc := (w_Course_lay cI cB cS cT a_pic a_pic_h a_pic_v a_pic_ac a_pic_dn a_pic_oa a_pic_od a_pic_st a_crs a_crs_ow a_crs_pl a_pic_co a_crs_dt a_crs_ot pic_many pic_unitsAcross pic_unitsDown pic_blocks pic_h pic_v pic_ac pic_dn pic_oa pic_od pic_st z3.1 z3.2.1 z3.2.2.1 z3.2.2.2 (0 : Int32) crs_units crs_blocksOfUnit crs_laid crs_ow crs_pl)) (w1 := (w_Course_lay cI cB cS cT a_pic a_pic_h a_pic_v a_pic_ac a_pic_dn a_pic_oa a_pic_od a_pic_st a_crs a_crs_ow a_crs_pl a_pic_co a_crs_dt a_crs_ot pic_many pic_unitsAcross pic_unitsDown pic_blocks pic_h pic_v pic_ac pic_dn pic_oa pic_od pic_st z3.1 z3.2.1 z3.2.2.1 z3.2.2.2 (0 : Int32) z4.1 z4.2.1 z4.2.2.1 z4.2.2.2.1 z4.2.2.2.2)) (w2 := (w_Course_startAnew cI cB cS cT a_pic a_pic_h a_pic_v a_pic_ac a_pic_dn a_pic_oa a_pic_od a_pic_st a_crs a_crs_ow a_crs_pl a_crs_dt a_crs_ot a_pic_co pic_many pic_unitsAcross pic_unitsDown pic_blocks pic_h pic_v pic_ac pic_dn pic_oa pic_od pic_st z3.1 z3.2.1 z3.2.2.1 z3.2.2.2 (0 : Int32) z4.1 z4.2.1 z4.2.2.1 z4.2.2.2.1 z4.2.2.2.2 z1 z2)) [0, 1, 2, 3, 4, 5, 6, 7, 8, 9, 10] [some 0, some 1, some 2, some 3, some 4, some 5, some 6, some 7, some 8, some 9, some 10, none, none] hP hD hS hA rfl rfl rfl rfl (va_runV (As := [.int (1 : Int32)]) (rest := []) ⟨hx, hb, hml, hown, hts⟩ (c_Course_lay l dC dI cI cB cS cT N a_pic a_pic_h a_pic_v a_pic_ac a_pic_dn a_pic_oa a_pic_od a_pic_st a_crs a_crs_ow a_crs_pl a_pic_co a_crs_dt a_crs_ot pic_many pic_unitsAcross pic_unitsDown pic_blocks pic_h pic_v pic_ac pic_dn pic_oa pic_od pic_st z3.1 z3.2.1 z3.2.2.1 z3.2.2.2 (0 : Int32) crs_units crs_blocksOfUnit crs_laid crs_ow crs_pl (1 : Int32) H.size z4 hz4) ⟨(callB_of 1 hts (gi tw_130 rfl) rfl rfl rfl (hts _ (List.mem_cons_of_mem _ tw_5)) (hts _ (List.mem_cons_of_mem _ tw_127)) (by decide +kernel) ⟨Nat.le_of_ble_eq_true rfl, Nat.le_of_ble_eq_true rfl⟩), hts _ (List.mem_cons_of_mem _ tw_128), hts _ (List.mem_cons_of_mem _ tw_129)⟩ ⟨g_blind, va_recv hK hP (ci := 4) (q0 := 8) rfl rfl, g_at hKN (g_pm hP [0, 1, 2, 3, 4, 5, 6, 7, 8, 9, 10] rfl) (hD.sub [0, 1, 2, 3, 4, 5, 6, 7, 8, 9, 10] (by decide) rfl)⟩ rfl rfl hl.1 rfl (lv_room (Nat.le_of_ble_eq_true rfl)) d_m119_32 ⟨Nat.zero_le _, Nat.zero_le _⟩) (fun H locs hP hD hS => ?_)
    refine W.eq (g2 := F0 m 35 ls []) rfl ?_
    obtain rfl := Option.some.inj hf
    subst hQ
    subst hAe
    exact W.vret hx hb hr (fun t ht hW => ⟨⟨(), rfl, trivial, by rw [ht]; exact hP, hD⟩, hS.F ht⟩) hS.2.2 d_m119_35
  exact hgo _ _ hP hS

def f_Course_restartsAhead (p0 : Int32) (crs_interval : Int32) : Option (Int32) :=
  if crs_interval ≤ 0 then
    some (0 : Int32)
  else
    if p0 ≤ 0 then
      some (0 : Int32)
    else
      if crs_interval = 0 then none else if (p0 - p0 / crs_interval * crs_interval) = 0 then
        some (1 : Int32)
      else
        some (0 : Int32)
abbrev w_Course_restartsAhead (cI cB cS cT : ClassId) (a_crs : Nat) (a_pic : Nat) (a_crs_ow : Nat) (a_crs_pl : Nat) (a_crs_dt : Nat) (a_crs_ot : Nat) (crs_kind : Int32) (crs_first : Int32) (crs_last : Int32) (crs_bits : Int32) (crs_interval : Int32) (crs_units : Int32) (crs_blocksOfUnit : Int32) (crs_laid : Int32) : va_W := [(a_crs, .inr (4, [.ref a_pic, .ref a_crs_ow, .ref a_crs_pl, .ref a_crs_dt, .ref a_crs_ot, .int crs_kind, .int crs_first, .int crs_last, .int crs_bits, .int crs_interval, .int crs_units, .int crs_blocksOfUnit, .int crs_laid]))]
def rm_Course_restartsAhead : Room := { frames := 0, cells := 0, slots := 0, locals := 0 }
set_option maxHeartbeats 1000000 in
set_option maxRecDepth 100000 in
theorem c_Course_restartsAhead (l : Launch) (dC : Nat → ClassId) (dI : Nat → Nat → Nat) (cI cB cS cT : ClassId) (a_crs : Nat) (a_pic : Nat) (a_crs_ow : Nat) (a_crs_pl : Nat) (a_crs_dt : Nat) (a_crs_ot : Nat) (crs_kind : Int32) (crs_first : Int32) (crs_last : Int32) (crs_bits : Int32) (crs_interval : Int32) (crs_units : Int32) (crs_blocksOfUnit : Int32) (crs_laid : Int32) (p0 : Int32) (z : Int32) (hf : f_Course_restartsAhead p0 crs_interval = some z) : Met l y_m554 ws_m554 rm_Course_restartsAhead (gPreP (dC, dI) [.ref a_crs, .int p0] (gT cI cB cS cT) (w_Course_restartsAhead cI cB cS cT a_crs a_pic a_crs_ow a_crs_pl a_crs_dt a_crs_ot crs_kind crs_first crs_last crs_bits crs_interval crs_units crs_blocksOfUnit crs_laid)) (vp_Si (fun r => r = z)) 0 0 (fun _ => False) := by
  refine Met.ofW (cc := prog_5_method_11_code) (maxL := 2) (ret := (some .boolean)) (by decide) rfl ?_
  intro p e s m args below meth c s₁ B hml hv
  obtain ⟨hargs, hP, hKN⟩ := hv
  have hK := hKN.1
  have hx := B.exec
  have hb := B.bytes
  have hr := B.returns
  have hts := atoms_spec (ws := ws_m554) B.pre
  have hown : s.vm.findClass "ScanCoder$Course" = some m.cls := findClass_of_methodNamed B.named
  have hlocks := B.notSynchronized
  have k0 := hts _ (List.mem_cons_of_mem _ tw_184)
  have n0 : ∀ w ∈ u_ws "ScanCoder$Course" T_4 13, w ∈ ws_m554 := fun w h => List.mem_cons_of_mem _ (in_4 w h)
  have hl := lv_entry ([.ref a_crs, .int p0]) (n := 2) (Nat.le_of_ble_eq_true rfl)
  have hfr : entryFrame m args 2 = F0 m 0 ((lg_sl ([.ref a_crs, .int p0]) ++ List.replicate (2 - (lg_sl ([.ref a_crs, .int p0])).length) Slot.unset).toArray) [] := by rw [hargs]; exact lg_entry_eq _ _ _
  rw [hfr]
  generalize (lg_sl ([.ref a_crs, .int p0]) ++ List.replicate (2 - (lg_sl ([.ref a_crs, .int p0])).length) Slot.unset).toArray = ls at hl ⊢
  have hl : lv_has ls 2 [(0, .ref a_crs), (1, .int p0)] := hl
  refine gen_Q (fun Q hQ => ?_)
  clear hfr
  unfold f_Course_restartsAhead at hf
  refine lv_aload_n hx hb d_m554_0 rfl (lv_at hl 0 rfl) ?_
  refine va_get (D := (dC, dI)) (ci := 4) (v := .int crs_interval) (C := "ScanCoder$Course") (T := T_4) (N := 13) hx hb hts n0 hown hK hP 0 rfl rfl 9 (by decide) k0 (fun _ h9 => h9) rfl d_m554_1 ?_
  refine lv_if_le (tgt := 24) hx hb d_m554_4 (by decide) (fun hc => ?_) (fun hc => ?_)
  · replace hf := (if_pos hc).symm.trans hf
    refine lv_iconst (v := (0 : Int32)) hx hb d_m554_24 (by decide) ?_
    obtain rfl := Option.some.inj hf
    subst hQ
    exact W.zret (v := (0 : Int32)) hx hb hr (by decide) (fun t ht hW => ⟨(0 : Int32), rfl, rfl, ht⟩) (fun q h => by cases h) d_m554_25
  · replace hf := (if_neg hc).symm.trans hf
    refine lv_iload_n hx hb d_m554_7 rfl (lv_at hl 1 rfl) ?_
    refine lv_if_le (tgt := 24) hx hb d_m554_8 (by decide) (fun hc => ?_) (fun hc => ?_)
    · replace hf := (if_pos hc).symm.trans hf
      refine lv_iconst (v := (0 : Int32)) hx hb d_m554_24 (by decide) ?_
      obtain rfl := Option.some.inj hf
      subst hQ
      exact W.zret (v := (0 : Int32)) hx hb hr (by decide) (fun t ht hW => ⟨(0 : Int32), rfl, rfl, ht⟩) (fun q h => by cases h) d_m554_25
    · replace hf := (if_neg hc).symm.trans hf
      refine lv_iload_n hx hb d_m554_11 rfl (lv_at hl 1 rfl) ?_
      refine lv_aload_n hx hb d_m554_12 rfl (lv_at hl 0 rfl) ?_
      refine va_get (D := (dC, dI)) (ci := 4) (v := .int crs_interval) (C := "ScanCoder$Course") (T := T_4) (N := 13) hx hb hts n0 hown hK hP 0 rfl rfl 9 (by decide) k0 (fun _ h9 => h9) rfl d_m554_13 ?_
      obtain ⟨hi, hf⟩ := ob_if hf
      refine lv_irem hx hb d_m554_16 hi ?_
      refine lv_if_ne (tgt := 24) hx hb d_m554_17 (by decide) (fun hc => ?_) (fun hc => ?_)
      · replace hf := (if_neg hc).symm.trans hf
        refine lv_iconst (v := (0 : Int32)) hx hb d_m554_24 (by decide) ?_
        obtain rfl := Option.some.inj hf
        subst hQ
        exact W.zret (v := (0 : Int32)) hx hb hr (by decide) (fun t ht hW => ⟨(0 : Int32), rfl, rfl, ht⟩) (fun q h => by cases h) d_m554_25
      · replace hf := (if_pos hc).symm.trans hf
        refine lv_iconst (v := (1 : Int32)) hx hb d_m554_20 (by decide) ?_
        refine lv_goto (tgt := 25) hx hb d_m554_21 (by decide) ?_
        obtain rfl := Option.some.inj hf
        subst hQ
        exact W.zret (v := (1 : Int32)) hx hb hr (by decide) (fun t ht hW => ⟨(1 : Int32), rfl, rfl, ht⟩) (fun q h => by cases h) d_m554_25

def f_Course_restartAhead (p0 : Int32) (crs_interval : Int32) : Option (Int32) :=
  if crs_interval ≤ 0 then
    some (-1 : Int32)
  else
    if crs_interval = 0 then none else some ((208 : Int32) + (((p0 / crs_interval) - (1 : Int32)) &&& (7 : Int32)))
abbrev w_Course_restartAhead (cI cB cS cT : ClassId) (a_crs : Nat) (a_pic : Nat) (a_crs_ow : Nat) (a_crs_pl : Nat) (a_crs_dt : Nat) (a_crs_ot : Nat) (crs_kind : Int32) (crs_first : Int32) (crs_last : Int32) (crs_bits : Int32) (crs_interval : Int32) (crs_units : Int32) (crs_blocksOfUnit : Int32) (crs_laid : Int32) : va_W := [(a_crs, .inr (4, [.ref a_pic, .ref a_crs_ow, .ref a_crs_pl, .ref a_crs_dt, .ref a_crs_ot, .int crs_kind, .int crs_first, .int crs_last, .int crs_bits, .int crs_interval, .int crs_units, .int crs_blocksOfUnit, .int crs_laid]))]
def rm_Course_restartAhead : Room := { frames := 0, cells := 0, slots := 0, locals := 0 }
set_option maxHeartbeats 1000000 in
set_option maxRecDepth 100000 in
theorem c_Course_restartAhead (l : Launch) (dC : Nat → ClassId) (dI : Nat → Nat → Nat) (cI cB cS cT : ClassId) (a_crs : Nat) (a_pic : Nat) (a_crs_ow : Nat) (a_crs_pl : Nat) (a_crs_dt : Nat) (a_crs_ot : Nat) (crs_kind : Int32) (crs_first : Int32) (crs_last : Int32) (crs_bits : Int32) (crs_interval : Int32) (crs_units : Int32) (crs_blocksOfUnit : Int32) (crs_laid : Int32) (p0 : Int32) (z : Int32) (hf : f_Course_restartAhead p0 crs_interval = some z) : Met l y_m607 ws_m607 rm_Course_restartAhead (gPreP (dC, dI) [.ref a_crs, .int p0] (gT cI cB cS cT) (w_Course_restartAhead cI cB cS cT a_crs a_pic a_crs_ow a_crs_pl a_crs_dt a_crs_ot crs_kind crs_first crs_last crs_bits crs_interval crs_units crs_blocksOfUnit crs_laid)) (vp_Si (fun r => r = z)) 0 0 (fun _ => False) := by
  refine Met.ofW (cc := prog_5_method_12_code) (maxL := 2) (ret := (some .int)) (by decide) rfl ?_
  intro p e s m args below meth c s₁ B hml hv
  obtain ⟨hargs, hP, hKN⟩ := hv
  have hK := hKN.1
  have hx := B.exec
  have hb := B.bytes
  have hr := B.returns
  have hts := atoms_spec (ws := ws_m607) B.pre
  have hown : s.vm.findClass "ScanCoder$Course" = some m.cls := findClass_of_methodNamed B.named
  have hlocks := B.notSynchronized
  have k0 := hts _ (List.mem_cons_of_mem _ tw_184)
  have n0 : ∀ w ∈ u_ws "ScanCoder$Course" T_4 13, w ∈ ws_m607 := fun w h => List.mem_cons_of_mem _ (in_4 w h)
  have hl := lv_entry ([.ref a_crs, .int p0]) (n := 2) (Nat.le_of_ble_eq_true rfl)
  have hfr : entryFrame m args 2 = F0 m 0 ((lg_sl ([.ref a_crs, .int p0]) ++ List.replicate (2 - (lg_sl ([.ref a_crs, .int p0])).length) Slot.unset).toArray) [] := by rw [hargs]; exact lg_entry_eq _ _ _
  rw [hfr]
  generalize (lg_sl ([.ref a_crs, .int p0]) ++ List.replicate (2 - (lg_sl ([.ref a_crs, .int p0])).length) Slot.unset).toArray = ls at hl ⊢
  have hl : lv_has ls 2 [(0, .ref a_crs), (1, .int p0)] := hl
  refine gen_Q (fun Q hQ => ?_)
  clear hfr
  unfold f_Course_restartAhead at hf
  refine lv_aload_n hx hb d_m607_0 rfl (lv_at hl 0 rfl) ?_
  refine va_get (D := (dC, dI)) (ci := 4) (v := .int crs_interval) (C := "ScanCoder$Course") (T := T_4) (N := 13) hx hb hts n0 hown hK hP 0 rfl rfl 9 (by decide) k0 (fun _ h9 => h9) rfl d_m607_1 ?_
  refine lv_if_le (tgt := 25) hx hb d_m607_4 (by decide) (fun hc => ?_) (fun hc => ?_)
  · replace hf := (if_pos hc).symm.trans hf
    refine lv_iconst (v := (-1 : Int32)) hx hb d_m607_25 (by decide) ?_
    obtain rfl := Option.some.inj hf
    subst hQ
    exact W.iret (v := (-1 : Int32)) hx hb hr (fun t ht hW => ⟨(-1 : Int32), rfl, rfl, ht⟩) (fun q h => by cases h) d_m607_26
  · replace hf := (if_neg hc).symm.trans hf
    refine lv_sipush (v := (208 : Int32)) hx hb d_m607_7 (by decide) ?_
    refine lv_iload_n hx hb d_m607_10 rfl (lv_at hl 1 rfl) ?_
    refine lv_aload_n hx hb d_m607_11 rfl (lv_at hl 0 rfl) ?_
    refine va_get (D := (dC, dI)) (ci := 4) (v := .int crs_interval) (C := "ScanCoder$Course") (T := T_4) (N := 13) hx hb hts n0 hown hK hP 0 rfl rfl 9 (by decide) k0 (fun _ h9 => h9) rfl d_m607_12 ?_
    obtain ⟨hi, hf⟩ := ob_if hf
    refine lv_idiv hx hb d_m607_15 hi ?_
    refine lv_iconst (v := (1 : Int32)) hx hb d_m607_16 (by decide) ?_
    refine lv_isub hx hb d_m607_17 ?_
    refine lv_bipush (v := (7 : Int32)) hx hb d_m607_18 (by decide) ?_
    refine lv_iand hx hb d_m607_20 ?_
    refine lv_iadd hx hb d_m607_21 ?_
    refine lv_goto (tgt := 26) hx hb d_m607_22 (by decide) ?_
    obtain rfl := Option.some.inj hf
    subst hQ
    exact W.iret (v := (208 : Int32) + (((p0 / crs_interval) - (1 : Int32)) &&& (7 : Int32))) hx hb hr (fun t ht hW => ⟨(208 : Int32) + (((p0 / crs_interval) - (1 : Int32)) &&& (7 : Int32)), rfl, rfl, ht⟩) (fun q h => by cases h) d_m607_26
