def f_SC_countWords_L4b (vz : Nat → Int32) (N : Nat) (rec : (Int32 × Int32) → Option (Int32)) (v1_4 : Int32) (v2_4 : Int32) : Option (Int32) :=
  if (8 : Int32) ≤ v2_4 then
    some v1_4
  else
    if v2_4 < 0 ∨ 8 ≤ v2_4.toNatClampNeg then none else
    rec (v1_4 + (vz v2_4.toNatClampNeg), v2_4 + (1 : Int32))
def f_SC_countWords_L4 (vz : Nat → Int32) (N : Nat) (k : Nat) : (Int32 × Int32) → Option (Int32) := it (fun rec a => f_SC_countWords_L4b vz N rec a.1 a.2) k
def f_SC_countWords (N : Nat) (vz : Nat → Int32) : Option (Int32) :=
  (f_SC_countWords_L4 vz N N ((0 : Int32), (0 : Int32))).bind fun z2 =>
    some z2
abbrev w_SC_countWords (cI cB cS cT : ClassId) (a_sc : Nat) (a_tbs : Nat) (a_pic : Nat) (a_crs : Nat) (a_drf : Nat) (a_sto : Nat) (a_cnt : Nat) (a_wr : Nat) (a_enc : Nat) (a_dec : Nat) (ta : Nat → Nat) (tw : Nat → Nat) (ts : Nat → Nat) (tf : Nat → Nat) (tx : Nat → Nat) (vw : Nat → Nat → Int32) (vs : Nat → Nat → Int32) (vf : Nat → Nat → Int32) (vx : Nat → Nat → Int32) (ve : Nat → Int32) (vz : Nat → Int32) : va_W := [(a_sc, .inr (0, [.ref a_pic, .ref a_crs, .ref a_drf, .ref a_tbs, .ref a_sto, .ref a_cnt, .ref a_wr, .ref a_enc, .ref a_dec])), (a_tbs, .inl (cT, 8, .inr (.inr (.inr (.inr (fun i => some (ta i)))))))] ++ tbl 10 cI ta tw ts tf tx vw vs vf vx ve vz
def rm_SC_countWords : Room := { frames := 0, cells := 0, slots := 0, locals := 0 }
set_option maxHeartbeats 1000000 in
set_option maxRecDepth 100000 in
theorem c_SC_countWords (l : Launch) (dC : Nat → ClassId) (dI : Nat → Nat → Nat) (cI cB cS cT : ClassId) (N : Nat) (a_sc : Nat) (a_tbs : Nat) (a_pic : Nat) (a_crs : Nat) (a_drf : Nat) (a_sto : Nat) (a_cnt : Nat) (a_wr : Nat) (a_enc : Nat) (a_dec : Nat) (ta : Nat → Nat) (tw : Nat → Nat) (ts : Nat → Nat) (tf : Nat → Nat) (tx : Nat → Nat) (vw : Nat → Nat → Int32) (vs : Nat → Nat → Int32) (vf : Nat → Nat → Int32) (vx : Nat → Nat → Int32) (ve : Nat → Int32) (vz : Nat → Int32) (z : Int32) (hf : f_SC_countWords N vz = some z) : Met l y_m812 ws_m812 rm_SC_countWords (gPreP (dC, dI) [.ref a_sc] (gT cI cB cS cT) (w_SC_countWords cI cB cS cT a_sc a_tbs a_pic a_crs a_drf a_sto a_cnt a_wr a_enc a_dec ta tw ts tf tx vw vs vf vx ve vz)) (vp_Si (fun r => r = z)) 0 0 (fun _ => False) := by
  refine Met.ofW (cc := prog_1_method_19_code) (maxL := 3) (ret := (some .int)) (by decide) rfl ?_
  intro p e s m args below meth c s₁ B hml hv
  obtain ⟨hargs, hP, hKN⟩ := hv
  have hK := hKN.1
  have hx := B.exec
  have hb := B.bytes
  have hr := B.returns
  have hts := atoms_spec (ws := ws_m812) B.pre
  have hown : s.vm.findClass "ScanCoder" = some m.cls := findClass_of_methodNamed B.named
  have hlocks := B.notSynchronized
  have k0 := hts _ (List.mem_cons_of_mem _ tw_422)
  have k1 := hts _ (List.mem_cons_of_mem _ tw_258)
  have n0 : ∀ w ∈ u_ws "ScanCoder" T_0 9, w ∈ ws_m812 := fun w h => List.mem_cons_of_mem _ (in_0 w h)
  have n1 : ∀ w ∈ u_ws "ScanCoder$Table" T_10 6, w ∈ ws_m812 := fun w h => List.mem_cons_of_mem _ (in_10 w h)
  have hl := lv_entry ([.ref a_sc]) (n := 3) (Nat.le_of_ble_eq_true rfl)
  have hfr : entryFrame m args 3 = F0 m 0 ((lg_sl ([.ref a_sc]) ++ List.replicate (3 - (lg_sl ([.ref a_sc])).length) Slot.unset).toArray) [] := by rw [hargs]; exact lg_entry_eq _ _ _
  rw [hfr]
  generalize (lg_sl ([.ref a_sc]) ++ List.replicate (3 - (lg_sl ([.ref a_sc])).length) Slot.unset).toArray = ls at hl ⊢
  have hl : lv_has ls 3 [(0, .ref a_sc)] := hl
  refine gen_Q (fun Q hQ => ?_)
  clear hfr
  have L4 : ∀  (z : Int32), (GP p l e (headSpec ws_m812 rm_SC_countWords).room s m args below meth c Q 3 28 [(1, .int z)] []) → ∀ (k : Nat) (v1_4 : Int32) (v2_4 : Int32), f_SC_countWords_L4 vz N k (v1_4, v2_4) = some z → GP p l e (headSpec ws_m812 rm_SC_countWords).room s m args below meth c Q 3 4 [(0, .ref a_sc), (1, .int v1_4), (2, .int v2_4)] [] := by
    intro  z hE0 k
    induction k with
    | zero =>
      intro v1_4 v2_4 hf
      exact (it_zero hf).elim
    | succ k ih =>
      intro v1_4 v2_4 hf ls hl
      have hf : f_SC_countWords_L4b vz N (f_SC_countWords_L4 vz N k) v1_4 v2_4 = some z := hf
      unfold f_SC_countWords_L4b at hf
      refine lv_iload_n hx hb d_m812_4 rfl (lv_at hl 2 rfl) ?_
      refine lv_bipush (v := (8 : Int32)) hx hb d_m812_5 (by decide) ?_
      refine lv_icmp_ge (tgt := 28) hx hb d_m812_7 (by decide) (fun hc => ?_) (fun hc => ?_)
      · replace hf := (if_pos hc).symm.trans hf
        obtain rfl := Option.some.inj hf
        exact hE0  ls (lv_sub hl [1] rfl)
      · replace hf := (if_neg hc).symm.trans hf
        refine lv_iload_n hx hb d_m812_10 rfl (lv_at hl 1 rfl) ?_
        refine lv_aload_n hx hb d_m812_11 rfl (lv_at hl 0 rfl) ?_
        refine va_get (D := (dC, dI)) (ci := 0) (v := .ref a_tbs) (C := "ScanCoder") (T := T_0) (N := 9) hx hb hts n0 hown hK hP 0 rfl rfl 3 (by decide) k0 (fun _ h9 => h9) rfl d_m812_12 ?_
        refine lv_iload_n hx hb d_m812_15 rfl (lv_at hl 2 rfl) ?_
        obtain ⟨hi, hf⟩ := ob_if hf
        have hix1 : v2_4.toNatClampNeg < 8 := Nat.lt_of_not_le (fun h => hi (Or.inr h))
        refine va_aldq hx hb hK hP 1 3 rfl rfl hi d_m812_16 ?_
        refine W.eq (g2 := F0 m 17 ls [.ref (ta v2_4.toNatClampNeg), .int v1_4]) rfl ?_
        have hPF := tb_focus (i := v2_4.toNatClampNeg) hP hix1
        refine va_get (D := (dC, dI)) (ci := 10) (v := .int (vz v2_4.toNatClampNeg)) (C := "ScanCoder$Table") (T := T_10) (N := 6) hx hb hts n1 hown hK hPF 2 rfl rfl 5 (by decide) k1 (fun _ h9 => h9) rfl d_m812_17 ?_
        refine lv_iadd hx hb d_m812_20 ?_
        refine lv_istore_n (lv' := [(1, .int (v1_4 + (vz v2_4.toNatClampNeg))), (0, .ref a_sc), (2, .int v2_4)]) hx hb d_m812_21 rfl hl (by decide) rfl (fun ls hl => ?_)
        refine lv_iinc (v := v2_4 + (1 : Int32)) (lv' := [(2, .int (v2_4 + (1 : Int32))), (1, .int (v1_4 + (vz v2_4.toNatClampNeg))), (0, .ref a_sc)]) hx hb d_m812_22 hl (k := 2) rfl rfl (by decide) rfl (fun ls hl => ?_)
        refine lv_goto (tgt := 4) hx hb d_m812_25 (by decide) ?_
        exact ih (v1_4 + (vz v2_4.toNatClampNeg)) (v2_4 + (1 : Int32)) hf ls (lv_sub hl [2, 1, 0] rfl)
  unfold f_SC_countWords at hf
  refine lv_iconst (v := (0 : Int32)) hx hb d_m812_0 (by decide) ?_
  refine lv_istore_n (lv' := [(1, .int (0 : Int32)), (0, .ref a_sc)]) hx hb d_m812_1 rfl hl (by decide) rfl (fun ls hl => ?_)
  refine lv_iconst (v := (0 : Int32)) hx hb d_m812_2 (by decide) ?_
  refine lv_istore_n (lv' := [(2, .int (0 : Int32)), (1, .int (0 : Int32)), (0, .ref a_sc)]) hx hb d_m812_3 rfl hl (by decide) rfl (fun ls hl => ?_)
  obtain ⟨z2, hz2, hf⟩ := ob_bind hf
  refine L4  z2 ?_ N (0 : Int32) (0 : Int32) hz2 ls (lv_sub hl [2, 1, 0] rfl)
  · intro ls hl
    refine lv_iload_n hx hb d_m812_28 rfl (lv_at hl 0 rfl) ?_
    obtain rfl := Option.some.inj hf
    subst hQ
    exact W.iret (v := z2) hx hb hr (fun t ht hW => ⟨z2, rfl, rfl, ht⟩) (fun q h => by cases h) d_m812_29

def f_SC_frame (ms : Nat) (N : Nat) (p0 : Int32) (p1 : Int32) (p2 : Int32) (p3 : Int32) (pic_many : Int32) (pic_unitsAcross : Int32) (pic_unitsDown : Int32) (pic_blocks : Int32) (pic_h : Nat → Int32) (pic_v : Nat → Int32) (pic_ac : Nat → Int32) (pic_dn : Nat → Int32) (pic_oa : Nat → Int32) (pic_od : Nat → Int32) (pic_st : Nat → Int32) (n_pic_co : Nat) (pic_co : Nat → Int32) (crs_kind : Int32) (crs_first : Int32) (crs_last : Int32) (crs_bits : Int32) (crs_interval : Int32) (crs_units : Int32) (crs_blocksOfUnit : Int32) (crs_laid : Int32) (crs_ow : Nat → Int32) (crs_pl : Nat → Int32) (crs_dt : Nat → Int32) (crs_ot : Nat → Int32) : Option (Int32 × Int32 × Int32 × Int32 × Int32 × (Nat → Int32) × (Nat → Int32) × (Nat → Int32) × (Nat → Int32) × (Nat → Int32) × (Nat → Int32) × (Nat → Int32) × Nat × (Nat → Int32) × Int32 × Int32 × Int32 × Int32 × Int32 × Int32 × Int32 × Int32 × (Nat → Int32) × (Nat → Int32) × (Nat → Int32) × (Nat → Int32)) :=
  (f_Picture_fits N p0 p1 p2 p3).bind fun z1 =>
  if z1 = 0 then
    some ((0 : Int32), pic_many, pic_unitsAcross, pic_unitsDown, pic_blocks, pic_h, pic_v, pic_ac, pic_dn, pic_oa, pic_od, pic_st, n_pic_co, pic_co, crs_kind, crs_first, crs_last, crs_bits, crs_interval, crs_units, crs_blocksOfUnit, crs_laid, crs_ow, crs_pl, crs_dt, crs_ot)
  else
    (f_Picture_become ms N p0 p1 p2 p3 pic_h pic_v pic_ac pic_dn pic_oa pic_od pic_st n_pic_co pic_co).bind fun z2 =>
    (f_Course_startAnew N z2.1 z2.2.1 z2.2.2.1 z2.2.2.2.2.1 z2.2.2.2.2.2.1 z2.2.2.2.2.2.2.1 z2.2.2.2.2.2.2.2.1 z2.2.2.2.2.2.2.2.2.1 z2.2.2.2.2.2.2.2.2.2.1 z2.2.2.2.2.2.2.2.2.2.2.1 crs_ow crs_pl crs_dt crs_ot).bind fun z3 =>
    some ((1 : Int32), z2.1, z2.2.1, z2.2.2.1, z2.2.2.2.1, z2.2.2.2.2.1, z2.2.2.2.2.2.1, z2.2.2.2.2.2.2.1, z2.2.2.2.2.2.2.2.1, z2.2.2.2.2.2.2.2.2.1, z2.2.2.2.2.2.2.2.2.2.1, z2.2.2.2.2.2.2.2.2.2.2.1, z2.2.2.2.2.2.2.2.2.2.2.2.1, z2.2.2.2.2.2.2.2.2.2.2.2.2, z3.1, z3.2.1, z3.2.2.1, z3.2.2.2.1, z3.2.2.2.2.1, z3.2.2.2.2.2.1, z3.2.2.2.2.2.2.1, z3.2.2.2.2.2.2.2.1, z3.2.2.2.2.2.2.2.2.1, z3.2.2.2.2.2.2.2.2.2.1, z3.2.2.2.2.2.2.2.2.2.2.1, z3.2.2.2.2.2.2.2.2.2.2.2)
abbrev w_SC_frame (cI cB cS cT : ClassId) (a_sc : Nat) (a_pic : Nat) (a_pic_h : Nat) (a_pic_v : Nat) (a_pic_ac : Nat) (a_pic_dn : Nat) (a_pic_oa : Nat) (a_pic_od : Nat) (a_pic_st : Nat) (a_pic_co : Nat) (a_crs : Nat) (a_crs_ow : Nat) (a_crs_pl : Nat) (a_crs_dt : Nat) (a_crs_ot : Nat) (a_drf : Nat) (a_tbs : Nat) (a_sto : Nat) (a_cnt : Nat) (a_wr : Nat) (a_enc : Nat) (a_dec : Nat) (pic_many : Int32) (pic_unitsAcross : Int32) (pic_unitsDown : Int32) (pic_blocks : Int32) (pic_h : Nat → Int32) (pic_v : Nat → Int32) (pic_ac : Nat → Int32) (pic_dn : Nat → Int32) (pic_oa : Nat → Int32) (pic_od : Nat → Int32) (pic_st : Nat → Int32) (n_pic_co : Nat) (pic_co : Nat → Int32) (crs_kind : Int32) (crs_first : Int32) (crs_last : Int32) (crs_bits : Int32) (crs_interval : Int32) (crs_units : Int32) (crs_blocksOfUnit : Int32) (crs_laid : Int32) (crs_ow : Nat → Int32) (crs_pl : Nat → Int32) (crs_dt : Nat → Int32) (crs_ot : Nat → Int32) : va_W := [(a_sc, .inr (0, [.ref a_pic, .ref a_crs, .ref a_drf, .ref a_tbs, .ref a_sto, .ref a_cnt, .ref a_wr, .ref a_enc, .ref a_dec])), (a_pic, .inr (8, [.ref a_pic_h, .ref a_pic_v, .ref a_pic_ac, .ref a_pic_dn, .ref a_pic_oa, .ref a_pic_od, .ref a_pic_st, .int pic_many, .int pic_unitsAcross, .int pic_unitsDown, .int pic_blocks, .ref a_pic_co])), (a_pic_h, .inl (cI, 4, .inl pic_h)), (a_pic_v, .inl (cI, 4, .inl pic_v)), (a_pic_ac, .inl (cI, 4, .inl pic_ac)), (a_pic_dn, .inl (cI, 4, .inl pic_dn)), (a_pic_oa, .inl (cI, 4, .inl pic_oa)), (a_pic_od, .inl (cI, 4, .inl pic_od)), (a_pic_st, .inl (cI, 4, .inl pic_st)), (a_pic_co, .inl (cS, n_pic_co, .inl pic_co)), (a_crs, .inr (4, [.ref a_pic, .ref a_crs_ow, .ref a_crs_pl, .ref a_crs_dt, .ref a_crs_ot, .int crs_kind, .int crs_first, .int crs_last, .int crs_bits, .int crs_interval, .int crs_units, .int crs_blocksOfUnit, .int crs_laid])), (a_crs_ow, .inl (cI, 192, .inl crs_ow)), (a_crs_pl, .inl (cI, 192, .inl crs_pl)), (a_crs_dt, .inl (cI, 4, .inl crs_dt)), (a_crs_ot, .inl (cI, 4, .inl crs_ot))]
def rm_SC_frame (ms : Nat) : Room := { frames := 6, cells := 1, slots := ms, locals := 141 }
set_option maxHeartbeats 1000000 in
set_option maxRecDepth 100000 in
theorem c_SC_frame (l : Launch) (dC : Nat → ClassId) (dI : Nat → Nat → Nat) (cI cB cS cT : ClassId) (ms : Nat) (N : Nat) (a_sc : Nat) (a_pic : Nat) (a_pic_h : Nat) (a_pic_v : Nat) (a_pic_ac : Nat) (a_pic_dn : Nat) (a_pic_oa : Nat) (a_pic_od : Nat) (a_pic_st : Nat) (a_pic_co : Nat) (a_crs : Nat) (a_crs_ow : Nat) (a_crs_pl : Nat) (a_crs_dt : Nat) (a_crs_ot : Nat) (a_drf : Nat) (a_tbs : Nat) (a_sto : Nat) (a_cnt : Nat) (a_wr : Nat) (a_enc : Nat) (a_dec : Nat) (pic_many : Int32) (pic_unitsAcross : Int32) (pic_unitsDown : Int32) (pic_blocks : Int32) (pic_h : Nat → Int32) (pic_v : Nat → Int32) (pic_ac : Nat → Int32) (pic_dn : Nat → Int32) (pic_oa : Nat → Int32) (pic_od : Nat → Int32) (pic_st : Nat → Int32) (n_pic_co : Nat) (pic_co : Nat → Int32) (crs_kind : Int32) (crs_first : Int32) (crs_last : Int32) (crs_bits : Int32) (crs_interval : Int32) (crs_units : Int32) (crs_blocksOfUnit : Int32) (crs_laid : Int32) (crs_ow : Nat → Int32) (crs_pl : Nat → Int32) (crs_dt : Nat → Int32) (crs_ot : Nat → Int32) (p0 : Int32) (p1 : Int32) (p2 : Int32) (p3 : Int32) (sz : Nat) (z : Int32 × Int32 × Int32 × Int32 × Int32 × (Nat → Int32) × (Nat → Int32) × (Nat → Int32) × (Nat → Int32) × (Nat → Int32) × (Nat → Int32) × (Nat → Int32) × Nat × (Nat → Int32) × Int32 × Int32 × Int32 × Int32 × Int32 × Int32 × Int32 × Int32 × (Nat → Int32) × (Nat → Int32) × (Nat → Int32) × (Nat → Int32)) (hf : f_SC_frame ms N p0 p1 p2 p3 pic_many pic_unitsAcross pic_unitsDown pic_blocks pic_h pic_v pic_ac pic_dn pic_oa pic_od pic_st n_pic_co pic_co crs_kind crs_first crs_last crs_bits crs_interval crs_units crs_blocksOfUnit crs_laid crs_ow crs_pl crs_dt crs_ot = some z) : Met l y_m450 ws_m450 (rm_SC_frame ms) (gPre (dC, dI) [.ref a_sc, .int p0, .int p1, .int p2, .int p3] (gT cI cB cS cT) (w_SC_frame cI cB cS cT a_sc a_pic a_pic_h a_pic_v a_pic_ac a_pic_dn a_pic_oa a_pic_od a_pic_st a_pic_co a_crs a_crs_ow a_crs_pl a_crs_dt a_crs_ot a_drf a_tbs a_sto a_cnt a_wr a_enc a_dec pic_many pic_unitsAcross pic_unitsDown pic_blocks pic_h pic_v pic_ac pic_dn pic_oa pic_od pic_st n_pic_co pic_co crs_kind crs_first crs_last crs_bits crs_interval crs_units crs_blocksOfUnit crs_laid crs_ow crs_pl crs_dt crs_ot) sz) (gQiA (dC, dI) (gT cI cB cS cT) (U := Nat) z.1 (w_SC_frame cI cB cS cT a_sc a_pic a_pic_h a_pic_v a_pic_ac a_pic_dn a_pic_oa a_pic_od a_pic_st a_pic_co a_crs a_crs_ow a_crs_pl a_crs_dt a_crs_ot a_drf a_tbs a_sto a_cnt a_wr a_enc a_dec pic_many pic_unitsAcross pic_unitsDown pic_blocks pic_h pic_v pic_ac pic_dn pic_oa pic_od pic_st n_pic_co pic_co crs_kind crs_first crs_last crs_bits crs_interval crs_units crs_blocksOfUnit crs_laid crs_ow crs_pl crs_dt crs_ot) (fun u => (w_SC_frame cI cB cS cT a_sc a_pic a_pic_h a_pic_v a_pic_ac a_pic_dn a_pic_oa a_pic_od a_pic_st u a_crs a_crs_ow a_crs_pl a_crs_dt a_crs_ot a_drf a_tbs a_sto a_cnt a_wr a_enc a_dec z.2.1 z.2.2.1 z.2.2.2.1 z.2.2.2.2.1 z.2.2.2.2.2.1 z.2.2.2.2.2.2.1 z.2.2.2.2.2.2.2.1 z.2.2.2.2.2.2.2.2.1 z.2.2.2.2.2.2.2.2.2.1 z.2.2.2.2.2.2.2.2.2.2.1 z.2.2.2.2.2.2.2.2.2.2.2.1 z.2.2.2.2.2.2.2.2.2.2.2.2.1 z.2.2.2.2.2.2.2.2.2.2.2.2.2.1 z.2.2.2.2.2.2.2.2.2.2.2.2.2.2.1 z.2.2.2.2.2.2.2.2.2.2.2.2.2.2.2.1 z.2.2.2.2.2.2.2.2.2.2.2.2.2.2.2.2.1 z.2.2.2.2.2.2.2.2.2.2.2.2.2.2.2.2.2.1 z.2.2.2.2.2.2.2.2.2.2.2.2.2.2.2.2.2.2.1 z.2.2.2.2.2.2.2.2.2.2.2.2.2.2.2.2.2.2.2.1 z.2.2.2.2.2.2.2.2.2.2.2.2.2.2.2.2.2.2.2.2.1 z.2.2.2.2.2.2.2.2.2.2.2.2.2.2.2.2.2.2.2.2.2.1 z.2.2.2.2.2.2.2.2.2.2.2.2.2.2.2.2.2.2.2.2.2.2.1 z.2.2.2.2.2.2.2.2.2.2.2.2.2.2.2.2.2.2.2.2.2.2.2.1 z.2.2.2.2.2.2.2.2.2.2.2.2.2.2.2.2.2.2.2.2.2.2.2.2.1 z.2.2.2.2.2.2.2.2.2.2.2.2.2.2.2.2.2.2.2.2.2.2.2.2.2)) sz) 1 ms (va_A (w_SC_frame cI cB cS cT a_sc a_pic a_pic_h a_pic_v a_pic_ac a_pic_dn a_pic_oa a_pic_od a_pic_st a_pic_co a_crs a_crs_ow a_crs_pl a_crs_dt a_crs_ot a_drf a_tbs a_sto a_cnt a_wr a_enc a_dec pic_many pic_unitsAcross pic_unitsDown pic_blocks pic_h pic_v pic_ac pic_dn pic_oa pic_od pic_st n_pic_co pic_co crs_kind crs_first crs_last crs_bits crs_interval crs_units crs_blocksOfUnit crs_laid crs_ow crs_pl crs_dt crs_ot) sz) := by
  refine Met.ofW (cc := prog_1_method_2_code) (maxL := 5) (ret := (some .boolean)) (by decide) rfl ?_
  intro p e s m args below meth c s₁ B hml hv
  obtain ⟨hargs, hsz, hP, hKN, hD0⟩ := hv
  have hK := hKN.1
  have hx := B.exec
  have hb := B.bytes
  have hr := B.returns
  have hts := atoms_spec (ws := ws_m450) B.pre
  have hown : s.vm.findClass "ScanCoder" = some m.cls := findClass_of_methodNamed B.named
  have hlocks := B.notSynchronized
  have k0 := hts _ (List.mem_cons_of_mem _ tw_419)
  have k1 := hts _ (List.mem_cons_of_mem _ tw_420)
  have n0 : ∀ w ∈ u_ws "ScanCoder" T_0 9, w ∈ ws_m450 := fun w h => List.mem_cons_of_mem _ (in_0 w h)
  subst hsz
  have hD := hD0.self (sz := s.heap.size)
  obtain ⟨A, hAe⟩ : ∃ A : Nat → Prop, va_A (w_SC_frame cI cB cS cT a_sc a_pic a_pic_h a_pic_v a_pic_ac a_pic_dn a_pic_oa a_pic_od a_pic_st a_pic_co a_crs a_crs_ow a_crs_pl a_crs_dt a_crs_ot a_drf a_tbs a_sto a_cnt a_wr a_enc a_dec pic_many pic_unitsAcross pic_unitsDown pic_blocks pic_h pic_v pic_ac pic_dn pic_oa pic_od pic_st n_pic_co pic_co crs_kind crs_first crs_last crs_bits crs_interval crs_units crs_blocksOfUnit crs_laid crs_ow crs_pl crs_dt crs_ot) s.heap.size = A := ⟨_, rfl⟩
  rw [hAe] at hD
  have hA : ∀ q : Nat, s.heap.size ≤ q → A q := fun q h => by rw [← hAe]; exact Or.inr h
  have hS : va_S A s.heap s.heap [] := va_S.rf
  have hl := lv_entry ([.ref a_sc, .int p0, .int p1, .int p2, .int p3]) (n := 5) (Nat.le_of_ble_eq_true rfl)
  have hfr : entryFrame m args 5 = F0 m 0 ((lg_sl ([.ref a_sc, .int p0, .int p1, .int p2, .int p3]) ++ List.replicate (5 - (lg_sl ([.ref a_sc, .int p0, .int p1, .int p2, .int p3])).length) Slot.unset).toArray) [] := by rw [hargs]; exact lg_entry_eq _ _ _
  rw [hfr]
  generalize (lg_sl ([.ref a_sc, .int p0, .int p1, .int p2, .int p3]) ++ List.replicate (5 - (lg_sl ([.ref a_sc, .int p0, .int p1, .int p2, .int p3])).length) Slot.unset).toArray = ls at hl ⊢
  have hl : lv_has ls 5 [(0, .ref a_sc), (1, .int p0), (2, .int p1), (3, .int p2), (4, .int p3)] := hl
  refine gen_Q (fun Q hQ => ?_)
  clear hfr
  have hgo : ∀ (H : Heap) (locs : List Loc), va_P (dC, dI) vwCl (w_SC_frame cI cB cS cT a_sc a_pic a_pic_h a_pic_v a_pic_ac a_pic_dn a_pic_oa a_pic_od a_pic_st a_pic_co a_crs a_crs_ow a_crs_pl a_crs_dt a_crs_ot a_drf a_tbs a_sto a_cnt a_wr a_enc a_dec pic_many pic_unitsAcross pic_unitsDown pic_blocks pic_h pic_v pic_ac pic_dn pic_oa pic_od pic_st n_pic_co pic_co crs_kind crs_first crs_last crs_bits crs_interval crs_units crs_blocksOfUnit crs_laid crs_ow crs_pl crs_dt crs_ot) H → va_S A s.heap H locs → W p l e (headSpec ws_m450 (rm_SC_frame ms)).room s m args below meth c H locs 0 0 Q (F0 m 0 ls []) := by
    intro H locs hP hS
    unfold f_SC_frame at hf
    refine lv_iload_n hx hb d_m450_0 rfl (lv_at hl 1 rfl) ?_
    refine lv_iload_n hx hb d_m450_1 rfl (lv_at hl 2 rfl) ?_
    refine lv_iload_n hx hb d_m450_2 rfl (lv_at hl 3 rfl) ?_
    refine lv_iload hx hb d_m450_3 (lv_at hl 4 rfl) ?_
    obtain ⟨z1, hz1, hf⟩ := ob_bind hf
    refine vp_callSi (g_run (va_runS (As := [.int p0, .int p1, .int p2, .int p3]) (rest := []) ⟨hx, hb, hml, hown, hts⟩ (c_Picture_fits l dC dI cI cB cS cT N p0 p1 p2 p3 z1 hz1) ⟨(callB_of 4 hts (gi tw_453 rfl) rfl rfl rfl (hts _ (List.mem_cons_of_mem _ tw_2)) (hts _ (List.mem_cons_of_mem _ tw_451)) (by decide +kernel) ⟨Nat.le_of_ble_eq_true rfl, Nat.le_of_ble_eq_true rfl⟩), hts _ (List.mem_cons_of_mem _ tw_452)⟩ ⟨gp_blind, gp_at hKN (g_pm hP [] rfl)⟩ rfl rfl hl.1 rfl (lv_room (Nat.le_of_ble_eq_true rfl)) d_m450_5 ⟨Nat.zero_le _, Nat.zero_le _⟩)) (fun r hrz1 => ?_)
    have hrz1 := hrz1.symm
    subst hrz1
    refine W.eq (g2 := F0 m 8 ls [.int z1]) rfl ?_
    refine lv_if_ne (tgt := 13) hx hb d_m450_8 (by decide) (fun hc => ?_) (fun hc => ?_)
    · replace hf := (if_neg hc).symm.trans hf
      refine lv_aload_n hx hb d_m450_13 rfl (lv_at hl 0 rfl) ?_
      refine va_get (D := (dC, dI)) (ci := 0) (v := .ref a_pic) (C := "ScanCoder") (T := T_0) (N := 9) hx hb hts n0 hown hK hP 0 rfl rfl 0 (by decide) k0 (fun _ h9 => h9) rfl d_m450_14 ?_
      refine lv_iload_n hx hb d_m450_17 rfl (lv_at hl 1 rfl) ?_
      refine lv_iload_n hx hb d_m450_18 rfl (lv_at hl 2 rfl) ?_
      refine lv_iload_n hx hb d_m450_19 rfl (lv_at hl 3 rfl) ?_
      refine lv_iload hx hb d_m450_20 (lv_at hl 4 rfl) ?_
      obtain ⟨z2, hz2, hf⟩ := ob_bind hf
      refine g_callAv (U := Nat) (wc := (w_Picture_become cI cB cS cT a_pic a_pic_h a_pic_v a_pic_ac a_pic_dn a_pic_oa a_pic_od a_pic_st a_pic_co pic_many pic_unitsAcross pic_unitsDown pic_blocks pic_h pic_v pic_ac pic_dn pic_oa pic_od pic_st n_pic_co pic_co)) (w1 := fun u2 => (w_Picture_become cI cB cS cT a_pic a_pic_h a_pic_v a_pic_ac a_pic_dn a_pic_oa a_pic_od a_pic_st u2 z2.1 z2.2.1 z2.2.2.1 z2.2.2.2.1 z2.2.2.2.2.1 z2.2.2.2.2.2.1 z2.2.2.2.2.2.2.1 z2.2.2.2.2.2.2.2.1 z2.2.2.2.2.2.2.2.2.1 z2.2.2.2.2.2.2.2.2.2.1 z2.2.2.2.2.2.2.2.2.2.2.1 z2.2.2.2.2.2.2.2.2.2.2.2.1 z2.2.2.2.2.2.2.2.2.2.2.2.2)) (w2 := fun u2 => (w_SC_frame cI cB cS cT a_sc a_pic a_pic_h a_pic_v a_pic_ac a_pic_dn a_pic_oa a_pic_od a_pic_st u2 a_crs a_crs_ow a_crs_pl a_crs_dt a_crs_ot a_drf a_tbs a_sto a_cnt a_wr a_enc a_dec z2.1 z2.2.1 z2.2.2.1 z2.2.2.2.1 z2.2.2.2.2.1 z2.2.2.2.2.2.1 z2.2.2.2.2.2.2.1 z2.2.2.2.2.2.2.2.1 z2.2.2.2.2.2.2.2.2.1 z2.2.2.2.2.2.2.2.2.2.1 z2.2.2.2.2.2.2.2.2.2.2.1 z2.2.2.2.2.2.2.2.2.2.2.2.1 z2.2.2.2.2.2.2.2.2.2.2.2.2 crs_kind crs_first crs_last crs_bits crs_interval crs_units crs_blocksOfUnit crs_laid crs_ow crs_pl crs_dt crs_ot)) [1, 2, 3, 4, 5, 6, 7, 8, 9] [none, some 0, some 1, some 2, some 3, some 4, some 5, some 6, some 7, some 8, none, none, none, none, none] hP hD hS hA rfl (fun _ => rfl) rfl rfl (va_runV (As := [.int p0, .int p1, .int p2, .int p3]) (rest := []) ⟨hx, hb, hml, hown, hts⟩ (c_Picture_become l dC dI cI cB cS cT ms N a_pic a_pic_h a_pic_v a_pic_ac a_pic_dn a_pic_oa a_pic_od a_pic_st a_pic_co pic_many pic_unitsAcross pic_unitsDown pic_blocks pic_h pic_v pic_ac pic_dn pic_oa pic_od pic_st n_pic_co pic_co p0 p1 p2 p3 H.size z2 hz2) ⟨(callB_of 4 hts (gi tw_35 rfl) rfl rfl rfl (hts _ (List.mem_cons_of_mem _ tw_2)) (hts _ (List.mem_cons_of_mem _ tw_454)) (by decide +kernel) ⟨Nat.le_of_ble_eq_true rfl, Nat.le_of_ble_eq_true rfl⟩), hts _ (List.mem_cons_of_mem _ tw_33), hts _ (List.mem_cons_of_mem _ tw_34)⟩ ⟨g_blind, va_recv hK hP (ci := 8) (q0 := 1) rfl rfl, g_at hKN (g_pm hP [1, 2, 3, 4, 5, 6, 7, 8, 9] rfl) (hD.sub [1, 2, 3, 4, 5, 6, 7, 8, 9] (by decide) rfl)⟩ rfl rfl hl.1 rfl (lv_room (Nat.le_of_ble_eq_true rfl)) d_m450_22 ⟨Nat.le_of_ble_eq_true rfl, Nat.le_of_eq (Nat.zero_add _)⟩) (fun u2 H locs hP hD hS => ?_)
      refine W.widen (k := 1) (n := ms) (Nat.le_of_ble_eq_true rfl) (Nat.le_of_eq (Nat.zero_add _)) ?_
      have hP : va_P (dC, dI) vwCl (w_SC_frame cI cB cS cT a_sc a_pic a_pic_h a_pic_v a_pic_ac a_pic_dn a_pic_oa a_pic_od a_pic_st u2 a_crs a_crs_ow a_crs_pl a_crs_dt a_crs_ot a_drf a_tbs a_sto a_cnt a_wr a_enc a_dec z2.1 z2.2.1 z2.2.2.1 z2.2.2.2.1 z2.2.2.2.2.1 z2.2.2.2.2.2.1 z2.2.2.2.2.2.2.1 z2.2.2.2.2.2.2.2.1 z2.2.2.2.2.2.2.2.2.1 z2.2.2.2.2.2.2.2.2.2.1 z2.2.2.2.2.2.2.2.2.2.2.1 z2.2.2.2.2.2.2.2.2.2.2.2.1 z2.2.2.2.2.2.2.2.2.2.2.2.2 crs_kind crs_first crs_last crs_bits crs_interval crs_units crs_blocksOfUnit crs_laid crs_ow crs_pl crs_dt crs_ot) H := hP
      have hD : va_D A (w_SC_frame cI cB cS cT a_sc a_pic a_pic_h a_pic_v a_pic_ac a_pic_dn a_pic_oa a_pic_od a_pic_st u2 a_crs a_crs_ow a_crs_pl a_crs_dt a_crs_ot a_drf a_tbs a_sto a_cnt a_wr a_enc a_dec z2.1 z2.2.1 z2.2.2.1 z2.2.2.2.1 z2.2.2.2.2.1 z2.2.2.2.2.2.1 z2.2.2.2.2.2.2.1 z2.2.2.2.2.2.2.2.1 z2.2.2.2.2.2.2.2.2.1 z2.2.2.2.2.2.2.2.2.2.1 z2.2.2.2.2.2.2.2.2.2.2.1 z2.2.2.2.2.2.2.2.2.2.2.2.1 z2.2.2.2.2.2.2.2.2.2.2.2.2 crs_kind crs_first crs_last crs_bits crs_interval crs_units crs_blocksOfUnit crs_laid crs_ow crs_pl crs_dt crs_ot) := hD
      refine W.eq (g2 := F0 m 25 ls []) rfl ?_
      refine lv_aload_n hx hb d_m450_25 rfl (lv_at hl 0 rfl) ?_
      refine va_get (D := (dC, dI)) (ci := 0) (v := .ref a_crs) (C := "ScanCoder") (T := T_0) (N := 9) hx hb hts n0 hown hK hP 0 rfl rfl 1 (by decide) k1 (fun _ h9 => h9) rfl d_m450_26 ?_
      obtain ⟨z3, hz3, hf⟩ := ob_bind hf
      refine g_callv (wc := (w_Course_startAnew cI cB cS cT a_pic a_pic_h a_pic_v a_pic_ac a_pic_dn a_pic_oa a_pic_od a_pic_st a_crs a_crs_ow a_crs_pl a_crs_dt a_crs_ot u2 z2.1 z2.2.1 z2.2.2.1 z2.2.2.2.1 z2.2.2.2.2.1 z2.2.2.2.2.2.1 z2.2.2.2.2.2.2.1 z2.2.2.2.2.2.2.2.1 z2.2.2.2.2.2.2.2.2.1 z2.2.2.2.2.2.2.2.2.2.1 z2.2.2.2.2.2.2.2.2.2.2.1 crs_kind crs_first crs_last crs_bits crs_interval crs_units crs_blocksOfUnit crs_laid crs_ow crs_pl crs_dt crs_ot)) (w1 := (w_Course_startAnew cI cB cS cT a_pic a_pic_h a_pic_v a_pic_ac a_pic_dn a_pic_oa a_pic_od a_pic_st a_crs a_crs_ow a_crs_pl a_crs_dt a_crs_ot u2 z2.1 z2.2.1 z2.2.2.1 z2.2.2.2.1 z2.2.2.2.2.1 z2.2.2.2.2.2.1 z2.2.2.2.2.2.2.1 z2.2.2.2.2.2.2.2.1 z2.2.2.2.2.2.2.2.2.1 z2.2.2.2.2.2.2.2.2.2.1 z2.2.2.2.2.2.2.2.2.2.2.1 z3.1 z3.2.1 z3.2.2.1 z3.2.2.2.1 z3.2.2.2.2.1 z3.2.2.2.2.2.1 z3.2.2.2.2.2.2.1 z3.2.2.2.2.2.2.2.1 z3.2.2.2.2.2.2.2.2.1 z3.2.2.2.2.2.2.2.2.2.1 z3.2.2.2.2.2.2.2.2.2.2.1 z3.2.2.2.2.2.2.2.2.2.2.2)) (w2 := (w_SC_frame cI cB cS cT a_sc a_pic a_pic_h a_pic_v a_pic_ac a_pic_dn a_pic_oa a_pic_od a_pic_st u2 a_crs a_crs_ow a_crs_pl a_crs_dt a_crs_ot a_drf a_tbs a_sto a_cnt a_wr a_enc a_dec z2.1 z2.2.1 z2.2.2.1 z2.2.2.2.1 z2.2.2.2.2.1 z2.2.2.2.2.2.1 z2.2.2.2.2.2.2.1 z2.2.2.2.2.2.2.2.1 z2.2.2.2.2.2.2.2.2.1 z2.2.2.2.2.2.2.2.2.2.1 z2.2.2.2.2.2.2.2.2.2.2.1 z2.2.2.2.2.2.2.2.2.2.2.2.1 z2.2.2.2.2.2.2.2.2.2.2.2.2 z3.1 z3.2.1 z3.2.2.1 z3.2.2.2.1 z3.2.2.2.2.1 z3.2.2.2.2.2.1 z3.2.2.2.2.2.2.1 z3.2.2.2.2.2.2.2.1 z3.2.2.2.2.2.2.2.2.1 z3.2.2.2.2.2.2.2.2.2.1 z3.2.2.2.2.2.2.2.2.2.2.1 z3.2.2.2.2.2.2.2.2.2.2.2)) [1, 2, 3, 4, 5, 6, 7, 8, 10, 11, 12, 13, 14] [none, some 0, some 1, some 2, some 3, some 4, some 5, some 6, some 7, none, some 8, some 9, some 10, some 11, some 12] hP hD hS hA rfl rfl rfl rfl (va_runV (As := []) (rest := []) ⟨hx, hb, hml, hown, hts⟩ (c_Course_startAnew l dC dI cI cB cS cT N a_pic a_pic_h a_pic_v a_pic_ac a_pic_dn a_pic_oa a_pic_od a_pic_st a_crs a_crs_ow a_crs_pl a_crs_dt a_crs_ot u2 z2.1 z2.2.1 z2.2.2.1 z2.2.2.2.1 z2.2.2.2.2.1 z2.2.2.2.2.2.1 z2.2.2.2.2.2.2.1 z2.2.2.2.2.2.2.2.1 z2.2.2.2.2.2.2.2.2.1 z2.2.2.2.2.2.2.2.2.2.1 z2.2.2.2.2.2.2.2.2.2.2.1 crs_kind crs_first crs_last crs_bits crs_interval crs_units crs_blocksOfUnit crs_laid crs_ow crs_pl crs_dt crs_ot H.size z3 hz3) ⟨(callB_of 0 hts (gi tw_119 rfl) rfl rfl rfl (hts _ (List.mem_cons_of_mem _ tw_5)) (hts _ (List.mem_cons_of_mem _ tw_455)) (by decide +kernel) ⟨Nat.le_of_ble_eq_true rfl, Nat.le_of_ble_eq_true rfl⟩), hts _ (List.mem_cons_of_mem _ tw_117), hts _ (List.mem_cons_of_mem _ tw_118)⟩ ⟨g_blind, va_recv hK hP (ci := 4) (q0 := 10) rfl rfl, g_at hKN (g_pm hP [1, 2, 3, 4, 5, 6, 7, 8, 10, 11, 12, 13, 14] rfl) (hD.sub [1, 2, 3, 4, 5, 6, 7, 8, 10, 11, 12, 13, 14] (by decide) rfl)⟩ rfl rfl hl.1 rfl (lv_room (Nat.le_of_ble_eq_true rfl)) d_m450_29 ⟨Nat.le_of_ble_eq_true rfl, Nat.le_refl _⟩) (fun H locs hP hD hS => ?_)
      refine W.eq (g2 := F0 m 32 ls []) rfl ?_
      refine lv_iconst (v := (1 : Int32)) hx hb d_m450_32 (by decide) ?_
      obtain rfl := Option.some.inj hf
      subst hQ
      subst hAe
      exact W.zret (v := (1 : Int32)) hx hb hr (by decide) (fun t ht hW => ⟨⟨(1 : Int32), u2, rfl, rfl, by rw [ht]; exact hP, hD⟩, hS.F ht⟩) hS.2.2 d_m450_33
    · replace hf := (if_pos hc).symm.trans hf
      refine lv_iconst (v := (0 : Int32)) hx hb d_m450_11 (by decide) ?_
      refine W.widen (k := 1) (n := ms) (Nat.zero_le _) (Nat.zero_le _) ?_
      obtain rfl := Option.some.inj hf
      subst hQ
      subst hAe
      exact W.zret (v := (0 : Int32)) hx hb hr (by decide) (fun t ht hW => ⟨⟨(0 : Int32), a_pic_co, rfl, rfl, by rw [ht]; exact hP, hD⟩, hS.F ht⟩) hS.2.2 d_m450_12
  exact hgo _ _ hP hS

def f_SC_counts (N : Nat) (p0 : Int64) (p1 : Int64) (drf_c : Nat → Int32) : Option (Int32 × (Nat → Int32)) :=
  (f_Draft_begin N p0 p1 drf_c).bind fun z1 =>
  some (z1.1, z1.2)
abbrev w_SC_counts (cI cB cS cT : ClassId) (a_sc : Nat) (a_drf : Nat) (a_drf_c : Nat) (a_pic : Nat) (a_crs : Nat) (a_tbs : Nat) (a_sto : Nat) (a_cnt : Nat) (a_wr : Nat) (a_enc : Nat) (a_dec : Nat) (a_drf_s : Nat) (a_drf_z : Nat) (drf_size : Int32) (drf_c : Nat → Int32) : va_W := [(a_sc, .inr (0, [.ref a_pic, .ref a_crs, .ref a_drf, .ref a_tbs, .ref a_sto, .ref a_cnt, .ref a_wr, .ref a_enc, .ref a_dec])), (a_drf, .inr (6, [.ref a_drf_c, .ref a_drf_s, .ref a_drf_z, .int drf_size])), (a_drf_c, .inl (cI, 17, .inl drf_c))]
def rm_SC_counts : Room := { frames := 1, cells := 0, slots := 0, locals := 25 }
set_option maxHeartbeats 1000000 in
set_option maxRecDepth 100000 in
theorem c_SC_counts (l : Launch) (dC : Nat → ClassId) (dI : Nat → Nat → Nat) (cI cB cS cT : ClassId) (N : Nat) (a_sc : Nat) (a_drf : Nat) (a_drf_c : Nat) (a_pic : Nat) (a_crs : Nat) (a_tbs : Nat) (a_sto : Nat) (a_cnt : Nat) (a_wr : Nat) (a_enc : Nat) (a_dec : Nat) (a_drf_s : Nat) (a_drf_z : Nat) (drf_size : Int32) (drf_c : Nat → Int32) (p0 : Int64) (p1 : Int64) (sz : Nat) (z : Int32 × (Nat → Int32)) (hf : f_SC_counts N p0 p1 drf_c = some z) : Met l y_m459 ws_m459 rm_SC_counts (gPre (dC, dI) [.ref a_sc, .long p0, .long p1] (gT cI cB cS cT) (w_SC_counts cI cB cS cT a_sc a_drf a_drf_c a_pic a_crs a_tbs a_sto a_cnt a_wr a_enc a_dec a_drf_s a_drf_z drf_size drf_c) sz) (gQv (dC, dI) (gT cI cB cS cT) (w_SC_counts cI cB cS cT a_sc a_drf a_drf_c a_pic a_crs a_tbs a_sto a_cnt a_wr a_enc a_dec a_drf_s a_drf_z drf_size drf_c) (w_SC_counts cI cB cS cT a_sc a_drf a_drf_c a_pic a_crs a_tbs a_sto a_cnt a_wr a_enc a_dec a_drf_s a_drf_z z.1 z.2) sz) 0 0 (va_A (w_SC_counts cI cB cS cT a_sc a_drf a_drf_c a_pic a_crs a_tbs a_sto a_cnt a_wr a_enc a_dec a_drf_s a_drf_z drf_size drf_c) sz) := by
  refine Met.ofW (cc := prog_1_method_3_code) (maxL := 5) (ret := none) (by decide) rfl ?_
  intro p e s m args below meth c s₁ B hml hv
  obtain ⟨hargs, hsz, hP, hKN, hD0⟩ := hv
  have hK := hKN.1
  have hx := B.exec
  have hb := B.bytes
  have hr := B.returns
  have hts := atoms_spec (ws := ws_m459) B.pre
  have hown : s.vm.findClass "ScanCoder" = some m.cls := findClass_of_methodNamed B.named
  have hlocks := B.notSynchronized
  have k0 := hts _ (List.mem_cons_of_mem _ tw_421)
  have n0 : ∀ w ∈ u_ws "ScanCoder" T_0 9, w ∈ ws_m459 := fun w h => List.mem_cons_of_mem _ (in_0 w h)
  subst hsz
  have hD := hD0.self (sz := s.heap.size)
  obtain ⟨A, hAe⟩ : ∃ A : Nat → Prop, va_A (w_SC_counts cI cB cS cT a_sc a_drf a_drf_c a_pic a_crs a_tbs a_sto a_cnt a_wr a_enc a_dec a_drf_s a_drf_z drf_size drf_c) s.heap.size = A := ⟨_, rfl⟩
  rw [hAe] at hD
  have hA : ∀ q : Nat, s.heap.size ≤ q → A q := fun q h => by rw [← hAe]; exact Or.inr h
  have hS : va_S A s.heap s.heap [] := va_S.rf
  have hl := lv_entry ([.ref a_sc, .long p0, .long p1]) (n := 5) (Nat.le_of_ble_eq_true rfl)
  have hfr : entryFrame m args 5 = F0 m 0 ((lg_sl ([.ref a_sc, .long p0, .long p1]) ++ List.replicate (5 - (lg_sl ([.ref a_sc, .long p0, .long p1])).length) Slot.unset).toArray) [] := by rw [hargs]; exact lg_entry_eq _ _ _
  rw [hfr]
  generalize (lg_sl ([.ref a_sc, .long p0, .long p1]) ++ List.replicate (5 - (lg_sl ([.ref a_sc, .long p0, .long p1])).length) Slot.unset).toArray = ls at hl ⊢
  have hl : lv_has ls 5 [(0, .ref a_sc), (1, .long p0), (3, .long p1)] := hl
  refine gen_Q (fun Q hQ => ?_)
  clear hfr
  have hgo : ∀ (H : Heap) (locs : List Loc), va_P (dC, dI) vwCl (w_SC_counts cI cB cS cT a_sc a_drf a_drf_c a_pic a_crs a_tbs a_sto a_cnt a_wr a_enc a_dec a_drf_s a_drf_z drf_size drf_c) H → va_S A s.heap H locs → W p l e (headSpec ws_m459 rm_SC_counts).room s m args below meth c H locs 0 0 Q (F0 m 0 ls []) := by
    intro H locs hP hS
    unfold f_SC_counts at hf
    refine lv_aload_n hx hb d_m459_0 rfl (lv_at hl 0 rfl) ?_
    refine va_get (D := (dC, dI)) (ci := 0) (v := .ref a_drf) (C := "ScanCoder") (T := T_0) (N := 9) hx hb hts n0 hown hK hP 0 rfl rfl 2 (by decide) k0 (fun _ h9 => h9) rfl d_m459_1 ?_
    refine lv_lload_n hx hb d_m459_4 rfl (lv_at hl 1 rfl) ?_
    refine lv_lload_n hx hb d_m459_5 rfl (lv_at hl 2 rfl) ?_
    obtain ⟨z1, hz1, hf⟩ := ob_bind hf
    refine g_callv (wc := (w_Draft_begin cI cB cS cT a_drf a_drf_c a_drf_s a_drf_z drf_size drf_c)) (w1 := (w_Draft_begin cI cB cS cT a_drf a_drf_c a_drf_s a_drf_z z1.1 z1.2)) (w2 := (w_SC_counts cI cB cS cT a_sc a_drf a_drf_c a_pic a_crs a_tbs a_sto a_cnt a_wr a_enc a_dec a_drf_s a_drf_z z1.1 z1.2)) [1, 2] [none, some 0, some 1] hP hD hS hA rfl rfl rfl rfl (va_runV (As := [.long p0, .long p1]) (rest := []) ⟨hx, hb, hml, hown, hts⟩ (c_Draft_begin l dC dI cI cB cS cT N a_drf a_drf_c a_drf_s a_drf_z drf_size drf_c p0 p1 H.size z1 hz1) ⟨(callB_of 2 hts (gi tw_463 rfl) rfl rfl rfl (hts _ (List.mem_cons_of_mem _ tw_7)) (hts _ (List.mem_cons_of_mem _ tw_460)) (by decide +kernel) ⟨Nat.le_of_ble_eq_true rfl, Nat.le_of_ble_eq_true rfl⟩), hts _ (List.mem_cons_of_mem _ tw_461), hts _ (List.mem_cons_of_mem _ tw_462)⟩ ⟨g_blind, va_recv hK hP (ci := 6) (q0 := 1) rfl rfl, g_at hKN (g_pm hP [1, 2] rfl) (hD.sub [1, 2] (by decide) rfl)⟩ rfl rfl hl.1 rfl (lv_room (Nat.le_of_ble_eq_true rfl)) d_m459_6 ⟨Nat.zero_le _, Nat.zero_le _⟩) (fun H locs hP hD hS => ?_)
    refine W.eq (g2 := F0 m 9 ls []) rfl ?_
    obtain rfl := Option.some.inj hf
    subst hQ
    subst hAe
    exact W.vret hx hb hr (fun t ht hW => ⟨⟨(), rfl, trivial, by rw [ht]; exact hP, hD⟩, hS.F ht⟩) hS.2.2 d_m459_9
  exact hgo _ _ hP hS

def f_SC_symbols (N : Nat) (p0 : Int64) (p1 : Int32) (drf_size : Int32) (drf_s : Nat → Int32) : Option (Int32 × Int32 × (Nat → Int32)) :=
  (f_Draft_append N p0 p1 drf_size drf_s).bind fun z1 =>
  if z1.1 = 0 ∨ z1.1 = 1 then some (z1.1, z1.2.1, z1.2.2) else none
abbrev w_SC_symbols (cI cB cS cT : ClassId) (a_sc : Nat) (a_drf : Nat) (a_drf_s : Nat) (a_pic : Nat) (a_crs : Nat) (a_tbs : Nat) (a_sto : Nat) (a_cnt : Nat) (a_wr : Nat) (a_enc : Nat) (a_dec : Nat) (a_drf_c : Nat) (a_drf_z : Nat) (drf_size : Int32) (drf_s : Nat → Int32) : va_W := [(a_sc, .inr (0, [.ref a_pic, .ref a_crs, .ref a_drf, .ref a_tbs, .ref a_sto, .ref a_cnt, .ref a_wr, .ref a_enc, .ref a_dec])), (a_drf, .inr (6, [.ref a_drf_c, .ref a_drf_s, .ref a_drf_z, .int drf_size])), (a_drf_s, .inl (cI, 256, .inl drf_s))]
def rm_SC_symbols : Room := { frames := 1, cells := 0, slots := 0, locals := 24 }
set_option maxHeartbeats 1000000 in
set_option maxRecDepth 100000 in
theorem c_SC_symbols (l : Launch) (dC : Nat → ClassId) (dI : Nat → Nat → Nat) (cI cB cS cT : ClassId) (N : Nat) (a_sc : Nat) (a_drf : Nat) (a_drf_s : Nat) (a_pic : Nat) (a_crs : Nat) (a_tbs : Nat) (a_sto : Nat) (a_cnt : Nat) (a_wr : Nat) (a_enc : Nat) (a_dec : Nat) (a_drf_c : Nat) (a_drf_z : Nat) (drf_size : Int32) (drf_s : Nat → Int32) (p0 : Int64) (p1 : Int32) (sz : Nat) (z : Int32 × Int32 × (Nat → Int32)) (hf : f_SC_symbols N p0 p1 drf_size drf_s = some z) : Met l y_m468 ws_m468 rm_SC_symbols (gPre (dC, dI) [.ref a_sc, .long p0, .int p1] (gT cI cB cS cT) (w_SC_symbols cI cB cS cT a_sc a_drf a_drf_s a_pic a_crs a_tbs a_sto a_cnt a_wr a_enc a_dec a_drf_c a_drf_z drf_size drf_s) sz) (gQi (dC, dI) (gT cI cB cS cT) z.1 (w_SC_symbols cI cB cS cT a_sc a_drf a_drf_s a_pic a_crs a_tbs a_sto a_cnt a_wr a_enc a_dec a_drf_c a_drf_z drf_size drf_s) (w_SC_symbols cI cB cS cT a_sc a_drf a_drf_s a_pic a_crs a_tbs a_sto a_cnt a_wr a_enc a_dec a_drf_c a_drf_z z.2.1 z.2.2) sz) 0 0 (va_A (w_SC_symbols cI cB cS cT a_sc a_drf a_drf_s a_pic a_crs a_tbs a_sto a_cnt a_wr a_enc a_dec a_drf_c a_drf_z drf_size drf_s) sz) := by
  refine Met.ofW (cc := prog_1_method_4_code) (maxL := 4) (ret := (some .boolean)) (by decide) rfl ?_
  intro p e s m args below meth c s₁ B hml hv
  obtain ⟨hargs, hsz, hP, hKN, hD0⟩ := hv
  have hK := hKN.1
  have hx := B.exec
  have hb := B.bytes
  have hr := B.returns
  have hts := atoms_spec (ws := ws_m468) B.pre
  have hown : s.vm.findClass "ScanCoder" = some m.cls := findClass_of_methodNamed B.named
  have hlocks := B.notSynchronized
  have k0 := hts _ (List.mem_cons_of_mem _ tw_421)
  have n0 : ∀ w ∈ u_ws "ScanCoder" T_0 9, w ∈ ws_m468 := fun w h => List.mem_cons_of_mem _ (in_0 w h)
  subst hsz
  have hD := hD0.self (sz := s.heap.size)
  obtain ⟨A, hAe⟩ : ∃ A : Nat → Prop, va_A (w_SC_symbols cI cB cS cT a_sc a_drf a_drf_s a_pic a_crs a_tbs a_sto a_cnt a_wr a_enc a_dec a_drf_c a_drf_z drf_size drf_s) s.heap.size = A := ⟨_, rfl⟩
  rw [hAe] at hD
  have hA : ∀ q : Nat, s.heap.size ≤ q → A q := fun q h => by rw [← hAe]; exact Or.inr h
  have hS : va_S A s.heap s.heap [] := va_S.rf
  have hl := lv_entry ([.ref a_sc, .long p0, .int p1]) (n := 4) (Nat.le_of_ble_eq_true rfl)
  have hfr : entryFrame m args 4 = F0 m 0 ((lg_sl ([.ref a_sc, .long p0, .int p1]) ++ List.replicate (4 - (lg_sl ([.ref a_sc, .long p0, .int p1])).length) Slot.unset).toArray) [] := by rw [hargs]; exact lg_entry_eq _ _ _
  rw [hfr]
  generalize (lg_sl ([.ref a_sc, .long p0, .int p1]) ++ List.replicate (4 - (lg_sl ([.ref a_sc, .long p0, .int p1])).length) Slot.unset).toArray = ls at hl ⊢
  have hl : lv_has ls 4 [(0, .ref a_sc), (1, .long p0), (3, .int p1)] := hl
  refine gen_Q (fun Q hQ => ?_)
  clear hfr
  have hgo : ∀ (H : Heap) (locs : List Loc), va_P (dC, dI) vwCl (w_SC_symbols cI cB cS cT a_sc a_drf a_drf_s a_pic a_crs a_tbs a_sto a_cnt a_wr a_enc a_dec a_drf_c a_drf_z drf_size drf_s) H → va_S A s.heap H locs → W p l e (headSpec ws_m468 rm_SC_symbols).room s m args below meth c H locs 0 0 Q (F0 m 0 ls []) := by
    intro H locs hP hS
    unfold f_SC_symbols at hf
    refine lv_aload_n hx hb d_m468_0 rfl (lv_at hl 0 rfl) ?_
    refine va_get (D := (dC, dI)) (ci := 0) (v := .ref a_drf) (C := "ScanCoder") (T := T_0) (N := 9) hx hb hts n0 hown hK hP 0 rfl rfl 2 (by decide) k0 (fun _ h9 => h9) rfl d_m468_1 ?_
    refine lv_lload_n hx hb d_m468_4 rfl (lv_at hl 1 rfl) ?_
    refine lv_iload_n hx hb d_m468_5 rfl (lv_at hl 2 rfl) ?_
    obtain ⟨z1, hz1, hf⟩ := ob_bind hf
    refine g_calli (wc := (w_Draft_append cI cB cS cT a_drf a_drf_s a_drf_c a_drf_z drf_size drf_s)) (w1 := (w_Draft_append cI cB cS cT a_drf a_drf_s a_drf_c a_drf_z z1.2.1 z1.2.2)) (w2 := (w_SC_symbols cI cB cS cT a_sc a_drf a_drf_s a_pic a_crs a_tbs a_sto a_cnt a_wr a_enc a_dec a_drf_c a_drf_z z1.2.1 z1.2.2)) [1, 2] [none, some 0, some 1] hP hD hS hA rfl rfl rfl rfl (va_runV (As := [.long p0, .int p1]) (rest := []) ⟨hx, hb, hml, hown, hts⟩ (c_Draft_append l dC dI cI cB cS cT N a_drf a_drf_s a_drf_c a_drf_z drf_size drf_s p0 p1 H.size z1 hz1) ⟨(callB_of 2 hts (gi tw_472 rfl) rfl rfl rfl (hts _ (List.mem_cons_of_mem _ tw_7)) (hts _ (List.mem_cons_of_mem _ tw_469)) (by decide +kernel) ⟨Nat.le_of_ble_eq_true rfl, Nat.le_of_ble_eq_true rfl⟩), hts _ (List.mem_cons_of_mem _ tw_470), hts _ (List.mem_cons_of_mem _ tw_471)⟩ ⟨g_blind, va_recv hK hP (ci := 6) (q0 := 1) rfl rfl, g_at hKN (g_pm hP [1, 2] rfl) (hD.sub [1, 2] (by decide) rfl)⟩ rfl rfl hl.1 rfl (lv_room (Nat.le_of_ble_eq_true rfl)) d_m468_6 ⟨Nat.zero_le _, Nat.zero_le _⟩) (fun H locs hP hD hS => ?_)
    refine W.eq (g2 := F0 m 9 ls [.int z1.1]) rfl ?_
    obtain ⟨hi, hf⟩ := ob_ok hf
    obtain rfl := Option.some.inj hf
    subst hQ
    subst hAe
    exact W.zret (v := z1.1) hx hb hr (nb_ok hi).1 (fun t ht hW => ⟨⟨z1.1, (), rfl, rfl, by rw [ht]; exact hP, hD⟩, hS.F ht⟩) hS.2.2 d_m468_9
  exact hgo _ _ hP hS

def f_SC_scan (N : Nat) (p0 : Int32) (p1 : Int32) (p2 : Int32) (p3 : Int32) (p4 : Int32) (pic_many : Int32) (pic_unitsAcross : Int32) (pic_unitsDown : Int32) (pic_h : Nat → Int32) (pic_v : Nat → Int32) (pic_ac : Nat → Int32) (pic_dn : Nat → Int32) (pic_oa : Nat → Int32) (pic_od : Nat → Int32) (pic_st : Nat → Int32) (crs_kind : Int32) (crs_first : Int32) (crs_last : Int32) (crs_bits : Int32) (crs_units : Int32) (crs_blocksOfUnit : Int32) (crs_laid : Int32) (crs_ow : Nat → Int32) (crs_pl : Nat → Int32) : Option (Int32 × Int32 × Int32 × Int32 × Int32 × Int32 × Int32 × Int32 × (Nat → Int32) × (Nat → Int32)) :=
  (f_Course_kindOf p1 p2 p3 p4).bind fun z1 =>
  if z1 = (-1 : Int32) then
    some ((0 : Int32), crs_kind, crs_first, crs_last, crs_bits, crs_units, crs_blocksOfUnit, crs_laid, crs_ow, crs_pl)
  else
    (f_Course_allows z1 p0 pic_many).bind fun z2 =>
    if z2 = 0 then
      some ((0 : Int32), crs_kind, crs_first, crs_last, crs_bits, crs_units, crs_blocksOfUnit, crs_laid, crs_ow, crs_pl)
    else
      (f_Course_choose z1 p1 p2 p4).bind fun z3 =>
      (f_Course_lay N p0 pic_many pic_unitsAcross pic_unitsDown pic_h pic_v pic_ac pic_dn pic_oa pic_od pic_st crs_ow crs_pl).bind fun z4 =>
      some ((1 : Int32), z3.1, z3.2.1, z3.2.2.1, z3.2.2.2, z4.1, z4.2.1, z4.2.2.1, z4.2.2.2.1, z4.2.2.2.2)
abbrev w_SC_scan (cI cB cS cT : ClassId) (a_sc : Nat) (a_pic : Nat) (a_pic_h : Nat) (a_pic_v : Nat) (a_pic_ac : Nat) (a_pic_dn : Nat) (a_pic_oa : Nat) (a_pic_od : Nat) (a_pic_st : Nat) (a_crs : Nat) (a_crs_ow : Nat) (a_crs_pl : Nat) (a_drf : Nat) (a_tbs : Nat) (a_sto : Nat) (a_cnt : Nat) (a_wr : Nat) (a_enc : Nat) (a_dec : Nat) (a_pic_co : Nat) (a_crs_dt : Nat) (a_crs_ot : Nat) (pic_many : Int32) (pic_unitsAcross : Int32) (pic_unitsDown : Int32) (pic_blocks : Int32) (pic_h : Nat → Int32) (pic_v : Nat → Int32) (pic_ac : Nat → Int32) (pic_dn : Nat → Int32) (pic_oa : Nat → Int32) (pic_od : Nat → Int32) (pic_st : Nat → Int32) (crs_kind : Int32) (crs_first : Int32) (crs_last : Int32) (crs_bits : Int32) (crs_interval : Int32) (crs_units : Int32) (crs_blocksOfUnit : Int32) (crs_laid : Int32) (crs_ow : Nat → Int32) (crs_pl : Nat → Int32) : va_W := [(a_sc, .inr (0, [.ref a_pic, .ref a_crs, .ref a_drf, .ref a_tbs, .ref a_sto, .ref a_cnt, .ref a_wr, .ref a_enc, .ref a_dec])), (a_pic, .inr (8, [.ref a_pic_h, .ref a_pic_v, .ref a_pic_ac, .ref a_pic_dn, .ref a_pic_oa, .ref a_pic_od, .ref a_pic_st, .int pic_many, .int pic_unitsAcross, .int pic_unitsDown, .int pic_blocks, .ref a_pic_co])), (a_pic_h, .inl (cI, 4, .inl pic_h)), (a_pic_v, .inl (cI, 4, .inl pic_v)), (a_pic_ac, .inl (cI, 4, .inl pic_ac)), (a_pic_dn, .inl (cI, 4, .inl pic_dn)), (a_pic_oa, .inl (cI, 4, .inl pic_oa)), (a_pic_od, .inl (cI, 4, .inl pic_od)), (a_pic_st, .inl (cI, 4, .inl pic_st)), (a_crs, .inr (4, [.ref a_pic, .ref a_crs_ow, .ref a_crs_pl, .ref a_crs_dt, .ref a_crs_ot, .int crs_kind, .int crs_first, .int crs_last, .int crs_bits, .int crs_interval, .int crs_units, .int crs_blocksOfUnit, .int crs_laid])), (a_crs_ow, .inl (cI, 192, .inl crs_ow)), (a_crs_pl, .inl (cI, 192, .inl crs_pl))]
def rm_SC_scan : Room := { frames := 5, cells := 0, slots := 0, locals := 121 }
set_option maxHeartbeats 1000000 in
set_option maxRecDepth 100000 in
theorem c_SC_scan (l : Launch) (dC : Nat → ClassId) (dI : Nat → Nat → Nat) (cI cB cS cT : ClassId) (N : Nat) (a_sc : Nat) (a_pic : Nat) (a_pic_h : Nat) (a_pic_v : Nat) (a_pic_ac : Nat) (a_pic_dn : Nat) (a_pic_oa : Nat) (a_pic_od : Nat) (a_pic_st : Nat) (a_crs : Nat) (a_crs_ow : Nat) (a_crs_pl : Nat) (a_drf : Nat) (a_tbs : Nat) (a_sto : Nat) (a_cnt : Nat) (a_wr : Nat) (a_enc : Nat) (a_dec : Nat) (a_pic_co : Nat) (a_crs_dt : Nat) (a_crs_ot : Nat) (pic_many : Int32) (pic_unitsAcross : Int32) (pic_unitsDown : Int32) (pic_blocks : Int32) (pic_h : Nat → Int32) (pic_v : Nat → Int32) (pic_ac : Nat → Int32) (pic_dn : Nat → Int32) (pic_oa : Nat → Int32) (pic_od : Nat → Int32) (pic_st : Nat → Int32) (crs_kind : Int32) (crs_first : Int32) (crs_last : Int32) (crs_bits : Int32) (crs_interval : Int32) (crs_units : Int32) (crs_blocksOfUnit : Int32) (crs_laid : Int32) (crs_ow : Nat → Int32) (crs_pl : Nat → Int32) (p0 : Int32) (p1 : Int32) (p2 : Int32) (p3 : Int32) (p4 : Int32) (sz : Nat) (z : Int32 × Int32 × Int32 × Int32 × Int32 × Int32 × Int32 × Int32 × (Nat → Int32) × (Nat → Int32)) (hf : f_SC_scan N p0 p1 p2 p3 p4 pic_many pic_unitsAcross pic_unitsDown pic_h pic_v pic_ac pic_dn pic_oa pic_od pic_st crs_kind crs_first crs_last crs_bits crs_units crs_blocksOfUnit crs_laid crs_ow crs_pl = some z) : Met l y_m503 ws_m503 rm_SC_scan (gPre (dC, dI) [.ref a_sc, .int p0, .int p1, .int p2, .int p3, .int p4] (gT cI cB cS cT) (w_SC_scan cI cB cS cT a_sc a_pic a_pic_h a_pic_v a_pic_ac a_pic_dn a_pic_oa a_pic_od a_pic_st a_crs a_crs_ow a_crs_pl a_drf a_tbs a_sto a_cnt a_wr a_enc a_dec a_pic_co a_crs_dt a_crs_ot pic_many pic_unitsAcross pic_unitsDown pic_blocks pic_h pic_v pic_ac pic_dn pic_oa pic_od pic_st crs_kind crs_first crs_last crs_bits crs_interval crs_units crs_blocksOfUnit crs_laid crs_ow crs_pl) sz) (gQi (dC, dI) (gT cI cB cS cT) z.1 (w_SC_scan cI cB cS cT a_sc a_pic a_pic_h a_pic_v a_pic_ac a_pic_dn a_pic_oa a_pic_od a_pic_st a_crs a_crs_ow a_crs_pl a_drf a_tbs a_sto a_cnt a_wr a_enc a_dec a_pic_co a_crs_dt a_crs_ot pic_many pic_unitsAcross pic_unitsDown pic_blocks pic_h pic_v pic_ac pic_dn pic_oa pic_od pic_st crs_kind crs_first crs_last crs_bits crs_interval crs_units crs_blocksOfUnit crs_laid crs_ow crs_pl) (w_SC_scan cI cB cS cT a_sc a_pic a_pic_h a_pic_v a_pic_ac a_pic_dn a_pic_oa a_pic_od a_pic_st a_crs a_crs_ow a_crs_pl a_drf a_tbs a_sto a_cnt a_wr a_enc a_dec a_pic_co a_crs_dt a_crs_ot pic_many pic_unitsAcross pic_unitsDown pic_blocks pic_h pic_v pic_ac pic_dn pic_oa pic_od pic_st z.2.1 z.2.2.1 z.2.2.2.1 z.2.2.2.2.1 crs_interval z.2.2.2.2.2.1 z.2.2.2.2.2.2.1 z.2.2.2.2.2.2.2.1 z.2.2.2.2.2.2.2.2.1 z.2.2.2.2.2.2.2.2.2) sz) 0 0 (va_A (w_SC_scan cI cB cS cT a_sc a_pic a_pic_h a_pic_v a_pic_ac a_pic_dn a_pic_oa a_pic_od a_pic_st a_crs a_crs_ow a_crs_pl a_drf a_tbs a_sto a_cnt a_wr a_enc a_dec a_pic_co a_crs_dt a_crs_ot pic_many pic_unitsAcross pic_unitsDown pic_blocks pic_h pic_v pic_ac pic_dn pic_oa pic_od pic_st crs_kind crs_first crs_last crs_bits crs_interval crs_units crs_blocksOfUnit crs_laid crs_ow crs_pl) sz) := by
  refine Met.ofW (cc := prog_1_method_6_code) (maxL := 7) (ret := (some .boolean)) (by decide) rfl ?_
  intro p e s m args below meth c s₁ B hml hv
  obtain ⟨hargs, hsz, hP, hKN, hD0⟩ := hv
  have hK := hKN.1
  have hx := B.exec
  have hb := B.bytes
  have hr := B.returns
  have hts := atoms_spec (ws := ws_m503) B.pre
  have hown : s.vm.findClass "ScanCoder" = some m.cls := findClass_of_methodNamed B.named
  have hlocks := B.notSynchronized
  have k0 := hts _ (List.mem_cons_of_mem _ tw_420)
  have n0 : ∀ w ∈ u_ws "ScanCoder" T_0 9, w ∈ ws_m503 := fun w h => List.mem_cons_of_mem _ (in_0 w h)
  subst hsz
  have hD := hD0.self (sz := s.heap.size)
  obtain ⟨A, hAe⟩ : ∃ A : Nat → Prop, va_A (w_SC_scan cI cB cS cT a_sc a_pic a_pic_h a_pic_v a_pic_ac a_pic_dn a_pic_oa a_pic_od a_pic_st a_crs a_crs_ow a_crs_pl a_drf a_tbs a_sto a_cnt a_wr a_enc a_dec a_pic_co a_crs_dt a_crs_ot pic_many pic_unitsAcross pic_unitsDown pic_blocks pic_h pic_v pic_ac pic_dn pic_oa pic_od pic_st crs_kind crs_first crs_last crs_bits crs_interval crs_units crs_blocksOfUnit crs_laid crs_ow crs_pl) s.heap.size = A := ⟨_, rfl⟩
  rw [hAe] at hD
  have hA : ∀ q : Nat, s.heap.size ≤ q → A q := fun q h => by rw [← hAe]; exact Or.inr h
  have hS : va_S A s.heap s.heap [] := va_S.rf
  have hl := lv_entry ([.ref a_sc, .int p0, .int p1, .int p2, .int p3, .int p4]) (n := 7) (Nat.le_of_ble_eq_true rfl)
  have hfr : entryFrame m args 7 = F0 m 0 ((lg_sl ([.ref a_sc, .int p0, .int p1, .int p2, .int p3, .int p4]) ++ List.replicate (7 - (lg_sl ([.ref a_sc, .int p0, .int p1, .int p2, .int p3, .int p4])).length) Slot.unset).toArray) [] := by rw [hargs]; exact lg_entry_eq _ _ _
  rw [hfr]
  generalize (lg_sl ([.ref a_sc, .int p0, .int p1, .int p2, .int p3, .int p4]) ++ List.replicate (7 - (lg_sl ([.ref a_sc, .int p0, .int p1, .int p2, .int p3, .int p4])).length) Slot.unset).toArray = ls at hl ⊢
  have hl : lv_has ls 7 [(0, .ref a_sc), (1, .int p0), (2, .int p1), (3, .int p2), (4, .int p3), (5, .int p4)] := hl
  refine gen_Q (fun Q hQ => ?_)
  clear hfr
  have hgo : ∀ (H : Heap) (locs : List Loc), va_P (dC, dI) vwCl (w_SC_scan cI cB cS cT a_sc a_pic a_pic_h a_pic_v a_pic_ac a_pic_dn a_pic_oa a_pic_od a_pic_st a_crs a_crs_ow a_crs_pl a_drf a_tbs a_sto a_cnt a_wr a_enc a_dec a_pic_co a_crs_dt a_crs_ot pic_many pic_unitsAcross pic_unitsDown pic_blocks pic_h pic_v pic_ac pic_dn pic_oa pic_od pic_st crs_kind crs_first crs_last crs_bits crs_interval crs_units crs_blocksOfUnit crs_laid crs_ow crs_pl) H → va_S A s.heap H locs → W p l e (headSpec ws_m503 rm_SC_scan).room s m args below meth c H locs 0 0 Q (F0 m 0 ls []) := by
    intro H locs hP hS
    unfold f_SC_scan at hf
    refine lv_iload_n hx hb d_m503_0 rfl (lv_at hl 2 rfl) ?_
    refine lv_iload_n hx hb d_m503_1 rfl (lv_at hl 3 rfl) ?_
    refine lv_iload hx hb d_m503_2 (lv_at hl 4 rfl) ?_
    refine lv_iload hx hb d_m503_4 (lv_at hl 5 rfl) ?_
    obtain ⟨z1, hz1, hf⟩ := ob_bind hf
    refine vp_callSi (g_run (va_runS (As := [.int p1, .int p2, .int p3, .int p4]) (rest := []) ⟨hx, hb, hml, hown, hts⟩ (c_Course_kindOf l dC dI cI cB cS cT p1 p2 p3 p4 z1 hz1) ⟨(callB_of 4 hts (gi tw_506 rfl) rfl rfl rfl (hts _ (List.mem_cons_of_mem _ tw_5)) (hts _ (List.mem_cons_of_mem _ tw_504)) (by decide +kernel) ⟨Nat.le_of_ble_eq_true rfl, Nat.le_of_ble_eq_true rfl⟩), hts _ (List.mem_cons_of_mem _ tw_505)⟩ ⟨gp_blind, gp_at hKN (g_pm hP [] rfl)⟩ rfl rfl hl.1 rfl (lv_room (Nat.le_of_ble_eq_true rfl)) d_m503_6 ⟨Nat.zero_le _, Nat.zero_le _⟩)) (fun r hrz1 => ?_)
    have hrz1 := hrz1.symm
    subst hrz1
    refine W.eq (g2 := F0 m 9 ls [.int z1]) rfl ?_
    refine lv_istore (lv' := [(6, .int z1), (0, .ref a_sc), (1, .int p0), (2, .int p1), (3, .int p2), (4, .int p3), (5, .int p4)]) hx hb d_m503_9 hl (by decide) rfl (fun ls hl => ?_)
    refine lv_iload hx hb d_m503_11 (lv_at hl 0 rfl) ?_
    refine lv_iconst (v := (-1 : Int32)) hx hb d_m503_13 (by decide) ?_
    refine lv_icmp_eq (tgt := 30) hx hb d_m503_14 (by decide) (fun hc => ?_) (fun hc => ?_)
    · replace hf := (if_pos hc).symm.trans hf
      refine lv_iconst (v := (0 : Int32)) hx hb d_m503_30 (by decide) ?_
      obtain rfl := Option.some.inj hf
      subst hQ
      subst hAe
      exact W.zret (v := (0 : Int32)) hx hb hr (by decide) (fun t ht hW => ⟨⟨(0 : Int32), (), rfl, rfl, by rw [ht]; exact hP, hD⟩, hS.F ht⟩) hS.2.2 d_m503_31
    · replace hf := (if_neg hc).symm.trans hf
      refine lv_aload_n hx hb d_m503_17 rfl (lv_at hl 1 rfl) ?_
      refine va_get (D := (dC, dI)) (ci := 0) (v := .ref a_crs) (C := "ScanCoder") (T := T_0) (N := 9) hx hb hts n0 hown hK hP 0 rfl rfl 1 (by decide) k0 (fun _ h9 => h9) rfl d_m503_18 ?_
      refine lv_iload hx hb d_m503_21 (lv_at hl 0 rfl) ?_
      refine lv_iload_n hx hb d_m503_23 rfl (lv_at hl 2 rfl) ?_
      obtain ⟨z2, hz2, hf⟩ := ob_bind hf
      refine vp_callSi (g_run (va_runV (As := [.int z1, .int p0]) (rest := []) ⟨hx, hb, hml, hown, hts⟩ (c_Course_allows l dC dI cI cB cS cT a_pic a_crs a_pic_h a_pic_v a_pic_ac a_pic_dn a_pic_oa a_pic_od a_pic_st a_pic_co a_crs_ow a_crs_pl a_crs_dt a_crs_ot pic_many pic_unitsAcross pic_unitsDown pic_blocks crs_kind crs_first crs_last crs_bits crs_interval crs_units crs_blocksOfUnit crs_laid z1 p0 z2 hz2) ⟨(callB_of 2 hts (gi tw_510 rfl) rfl rfl rfl (hts _ (List.mem_cons_of_mem _ tw_5)) (hts _ (List.mem_cons_of_mem _ tw_507)) (by decide +kernel) ⟨Nat.le_of_ble_eq_true rfl, Nat.le_of_ble_eq_true rfl⟩), hts _ (List.mem_cons_of_mem _ tw_508), hts _ (List.mem_cons_of_mem _ tw_509)⟩ ⟨gp_blind, va_recv hK hP (ci := 4) (q0 := 9) rfl rfl, gp_at hKN (g_pm hP [1, 9] rfl)⟩ rfl rfl hl.1 rfl (lv_room (Nat.le_of_ble_eq_true rfl)) d_m503_24 ⟨Nat.zero_le _, Nat.zero_le _⟩)) (fun r hrz2 => ?_)
      have hrz2 := hrz2.symm
      subst hrz2
      refine W.eq (g2 := F0 m 27 ls [.int z2]) rfl ?_
      refine lv_if_ne (tgt := 32) hx hb d_m503_27 (by decide) (fun hc => ?_) (fun hc => ?_)
      · replace hf := (if_neg hc).symm.trans hf
        refine lv_aload_n hx hb d_m503_32 rfl (lv_at hl 1 rfl) ?_
        refine va_get (D := (dC, dI)) (ci := 0) (v := .ref a_crs) (C := "ScanCoder") (T := T_0) (N := 9) hx hb hts n0 hown hK hP 0 rfl rfl 1 (by decide) k0 (fun _ h9 => h9) rfl d_m503_33 ?_
        refine lv_iload hx hb d_m503_36 (lv_at hl 0 rfl) ?_
        refine lv_iload_n hx hb d_m503_38 rfl (lv_at hl 3 rfl) ?_
        refine lv_iload_n hx hb d_m503_39 rfl (lv_at hl 4 rfl) ?_
        refine lv_iload hx hb d_m503_40 (lv_at hl 6 rfl) ?_
        obtain ⟨z3, hz3, hf⟩ := ob_bind hf
        refine g_callv (wc := (w_Course_choose cI cB cS cT a_crs a_pic a_crs_ow a_crs_pl a_crs_dt a_crs_ot crs_kind crs_first crs_last crs_bits crs_interval crs_units crs_blocksOfUnit crs_laid)) (w1 := (w_Course_choose cI cB cS cT a_crs a_pic a_crs_ow a_crs_pl a_crs_dt a_crs_ot z3.1 z3.2.1 z3.2.2.1 z3.2.2.2 crs_interval crs_units crs_blocksOfUnit crs_laid)) (w2 := (w_SC_scan cI cB cS cT a_sc a_pic a_pic_h a_pic_v a_pic_ac a_pic_dn a_pic_oa a_pic_od a_pic_st a_crs a_crs_ow a_crs_pl a_drf a_tbs a_sto a_cnt a_wr a_enc a_dec a_pic_co a_crs_dt a_crs_ot pic_many pic_unitsAcross pic_unitsDown pic_blocks pic_h pic_v pic_ac pic_dn pic_oa pic_od pic_st z3.1 z3.2.1 z3.2.2.1 z3.2.2.2 crs_interval crs_units crs_blocksOfUnit crs_laid crs_ow crs_pl)) [9] [none, none, none, none, none, none, none, none, none, some 0, none, none] hP hD hS hA rfl rfl rfl rfl (va_runV (As := [.int z1, .int p1, .int p2, .int p4]) (rest := []) ⟨hx, hb, hml, hown, hts⟩ (c_Course_choose l dC dI cI cB cS cT a_crs a_pic a_crs_ow a_crs_pl a_crs_dt a_crs_ot crs_kind crs_first crs_last crs_bits crs_interval crs_units crs_blocksOfUnit crs_laid z1 p1 p2 p4 H.size z3 hz3) ⟨(callB_of 4 hts (gi tw_126 rfl) rfl rfl rfl (hts _ (List.mem_cons_of_mem _ tw_5)) (hts _ (List.mem_cons_of_mem _ tw_511)) (by decide +kernel) ⟨Nat.le_of_ble_eq_true rfl, Nat.le_of_ble_eq_true rfl⟩), hts _ (List.mem_cons_of_mem _ tw_124), hts _ (List.mem_cons_of_mem _ tw_125)⟩ ⟨g_blind, va_recv hK hP (ci := 4) (q0 := 9) rfl rfl, g_at hKN (g_pm hP [9] rfl) (hD.sub [9] (by decide) rfl)⟩ rfl rfl hl.1 rfl (lv_room (Nat.le_of_ble_eq_true rfl)) d_m503_42 ⟨Nat.zero_le _, Nat.zero_le _⟩) (fun H locs hP hD hS => ?_)
        refine W.eq (g2 := F0 m 45 ls []) rfl ?_
        refine lv_aload_n hx hb d_m503_45 rfl (lv_at hl 1 rfl) ?_
        refine va_get (D := (dC, dI)) (ci := 0) (v := .ref a_crs) (C := "ScanCoder") (T := T_0) (N := 9) hx hb hts n0 hown hK hP 0 rfl rfl 1 (by decide) k0 (fun _ h9 => h9) rfl d_m503_46 ?_
        refine lv_iload_n hx hb d_m503_49 rfl (lv_at hl 2 rfl) ?_
        obtain ⟨z4, hz4, hf⟩ := ob_bind hf
        refine g_callv (wc := (w_Course_lay cI cB cS cT a_pic a_pic_h a_pic_v a_pic_ac a_pic_dn a_pic_oa a_pic_od a_pic_st a_crs a_crs_ow a_crs_pl a_pic_co a_crs_dt a_crs_ot pic_many pic_unitsAcross pic_unitsDown pic_blocks pic_h pic_v pic_ac pic_dn pic_oa pic_od pic_st z3.1 z3.2.1 z3.2.2.1 z3.2.2.2 crs_interval crs_units crs_blocksOfUnit crs_laid crs_ow crs_pl)) (w1 := (w_Course_lay cI cB cS cT a_pic a_pic_h a_pic_v a_pic_ac a_pic_dn a_pic_oa a_pic_od a_pic_st a_crs a_crs_ow a_crs_pl a_pic_co a_crs_dt a_crs_ot pic_many pic_unitsAcross pic_unitsDown pic_blocks pic_h pic_v pic_ac pic_dn pic_oa pic_od pic_st z3.1 z3.2.1 z3.2.2.1 z3.2.2.2 crs_interval z4.1 z4.2.1 z4.2.2.1 z4.2.2.2.1 z4.2.2.2.2)) (w2 := (w_SC_scan cI cB cS cT a_sc a_pic a_pic_h a_pic_v a_pic_ac a_pic_dn a_pic_oa a_pic_od a_pic_st a_crs a_crs_ow a_crs_pl a_drf a_tbs a_sto a_cnt a_wr a_enc a_dec a_pic_co a_crs_dt a_crs_ot pic_many pic_unitsAcross pic_unitsDown pic_blocks pic_h pic_v pic_ac pic_dn pic_oa pic_od pic_st z3.1 z3.2.1 z3.2.2.1 z3.2.2.2 crs_interval z4.1 z4.2.1 z4.2.2.1 z4.2.2.2.1 z4.2.2.2.2)) [1, 2, 3, 4, 5, 6, 7, 8, 9, 10, 11] [none, some 0, some 1, some 2, some 3, some 4, some 5, some 6, some 7, some 8, some 9, some 10] hP hD hS hA rfl rfl rfl rfl (va_runV (As := [.int p0]) (rest := []) ⟨hx, hb, hml, hown, hts⟩ (c_Course_lay l dC dI cI cB cS cT N a_pic a_pic_h a_pic_v a_pic_ac a_pic_dn a_pic_oa a_pic_od a_pic_st a_crs a_crs_ow a_crs_pl a_pic_co a_crs_dt a_crs_ot pic_many pic_unitsAcross pic_unitsDown pic_blocks pic_h pic_v pic_ac pic_dn pic_oa pic_od pic_st z3.1 z3.2.1 z3.2.2.1 z3.2.2.2 crs_interval crs_units crs_blocksOfUnit crs_laid crs_ow crs_pl p0 H.size z4 hz4) ⟨(callB_of 1 hts (gi tw_130 rfl) rfl rfl rfl (hts _ (List.mem_cons_of_mem _ tw_5)) (hts _ (List.mem_cons_of_mem _ tw_512)) (by decide +kernel) ⟨Nat.le_of_ble_eq_true rfl, Nat.le_of_ble_eq_true rfl⟩), hts _ (List.mem_cons_of_mem _ tw_128), hts _ (List.mem_cons_of_mem _ tw_129)⟩ ⟨g_blind, va_recv hK hP (ci := 4) (q0 := 9) rfl rfl, g_at hKN (g_pm hP [1, 2, 3, 4, 5, 6, 7, 8, 9, 10, 11] rfl) (hD.sub [1, 2, 3, 4, 5, 6, 7, 8, 9, 10, 11] (by decide) rfl)⟩ rfl rfl hl.1 rfl (lv_room (Nat.le_of_ble_eq_true rfl)) d_m503_50 ⟨Nat.zero_le _, Nat.zero_le _⟩) (fun H locs hP hD hS => ?_)
        refine W.eq (g2 := F0 m 53 ls []) rfl ?_
        refine lv_iconst (v := (1 : Int32)) hx hb d_m503_53 (by decide) ?_
        obtain rfl := Option.some.inj hf
        subst hQ
        subst hAe
        exact W.zret (v := (1 : Int32)) hx hb hr (by decide) (fun t ht hW => ⟨⟨(1 : Int32), (), rfl, rfl, by rw [ht]; exact hP, hD⟩, hS.F ht⟩) hS.2.2 d_m503_54
      · replace hf := (if_pos hc).symm.trans hf
        refine lv_iconst (v := (0 : Int32)) hx hb d_m503_30 (by decide) ?_
        obtain rfl := Option.some.inj hf
        subst hQ
        subst hAe
        exact W.zret (v := (0 : Int32)) hx hb hr (by decide) (fun t ht hW => ⟨⟨(0 : Int32), (), rfl, rfl, by rw [ht]; exact hP, hD⟩, hS.F ht⟩) hS.2.2 d_m503_31
  exact hgo _ _ hP hS

def f_SC_tables (p0 : Int32) (p1 : Int32) (p2 : Int32) (pic_many : Int32) (crs_dt : Nat → Int32) (crs_ot : Nat → Int32) : Option (Int32 × (Nat → Int32) × (Nat → Int32)) :=
  if p0 < 0 then
    some ((0 : Int32), crs_dt, crs_ot)
  else
    if pic_many ≤ p0 then
      some ((0 : Int32), crs_dt, crs_ot)
    else
      if p1 < 0 then
        some ((0 : Int32), crs_dt, crs_ot)
      else
        if (4 : Int32) ≤ p1 then
          some ((0 : Int32), crs_dt, crs_ot)
        else
          if p2 < (4 : Int32) then
            some ((0 : Int32), crs_dt, crs_ot)
          else
            if p2 < (8 : Int32) then
              if p0 < 0 ∨ 4 ≤ p0.toNatClampNeg then none else
              if p0 < 0 ∨ 4 ≤ p0.toNatClampNeg then none else
              some ((1 : Int32), upd crs_dt p0.toNatClampNeg p1, upd crs_ot p0.toNatClampNeg p2)
            else
              some ((0 : Int32), crs_dt, crs_ot)
abbrev w_SC_tables (cI cB cS cT : ClassId) (a_sc : Nat) (a_pic : Nat) (a_crs : Nat) (a_crs_dt : Nat) (a_crs_ot : Nat) (a_drf : Nat) (a_tbs : Nat) (a_sto : Nat) (a_cnt : Nat) (a_wr : Nat) (a_enc : Nat) (a_dec : Nat) (a_pic_h : Nat) (a_pic_v : Nat) (a_pic_ac : Nat) (a_pic_dn : Nat) (a_pic_oa : Nat) (a_pic_od : Nat) (a_pic_st : Nat) (a_pic_co : Nat) (a_crs_ow : Nat) (a_crs_pl : Nat) (pic_many : Int32) (pic_unitsAcross : Int32) (pic_unitsDown : Int32) (pic_blocks : Int32) (crs_kind : Int32) (crs_first : Int32) (crs_last : Int32) (crs_bits : Int32) (crs_interval : Int32) (crs_units : Int32) (crs_blocksOfUnit : Int32) (crs_laid : Int32) (crs_dt : Nat → Int32) (crs_ot : Nat → Int32) : va_W := [(a_sc, .inr (0, [.ref a_pic, .ref a_crs, .ref a_drf, .ref a_tbs, .ref a_sto, .ref a_cnt, .ref a_wr, .ref a_enc, .ref a_dec])), (a_pic, .inr (8, [.ref a_pic_h, .ref a_pic_v, .ref a_pic_ac, .ref a_pic_dn, .ref a_pic_oa, .ref a_pic_od, .ref a_pic_st, .int pic_many, .int pic_unitsAcross, .int pic_unitsDown, .int pic_blocks, .ref a_pic_co])), (a_crs, .inr (4, [.ref a_pic, .ref a_crs_ow, .ref a_crs_pl, .ref a_crs_dt, .ref a_crs_ot, .int crs_kind, .int crs_first, .int crs_last, .int crs_bits, .int crs_interval, .int crs_units, .int crs_blocksOfUnit, .int crs_laid])), (a_crs_dt, .inl (cI, 4, .inl crs_dt)), (a_crs_ot, .inl (cI, 4, .inl crs_ot))]
def rm_SC_tables : Room := { frames := 0, cells := 0, slots := 0, locals := 0 }
set_option maxHeartbeats 1000000 in
set_option maxRecDepth 100000 in
theorem c_SC_tables (l : Launch) (dC : Nat → ClassId) (dI : Nat → Nat → Nat) (cI cB cS cT : ClassId) (a_sc : Nat) (a_pic : Nat) (a_crs : Nat) (a_crs_dt : Nat) (a_crs_ot : Nat) (a_drf : Nat) (a_tbs : Nat) (a_sto : Nat) (a_cnt : Nat) (a_wr : Nat) (a_enc : Nat) (a_dec : Nat) (a_pic_h : Nat) (a_pic_v : Nat) (a_pic_ac : Nat) (a_pic_dn : Nat) (a_pic_oa : Nat) (a_pic_od : Nat) (a_pic_st : Nat) (a_pic_co : Nat) (a_crs_ow : Nat) (a_crs_pl : Nat) (pic_many : Int32) (pic_unitsAcross : Int32) (pic_unitsDown : Int32) (pic_blocks : Int32) (crs_kind : Int32) (crs_first : Int32) (crs_last : Int32) (crs_bits : Int32) (crs_interval : Int32) (crs_units : Int32) (crs_blocksOfUnit : Int32) (crs_laid : Int32) (crs_dt : Nat → Int32) (crs_ot : Nat → Int32) (p0 : Int32) (p1 : Int32) (p2 : Int32) (sz : Nat) (z : Int32 × (Nat → Int32) × (Nat → Int32)) (hf : f_SC_tables p0 p1 p2 pic_many crs_dt crs_ot = some z) : Met l y_m516 ws_m516 rm_SC_tables (gPre (dC, dI) [.ref a_sc, .int p0, .int p1, .int p2] (gT cI cB cS cT) (w_SC_tables cI cB cS cT a_sc a_pic a_crs a_crs_dt a_crs_ot a_drf a_tbs a_sto a_cnt a_wr a_enc a_dec a_pic_h a_pic_v a_pic_ac a_pic_dn a_pic_oa a_pic_od a_pic_st a_pic_co a_crs_ow a_crs_pl pic_many pic_unitsAcross pic_unitsDown pic_blocks crs_kind crs_first crs_last crs_bits crs_interval crs_units crs_blocksOfUnit crs_laid crs_dt crs_ot) sz) (gQi (dC, dI) (gT cI cB cS cT) z.1 (w_SC_tables cI cB cS cT a_sc a_pic a_crs a_crs_dt a_crs_ot a_drf a_tbs a_sto a_cnt a_wr a_enc a_dec a_pic_h a_pic_v a_pic_ac a_pic_dn a_pic_oa a_pic_od a_pic_st a_pic_co a_crs_ow a_crs_pl pic_many pic_unitsAcross pic_unitsDown pic_blocks crs_kind crs_first crs_last crs_bits crs_interval crs_units crs_blocksOfUnit crs_laid crs_dt crs_ot) (w_SC_tables cI cB cS cT a_sc a_pic a_crs a_crs_dt a_crs_ot a_drf a_tbs a_sto a_cnt a_wr a_enc a_dec a_pic_h a_pic_v a_pic_ac a_pic_dn a_pic_oa a_pic_od a_pic_st a_pic_co a_crs_ow a_crs_pl pic_many pic_unitsAcross pic_unitsDown pic_blocks crs_kind crs_first crs_last crs_bits crs_interval crs_units crs_blocksOfUnit crs_laid z.2.1 z.2.2) sz) 0 0 (va_A (w_SC_tables cI cB cS cT a_sc a_pic a_crs a_crs_dt a_crs_ot a_drf a_tbs a_sto a_cnt a_wr a_enc a_dec a_pic_h a_pic_v a_pic_ac a_pic_dn a_pic_oa a_pic_od a_pic_st a_pic_co a_crs_ow a_crs_pl pic_many pic_unitsAcross pic_unitsDown pic_blocks crs_kind crs_first crs_last crs_bits crs_interval crs_units crs_blocksOfUnit crs_laid crs_dt crs_ot) sz) := by
  refine Met.ofW (cc := prog_1_method_7_code) (maxL := 4) (ret := (some .boolean)) (by decide) rfl ?_
  intro p e s m args below meth c s₁ B hml hv
  obtain ⟨hargs, hsz, hP, hKN, hD0⟩ := hv
  have hK := hKN.1
  have hx := B.exec
  have hb := B.bytes
  have hr := B.returns
  have hts := atoms_spec (ws := ws_m516) B.pre
  have hown : s.vm.findClass "ScanCoder" = some m.cls := findClass_of_methodNamed B.named
  have hlocks := B.notSynchronized
  have k0 := hts _ (List.mem_cons_of_mem _ tw_419)
  have k1 := hts _ (List.mem_cons_of_mem _ tw_71)
  have k2 := hts _ (List.mem_cons_of_mem _ tw_420)
  have k3 := hts _ (List.mem_cons_of_mem _ tw_167)
  have k4 := hts _ (List.mem_cons_of_mem _ tw_171)
  have n0 : ∀ w ∈ u_ws "ScanCoder" T_0 9, w ∈ ws_m516 := fun w h => List.mem_cons_of_mem _ (in_0 w h)
  have n1 : ∀ w ∈ u_ws "ScanCoder$Picture" T_8 12, w ∈ ws_m516 := fun w h => List.mem_cons_of_mem _ (in_8 w h)
  have n2 : ∀ w ∈ u_ws "ScanCoder$Course" T_4 13, w ∈ ws_m516 := fun w h => List.mem_cons_of_mem _ (in_4 w h)
  subst hsz
  have hD := hD0.self (sz := s.heap.size)
  obtain ⟨A, hAe⟩ : ∃ A : Nat → Prop, va_A (w_SC_tables cI cB cS cT a_sc a_pic a_crs a_crs_dt a_crs_ot a_drf a_tbs a_sto a_cnt a_wr a_enc a_dec a_pic_h a_pic_v a_pic_ac a_pic_dn a_pic_oa a_pic_od a_pic_st a_pic_co a_crs_ow a_crs_pl pic_many pic_unitsAcross pic_unitsDown pic_blocks crs_kind crs_first crs_last crs_bits crs_interval crs_units crs_blocksOfUnit crs_laid crs_dt crs_ot) s.heap.size = A := ⟨_, rfl⟩
  rw [hAe] at hD
  have hA : ∀ q : Nat, s.heap.size ≤ q → A q := fun q h => by rw [← hAe]; exact Or.inr h
  have hS : va_S A s.heap s.heap [] := va_S.rf
  have hl := lv_entry ([.ref a_sc, .int p0, .int p1, .int p2]) (n := 4) (Nat.le_of_ble_eq_true rfl)
  have hfr : entryFrame m args 4 = F0 m 0 ((lg_sl ([.ref a_sc, .int p0, .int p1, .int p2]) ++ List.replicate (4 - (lg_sl ([.ref a_sc, .int p0, .int p1, .int p2])).length) Slot.unset).toArray) [] := by rw [hargs]; exact lg_entry_eq _ _ _
  rw [hfr]
  generalize (lg_sl ([.ref a_sc, .int p0, .int p1, .int p2]) ++ List.replicate (4 - (lg_sl ([.ref a_sc, .int p0, .int p1, .int p2])).length) Slot.unset).toArray = ls at hl ⊢
  have hl : lv_has ls 4 [(0, .ref a_sc), (1, .int p0), (2, .int p1), (3, .int p2)] := hl
  refine gen_Q (fun Q hQ => ?_)
  clear hfr
  have hgo : ∀ (H : Heap) (locs : List Loc), va_P (dC, dI) vwCl (w_SC_tables cI cB cS cT a_sc a_pic a_crs a_crs_dt a_crs_ot a_drf a_tbs a_sto a_cnt a_wr a_enc a_dec a_pic_h a_pic_v a_pic_ac a_pic_dn a_pic_oa a_pic_od a_pic_st a_pic_co a_crs_ow a_crs_pl pic_many pic_unitsAcross pic_unitsDown pic_blocks crs_kind crs_first crs_last crs_bits crs_interval crs_units crs_blocksOfUnit crs_laid crs_dt crs_ot) H → va_S A s.heap H locs → W p l e (headSpec ws_m516 rm_SC_tables).room s m args below meth c H locs 0 0 Q (F0 m 0 ls []) := by
    intro H locs hP hS
    unfold f_SC_tables at hf
    refine lv_iload_n hx hb d_m516_0 rfl (lv_at hl 1 rfl) ?_
    refine lv_if_lt (tgt := 35) hx hb d_m516_1 (by decide) (fun hc => ?_) (fun hc => ?_)
    · replace hf := (if_pos hc).symm.trans hf
      refine lv_iconst (v := (0 : Int32)) hx hb d_m516_35 (by decide) ?_
      obtain rfl := Option.some.inj hf
      subst hQ
      subst hAe
      exact W.zret (v := (0 : Int32)) hx hb hr (by decide) (fun t ht hW => ⟨⟨(0 : Int32), (), rfl, rfl, by rw [ht]; exact hP, hD⟩, hS.F ht⟩) hS.2.2 d_m516_36
    · replace hf := (if_neg hc).symm.trans hf
      refine lv_iload_n hx hb d_m516_4 rfl (lv_at hl 1 rfl) ?_
      refine lv_aload_n hx hb d_m516_5 rfl (lv_at hl 0 rfl) ?_
      refine va_get (D := (dC, dI)) (ci := 0) (v := .ref a_pic) (C := "ScanCoder") (T := T_0) (N := 9) hx hb hts n0 hown hK hP 0 rfl rfl 0 (by decide) k0 (fun _ h9 => h9) rfl d_m516_6 ?_
      refine va_get (D := (dC, dI)) (ci := 8) (v := .int pic_many) (C := "ScanCoder$Picture") (T := T_8) (N := 12) hx hb hts n1 hown hK hP 1 rfl rfl 7 (by decide) k1 (fun _ h9 => h9) rfl d_m516_9 ?_
      refine lv_icmp_ge (tgt := 35) hx hb d_m516_12 (by decide) (fun hc => ?_) (fun hc => ?_)
      · replace hf := (if_pos hc).symm.trans hf
        refine lv_iconst (v := (0 : Int32)) hx hb d_m516_35 (by decide) ?_
        obtain rfl := Option.some.inj hf
        subst hQ
        subst hAe
        exact W.zret (v := (0 : Int32)) hx hb hr (by decide) (fun t ht hW => ⟨⟨(0 : Int32), (), rfl, rfl, by rw [ht]; exact hP, hD⟩, hS.F ht⟩) hS.2.2 d_m516_36
      · replace hf := (if_neg hc).symm.trans hf
        refine lv_iload_n hx hb d_m516_15 rfl (lv_at hl 2 rfl) ?_
        refine lv_if_lt (tgt := 35) hx hb d_m516_16 (by decide) (fun hc => ?_) (fun hc => ?_)
        · replace hf := (if_pos hc).symm.trans hf
          refine lv_iconst (v := (0 : Int32)) hx hb d_m516_35 (by decide) ?_
          obtain rfl := Option.some.inj hf
          subst hQ
          subst hAe
          exact W.zret (v := (0 : Int32)) hx hb hr (by decide) (fun t ht hW => ⟨⟨(0 : Int32), (), rfl, rfl, by rw [ht]; exact hP, hD⟩, hS.F ht⟩) hS.2.2 d_m516_36
        · replace hf := (if_neg hc).symm.trans hf
          refine lv_iload_n hx hb d_m516_19 rfl (lv_at hl 2 rfl) ?_
          refine lv_iconst (v := (4 : Int32)) hx hb d_m516_20 (by decide) ?_
          refine lv_icmp_ge (tgt := 35) hx hb d_m516_21 (by decide) (fun hc => ?_) (fun hc => ?_)
          · replace hf := (if_pos hc).symm.trans hf
            refine lv_iconst (v := (0 : Int32)) hx hb d_m516_35 (by decide) ?_
            obtain rfl := Option.some.inj hf
            subst hQ
            subst hAe
            exact W.zret (v := (0 : Int32)) hx hb hr (by decide) (fun t ht hW => ⟨⟨(0 : Int32), (), rfl, rfl, by rw [ht]; exact hP, hD⟩, hS.F ht⟩) hS.2.2 d_m516_36
          · replace hf := (if_neg hc).symm.trans hf
            refine lv_iload_n hx hb d_m516_24 rfl (lv_at hl 3 rfl) ?_
            refine lv_iconst (v := (4 : Int32)) hx hb d_m516_25 (by decide) ?_
            refine lv_icmp_lt (tgt := 35) hx hb d_m516_26 (by decide) (fun hc => ?_) (fun hc => ?_)
            · replace hf := (if_pos hc).symm.trans hf
              refine lv_iconst (v := (0 : Int32)) hx hb d_m516_35 (by decide) ?_
              obtain rfl := Option.some.inj hf
              subst hQ
              subst hAe
              exact W.zret (v := (0 : Int32)) hx hb hr (by decide) (fun t ht hW => ⟨⟨(0 : Int32), (), rfl, rfl, by rw [ht]; exact hP, hD⟩, hS.F ht⟩) hS.2.2 d_m516_36
            · replace hf := (if_neg hc).symm.trans hf
              refine lv_iload_n hx hb d_m516_29 rfl (lv_at hl 3 rfl) ?_
              refine lv_bipush (v := (8 : Int32)) hx hb d_m516_30 (by decide) ?_
              refine lv_icmp_lt (tgt := 37) hx hb d_m516_32 (by decide) (fun hc => ?_) (fun hc => ?_)
              · replace hf := (if_pos hc).symm.trans hf
                refine lv_aload_n hx hb d_m516_37 rfl (lv_at hl 0 rfl) ?_
                refine va_get (D := (dC, dI)) (ci := 0) (v := .ref a_crs) (C := "ScanCoder") (T := T_0) (N := 9) hx hb hts n0 hown hK hP 0 rfl rfl 1 (by decide) k2 (fun _ h9 => h9) rfl d_m516_38 ?_
                refine va_get (D := (dC, dI)) (ci := 4) (v := .ref a_crs_dt) (C := "ScanCoder$Course") (T := T_4) (N := 13) hx hb hts n2 hown hK hP 2 rfl rfl 3 (by decide) k3 (fun _ h9 => h9) rfl d_m516_41 ?_
                refine lv_iload_n hx hb d_m516_44 rfl (lv_at hl 1 rfl) ?_
                refine lv_iload_n hx hb d_m516_45 rfl (lv_at hl 2 rfl) ?_
                obtain ⟨hi, hf⟩ := ob_if hf
                refine va_iast hx hb hK hP hD hS 3 0 rfl rfl hi d_m516_46 (fun H locs hP hD hS => ?_)
                have hP : va_P (dC, dI) vwCl (w_SC_tables cI cB cS cT a_sc a_pic a_crs a_crs_dt a_crs_ot a_drf a_tbs a_sto a_cnt a_wr a_enc a_dec a_pic_h a_pic_v a_pic_ac a_pic_dn a_pic_oa a_pic_od a_pic_st a_pic_co a_crs_ow a_crs_pl pic_many pic_unitsAcross pic_unitsDown pic_blocks crs_kind crs_first crs_last crs_bits crs_interval crs_units crs_blocksOfUnit crs_laid (upd crs_dt p0.toNatClampNeg p1) crs_ot) H := hP
                have hD : va_D A (w_SC_tables cI cB cS cT a_sc a_pic a_crs a_crs_dt a_crs_ot a_drf a_tbs a_sto a_cnt a_wr a_enc a_dec a_pic_h a_pic_v a_pic_ac a_pic_dn a_pic_oa a_pic_od a_pic_st a_pic_co a_crs_ow a_crs_pl pic_many pic_unitsAcross pic_unitsDown pic_blocks crs_kind crs_first crs_last crs_bits crs_interval crs_units crs_blocksOfUnit crs_laid (upd crs_dt p0.toNatClampNeg p1) crs_ot) := hD
                refine lv_aload_n hx hb d_m516_47 rfl (lv_at hl 0 rfl) ?_
                refine va_get (D := (dC, dI)) (ci := 0) (v := .ref a_crs) (C := "ScanCoder") (T := T_0) (N := 9) hx hb hts n0 hown hK hP 0 rfl rfl 1 (by decide) k2 (fun _ h9 => h9) rfl d_m516_48 ?_
                refine va_get (D := (dC, dI)) (ci := 4) (v := .ref a_crs_ot) (C := "ScanCoder$Course") (T := T_4) (N := 13) hx hb hts n2 hown hK hP 2 rfl rfl 4 (by decide) k4 (fun _ h9 => h9) rfl d_m516_51 ?_
                refine lv_iload_n hx hb d_m516_54 rfl (lv_at hl 1 rfl) ?_
                refine lv_iload_n hx hb d_m516_55 rfl (lv_at hl 3 rfl) ?_
                obtain ⟨hi, hf⟩ := ob_if hf
                refine va_iast hx hb hK hP hD hS 4 0 rfl rfl hi d_m516_56 (fun H locs hP hD hS => ?_)
                have hP : va_P (dC, dI) vwCl (w_SC_tables cI cB cS cT a_sc a_pic a_crs a_crs_dt a_crs_ot a_drf a_tbs a_sto a_cnt a_wr a_enc a_dec a_pic_h a_pic_v a_pic_ac a_pic_dn a_pic_oa a_pic_od a_pic_st a_pic_co a_crs_ow a_crs_pl pic_many pic_unitsAcross pic_unitsDown pic_blocks crs_kind crs_first crs_last crs_bits crs_interval crs_units crs_blocksOfUnit crs_laid (upd crs_dt p0.toNatClampNeg p1) (upd crs_ot p0.toNatClampNeg p2)) H := hP
                have hD : va_D A (w_SC_tables cI cB cS cT a_sc a_pic a_crs a_crs_dt a_crs_ot a_drf a_tbs a_sto a_cnt a_wr a_enc a_dec a_pic_h a_pic_v a_pic_ac a_pic_dn a_pic_oa a_pic_od a_pic_st a_pic_co a_crs_ow a_crs_pl pic_many pic_unitsAcross pic_unitsDown pic_blocks crs_kind crs_first crs_last crs_bits crs_interval crs_units crs_blocksOfUnit crs_laid (upd crs_dt p0.toNatClampNeg p1) (upd crs_ot p0.toNatClampNeg p2)) := hD
                refine lv_iconst (v := (1 : Int32)) hx hb d_m516_57 (by decide) ?_
                obtain rfl := Option.some.inj hf
                subst hQ
                subst hAe
                exact W.zret (v := (1 : Int32)) hx hb hr (by decide) (fun t ht hW => ⟨⟨(1 : Int32), (), rfl, rfl, by rw [ht]; exact hP, hD⟩, hS.F ht⟩) hS.2.2 d_m516_58
              · replace hf := (if_neg hc).symm.trans hf
                refine lv_iconst (v := (0 : Int32)) hx hb d_m516_35 (by decide) ?_
                obtain rfl := Option.some.inj hf
                subst hQ
                subst hAe
                exact W.zret (v := (0 : Int32)) hx hb hr (by decide) (fun t ht hW => ⟨⟨(0 : Int32), (), rfl, rfl, by rw [ht]; exact hP, hD⟩, hS.F ht⟩) hS.2.2 d_m516_36
  exact hgo _ _ hP hS

def f_SC_restart (p0 : Int32) (crs_interval : Int32) : Option (Int32 × Int32) :=
  if p0 < 0 then
    some ((0 : Int32), crs_interval)
  else
    if p0 ≤ (65535 : Int32) then
      some ((1 : Int32), p0)
    else
      some ((0 : Int32), crs_interval)
abbrev w_SC_restart (cI cB cS cT : ClassId) (a_sc : Nat) (a_crs : Nat) (a_pic : Nat) (a_drf : Nat) (a_tbs : Nat) (a_sto : Nat) (a_cnt : Nat) (a_wr : Nat) (a_enc : Nat) (a_dec : Nat) (a_crs_ow : Nat) (a_crs_pl : Nat) (a_crs_dt : Nat) (a_crs_ot : Nat) (crs_kind : Int32) (crs_first : Int32) (crs_last : Int32) (crs_bits : Int32) (crs_interval : Int32) (crs_units : Int32) (crs_blocksOfUnit : Int32) (crs_laid : Int32) : va_W := [(a_sc, .inr (0, [.ref a_pic, .ref a_crs, .ref a_drf, .ref a_tbs, .ref a_sto, .ref a_cnt, .ref a_wr, .ref a_enc, .ref a_dec])), (a_crs, .inr (4, [.ref a_pic, .ref a_crs_ow, .ref a_crs_pl, .ref a_crs_dt, .ref a_crs_ot, .int crs_kind, .int crs_first, .int crs_last, .int crs_bits, .int crs_interval, .int crs_units, .int crs_blocksOfUnit, .int crs_laid]))]
def rm_SC_restart : Room := { frames := 0, cells := 0, slots := 0, locals := 0 }
set_option maxHeartbeats 1000000 in
set_option maxRecDepth 100000 in
theorem c_SC_restart (l : Launch) (dC : Nat → ClassId) (dI : Nat → Nat → Nat) (cI cB cS cT : ClassId) (a_sc : Nat) (a_crs : Nat) (a_pic : Nat) (a_drf : Nat) (a_tbs : Nat) (a_sto : Nat) (a_cnt : Nat) (a_wr : Nat) (a_enc : Nat) (a_dec : Nat) (a_crs_ow : Nat) (a_crs_pl : Nat) (a_crs_dt : Nat) (a_crs_ot : Nat) (crs_kind : Int32) (crs_first : Int32) (crs_last : Int32) (crs_bits : Int32) (crs_interval : Int32) (crs_units : Int32) (crs_blocksOfUnit : Int32) (crs_laid : Int32) (p0 : Int32) (sz : Nat) (z : Int32 × Int32) (hf : f_SC_restart p0 crs_interval = some z) : Met l y_m520 ws_m520 rm_SC_restart (gPre (dC, dI) [.ref a_sc, .int p0] (gT cI cB cS cT) (w_SC_restart cI cB cS cT a_sc a_crs a_pic a_drf a_tbs a_sto a_cnt a_wr a_enc a_dec a_crs_ow a_crs_pl a_crs_dt a_crs_ot crs_kind crs_first crs_last crs_bits crs_interval crs_units crs_blocksOfUnit crs_laid) sz) (gQi (dC, dI) (gT cI cB cS cT) z.1 (w_SC_restart cI cB cS cT a_sc a_crs a_pic a_drf a_tbs a_sto a_cnt a_wr a_enc a_dec a_crs_ow a_crs_pl a_crs_dt a_crs_ot crs_kind crs_first crs_last crs_bits crs_interval crs_units crs_blocksOfUnit crs_laid) (w_SC_restart cI cB cS cT a_sc a_crs a_pic a_drf a_tbs a_sto a_cnt a_wr a_enc a_dec a_crs_ow a_crs_pl a_crs_dt a_crs_ot crs_kind crs_first crs_last crs_bits z.2 crs_units crs_blocksOfUnit crs_laid) sz) 0 0 (va_A (w_SC_restart cI cB cS cT a_sc a_crs a_pic a_drf a_tbs a_sto a_cnt a_wr a_enc a_dec a_crs_ow a_crs_pl a_crs_dt a_crs_ot crs_kind crs_first crs_last crs_bits crs_interval crs_units crs_blocksOfUnit crs_laid) sz) := by
  refine Met.ofW (cc := prog_1_method_8_code) (maxL := 2) (ret := (some .boolean)) (by decide) rfl ?_
  intro p e s m args below meth c s₁ B hml hv
  obtain ⟨hargs, hsz, hP, hKN, hD0⟩ := hv
  have hK := hKN.1
  have hx := B.exec
  have hb := B.bytes
  have hr := B.returns
  have hts := atoms_spec (ws := ws_m520) B.pre
  have hown : s.vm.findClass "ScanCoder" = some m.cls := findClass_of_methodNamed B.named
  have hlocks := B.notSynchronized
  have k0 := hts _ (List.mem_cons_of_mem _ tw_521)
  have k1 := hts _ (List.mem_cons_of_mem _ tw_420)
  have k2 := hts _ (List.mem_cons_of_mem _ tw_185)
  have n0 : ∀ w ∈ u_ws "ScanCoder" T_0 9, w ∈ ws_m520 := fun w h => List.mem_cons_of_mem _ (in_0 w h)
  have n1 : ∀ w ∈ u_ws "ScanCoder$Course" T_4 13, w ∈ ws_m520 := fun w h => List.mem_cons_of_mem _ (in_4 w h)
  subst hsz
  have hD := hD0.self (sz := s.heap.size)
  obtain ⟨A, hAe⟩ : ∃ A : Nat → Prop, va_A (w_SC_restart cI cB cS cT a_sc a_crs a_pic a_drf a_tbs a_sto a_cnt a_wr a_enc a_dec a_crs_ow a_crs_pl a_crs_dt a_crs_ot crs_kind crs_first crs_last crs_bits crs_interval crs_units crs_blocksOfUnit crs_laid) s.heap.size = A := ⟨_, rfl⟩
  rw [hAe] at hD
  have hA : ∀ q : Nat, s.heap.size ≤ q → A q := fun q h => by rw [← hAe]; exact Or.inr h
  have hS : va_S A s.heap s.heap [] := va_S.rf
  have hl := lv_entry ([.ref a_sc, .int p0]) (n := 2) (Nat.le_of_ble_eq_true rfl)
  have hfr : entryFrame m args 2 = F0 m 0 ((lg_sl ([.ref a_sc, .int p0]) ++ List.replicate (2 - (lg_sl ([.ref a_sc, .int p0])).length) Slot.unset).toArray) [] := by rw [hargs]; exact lg_entry_eq _ _ _
  rw [hfr]
  generalize (lg_sl ([.ref a_sc, .int p0]) ++ List.replicate (2 - (lg_sl ([.ref a_sc, .int p0])).length) Slot.unset).toArray = ls at hl ⊢
  have hl : lv_has ls 2 [(0, .ref a_sc), (1, .int p0)] := hl
  refine gen_Q (fun Q hQ => ?_)
  clear hfr
  have hgo : ∀ (H : Heap) (locs : List Loc), va_P (dC, dI) vwCl (w_SC_restart cI cB cS cT a_sc a_crs a_pic a_drf a_tbs a_sto a_cnt a_wr a_enc a_dec a_crs_ow a_crs_pl a_crs_dt a_crs_ot crs_kind crs_first crs_last crs_bits crs_interval crs_units crs_blocksOfUnit crs_laid) H → va_S A s.heap H locs → W p l e (headSpec ws_m520 rm_SC_restart).room s m args below meth c H locs 0 0 Q (F0 m 0 ls []) := by
    intro H locs hP hS
    unfold f_SC_restart at hf
    refine lv_iload_n hx hb d_m520_0 rfl (lv_at hl 1 rfl) ?_
    refine lv_if_lt (tgt := 10) hx hb d_m520_1 (by decide) (fun hc => ?_) (fun hc => ?_)
    · replace hf := (if_pos hc).symm.trans hf
      refine lv_iconst (v := (0 : Int32)) hx hb d_m520_10 (by decide) ?_
      obtain rfl := Option.some.inj hf
      subst hQ
      subst hAe
      exact W.zret (v := (0 : Int32)) hx hb hr (by decide) (fun t ht hW => ⟨⟨(0 : Int32), (), rfl, rfl, by rw [ht]; exact hP, hD⟩, hS.F ht⟩) hS.2.2 d_m520_11
    · replace hf := (if_neg hc).symm.trans hf
      refine lv_iload_n hx hb d_m520_4 rfl (lv_at hl 1 rfl) ?_
      refine lv_ldc (v := (65535 : Int32)) hx hb hown k0 d_m520_5 ?_
      refine lv_icmp_le (tgt := 12) hx hb d_m520_7 (by decide) (fun hc => ?_) (fun hc => ?_)
      · replace hf := (if_pos hc).symm.trans hf
        refine lv_aload_n hx hb d_m520_12 rfl (lv_at hl 0 rfl) ?_
        refine va_get (D := (dC, dI)) (ci := 0) (v := .ref a_crs) (C := "ScanCoder") (T := T_0) (N := 9) hx hb hts n0 hown hK hP 0 rfl rfl 1 (by decide) k1 (fun _ h9 => h9) rfl d_m520_13 ?_
        refine lv_iload_n hx hb d_m520_16 rfl (lv_at hl 1 rfl) ?_
        refine va_put (D := (dC, dI)) (ci := 4) (v := .int p0) (ty := .int) (C := "ScanCoder$Course") (T := T_4) (N := 13) hx hb hts n1 ty_4 tyok_4 nm_4 hown hK hP hD hS 1 rfl rfl 9 (by decide) k2 (fun _ h9 => h9) rfl (by decide +kernel) rfl rfl (Nat.le_of_ble_eq_true rfl) d_m520_17 (fun H locs hP hD hS => ?_)
        have hP : va_P (dC, dI) vwCl (w_SC_restart cI cB cS cT a_sc a_crs a_pic a_drf a_tbs a_sto a_cnt a_wr a_enc a_dec a_crs_ow a_crs_pl a_crs_dt a_crs_ot crs_kind crs_first crs_last crs_bits p0 crs_units crs_blocksOfUnit crs_laid) H := hP
        have hD : va_D A (w_SC_restart cI cB cS cT a_sc a_crs a_pic a_drf a_tbs a_sto a_cnt a_wr a_enc a_dec a_crs_ow a_crs_pl a_crs_dt a_crs_ot crs_kind crs_first crs_last crs_bits p0 crs_units crs_blocksOfUnit crs_laid) := hD
        refine lv_iconst (v := (1 : Int32)) hx hb d_m520_20 (by decide) ?_
        obtain rfl := Option.some.inj hf
        subst hQ
        subst hAe
        exact W.zret (v := (1 : Int32)) hx hb hr (by decide) (fun t ht hW => ⟨⟨(1 : Int32), (), rfl, rfl, by rw [ht]; exact hP, hD⟩, hS.F ht⟩) hS.2.2 d_m520_21
      · replace hf := (if_neg hc).symm.trans hf
        refine lv_iconst (v := (0 : Int32)) hx hb d_m520_10 (by decide) ?_
        obtain rfl := Option.some.inj hf
        subst hQ
        subst hAe
        exact W.zret (v := (0 : Int32)) hx hb hr (by decide) (fun t ht hW => ⟨⟨(0 : Int32), (), rfl, rfl, by rw [ht]; exact hP, hD⟩, hS.F ht⟩) hS.2.2 d_m520_11
  exact hgo _ _ hP hS

def f_SC_set (p0 : Int32) (p1 : Int32) (p2 : Int32) (p3 : Int32) (pic_many : Int32) (pic_ac : Nat → Int32) (pic_dn : Nat → Int32) (pic_st : Nat → Int32) (n_pic_co : Nat) (pic_co : Nat → Int32) : Option (Int32 × (Nat → Int32)) :=
  (f_Picture_placeOf p0 p1 p2 pic_many pic_ac pic_dn pic_st).bind fun z1 =>
  if z1 = (-1 : Int32) then
    some ((0 : Int32), pic_co)
  else
    (f_Picture_canBe p2 p3).bind fun z2 =>
    if z2 = 0 then
      some ((0 : Int32), pic_co)
    else
      if z1 < 0 ∨ n_pic_co ≤ z1.toNatClampNeg then none else
      some ((1 : Int32), upd pic_co z1.toNatClampNeg (vp_nar .short p3.toInt16.toInt32))
abbrev w_SC_set (cI cB cS cT : ClassId) (a_sc : Nat) (a_pic : Nat) (a_pic_ac : Nat) (a_pic_dn : Nat) (a_pic_st : Nat) (a_pic_co : Nat) (a_crs : Nat) (a_drf : Nat) (a_tbs : Nat) (a_sto : Nat) (a_cnt : Nat) (a_wr : Nat) (a_enc : Nat) (a_dec : Nat) (a_pic_h : Nat) (a_pic_v : Nat) (a_pic_oa : Nat) (a_pic_od : Nat) (pic_many : Int32) (pic_unitsAcross : Int32) (pic_unitsDown : Int32) (pic_blocks : Int32) (pic_ac : Nat → Int32) (pic_dn : Nat → Int32) (pic_st : Nat → Int32) (n_pic_co : Nat) (pic_co : Nat → Int32) : va_W := [(a_sc, .inr (0, [.ref a_pic, .ref a_crs, .ref a_drf, .ref a_tbs, .ref a_sto, .ref a_cnt, .ref a_wr, .ref a_enc, .ref a_dec])), (a_pic, .inr (8, [.ref a_pic_h, .ref a_pic_v, .ref a_pic_ac, .ref a_pic_dn, .ref a_pic_oa, .ref a_pic_od, .ref a_pic_st, .int pic_many, .int pic_unitsAcross, .int pic_unitsDown, .int pic_blocks, .ref a_pic_co])), (a_pic_ac, .inl (cI, 4, .inl pic_ac)), (a_pic_dn, .inl (cI, 4, .inl pic_dn)), (a_pic_st, .inl (cI, 4, .inl pic_st)), (a_pic_co, .inl (cS, n_pic_co, .inl pic_co))]
def rm_SC_set : Room := { frames := 1, cells := 0, slots := 0, locals := 23 }
set_option maxHeartbeats 1000000 in
set_option maxRecDepth 100000 in
theorem c_SC_set (l : Launch) (dC : Nat → ClassId) (dI : Nat → Nat → Nat) (cI cB cS cT : ClassId) (a_sc : Nat) (a_pic : Nat) (a_pic_ac : Nat) (a_pic_dn : Nat) (a_pic_st : Nat) (a_pic_co : Nat) (a_crs : Nat) (a_drf : Nat) (a_tbs : Nat) (a_sto : Nat) (a_cnt : Nat) (a_wr : Nat) (a_enc : Nat) (a_dec : Nat) (a_pic_h : Nat) (a_pic_v : Nat) (a_pic_oa : Nat) (a_pic_od : Nat) (pic_many : Int32) (pic_unitsAcross : Int32) (pic_unitsDown : Int32) (pic_blocks : Int32) (pic_ac : Nat → Int32) (pic_dn : Nat → Int32) (pic_st : Nat → Int32) (n_pic_co : Nat) (pic_co : Nat → Int32) (p0 : Int32) (p1 : Int32) (p2 : Int32) (p3 : Int32) (sz : Nat) (z : Int32 × (Nat → Int32)) (hf : f_SC_set p0 p1 p2 p3 pic_many pic_ac pic_dn pic_st n_pic_co pic_co = some z) : Met l y_m525 ws_m525 rm_SC_set (gPre (dC, dI) [.ref a_sc, .int p0, .int p1, .int p2, .int p3] (gT cI cB cS cT) (w_SC_set cI cB cS cT a_sc a_pic a_pic_ac a_pic_dn a_pic_st a_pic_co a_crs a_drf a_tbs a_sto a_cnt a_wr a_enc a_dec a_pic_h a_pic_v a_pic_oa a_pic_od pic_many pic_unitsAcross pic_unitsDown pic_blocks pic_ac pic_dn pic_st n_pic_co pic_co) sz) (gQi (dC, dI) (gT cI cB cS cT) z.1 (w_SC_set cI cB cS cT a_sc a_pic a_pic_ac a_pic_dn a_pic_st a_pic_co a_crs a_drf a_tbs a_sto a_cnt a_wr a_enc a_dec a_pic_h a_pic_v a_pic_oa a_pic_od pic_many pic_unitsAcross pic_unitsDown pic_blocks pic_ac pic_dn pic_st n_pic_co pic_co) (w_SC_set cI cB cS cT a_sc a_pic a_pic_ac a_pic_dn a_pic_st a_pic_co a_crs a_drf a_tbs a_sto a_cnt a_wr a_enc a_dec a_pic_h a_pic_v a_pic_oa a_pic_od pic_many pic_unitsAcross pic_unitsDown pic_blocks pic_ac pic_dn pic_st n_pic_co z.2) sz) 0 0 (va_A (w_SC_set cI cB cS cT a_sc a_pic a_pic_ac a_pic_dn a_pic_st a_pic_co a_crs a_drf a_tbs a_sto a_cnt a_wr a_enc a_dec a_pic_h a_pic_v a_pic_oa a_pic_od pic_many pic_unitsAcross pic_unitsDown pic_blocks pic_ac pic_dn pic_st n_pic_co pic_co) sz) := by
  refine Met.ofW (cc := prog_1_method_9_code) (maxL := 6) (ret := (some .boolean)) (by decide) rfl ?_
  intro p e s m args below meth c s₁ B hml hv
  obtain ⟨hargs, hsz, hP, hKN, hD0⟩ := hv
  have hK := hKN.1
  have hx := B.exec
  have hb := B.bytes
  have hr := B.returns
  have hts := atoms_spec (ws := ws_m525) B.pre
  have hown : s.vm.findClass "ScanCoder" = some m.cls := findClass_of_methodNamed B.named
  have hlocks := B.notSynchronized
  have k0 := hts _ (List.mem_cons_of_mem _ tw_419)
  have k1 := hts _ (List.mem_cons_of_mem _ tw_82)
  have n0 : ∀ w ∈ u_ws "ScanCoder" T_0 9, w ∈ ws_m525 := fun w h => List.mem_cons_of_mem _ (in_0 w h)
  have n1 : ∀ w ∈ u_ws "ScanCoder$Picture" T_8 12, w ∈ ws_m525 := fun w h => List.mem_cons_of_mem _ (in_8 w h)
  subst hsz
  have hD := hD0.self (sz := s.heap.size)
  obtain ⟨A, hAe⟩ : ∃ A : Nat → Prop, va_A (w_SC_set cI cB cS cT a_sc a_pic a_pic_ac a_pic_dn a_pic_st a_pic_co a_crs a_drf a_tbs a_sto a_cnt a_wr a_enc a_dec a_pic_h a_pic_v a_pic_oa a_pic_od pic_many pic_unitsAcross pic_unitsDown pic_blocks pic_ac pic_dn pic_st n_pic_co pic_co) s.heap.size = A := ⟨_, rfl⟩
  rw [hAe] at hD
  have hA : ∀ q : Nat, s.heap.size ≤ q → A q := fun q h => by rw [← hAe]; exact Or.inr h
  have hS : va_S A s.heap s.heap [] := va_S.rf
  have hl := lv_entry ([.ref a_sc, .int p0, .int p1, .int p2, .int p3]) (n := 6) (Nat.le_of_ble_eq_true rfl)
  have hfr : entryFrame m args 6 = F0 m 0 ((lg_sl ([.ref a_sc, .int p0, .int p1, .int p2, .int p3]) ++ List.replicate (6 - (lg_sl ([.ref a_sc, .int p0, .int p1, .int p2, .int p3])).length) Slot.unset).toArray) [] := by rw [hargs]; exact lg_entry_eq _ _ _
  rw [hfr]
  generalize (lg_sl ([.ref a_sc, .int p0, .int p1, .int p2, .int p3]) ++ List.replicate (6 - (lg_sl ([.ref a_sc, .int p0, .int p1, .int p2, .int p3])).length) Slot.unset).toArray = ls at hl ⊢
  have hl : lv_has ls 6 [(0, .ref a_sc), (1, .int p0), (2, .int p1), (3, .int p2), (4, .int p3)] := hl
  refine gen_Q (fun Q hQ => ?_)
  clear hfr
  have hgo : ∀ (H : Heap) (locs : List Loc), va_P (dC, dI) vwCl (w_SC_set cI cB cS cT a_sc a_pic a_pic_ac a_pic_dn a_pic_st a_pic_co a_crs a_drf a_tbs a_sto a_cnt a_wr a_enc a_dec a_pic_h a_pic_v a_pic_oa a_pic_od pic_many pic_unitsAcross pic_unitsDown pic_blocks pic_ac pic_dn pic_st n_pic_co pic_co) H → va_S A s.heap H locs → W p l e (headSpec ws_m525 rm_SC_set).room s m args below meth c H locs 0 0 Q (F0 m 0 ls []) := by
    intro H locs hP hS
    unfold f_SC_set at hf
    refine lv_aload_n hx hb d_m525_0 rfl (lv_at hl 0 rfl) ?_
    refine va_get (D := (dC, dI)) (ci := 0) (v := .ref a_pic) (C := "ScanCoder") (T := T_0) (N := 9) hx hb hts n0 hown hK hP 0 rfl rfl 0 (by decide) k0 (fun _ h9 => h9) rfl d_m525_1 ?_
    refine lv_iload_n hx hb d_m525_4 rfl (lv_at hl 1 rfl) ?_
    refine lv_iload_n hx hb d_m525_5 rfl (lv_at hl 2 rfl) ?_
    refine lv_iload_n hx hb d_m525_6 rfl (lv_at hl 3 rfl) ?_
    obtain ⟨z1, hz1, hf⟩ := ob_bind hf
    refine vp_callSi (g_run (va_runV (As := [.int p0, .int p1, .int p2]) (rest := []) ⟨hx, hb, hml, hown, hts⟩ (c_Picture_placeOf l dC dI cI cB cS cT a_pic a_pic_ac a_pic_dn a_pic_st a_pic_h a_pic_v a_pic_oa a_pic_od a_pic_co pic_many pic_unitsAcross pic_unitsDown pic_blocks pic_ac pic_dn pic_st p0 p1 p2 z1 hz1) ⟨(callB_of 3 hts (gi tw_148 rfl) rfl rfl rfl (hts _ (List.mem_cons_of_mem _ tw_2)) (hts _ (List.mem_cons_of_mem _ tw_526)) (by decide +kernel) ⟨Nat.le_of_ble_eq_true rfl, Nat.le_of_ble_eq_true rfl⟩), hts _ (List.mem_cons_of_mem _ tw_146), hts _ (List.mem_cons_of_mem _ tw_147)⟩ ⟨gp_blind, va_recv hK hP (ci := 8) (q0 := 1) rfl rfl, gp_at hKN (g_pm hP [1, 2, 3, 4] rfl)⟩ rfl rfl hl.1 rfl (lv_room (Nat.le_of_ble_eq_true rfl)) d_m525_7 ⟨Nat.zero_le _, Nat.zero_le _⟩)) (fun r hrz1 => ?_)
    have hrz1 := hrz1.symm
    subst hrz1
    refine W.eq (g2 := F0 m 10 ls [.int z1]) rfl ?_
    refine lv_istore (lv' := [(5, .int z1), (0, .ref a_sc), (1, .int p0), (2, .int p1), (3, .int p2), (4, .int p3)]) hx hb d_m525_10 hl (by decide) rfl (fun ls hl => ?_)
    refine lv_iload hx hb d_m525_12 (lv_at hl 0 rfl) ?_
    refine lv_iconst (v := (-1 : Int32)) hx hb d_m525_14 (by decide) ?_
    refine lv_icmp_eq (tgt := 27) hx hb d_m525_15 (by decide) (fun hc => ?_) (fun hc => ?_)
    · replace hf := (if_pos hc).symm.trans hf
      refine lv_iconst (v := (0 : Int32)) hx hb d_m525_27 (by decide) ?_
      obtain rfl := Option.some.inj hf
      subst hQ
      subst hAe
      exact W.zret (v := (0 : Int32)) hx hb hr (by decide) (fun t ht hW => ⟨⟨(0 : Int32), (), rfl, rfl, by rw [ht]; exact hP, hD⟩, hS.F ht⟩) hS.2.2 d_m525_28
    · replace hf := (if_neg hc).symm.trans hf
      refine lv_iload_n hx hb d_m525_18 rfl (lv_at hl 4 rfl) ?_
      refine lv_iload hx hb d_m525_19 (lv_at hl 5 rfl) ?_
      obtain ⟨z2, hz2, hf⟩ := ob_bind hf
      refine vp_callSi (g_run (va_runS (As := [.int p2, .int p3]) (rest := []) ⟨hx, hb, hml, hown, hts⟩ (c_Picture_canBe l dC dI cI cB cS cT p2 p3 z2 hz2) ⟨(callB_of 2 hts (gi tw_529 rfl) rfl rfl rfl (hts _ (List.mem_cons_of_mem _ tw_2)) (hts _ (List.mem_cons_of_mem _ tw_527)) (by decide +kernel) ⟨Nat.le_of_ble_eq_true rfl, Nat.le_of_ble_eq_true rfl⟩), hts _ (List.mem_cons_of_mem _ tw_528)⟩ ⟨gp_blind, gp_at hKN (g_pm hP [] rfl)⟩ rfl rfl hl.1 rfl (lv_room (Nat.le_of_ble_eq_true rfl)) d_m525_21 ⟨Nat.zero_le _, Nat.zero_le _⟩)) (fun r hrz2 => ?_)
      have hrz2 := hrz2.symm
      subst hrz2
      refine W.eq (g2 := F0 m 24 ls [.int z2]) rfl ?_
      refine lv_if_ne (tgt := 29) hx hb d_m525_24 (by decide) (fun hc => ?_) (fun hc => ?_)
      · replace hf := (if_neg hc).symm.trans hf
        refine lv_aload_n hx hb d_m525_29 rfl (lv_at hl 1 rfl) ?_
        refine va_get (D := (dC, dI)) (ci := 0) (v := .ref a_pic) (C := "ScanCoder") (T := T_0) (N := 9) hx hb hts n0 hown hK hP 0 rfl rfl 0 (by decide) k0 (fun _ h9 => h9) rfl d_m525_30 ?_
        refine va_get (D := (dC, dI)) (ci := 8) (v := .ref a_pic_co) (C := "ScanCoder$Picture") (T := T_8) (N := 12) hx hb hts n1 hown hK hP 1 rfl rfl 11 (by decide) k1 (fun _ h9 => h9) rfl d_m525_33 ?_
        refine lv_iload hx hb d_m525_36 (lv_at hl 0 rfl) ?_
        refine lv_iload hx hb d_m525_38 (lv_at hl 5 rfl) ?_
        refine lv_i2s hx hb d_m525_40 rfl ?_
        obtain ⟨hi, hf⟩ := ob_if hf
        refine va_sast hx hb hK hP hD hS 5 2 rfl rfl hi d_m525_41 (fun H locs hP hD hS => ?_)
        have hP : va_P (dC, dI) vwCl (w_SC_set cI cB cS cT a_sc a_pic a_pic_ac a_pic_dn a_pic_st a_pic_co a_crs a_drf a_tbs a_sto a_cnt a_wr a_enc a_dec a_pic_h a_pic_v a_pic_oa a_pic_od pic_many pic_unitsAcross pic_unitsDown pic_blocks pic_ac pic_dn pic_st n_pic_co (upd pic_co z1.toNatClampNeg (vp_nar .short p3.toInt16.toInt32))) H := hP
        have hD : va_D A (w_SC_set cI cB cS cT a_sc a_pic a_pic_ac a_pic_dn a_pic_st a_pic_co a_crs a_drf a_tbs a_sto a_cnt a_wr a_enc a_dec a_pic_h a_pic_v a_pic_oa a_pic_od pic_many pic_unitsAcross pic_unitsDown pic_blocks pic_ac pic_dn pic_st n_pic_co (upd pic_co z1.toNatClampNeg (vp_nar .short p3.toInt16.toInt32))) := hD
        refine lv_iconst (v := (1 : Int32)) hx hb d_m525_42 (by decide) ?_
        obtain rfl := Option.some.inj hf
        subst hQ
        subst hAe
        exact W.zret (v := (1 : Int32)) hx hb hr (by decide) (fun t ht hW => ⟨⟨(1 : Int32), (), rfl, rfl, by rw [ht]; exact hP, hD⟩, hS.F ht⟩) hS.2.2 d_m525_43
      · replace hf := (if_pos hc).symm.trans hf
        refine lv_iconst (v := (0 : Int32)) hx hb d_m525_27 (by decide) ?_
        obtain rfl := Option.some.inj hf
        subst hQ
        subst hAe
        exact W.zret (v := (0 : Int32)) hx hb hr (by decide) (fun t ht hW => ⟨⟨(0 : Int32), (), rfl, rfl, by rw [ht]; exact hP, hD⟩, hS.F ht⟩) hS.2.2 d_m525_28
  exact hgo _ _ hP hS

def f_SC_get (p0 : Int32) (p1 : Int32) (p2 : Int32) (pic_many : Int32) (pic_ac : Nat → Int32) (pic_dn : Nat → Int32) (pic_st : Nat → Int32) (n_pic_co : Nat) (pic_co : Nat → Int32) : Option (Int32) :=
  (f_Picture_placeOf p0 p1 p2 pic_many pic_ac pic_dn pic_st).bind fun z1 =>
  if z1 = (-1 : Int32) then
    some (0 : Int32)
  else
    if z1 < 0 ∨ n_pic_co ≤ z1.toNatClampNeg then none else
    some (pic_co z1.toNatClampNeg)
abbrev w_SC_get (cI cB cS cT : ClassId) (a_sc : Nat) (a_pic : Nat) (a_pic_ac : Nat) (a_pic_dn : Nat) (a_pic_st : Nat) (a_pic_co : Nat) (a_crs : Nat) (a_drf : Nat) (a_tbs : Nat) (a_sto : Nat) (a_cnt : Nat) (a_wr : Nat) (a_enc : Nat) (a_dec : Nat) (a_pic_h : Nat) (a_pic_v : Nat) (a_pic_oa : Nat) (a_pic_od : Nat) (pic_many : Int32) (pic_unitsAcross : Int32) (pic_unitsDown : Int32) (pic_blocks : Int32) (pic_ac : Nat → Int32) (pic_dn : Nat → Int32) (pic_st : Nat → Int32) (n_pic_co : Nat) (pic_co : Nat → Int32) : va_W := [(a_sc, .inr (0, [.ref a_pic, .ref a_crs, .ref a_drf, .ref a_tbs, .ref a_sto, .ref a_cnt, .ref a_wr, .ref a_enc, .ref a_dec])), (a_pic, .inr (8, [.ref a_pic_h, .ref a_pic_v, .ref a_pic_ac, .ref a_pic_dn, .ref a_pic_oa, .ref a_pic_od, .ref a_pic_st, .int pic_many, .int pic_unitsAcross, .int pic_unitsDown, .int pic_blocks, .ref a_pic_co])), (a_pic_ac, .inl (cI, 4, .inl pic_ac)), (a_pic_dn, .inl (cI, 4, .inl pic_dn)), (a_pic_st, .inl (cI, 4, .inl pic_st)), (a_pic_co, .inl (cS, n_pic_co, .inl pic_co))]
def rm_SC_get : Room := { frames := 1, cells := 0, slots := 0, locals := 23 }
set_option maxHeartbeats 1000000 in
set_option maxRecDepth 100000 in
theorem c_SC_get (l : Launch) (dC : Nat → ClassId) (dI : Nat → Nat → Nat) (cI cB cS cT : ClassId) (a_sc : Nat) (a_pic : Nat) (a_pic_ac : Nat) (a_pic_dn : Nat) (a_pic_st : Nat) (a_pic_co : Nat) (a_crs : Nat) (a_drf : Nat) (a_tbs : Nat) (a_sto : Nat) (a_cnt : Nat) (a_wr : Nat) (a_enc : Nat) (a_dec : Nat) (a_pic_h : Nat) (a_pic_v : Nat) (a_pic_oa : Nat) (a_pic_od : Nat) (pic_many : Int32) (pic_unitsAcross : Int32) (pic_unitsDown : Int32) (pic_blocks : Int32) (pic_ac : Nat → Int32) (pic_dn : Nat → Int32) (pic_st : Nat → Int32) (n_pic_co : Nat) (pic_co : Nat → Int32) (p0 : Int32) (p1 : Int32) (p2 : Int32) (z : Int32) (hf : f_SC_get p0 p1 p2 pic_many pic_ac pic_dn pic_st n_pic_co pic_co = some z) : Met l y_m533 ws_m533 rm_SC_get (gPreP (dC, dI) [.ref a_sc, .int p0, .int p1, .int p2] (gT cI cB cS cT) (w_SC_get cI cB cS cT a_sc a_pic a_pic_ac a_pic_dn a_pic_st a_pic_co a_crs a_drf a_tbs a_sto a_cnt a_wr a_enc a_dec a_pic_h a_pic_v a_pic_oa a_pic_od pic_many pic_unitsAcross pic_unitsDown pic_blocks pic_ac pic_dn pic_st n_pic_co pic_co)) (vp_Si (fun r => r = z)) 0 0 (fun _ => False) := by
  refine Met.ofW (cc := prog_1_method_10_code) (maxL := 5) (ret := (some .int)) (by decide) rfl ?_
  intro p e s m args below meth c s₁ B hml hv
  obtain ⟨hargs, hP, hKN⟩ := hv
  have hK := hKN.1
  have hx := B.exec
  have hb := B.bytes
  have hr := B.returns
  have hts := atoms_spec (ws := ws_m533) B.pre
  have hown : s.vm.findClass "ScanCoder" = some m.cls := findClass_of_methodNamed B.named
  have hlocks := B.notSynchronized
  have k0 := hts _ (List.mem_cons_of_mem _ tw_419)
  have k1 := hts _ (List.mem_cons_of_mem _ tw_82)
  have n0 : ∀ w ∈ u_ws "ScanCoder" T_0 9, w ∈ ws_m533 := fun w h => List.mem_cons_of_mem _ (in_0 w h)
  have n1 : ∀ w ∈ u_ws "ScanCoder$Picture" T_8 12, w ∈ ws_m533 := fun w h => List.mem_cons_of_mem _ (in_8 w h)
  have hl := lv_entry ([.ref a_sc, .int p0, .int p1, .int p2]) (n := 5) (Nat.le_of_ble_eq_true rfl)
  have hfr : entryFrame m args 5 = F0 m 0 ((lg_sl ([.ref a_sc, .int p0, .int p1, .int p2]) ++ List.replicate (5 - (lg_sl ([.ref a_sc, .int p0, .int p1, .int p2])).length) Slot.unset).toArray) [] := by rw [hargs]; exact lg_entry_eq _ _ _
  rw [hfr]
  generalize (lg_sl ([.ref a_sc, .int p0, .int p1, .int p2]) ++ List.replicate (5 - (lg_sl ([.ref a_sc, .int p0, .int p1, .int p2])).length) Slot.unset).toArray = ls at hl ⊢
  have hl : lv_has ls 5 [(0, .ref a_sc), (1, .int p0), (2, .int p1), (3, .int p2)] := hl
  refine gen_Q (fun Q hQ => ?_)
  clear hfr
  unfold f_SC_get at hf
  refine lv_aload_n hx hb d_m533_0 rfl (lv_at hl 0 rfl) ?_
  refine va_get (D := (dC, dI)) (ci := 0) (v := .ref a_pic) (C := "ScanCoder") (T := T_0) (N := 9) hx hb hts n0 hown hK hP 0 rfl rfl 0 (by decide) k0 (fun _ h9 => h9) rfl d_m533_1 ?_
  refine lv_iload_n hx hb d_m533_4 rfl (lv_at hl 1 rfl) ?_
  refine lv_iload_n hx hb d_m533_5 rfl (lv_at hl 2 rfl) ?_
  refine lv_iload_n hx hb d_m533_6 rfl (lv_at hl 3 rfl) ?_
  obtain ⟨z1, hz1, hf⟩ := ob_bind hf
  refine vp_callSi (g_run (va_runV (As := [.int p0, .int p1, .int p2]) (rest := []) ⟨hx, hb, hml, hown, hts⟩ (c_Picture_placeOf l dC dI cI cB cS cT a_pic a_pic_ac a_pic_dn a_pic_st a_pic_h a_pic_v a_pic_oa a_pic_od a_pic_co pic_many pic_unitsAcross pic_unitsDown pic_blocks pic_ac pic_dn pic_st p0 p1 p2 z1 hz1) ⟨(callB_of 3 hts (gi tw_148 rfl) rfl rfl rfl (hts _ (List.mem_cons_of_mem _ tw_2)) (hts _ (List.mem_cons_of_mem _ tw_526)) (by decide +kernel) ⟨Nat.le_of_ble_eq_true rfl, Nat.le_of_ble_eq_true rfl⟩), hts _ (List.mem_cons_of_mem _ tw_146), hts _ (List.mem_cons_of_mem _ tw_147)⟩ ⟨gp_blind, va_recv hK hP (ci := 8) (q0 := 1) rfl rfl, gp_at hKN (g_pm hP [1, 2, 3, 4] rfl)⟩ rfl rfl hl.1 rfl (lv_room (Nat.le_of_ble_eq_true rfl)) d_m533_7 ⟨Nat.zero_le _, Nat.zero_le _⟩)) (fun r hrz1 => ?_)
  have hrz1 := hrz1.symm
  subst hrz1
  refine W.eq (g2 := F0 m 10 ls [.int z1]) rfl ?_
  refine lv_istore (lv' := [(4, .int z1), (0, .ref a_sc), (1, .int p0), (2, .int p1), (3, .int p2)]) hx hb d_m533_10 hl (by decide) rfl (fun ls hl => ?_)
  refine lv_iload hx hb d_m533_12 (lv_at hl 0 rfl) ?_
  refine lv_iconst (v := (-1 : Int32)) hx hb d_m533_14 (by decide) ?_
  refine lv_icmp_ne (tgt := 22) hx hb d_m533_15 (by decide) (fun hc => ?_) (fun hc => ?_)
  · replace hf := (if_neg hc).symm.trans hf
    refine lv_aload_n hx hb d_m533_22 rfl (lv_at hl 1 rfl) ?_
    refine va_get (D := (dC, dI)) (ci := 0) (v := .ref a_pic) (C := "ScanCoder") (T := T_0) (N := 9) hx hb hts n0 hown hK hP 0 rfl rfl 0 (by decide) k0 (fun _ h9 => h9) rfl d_m533_23 ?_
    refine va_get (D := (dC, dI)) (ci := 8) (v := .ref a_pic_co) (C := "ScanCoder$Picture") (T := T_8) (N := 12) hx hb hts n1 hown hK hP 1 rfl rfl 11 (by decide) k1 (fun _ h9 => h9) rfl d_m533_26 ?_
    refine lv_iload hx hb d_m533_29 (lv_at hl 0 rfl) ?_
    obtain ⟨hi, hf⟩ := ob_if hf
    refine va_sald hx hb hK hP 5 2 rfl rfl hi d_m533_31 ?_
    obtain rfl := Option.some.inj hf
    subst hQ
    exact W.iret (v := pic_co z1.toNatClampNeg) hx hb hr (fun t ht hW => ⟨pic_co z1.toNatClampNeg, rfl, rfl, ht⟩) (fun q h => by cases h) d_m533_32
  · replace hf := (if_pos hc).symm.trans hf
    refine lv_iconst (v := (0 : Int32)) hx hb d_m533_18 (by decide) ?_
    refine lv_goto (tgt := 32) hx hb d_m533_19 (by decide) ?_
    obtain rfl := Option.some.inj hf
    subst hQ
    exact W.iret (v := (0 : Int32)) hx hb hr (fun t ht hW => ⟨(0 : Int32), rfl, rfl, ht⟩) (fun q h => by cases h) d_m533_32

def f_SC_write (ms : Nat) (N : Nat) (n_pic_co : Nat) (pic_co : Nat → Int32) (crs_kind : Int32) (crs_first : Int32) (crs_last : Int32) (crs_bits : Int32) (crs_interval : Int32) (crs_units : Int32) (crs_blocksOfUnit : Int32) (crs_ow : Nat → Int32) (crs_pl : Nat → Int32) (crs_dt : Nat → Int32) (crs_ot : Nat → Int32) (sto_length : Int32) (n_sto_b : Nat) (sto_b : Nat → Int32) (enc_runTable : Int32) (enc_p : Nat → Int32) (enc_r : Nat → Int32) (vw : Nat → Nat → Int32) : Option (Int32 × Int32 × Nat × (Nat → Int32) × Int32 × Int32 × Int32 × Int32 × Int32 × Int32 × Int32 × Int32 × (Nat → Int32) × (Nat → Int32)) :=
  (f_BitWriter_begin (0 : Int32)).bind fun z1 =>
  (f_Encoder_encode_wr N n_pic_co pic_co crs_kind crs_first crs_last crs_bits crs_interval crs_units crs_blocksOfUnit crs_ow crs_pl crs_dt crs_ot n_sto_b sto_b z1.1 z1.2.1 z1.2.2.1 z1.2.2.2.1 z1.2.2.2.2 enc_runTable enc_p enc_r vw).bind fun z2 =>
  if z2.2.2.2.2.1 = 0 then
    if z2.2.2.2.1 ≤ (16384 : Int32) then
      (f_Store_reserve ms z2.2.2.2.1 n_sto_b z2.1).bind fun z3 =>
      (f_BitWriter_begin (1 : Int32)).bind fun z4 =>
      (f_Encoder_encode_wr N n_pic_co pic_co crs_kind crs_first crs_last crs_bits crs_interval crs_units crs_blocksOfUnit crs_ow crs_pl crs_dt crs_ot z3.1 z3.2 z4.1 z4.2.1 z4.2.2.1 z4.2.2.2.1 z4.2.2.2.2 z2.2.2.2.2.2.2.2.1 z2.2.2.2.2.2.2.2.2.1 z2.2.2.2.2.2.2.2.2.2 vw).bind fun z5 =>
      some (z5.2.2.2.1, z5.2.2.2.1, z3.1, z5.1, z4.1, z5.2.1, z5.2.2.1, z5.2.2.2.1, z5.2.2.2.2.1, z5.2.2.2.2.2.1, z5.2.2.2.2.2.2.1, z5.2.2.2.2.2.2.2.1, z5.2.2.2.2.2.2.2.2.1, z5.2.2.2.2.2.2.2.2.2)
    else
      some ((-1 : Int32), sto_length, n_sto_b, z2.1, z1.1, z2.2.1, z2.2.2.1, z2.2.2.2.1, z2.2.2.2.2.1, z2.2.2.2.2.2.1, z2.2.2.2.2.2.2.1, z2.2.2.2.2.2.2.2.1, z2.2.2.2.2.2.2.2.2.1, z2.2.2.2.2.2.2.2.2.2)
  else
    some ((-1 : Int32), sto_length, n_sto_b, z2.1, z1.1, z2.2.1, z2.2.2.1, z2.2.2.2.1, z2.2.2.2.2.1, z2.2.2.2.2.2.1, z2.2.2.2.2.2.2.1, z2.2.2.2.2.2.2.2.1, z2.2.2.2.2.2.2.2.2.1, z2.2.2.2.2.2.2.2.2.2)
abbrev w_SC_write (cI cB cS cT : ClassId) (a_sc : Nat) (a_pic : Nat) (a_pic_co : Nat) (a_crs : Nat) (a_crs_ow : Nat) (a_crs_pl : Nat) (a_crs_dt : Nat) (a_crs_ot : Nat) (a_sto : Nat) (a_sto_b : Nat) (a_wr : Nat) (a_enc : Nat) (a_enc_p : Nat) (a_enc_r : Nat) (a_tbs : Nat) (a_drf : Nat) (a_cnt : Nat) (a_dec : Nat) (a_pic_h : Nat) (a_pic_v : Nat) (a_pic_ac : Nat) (a_pic_dn : Nat) (a_pic_oa : Nat) (a_pic_od : Nat) (a_pic_st : Nat) (a_enc_sink : Nat) (pic_many : Int32) (pic_unitsAcross : Int32) (pic_unitsDown : Int32) (pic_blocks : Int32) (n_pic_co : Nat) (pic_co : Nat → Int32) (crs_kind : Int32) (crs_first : Int32) (crs_last : Int32) (crs_bits : Int32) (crs_interval : Int32) (crs_units : Int32) (crs_blocksOfUnit : Int32) (crs_laid : Int32) (crs_ow : Nat → Int32) (crs_pl : Nat → Int32) (crs_dt : Nat → Int32) (crs_ot : Nat → Int32) (sto_length : Int32) (n_sto_b : Nat) (sto_b : Nat → Int32) (wr_keeps : Int32) (wr_part : Int32) (wr_filled : Int32) (wr_length : Int32) (wr_lacksWord : Int32) (enc_run : Int32) (enc_held : Int32) (enc_runTable : Int32) (enc_p : Nat → Int32) (enc_r : Nat → Int32) (ta : Nat → Nat) (tw : Nat → Nat) (ts : Nat → Nat) (tf : Nat → Nat) (tx : Nat → Nat) (vw : Nat → Nat → Int32) (vs : Nat → Nat → Int32) (vf : Nat → Nat → Int32) (vx : Nat → Nat → Int32) (ve : Nat → Int32) (vz : Nat → Int32) : va_W := [(a_sc, .inr (0, [.ref a_pic, .ref a_crs, .ref a_drf, .ref a_tbs, .ref a_sto, .ref a_cnt, .ref a_wr, .ref a_enc, .ref a_dec])), (a_pic, .inr (8, [.ref a_pic_h, .ref a_pic_v, .ref a_pic_ac, .ref a_pic_dn, .ref a_pic_oa, .ref a_pic_od, .ref a_pic_st, .int pic_many, .int pic_unitsAcross, .int pic_unitsDown, .int pic_blocks, .ref a_pic_co])), (a_pic_co, .inl (cS, n_pic_co, .inl pic_co)), (a_crs, .inr (4, [.ref a_pic, .ref a_crs_ow, .ref a_crs_pl, .ref a_crs_dt, .ref a_crs_ot, .int crs_kind, .int crs_first, .int crs_last, .int crs_bits, .int crs_interval, .int crs_units, .int crs_blocksOfUnit, .int crs_laid])), (a_crs_ow, .inl (cI, 192, .inl crs_ow)), (a_crs_pl, .inl (cI, 192, .inl crs_pl)), (a_crs_dt, .inl (cI, 4, .inl crs_dt)), (a_crs_ot, .inl (cI, 4, .inl crs_ot)), (a_sto, .inr (9, [.ref a_sto_b, .int sto_length])), (a_sto_b, .inl (cB, n_sto_b, .inl sto_b)), (a_wr, .inr (2, [.ref a_tbs, .ref a_sto, .int wr_keeps, .int wr_part, .int wr_filled, .int wr_length, .int wr_lacksWord])), (a_enc, .inr (7, [.ref a_pic, .ref a_crs, .ref a_enc_p, .ref a_enc_r, .ref a_enc_sink, .int enc_run, .int enc_held, .int enc_runTable])), (a_enc_p, .inl (cI, 4, .inl enc_p)), (a_enc_r, .inl (cB, 964, .inl enc_r)), (a_tbs, .inl (cT, 8, .inr (.inr (.inr (.inr (fun i => some (ta i)))))))] ++ tbl 10 cI ta tw ts tf tx vw vs vf vx ve vz
def rm_SC_write (ms : Nat) : Room := { frames := 6, cells := 1, slots := ms, locals := 145 }
set_option maxHeartbeats 1000000 in
set_option maxRecDepth 100000 in
theorem c_SC_write (l : Launch) (dC : Nat → ClassId) (dI : Nat → Nat → Nat) (cI cB cS cT : ClassId) (ms : Nat) (N : Nat) (a_sc : Nat) (a_pic : Nat) (a_pic_co : Nat) (a_crs : Nat) (a_crs_ow : Nat) (a_crs_pl : Nat) (a_crs_dt : Nat) (a_crs_ot : Nat) (a_sto : Nat) (a_sto_b : Nat) (a_wr : Nat) (a_enc : Nat) (a_enc_p : Nat) (a_enc_r : Nat) (a_tbs : Nat) (a_drf : Nat) (a_cnt : Nat) (a_dec : Nat) (a_pic_h : Nat) (a_pic_v : Nat) (a_pic_ac : Nat) (a_pic_dn : Nat) (a_pic_oa : Nat) (a_pic_od : Nat) (a_pic_st : Nat) (a_enc_sink : Nat) (pic_many : Int32) (pic_unitsAcross : Int32) (pic_unitsDown : Int32) (pic_blocks : Int32) (n_pic_co : Nat) (pic_co : Nat → Int32) (crs_kind : Int32) (crs_first : Int32) (crs_last : Int32) (crs_bits : Int32) (crs_interval : Int32) (crs_units : Int32) (crs_blocksOfUnit : Int32) (crs_laid : Int32) (crs_ow : Nat → Int32) (crs_pl : Nat → Int32) (crs_dt : Nat → Int32) (crs_ot : Nat → Int32) (sto_length : Int32) (n_sto_b : Nat) (sto_b : Nat → Int32) (wr_keeps : Int32) (wr_part : Int32) (wr_filled : Int32) (wr_length : Int32) (wr_lacksWord : Int32) (enc_run : Int32) (enc_held : Int32) (enc_runTable : Int32) (enc_p : Nat → Int32) (enc_r : Nat → Int32) (ta : Nat → Nat) (tw : Nat → Nat) (ts : Nat → Nat) (tf : Nat → Nat) (tx : Nat → Nat) (vw : Nat → Nat → Int32) (vs : Nat → Nat → Int32) (vf : Nat → Nat → Int32) (vx : Nat → Nat → Int32) (ve : Nat → Int32) (vz : Nat → Int32) (sz : Nat) (z : Int32 × Int32 × Nat × (Nat → Int32) × Int32 × Int32 × Int32 × Int32 × Int32 × Int32 × Int32 × Int32 × (Nat → Int32) × (Nat → Int32)) (hf : f_SC_write ms N n_pic_co pic_co crs_kind crs_first crs_last crs_bits crs_interval crs_units crs_blocksOfUnit crs_ow crs_pl crs_dt crs_ot sto_length n_sto_b sto_b enc_runTable enc_p enc_r vw = some z) : Met l y_m537 ws_m537 (rm_SC_write ms) (gPre (dC, dI) [.ref a_sc] (gT cI cB cS cT) (w_SC_write cI cB cS cT a_sc a_pic a_pic_co a_crs a_crs_ow a_crs_pl a_crs_dt a_crs_ot a_sto a_sto_b a_wr a_enc a_enc_p a_enc_r a_tbs a_drf a_cnt a_dec a_pic_h a_pic_v a_pic_ac a_pic_dn a_pic_oa a_pic_od a_pic_st a_enc_sink pic_many pic_unitsAcross pic_unitsDown pic_blocks n_pic_co pic_co crs_kind crs_first crs_last crs_bits crs_interval crs_units crs_blocksOfUnit crs_laid crs_ow crs_pl crs_dt crs_ot sto_length n_sto_b sto_b wr_keeps wr_part wr_filled wr_length wr_lacksWord enc_run enc_held enc_runTable enc_p enc_r ta tw ts tf tx vw vs vf vx ve vz) sz) (gQiA (dC, dI) (gT cI cB cS cT) (U := Nat) z.1 (w_SC_write cI cB cS cT a_sc a_pic a_pic_co a_crs a_crs_ow a_crs_pl a_crs_dt a_crs_ot a_sto a_sto_b a_wr a_enc a_enc_p a_enc_r a_tbs a_drf a_cnt a_dec a_pic_h a_pic_v a_pic_ac a_pic_dn a_pic_oa a_pic_od a_pic_st a_enc_sink pic_many pic_unitsAcross pic_unitsDown pic_blocks n_pic_co pic_co crs_kind crs_first crs_last crs_bits crs_interval crs_units crs_blocksOfUnit crs_laid crs_ow crs_pl crs_dt crs_ot sto_length n_sto_b sto_b wr_keeps wr_part wr_filled wr_length wr_lacksWord enc_run enc_held enc_runTable enc_p enc_r ta tw ts tf tx vw vs vf vx ve vz) (fun u => (w_SC_write cI cB cS cT a_sc a_pic a_pic_co a_crs a_crs_ow a_crs_pl a_crs_dt a_crs_ot a_sto u a_wr a_enc a_enc_p a_enc_r a_tbs a_drf a_cnt a_dec a_pic_h a_pic_v a_pic_ac a_pic_dn a_pic_oa a_pic_od a_pic_st a_wr pic_many pic_unitsAcross pic_unitsDown pic_blocks n_pic_co pic_co crs_kind crs_first crs_last crs_bits crs_interval crs_units crs_blocksOfUnit crs_laid crs_ow crs_pl crs_dt crs_ot z.2.1 z.2.2.1 z.2.2.2.1 z.2.2.2.2.1 z.2.2.2.2.2.1 z.2.2.2.2.2.2.1 z.2.2.2.2.2.2.2.1 z.2.2.2.2.2.2.2.2.1 z.2.2.2.2.2.2.2.2.2.1 z.2.2.2.2.2.2.2.2.2.2.1 z.2.2.2.2.2.2.2.2.2.2.2.1 z.2.2.2.2.2.2.2.2.2.2.2.2.1 z.2.2.2.2.2.2.2.2.2.2.2.2.2 ta tw ts tf tx vw vs vf vx ve vz)) sz) 1 ms (va_A (w_SC_write cI cB cS cT a_sc a_pic a_pic_co a_crs a_crs_ow a_crs_pl a_crs_dt a_crs_ot a_sto a_sto_b a_wr a_enc a_enc_p a_enc_r a_tbs a_drf a_cnt a_dec a_pic_h a_pic_v a_pic_ac a_pic_dn a_pic_oa a_pic_od a_pic_st a_enc_sink pic_many pic_unitsAcross pic_unitsDown pic_blocks n_pic_co pic_co crs_kind crs_first crs_last crs_bits crs_interval crs_units crs_blocksOfUnit crs_laid crs_ow crs_pl crs_dt crs_ot sto_length n_sto_b sto_b wr_keeps wr_part wr_filled wr_length wr_lacksWord enc_run enc_held enc_runTable enc_p enc_r ta tw ts tf tx vw vs vf vx ve vz) sz) := by
  refine Met.ofW (cc := prog_1_method_11_code) (maxL := 1) (ret := (some .int)) (by decide) rfl ?_
  intro p e s m args below meth c s₁ B hml hv
  obtain ⟨hargs, hsz, hP, hKN, hD0⟩ := hv
  have hK := hKN.1
  have hx := B.exec
  have hb := B.bytes
  have hr := B.returns
  have hts := atoms_spec (ws := ws_m537) B.pre
  have hown : s.vm.findClass "ScanCoder" = some m.cls := findClass_of_methodNamed B.named
  have hlocks := B.notSynchronized
  have k0 := hts _ (List.mem_cons_of_mem _ tw_425)
  have k1 := hts _ (List.mem_cons_of_mem _ tw_426)
  have k2 := hts _ (List.mem_cons_of_mem _ tw_321)
  have k3 := hts _ (List.mem_cons_of_mem _ tw_319)
  have k4 := hts _ (List.mem_cons_of_mem _ tw_423)
  have k5 := hts _ (List.mem_cons_of_mem _ tw_283)
  have n0 : ∀ w ∈ u_ws "ScanCoder" T_0 9, w ∈ ws_m537 := fun w h => List.mem_cons_of_mem _ (in_0 w h)
  have n1 : ∀ w ∈ u_ws "ScanCoder$BitWriter" T_2 7, w ∈ ws_m537 := fun w h => List.mem_cons_of_mem _ (in_2 w h)
  have n2 : ∀ w ∈ u_ws "ScanCoder$Store" T_9 2, w ∈ ws_m537 := fun w h => List.mem_cons_of_mem _ (in_9 w h)
  subst hsz
  have hD := hD0.self (sz := s.heap.size)
  obtain ⟨A, hAe⟩ : ∃ A : Nat → Prop, va_A (w_SC_write cI cB cS cT a_sc a_pic a_pic_co a_crs a_crs_ow a_crs_pl a_crs_dt a_crs_ot a_sto a_sto_b a_wr a_enc a_enc_p a_enc_r a_tbs a_drf a_cnt a_dec a_pic_h a_pic_v a_pic_ac a_pic_dn a_pic_oa a_pic_od a_pic_st a_enc_sink pic_many pic_unitsAcross pic_unitsDown pic_blocks n_pic_co pic_co crs_kind crs_first crs_last crs_bits crs_interval crs_units crs_blocksOfUnit crs_laid crs_ow crs_pl crs_dt crs_ot sto_length n_sto_b sto_b wr_keeps wr_part wr_filled wr_length wr_lacksWord enc_run enc_held enc_runTable enc_p enc_r ta tw ts tf tx vw vs vf vx ve vz) s.heap.size = A := ⟨_, rfl⟩
  rw [hAe] at hD
  have hA : ∀ q : Nat, s.heap.size ≤ q → A q := fun q h => by rw [← hAe]; exact Or.inr h
  have hS : va_S A s.heap s.heap [] := va_S.rf
  have hl := lv_entry ([.ref a_sc]) (n := 1) (Nat.le_of_ble_eq_true rfl)
  have hfr : entryFrame m args 1 = F0 m 0 ((lg_sl ([.ref a_sc]) ++ List.replicate (1 - (lg_sl ([.ref a_sc])).length) Slot.unset).toArray) [] := by rw [hargs]; exact lg_entry_eq _ _ _
  rw [hfr]
  generalize (lg_sl ([.ref a_sc]) ++ List.replicate (1 - (lg_sl ([.ref a_sc])).length) Slot.unset).toArray = ls at hl ⊢
  have hl : lv_has ls 1 [(0, .ref a_sc)] := hl
  refine gen_Q (fun Q hQ => ?_)
  clear hfr
  have hgo : ∀ (H : Heap) (locs : List Loc), va_P (dC, dI) vwCl (w_SC_write cI cB cS cT a_sc a_pic a_pic_co a_crs a_crs_ow a_crs_pl a_crs_dt a_crs_ot a_sto a_sto_b a_wr a_enc a_enc_p a_enc_r a_tbs a_drf a_cnt a_dec a_pic_h a_pic_v a_pic_ac a_pic_dn a_pic_oa a_pic_od a_pic_st a_enc_sink pic_many pic_unitsAcross pic_unitsDown pic_blocks n_pic_co pic_co crs_kind crs_first crs_last crs_bits crs_interval crs_units crs_blocksOfUnit crs_laid crs_ow crs_pl crs_dt crs_ot sto_length n_sto_b sto_b wr_keeps wr_part wr_filled wr_length wr_lacksWord enc_run enc_held enc_runTable enc_p enc_r ta tw ts tf tx vw vs vf vx ve vz) H → va_S A s.heap H locs → W p l e (headSpec ws_m537 (rm_SC_write ms)).room s m args below meth c H locs 0 0 Q (F0 m 0 ls []) := by
    intro H locs hP hS
    unfold f_SC_write at hf
    refine lv_aload_n hx hb d_m537_0 rfl (lv_at hl 0 rfl) ?_
    refine va_get (D := (dC, dI)) (ci := 0) (v := .ref a_wr) (C := "ScanCoder") (T := T_0) (N := 9) hx hb hts n0 hown hK hP 0 rfl rfl 6 (by decide) k0 (fun _ h9 => h9) rfl d_m537_1 ?_
    refine lv_iconst (v := (0 : Int32)) hx hb d_m537_4 (by decide) ?_
    obtain ⟨z1, hz1, hf⟩ := ob_bind hf
    refine g_callv (wc := (w_BitWriter_begin cI cB cS cT a_wr a_tbs a_sto wr_keeps wr_part wr_filled wr_length wr_lacksWord)) (w1 := (w_BitWriter_begin cI cB cS cT a_wr a_tbs a_sto z1.1 z1.2.1 z1.2.2.1 z1.2.2.2.1 z1.2.2.2.2)) (w2 := (w_SC_write cI cB cS cT a_sc a_pic a_pic_co a_crs a_crs_ow a_crs_pl a_crs_dt a_crs_ot a_sto a_sto_b a_wr a_enc a_enc_p a_enc_r a_tbs a_drf a_cnt a_dec a_pic_h a_pic_v a_pic_ac a_pic_dn a_pic_oa a_pic_od a_pic_st a_enc_sink pic_many pic_unitsAcross pic_unitsDown pic_blocks n_pic_co pic_co crs_kind crs_first crs_last crs_bits crs_interval crs_units crs_blocksOfUnit crs_laid crs_ow crs_pl crs_dt crs_ot sto_length n_sto_b sto_b z1.1 z1.2.1 z1.2.2.1 z1.2.2.2.1 z1.2.2.2.2 enc_run enc_held enc_runTable enc_p enc_r ta tw ts tf tx vw vs vf vx ve vz)) [10] [none, none, none, none, none, none, none, none, none, none, some 0, none, none, none, none, none, none, none, none, none, none, none, none, none, none, none, none, none, none, none, none, none, none, none, none, none, none, none, none, none, none, none, none, none, none, none, none, none, none, none, none, none, none, none, none] hP hD hS hA rfl rfl rfl rfl (va_runV (As := [.int (0 : Int32)]) (rest := []) ⟨hx, hb, hml, hown, hts⟩ (c_BitWriter_begin l dC dI cI cB cS cT a_wr a_tbs a_sto wr_keeps wr_part wr_filled wr_length wr_lacksWord (0 : Int32) H.size z1 hz1) ⟨(callB_of 1 hts (gi tw_541 rfl) rfl rfl rfl (hts _ (List.mem_cons_of_mem _ tw_12)) (hts _ (List.mem_cons_of_mem _ tw_538)) (by decide +kernel) ⟨Nat.le_of_ble_eq_true rfl, Nat.le_of_ble_eq_true rfl⟩), hts _ (List.mem_cons_of_mem _ tw_539), hts _ (List.mem_cons_of_mem _ tw_540)⟩ ⟨g_blind, va_recv hK hP (ci := 2) (q0 := 10) rfl rfl, g_at hKN (g_pm hP [10] rfl) (hD.sub [10] (by decide) rfl)⟩ rfl rfl hl.1 rfl (lv_room (Nat.le_of_ble_eq_true rfl)) d_m537_5 ⟨Nat.zero_le _, Nat.zero_le _⟩) (fun H locs hP hD hS => ?_)
    refine W.eq (g2 := F0 m 8 ls []) rfl ?_
    refine lv_aload_n hx hb d_m537_8 rfl (lv_at hl 0 rfl) ?_
    refine va_get (D := (dC, dI)) (ci := 0) (v := .ref a_enc) (C := "ScanCoder") (T := T_0) (N := 9) hx hb hts n0 hown hK hP 0 rfl rfl 7 (by decide) k1 (fun _ h9 => h9) rfl d_m537_9 ?_
    refine lv_aload_n hx hb d_m537_12 rfl (lv_at hl 0 rfl) ?_
    refine va_get (D := (dC, dI)) (ci := 0) (v := .ref a_wr) (C := "ScanCoder") (T := T_0) (N := 9) hx hb hts n0 hown hK hP 0 rfl rfl 6 (by decide) k0 (fun _ h9 => h9) rfl d_m537_13 ?_
    obtain ⟨z2, hz2, hf⟩ := ob_bind hf
    refine g_callv (wc := (w_Encoder_encode_wr cI cB cS cT a_pic a_pic_co a_crs a_crs_ow a_crs_pl a_crs_dt a_crs_ot a_sto a_sto_b a_wr a_enc a_enc_p a_enc_r a_tbs a_pic_h a_pic_v a_pic_ac a_pic_dn a_pic_oa a_pic_od a_pic_st a_enc_sink pic_many pic_unitsAcross pic_unitsDown pic_blocks n_pic_co pic_co crs_kind crs_first crs_last crs_bits crs_interval crs_units crs_blocksOfUnit crs_laid crs_ow crs_pl crs_dt crs_ot sto_length n_sto_b sto_b z1.1 z1.2.1 z1.2.2.1 z1.2.2.2.1 z1.2.2.2.2 enc_run enc_held enc_runTable enc_p enc_r ta tw ts tf tx vw vs vf vx ve vz)) (w1 := (w_Encoder_encode_wr cI cB cS cT a_pic a_pic_co a_crs a_crs_ow a_crs_pl a_crs_dt a_crs_ot a_sto a_sto_b a_wr a_enc a_enc_p a_enc_r a_tbs a_pic_h a_pic_v a_pic_ac a_pic_dn a_pic_oa a_pic_od a_pic_st a_wr pic_many pic_unitsAcross pic_unitsDown pic_blocks n_pic_co pic_co crs_kind crs_first crs_last crs_bits crs_interval crs_units crs_blocksOfUnit crs_laid crs_ow crs_pl crs_dt crs_ot sto_length n_sto_b z2.1 z1.1 z2.2.1 z2.2.2.1 z2.2.2.2.1 z2.2.2.2.2.1 z2.2.2.2.2.2.1 z2.2.2.2.2.2.2.1 z2.2.2.2.2.2.2.2.1 z2.2.2.2.2.2.2.2.2.1 z2.2.2.2.2.2.2.2.2.2 ta tw ts tf tx vw vs vf vx ve vz)) (w2 := (w_SC_write cI cB cS cT a_sc a_pic a_pic_co a_crs a_crs_ow a_crs_pl a_crs_dt a_crs_ot a_sto a_sto_b a_wr a_enc a_enc_p a_enc_r a_tbs a_drf a_cnt a_dec a_pic_h a_pic_v a_pic_ac a_pic_dn a_pic_oa a_pic_od a_pic_st a_wr pic_many pic_unitsAcross pic_unitsDown pic_blocks n_pic_co pic_co crs_kind crs_first crs_last crs_bits crs_interval crs_units crs_blocksOfUnit crs_laid crs_ow crs_pl crs_dt crs_ot sto_length n_sto_b z2.1 z1.1 z2.2.1 z2.2.2.1 z2.2.2.2.1 z2.2.2.2.2.1 z2.2.2.2.2.2.1 z2.2.2.2.2.2.2.1 z2.2.2.2.2.2.2.2.1 z2.2.2.2.2.2.2.2.2.1 z2.2.2.2.2.2.2.2.2.2 ta tw ts tf tx vw vs vf vx ve vz)) [1, 2, 3, 4, 5, 6, 7, 8, 9, 10, 11, 12, 13, 14, 15, 16, 17, 18, 19, 20, 21, 22, 23, 24, 25, 26, 27, 28, 29, 30, 31, 32, 33, 34, 35, 36, 37, 38, 39, 40, 41, 42, 43, 44, 45, 46, 47, 48, 49, 50, 51, 52, 53, 54] [none, some 0, some 1, some 2, some 3, some 4, some 5, some 6, some 7, some 8, some 9, some 10, some 11, some 12, some 13, some 14, some 15, some 16, some 17, some 18, some 19, some 20, some 21, some 22, some 23, some 24, some 25, some 26, some 27, some 28, some 29, some 30, some 31, some 32, some 33, some 34, some 35, some 36, some 37, some 38, some 39, some 40, some 41, some 42, some 43, some 44, some 45, some 46, some 47, some 48, some 49, some 50, some 51, some 52, some 53] hP hD hS hA rfl rfl rfl rfl (va_runV (As := [.ref a_wr]) (rest := []) ⟨hx, hb, hml, hown, hts⟩ (c_Encoder_encode_wr l dC dI cI cB cS cT N a_pic a_pic_co a_crs a_crs_ow a_crs_pl a_crs_dt a_crs_ot a_sto a_sto_b a_wr a_enc a_enc_p a_enc_r a_tbs a_pic_h a_pic_v a_pic_ac a_pic_dn a_pic_oa a_pic_od a_pic_st a_enc_sink pic_many pic_unitsAcross pic_unitsDown pic_blocks n_pic_co pic_co crs_kind crs_first crs_last crs_bits crs_interval crs_units crs_blocksOfUnit crs_laid crs_ow crs_pl crs_dt crs_ot sto_length n_sto_b sto_b z1.1 z1.2.1 z1.2.2.1 z1.2.2.2.1 z1.2.2.2.2 enc_run enc_held enc_runTable enc_p enc_r ta tw ts tf tx vw vs vf vx ve vz H.size z2 hz2) ⟨(callB_of 1 hts (gi tw_545 rfl) rfl rfl rfl (hts _ (List.mem_cons_of_mem _ tw_13)) (hts _ (List.mem_cons_of_mem _ tw_542)) (by decide +kernel) ⟨Nat.le_of_ble_eq_true rfl, Nat.le_of_ble_eq_true rfl⟩), hts _ (List.mem_cons_of_mem _ tw_543), hts _ (List.mem_cons_of_mem _ tw_544)⟩ ⟨g_blind, va_recv hK hP (ci := 7) (q0 := 11) rfl rfl, g_at hKN (g_pm hP [1, 2, 3, 4, 5, 6, 7, 8, 9, 10, 11, 12, 13, 14, 15, 16, 17, 18, 19, 20, 21, 22, 23, 24, 25, 26, 27, 28, 29, 30, 31, 32, 33, 34, 35, 36, 37, 38, 39, 40, 41, 42, 43, 44, 45, 46, 47, 48, 49, 50, 51, 52, 53, 54] rfl) (hD.sub [1, 2, 3, 4, 5, 6, 7, 8, 9, 10, 11, 12, 13, 14, 15, 16, 17, 18, 19, 20, 21, 22, 23, 24, 25, 26, 27, 28, 29, 30, 31, 32, 33, 34, 35, 36, 37, 38, 39, 40, 41, 42, 43, 44, 45, 46, 47, 48, 49, 50, 51, 52, 53, 54] (by decide) rfl)⟩ rfl rfl hl.1 rfl (lv_room (Nat.le_of_ble_eq_true rfl)) d_m537_16 ⟨Nat.zero_le _, Nat.zero_le _⟩) (fun H locs hP hD hS => ?_)
    refine W.eq (g2 := F0 m 19 ls []) rfl ?_
    refine lv_aload_n hx hb d_m537_19 rfl (lv_at hl 0 rfl) ?_
    refine va_get (D := (dC, dI)) (ci := 0) (v := .ref a_wr) (C := "ScanCoder") (T := T_0) (N := 9) hx hb hts n0 hown hK hP 0 rfl rfl 6 (by decide) k0 (fun _ h9 => h9) rfl d_m537_20 ?_
    refine va_get (D := (dC, dI)) (ci := 2) (v := .int z2.2.2.2.2.1) (C := "ScanCoder$BitWriter") (T := T_2) (N := 7) hx hb hts n1 hown hK hP 10 rfl rfl 6 (by decide) k2 (fun _ h9 => h9) rfl d_m537_23 ?_
    refine lv_if_ne (tgt := 42) hx hb d_m537_26 (by decide) (fun hc => ?_) (fun hc => ?_)
    · replace hf := (if_neg hc).symm.trans hf
      refine W.widen (k := 1) (n := ms) (Nat.zero_le _) (Nat.zero_le _) ?_
      refine lv_iconst (v := (-1 : Int32)) hx hb d_m537_42 (by decide) ?_
      obtain rfl := Option.some.inj hf
      subst hQ
      subst hAe
      exact W.iret (v := (-1 : Int32)) hx hb hr (fun t ht hW => ⟨⟨(-1 : Int32), a_sto_b, rfl, rfl, by rw [ht]; exact hP, hD⟩, hS.F ht⟩) hS.2.2 d_m537_43
    · replace hf := (if_pos hc).symm.trans hf
      refine lv_aload_n hx hb d_m537_29 rfl (lv_at hl 0 rfl) ?_
      refine va_get (D := (dC, dI)) (ci := 0) (v := .ref a_wr) (C := "ScanCoder") (T := T_0) (N := 9) hx hb hts n0 hown hK hP 0 rfl rfl 6 (by decide) k0 (fun _ h9 => h9) rfl d_m537_30 ?_
      refine va_get (D := (dC, dI)) (ci := 2) (v := .int z2.2.2.2.1) (C := "ScanCoder$BitWriter") (T := T_2) (N := 7) hx hb hts n1 hown hK hP 10 rfl rfl 5 (by decide) k3 (fun _ h9 => h9) rfl d_m537_33 ?_
      refine lv_sipush (v := (16384 : Int32)) hx hb d_m537_36 (by decide) ?_
      refine lv_icmp_le (tgt := 44) hx hb d_m537_39 (by decide) (fun hc => ?_) (fun hc => ?_)
      · replace hf := (if_pos hc).symm.trans hf
        refine lv_aload_n hx hb d_m537_44 rfl (lv_at hl 0 rfl) ?_
        refine va_get (D := (dC, dI)) (ci := 0) (v := .ref a_sto) (C := "ScanCoder") (T := T_0) (N := 9) hx hb hts n0 hown hK hP 0 rfl rfl 4 (by decide) k4 (fun _ h9 => h9) rfl d_m537_45 ?_
        refine lv_aload_n hx hb d_m537_48 rfl (lv_at hl 0 rfl) ?_
        refine va_get (D := (dC, dI)) (ci := 0) (v := .ref a_wr) (C := "ScanCoder") (T := T_0) (N := 9) hx hb hts n0 hown hK hP 0 rfl rfl 6 (by decide) k0 (fun _ h9 => h9) rfl d_m537_49 ?_
        refine va_get (D := (dC, dI)) (ci := 2) (v := .int z2.2.2.2.1) (C := "ScanCoder$BitWriter") (T := T_2) (N := 7) hx hb hts n1 hown hK hP 10 rfl rfl 5 (by decide) k3 (fun _ h9 => h9) rfl d_m537_52 ?_
        obtain ⟨z3, hz3, hf⟩ := ob_bind hf
        refine g_callAv (U := Nat) (wc := (w_Store_reserve cI cB cS cT a_sto a_sto_b sto_length n_sto_b z2.1)) (w1 := fun u3 => (w_Store_reserve cI cB cS cT a_sto u3 sto_length z3.1 z3.2)) (w2 := fun u3 => (w_SC_write cI cB cS cT a_sc a_pic a_pic_co a_crs a_crs_ow a_crs_pl a_crs_dt a_crs_ot a_sto u3 a_wr a_enc a_enc_p a_enc_r a_tbs a_drf a_cnt a_dec a_pic_h a_pic_v a_pic_ac a_pic_dn a_pic_oa a_pic_od a_pic_st a_wr pic_many pic_unitsAcross pic_unitsDown pic_blocks n_pic_co pic_co crs_kind crs_first crs_last crs_bits crs_interval crs_units crs_blocksOfUnit crs_laid crs_ow crs_pl crs_dt crs_ot sto_length z3.1 z3.2 z1.1 z2.2.1 z2.2.2.1 z2.2.2.2.1 z2.2.2.2.2.1 z2.2.2.2.2.2.1 z2.2.2.2.2.2.2.1 z2.2.2.2.2.2.2.2.1 z2.2.2.2.2.2.2.2.2.1 z2.2.2.2.2.2.2.2.2.2 ta tw ts tf tx vw vs vf vx ve vz)) [8, 9] [none, none, none, none, none, none, none, none, some 0, some 1, none, none, none, none, none, none, none, none, none, none, none, none, none, none, none, none, none, none, none, none, none, none, none, none, none, none, none, none, none, none, none, none, none, none, none, none, none, none, none, none, none, none, none, none, none] hP hD hS hA rfl (fun _ => rfl) rfl rfl (va_runV (As := [.int z2.2.2.2.1]) (rest := []) ⟨hx, hb, hml, hown, hts⟩ (c_Store_reserve l dC dI cI cB cS cT ms a_sto a_sto_b sto_length n_sto_b z2.1 z2.2.2.2.1 H.size z3 hz3) ⟨(callB_of 1 hts (gi tw_641 rfl) rfl rfl rfl (hts _ (List.mem_cons_of_mem _ tw_9)) (hts _ (List.mem_cons_of_mem _ tw_638)) (by decide +kernel) ⟨Nat.le_of_ble_eq_true rfl, Nat.le_of_ble_eq_true rfl⟩), hts _ (List.mem_cons_of_mem _ tw_639), hts _ (List.mem_cons_of_mem _ tw_640)⟩ ⟨g_blind, va_recv hK hP (ci := 9) (q0 := 8) rfl rfl, g_at hKN (g_pm hP [8, 9] rfl) (hD.sub [8, 9] (by decide) rfl)⟩ rfl rfl hl.1 rfl (lv_room (Nat.le_of_ble_eq_true rfl)) d_m537_55 ⟨Nat.le_of_ble_eq_true rfl, Nat.le_of_eq (Nat.zero_add _)⟩) (fun u3 H locs hP hD hS => ?_)
        refine W.widen (k := 1) (n := ms) (Nat.le_of_ble_eq_true rfl) (Nat.le_of_eq (Nat.zero_add _)) ?_
        have hP : va_P (dC, dI) vwCl (w_SC_write cI cB cS cT a_sc a_pic a_pic_co a_crs a_crs_ow a_crs_pl a_crs_dt a_crs_ot a_sto u3 a_wr a_enc a_enc_p a_enc_r a_tbs a_drf a_cnt a_dec a_pic_h a_pic_v a_pic_ac a_pic_dn a_pic_oa a_pic_od a_pic_st a_wr pic_many pic_unitsAcross pic_unitsDown pic_blocks n_pic_co pic_co crs_kind crs_first crs_last crs_bits crs_interval crs_units crs_blocksOfUnit crs_laid crs_ow crs_pl crs_dt crs_ot sto_length z3.1 z3.2 z1.1 z2.2.1 z2.2.2.1 z2.2.2.2.1 z2.2.2.2.2.1 z2.2.2.2.2.2.1 z2.2.2.2.2.2.2.1 z2.2.2.2.2.2.2.2.1 z2.2.2.2.2.2.2.2.2.1 z2.2.2.2.2.2.2.2.2.2 ta tw ts tf tx vw vs vf vx ve vz) H := hP
        have hD : va_D A (w_SC_write cI cB cS cT a_sc a_pic a_pic_co a_crs a_crs_ow a_crs_pl a_crs_dt a_crs_ot a_sto u3 a_wr a_enc a_enc_p a_enc_r a_tbs a_drf a_cnt a_dec a_pic_h a_pic_v a_pic_ac a_pic_dn a_pic_oa a_pic_od a_pic_st a_wr pic_many pic_unitsAcross pic_unitsDown pic_blocks n_pic_co pic_co crs_kind crs_first crs_last crs_bits crs_interval crs_units crs_blocksOfUnit crs_laid crs_ow crs_pl crs_dt crs_ot sto_length z3.1 z3.2 z1.1 z2.2.1 z2.2.2.1 z2.2.2.2.1 z2.2.2.2.2.1 z2.2.2.2.2.2.1 z2.2.2.2.2.2.2.1 z2.2.2.2.2.2.2.2.1 z2.2.2.2.2.2.2.2.2.1 z2.2.2.2.2.2.2.2.2.2 ta tw ts tf tx vw vs vf vx ve vz) := hD
        refine W.eq (g2 := F0 m 58 ls []) rfl ?_
        refine lv_aload_n hx hb d_m537_58 rfl (lv_at hl 0 rfl) ?_
        refine va_get (D := (dC, dI)) (ci := 0) (v := .ref a_wr) (C := "ScanCoder") (T := T_0) (N := 9) hx hb hts n0 hown hK hP 0 rfl rfl 6 (by decide) k0 (fun _ h9 => h9) rfl d_m537_59 ?_
        refine lv_iconst (v := (1 : Int32)) hx hb d_m537_62 (by decide) ?_
        obtain ⟨z4, hz4, hf⟩ := ob_bind hf
        refine g_callv (wc := (w_BitWriter_begin cI cB cS cT a_wr a_tbs a_sto z1.1 z2.2.1 z2.2.2.1 z2.2.2.2.1 z2.2.2.2.2.1)) (w1 := (w_BitWriter_begin cI cB cS cT a_wr a_tbs a_sto z4.1 z4.2.1 z4.2.2.1 z4.2.2.2.1 z4.2.2.2.2)) (w2 := (w_SC_write cI cB cS cT a_sc a_pic a_pic_co a_crs a_crs_ow a_crs_pl a_crs_dt a_crs_ot a_sto u3 a_wr a_enc a_enc_p a_enc_r a_tbs a_drf a_cnt a_dec a_pic_h a_pic_v a_pic_ac a_pic_dn a_pic_oa a_pic_od a_pic_st a_wr pic_many pic_unitsAcross pic_unitsDown pic_blocks n_pic_co pic_co crs_kind crs_first crs_last crs_bits crs_interval crs_units crs_blocksOfUnit crs_laid crs_ow crs_pl crs_dt crs_ot sto_length z3.1 z3.2 z4.1 z4.2.1 z4.2.2.1 z4.2.2.2.1 z4.2.2.2.2 z2.2.2.2.2.2.1 z2.2.2.2.2.2.2.1 z2.2.2.2.2.2.2.2.1 z2.2.2.2.2.2.2.2.2.1 z2.2.2.2.2.2.2.2.2.2 ta tw ts tf tx vw vs vf vx ve vz)) [10] [none, none, none, none, none, none, none, none, none, none, some 0, none, none, none, none, none, none, none, none, none, none, none, none, none, none, none, none, none, none, none, none, none, none, none, none, none, none, none, none, none, none, none, none, none, none, none, none, none, none, none, none, none, none, none, none] hP hD hS hA rfl rfl rfl rfl (va_runV (As := [.int (1 : Int32)]) (rest := []) ⟨hx, hb, hml, hown, hts⟩ (c_BitWriter_begin l dC dI cI cB cS cT a_wr a_tbs a_sto z1.1 z2.2.1 z2.2.2.1 z2.2.2.2.1 z2.2.2.2.2.1 (1 : Int32) H.size z4 hz4) ⟨(callB_of 1 hts (gi tw_541 rfl) rfl rfl rfl (hts _ (List.mem_cons_of_mem _ tw_12)) (hts _ (List.mem_cons_of_mem _ tw_538)) (by decide +kernel) ⟨Nat.le_of_ble_eq_true rfl, Nat.le_of_ble_eq_true rfl⟩), hts _ (List.mem_cons_of_mem _ tw_539), hts _ (List.mem_cons_of_mem _ tw_540)⟩ ⟨g_blind, va_recv hK hP (ci := 2) (q0 := 10) rfl rfl, g_at hKN (g_pm hP [10] rfl) (hD.sub [10] (by decide) rfl)⟩ rfl rfl hl.1 rfl (lv_room (Nat.le_of_ble_eq_true rfl)) d_m537_63 ⟨Nat.le_of_ble_eq_true rfl, Nat.le_refl _⟩) (fun H locs hP hD hS => ?_)
        refine W.eq (g2 := F0 m 66 ls []) rfl ?_
        refine lv_aload_n hx hb d_m537_66 rfl (lv_at hl 0 rfl) ?_
        refine va_get (D := (dC, dI)) (ci := 0) (v := .ref a_enc) (C := "ScanCoder") (T := T_0) (N := 9) hx hb hts n0 hown hK hP 0 rfl rfl 7 (by decide) k1 (fun _ h9 => h9) rfl d_m537_67 ?_
        refine lv_aload_n hx hb d_m537_70 rfl (lv_at hl 0 rfl) ?_
        refine va_get (D := (dC, dI)) (ci := 0) (v := .ref a_wr) (C := "ScanCoder") (T := T_0) (N := 9) hx hb hts n0 hown hK hP 0 rfl rfl 6 (by decide) k0 (fun _ h9 => h9) rfl d_m537_71 ?_
        obtain ⟨z5, hz5, hf⟩ := ob_bind hf
        refine g_callv (wc := (w_Encoder_encode_wr cI cB cS cT a_pic a_pic_co a_crs a_crs_ow a_crs_pl a_crs_dt a_crs_ot a_sto u3 a_wr a_enc a_enc_p a_enc_r a_tbs a_pic_h a_pic_v a_pic_ac a_pic_dn a_pic_oa a_pic_od a_pic_st a_wr pic_many pic_unitsAcross pic_unitsDown pic_blocks n_pic_co pic_co crs_kind crs_first crs_last crs_bits crs_interval crs_units crs_blocksOfUnit crs_laid crs_ow crs_pl crs_dt crs_ot sto_length z3.1 z3.2 z4.1 z4.2.1 z4.2.2.1 z4.2.2.2.1 z4.2.2.2.2 z2.2.2.2.2.2.1 z2.2.2.2.2.2.2.1 z2.2.2.2.2.2.2.2.1 z2.2.2.2.2.2.2.2.2.1 z2.2.2.2.2.2.2.2.2.2 ta tw ts tf tx vw vs vf vx ve vz)) (w1 := (w_Encoder_encode_wr cI cB cS cT a_pic a_pic_co a_crs a_crs_ow a_crs_pl a_crs_dt a_crs_ot a_sto u3 a_wr a_enc a_enc_p a_enc_r a_tbs a_pic_h a_pic_v a_pic_ac a_pic_dn a_pic_oa a_pic_od a_pic_st a_wr pic_many pic_unitsAcross pic_unitsDown pic_blocks n_pic_co pic_co crs_kind crs_first crs_last crs_bits crs_interval crs_units crs_blocksOfUnit crs_laid crs_ow crs_pl crs_dt crs_ot sto_length z3.1 z5.1 z4.1 z5.2.1 z5.2.2.1 z5.2.2.2.1 z5.2.2.2.2.1 z5.2.2.2.2.2.1 z5.2.2.2.2.2.2.1 z5.2.2.2.2.2.2.2.1 z5.2.2.2.2.2.2.2.2.1 z5.2.2.2.2.2.2.2.2.2 ta tw ts tf tx vw vs vf vx ve vz)) (w2 := (w_SC_write cI cB cS cT a_sc a_pic a_pic_co a_crs a_crs_ow a_crs_pl a_crs_dt a_crs_ot a_sto u3 a_wr a_enc a_enc_p a_enc_r a_tbs a_drf a_cnt a_dec a_pic_h a_pic_v a_pic_ac a_pic_dn a_pic_oa a_pic_od a_pic_st a_wr pic_many pic_unitsAcross pic_unitsDown pic_blocks n_pic_co pic_co crs_kind crs_first crs_last crs_bits crs_interval crs_units crs_blocksOfUnit crs_laid crs_ow crs_pl crs_dt crs_ot sto_length z3.1 z5.1 z4.1 z5.2.1 z5.2.2.1 z5.2.2.2.1 z5.2.2.2.2.1 z5.2.2.2.2.2.1 z5.2.2.2.2.2.2.1 z5.2.2.2.2.2.2.2.1 z5.2.2.2.2.2.2.2.2.1 z5.2.2.2.2.2.2.2.2.2 ta tw ts tf tx vw vs vf vx ve vz)) [1, 2, 3, 4, 5, 6, 7, 8, 9, 10, 11, 12, 13, 14, 15, 16, 17, 18, 19, 20, 21, 22, 23, 24, 25, 26, 27, 28, 29, 30, 31, 32, 33, 34, 35, 36, 37, 38, 39, 40, 41, 42, 43, 44, 45, 46, 47, 48, 49, 50, 51, 52, 53, 54] [none, some 0, some 1, some 2, some 3, some 4, some 5, some 6, some 7, some 8, some 9, some 10, some 11, some 12, some 13, some 14, some 15, some 16, some 17, some 18, some 19, some 20, some 21, some 22, some 23, some 24, some 25, some 26, some 27, some 28, some 29, some 30, some 31, some 32, some 33, some 34, some 35, some 36, some 37, some 38, some 39, some 40, some 41, some 42, some 43, some 44, some 45, some 46, some 47, some 48, some 49, some 50, some 51, some 52, some 53] hP hD hS hA rfl rfl rfl rfl (va_runV (As := [.ref a_wr]) (rest := []) ⟨hx, hb, hml, hown, hts⟩ (c_Encoder_encode_wr l dC dI cI cB cS cT N a_pic a_pic_co a_crs a_crs_ow a_crs_pl a_crs_dt a_crs_ot a_sto u3 a_wr a_enc a_enc_p a_enc_r a_tbs a_pic_h a_pic_v a_pic_ac a_pic_dn a_pic_oa a_pic_od a_pic_st a_wr pic_many pic_unitsAcross pic_unitsDown pic_blocks n_pic_co pic_co crs_kind crs_first crs_last crs_bits crs_interval crs_units crs_blocksOfUnit crs_laid crs_ow crs_pl crs_dt crs_ot sto_length z3.1 z3.2 z4.1 z4.2.1 z4.2.2.1 z4.2.2.2.1 z4.2.2.2.2 z2.2.2.2.2.2.1 z2.2.2.2.2.2.2.1 z2.2.2.2.2.2.2.2.1 z2.2.2.2.2.2.2.2.2.1 z2.2.2.2.2.2.2.2.2.2 ta tw ts tf tx vw vs vf vx ve vz H.size z5 hz5) ⟨(callB_of 1 hts (gi tw_545 rfl) rfl rfl rfl (hts _ (List.mem_cons_of_mem _ tw_13)) (hts _ (List.mem_cons_of_mem _ tw_542)) (by decide +kernel) ⟨Nat.le_of_ble_eq_true rfl, Nat.le_of_ble_eq_true rfl⟩), hts _ (List.mem_cons_of_mem _ tw_543), hts _ (List.mem_cons_of_mem _ tw_544)⟩ ⟨g_blind, va_recv hK hP (ci := 7) (q0 := 11) rfl rfl, g_at hKN (g_pm hP [1, 2, 3, 4, 5, 6, 7, 8, 9, 10, 11, 12, 13, 14, 15, 16, 17, 18, 19, 20, 21, 22, 23, 24, 25, 26, 27, 28, 29, 30, 31, 32, 33, 34, 35, 36, 37, 38, 39, 40, 41, 42, 43, 44, 45, 46, 47, 48, 49, 50, 51, 52, 53, 54] rfl) (hD.sub [1, 2, 3, 4, 5, 6, 7, 8, 9, 10, 11, 12, 13, 14, 15, 16, 17, 18, 19, 20, 21, 22, 23, 24, 25, 26, 27, 28, 29, 30, 31, 32, 33, 34, 35, 36, 37, 38, 39, 40, 41, 42, 43, 44, 45, 46, 47, 48, 49, 50, 51, 52, 53, 54] (by decide) rfl)⟩ rfl rfl hl.1 rfl (lv_room (Nat.le_of_ble_eq_true rfl)) d_m537_74 ⟨Nat.le_of_ble_eq_true rfl, Nat.le_refl _⟩) (fun H locs hP hD hS => ?_)
        refine W.eq (g2 := F0 m 77 ls []) rfl ?_
        refine lv_aload_n hx hb d_m537_77 rfl (lv_at hl 0 rfl) ?_
        refine va_get (D := (dC, dI)) (ci := 0) (v := .ref a_sto) (C := "ScanCoder") (T := T_0) (N := 9) hx hb hts n0 hown hK hP 0 rfl rfl 4 (by decide) k4 (fun _ h9 => h9) rfl d_m537_78 ?_
        refine lv_aload_n hx hb d_m537_81 rfl (lv_at hl 0 rfl) ?_
        refine va_get (D := (dC, dI)) (ci := 0) (v := .ref a_wr) (C := "ScanCoder") (T := T_0) (N := 9) hx hb hts n0 hown hK hP 0 rfl rfl 6 (by decide) k0 (fun _ h9 => h9) rfl d_m537_82 ?_
        refine va_get (D := (dC, dI)) (ci := 2) (v := .int z5.2.2.2.1) (C := "ScanCoder$BitWriter") (T := T_2) (N := 7) hx hb hts n1 hown hK hP 10 rfl rfl 5 (by decide) k3 (fun _ h9 => h9) rfl d_m537_85 ?_
        refine va_put (D := (dC, dI)) (ci := 9) (v := .int z5.2.2.2.1) (ty := .int) (C := "ScanCoder$Store") (T := T_9) (N := 2) hx hb hts n2 ty_9 tyok_9 nm_9 hown hK hP hD hS 8 rfl rfl 1 (by decide) k5 (fun _ h9 => h9) rfl (by decide +kernel) rfl rfl (Nat.le_of_ble_eq_true rfl) d_m537_88 (fun H locs hP hD hS => ?_)
        have hP : va_P (dC, dI) vwCl (w_SC_write cI cB cS cT a_sc a_pic a_pic_co a_crs a_crs_ow a_crs_pl a_crs_dt a_crs_ot a_sto u3 a_wr a_enc a_enc_p a_enc_r a_tbs a_drf a_cnt a_dec a_pic_h a_pic_v a_pic_ac a_pic_dn a_pic_oa a_pic_od a_pic_st a_wr pic_many pic_unitsAcross pic_unitsDown pic_blocks n_pic_co pic_co crs_kind crs_first crs_last crs_bits crs_interval crs_units crs_blocksOfUnit crs_laid crs_ow crs_pl crs_dt crs_ot z5.2.2.2.1 z3.1 z5.1 z4.1 z5.2.1 z5.2.2.1 z5.2.2.2.1 z5.2.2.2.2.1 z5.2.2.2.2.2.1 z5.2.2.2.2.2.2.1 z5.2.2.2.2.2.2.2.1 z5.2.2.2.2.2.2.2.2.1 z5.2.2.2.2.2.2.2.2.2 ta tw ts tf tx vw vs vf vx ve vz) H := hP
        have hD : va_D A (w_SC_write cI cB cS cT a_sc a_pic a_pic_co a_crs a_crs_ow a_crs_pl a_crs_dt a_crs_ot a_sto u3 a_wr a_enc a_enc_p a_enc_r a_tbs a_drf a_cnt a_dec a_pic_h a_pic_v a_pic_ac a_pic_dn a_pic_oa a_pic_od a_pic_st a_wr pic_many pic_unitsAcross pic_unitsDown pic_blocks n_pic_co pic_co crs_kind crs_first crs_last crs_bits crs_interval crs_units crs_blocksOfUnit crs_laid crs_ow crs_pl crs_dt crs_ot z5.2.2.2.1 z3.1 z5.1 z4.1 z5.2.1 z5.2.2.1 z5.2.2.2.1 z5.2.2.2.2.1 z5.2.2.2.2.2.1 z5.2.2.2.2.2.2.1 z5.2.2.2.2.2.2.2.1 z5.2.2.2.2.2.2.2.2.1 z5.2.2.2.2.2.2.2.2.2 ta tw ts tf tx vw vs vf vx ve vz) := hD
        refine lv_aload_n hx hb d_m537_91 rfl (lv_at hl 0 rfl) ?_
        refine va_get (D := (dC, dI)) (ci := 0) (v := .ref a_sto) (C := "ScanCoder") (T := T_0) (N := 9) hx hb hts n0 hown hK hP 0 rfl rfl 4 (by decide) k4 (fun _ h9 => h9) rfl d_m537_92 ?_
        refine va_get (D := (dC, dI)) (ci := 9) (v := .int z5.2.2.2.1) (C := "ScanCoder$Store") (T := T_9) (N := 2) hx hb hts n2 hown hK hP 8 rfl rfl 1 (by decide) k5 (fun _ h9 => h9) rfl d_m537_95 ?_
        obtain rfl := Option.some.inj hf
        subst hQ
        subst hAe
        exact W.iret (v := z5.2.2.2.1) hx hb hr (fun t ht hW => ⟨⟨z5.2.2.2.1, u3, rfl, rfl, by rw [ht]; exact hP, hD⟩, hS.F ht⟩) hS.2.2 d_m537_98
      · replace hf := (if_neg hc).symm.trans hf
        refine W.widen (k := 1) (n := ms) (Nat.zero_le _) (Nat.zero_le _) ?_
        refine lv_iconst (v := (-1 : Int32)) hx hb d_m537_42 (by decide) ?_
        obtain rfl := Option.some.inj hf
        subst hQ
        subst hAe
        exact W.iret (v := (-1 : Int32)) hx hb hr (fun t ht hW => ⟨⟨(-1 : Int32), a_sto_b, rfl, rfl, by rw [ht]; exact hP, hD⟩, hS.F ht⟩) hS.2.2 d_m537_43
  exact hgo _ _ hP hS

def f_SC_read (N : Nat) (n_pic_co : Nat) (pic_co : Nat → Int32) (crs_kind : Int32) (crs_first : Int32) (crs_last : Int32) (crs_bits : Int32) (crs_interval : Int32) (crs_units : Int32) (crs_blocksOfUnit : Int32) (crs_ow : Nat → Int32) (crs_pl : Nat → Int32) (crs_dt : Nat → Int32) (crs_ot : Nat → Int32) (sto_length : Int32) (n_sto_b : Nat) (sto_b : Nat → Int32) (dec_p : Nat → Int32) (vs : Nat → Nat → Int32) (vf : Nat → Nat → Int32) (vx : Nat → Nat → Int32) (ve : Nat → Int32) : Option (Int32 × (Nat → Int32) × Int32 × Int32 × Int32 × Int32 × Int32 × Int32 × (Nat → Int32)) :=
  (f_Decoder_decode N (0 : Int32) n_pic_co pic_co crs_kind crs_first crs_last crs_bits crs_interval crs_units crs_blocksOfUnit crs_ow crs_pl crs_dt crs_ot sto_length n_sto_b sto_b dec_p vs vf vx ve).bind fun z1 =>
  if z1.1 = 0 then
    (f_Decoder_decode N (1 : Int32) n_pic_co z1.2.1 crs_kind crs_first crs_last crs_bits crs_interval crs_units crs_blocksOfUnit crs_ow crs_pl crs_dt crs_ot sto_length n_sto_b sto_b z1.2.2.2.2.2.2.2.2 vs vf vx ve).bind fun z2 =>
    some (z2.1, z2.2.1, z2.2.2.1, z2.2.2.2.1, z2.2.2.2.2.1, z2.2.2.2.2.2.1, z2.2.2.2.2.2.2.1, z2.2.2.2.2.2.2.2.1, z2.2.2.2.2.2.2.2.2)
  else
    some (z1.1, z1.2.1, z1.2.2.1, z1.2.2.2.1, z1.2.2.2.2.1, z1.2.2.2.2.2.1, z1.2.2.2.2.2.2.1, z1.2.2.2.2.2.2.2.1, z1.2.2.2.2.2.2.2.2)
abbrev w_SC_read (cI cB cS cT : ClassId) (a_sc : Nat) (a_pic : Nat) (a_pic_co : Nat) (a_crs : Nat) (a_crs_ow : Nat) (a_crs_pl : Nat) (a_crs_dt : Nat) (a_crs_ot : Nat) (a_sto : Nat) (a_sto_b : Nat) (a_rd : Nat) (a_dec : Nat) (a_dec_p : Nat) (a_tbs : Nat) (a_drf : Nat) (a_cnt : Nat) (a_wr : Nat) (a_enc : Nat) (a_pic_h : Nat) (a_pic_v : Nat) (a_pic_ac : Nat) (a_pic_dn : Nat) (a_pic_oa : Nat) (a_pic_od : Nat) (a_pic_st : Nat) (pic_many : Int32) (pic_unitsAcross : Int32) (pic_unitsDown : Int32) (pic_blocks : Int32) (n_pic_co : Nat) (pic_co : Nat → Int32) (crs_kind : Int32) (crs_first : Int32) (crs_last : Int32) (crs_bits : Int32) (crs_interval : Int32) (crs_units : Int32) (crs_blocksOfUnit : Int32) (crs_laid : Int32) (crs_ow : Nat → Int32) (crs_pl : Nat → Int32) (crs_dt : Nat → Int32) (crs_ot : Nat → Int32) (sto_length : Int32) (n_sto_b : Nat) (sto_b : Nat → Int32) (rd_at : Int32) (rd_part : Int32) (rd_left : Int32) (rd_fault : Int32) (dec_keeps : Int32) (dec_run : Int32) (dec_p : Nat → Int32) (ta : Nat → Nat) (tw : Nat → Nat) (ts : Nat → Nat) (tf : Nat → Nat) (tx : Nat → Nat) (vw : Nat → Nat → Int32) (vs : Nat → Nat → Int32) (vf : Nat → Nat → Int32) (vx : Nat → Nat → Int32) (ve : Nat → Int32) (vz : Nat → Int32) : va_W := [(a_sc, .inr (0, [.ref a_pic, .ref a_crs, .ref a_drf, .ref a_tbs, .ref a_sto, .ref a_cnt, .ref a_wr, .ref a_enc, .ref a_dec])), (a_pic, .inr (8, [.ref a_pic_h, .ref a_pic_v, .ref a_pic_ac, .ref a_pic_dn, .ref a_pic_oa, .ref a_pic_od, .ref a_pic_st, .int pic_many, .int pic_unitsAcross, .int pic_unitsDown, .int pic_blocks, .ref a_pic_co])), (a_pic_co, .inl (cS, n_pic_co, .inl pic_co)), (a_crs, .inr (4, [.ref a_pic, .ref a_crs_ow, .ref a_crs_pl, .ref a_crs_dt, .ref a_crs_ot, .int crs_kind, .int crs_first, .int crs_last, .int crs_bits, .int crs_interval, .int crs_units, .int crs_blocksOfUnit, .int crs_laid])), (a_crs_ow, .inl (cI, 192, .inl crs_ow)), (a_crs_pl, .inl (cI, 192, .inl crs_pl)), (a_crs_dt, .inl (cI, 4, .inl crs_dt)), (a_crs_ot, .inl (cI, 4, .inl crs_ot)), (a_sto, .inr (9, [.ref a_sto_b, .int sto_length])), (a_sto_b, .inl (cB, n_sto_b, .inl sto_b)), (a_rd, .inr (1, [.ref a_sto, .int rd_at, .int rd_part, .int rd_left, .int rd_fault])), (a_dec, .inr (5, [.ref a_pic, .ref a_crs, .ref a_tbs, .ref a_rd, .ref a_dec_p, .int dec_keeps, .int dec_run])), (a_dec_p, .inl (cI, 4, .inl dec_p)), (a_tbs, .inl (cT, 8, .inr (.inr (.inr (.inr (fun i => some (ta i)))))))] ++ tbl 10 cI ta tw ts tf tx vw vs vf vx ve vz
def rm_SC_read : Room := { frames := 6, cells := 0, slots := 0, locals := 148 }
set_option maxHeartbeats 1000000 in
set_option maxRecDepth 100000 in
theorem c_SC_read (l : Launch) (dC : Nat → ClassId) (dI : Nat → Nat → Nat) (cI cB cS cT : ClassId) (N : Nat) (a_sc : Nat) (a_pic : Nat) (a_pic_co : Nat) (a_crs : Nat) (a_crs_ow : Nat) (a_crs_pl : Nat) (a_crs_dt : Nat) (a_crs_ot : Nat) (a_sto : Nat) (a_sto_b : Nat) (a_rd : Nat) (a_dec : Nat) (a_dec_p : Nat) (a_tbs : Nat) (a_drf : Nat) (a_cnt : Nat) (a_wr : Nat) (a_enc : Nat) (a_pic_h : Nat) (a_pic_v : Nat) (a_pic_ac : Nat) (a_pic_dn : Nat) (a_pic_oa : Nat) (a_pic_od : Nat) (a_pic_st : Nat) (pic_many : Int32) (pic_unitsAcross : Int32) (pic_unitsDown : Int32) (pic_blocks : Int32) (n_pic_co : Nat) (pic_co : Nat → Int32) (crs_kind : Int32) (crs_first : Int32) (crs_last : Int32) (crs_bits : Int32) (crs_interval : Int32) (crs_units : Int32) (crs_blocksOfUnit : Int32) (crs_laid : Int32) (crs_ow : Nat → Int32) (crs_pl : Nat → Int32) (crs_dt : Nat → Int32) (crs_ot : Nat → Int32) (sto_length : Int32) (n_sto_b : Nat) (sto_b : Nat → Int32) (rd_at : Int32) (rd_part : Int32) (rd_left : Int32) (rd_fault : Int32) (dec_keeps : Int32) (dec_run : Int32) (dec_p : Nat → Int32) (ta : Nat → Nat) (tw : Nat → Nat) (ts : Nat → Nat) (tf : Nat → Nat) (tx : Nat → Nat) (vw : Nat → Nat → Int32) (vs : Nat → Nat → Int32) (vf : Nat → Nat → Int32) (vx : Nat → Nat → Int32) (ve : Nat → Int32) (vz : Nat → Int32) (sz : Nat) (z : Int32 × (Nat → Int32) × Int32 × Int32 × Int32 × Int32 × Int32 × Int32 × (Nat → Int32)) (hf : f_SC_read N n_pic_co pic_co crs_kind crs_first crs_last crs_bits crs_interval crs_units crs_blocksOfUnit crs_ow crs_pl crs_dt crs_ot sto_length n_sto_b sto_b dec_p vs vf vx ve = some z) : Met l y_m659 ws_m659 rm_SC_read (gPre (dC, dI) [.ref a_sc] (gT cI cB cS cT) (w_SC_read cI cB cS cT a_sc a_pic a_pic_co a_crs a_crs_ow a_crs_pl a_crs_dt a_crs_ot a_sto a_sto_b a_rd a_dec a_dec_p a_tbs a_drf a_cnt a_wr a_enc a_pic_h a_pic_v a_pic_ac a_pic_dn a_pic_oa a_pic_od a_pic_st pic_many pic_unitsAcross pic_unitsDown pic_blocks n_pic_co pic_co crs_kind crs_first crs_last crs_bits crs_interval crs_units crs_blocksOfUnit crs_laid crs_ow crs_pl crs_dt crs_ot sto_length n_sto_b sto_b rd_at rd_part rd_left rd_fault dec_keeps dec_run dec_p ta tw ts tf tx vw vs vf vx ve vz) sz) (gQi (dC, dI) (gT cI cB cS cT) z.1 (w_SC_read cI cB cS cT a_sc a_pic a_pic_co a_crs a_crs_ow a_crs_pl a_crs_dt a_crs_ot a_sto a_sto_b a_rd a_dec a_dec_p a_tbs a_drf a_cnt a_wr a_enc a_pic_h a_pic_v a_pic_ac a_pic_dn a_pic_oa a_pic_od a_pic_st pic_many pic_unitsAcross pic_unitsDown pic_blocks n_pic_co pic_co crs_kind crs_first crs_last crs_bits crs_interval crs_units crs_blocksOfUnit crs_laid crs_ow crs_pl crs_dt crs_ot sto_length n_sto_b sto_b rd_at rd_part rd_left rd_fault dec_keeps dec_run dec_p ta tw ts tf tx vw vs vf vx ve vz) (w_SC_read cI cB cS cT a_sc a_pic a_pic_co a_crs a_crs_ow a_crs_pl a_crs_dt a_crs_ot a_sto a_sto_b a_rd a_dec a_dec_p a_tbs a_drf a_cnt a_wr a_enc a_pic_h a_pic_v a_pic_ac a_pic_dn a_pic_oa a_pic_od a_pic_st pic_many pic_unitsAcross pic_unitsDown pic_blocks n_pic_co z.2.1 crs_kind crs_first crs_last crs_bits crs_interval crs_units crs_blocksOfUnit crs_laid crs_ow crs_pl crs_dt crs_ot sto_length n_sto_b sto_b z.2.2.1 z.2.2.2.1 z.2.2.2.2.1 z.2.2.2.2.2.1 z.2.2.2.2.2.2.1 z.2.2.2.2.2.2.2.1 z.2.2.2.2.2.2.2.2 ta tw ts tf tx vw vs vf vx ve vz) sz) 0 0 (va_A (w_SC_read cI cB cS cT a_sc a_pic a_pic_co a_crs a_crs_ow a_crs_pl a_crs_dt a_crs_ot a_sto a_sto_b a_rd a_dec a_dec_p a_tbs a_drf a_cnt a_wr a_enc a_pic_h a_pic_v a_pic_ac a_pic_dn a_pic_oa a_pic_od a_pic_st pic_many pic_unitsAcross pic_unitsDown pic_blocks n_pic_co pic_co crs_kind crs_first crs_last crs_bits crs_interval crs_units crs_blocksOfUnit crs_laid crs_ow crs_pl crs_dt crs_ot sto_length n_sto_b sto_b rd_at rd_part rd_left rd_fault dec_keeps dec_run dec_p ta tw ts tf tx vw vs vf vx ve vz) sz) := by
  refine Met.ofW (cc := prog_1_method_12_code) (maxL := 2) (ret := (some .int)) (by decide) rfl ?_
  intro p e s m args below meth c s₁ B hml hv
  obtain ⟨hargs, hsz, hP, hKN, hD0⟩ := hv
  have hK := hKN.1
  have hx := B.exec
  have hb := B.bytes
  have hr := B.returns
  have hts := atoms_spec (ws := ws_m659) B.pre
  have hown : s.vm.findClass "ScanCoder" = some m.cls := findClass_of_methodNamed B.named
  have hlocks := B.notSynchronized
  have k0 := hts _ (List.mem_cons_of_mem _ tw_427)
  have n0 : ∀ w ∈ u_ws "ScanCoder" T_0 9, w ∈ ws_m659 := fun w h => List.mem_cons_of_mem _ (in_0 w h)
  subst hsz
  have hD := hD0.self (sz := s.heap.size)
  obtain ⟨A, hAe⟩ : ∃ A : Nat → Prop, va_A (w_SC_read cI cB cS cT a_sc a_pic a_pic_co a_crs a_crs_ow a_crs_pl a_crs_dt a_crs_ot a_sto a_sto_b a_rd a_dec a_dec_p a_tbs a_drf a_cnt a_wr a_enc a_pic_h a_pic_v a_pic_ac a_pic_dn a_pic_oa a_pic_od a_pic_st pic_many pic_unitsAcross pic_unitsDown pic_blocks n_pic_co pic_co crs_kind crs_first crs_last crs_bits crs_interval crs_units crs_blocksOfUnit crs_laid crs_ow crs_pl crs_dt crs_ot sto_length n_sto_b sto_b rd_at rd_part rd_left rd_fault dec_keeps dec_run dec_p ta tw ts tf tx vw vs vf vx ve vz) s.heap.size = A := ⟨_, rfl⟩
  rw [hAe] at hD
  have hA : ∀ q : Nat, s.heap.size ≤ q → A q := fun q h => by rw [← hAe]; exact Or.inr h
  have hS : va_S A s.heap s.heap [] := va_S.rf
  have hl := lv_entry ([.ref a_sc]) (n := 2) (Nat.le_of_ble_eq_true rfl)
  have hfr : entryFrame m args 2 = F0 m 0 ((lg_sl ([.ref a_sc]) ++ List.replicate (2 - (lg_sl ([.ref a_sc])).length) Slot.unset).toArray) [] := by rw [hargs]; exact lg_entry_eq _ _ _
  rw [hfr]
  generalize (lg_sl ([.ref a_sc]) ++ List.replicate (2 - (lg_sl ([.ref a_sc])).length) Slot.unset).toArray = ls at hl ⊢
  have hl : lv_has ls 2 [(0, .ref a_sc)] := hl
  refine gen_Q (fun Q hQ => ?_)
  clear hfr
  have hgo : ∀ (H : Heap) (locs : List Loc), va_P (dC, dI) vwCl (w_SC_read cI cB cS cT a_sc a_pic a_pic_co a_crs a_crs_ow a_crs_pl a_crs_dt a_crs_ot a_sto a_sto_b a_rd a_dec a_dec_p a_tbs a_drf a_cnt a_wr a_enc a_pic_h a_pic_v a_pic_ac a_pic_dn a_pic_oa a_pic_od a_pic_st pic_many pic_unitsAcross pic_unitsDown pic_blocks n_pic_co pic_co crs_kind crs_first crs_last crs_bits crs_interval crs_units crs_blocksOfUnit crs_laid crs_ow crs_pl crs_dt crs_ot sto_length n_sto_b sto_b rd_at rd_part rd_left rd_fault dec_keeps dec_run dec_p ta tw ts tf tx vw vs vf vx ve vz) H → va_S A s.heap H locs → W p l e (headSpec ws_m659 rm_SC_read).room s m args below meth c H locs 0 0 Q (F0 m 0 ls []) := by
    intro H locs hP hS
    unfold f_SC_read at hf
    refine lv_aload_n hx hb d_m659_0 rfl (lv_at hl 0 rfl) ?_
    refine va_get (D := (dC, dI)) (ci := 0) (v := .ref a_dec) (C := "ScanCoder") (T := T_0) (N := 9) hx hb hts n0 hown hK hP 0 rfl rfl 8 (by decide) k0 (fun _ h9 => h9) rfl d_m659_1 ?_
    refine lv_iconst (v := (0 : Int32)) hx hb d_m659_4 (by decide) ?_
    obtain ⟨z1, hz1, hf⟩ := ob_bind hf
    refine g_calli (wc := (w_Decoder_decode cI cB cS cT a_pic a_pic_co a_crs a_crs_ow a_crs_pl a_crs_dt a_crs_ot a_sto a_sto_b a_rd a_dec a_dec_p a_tbs a_pic_h a_pic_v a_pic_ac a_pic_dn a_pic_oa a_pic_od a_pic_st pic_many pic_unitsAcross pic_unitsDown pic_blocks n_pic_co pic_co crs_kind crs_first crs_last crs_bits crs_interval crs_units crs_blocksOfUnit crs_laid crs_ow crs_pl crs_dt crs_ot sto_length n_sto_b sto_b rd_at rd_part rd_left rd_fault dec_keeps dec_run dec_p ta tw ts tf tx vw vs vf vx ve vz)) (w1 := (w_Decoder_decode cI cB cS cT a_pic a_pic_co a_crs a_crs_ow a_crs_pl a_crs_dt a_crs_ot a_sto a_sto_b a_rd a_dec a_dec_p a_tbs a_pic_h a_pic_v a_pic_ac a_pic_dn a_pic_oa a_pic_od a_pic_st pic_many pic_unitsAcross pic_unitsDown pic_blocks n_pic_co z1.2.1 crs_kind crs_first crs_last crs_bits crs_interval crs_units crs_blocksOfUnit crs_laid crs_ow crs_pl crs_dt crs_ot sto_length n_sto_b sto_b z1.2.2.1 z1.2.2.2.1 z1.2.2.2.2.1 z1.2.2.2.2.2.1 z1.2.2.2.2.2.2.1 z1.2.2.2.2.2.2.2.1 z1.2.2.2.2.2.2.2.2 ta tw ts tf tx vw vs vf vx ve vz)) (w2 := (w_SC_read cI cB cS cT a_sc a_pic a_pic_co a_crs a_crs_ow a_crs_pl a_crs_dt a_crs_ot a_sto a_sto_b a_rd a_dec a_dec_p a_tbs a_drf a_cnt a_wr a_enc a_pic_h a_pic_v a_pic_ac a_pic_dn a_pic_oa a_pic_od a_pic_st pic_many pic_unitsAcross pic_unitsDown pic_blocks n_pic_co z1.2.1 crs_kind crs_first crs_last crs_bits crs_interval crs_units crs_blocksOfUnit crs_laid crs_ow crs_pl crs_dt crs_ot sto_length n_sto_b sto_b z1.2.2.1 z1.2.2.2.1 z1.2.2.2.2.1 z1.2.2.2.2.2.1 z1.2.2.2.2.2.2.1 z1.2.2.2.2.2.2.2.1 z1.2.2.2.2.2.2.2.2 ta tw ts tf tx vw vs vf vx ve vz)) [1, 2, 3, 4, 5, 6, 7, 8, 9, 10, 11, 12, 13, 14, 15, 16, 17, 18, 19, 20, 21, 22, 23, 24, 25, 26, 27, 28, 29, 30, 31, 32, 33, 34, 35, 36, 37, 38, 39, 40, 41, 42, 43, 44, 45, 46, 47, 48, 49, 50, 51, 52, 53] [none, some 0, some 1, some 2, some 3, some 4, some 5, some 6, some 7, some 8, some 9, some 10, some 11, some 12, some 13, some 14, some 15, some 16, some 17, some 18, some 19, some 20, some 21, some 22, some 23, some 24, some 25, some 26, some 27, some 28, some 29, some 30, some 31, some 32, some 33, some 34, some 35, some 36, some 37, some 38, some 39, some 40, some 41, some 42, some 43, some 44, some 45, some 46, some 47, some 48, some 49, some 50, some 51, some 52] hP hD hS hA rfl rfl rfl rfl (va_runV (As := [.int (0 : Int32)]) (rest := []) ⟨hx, hb, hml, hown, hts⟩ (c_Decoder_decode l dC dI cI cB cS cT N a_pic a_pic_co a_crs a_crs_ow a_crs_pl a_crs_dt a_crs_ot a_sto a_sto_b a_rd a_dec a_dec_p a_tbs a_pic_h a_pic_v a_pic_ac a_pic_dn a_pic_oa a_pic_od a_pic_st pic_many pic_unitsAcross pic_unitsDown pic_blocks n_pic_co pic_co crs_kind crs_first crs_last crs_bits crs_interval crs_units crs_blocksOfUnit crs_laid crs_ow crs_pl crs_dt crs_ot sto_length n_sto_b sto_b rd_at rd_part rd_left rd_fault dec_keeps dec_run dec_p ta tw ts tf tx vw vs vf vx ve vz (0 : Int32) H.size z1 hz1) ⟨(callB_of 1 hts (gi tw_663 rfl) rfl rfl rfl (hts _ (List.mem_cons_of_mem _ tw_14)) (hts _ (List.mem_cons_of_mem _ tw_660)) (by decide +kernel) ⟨Nat.le_of_ble_eq_true rfl, Nat.le_of_ble_eq_true rfl⟩), hts _ (List.mem_cons_of_mem _ tw_661), hts _ (List.mem_cons_of_mem _ tw_662)⟩ ⟨g_blind, va_recv hK hP (ci := 5) (q0 := 11) rfl rfl, g_at hKN (g_pm hP [1, 2, 3, 4, 5, 6, 7, 8, 9, 10, 11, 12, 13, 14, 15, 16, 17, 18, 19, 20, 21, 22, 23, 24, 25, 26, 27, 28, 29, 30, 31, 32, 33, 34, 35, 36, 37, 38, 39, 40, 41, 42, 43, 44, 45, 46, 47, 48, 49, 50, 51, 52, 53] rfl) (hD.sub [1, 2, 3, 4, 5, 6, 7, 8, 9, 10, 11, 12, 13, 14, 15, 16, 17, 18, 19, 20, 21, 22, 23, 24, 25, 26, 27, 28, 29, 30, 31, 32, 33, 34, 35, 36, 37, 38, 39, 40, 41, 42, 43, 44, 45, 46, 47, 48, 49, 50, 51, 52, 53] (by decide) rfl)⟩ rfl rfl hl.1 rfl (lv_room (Nat.le_of_ble_eq_true rfl)) d_m659_5 ⟨Nat.zero_le _, Nat.zero_le _⟩) (fun H locs hP hD hS => ?_)
    refine W.eq (g2 := F0 m 8 ls [.int z1.1]) rfl ?_
    refine lv_istore_n (lv' := [(1, .int z1.1), (0, .ref a_sc)]) hx hb d_m659_8 rfl hl (by decide) rfl (fun ls hl => ?_)
    refine lv_iload_n hx hb d_m659_9 rfl (lv_at hl 0 rfl) ?_
    refine lv_if_ne (tgt := 24) hx hb d_m659_10 (by decide) (fun hc => ?_) (fun hc => ?_)
    · replace hf := (if_neg hc).symm.trans hf
      refine lv_iload_n hx hb d_m659_24 rfl (lv_at hl 0 rfl) ?_
      obtain rfl := Option.some.inj hf
      subst hQ
      subst hAe
      exact W.iret (v := z1.1) hx hb hr (fun t ht hW => ⟨⟨z1.1, (), rfl, rfl, by rw [ht]; exact hP, hD⟩, hS.F ht⟩) hS.2.2 d_m659_25
    · replace hf := (if_pos hc).symm.trans hf
      refine lv_aload_n hx hb d_m659_13 rfl (lv_at hl 1 rfl) ?_
      refine va_get (D := (dC, dI)) (ci := 0) (v := .ref a_dec) (C := "ScanCoder") (T := T_0) (N := 9) hx hb hts n0 hown hK hP 0 rfl rfl 8 (by decide) k0 (fun _ h9 => h9) rfl d_m659_14 ?_
      refine lv_iconst (v := (1 : Int32)) hx hb d_m659_17 (by decide) ?_
      obtain ⟨z2, hz2, hf⟩ := ob_bind hf
      refine g_calli (wc := (w_Decoder_decode cI cB cS cT a_pic a_pic_co a_crs a_crs_ow a_crs_pl a_crs_dt a_crs_ot a_sto a_sto_b a_rd a_dec a_dec_p a_tbs a_pic_h a_pic_v a_pic_ac a_pic_dn a_pic_oa a_pic_od a_pic_st pic_many pic_unitsAcross pic_unitsDown pic_blocks n_pic_co z1.2.1 crs_kind crs_first crs_last crs_bits crs_interval crs_units crs_blocksOfUnit crs_laid crs_ow crs_pl crs_dt crs_ot sto_length n_sto_b sto_b z1.2.2.1 z1.2.2.2.1 z1.2.2.2.2.1 z1.2.2.2.2.2.1 z1.2.2.2.2.2.2.1 z1.2.2.2.2.2.2.2.1 z1.2.2.2.2.2.2.2.2 ta tw ts tf tx vw vs vf vx ve vz)) (w1 := (w_Decoder_decode cI cB cS cT a_pic a_pic_co a_crs a_crs_ow a_crs_pl a_crs_dt a_crs_ot a_sto a_sto_b a_rd a_dec a_dec_p a_tbs a_pic_h a_pic_v a_pic_ac a_pic_dn a_pic_oa a_pic_od a_pic_st pic_many pic_unitsAcross pic_unitsDown pic_blocks n_pic_co z2.2.1 crs_kind crs_first crs_last crs_bits crs_interval crs_units crs_blocksOfUnit crs_laid crs_ow crs_pl crs_dt crs_ot sto_length n_sto_b sto_b z2.2.2.1 z2.2.2.2.1 z2.2.2.2.2.1 z2.2.2.2.2.2.1 z2.2.2.2.2.2.2.1 z2.2.2.2.2.2.2.2.1 z2.2.2.2.2.2.2.2.2 ta tw ts tf tx vw vs vf vx ve vz)) (w2 := (w_SC_read cI cB cS cT a_sc a_pic a_pic_co a_crs a_crs_ow a_crs_pl a_crs_dt a_crs_ot a_sto a_sto_b a_rd a_dec a_dec_p a_tbs a_drf a_cnt a_wr a_enc a_pic_h a_pic_v a_pic_ac a_pic_dn a_pic_oa a_pic_od a_pic_st pic_many pic_unitsAcross pic_unitsDown pic_blocks n_pic_co z2.2.1 crs_kind crs_first crs_last crs_bits crs_interval crs_units crs_blocksOfUnit crs_laid crs_ow crs_pl crs_dt crs_ot sto_length n_sto_b sto_b z2.2.2.1 z2.2.2.2.1 z2.2.2.2.2.1 z2.2.2.2.2.2.1 z2.2.2.2.2.2.2.1 z2.2.2.2.2.2.2.2.1 z2.2.2.2.2.2.2.2.2 ta tw ts tf tx vw vs vf vx ve vz)) [1, 2, 3, 4, 5, 6, 7, 8, 9, 10, 11, 12, 13, 14, 15, 16, 17, 18, 19, 20, 21, 22, 23, 24, 25, 26, 27, 28, 29, 30, 31, 32, 33, 34, 35, 36, 37, 38, 39, 40, 41, 42, 43, 44, 45, 46, 47, 48, 49, 50, 51, 52, 53] [none, some 0, some 1, some 2, some 3, some 4, some 5, some 6, some 7, some 8, some 9, some 10, some 11, some 12, some 13, some 14, some 15, some 16, some 17, some 18, some 19, some 20, some 21, some 22, some 23, some 24, some 25, some 26, some 27, some 28, some 29, some 30, some 31, some 32, some 33, some 34, some 35, some 36, some 37, some 38, some 39, some 40, some 41, some 42, some 43, some 44, some 45, some 46, some 47, some 48, some 49, some 50, some 51, some 52] hP hD hS hA rfl rfl rfl rfl (va_runV (As := [.int (1 : Int32)]) (rest := []) ⟨hx, hb, hml, hown, hts⟩ (c_Decoder_decode l dC dI cI cB cS cT N a_pic a_pic_co a_crs a_crs_ow a_crs_pl a_crs_dt a_crs_ot a_sto a_sto_b a_rd a_dec a_dec_p a_tbs a_pic_h a_pic_v a_pic_ac a_pic_dn a_pic_oa a_pic_od a_pic_st pic_many pic_unitsAcross pic_unitsDown pic_blocks n_pic_co z1.2.1 crs_kind crs_first crs_last crs_bits crs_interval crs_units crs_blocksOfUnit crs_laid crs_ow crs_pl crs_dt crs_ot sto_length n_sto_b sto_b z1.2.2.1 z1.2.2.2.1 z1.2.2.2.2.1 z1.2.2.2.2.2.1 z1.2.2.2.2.2.2.1 z1.2.2.2.2.2.2.2.1 z1.2.2.2.2.2.2.2.2 ta tw ts tf tx vw vs vf vx ve vz (1 : Int32) H.size z2 hz2) ⟨(callB_of 1 hts (gi tw_663 rfl) rfl rfl rfl (hts _ (List.mem_cons_of_mem _ tw_14)) (hts _ (List.mem_cons_of_mem _ tw_660)) (by decide +kernel) ⟨Nat.le_of_ble_eq_true rfl, Nat.le_of_ble_eq_true rfl⟩), hts _ (List.mem_cons_of_mem _ tw_661), hts _ (List.mem_cons_of_mem _ tw_662)⟩ ⟨g_blind, va_recv hK hP (ci := 5) (q0 := 11) rfl rfl, g_at hKN (g_pm hP [1, 2, 3, 4, 5, 6, 7, 8, 9, 10, 11, 12, 13, 14, 15, 16, 17, 18, 19, 20, 21, 22, 23, 24, 25, 26, 27, 28, 29, 30, 31, 32, 33, 34, 35, 36, 37, 38, 39, 40, 41, 42, 43, 44, 45, 46, 47, 48, 49, 50, 51, 52, 53] rfl) (hD.sub [1, 2, 3, 4, 5, 6, 7, 8, 9, 10, 11, 12, 13, 14, 15, 16, 17, 18, 19, 20, 21, 22, 23, 24, 25, 26, 27, 28, 29, 30, 31, 32, 33, 34, 35, 36, 37, 38, 39, 40, 41, 42, 43, 44, 45, 46, 47, 48, 49, 50, 51, 52, 53] (by decide) rfl)⟩ rfl rfl hl.1 rfl (lv_room (Nat.le_of_ble_eq_true rfl)) d_m659_18 ⟨Nat.zero_le _, Nat.zero_le _⟩) (fun H locs hP hD hS => ?_)
      refine W.eq (g2 := F0 m 21 ls [.int z2.1]) rfl ?_
      refine lv_goto (tgt := 25) hx hb d_m659_21 (by decide) ?_
      obtain rfl := Option.some.inj hf
      subst hQ
      subst hAe
      exact W.iret (v := z2.1) hx hb hr (fun t ht hW => ⟨⟨z2.1, (), rfl, rfl, by rw [ht]; exact hP, hD⟩, hS.F ht⟩) hS.2.2 d_m659_25
  exact hgo _ _ hP hS

def f_SC_tally (N : Nat) (n_pic_co : Nat) (pic_co : Nat → Int32) (crs_kind : Int32) (crs_first : Int32) (crs_last : Int32) (crs_bits : Int32) (crs_interval : Int32) (crs_units : Int32) (crs_blocksOfUnit : Int32) (crs_ow : Nat → Int32) (crs_pl : Nat → Int32) (crs_dt : Nat → Int32) (crs_ot : Nat → Int32) (cnt_t : Nat → Int32) (enc_runTable : Int32) (enc_p : Nat → Int32) (enc_r : Nat → Int32) : Option (Int32 × Int32 × (Nat → Int32) × Int32 × Int32 × Int32 × (Nat → Int32) × (Nat → Int32)) :=
  (f_Counter_begin N cnt_t).bind fun z1 =>
  (f_Encoder_encode_cnt N n_pic_co pic_co crs_kind crs_first crs_last crs_bits crs_interval crs_units crs_blocksOfUnit crs_ow crs_pl crs_dt crs_ot z1.1 z1.2 enc_runTable enc_p enc_r).bind fun z2 =>
  some (z2.1, z2.1, z2.2.1, z2.2.2.1, z2.2.2.2.1, z2.2.2.2.2.1, z2.2.2.2.2.2.1, z2.2.2.2.2.2.2)
abbrev w_SC_tally (cI cB cS cT : ClassId) (a_sc : Nat) (a_pic : Nat) (a_pic_co : Nat) (a_crs : Nat) (a_crs_ow : Nat) (a_crs_pl : Nat) (a_crs_dt : Nat) (a_crs_ot : Nat) (a_cnt : Nat) (a_cnt_t : Nat) (a_enc : Nat) (a_enc_p : Nat) (a_enc_r : Nat) (a_drf : Nat) (a_tbs : Nat) (a_sto : Nat) (a_wr : Nat) (a_dec : Nat) (a_pic_h : Nat) (a_pic_v : Nat) (a_pic_ac : Nat) (a_pic_dn : Nat) (a_pic_oa : Nat) (a_pic_od : Nat) (a_pic_st : Nat) (a_enc_sink : Nat) (pic_many : Int32) (pic_unitsAcross : Int32) (pic_unitsDown : Int32) (pic_blocks : Int32) (n_pic_co : Nat) (pic_co : Nat → Int32) (crs_kind : Int32) (crs_first : Int32) (crs_last : Int32) (crs_bits : Int32) (crs_interval : Int32) (crs_units : Int32) (crs_blocksOfUnit : Int32) (crs_laid : Int32) (crs_ow : Nat → Int32) (crs_pl : Nat → Int32) (crs_dt : Nat → Int32) (crs_ot : Nat → Int32) (cnt_total : Int32) (cnt_t : Nat → Int32) (enc_run : Int32) (enc_held : Int32) (enc_runTable : Int32) (enc_p : Nat → Int32) (enc_r : Nat → Int32) : va_W := [(a_sc, .inr (0, [.ref a_pic, .ref a_crs, .ref a_drf, .ref a_tbs, .ref a_sto, .ref a_cnt, .ref a_wr, .ref a_enc, .ref a_dec])), (a_pic, .inr (8, [.ref a_pic_h, .ref a_pic_v, .ref a_pic_ac, .ref a_pic_dn, .ref a_pic_oa, .ref a_pic_od, .ref a_pic_st, .int pic_many, .int pic_unitsAcross, .int pic_unitsDown, .int pic_blocks, .ref a_pic_co])), (a_pic_co, .inl (cS, n_pic_co, .inl pic_co)), (a_crs, .inr (4, [.ref a_pic, .ref a_crs_ow, .ref a_crs_pl, .ref a_crs_dt, .ref a_crs_ot, .int crs_kind, .int crs_first, .int crs_last, .int crs_bits, .int crs_interval, .int crs_units, .int crs_blocksOfUnit, .int crs_laid])), (a_crs_ow, .inl (cI, 192, .inl crs_ow)), (a_crs_pl, .inl (cI, 192, .inl crs_pl)), (a_crs_dt, .inl (cI, 4, .inl crs_dt)), (a_crs_ot, .inl (cI, 4, .inl crs_ot)), (a_cnt, .inr (3, [.ref a_cnt_t, .int cnt_total])), (a_cnt_t, .inl (cI, 2048, .inl cnt_t)), (a_enc, .inr (7, [.ref a_pic, .ref a_crs, .ref a_enc_p, .ref a_enc_r, .ref a_enc_sink, .int enc_run, .int enc_held, .int enc_runTable])), (a_enc_p, .inl (cI, 4, .inl enc_p)), (a_enc_r, .inl (cB, 964, .inl enc_r))]
def rm_SC_tally : Room := { frames := 5, cells := 0, slots := 0, locals := 120 }
set_option maxHeartbeats 1000000 in
set_option maxRecDepth 100000 in
theorem c_SC_tally (l : Launch) (dC : Nat → ClassId) (dI : Nat → Nat → Nat) (cI cB cS cT : ClassId) (N : Nat) (a_sc : Nat) (a_pic : Nat) (a_pic_co : Nat) (a_crs : Nat) (a_crs_ow : Nat) (a_crs_pl : Nat) (a_crs_dt : Nat) (a_crs_ot : Nat) (a_cnt : Nat) (a_cnt_t : Nat) (a_enc : Nat) (a_enc_p : Nat) (a_enc_r : Nat) (a_drf : Nat) (a_tbs : Nat) (a_sto : Nat) (a_wr : Nat) (a_dec : Nat) (a_pic_h : Nat) (a_pic_v : Nat) (a_pic_ac : Nat) (a_pic_dn : Nat) (a_pic_oa : Nat) (a_pic_od : Nat) (a_pic_st : Nat) (a_enc_sink : Nat) (pic_many : Int32) (pic_unitsAcross : Int32) (pic_unitsDown : Int32) (pic_blocks : Int32) (n_pic_co : Nat) (pic_co : Nat → Int32) (crs_kind : Int32) (crs_first : Int32) (crs_last : Int32) (crs_bits : Int32) (crs_interval : Int32) (crs_units : Int32) (crs_blocksOfUnit : Int32) (crs_laid : Int32) (crs_ow : Nat → Int32) (crs_pl : Nat → Int32) (crs_dt : Nat → Int32) (crs_ot : Nat → Int32) (cnt_total : Int32) (cnt_t : Nat → Int32) (enc_run : Int32) (enc_held : Int32) (enc_runTable : Int32) (enc_p : Nat → Int32) (enc_r : Nat → Int32) (sz : Nat) (z : Int32 × Int32 × (Nat → Int32) × Int32 × Int32 × Int32 × (Nat → Int32) × (Nat → Int32)) (hf : f_SC_tally N n_pic_co pic_co crs_kind crs_first crs_last crs_bits crs_interval crs_units crs_blocksOfUnit crs_ow crs_pl crs_dt crs_ot cnt_t enc_runTable enc_p enc_r = some z) : Met l y_m773 ws_m773 rm_SC_tally (gPre (dC, dI) [.ref a_sc] (gT cI cB cS cT) (w_SC_tally cI cB cS cT a_sc a_pic a_pic_co a_crs a_crs_ow a_crs_pl a_crs_dt a_crs_ot a_cnt a_cnt_t a_enc a_enc_p a_enc_r a_drf a_tbs a_sto a_wr a_dec a_pic_h a_pic_v a_pic_ac a_pic_dn a_pic_oa a_pic_od a_pic_st a_enc_sink pic_many pic_unitsAcross pic_unitsDown pic_blocks n_pic_co pic_co crs_kind crs_first crs_last crs_bits crs_interval crs_units crs_blocksOfUnit crs_laid crs_ow crs_pl crs_dt crs_ot cnt_total cnt_t enc_run enc_held enc_runTable enc_p enc_r) sz) (gQi (dC, dI) (gT cI cB cS cT) z.1 (w_SC_tally cI cB cS cT a_sc a_pic a_pic_co a_crs a_crs_ow a_crs_pl a_crs_dt a_crs_ot a_cnt a_cnt_t a_enc a_enc_p a_enc_r a_drf a_tbs a_sto a_wr a_dec a_pic_h a_pic_v a_pic_ac a_pic_dn a_pic_oa a_pic_od a_pic_st a_enc_sink pic_many pic_unitsAcross pic_unitsDown pic_blocks n_pic_co pic_co crs_kind crs_first crs_last crs_bits crs_interval crs_units crs_blocksOfUnit crs_laid crs_ow crs_pl crs_dt crs_ot cnt_total cnt_t enc_run enc_held enc_runTable enc_p enc_r) (w_SC_tally cI cB cS cT a_sc a_pic a_pic_co a_crs a_crs_ow a_crs_pl a_crs_dt a_crs_ot a_cnt a_cnt_t a_enc a_enc_p a_enc_r a_drf a_tbs a_sto a_wr a_dec a_pic_h a_pic_v a_pic_ac a_pic_dn a_pic_oa a_pic_od a_pic_st a_cnt pic_many pic_unitsAcross pic_unitsDown pic_blocks n_pic_co pic_co crs_kind crs_first crs_last crs_bits crs_interval crs_units crs_blocksOfUnit crs_laid crs_ow crs_pl crs_dt crs_ot z.2.1 z.2.2.1 z.2.2.2.1 z.2.2.2.2.1 z.2.2.2.2.2.1 z.2.2.2.2.2.2.1 z.2.2.2.2.2.2.2) sz) 0 0 (va_A (w_SC_tally cI cB cS cT a_sc a_pic a_pic_co a_crs a_crs_ow a_crs_pl a_crs_dt a_crs_ot a_cnt a_cnt_t a_enc a_enc_p a_enc_r a_drf a_tbs a_sto a_wr a_dec a_pic_h a_pic_v a_pic_ac a_pic_dn a_pic_oa a_pic_od a_pic_st a_enc_sink pic_many pic_unitsAcross pic_unitsDown pic_blocks n_pic_co pic_co crs_kind crs_first crs_last crs_bits crs_interval crs_units crs_blocksOfUnit crs_laid crs_ow crs_pl crs_dt crs_ot cnt_total cnt_t enc_run enc_held enc_runTable enc_p enc_r) sz) := by
  refine Met.ofW (cc := prog_1_method_13_code) (maxL := 1) (ret := (some .int)) (by decide) rfl ?_
  intro p e s m args below meth c s₁ B hml hv
  obtain ⟨hargs, hsz, hP, hKN, hD0⟩ := hv
  have hK := hKN.1
  have hx := B.exec
  have hb := B.bytes
  have hr := B.returns
  have hts := atoms_spec (ws := ws_m773) B.pre
  have hown : s.vm.findClass "ScanCoder" = some m.cls := findClass_of_methodNamed B.named
  have hlocks := B.notSynchronized
  have k0 := hts _ (List.mem_cons_of_mem _ tw_424)
  have k1 := hts _ (List.mem_cons_of_mem _ tw_426)
  have k2 := hts _ (List.mem_cons_of_mem _ tw_301)
  have n0 : ∀ w ∈ u_ws "ScanCoder" T_0 9, w ∈ ws_m773 := fun w h => List.mem_cons_of_mem _ (in_0 w h)
  have n1 : ∀ w ∈ u_ws "ScanCoder$Counter" T_3 2, w ∈ ws_m773 := fun w h => List.mem_cons_of_mem _ (in_3 w h)
  subst hsz
  have hD := hD0.self (sz := s.heap.size)
  obtain ⟨A, hAe⟩ : ∃ A : Nat → Prop, va_A (w_SC_tally cI cB cS cT a_sc a_pic a_pic_co a_crs a_crs_ow a_crs_pl a_crs_dt a_crs_ot a_cnt a_cnt_t a_enc a_enc_p a_enc_r a_drf a_tbs a_sto a_wr a_dec a_pic_h a_pic_v a_pic_ac a_pic_dn a_pic_oa a_pic_od a_pic_st a_enc_sink pic_many pic_unitsAcross pic_unitsDown pic_blocks n_pic_co pic_co crs_kind crs_first crs_last crs_bits crs_interval crs_units crs_blocksOfUnit crs_laid crs_ow crs_pl crs_dt crs_ot cnt_total cnt_t enc_run enc_held enc_runTable enc_p enc_r) s.heap.size = A := ⟨_, rfl⟩
  rw [hAe] at hD
  have hA : ∀ q : Nat, s.heap.size ≤ q → A q := fun q h => by rw [← hAe]; exact Or.inr h
  have hS : va_S A s.heap s.heap [] := va_S.rf
  have hl := lv_entry ([.ref a_sc]) (n := 1) (Nat.le_of_ble_eq_true rfl)
  have hfr : entryFrame m args 1 = F0 m 0 ((lg_sl ([.ref a_sc]) ++ List.replicate (1 - (lg_sl ([.ref a_sc])).length) Slot.unset).toArray) [] := by rw [hargs]; exact lg_entry_eq _ _ _
  rw [hfr]
  generalize (lg_sl ([.ref a_sc]) ++ List.replicate (1 - (lg_sl ([.ref a_sc])).length) Slot.unset).toArray = ls at hl ⊢
  have hl : lv_has ls 1 [(0, .ref a_sc)] := hl
  refine gen_Q (fun Q hQ => ?_)
  clear hfr
  have hgo : ∀ (H : Heap) (locs : List Loc), va_P (dC, dI) vwCl (w_SC_tally cI cB cS cT a_sc a_pic a_pic_co a_crs a_crs_ow a_crs_pl a_crs_dt a_crs_ot a_cnt a_cnt_t a_enc a_enc_p a_enc_r a_drf a_tbs a_sto a_wr a_dec a_pic_h a_pic_v a_pic_ac a_pic_dn a_pic_oa a_pic_od a_pic_st a_enc_sink pic_many pic_unitsAcross pic_unitsDown pic_blocks n_pic_co pic_co crs_kind crs_first crs_last crs_bits crs_interval crs_units crs_blocksOfUnit crs_laid crs_ow crs_pl crs_dt crs_ot cnt_total cnt_t enc_run enc_held enc_runTable enc_p enc_r) H → va_S A s.heap H locs → W p l e (headSpec ws_m773 rm_SC_tally).room s m args below meth c H locs 0 0 Q (F0 m 0 ls []) := by
    intro H locs hP hS
    unfold f_SC_tally at hf
    refine lv_aload_n hx hb d_m773_0 rfl (lv_at hl 0 rfl) ?_
    refine va_get (D := (dC, dI)) (ci := 0) (v := .ref a_cnt) (C := "ScanCoder") (T := T_0) (N := 9) hx hb hts n0 hown hK hP 0 rfl rfl 5 (by decide) k0 (fun _ h9 => h9) rfl d_m773_1 ?_
    obtain ⟨z1, hz1, hf⟩ := ob_bind hf
    refine g_callv (wc := (w_Counter_begin cI cB cS cT a_cnt a_cnt_t cnt_total cnt_t)) (w1 := (w_Counter_begin cI cB cS cT a_cnt a_cnt_t z1.1 z1.2)) (w2 := (w_SC_tally cI cB cS cT a_sc a_pic a_pic_co a_crs a_crs_ow a_crs_pl a_crs_dt a_crs_ot a_cnt a_cnt_t a_enc a_enc_p a_enc_r a_drf a_tbs a_sto a_wr a_dec a_pic_h a_pic_v a_pic_ac a_pic_dn a_pic_oa a_pic_od a_pic_st a_enc_sink pic_many pic_unitsAcross pic_unitsDown pic_blocks n_pic_co pic_co crs_kind crs_first crs_last crs_bits crs_interval crs_units crs_blocksOfUnit crs_laid crs_ow crs_pl crs_dt crs_ot z1.1 z1.2 enc_run enc_held enc_runTable enc_p enc_r)) [8, 9] [none, none, none, none, none, none, none, none, some 0, some 1, none, none, none] hP hD hS hA rfl rfl rfl rfl (va_runV (As := []) (rest := []) ⟨hx, hb, hml, hown, hts⟩ (c_Counter_begin l dC dI cI cB cS cT N a_cnt a_cnt_t cnt_total cnt_t H.size z1 hz1) ⟨(callB_of 0 hts (gi tw_777 rfl) rfl rfl rfl (hts _ (List.mem_cons_of_mem _ tw_11)) (hts _ (List.mem_cons_of_mem _ tw_774)) (by decide +kernel) ⟨Nat.le_of_ble_eq_true rfl, Nat.le_of_ble_eq_true rfl⟩), hts _ (List.mem_cons_of_mem _ tw_775), hts _ (List.mem_cons_of_mem _ tw_776)⟩ ⟨g_blind, va_recv hK hP (ci := 3) (q0 := 8) rfl rfl, g_at hKN (g_pm hP [8, 9] rfl) (hD.sub [8, 9] (by decide) rfl)⟩ rfl rfl hl.1 rfl (lv_room (Nat.le_of_ble_eq_true rfl)) d_m773_4 ⟨Nat.zero_le _, Nat.zero_le _⟩) (fun H locs hP hD hS => ?_)
    refine W.eq (g2 := F0 m 7 ls []) rfl ?_
    refine lv_aload_n hx hb d_m773_7 rfl (lv_at hl 0 rfl) ?_
    refine va_get (D := (dC, dI)) (ci := 0) (v := .ref a_enc) (C := "ScanCoder") (T := T_0) (N := 9) hx hb hts n0 hown hK hP 0 rfl rfl 7 (by decide) k1 (fun _ h9 => h9) rfl d_m773_8 ?_
    refine lv_aload_n hx hb d_m773_11 rfl (lv_at hl 0 rfl) ?_
    refine va_get (D := (dC, dI)) (ci := 0) (v := .ref a_cnt) (C := "ScanCoder") (T := T_0) (N := 9) hx hb hts n0 hown hK hP 0 rfl rfl 5 (by decide) k0 (fun _ h9 => h9) rfl d_m773_12 ?_
    obtain ⟨z2, hz2, hf⟩ := ob_bind hf
    refine g_callv (wc := (w_Encoder_encode_cnt cI cB cS cT a_pic a_pic_co a_crs a_crs_ow a_crs_pl a_crs_dt a_crs_ot a_cnt a_cnt_t a_enc a_enc_p a_enc_r a_pic_h a_pic_v a_pic_ac a_pic_dn a_pic_oa a_pic_od a_pic_st a_enc_sink pic_many pic_unitsAcross pic_unitsDown pic_blocks n_pic_co pic_co crs_kind crs_first crs_last crs_bits crs_interval crs_units crs_blocksOfUnit crs_laid crs_ow crs_pl crs_dt crs_ot z1.1 z1.2 enc_run enc_held enc_runTable enc_p enc_r)) (w1 := (w_Encoder_encode_cnt cI cB cS cT a_pic a_pic_co a_crs a_crs_ow a_crs_pl a_crs_dt a_crs_ot a_cnt a_cnt_t a_enc a_enc_p a_enc_r a_pic_h a_pic_v a_pic_ac a_pic_dn a_pic_oa a_pic_od a_pic_st a_cnt pic_many pic_unitsAcross pic_unitsDown pic_blocks n_pic_co pic_co crs_kind crs_first crs_last crs_bits crs_interval crs_units crs_blocksOfUnit crs_laid crs_ow crs_pl crs_dt crs_ot z2.1 z2.2.1 z2.2.2.1 z2.2.2.2.1 z2.2.2.2.2.1 z2.2.2.2.2.2.1 z2.2.2.2.2.2.2)) (w2 := (w_SC_tally cI cB cS cT a_sc a_pic a_pic_co a_crs a_crs_ow a_crs_pl a_crs_dt a_crs_ot a_cnt a_cnt_t a_enc a_enc_p a_enc_r a_drf a_tbs a_sto a_wr a_dec a_pic_h a_pic_v a_pic_ac a_pic_dn a_pic_oa a_pic_od a_pic_st a_cnt pic_many pic_unitsAcross pic_unitsDown pic_blocks n_pic_co pic_co crs_kind crs_first crs_last crs_bits crs_interval crs_units crs_blocksOfUnit crs_laid crs_ow crs_pl crs_dt crs_ot z2.1 z2.2.1 z2.2.2.1 z2.2.2.2.1 z2.2.2.2.2.1 z2.2.2.2.2.2.1 z2.2.2.2.2.2.2)) [1, 2, 3, 4, 5, 6, 7, 8, 9, 10, 11, 12] [none, some 0, some 1, some 2, some 3, some 4, some 5, some 6, some 7, some 8, some 9, some 10, some 11] hP hD hS hA rfl rfl rfl rfl (va_runV (As := [.ref a_cnt]) (rest := []) ⟨hx, hb, hml, hown, hts⟩ (c_Encoder_encode_cnt l dC dI cI cB cS cT N a_pic a_pic_co a_crs a_crs_ow a_crs_pl a_crs_dt a_crs_ot a_cnt a_cnt_t a_enc a_enc_p a_enc_r a_pic_h a_pic_v a_pic_ac a_pic_dn a_pic_oa a_pic_od a_pic_st a_enc_sink pic_many pic_unitsAcross pic_unitsDown pic_blocks n_pic_co pic_co crs_kind crs_first crs_last crs_bits crs_interval crs_units crs_blocksOfUnit crs_laid crs_ow crs_pl crs_dt crs_ot z1.1 z1.2 enc_run enc_held enc_runTable enc_p enc_r H.size z2 hz2) ⟨(callB_of 1 hts (gi tw_545 rfl) rfl rfl rfl (hts _ (List.mem_cons_of_mem _ tw_13)) (hts _ (List.mem_cons_of_mem _ tw_542)) (by decide +kernel) ⟨Nat.le_of_ble_eq_true rfl, Nat.le_of_ble_eq_true rfl⟩), hts _ (List.mem_cons_of_mem _ tw_543), hts _ (List.mem_cons_of_mem _ tw_544)⟩ ⟨g_blind, va_recv hK hP (ci := 7) (q0 := 10) rfl rfl, g_at hKN (g_pm hP [1, 2, 3, 4, 5, 6, 7, 8, 9, 10, 11, 12] rfl) (hD.sub [1, 2, 3, 4, 5, 6, 7, 8, 9, 10, 11, 12] (by decide) rfl)⟩ rfl rfl hl.1 rfl (lv_room (Nat.le_of_ble_eq_true rfl)) d_m773_15 ⟨Nat.zero_le _, Nat.zero_le _⟩) (fun H locs hP hD hS => ?_)
    refine W.eq (g2 := F0 m 18 ls []) rfl ?_
    refine lv_aload_n hx hb d_m773_18 rfl (lv_at hl 0 rfl) ?_
    refine va_get (D := (dC, dI)) (ci := 0) (v := .ref a_cnt) (C := "ScanCoder") (T := T_0) (N := 9) hx hb hts n0 hown hK hP 0 rfl rfl 5 (by decide) k0 (fun _ h9 => h9) rfl d_m773_19 ?_
    refine va_get (D := (dC, dI)) (ci := 3) (v := .int z2.1) (C := "ScanCoder$Counter") (T := T_3) (N := 2) hx hb hts n1 hown hK hP 8 rfl rfl 1 (by decide) k2 (fun _ h9 => h9) rfl d_m773_22 ?_
    obtain rfl := Option.some.inj hf
    subst hQ
    subst hAe
    exact W.iret (v := z2.1) hx hb hr (fun t ht hW => ⟨⟨z2.1, (), rfl, rfl, by rw [ht]; exact hP, hD⟩, hS.F ht⟩) hS.2.2 d_m773_25
  exact hgo _ _ hP hS

def f_SC_often (p0 : Int32) (p1 : Int32) (cnt_t : Nat → Int32) : Option (Int32) :=
  if p0 < 0 then
    some (0 : Int32)
  else
    if (8 : Int32) ≤ p0 then
      some (0 : Int32)
    else
      if p1 < 0 then
        some (0 : Int32)
      else
        if p1 < (256 : Int32) then
          if ((p0 * (256 : Int32)) + p1) < 0 ∨ 2048 ≤ ((p0 * (256 : Int32)) + p1).toNatClampNeg then none else
          some (cnt_t ((p0 * (256 : Int32)) + p1).toNatClampNeg)
        else
          some (0 : Int32)
abbrev w_SC_often (cI cB cS cT : ClassId) (a_sc : Nat) (a_cnt : Nat) (a_cnt_t : Nat) (a_pic : Nat) (a_crs : Nat) (a_drf : Nat) (a_tbs : Nat) (a_sto : Nat) (a_wr : Nat) (a_enc : Nat) (a_dec : Nat) (cnt_total : Int32) (cnt_t : Nat → Int32) : va_W := [(a_sc, .inr (0, [.ref a_pic, .ref a_crs, .ref a_drf, .ref a_tbs, .ref a_sto, .ref a_cnt, .ref a_wr, .ref a_enc, .ref a_dec])), (a_cnt, .inr (3, [.ref a_cnt_t, .int cnt_total])), (a_cnt_t, .inl (cI, 2048, .inl cnt_t))]
def rm_SC_often : Room := { frames := 0, cells := 0, slots := 0, locals := 0 }
set_option maxHeartbeats 1000000 in
set_option maxRecDepth 100000 in
theorem c_SC_often (l : Launch) (dC : Nat → ClassId) (dI : Nat → Nat → Nat) (cI cB cS cT : ClassId) (a_sc : Nat) (a_cnt : Nat) (a_cnt_t : Nat) (a_pic : Nat) (a_crs : Nat) (a_drf : Nat) (a_tbs : Nat) (a_sto : Nat) (a_wr : Nat) (a_enc : Nat) (a_dec : Nat) (cnt_total : Int32) (cnt_t : Nat → Int32) (p0 : Int32) (p1 : Int32) (z : Int32) (hf : f_SC_often p0 p1 cnt_t = some z) : Met l y_m782 ws_m782 rm_SC_often (gPreP (dC, dI) [.ref a_sc, .int p0, .int p1] (gT cI cB cS cT) (w_SC_often cI cB cS cT a_sc a_cnt a_cnt_t a_pic a_crs a_drf a_tbs a_sto a_wr a_enc a_dec cnt_total cnt_t)) (vp_Si (fun r => r = z)) 0 0 (fun _ => False) := by
  refine Met.ofW (cc := prog_1_method_14_code) (maxL := 3) (ret := (some .int)) (by decide) rfl ?_
  intro p e s m args below meth c s₁ B hml hv
  obtain ⟨hargs, hP, hKN⟩ := hv
  have hK := hKN.1
  have hx := B.exec
  have hb := B.bytes
  have hr := B.returns
  have hts := atoms_spec (ws := ws_m782) B.pre
  have hown : s.vm.findClass "ScanCoder" = some m.cls := findClass_of_methodNamed B.named
  have hlocks := B.notSynchronized
  have k0 := hts _ (List.mem_cons_of_mem _ tw_424)
  have k1 := hts _ (List.mem_cons_of_mem _ tw_299)
  have n0 : ∀ w ∈ u_ws "ScanCoder" T_0 9, w ∈ ws_m782 := fun w h => List.mem_cons_of_mem _ (in_0 w h)
  have n1 : ∀ w ∈ u_ws "ScanCoder$Counter" T_3 2, w ∈ ws_m782 := fun w h => List.mem_cons_of_mem _ (in_3 w h)
  have hl := lv_entry ([.ref a_sc, .int p0, .int p1]) (n := 3) (Nat.le_of_ble_eq_true rfl)
  have hfr : entryFrame m args 3 = F0 m 0 ((lg_sl ([.ref a_sc, .int p0, .int p1]) ++ List.replicate (3 - (lg_sl ([.ref a_sc, .int p0, .int p1])).length) Slot.unset).toArray) [] := by rw [hargs]; exact lg_entry_eq _ _ _
  rw [hfr]
  generalize (lg_sl ([.ref a_sc, .int p0, .int p1]) ++ List.replicate (3 - (lg_sl ([.ref a_sc, .int p0, .int p1])).length) Slot.unset).toArray = ls at hl ⊢
  have hl : lv_has ls 3 [(0, .ref a_sc), (1, .int p0), (2, .int p1)] := hl
  refine gen_Q (fun Q hQ => ?_)
  clear hfr
  unfold f_SC_often at hf
  refine lv_iload_n hx hb d_m782_0 rfl (lv_at hl 1 rfl) ?_
  refine lv_if_lt (tgt := 21) hx hb d_m782_1 (by decide) (fun hc => ?_) (fun hc => ?_)
  · replace hf := (if_pos hc).symm.trans hf
    refine lv_iconst (v := (0 : Int32)) hx hb d_m782_21 (by decide) ?_
    obtain rfl := Option.some.inj hf
    subst hQ
    exact W.iret (v := (0 : Int32)) hx hb hr (fun t ht hW => ⟨(0 : Int32), rfl, rfl, ht⟩) (fun q h => by cases h) d_m782_22
  · replace hf := (if_neg hc).symm.trans hf
    refine lv_iload_n hx hb d_m782_4 rfl (lv_at hl 1 rfl) ?_
    refine lv_bipush (v := (8 : Int32)) hx hb d_m782_5 (by decide) ?_
    refine lv_icmp_ge (tgt := 21) hx hb d_m782_7 (by decide) (fun hc => ?_) (fun hc => ?_)
    · replace hf := (if_pos hc).symm.trans hf
      refine lv_iconst (v := (0 : Int32)) hx hb d_m782_21 (by decide) ?_
      obtain rfl := Option.some.inj hf
      subst hQ
      exact W.iret (v := (0 : Int32)) hx hb hr (fun t ht hW => ⟨(0 : Int32), rfl, rfl, ht⟩) (fun q h => by cases h) d_m782_22
    · replace hf := (if_neg hc).symm.trans hf
      refine lv_iload_n hx hb d_m782_10 rfl (lv_at hl 2 rfl) ?_
      refine lv_if_lt (tgt := 21) hx hb d_m782_11 (by decide) (fun hc => ?_) (fun hc => ?_)
      · replace hf := (if_pos hc).symm.trans hf
        refine lv_iconst (v := (0 : Int32)) hx hb d_m782_21 (by decide) ?_
        obtain rfl := Option.some.inj hf
        subst hQ
        exact W.iret (v := (0 : Int32)) hx hb hr (fun t ht hW => ⟨(0 : Int32), rfl, rfl, ht⟩) (fun q h => by cases h) d_m782_22
      · replace hf := (if_neg hc).symm.trans hf
        refine lv_iload_n hx hb d_m782_14 rfl (lv_at hl 2 rfl) ?_
        refine lv_sipush (v := (256 : Int32)) hx hb d_m782_15 (by decide) ?_
        refine lv_icmp_lt (tgt := 23) hx hb d_m782_18 (by decide) (fun hc => ?_) (fun hc => ?_)
        · replace hf := (if_pos hc).symm.trans hf
          refine lv_aload_n hx hb d_m782_23 rfl (lv_at hl 0 rfl) ?_
          refine va_get (D := (dC, dI)) (ci := 0) (v := .ref a_cnt) (C := "ScanCoder") (T := T_0) (N := 9) hx hb hts n0 hown hK hP 0 rfl rfl 5 (by decide) k0 (fun _ h9 => h9) rfl d_m782_24 ?_
          refine va_get (D := (dC, dI)) (ci := 3) (v := .ref a_cnt_t) (C := "ScanCoder$Counter") (T := T_3) (N := 2) hx hb hts n1 hown hK hP 1 rfl rfl 0 (by decide) k1 (fun _ h9 => h9) rfl d_m782_27 ?_
          refine lv_iload_n hx hb d_m782_30 rfl (lv_at hl 1 rfl) ?_
          refine lv_sipush (v := (256 : Int32)) hx hb d_m782_31 (by decide) ?_
          refine lv_imul hx hb d_m782_34 ?_
          refine lv_iload_n hx hb d_m782_35 rfl (lv_at hl 2 rfl) ?_
          refine lv_iadd hx hb d_m782_36 ?_
          obtain ⟨hi, hf⟩ := ob_if hf
          refine va_iald hx hb hK hP 2 0 rfl rfl hi d_m782_37 ?_
          obtain rfl := Option.some.inj hf
          subst hQ
          exact W.iret (v := cnt_t ((p0 * (256 : Int32)) + p1).toNatClampNeg) hx hb hr (fun t ht hW => ⟨cnt_t ((p0 * (256 : Int32)) + p1).toNatClampNeg, rfl, rfl, ht⟩) (fun q h => by cases h) d_m782_38
        · replace hf := (if_neg hc).symm.trans hf
          refine lv_iconst (v := (0 : Int32)) hx hb d_m782_21 (by decide) ?_
          obtain rfl := Option.some.inj hf
          subst hQ
          exact W.iret (v := (0 : Int32)) hx hb hr (fun t ht hW => ⟨(0 : Int32), rfl, rfl, ht⟩) (fun q h => by cases h) d_m782_22

def f_SC_give (ms : Nat) (N : Nat) (p0 : Int64) (p1 : Int32) (sto_length : Int32) (n_sto_b : Nat) (sto_b : Nat → Int32) : Option (Int32 × Int32 × Nat × (Nat → Int32)) :=
  (f_Store_append ms N p0 p1 sto_length n_sto_b sto_b).bind fun z1 =>
  if z1.1 = 0 ∨ z1.1 = 1 then some (z1.1, z1.2.1, z1.2.2.1, z1.2.2.2) else none
abbrev w_SC_give (cI cB cS cT : ClassId) (a_sc : Nat) (a_sto : Nat) (a_sto_b : Nat) (a_pic : Nat) (a_crs : Nat) (a_drf : Nat) (a_tbs : Nat) (a_cnt : Nat) (a_wr : Nat) (a_enc : Nat) (a_dec : Nat) (sto_length : Int32) (n_sto_b : Nat) (sto_b : Nat → Int32) : va_W := [(a_sc, .inr (0, [.ref a_pic, .ref a_crs, .ref a_drf, .ref a_tbs, .ref a_sto, .ref a_cnt, .ref a_wr, .ref a_enc, .ref a_dec])), (a_sto, .inr (9, [.ref a_sto_b, .int sto_length])), (a_sto_b, .inl (cB, n_sto_b, .inl sto_b))]
def rm_SC_give (ms : Nat) : Room := { frames := 4, cells := 1, slots := ms, locals := 99 }
set_option maxHeartbeats 1000000 in
set_option maxRecDepth 100000 in
theorem c_SC_give (l : Launch) (dC : Nat → ClassId) (dI : Nat → Nat → Nat) (cI cB cS cT : ClassId) (ms : Nat) (N : Nat) (a_sc : Nat) (a_sto : Nat) (a_sto_b : Nat) (a_pic : Nat) (a_crs : Nat) (a_drf : Nat) (a_tbs : Nat) (a_cnt : Nat) (a_wr : Nat) (a_enc : Nat) (a_dec : Nat) (sto_length : Int32) (n_sto_b : Nat) (sto_b : Nat → Int32) (p0 : Int64) (p1 : Int32) (sz : Nat) (z : Int32 × Int32 × Nat × (Nat → Int32)) (hf : f_SC_give ms N p0 p1 sto_length n_sto_b sto_b = some z) : Met l y_m786 ws_m786 (rm_SC_give ms) (gPre (dC, dI) [.ref a_sc, .long p0, .int p1] (gT cI cB cS cT) (w_SC_give cI cB cS cT a_sc a_sto a_sto_b a_pic a_crs a_drf a_tbs a_cnt a_wr a_enc a_dec sto_length n_sto_b sto_b) sz) (gQiA (dC, dI) (gT cI cB cS cT) (U := Nat) z.1 (w_SC_give cI cB cS cT a_sc a_sto a_sto_b a_pic a_crs a_drf a_tbs a_cnt a_wr a_enc a_dec sto_length n_sto_b sto_b) (fun u => (w_SC_give cI cB cS cT a_sc a_sto u a_pic a_crs a_drf a_tbs a_cnt a_wr a_enc a_dec z.2.1 z.2.2.1 z.2.2.2)) sz) 1 ms (va_A (w_SC_give cI cB cS cT a_sc a_sto a_sto_b a_pic a_crs a_drf a_tbs a_cnt a_wr a_enc a_dec sto_length n_sto_b sto_b) sz) := by
  refine Met.ofW (cc := prog_1_method_15_code) (maxL := 4) (ret := (some .boolean)) (by decide) rfl ?_
  intro p e s m args below meth c s₁ B hml hv
  obtain ⟨hargs, hsz, hP, hKN, hD0⟩ := hv
  have hK := hKN.1
  have hx := B.exec
  have hb := B.bytes
  have hr := B.returns
  have hts := atoms_spec (ws := ws_m786) B.pre
  have hown : s.vm.findClass "ScanCoder" = some m.cls := findClass_of_methodNamed B.named
  have hlocks := B.notSynchronized
  have k0 := hts _ (List.mem_cons_of_mem _ tw_423)
  have n0 : ∀ w ∈ u_ws "ScanCoder" T_0 9, w ∈ ws_m786 := fun w h => List.mem_cons_of_mem _ (in_0 w h)
  subst hsz
  have hD := hD0.self (sz := s.heap.size)
  obtain ⟨A, hAe⟩ : ∃ A : Nat → Prop, va_A (w_SC_give cI cB cS cT a_sc a_sto a_sto_b a_pic a_crs a_drf a_tbs a_cnt a_wr a_enc a_dec sto_length n_sto_b sto_b) s.heap.size = A := ⟨_, rfl⟩
  rw [hAe] at hD
  have hA : ∀ q : Nat, s.heap.size ≤ q → A q := fun q h => by rw [← hAe]; exact Or.inr h
  have hS : va_S A s.heap s.heap [] := va_S.rf
  have hl := lv_entry ([.ref a_sc, .long p0, .int p1]) (n := 4) (Nat.le_of_ble_eq_true rfl)
  have hfr : entryFrame m args 4 = F0 m 0 ((lg_sl ([.ref a_sc, .long p0, .int p1]) ++ List.replicate (4 - (lg_sl ([.ref a_sc, .long p0, .int p1])).length) Slot.unset).toArray) [] := by rw [hargs]; exact lg_entry_eq _ _ _
  rw [hfr]
  generalize (lg_sl ([.ref a_sc, .long p0, .int p1]) ++ List.replicate (4 - (lg_sl ([.ref a_sc, .long p0, .int p1])).length) Slot.unset).toArray = ls at hl ⊢
  have hl : lv_has ls 4 [(0, .ref a_sc), (1, .long p0), (3, .int p1)] := hl
  refine gen_Q (fun Q hQ => ?_)
  clear hfr
  have hgo : ∀ (H : Heap) (locs : List Loc), va_P (dC, dI) vwCl (w_SC_give cI cB cS cT a_sc a_sto a_sto_b a_pic a_crs a_drf a_tbs a_cnt a_wr a_enc a_dec sto_length n_sto_b sto_b) H → va_S A s.heap H locs → W p l e (headSpec ws_m786 (rm_SC_give ms)).room s m args below meth c H locs 0 0 Q (F0 m 0 ls []) := by
    intro H locs hP hS
    unfold f_SC_give at hf
    refine lv_aload_n hx hb d_m786_0 rfl (lv_at hl 0 rfl) ?_
    refine va_get (D := (dC, dI)) (ci := 0) (v := .ref a_sto) (C := "ScanCoder") (T := T_0) (N := 9) hx hb hts n0 hown hK hP 0 rfl rfl 4 (by decide) k0 (fun _ h9 => h9) rfl d_m786_1 ?_
    refine lv_lload_n hx hb d_m786_4 rfl (lv_at hl 1 rfl) ?_
    refine lv_iload_n hx hb d_m786_5 rfl (lv_at hl 2 rfl) ?_
    obtain ⟨z1, hz1, hf⟩ := ob_bind hf
    refine g_callAi (U := Nat) (wc := (w_Store_append cI cB cS cT a_sto a_sto_b sto_length n_sto_b sto_b)) (w1 := fun u1 => (w_Store_append cI cB cS cT a_sto u1 z1.2.1 z1.2.2.1 z1.2.2.2)) (w2 := fun u1 => (w_SC_give cI cB cS cT a_sc a_sto u1 a_pic a_crs a_drf a_tbs a_cnt a_wr a_enc a_dec z1.2.1 z1.2.2.1 z1.2.2.2)) [1, 2] [none, some 0, some 1] hP hD hS hA rfl (fun _ => rfl) rfl rfl (va_runV (As := [.long p0, .int p1]) (rest := []) ⟨hx, hb, hml, hown, hts⟩ (c_Store_append l dC dI cI cB cS cT ms N a_sto a_sto_b sto_length n_sto_b sto_b p0 p1 H.size z1 hz1) ⟨(callB_of 2 hts (gi tw_790 rfl) rfl rfl rfl (hts _ (List.mem_cons_of_mem _ tw_9)) (hts _ (List.mem_cons_of_mem _ tw_787)) (by decide +kernel) ⟨Nat.le_of_ble_eq_true rfl, Nat.le_of_ble_eq_true rfl⟩), hts _ (List.mem_cons_of_mem _ tw_788), hts _ (List.mem_cons_of_mem _ tw_789)⟩ ⟨g_blind, va_recv hK hP (ci := 9) (q0 := 1) rfl rfl, g_at hKN (g_pm hP [1, 2] rfl) (hD.sub [1, 2] (by decide) rfl)⟩ rfl rfl hl.1 rfl (lv_room (Nat.le_of_ble_eq_true rfl)) d_m786_6 ⟨Nat.le_of_ble_eq_true rfl, Nat.le_of_eq (Nat.zero_add _)⟩) (fun u1 H locs hP hD hS => ?_)
    refine W.widen (k := 1) (n := ms) (Nat.le_of_ble_eq_true rfl) (Nat.le_of_eq (Nat.zero_add _)) ?_
    have hP : va_P (dC, dI) vwCl (w_SC_give cI cB cS cT a_sc a_sto u1 a_pic a_crs a_drf a_tbs a_cnt a_wr a_enc a_dec z1.2.1 z1.2.2.1 z1.2.2.2) H := hP
    have hD : va_D A (w_SC_give cI cB cS cT a_sc a_sto u1 a_pic a_crs a_drf a_tbs a_cnt a_wr a_enc a_dec z1.2.1 z1.2.2.1 z1.2.2.2) := hD
    refine W.eq (g2 := F0 m 9 ls [.int z1.1]) rfl ?_
    obtain ⟨hi, hf⟩ := ob_ok hf
    obtain rfl := Option.some.inj hf
    subst hQ
    subst hAe
    exact W.zret (v := z1.1) hx hb hr (nb_ok hi).1 (fun t ht hW => ⟨⟨z1.1, u1, rfl, rfl, by rw [ht]; exact hP, hD⟩, hS.F ht⟩) hS.2.2 d_m786_9
  exact hgo _ _ hP hS

def f_SC_cut (p0 : Int32) (sto_length : Int32) : Option (Int32 × Int32) :=
  if p0 < 0 then
    some ((0 : Int32), sto_length)
  else
    if p0 ≤ sto_length then
      some ((1 : Int32), p0)
    else
      some ((0 : Int32), sto_length)
abbrev w_SC_cut (cI cB cS cT : ClassId) (a_sc : Nat) (a_sto : Nat) (a_pic : Nat) (a_crs : Nat) (a_drf : Nat) (a_tbs : Nat) (a_cnt : Nat) (a_wr : Nat) (a_enc : Nat) (a_dec : Nat) (a_sto_b : Nat) (sto_length : Int32) : va_W := [(a_sc, .inr (0, [.ref a_pic, .ref a_crs, .ref a_drf, .ref a_tbs, .ref a_sto, .ref a_cnt, .ref a_wr, .ref a_enc, .ref a_dec])), (a_sto, .inr (9, [.ref a_sto_b, .int sto_length]))]
def rm_SC_cut : Room := { frames := 0, cells := 0, slots := 0, locals := 0 }
set_option maxHeartbeats 1000000 in
set_option maxRecDepth 100000 in
theorem c_SC_cut (l : Launch) (dC : Nat → ClassId) (dI : Nat → Nat → Nat) (cI cB cS cT : ClassId) (a_sc : Nat) (a_sto : Nat) (a_pic : Nat) (a_crs : Nat) (a_drf : Nat) (a_tbs : Nat) (a_cnt : Nat) (a_wr : Nat) (a_enc : Nat) (a_dec : Nat) (a_sto_b : Nat) (sto_length : Int32) (p0 : Int32) (sz : Nat) (z : Int32 × Int32) (hf : f_SC_cut p0 sto_length = some z) : Met l y_m795 ws_m795 rm_SC_cut (gPre (dC, dI) [.ref a_sc, .int p0] (gT cI cB cS cT) (w_SC_cut cI cB cS cT a_sc a_sto a_pic a_crs a_drf a_tbs a_cnt a_wr a_enc a_dec a_sto_b sto_length) sz) (gQi (dC, dI) (gT cI cB cS cT) z.1 (w_SC_cut cI cB cS cT a_sc a_sto a_pic a_crs a_drf a_tbs a_cnt a_wr a_enc a_dec a_sto_b sto_length) (w_SC_cut cI cB cS cT a_sc a_sto a_pic a_crs a_drf a_tbs a_cnt a_wr a_enc a_dec a_sto_b z.2) sz) 0 0 (va_A (w_SC_cut cI cB cS cT a_sc a_sto a_pic a_crs a_drf a_tbs a_cnt a_wr a_enc a_dec a_sto_b sto_length) sz) := by
  refine Met.ofW (cc := prog_1_method_16_code) (maxL := 2) (ret := (some .boolean)) (by decide) rfl ?_
  intro p e s m args below meth c s₁ B hml hv
  obtain ⟨hargs, hsz, hP, hKN, hD0⟩ := hv
  have hK := hKN.1
  have hx := B.exec
  have hb := B.bytes
  have hr := B.returns
  have hts := atoms_spec (ws := ws_m795) B.pre
  have hown : s.vm.findClass "ScanCoder" = some m.cls := findClass_of_methodNamed B.named
  have hlocks := B.notSynchronized
  have k0 := hts _ (List.mem_cons_of_mem _ tw_423)
  have k1 := hts _ (List.mem_cons_of_mem _ tw_283)
  have n0 : ∀ w ∈ u_ws "ScanCoder" T_0 9, w ∈ ws_m795 := fun w h => List.mem_cons_of_mem _ (in_0 w h)
  have n1 : ∀ w ∈ u_ws "ScanCoder$Store" T_9 2, w ∈ ws_m795 := fun w h => List.mem_cons_of_mem _ (in_9 w h)
  subst hsz
  have hD := hD0.self (sz := s.heap.size)
  obtain ⟨A, hAe⟩ : ∃ A : Nat → Prop, va_A (w_SC_cut cI cB cS cT a_sc a_sto a_pic a_crs a_drf a_tbs a_cnt a_wr a_enc a_dec a_sto_b sto_length) s.heap.size = A := ⟨_, rfl⟩
  rw [hAe] at hD
  have hA : ∀ q : Nat, s.heap.size ≤ q → A q := fun q h => by rw [← hAe]; exact Or.inr h
  have hS : va_S A s.heap s.heap [] := va_S.rf
  have hl := lv_entry ([.ref a_sc, .int p0]) (n := 2) (Nat.le_of_ble_eq_true rfl)
  have hfr : entryFrame m args 2 = F0 m 0 ((lg_sl ([.ref a_sc, .int p0]) ++ List.replicate (2 - (lg_sl ([.ref a_sc, .int p0])).length) Slot.unset).toArray) [] := by rw [hargs]; exact lg_entry_eq _ _ _
  rw [hfr]
  generalize (lg_sl ([.ref a_sc, .int p0]) ++ List.replicate (2 - (lg_sl ([.ref a_sc, .int p0])).length) Slot.unset).toArray = ls at hl ⊢
  have hl : lv_has ls 2 [(0, .ref a_sc), (1, .int p0)] := hl
  refine gen_Q (fun Q hQ => ?_)
  clear hfr
  have hgo : ∀ (H : Heap) (locs : List Loc), va_P (dC, dI) vwCl (w_SC_cut cI cB cS cT a_sc a_sto a_pic a_crs a_drf a_tbs a_cnt a_wr a_enc a_dec a_sto_b sto_length) H → va_S A s.heap H locs → W p l e (headSpec ws_m795 rm_SC_cut).room s m args below meth c H locs 0 0 Q (F0 m 0 ls []) := by
    intro H locs hP hS
    unfold f_SC_cut at hf
    refine lv_iload_n hx hb d_m795_0 rfl (lv_at hl 1 rfl) ?_
    refine lv_if_lt (tgt := 15) hx hb d_m795_1 (by decide) (fun hc => ?_) (fun hc => ?_)
    · replace hf := (if_pos hc).symm.trans hf
      refine lv_iconst (v := (0 : Int32)) hx hb d_m795_15 (by decide) ?_
      obtain rfl := Option.some.inj hf
      subst hQ
      subst hAe
      exact W.zret (v := (0 : Int32)) hx hb hr (by decide) (fun t ht hW => ⟨⟨(0 : Int32), (), rfl, rfl, by rw [ht]; exact hP, hD⟩, hS.F ht⟩) hS.2.2 d_m795_16
    · replace hf := (if_neg hc).symm.trans hf
      refine lv_iload_n hx hb d_m795_4 rfl (lv_at hl 1 rfl) ?_
      refine lv_aload_n hx hb d_m795_5 rfl (lv_at hl 0 rfl) ?_
      refine va_get (D := (dC, dI)) (ci := 0) (v := .ref a_sto) (C := "ScanCoder") (T := T_0) (N := 9) hx hb hts n0 hown hK hP 0 rfl rfl 4 (by decide) k0 (fun _ h9 => h9) rfl d_m795_6 ?_
      refine va_get (D := (dC, dI)) (ci := 9) (v := .int sto_length) (C := "ScanCoder$Store") (T := T_9) (N := 2) hx hb hts n1 hown hK hP 1 rfl rfl 1 (by decide) k1 (fun _ h9 => h9) rfl d_m795_9 ?_
      refine lv_icmp_le (tgt := 17) hx hb d_m795_12 (by decide) (fun hc => ?_) (fun hc => ?_)
      · replace hf := (if_pos hc).symm.trans hf
        refine lv_aload_n hx hb d_m795_17 rfl (lv_at hl 0 rfl) ?_
        refine va_get (D := (dC, dI)) (ci := 0) (v := .ref a_sto) (C := "ScanCoder") (T := T_0) (N := 9) hx hb hts n0 hown hK hP 0 rfl rfl 4 (by decide) k0 (fun _ h9 => h9) rfl d_m795_18 ?_
        refine lv_iload_n hx hb d_m795_21 rfl (lv_at hl 1 rfl) ?_
        refine va_put (D := (dC, dI)) (ci := 9) (v := .int p0) (ty := .int) (C := "ScanCoder$Store") (T := T_9) (N := 2) hx hb hts n1 ty_9 tyok_9 nm_9 hown hK hP hD hS 1 rfl rfl 1 (by decide) k1 (fun _ h9 => h9) rfl (by decide +kernel) rfl rfl (Nat.le_of_ble_eq_true rfl) d_m795_22 (fun H locs hP hD hS => ?_)
        have hP : va_P (dC, dI) vwCl (w_SC_cut cI cB cS cT a_sc a_sto a_pic a_crs a_drf a_tbs a_cnt a_wr a_enc a_dec a_sto_b p0) H := hP
        have hD : va_D A (w_SC_cut cI cB cS cT a_sc a_sto a_pic a_crs a_drf a_tbs a_cnt a_wr a_enc a_dec a_sto_b p0) := hD
        refine lv_iconst (v := (1 : Int32)) hx hb d_m795_25 (by decide) ?_
        obtain rfl := Option.some.inj hf
        subst hQ
        subst hAe
        exact W.zret (v := (1 : Int32)) hx hb hr (by decide) (fun t ht hW => ⟨⟨(1 : Int32), (), rfl, rfl, by rw [ht]; exact hP, hD⟩, hS.F ht⟩) hS.2.2 d_m795_26
      · replace hf := (if_neg hc).symm.trans hf
        refine lv_iconst (v := (0 : Int32)) hx hb d_m795_15 (by decide) ?_
        obtain rfl := Option.some.inj hf
        subst hQ
        subst hAe
        exact W.zret (v := (0 : Int32)) hx hb hr (by decide) (fun t ht hW => ⟨⟨(0 : Int32), (), rfl, rfl, by rw [ht]; exact hP, hD⟩, hS.F ht⟩) hS.2.2 d_m795_16
  exact hgo _ _ hP hS

def f_SC_data (p0 : Int32) (sto_length : Int32) (n_sto_b : Nat) (sto_b : Nat → Int32) : Option (Int32) :=
  (f_Store_byteAt p0 sto_length n_sto_b sto_b).bind fun z1 =>
  some z1
abbrev w_SC_data (cI cB cS cT : ClassId) (a_sc : Nat) (a_sto : Nat) (a_sto_b : Nat) (a_pic : Nat) (a_crs : Nat) (a_drf : Nat) (a_tbs : Nat) (a_cnt : Nat) (a_wr : Nat) (a_enc : Nat) (a_dec : Nat) (sto_length : Int32) (n_sto_b : Nat) (sto_b : Nat → Int32) : va_W := [(a_sc, .inr (0, [.ref a_pic, .ref a_crs, .ref a_drf, .ref a_tbs, .ref a_sto, .ref a_cnt, .ref a_wr, .ref a_enc, .ref a_dec])), (a_sto, .inr (9, [.ref a_sto_b, .int sto_length])), (a_sto_b, .inl (cB, n_sto_b, .inl sto_b))]
def rm_SC_data : Room := { frames := 1, cells := 0, slots := 0, locals := 21 }
set_option maxHeartbeats 1000000 in
set_option maxRecDepth 100000 in
theorem c_SC_data (l : Launch) (dC : Nat → ClassId) (dI : Nat → Nat → Nat) (cI cB cS cT : ClassId) (a_sc : Nat) (a_sto : Nat) (a_sto_b : Nat) (a_pic : Nat) (a_crs : Nat) (a_drf : Nat) (a_tbs : Nat) (a_cnt : Nat) (a_wr : Nat) (a_enc : Nat) (a_dec : Nat) (sto_length : Int32) (n_sto_b : Nat) (sto_b : Nat → Int32) (p0 : Int32) (z : Int32) (hf : f_SC_data p0 sto_length n_sto_b sto_b = some z) : Met l y_m799 ws_m799 rm_SC_data (gPreP (dC, dI) [.ref a_sc, .int p0] (gT cI cB cS cT) (w_SC_data cI cB cS cT a_sc a_sto a_sto_b a_pic a_crs a_drf a_tbs a_cnt a_wr a_enc a_dec sto_length n_sto_b sto_b)) (vp_Si (fun r => r = z)) 0 0 (fun _ => False) := by
  refine Met.ofW (cc := prog_1_method_17_code) (maxL := 2) (ret := (some .int)) (by decide) rfl ?_
  intro p e s m args below meth c s₁ B hml hv
  obtain ⟨hargs, hP, hKN⟩ := hv
  have hK := hKN.1
  have hx := B.exec
  have hb := B.bytes
  have hr := B.returns
  have hts := atoms_spec (ws := ws_m799) B.pre
  have hown : s.vm.findClass "ScanCoder" = some m.cls := findClass_of_methodNamed B.named
  have hlocks := B.notSynchronized
  have k0 := hts _ (List.mem_cons_of_mem _ tw_423)
  have n0 : ∀ w ∈ u_ws "ScanCoder" T_0 9, w ∈ ws_m799 := fun w h => List.mem_cons_of_mem _ (in_0 w h)
  have hl := lv_entry ([.ref a_sc, .int p0]) (n := 2) (Nat.le_of_ble_eq_true rfl)
  have hfr : entryFrame m args 2 = F0 m 0 ((lg_sl ([.ref a_sc, .int p0]) ++ List.replicate (2 - (lg_sl ([.ref a_sc, .int p0])).length) Slot.unset).toArray) [] := by rw [hargs]; exact lg_entry_eq _ _ _
  rw [hfr]
  generalize (lg_sl ([.ref a_sc, .int p0]) ++ List.replicate (2 - (lg_sl ([.ref a_sc, .int p0])).length) Slot.unset).toArray = ls at hl ⊢
  have hl : lv_has ls 2 [(0, .ref a_sc), (1, .int p0)] := hl
  refine gen_Q (fun Q hQ => ?_)
  clear hfr
  unfold f_SC_data at hf
  refine lv_aload_n hx hb d_m799_0 rfl (lv_at hl 0 rfl) ?_
  refine va_get (D := (dC, dI)) (ci := 0) (v := .ref a_sto) (C := "ScanCoder") (T := T_0) (N := 9) hx hb hts n0 hown hK hP 0 rfl rfl 4 (by decide) k0 (fun _ h9 => h9) rfl d_m799_1 ?_
  refine lv_iload_n hx hb d_m799_4 rfl (lv_at hl 1 rfl) ?_
  obtain ⟨z1, hz1, hf⟩ := ob_bind hf
  refine vp_callSi (g_run (va_runV (As := [.int p0]) (rest := []) ⟨hx, hb, hml, hown, hts⟩ (c_Store_byteAt l dC dI cI cB cS cT a_sto a_sto_b sto_length n_sto_b sto_b p0 z1 hz1) ⟨(callB_of 1 hts (gi tw_690 rfl) rfl rfl rfl (hts _ (List.mem_cons_of_mem _ tw_9)) (hts _ (List.mem_cons_of_mem _ tw_800)) (by decide +kernel) ⟨Nat.le_of_ble_eq_true rfl, Nat.le_of_ble_eq_true rfl⟩), hts _ (List.mem_cons_of_mem _ tw_688), hts _ (List.mem_cons_of_mem _ tw_689)⟩ ⟨gp_blind, va_recv hK hP (ci := 9) (q0 := 1) rfl rfl, gp_at hKN (g_pm hP [1, 2] rfl)⟩ rfl rfl hl.1 rfl (lv_room (Nat.le_of_ble_eq_true rfl)) d_m799_5 ⟨Nat.zero_le _, Nat.zero_le _⟩)) (fun r hrz1 => ?_)
  have hrz1 := hrz1.symm
  subst hrz1
  refine W.eq (g2 := F0 m 8 ls [.int z1]) rfl ?_
  obtain rfl := Option.some.inj hf
  subst hQ
  exact W.iret (v := z1) hx hb hr (fun t ht hW => ⟨z1, rfl, rfl, ht⟩) (fun q h => by cases h) d_m799_8

def f_SC_look (N : Nat) (p0 : Int32) (pic_many : Int32) (pic_blocks : Int32) (pic_ac : Nat → Int32) (pic_dn : Nat → Int32) (pic_oa : Nat → Int32) (pic_od : Nat → Int32) (n_pic_co : Nat) (pic_co : Nat → Int32) (crs_interval : Int32) (crs_units : Int32) (sto_length : Int32) (vz : Nat → Int32) : Option (Int32) :=
  if p0 = (0 : Int32) then
    some sto_length
  else if p0 = (1 : Int32) then
    some pic_blocks
  else if p0 = (2 : Int32) then
    some crs_units
  else if p0 = (3 : Int32) then
    some crs_interval
  else if p0 = (4 : Int32) then
    (f_Picture_countOthersThanZero N pic_blocks n_pic_co pic_co).bind fun z1 =>
    some z1
  else if p0 = (5 : Int32) then
    (f_SC_countWords N vz).bind fun z2 =>
    some z2
  else 
    if (8 : Int32) ≤ p0 then
    (f_Picture_measure ((p0 - (8 : Int32)) / (4 : Int32)) (p0 - p0 / (4 : Int32) * (4 : Int32)) pic_many pic_ac pic_dn pic_oa pic_od).bind fun z3 =>
    some z3
  else
    some (-1 : Int32)
abbrev w_SC_look (cI cB cS cT : ClassId) (a_sc : Nat) (a_pic : Nat) (a_pic_ac : Nat) (a_pic_dn : Nat) (a_pic_oa : Nat) (a_pic_od : Nat) (a_pic_co : Nat) (a_crs : Nat) (a_sto : Nat) (a_tbs : Nat) (a_drf : Nat) (a_cnt : Nat) (a_wr : Nat) (a_enc : Nat) (a_dec : Nat) (a_pic_h : Nat) (a_pic_v : Nat) (a_pic_st : Nat) (a_crs_ow : Nat) (a_crs_pl : Nat) (a_crs_dt : Nat) (a_crs_ot : Nat) (a_sto_b : Nat) (pic_many : Int32) (pic_unitsAcross : Int32) (pic_unitsDown : Int32) (pic_blocks : Int32) (pic_ac : Nat → Int32) (pic_dn : Nat → Int32) (pic_oa : Nat → Int32) (pic_od : Nat → Int32) (n_pic_co : Nat) (pic_co : Nat → Int32) (crs_kind : Int32) (crs_first : Int32) (crs_last : Int32) (crs_bits : Int32) (crs_interval : Int32) (crs_units : Int32) (crs_blocksOfUnit : Int32) (crs_laid : Int32) (sto_length : Int32) (ta : Nat → Nat) (tw : Nat → Nat) (ts : Nat → Nat) (tf : Nat → Nat) (tx : Nat → Nat) (vw : Nat → Nat → Int32) (vs : Nat → Nat → Int32) (vf : Nat → Nat → Int32) (vx : Nat → Nat → Int32) (ve : Nat → Int32) (vz : Nat → Int32) : va_W := [(a_sc, .inr (0, [.ref a_pic, .ref a_crs, .ref a_drf, .ref a_tbs, .ref a_sto, .ref a_cnt, .ref a_wr, .ref a_enc, .ref a_dec])), (a_pic, .inr (8, [.ref a_pic_h, .ref a_pic_v, .ref a_pic_ac, .ref a_pic_dn, .ref a_pic_oa, .ref a_pic_od, .ref a_pic_st, .int pic_many, .int pic_unitsAcross, .int pic_unitsDown, .int pic_blocks, .ref a_pic_co])), (a_pic_ac, .inl (cI, 4, .inl pic_ac)), (a_pic_dn, .inl (cI, 4, .inl pic_dn)), (a_pic_oa, .inl (cI, 4, .inl pic_oa)), (a_pic_od, .inl (cI, 4, .inl pic_od)), (a_pic_co, .inl (cS, n_pic_co, .inl pic_co)), (a_crs, .inr (4, [.ref a_pic, .ref a_crs_ow, .ref a_crs_pl, .ref a_crs_dt, .ref a_crs_ot, .int crs_kind, .int crs_first, .int crs_last, .int crs_bits, .int crs_interval, .int crs_units, .int crs_blocksOfUnit, .int crs_laid])), (a_sto, .inr (9, [.ref a_sto_b, .int sto_length])), (a_tbs, .inl (cT, 8, .inr (.inr (.inr (.inr (fun i => some (ta i)))))))] ++ tbl 10 cI ta tw ts tf tx vw vs vf vx ve vz
def rm_SC_look : Room := { frames := 1, cells := 0, slots := 0, locals := 22 }
set_option maxHeartbeats 1000000 in
set_option maxRecDepth 100000 in
theorem c_SC_look (l : Launch) (dC : Nat → ClassId) (dI : Nat → Nat → Nat) (cI cB cS cT : ClassId) (N : Nat) (a_sc : Nat) (a_pic : Nat) (a_pic_ac : Nat) (a_pic_dn : Nat) (a_pic_oa : Nat) (a_pic_od : Nat) (a_pic_co : Nat) (a_crs : Nat) (a_sto : Nat) (a_tbs : Nat) (a_drf : Nat) (a_cnt : Nat) (a_wr : Nat) (a_enc : Nat) (a_dec : Nat) (a_pic_h : Nat) (a_pic_v : Nat) (a_pic_st : Nat) (a_crs_ow : Nat) (a_crs_pl : Nat) (a_crs_dt : Nat) (a_crs_ot : Nat) (a_sto_b : Nat) (pic_many : Int32) (pic_unitsAcross : Int32) (pic_unitsDown : Int32) (pic_blocks : Int32) (pic_ac : Nat → Int32) (pic_dn : Nat → Int32) (pic_oa : Nat → Int32) (pic_od : Nat → Int32) (n_pic_co : Nat) (pic_co : Nat → Int32) (crs_kind : Int32) (crs_first : Int32) (crs_last : Int32) (crs_bits : Int32) (crs_interval : Int32) (crs_units : Int32) (crs_blocksOfUnit : Int32) (crs_laid : Int32) (sto_length : Int32) (ta : Nat → Nat) (tw : Nat → Nat) (ts : Nat → Nat) (tf : Nat → Nat) (tx : Nat → Nat) (vw : Nat → Nat → Int32) (vs : Nat → Nat → Int32) (vf : Nat → Nat → Int32) (vx : Nat → Nat → Int32) (ve : Nat → Int32) (vz : Nat → Int32) (p0 : Int32) (z : Int32) (hf : f_SC_look N p0 pic_many pic_blocks pic_ac pic_dn pic_oa pic_od n_pic_co pic_co crs_interval crs_units sto_length vz = some z) : Met l y_m804 ws_m804 rm_SC_look (gPreP (dC, dI) [.ref a_sc, .int p0] (gT cI cB cS cT) (w_SC_look cI cB cS cT a_sc a_pic a_pic_ac a_pic_dn a_pic_oa a_pic_od a_pic_co a_crs a_sto a_tbs a_drf a_cnt a_wr a_enc a_dec a_pic_h a_pic_v a_pic_st a_crs_ow a_crs_pl a_crs_dt a_crs_ot a_sto_b pic_many pic_unitsAcross pic_unitsDown pic_blocks pic_ac pic_dn pic_oa pic_od n_pic_co pic_co crs_kind crs_first crs_last crs_bits crs_interval crs_units crs_blocksOfUnit crs_laid sto_length ta tw ts tf tx vw vs vf vx ve vz)) (vp_Si (fun r => r = z)) 0 0 (fun _ => False) := by
  refine Met.ofW (cc := prog_1_method_18_code) (maxL := 2) (ret := (some .int)) (by decide) rfl ?_
  intro p e s m args below meth c s₁ B hml hv
  obtain ⟨hargs, hP, hKN⟩ := hv
  have hK := hKN.1
  have hx := B.exec
  have hb := B.bytes
  have hr := B.returns
  have hts := atoms_spec (ws := ws_m804) B.pre
  have hown : s.vm.findClass "ScanCoder" = some m.cls := findClass_of_methodNamed B.named
  have hlocks := B.notSynchronized
  have k0 := hts _ (List.mem_cons_of_mem _ tw_423)
  have k1 := hts _ (List.mem_cons_of_mem _ tw_283)
  have k2 := hts _ (List.mem_cons_of_mem _ tw_419)
  have k3 := hts _ (List.mem_cons_of_mem _ tw_78)
  have k4 := hts _ (List.mem_cons_of_mem _ tw_420)
  have k5 := hts _ (List.mem_cons_of_mem _ tw_189)
  have k6 := hts _ (List.mem_cons_of_mem _ tw_185)
  have n0 : ∀ w ∈ u_ws "ScanCoder" T_0 9, w ∈ ws_m804 := fun w h => List.mem_cons_of_mem _ (in_0 w h)
  have n1 : ∀ w ∈ u_ws "ScanCoder$Store" T_9 2, w ∈ ws_m804 := fun w h => List.mem_cons_of_mem _ (in_9 w h)
  have n2 : ∀ w ∈ u_ws "ScanCoder$Picture" T_8 12, w ∈ ws_m804 := fun w h => List.mem_cons_of_mem _ (in_8 w h)
  have n3 : ∀ w ∈ u_ws "ScanCoder$Course" T_4 13, w ∈ ws_m804 := fun w h => List.mem_cons_of_mem _ (in_4 w h)
  have hl := lv_entry ([.ref a_sc, .int p0]) (n := 2) (Nat.le_of_ble_eq_true rfl)
  have hfr : entryFrame m args 2 = F0 m 0 ((lg_sl ([.ref a_sc, .int p0]) ++ List.replicate (2 - (lg_sl ([.ref a_sc, .int p0])).length) Slot.unset).toArray) [] := by rw [hargs]; exact lg_entry_eq _ _ _
  rw [hfr]
  generalize (lg_sl ([.ref a_sc, .int p0]) ++ List.replicate (2 - (lg_sl ([.ref a_sc, .int p0])).length) Slot.unset).toArray = ls at hl ⊢
  have hl : lv_has ls 2 [(0, .ref a_sc), (1, .int p0)] := hl
  refine gen_Q (fun Q hQ => ?_)
  clear hfr
  unfold f_SC_look at hf
  refine lv_iload_n hx hb d_m804_0 rfl (lv_at hl 1 rfl) ?_
  rcases Classical.em (p0 = (0 : Int32)) with hc0 | hc0
  · replace hf := (if_pos hc0).symm.trans hf
    refine lv_tableIn (tgt := 40) hx hb d_m804_1 (by rw [hc0]; decide) (by rw [hc0]; decide) (by rw [hc0]; rfl) (by decide) ?_
    refine lv_aload_n hx hb d_m804_40 rfl (lv_at hl 0 rfl) ?_
    refine va_get (D := (dC, dI)) (ci := 0) (v := .ref a_sto) (C := "ScanCoder") (T := T_0) (N := 9) hx hb hts n0 hown hK hP 0 rfl rfl 4 (by decide) k0 (fun _ h9 => h9) rfl d_m804_41 ?_
    refine va_get (D := (dC, dI)) (ci := 9) (v := .int sto_length) (C := "ScanCoder$Store") (T := T_9) (N := 2) hx hb hts n1 hown hK hP 8 rfl rfl 1 (by decide) k1 (fun _ h9 => h9) rfl d_m804_44 ?_
    obtain rfl := Option.some.inj hf
    subst hQ
    exact W.iret (v := sto_length) hx hb hr (fun t ht hW => ⟨sto_length, rfl, rfl, ht⟩) (fun q h => by cases h) d_m804_47
  · replace hf := (if_neg hc0).symm.trans hf
    rcases Classical.em (p0 = (1 : Int32)) with hc1 | hc1
    · replace hf := (if_pos hc1).symm.trans hf
      refine lv_tableIn (tgt := 48) hx hb d_m804_1 (by rw [hc1]; decide) (by rw [hc1]; decide) (by rw [hc1]; rfl) (by decide) ?_
      refine lv_aload_n hx hb d_m804_48 rfl (lv_at hl 0 rfl) ?_
      refine va_get (D := (dC, dI)) (ci := 0) (v := .ref a_pic) (C := "ScanCoder") (T := T_0) (N := 9) hx hb hts n0 hown hK hP 0 rfl rfl 0 (by decide) k2 (fun _ h9 => h9) rfl d_m804_49 ?_
      refine va_get (D := (dC, dI)) (ci := 8) (v := .int pic_blocks) (C := "ScanCoder$Picture") (T := T_8) (N := 12) hx hb hts n2 hown hK hP 1 rfl rfl 10 (by decide) k3 (fun _ h9 => h9) rfl d_m804_52 ?_
      obtain rfl := Option.some.inj hf
      subst hQ
      exact W.iret (v := pic_blocks) hx hb hr (fun t ht hW => ⟨pic_blocks, rfl, rfl, ht⟩) (fun q h => by cases h) d_m804_55
    · replace hf := (if_neg hc1).symm.trans hf
      rcases Classical.em (p0 = (2 : Int32)) with hc2 | hc2
      · replace hf := (if_pos hc2).symm.trans hf
        refine lv_tableIn (tgt := 56) hx hb d_m804_1 (by rw [hc2]; decide) (by rw [hc2]; decide) (by rw [hc2]; rfl) (by decide) ?_
        refine lv_aload_n hx hb d_m804_56 rfl (lv_at hl 0 rfl) ?_
        refine va_get (D := (dC, dI)) (ci := 0) (v := .ref a_crs) (C := "ScanCoder") (T := T_0) (N := 9) hx hb hts n0 hown hK hP 0 rfl rfl 1 (by decide) k4 (fun _ h9 => h9) rfl d_m804_57 ?_
        refine va_get (D := (dC, dI)) (ci := 4) (v := .int crs_units) (C := "ScanCoder$Course") (T := T_4) (N := 13) hx hb hts n3 hown hK hP 7 rfl rfl 10 (by decide) k5 (fun _ h9 => h9) rfl d_m804_60 ?_
        obtain rfl := Option.some.inj hf
        subst hQ
        exact W.iret (v := crs_units) hx hb hr (fun t ht hW => ⟨crs_units, rfl, rfl, ht⟩) (fun q h => by cases h) d_m804_63
      · replace hf := (if_neg hc2).symm.trans hf
        rcases Classical.em (p0 = (3 : Int32)) with hc3 | hc3
        · replace hf := (if_pos hc3).symm.trans hf
          refine lv_tableIn (tgt := 64) hx hb d_m804_1 (by rw [hc3]; decide) (by rw [hc3]; decide) (by rw [hc3]; rfl) (by decide) ?_
          refine lv_aload_n hx hb d_m804_64 rfl (lv_at hl 0 rfl) ?_
          refine va_get (D := (dC, dI)) (ci := 0) (v := .ref a_crs) (C := "ScanCoder") (T := T_0) (N := 9) hx hb hts n0 hown hK hP 0 rfl rfl 1 (by decide) k4 (fun _ h9 => h9) rfl d_m804_65 ?_
          refine va_get (D := (dC, dI)) (ci := 4) (v := .int crs_interval) (C := "ScanCoder$Course") (T := T_4) (N := 13) hx hb hts n3 hown hK hP 7 rfl rfl 9 (by decide) k6 (fun _ h9 => h9) rfl d_m804_68 ?_
          obtain rfl := Option.some.inj hf
          subst hQ
          exact W.iret (v := crs_interval) hx hb hr (fun t ht hW => ⟨crs_interval, rfl, rfl, ht⟩) (fun q h => by cases h) d_m804_71
        · replace hf := (if_neg hc3).symm.trans hf
          rcases Classical.em (p0 = (4 : Int32)) with hc4 | hc4
          · replace hf := (if_pos hc4).symm.trans hf
            refine lv_tableIn (tgt := 72) hx hb d_m804_1 (by rw [hc4]; decide) (by rw [hc4]; decide) (by rw [hc4]; rfl) (by decide) ?_
            refine lv_aload_n hx hb d_m804_72 rfl (lv_at hl 0 rfl) ?_
            refine va_get (D := (dC, dI)) (ci := 0) (v := .ref a_pic) (C := "ScanCoder") (T := T_0) (N := 9) hx hb hts n0 hown hK hP 0 rfl rfl 0 (by decide) k2 (fun _ h9 => h9) rfl d_m804_73 ?_
            obtain ⟨z1, hz1, hf⟩ := ob_bind hf
            refine vp_callSi (g_run (va_runV (As := []) (rest := []) ⟨hx, hb, hml, hown, hts⟩ (c_Picture_countOthersThanZero l dC dI cI cB cS cT N a_pic a_pic_co a_pic_h a_pic_v a_pic_ac a_pic_dn a_pic_oa a_pic_od a_pic_st pic_many pic_unitsAcross pic_unitsDown pic_blocks n_pic_co pic_co z1 hz1) ⟨(callB_of 0 hts (gi tw_808 rfl) rfl rfl rfl (hts _ (List.mem_cons_of_mem _ tw_2)) (hts _ (List.mem_cons_of_mem _ tw_805)) (by decide +kernel) ⟨Nat.le_of_ble_eq_true rfl, Nat.le_of_ble_eq_true rfl⟩), hts _ (List.mem_cons_of_mem _ tw_806), hts _ (List.mem_cons_of_mem _ tw_807)⟩ ⟨gp_blind, va_recv hK hP (ci := 8) (q0 := 1) rfl rfl, gp_at hKN (g_pm hP [1, 6] rfl)⟩ rfl rfl hl.1 rfl (lv_room (Nat.le_of_ble_eq_true rfl)) d_m804_76 ⟨Nat.zero_le _, Nat.zero_le _⟩)) (fun r hrz1 => ?_)
            have hrz1 := hrz1.symm
            subst hrz1
            refine W.eq (g2 := F0 m 79 ls [.int z1]) rfl ?_
            obtain rfl := Option.some.inj hf
            subst hQ
            exact W.iret (v := z1) hx hb hr (fun t ht hW => ⟨z1, rfl, rfl, ht⟩) (fun q h => by cases h) d_m804_79
          · replace hf := (if_neg hc4).symm.trans hf
            rcases Classical.em (p0 = (5 : Int32)) with hc5 | hc5
            · replace hf := (if_pos hc5).symm.trans hf
              refine lv_tableIn (tgt := 80) hx hb d_m804_1 (by rw [hc5]; decide) (by rw [hc5]; decide) (by rw [hc5]; rfl) (by decide) ?_
              refine lv_aload_n hx hb d_m804_80 rfl (lv_at hl 0 rfl) ?_
              obtain ⟨z2, hz2, hf⟩ := ob_bind hf
              refine vp_callSi (g_run (va_runV (As := []) (rest := []) ⟨hx, hb, hml, hown, hts⟩ (c_SC_countWords l dC dI cI cB cS cT N a_sc a_tbs a_pic a_crs a_drf a_sto a_cnt a_wr a_enc a_dec ta tw ts tf tx vw vs vf vx ve vz z2 hz2) ⟨(callB_of 0 hts (gi tw_812 rfl) rfl rfl rfl (hts _ (List.mem_cons_of_mem _ tw_1)) (hts _ (List.mem_cons_of_mem _ tw_809)) (by decide +kernel) ⟨Nat.le_of_ble_eq_true rfl, Nat.le_of_ble_eq_true rfl⟩), hts _ (List.mem_cons_of_mem _ tw_811), hts _ (List.mem_cons_of_mem _ ts_m812)⟩ ⟨gp_blind, va_recv hK hP (ci := 0) (q0 := 0) rfl rfl, gp_at hKN (g_pm hP [0, 9, 10, 11, 12, 13, 14, 15, 16, 17, 18, 19, 20, 21, 22, 23, 24, 25, 26, 27, 28, 29, 30, 31, 32, 33, 34, 35, 36, 37, 38, 39, 40, 41, 42, 43, 44, 45, 46, 47, 48, 49] rfl)⟩ rfl rfl hl.1 rfl (lv_room (Nat.le_of_ble_eq_true rfl)) d_m804_81 ⟨Nat.zero_le _, Nat.zero_le _⟩)) (fun r hrz2 => ?_)
              have hrz2 := hrz2.symm
              subst hrz2
              refine W.eq (g2 := F0 m 84 ls [.int z2]) rfl ?_
              obtain rfl := Option.some.inj hf
              subst hQ
              exact W.iret (v := z2) hx hb hr (fun t ht hW => ⟨z2, rfl, rfl, ht⟩) (fun q h => by cases h) d_m804_84
            · replace hf := (if_neg hc5).symm.trans hf
              have hn0 : p0.toInt ≠ 0 := fun h => hc0 (Int32.toInt_inj.mp (by rw [h]; decide))
              have hn1 : p0.toInt ≠ 1 := fun h => hc1 (Int32.toInt_inj.mp (by rw [h]; decide))
              have hn2 : p0.toInt ≠ 2 := fun h => hc2 (Int32.toInt_inj.mp (by rw [h]; decide))
              have hn3 : p0.toInt ≠ 3 := fun h => hc3 (Int32.toInt_inj.mp (by rw [h]; decide))
              have hn4 : p0.toInt ≠ 4 := fun h => hc4 (Int32.toInt_inj.mp (by rw [h]; decide))
              have hn5 : p0.toInt ≠ 5 := fun h => hc5 (Int32.toInt_inj.mp (by rw [h]; decide))
              refine lv_tableOut (tgt := 85) hx hb d_m804_1 (by omega) (by decide) ?_
              refine lv_iload_n hx hb d_m804_85 rfl (lv_at hl 1 rfl) ?_
              refine lv_bipush (v := (8 : Int32)) hx hb d_m804_86 (by decide) ?_
              refine lv_icmp_ge (tgt := 95) hx hb d_m804_88 (by decide) (fun hc => ?_) (fun hc => ?_)
              · replace hf := (if_pos hc).symm.trans hf
                refine lv_aload_n hx hb d_m804_95 rfl (lv_at hl 0 rfl) ?_
                refine va_get (D := (dC, dI)) (ci := 0) (v := .ref a_pic) (C := "ScanCoder") (T := T_0) (N := 9) hx hb hts n0 hown hK hP 0 rfl rfl 0 (by decide) k2 (fun _ h9 => h9) rfl d_m804_96 ?_
                refine lv_iload_n hx hb d_m804_99 rfl (lv_at hl 1 rfl) ?_
                refine lv_bipush (v := (8 : Int32)) hx hb d_m804_100 (by decide) ?_
                refine lv_isub hx hb d_m804_102 ?_
                refine lv_iconst (v := (4 : Int32)) hx hb d_m804_103 (by decide) ?_
                refine lv_idiv hx hb d_m804_104 (by decide) ?_
                refine lv_iload_n hx hb d_m804_105 rfl (lv_at hl 1 rfl) ?_
                refine lv_iconst (v := (4 : Int32)) hx hb d_m804_106 (by decide) ?_
                refine lv_irem hx hb d_m804_107 (by decide) ?_
                obtain ⟨z3, hz3, hf⟩ := ob_bind hf
                refine vp_callSi (g_run (va_runV (As := [.int ((p0 - (8 : Int32)) / (4 : Int32)), .int (p0 - p0 / (4 : Int32) * (4 : Int32))]) (rest := []) ⟨hx, hb, hml, hown, hts⟩ (c_Picture_measure l dC dI cI cB cS cT a_pic a_pic_ac a_pic_dn a_pic_oa a_pic_od a_pic_h a_pic_v a_pic_st a_pic_co pic_many pic_unitsAcross pic_unitsDown pic_blocks pic_ac pic_dn pic_oa pic_od ((p0 - (8 : Int32)) / (4 : Int32)) (p0 - p0 / (4 : Int32) * (4 : Int32)) z3 hz3) ⟨(callB_of 2 hts (gi tw_816 rfl) rfl rfl rfl (hts _ (List.mem_cons_of_mem _ tw_2)) (hts _ (List.mem_cons_of_mem _ tw_813)) (by decide +kernel) ⟨Nat.le_of_ble_eq_true rfl, Nat.le_of_ble_eq_true rfl⟩), hts _ (List.mem_cons_of_mem _ tw_814), hts _ (List.mem_cons_of_mem _ tw_815)⟩ ⟨gp_blind, va_recv hK hP (ci := 8) (q0 := 1) rfl rfl, gp_at hKN (g_pm hP [1, 2, 3, 4, 5] rfl)⟩ rfl rfl hl.1 rfl (lv_room (Nat.le_of_ble_eq_true rfl)) d_m804_108 ⟨Nat.zero_le _, Nat.zero_le _⟩)) (fun r hrz3 => ?_)
                have hrz3 := hrz3.symm
                subst hrz3
                refine W.eq (g2 := F0 m 111 ls [.int z3]) rfl ?_
                obtain rfl := Option.some.inj hf
                subst hQ
                exact W.iret (v := z3) hx hb hr (fun t ht hW => ⟨z3, rfl, rfl, ht⟩) (fun q h => by cases h) d_m804_111
              · replace hf := (if_neg hc).symm.trans hf
                refine lv_iconst (v := (-1 : Int32)) hx hb d_m804_91 (by decide) ?_
                refine lv_goto (tgt := 111) hx hb d_m804_92 (by decide) ?_
                obtain rfl := Option.some.inj hf
                subst hQ
                exact W.iret (v := (-1 : Int32)) hx hb hr (fun t ht hW => ⟨(-1 : Int32), rfl, rfl, ht⟩) (fun q h => by cases h) d_m804_111
