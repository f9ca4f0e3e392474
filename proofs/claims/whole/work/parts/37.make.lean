abbrev y_m476 : MethodName := ({ cls := "ScanCoder", name := "make", desc := "(I)Z" } : Jvm.MethodName)
def ws_m476 : List Cond := .code y_m476 prog_1_method_5_code 2 (some .boolean) :: gw_tbl
theorem d_m476_0 : decode prog_1_method_5_code 0 = .ok (.iload_n 1, 1) := by decide +kernel
theorem d_m476_1 : decode prog_1_method_5_code 1 = .ok (.ifCond .lt 19, 3) := by decide +kernel
theorem d_m476_4 : decode prog_1_method_5_code 4 = .ok (.iload_n 1, 1) := by decide +kernel
theorem d_m476_5 : decode prog_1_method_5_code 5 = .ok (.bipush 8, 2) := by decide +kernel
theorem d_m476_7 : decode prog_1_method_5_code 7 = .ok (.if_icmp .ge 13, 3) := by decide +kernel
theorem d_m476_10 : decode prog_1_method_5_code 10 = .ok (.aload_n 0, 1) := by decide +kernel
theorem d_m476_11 : decode prog_1_method_5_code 11 = .ok (.getfield 28, 3) := by decide +kernel
theorem d_m476_14 : decode prog_1_method_5_code 14 = .ok (.invokevirtual 104, 3) := by decide +kernel
theorem d_m476_17 : decode prog_1_method_5_code 17 = .ok (.ifCond .ne 5, 3) := by decide +kernel
theorem d_m476_20 : decode prog_1_method_5_code 20 = .ok (.iconst 0, 1) := by decide +kernel
theorem d_m476_21 : decode prog_1_method_5_code 21 = .ok (.ireturn, 1) := by decide +kernel
theorem d_m476_22 : decode prog_1_method_5_code 22 = .ok (.aload_n 0, 1) := by decide +kernel
theorem d_m476_23 : decode prog_1_method_5_code 23 = .ok (.getfield 34, 3) := by decide +kernel
theorem d_m476_26 : decode prog_1_method_5_code 26 = .ok (.iload_n 1, 1) := by decide +kernel
theorem d_m476_27 : decode prog_1_method_5_code 27 = .ok (.aaload, 1) := by decide +kernel
theorem d_m476_28 : decode prog_1_method_5_code 28 = .ok (.aload_n 0, 1) := by decide +kernel
theorem d_m476_29 : decode prog_1_method_5_code 29 = .ok (.getfield 28, 3) := by decide +kernel
theorem d_m476_32 : decode prog_1_method_5_code 32 = .ok (.invokevirtual 108, 3) := by decide +kernel
theorem d_m476_35 : decode prog_1_method_5_code 35 = .ok (.iconst 1, 1) := by decide +kernel
theorem d_m476_36 : decode prog_1_method_5_code 36 = .ok (.ireturn, 1) := by decide +kernel

def f_SC_make (N : Nat) (p0 : Int32) (drf_size : Int32) (drf_c : Nat → Int32) (drf_s : Nat → Int32) (drf_z : Nat → Int32) (vw : Nat → Nat → Int32) (vs : Nat → Nat → Int32) (vf : Nat → Nat → Int32) (vx : Nat → Nat → Int32) (ve : Nat → Int32) (vz : Nat → Int32) : Option (Int32 × (Nat → Int32) × (Nat → Nat → Int32) × (Nat → Nat → Int32) × (Nat → Nat → Int32) × (Nat → Nat → Int32) × (Nat → Int32) × (Nat → Int32)) :=
  if p0 < 0 then
    some ((0 : Int32), drf_z, vw, vs, vf, vx, ve, vz)
  else
    if (8 : Int32) ≤ p0 then
      some ((0 : Int32), drf_z, vw, vs, vf, vx, ve, vz)
    else
      (f_Draft_isTable N drf_size drf_c drf_s drf_z).bind fun z1 =>
      if z1.1 = 0 then
        some ((0 : Int32), z1.2, vw, vs, vf, vx, ve, vz)
      else
        if p0 < 0 ∨ 8 ≤ p0.toNatClampNeg then none else
        (f_Table_become N drf_size drf_c drf_s (vw p0.toNatClampNeg) (vs p0.toNatClampNeg) (vf p0.toNatClampNeg) (vx p0.toNatClampNeg)).bind fun z3 =>
        some ((1 : Int32), z1.2, va_up vw p0.toNatClampNeg z3.2.2.1, va_up vs p0.toNatClampNeg z3.2.2.2.1, va_up vf p0.toNatClampNeg z3.2.2.2.2.1, va_up vx p0.toNatClampNeg z3.2.2.2.2.2, va_up ve p0.toNatClampNeg z3.1, va_up vz p0.toNatClampNeg z3.2.1)
abbrev w_SC_make (cI cB cS cT : ClassId) (a_sc : Nat) (a_drf : Nat) (a_drf_c : Nat) (a_drf_s : Nat) (a_drf_z : Nat) (a_tbs : Nat) (a_pic : Nat) (a_crs : Nat) (a_sto : Nat) (a_cnt : Nat) (a_wr : Nat) (a_enc : Nat) (a_dec : Nat) (drf_size : Int32) (drf_c : Nat → Int32) (drf_s : Nat → Int32) (drf_z : Nat → Int32) (ta : Nat → Nat) (tw : Nat → Nat) (ts : Nat → Nat) (tf : Nat → Nat) (tx : Nat → Nat) (vw : Nat → Nat → Int32) (vs : Nat → Nat → Int32) (vf : Nat → Nat → Int32) (vx : Nat → Nat → Int32) (ve : Nat → Int32) (vz : Nat → Int32) : va_W := [(a_sc, .inr (0, [.ref a_pic, .ref a_crs, .ref a_drf, .ref a_tbs, .ref a_sto, .ref a_cnt, .ref a_wr, .ref a_enc, .ref a_dec])), (a_drf, .inr (6, [.ref a_drf_c, .ref a_drf_s, .ref a_drf_z, .int drf_size])), (a_drf_c, .inl (cI, 17, .inl drf_c)), (a_drf_s, .inl (cI, 256, .inl drf_s)), (a_drf_z, .inl (cB, 256, .inl drf_z)), (a_tbs, .inl (cT, 8, .inr (.inr (.inr (.inr (fun i => some (ta i)))))))] ++ tbl 10 cI ta tw ts tf tx vw vs vf vx ve vz
def rm_SC_make : Room := { frames := 3, cells := 0, slots := 0, locals := 66 }
set_option maxHeartbeats 1000000 in
set_option maxRecDepth 100000 in
theorem c_SC_make (l : Launch) (dC : Nat → ClassId) (dI : Nat → Nat → Nat) (cI cB cS cT : ClassId) (N : Nat) (a_sc : Nat) (a_drf : Nat) (a_drf_c : Nat) (a_drf_s : Nat) (a_drf_z : Nat) (a_tbs : Nat) (a_pic : Nat) (a_crs : Nat) (a_sto : Nat) (a_cnt : Nat) (a_wr : Nat) (a_enc : Nat) (a_dec : Nat) (drf_size : Int32) (drf_c : Nat → Int32) (drf_s : Nat → Int32) (drf_z : Nat → Int32) (ta : Nat → Nat) (tw : Nat → Nat) (ts : Nat → Nat) (tf : Nat → Nat) (tx : Nat → Nat) (vw : Nat → Nat → Int32) (vs : Nat → Nat → Int32) (vf : Nat → Nat → Int32) (vx : Nat → Nat → Int32) (ve : Nat → Int32) (vz : Nat → Int32) (p0 : Int32) (sz : Nat) (z : Int32 × (Nat → Int32) × (Nat → Nat → Int32) × (Nat → Nat → Int32) × (Nat → Nat → Int32) × (Nat → Nat → Int32) × (Nat → Int32) × (Nat → Int32)) (hf : f_SC_make N p0 drf_size drf_c drf_s drf_z vw vs vf vx ve vz = some z) : Met l y_m476 ws_m476 rm_SC_make (gPre (dC, dI) [.ref a_sc, .int p0] (gT cI cB cS cT) (w_SC_make cI cB cS cT a_sc a_drf a_drf_c a_drf_s a_drf_z a_tbs a_pic a_crs a_sto a_cnt a_wr a_enc a_dec drf_size drf_c drf_s drf_z ta tw ts tf tx vw vs vf vx ve vz) sz) (gQi (dC, dI) (gT cI cB cS cT) z.1 (w_SC_make cI cB cS cT a_sc a_drf a_drf_c a_drf_s a_drf_z a_tbs a_pic a_crs a_sto a_cnt a_wr a_enc a_dec drf_size drf_c drf_s drf_z ta tw ts tf tx vw vs vf vx ve vz) (w_SC_make cI cB cS cT a_sc a_drf a_drf_c a_drf_s a_drf_z a_tbs a_pic a_crs a_sto a_cnt a_wr a_enc a_dec drf_size drf_c drf_s z.2.1 ta tw ts tf tx z.2.2.1 z.2.2.2.1 z.2.2.2.2.1 z.2.2.2.2.2.1 z.2.2.2.2.2.2.1 z.2.2.2.2.2.2.2) sz) 0 0 (va_A (w_SC_make cI cB cS cT a_sc a_drf a_drf_c a_drf_s a_drf_z a_tbs a_pic a_crs a_sto a_cnt a_wr a_enc a_dec drf_size drf_c drf_s drf_z ta tw ts tf tx vw vs vf vx ve vz) sz) := by
  refine Met.ofW (cc := prog_1_method_5_code) (maxL := 2) (ret := (some .boolean)) (by decide) rfl ?_
  intro p e s m args below meth c s₁ B hml hv
  obtain ⟨hargs, hsz, hP, hKN, hD0⟩ := hv
  have hK := hKN.1
  have hx := B.exec
  have hb := B.bytes
  have hr := B.returns
  have hts := atoms_spec (ws := ws_m476) B.pre
  have hown : s.vm.findClass "ScanCoder" = some m.cls := findClass_of_methodNamed B.named
  have hlocks := B.notSynchronized
  have k0 := hts _ (List.mem_cons_of_mem _ tw_421)
  have k1 := hts _ (List.mem_cons_of_mem _ tw_422)
  have n0 : ∀ w ∈ u_ws "ScanCoder" T_0 9, w ∈ ws_m476 := fun w h => List.mem_cons_of_mem _ (in_0 w h)
  subst hsz
  have hD := hD0.self (sz := s.heap.size)
  obtain ⟨A, hAe⟩ : ∃ A : Nat → Prop, va_A (w_SC_make cI cB cS cT a_sc a_drf a_drf_c a_drf_s a_drf_z a_tbs a_pic a_crs a_sto a_cnt a_wr a_enc a_dec drf_size drf_c drf_s drf_z ta tw ts tf tx vw vs vf vx ve vz) s.heap.size = A := ⟨_, rfl⟩
  rw [hAe] at hD
  have hA : ∀ q : Nat, s.heap.size ≤ q → A q := fun q h => by rw [← hAe]; exact Or.inr h
  have hS : va_S A s.heap s.heap [] := va_S.rf
  have hl := lv_entry ([.ref a_sc, .int p0]) (n := 2) (Nat.le_of_ble_eq_true rfl)
  have hfr : entryFrame m args 2 = F0 m 0 ((lg_sl ([.ref a_sc, .int p0]) ++ List.replicate (2 - (lg_sl ([.ref a_sc, .int p0])).length) Slot.unset).toArray) [] := by rw [hargs]; exact lg_entry_eq _ _ _
  rw [hfr]
  generalize (lg_sl ([.ref a_sc, .int p0]) ++ List.replicate (2 - (lg_sl ([.ref a_sc, .int p0])).length) Slot.unset).toArray = ls at hl ⊢
  have hl : lv_has ls 2 [(0, .ref a_sc), (1, .int p0)] := hl
  refine gen_Q (fun Q hQ => ?_)
  clear hfr
  have hgo : ∀ (H : Heap) (locs : List Loc), va_P (dC, dI) vwCl (w_SC_make cI cB cS cT a_sc a_drf a_drf_c a_drf_s a_drf_z a_tbs a_pic a_crs a_sto a_cnt a_wr a_enc a_dec drf_size drf_c drf_s drf_z ta tw ts tf tx vw vs vf vx ve vz) H → va_S A s.heap H locs → W p l e (headSpec ws_m476 rm_SC_make).room s m args below meth c H locs 0 0 Q (F0 m 0 ls []) := by
    intro H locs hP hS
    unfold f_SC_make at hf
    refine lv_iload_n hx hb d_m476_0 rfl (lv_at hl 1 rfl) ?_
    refine lv_if_lt (tgt := 20) hx hb d_m476_1 (by decide) (fun hc => ?_) (fun hc => ?_)
    · replace hf := (if_pos hc).symm.trans hf
      refine lv_iconst (v := (0 : Int32)) hx hb d_m476_20 (by decide) ?_
      obtain rfl := Option.some.inj hf
      subst hQ
      subst hAe
      exact W.zret (v := (0 : Int32)) hx hb hr (by decide) (fun t ht hW => ⟨⟨(0 : Int32), (), rfl, rfl, by rw [ht]; exact hP, hD⟩, hS.F ht⟩) hS.2.2 d_m476_21
    · replace hf := (if_neg hc).symm.trans hf
      refine lv_iload_n hx hb d_m476_4 rfl (lv_at hl 1 rfl) ?_
      refine lv_bipush (v := (8 : Int32)) hx hb d_m476_5 (by decide) ?_
      refine lv_icmp_ge (tgt := 20) hx hb d_m476_7 (by decide) (fun hc => ?_) (fun hc => ?_)
      · replace hf := (if_pos hc).symm.trans hf
        refine lv_iconst (v := (0 : Int32)) hx hb d_m476_20 (by decide) ?_
        obtain rfl := Option.some.inj hf
        subst hQ
        subst hAe
        exact W.zret (v := (0 : Int32)) hx hb hr (by decide) (fun t ht hW => ⟨⟨(0 : Int32), (), rfl, rfl, by rw [ht]; exact hP, hD⟩, hS.F ht⟩) hS.2.2 d_m476_21
      · replace hf := (if_neg hc).symm.trans hf
        refine lv_aload_n hx hb d_m476_10 rfl (lv_at hl 0 rfl) ?_
        refine va_get (D := (dC, dI)) (ci := 0) (v := .ref a_drf) (C := "ScanCoder") (T := T_0) (N := 9) hx hb hts n0 hown hK hP 0 rfl rfl 2 (by decide) k0 (fun _ h9 => h9) rfl d_m476_11 ?_
        obtain ⟨z1, hz1, hf⟩ := ob_bind hf
        refine g_calli (wc := (w_Draft_isTable cI cB cS cT a_drf a_drf_c a_drf_s a_drf_z drf_size drf_c drf_s drf_z)) (w1 := (w_Draft_isTable cI cB cS cT a_drf a_drf_c a_drf_s a_drf_z drf_size drf_c drf_s z1.2)) (w2 := (w_SC_make cI cB cS cT a_sc a_drf a_drf_c a_drf_s a_drf_z a_tbs a_pic a_crs a_sto a_cnt a_wr a_enc a_dec drf_size drf_c drf_s z1.2 ta tw ts tf tx vw vs vf vx ve vz)) [1, 2, 3, 4] [none, some 0, some 1, some 2, some 3, none, none, none, none, none, none, none, none, none, none, none, none, none, none, none, none, none, none, none, none, none, none, none, none, none, none, none, none, none, none, none, none, none, none, none, none, none, none, none, none, none] hP hD hS hA rfl rfl rfl rfl (va_runV (As := []) (rest := []) ⟨hx, hb, hml, hown, hts⟩ (c_Draft_isTable l dC dI cI cB cS cT N a_drf a_drf_c a_drf_s a_drf_z drf_size drf_c drf_s drf_z H.size z1 hz1) ⟨(callB_of 0 hts (gi tw_480 rfl) rfl rfl rfl (hts _ (List.mem_cons_of_mem _ tw_7)) (hts _ (List.mem_cons_of_mem _ tw_477)) (by decide +kernel) ⟨Nat.le_of_ble_eq_true rfl, Nat.le_of_ble_eq_true rfl⟩), hts _ (List.mem_cons_of_mem _ tw_478), hts _ (List.mem_cons_of_mem _ tw_479)⟩ ⟨g_blind, va_recv hK hP (ci := 6) (q0 := 1) rfl rfl, g_at hKN (g_pm hP [1, 2, 3, 4] rfl) (hD.sub [1, 2, 3, 4] (by decide) rfl)⟩ rfl rfl hl.1 rfl (lv_room (Nat.le_of_ble_eq_true rfl)) d_m476_14 ⟨Nat.zero_le _, Nat.zero_le _⟩) (fun H locs hP hD hS => ?_)
        refine W.eq (g2 := F0 m 17 ls [.int z1.1]) rfl ?_
        refine lv_if_ne (tgt := 22) hx hb d_m476_17 (by decide) (fun hc => ?_) (fun hc => ?_)
        · replace hf := (if_neg hc).symm.trans hf
          refine lv_aload_n hx hb d_m476_22 rfl (lv_at hl 0 rfl) ?_
          refine va_get (D := (dC, dI)) (ci := 0) (v := .ref a_tbs) (C := "ScanCoder") (T := T_0) (N := 9) hx hb hts n0 hown hK hP 0 rfl rfl 3 (by decide) k1 (fun _ h9 => h9) rfl d_m476_23 ?_
          refine lv_iload_n hx hb d_m476_26 rfl (lv_at hl 1 rfl) ?_
          obtain ⟨hi, hf⟩ := ob_if hf
          have hix2 : p0.toNatClampNeg < 8 := Nat.lt_of_not_le (fun h => hi (Or.inr h))
          refine va_aldq hx hb hK hP 5 3 rfl rfl hi d_m476_27 ?_
          refine W.eq (g2 := F0 m 28 ls [.ref (ta p0.toNatClampNeg)]) rfl ?_
          refine lv_aload_n hx hb d_m476_28 rfl (lv_at hl 0 rfl) ?_
          refine va_get (D := (dC, dI)) (ci := 0) (v := .ref a_drf) (C := "ScanCoder") (T := T_0) (N := 9) hx hb hts n0 hown hK hP 0 rfl rfl 2 (by decide) k0 (fun _ h9 => h9) rfl d_m476_29 ?_
          obtain ⟨z3, hz3, hf⟩ := ob_bind hf
          obtain ⟨ii, hii⟩ : ∃ ii : Nat, ii = p0.toNatClampNeg := ⟨_, rfl⟩
          rw [← hii] at hz3 hf hix2 ⊢
          rcases (show ii = 0 ∨ ii = 1 ∨ ii = 2 ∨ ii = 3 ∨ ii = 4 ∨ ii = 5 ∨ ii = 6 ∨ ii = 7 by omega) with rfl | rfl | rfl | rfl | rfl | rfl | rfl | rfl
          · refine g_callv (wc := (w_Table_become cI cB cS cT a_drf a_drf_c a_drf_s (ta 0) (tw 0) (ts 0) (tf 0) (tx 0) a_drf_z drf_size drf_c drf_s (ve 0) (vz 0) (vw 0) (vs 0) (vf 0) (vx 0))) (w1 := (w_Table_become cI cB cS cT a_drf a_drf_c a_drf_s (ta 0) (tw 0) (ts 0) (tf 0) (tx 0) a_drf_z drf_size drf_c drf_s z3.1 z3.2.1 z3.2.2.1 z3.2.2.2.1 z3.2.2.2.2.1 z3.2.2.2.2.2)) (w2 := (w_SC_make cI cB cS cT a_sc a_drf a_drf_c a_drf_s a_drf_z a_tbs a_pic a_crs a_sto a_cnt a_wr a_enc a_dec drf_size drf_c drf_s z1.2 ta tw ts tf tx (va_up vw 0 z3.2.2.1) (va_up vs 0 z3.2.2.2.1) (va_up vf 0 z3.2.2.2.2.1) (va_up vx 0 z3.2.2.2.2.2) (va_up ve 0 z3.1) (va_up vz 0 z3.2.1))) [1, 2, 3, 6, 7, 8, 9, 10] [none, some 0, some 1, some 2, none, none, some 3, some 4, some 5, some 6, some 7, none, none, none, none, none, none, none, none, none, none, none, none, none, none, none, none, none, none, none, none, none, none, none, none, none, none, none, none, none, none, none, none, none, none, none] hP hD hS hA rfl rfl rfl rfl (va_runV (As := [.ref a_drf]) (rest := []) ⟨hx, hb, hml, hown, hts⟩ (c_Table_become l dC dI cI cB cS cT N a_drf a_drf_c a_drf_s (ta 0) (tw 0) (ts 0) (tf 0) (tx 0) a_drf_z drf_size drf_c drf_s (ve 0) (vz 0) (vw 0) (vs 0) (vf 0) (vx 0) H.size z3 hz3) ⟨(callB_of 1 hts (gi tw_495 rfl) rfl rfl rfl (hts _ (List.mem_cons_of_mem _ tw_8)) (hts _ (List.mem_cons_of_mem _ tw_492)) (by decide +kernel) ⟨Nat.le_of_ble_eq_true rfl, Nat.le_of_ble_eq_true rfl⟩), hts _ (List.mem_cons_of_mem _ tw_493), hts _ (List.mem_cons_of_mem _ tw_494)⟩ ⟨g_blind, va_recv hK hP (ci := 10) (q0 := 6) rfl rfl, g_at hKN (g_pm hP [1, 2, 3, 6, 7, 8, 9, 10] rfl) (hD.sub [1, 2, 3, 6, 7, 8, 9, 10] (by decide) rfl)⟩ rfl rfl hl.1 rfl (lv_room (Nat.le_of_ble_eq_true rfl)) d_m476_32 ⟨Nat.zero_le _, Nat.zero_le _⟩) (fun H locs hP hD hS => ?_)
            refine W.eq (g2 := F0 m 35 ls []) rfl ?_
            refine lv_iconst (v := (1 : Int32)) hx hb d_m476_35 (by decide) ?_
            obtain rfl := Option.some.inj hf
            subst hQ
            subst hAe
            exact W.zret (v := (1 : Int32)) hx hb hr (by decide) (fun t ht hW => ⟨⟨(1 : Int32), (), rfl, rfl, by rw [ht]; exact hP, hD⟩, hS.F ht⟩) hS.2.2 d_m476_36
          · refine g_callv (wc := (w_Table_become cI cB cS cT a_drf a_drf_c a_drf_s (ta 1) (tw 1) (ts 1) (tf 1) (tx 1) a_drf_z drf_size drf_c drf_s (ve 1) (vz 1) (vw 1) (vs 1) (vf 1) (vx 1))) (w1 := (w_Table_become cI cB cS cT a_drf a_drf_c a_drf_s (ta 1) (tw 1) (ts 1) (tf 1) (tx 1) a_drf_z drf_size drf_c drf_s z3.1 z3.2.1 z3.2.2.1 z3.2.2.2.1 z3.2.2.2.2.1 z3.2.2.2.2.2)) (w2 := (w_SC_make cI cB cS cT a_sc a_drf a_drf_c a_drf_s a_drf_z a_tbs a_pic a_crs a_sto a_cnt a_wr a_enc a_dec drf_size drf_c drf_s z1.2 ta tw ts tf tx (va_up vw 1 z3.2.2.1) (va_up vs 1 z3.2.2.2.1) (va_up vf 1 z3.2.2.2.2.1) (va_up vx 1 z3.2.2.2.2.2) (va_up ve 1 z3.1) (va_up vz 1 z3.2.1))) [1, 2, 3, 11, 12, 13, 14, 15] [none, some 0, some 1, some 2, none, none, none, none, none, none, none, some 3, some 4, some 5, some 6, some 7, none, none, none, none, none, none, none, none, none, none, none, none, none, none, none, none, none, none, none, none, none, none, none, none, none, none, none, none, none, none] hP hD hS hA rfl rfl rfl rfl (va_runV (As := [.ref a_drf]) (rest := []) ⟨hx, hb, hml, hown, hts⟩ (c_Table_become l dC dI cI cB cS cT N a_drf a_drf_c a_drf_s (ta 1) (tw 1) (ts 1) (tf 1) (tx 1) a_drf_z drf_size drf_c drf_s (ve 1) (vz 1) (vw 1) (vs 1) (vf 1) (vx 1) H.size z3 hz3) ⟨(callB_of 1 hts (gi tw_495 rfl) rfl rfl rfl (hts _ (List.mem_cons_of_mem _ tw_8)) (hts _ (List.mem_cons_of_mem _ tw_492)) (by decide +kernel) ⟨Nat.le_of_ble_eq_true rfl, Nat.le_of_ble_eq_true rfl⟩), hts _ (List.mem_cons_of_mem _ tw_493), hts _ (List.mem_cons_of_mem _ tw_494)⟩ ⟨g_blind, va_recv hK hP (ci := 10) (q0 := 11) rfl rfl, g_at hKN (g_pm hP [1, 2, 3, 11, 12, 13, 14, 15] rfl) (hD.sub [1, 2, 3, 11, 12, 13, 14, 15] (by decide) rfl)⟩ rfl rfl hl.1 rfl (lv_room (Nat.le_of_ble_eq_true rfl)) d_m476_32 ⟨Nat.zero_le _, Nat.zero_le _⟩) (fun H locs hP hD hS => ?_)
            refine W.eq (g2 := F0 m 35 ls []) rfl ?_
            refine lv_iconst (v := (1 : Int32)) hx hb d_m476_35 (by decide) ?_
            obtain rfl := Option.some.inj hf
            subst hQ
            subst hAe
            exact W.zret (v := (1 : Int32)) hx hb hr (by decide) (fun t ht hW => ⟨⟨(1 : Int32), (), rfl, rfl, by rw [ht]; exact hP, hD⟩, hS.F ht⟩) hS.2.2 d_m476_36
          · refine g_callv (wc := (w_Table_become cI cB cS cT a_drf a_drf_c a_drf_s (ta 2) (tw 2) (ts 2) (tf 2) (tx 2) a_drf_z drf_size drf_c drf_s (ve 2) (vz 2) (vw 2) (vs 2) (vf 2) (vx 2))) (w1 := (w_Table_become cI cB cS cT a_drf a_drf_c a_drf_s (ta 2) (tw 2) (ts 2) (tf 2) (tx 2) a_drf_z drf_size drf_c drf_s z3.1 z3.2.1 z3.2.2.1 z3.2.2.2.1 z3.2.2.2.2.1 z3.2.2.2.2.2)) (w2 := (w_SC_make cI cB cS cT a_sc a_drf a_drf_c a_drf_s a_drf_z a_tbs a_pic a_crs a_sto a_cnt a_wr a_enc a_dec drf_size drf_c drf_s z1.2 ta tw ts tf tx (va_up vw 2 z3.2.2.1) (va_up vs 2 z3.2.2.2.1) (va_up vf 2 z3.2.2.2.2.1) (va_up vx 2 z3.2.2.2.2.2) (va_up ve 2 z3.1) (va_up vz 2 z3.2.1))) [1, 2, 3, 16, 17, 18, 19, 20] [none, some 0, some 1, some 2, none, none, none, none, none, none, none, none, none, none, none, none, some 3, some 4, some 5, some 6, some 7, none, none, none, none, none, none, none, none, none, none, none, none, none, none, none, none, none, none, none, none, none, none, none, none, none] hP hD hS hA rfl rfl rfl rfl (va_runV (As := [.ref a_drf]) (rest := []) ⟨hx, hb, hml, hown, hts⟩ (c_Table_become l dC dI cI cB cS cT N a_drf a_drf_c a_drf_s (ta 2) (tw 2) (ts 2) (tf 2) (tx 2) a_drf_z drf_size drf_c drf_s (ve 2) (vz 2) (vw 2) (vs 2) (vf 2) (vx 2) H.size z3 hz3) ⟨(callB_of 1 hts (gi tw_495 rfl) rfl rfl rfl (hts _ (List.mem_cons_of_mem _ tw_8)) (hts _ (List.mem_cons_of_mem _ tw_492)) (by decide +kernel) ⟨Nat.le_of_ble_eq_true rfl, Nat.le_of_ble_eq_true rfl⟩), hts _ (List.mem_cons_of_mem _ tw_493), hts _ (List.mem_cons_of_mem _ tw_494)⟩ ⟨g_blind, va_recv hK hP (ci := 10) (q0 := 16) rfl rfl, g_at hKN (g_pm hP [1, 2, 3, 16, 17, 18, 19, 20] rfl) (hD.sub [1, 2, 3, 16, 17, 18, 19, 20] (by decide) rfl)⟩ rfl rfl hl.1 rfl (lv_room (Nat.le_of_ble_eq_true rfl)) d_m476_32 ⟨Nat.zero_le _, Nat.zero_le _⟩) (fun H locs hP hD hS => ?_)
            refine W.eq (g2 := F0 m 35 ls []) rfl ?_
            refine lv_iconst (v := (1 : Int32)) hx hb d_m476_35 (by decide) ?_
            obtain rfl := Option.some.inj hf
            subst hQ
            subst hAe
            exact W.zret (v := (1 : Int32)) hx hb hr (by decide) (fun t ht hW => ⟨⟨(1 : Int32), (), rfl, rfl, by rw [ht]; exact hP, hD⟩, hS.F ht⟩) hS.2.2 d_m476_36
          · refine g_callv (wc := (w_Table_become cI cB cS cT a_drf a_drf_c a_drf_s (ta 3) (tw 3) (ts 3) (tf 3) (tx 3) a_drf_z drf_size drf_c drf_s (ve 3) (vz 3) (vw 3) (vs 3) (vf 3) (vx 3))) (w1 := (w_Table_become cI cB cS cT a_drf a_drf_c a_drf_s (ta 3) (tw 3) (ts 3) (tf 3) (tx 3) a_drf_z drf_size drf_c drf_s z3.1 z3.2.1 z3.2.2.1 z3.2.2.2.1 z3.2.2.2.2.1 z3.2.2.2.2.2)) (w2 := (w_SC_make cI cB cS cT a_sc a_drf a_drf_c a_drf_s a_drf_z a_tbs a_pic a_crs a_sto a_cnt a_wr a_enc a_dec drf_size drf_c drf_s z1.2 ta tw ts tf tx (va_up vw 3 z3.2.2.1) (va_up vs 3 z3.2.2.2.1) (va_up vf 3 z3.2.2.2.2.1) (va_up vx 3 z3.2.2.2.2.2) (va_up ve 3 z3.1) (va_up vz 3 z3.2.1))) [1, 2, 3, 21, 22, 23, 24, 25] [none, some 0, some 1, some 2, none, none, none, none, none, none, none, none, none, none, none, none, none, none, none, none, none, some 3, some 4, some 5, some 6, some 7, none, none, none, none, none, none, none, none, none, none, none, none, none, none, none, none, none, none, none, none] hP hD hS hA rfl rfl rfl rfl (va_runV (As := [.ref a_drf]) (rest := []) ⟨hx, hb, hml, hown, hts⟩ (c_Table_become l dC dI cI cB cS cT N a_drf a_drf_c a_drf_s (ta 3) (tw 3) (ts 3) (tf 3) (tx 3) a_drf_z drf_size drf_c drf_s (ve 3) (vz 3) (vw 3) (vs 3) (vf 3) (vx 3) H.size z3 hz3) ⟨(callB_of 1 hts (gi tw_495 rfl) rfl rfl rfl (hts _ (List.mem_cons_of_mem _ tw_8)) (hts _ (List.mem_cons_of_mem _ tw_492)) (by decide +kernel) ⟨Nat.le_of_ble_eq_true rfl, Nat.le_of_ble_eq_true rfl⟩), hts _ (List.mem_cons_of_mem _ tw_493), hts _ (List.mem_cons_of_mem _ tw_494)⟩ ⟨g_blind, va_recv hK hP (ci := 10) (q0 := 21) rfl rfl, g_at hKN (g_pm hP [1, 2, 3, 21, 22, 23, 24, 25] rfl) (hD.sub [1, 2, 3, 21, 22, 23, 24, 25] (by decide) rfl)⟩ rfl rfl hl.1 rfl (lv_room (Nat.le_of_ble_eq_true rfl)) d_m476_32 ⟨Nat.zero_le _, Nat.zero_le _⟩) (fun H locs hP hD hS => ?_)
            refine W.eq (g2 := F0 m 35 ls []) rfl ?_
            refine lv_iconst (v := (1 : Int32)) hx hb d_m476_35 (by decide) ?_
            obtain rfl := Option.some.inj hf
            subst hQ
            subst hAe
            exact W.zret (v := (1 : Int32)) hx hb hr (by decide) (fun t ht hW => ⟨⟨(1 : Int32), (), rfl, rfl, by rw [ht]; exact hP, hD⟩, hS.F ht⟩) hS.2.2 d_m476_36
          · refine g_callv (wc := (w_Table_become cI cB cS cT a_drf a_drf_c a_drf_s (ta 4) (tw 4) (ts 4) (tf 4) (tx 4) a_drf_z drf_size drf_c drf_s (ve 4) (vz 4) (vw 4) (vs 4) (vf 4) (vx 4))) (w1 := (w_Table_become cI cB cS cT a_drf a_drf_c a_drf_s (ta 4) (tw 4) (ts 4) (tf 4) (tx 4) a_drf_z drf_size drf_c drf_s z3.1 z3.2.1 z3.2.2.1 z3.2.2.2.1 z3.2.2.2.2.1 z3.2.2.2.2.2)) (w2 := (w_SC_make cI cB cS cT a_sc a_drf a_drf_c a_drf_s a_drf_z a_tbs a_pic a_crs a_sto a_cnt a_wr a_enc a_dec drf_size drf_c drf_s z1.2 ta tw ts tf tx (va_up vw 4 z3.2.2.1) (va_up vs 4 z3.2.2.2.1) (va_up vf 4 z3.2.2.2.2.1) (va_up vx 4 z3.2.2.2.2.2) (va_up ve 4 z3.1) (va_up vz 4 z3.2.1))) [1, 2, 3, 26, 27, 28, 29, 30] [none, some 0, some 1, some 2, none, none, none, none, none, none, none, none, none, none, none, none, none, none, none, none, none, none, none, none, none, none, some 3, some 4, some 5, some 6, some 7, none, none, none, none, none, none, none, none, none, none, none, none, none, none, none] hP hD hS hA rfl rfl rfl rfl (va_runV (As := [.ref a_drf]) (rest := []) ⟨hx, hb, hml, hown, hts⟩ (c_Table_become l dC dI cI cB cS cT N a_drf a_drf_c a_drf_s (ta 4) (tw 4) (ts 4) (tf 4) (tx 4) a_drf_z drf_size drf_c drf_s (ve 4) (vz 4) (vw 4) (vs 4) (vf 4) (vx 4) H.size z3 hz3) ⟨(callB_of 1 hts (gi tw_495 rfl) rfl rfl rfl (hts _ (List.mem_cons_of_mem _ tw_8)) (hts _ (List.mem_cons_of_mem _ tw_492)) (by decide +kernel) ⟨Nat.le_of_ble_eq_true rfl, Nat.le_of_ble_eq_true rfl⟩), hts _ (List.mem_cons_of_mem _ tw_493), hts _ (List.mem_cons_of_mem _ tw_494)⟩ ⟨g_blind, va_recv hK hP (ci := 10) (q0 := 26) rfl rfl, g_at hKN (g_pm hP [1, 2, 3, 26, 27, 28, 29, 30] rfl) (hD.sub [1, 2, 3, 26, 27, 28, 29, 30] (by decide) rfl)⟩ rfl rfl hl.1 rfl (lv_room (Nat.le_of_ble_eq_true rfl)) d_m476_32 ⟨Nat.zero_le _, Nat.zero_le _⟩) (fun H locs hP hD hS => ?_)
            refine W.eq (g2 := F0 m 35 ls []) rfl ?_
            refine lv_iconst (v := (1 : Int32)) hx hb d_m476_35 (by decide) ?_
            obtain rfl := Option.some.inj hf
            subst hQ
            subst hAe
            exact W.zret (v := (1 : Int32)) hx hb hr (by decide) (fun t ht hW => ⟨⟨(1 : Int32), (), rfl, rfl, by rw [ht]; exact hP, hD⟩, hS.F ht⟩) hS.2.2 d_m476_36
          · refine g_callv (wc := (w_Table_become cI cB cS cT a_drf a_drf_c a_drf_s (ta 5) (tw 5) (ts 5) (tf 5) (tx 5) a_drf_z drf_size drf_c drf_s (ve 5) (vz 5) (vw 5) (vs 5) (vf 5) (vx 5))) (w1 := (w_Table_become cI cB cS cT a_drf a_drf_c a_drf_s (ta 5) (tw 5) (ts 5) (tf 5) (tx 5) a_drf_z drf_size drf_c drf_s z3.1 z3.2.1 z3.2.2.1 z3.2.2.2.1 z3.2.2.2.2.1 z3.2.2.2.2.2)) (w2 := (w_SC_make cI cB cS cT a_sc a_drf a_drf_c a_drf_s a_drf_z a_tbs a_pic a_crs a_sto a_cnt a_wr a_enc a_dec drf_size drf_c drf_s z1.2 ta tw ts tf tx (va_up vw 5 z3.2.2.1) (va_up vs 5 z3.2.2.2.1) (va_up vf 5 z3.2.2.2.2.1) (va_up vx 5 z3.2.2.2.2.2) (va_up ve 5 z3.1) (va_up vz 5 z3.2.1))) [1, 2, 3, 31, 32, 33, 34, 35] [none, some 0, some 1, some 2, none, none, none, none, none, none, none, none, none, none, none, none, none, none, none, none, none, none, none, none, none, none, none, none, none, none, none, some 3, some 4, some 5, some 6, some 7, none, none, none, none, none, none, none, none, none, none] hP hD hS hA rfl rfl rfl rfl (va_runV (As := [.ref a_drf]) (rest := []) ⟨hx, hb, hml, hown, hts⟩ (c_Table_become l dC dI cI cB cS cT N a_drf a_drf_c a_drf_s (ta 5) (tw 5) (ts 5) (tf 5) (tx 5) a_drf_z drf_size drf_c drf_s (ve 5) (vz 5) (vw 5) (vs 5) (vf 5) (vx 5) H.size z3 hz3) ⟨(callB_of 1 hts (gi tw_495 rfl) rfl rfl rfl (hts _ (List.mem_cons_of_mem _ tw_8)) (hts _ (List.mem_cons_of_mem _ tw_492)) (by decide +kernel) ⟨Nat.le_of_ble_eq_true rfl, Nat.le_of_ble_eq_true rfl⟩), hts _ (List.mem_cons_of_mem _ tw_493), hts _ (List.mem_cons_of_mem _ tw_494)⟩ ⟨g_blind, va_recv hK hP (ci := 10) (q0 := 31) rfl rfl, g_at hKN (g_pm hP [1, 2, 3, 31, 32, 33, 34, 35] rfl) (hD.sub [1, 2, 3, 31, 32, 33, 34, 35] (by decide) rfl)⟩ rfl rfl hl.1 rfl (lv_room (Nat.le_of_ble_eq_true rfl)) d_m476_32 ⟨Nat.zero_le _, Nat.zero_le _⟩) (fun H locs hP hD hS => ?_)
            refine W.eq (g2 := F0 m 35 ls []) rfl ?_
            refine lv_iconst (v := (1 : Int32)) hx hb d_m476_35 (by decide) ?_
            obtain rfl := Option.some.inj hf
            subst hQ
            subst hAe
            exact W.zret (v := (1 : Int32)) hx hb hr (by decide) (fun t ht hW => ⟨⟨(1 : Int32), (), rfl, rfl, by rw [ht]; exact hP, hD⟩, hS.F ht⟩) hS.2.2 d_m476_36
          · refine g_callv (wc := (w_Table_become cI cB cS cT a_drf a_drf_c a_drf_s (ta 6) (tw 6) (ts 6) (tf 6) (tx 6) a_drf_z drf_size drf_c drf_s (ve 6) (vz 6) (vw 6) (vs 6) (vf 6) (vx 6))) (w1 := (w_Table_become cI cB cS cT a_drf a_drf_c a_drf_s (ta 6) (tw 6) (ts 6) (tf 6) (tx 6) a_drf_z drf_size drf_c drf_s z3.1 z3.2.1 z3.2.2.1 z3.2.2.2.1 z3.2.2.2.2.1 z3.2.2.2.2.2)) (w2 := (w_SC_make cI cB cS cT a_sc a_drf a_drf_c a_drf_s a_drf_z a_tbs a_pic a_crs a_sto a_cnt a_wr a_enc a_dec drf_size drf_c drf_s z1.2 ta tw ts tf tx (va_up vw 6 z3.2.2.1) (va_up vs 6 z3.2.2.2.1) (va_up vf 6 z3.2.2.2.2.1) (va_up vx 6 z3.2.2.2.2.2) (va_up ve 6 z3.1) (va_up vz 6 z3.2.1))) [1, 2, 3, 36, 37, 38, 39, 40] [none, some 0, some 1, some 2, none, none, none, none, none, none, none, none, none, none, none, none, none, none, none, none, none, none, none, none, none, none, none, none, none, none, none, none, none, none, none, none, some 3, some 4, some 5, some 6, some 7, none, none, none, none, none] hP hD hS hA rfl rfl rfl rfl (va_runV (As := [.ref a_drf]) (rest := []) ⟨hx, hb, hml, hown, hts⟩ (c_Table_become l dC dI cI cB cS cT N a_drf a_drf_c a_drf_s (ta 6) (tw 6) (ts 6) (tf 6) (tx 6) a_drf_z drf_size drf_c drf_s (ve 6) (vz 6) (vw 6) (vs 6) (vf 6) (vx 6) H.size z3 hz3) ⟨(callB_of 1 hts (gi tw_495 rfl) rfl rfl rfl (hts _ (List.mem_cons_of_mem _ tw_8)) (hts _ (List.mem_cons_of_mem _ tw_492)) (by decide +kernel) ⟨Nat.le_of_ble_eq_true rfl, Nat.le_of_ble_eq_true rfl⟩), hts _ (List.mem_cons_of_mem _ tw_493), hts _ (List.mem_cons_of_mem _ tw_494)⟩ ⟨g_blind, va_recv hK hP (ci := 10) (q0 := 36) rfl rfl, g_at hKN (g_pm hP [1, 2, 3, 36, 37, 38, 39, 40] rfl) (hD.sub [1, 2, 3, 36, 37, 38, 39, 40] (by decide) rfl)⟩ rfl rfl hl.1 rfl (lv_room (Nat.le_of_ble_eq_true rfl)) d_m476_32 ⟨Nat.zero_le _, Nat.zero_le _⟩) (fun H locs hP hD hS => ?_)
            refine W.eq (g2 := F0 m 35 ls []) rfl ?_
            refine lv_iconst (v := (1 : Int32)) hx hb d_m476_35 (by decide) ?_
            obtain rfl := Option.some.inj hf
            subst hQ
            subst hAe
            exact W.zret (v := (1 : Int32)) hx hb hr (by decide) (fun t ht hW => ⟨⟨(1 : Int32), (), rfl, rfl, by rw [ht]; exact hP, hD⟩, hS.F ht⟩) hS.2.2 d_m476_36
          · refine g_callv (wc := (w_Table_become cI cB cS cT a_drf a_drf_c a_drf_s (ta 7) (tw 7) (ts 7) (tf 7) (tx 7) a_drf_z drf_size drf_c drf_s (ve 7) (vz 7) (vw 7) (vs 7) (vf 7) (vx 7))) (w1 := (w_Table_become cI cB cS cT a_drf a_drf_c a_drf_s (ta 7) (tw 7) (ts 7) (tf 7) (tx 7) a_drf_z drf_size drf_c drf_s z3.1 z3.2.1 z3.2.2.1 z3.2.2.2.1 z3.2.2.2.2.1 z3.2.2.2.2.2)) (w2 := (w_SC_make cI cB cS cT a_sc a_drf a_drf_c a_drf_s a_drf_z a_tbs a_pic a_crs a_sto a_cnt a_wr a_enc a_dec drf_size drf_c drf_s z1.2 ta tw ts tf tx (va_up vw 7 z3.2.2.1) (va_up vs 7 z3.2.2.2.1) (va_up vf 7 z3.2.2.2.2.1) (va_up vx 7 z3.2.2.2.2.2) (va_up ve 7 z3.1) (va_up vz 7 z3.2.1))) [1, 2, 3, 41, 42, 43, 44, 45] [none, some 0, some 1, some 2, none, none, none, none, none, none, none, none, none, none, none, none, none, none, none, none, none, none, none, none, none, none, none, none, none, none, none, none, none, none, none, none, none, none, none, none, none, some 3, some 4, some 5, some 6, some 7] hP hD hS hA rfl rfl rfl rfl (va_runV (As := [.ref a_drf]) (rest := []) ⟨hx, hb, hml, hown, hts⟩ (c_Table_become l dC dI cI cB cS cT N a_drf a_drf_c a_drf_s (ta 7) (tw 7) (ts 7) (tf 7) (tx 7) a_drf_z drf_size drf_c drf_s (ve 7) (vz 7) (vw 7) (vs 7) (vf 7) (vx 7) H.size z3 hz3) ⟨(callB_of 1 hts (gi tw_495 rfl) rfl rfl rfl (hts _ (List.mem_cons_of_mem _ tw_8)) (hts _ (List.mem_cons_of_mem _ tw_492)) (by decide +kernel) ⟨Nat.le_of_ble_eq_true rfl, Nat.le_of_ble_eq_true rfl⟩), hts _ (List.mem_cons_of_mem _ tw_493), hts _ (List.mem_cons_of_mem _ tw_494)⟩ ⟨g_blind, va_recv hK hP (ci := 10) (q0 := 41) rfl rfl, g_at hKN (g_pm hP [1, 2, 3, 41, 42, 43, 44, 45] rfl) (hD.sub [1, 2, 3, 41, 42, 43, 44, 45] (by decide) rfl)⟩ rfl rfl hl.1 rfl (lv_room (Nat.le_of_ble_eq_true rfl)) d_m476_32 ⟨Nat.zero_le _, Nat.zero_le _⟩) (fun H locs hP hD hS => ?_)
            refine W.eq (g2 := F0 m 35 ls []) rfl ?_
            refine lv_iconst (v := (1 : Int32)) hx hb d_m476_35 (by decide) ?_
            obtain rfl := Option.some.inj hf
            subst hQ
            subst hAe
            exact W.zret (v := (1 : Int32)) hx hb hr (by decide) (fun t ht hW => ⟨⟨(1 : Int32), (), rfl, rfl, by rw [ht]; exact hP, hD⟩, hS.F ht⟩) hS.2.2 d_m476_36
        · replace hf := (if_pos hc).symm.trans hf
          refine lv_iconst (v := (0 : Int32)) hx hb d_m476_20 (by decide) ?_
          obtain rfl := Option.some.inj hf
          subst hQ
          subst hAe
          exact W.zret (v := (0 : Int32)) hx hb hr (by decide) (fun t ht hW => ⟨⟨(0 : Int32), (), rfl, rfl, by rw [ht]; exact hP, hD⟩, hS.F ht⟩) hS.2.2 d_m476_21
  exact hgo _ _ hP hS
