
def f_Sink_init  : Option (Unit) :=
  some ()
abbrev w_Sink_init (cI cB cS cT : ClassId) (a_snk : Nat) : va_W := []
def rm_Sink_init : Room := { frames := 1, cells := 0, slots := 0, locals := 12 }
set_option maxHeartbeats 1000000 in
set_option maxRecDepth 100000 in
theorem c_Sink_init (l : Launch) (dC : Nat → ClassId) (dI : Nat → Nat → Nat) (cI cB cS cT : ClassId) (a_snk : Nat) (z : Unit) (hf : f_Sink_init  = some z) : Met l y_m296 ws_m296 rm_Sink_init (gPreP (dC, dI) [.ref a_snk] (gT cI cB cS cT) (w_Sink_init cI cB cS cT a_snk)) (va_Sv (fun _ => True)) 0 0 (fun _ => False) := by
  refine Met.ofW (cc := prog_10_method_1_code) (maxL := 1) (ret := none) (by decide) rfl ?_
  intro p e s m args below meth c s₁ B hml hv
  obtain ⟨hargs, hP, hKN⟩ := hv
  have hK := hKN.1
  have hx := B.exec
  have hb := B.bytes
  have hr := B.returns
  have hts := atoms_spec (ws := ws_m296) B.pre
  have hown : s.vm.findClass "ScanCoder$Sink" = some m.cls := findClass_of_methodNamed B.named
  have hlocks := B.notSynchronized
  have hin : meth.name = "<init>" := (name_of_methodNamed B.named B.method).1
  have k0 := hts _ (List.mem_cons_of_mem _ tw_297)
  have k1 := hts _ (List.mem_cons_of_mem _ tw_24)
  have k2 := hts _ (List.mem_cons_of_mem _ tw_25)
  have hl := lv_entry ([.ref a_snk]) (n := 1) (Nat.le_of_ble_eq_true rfl)
  have hfr : entryFrame m args 1 = F0 m 0 ((lg_sl ([.ref a_snk]) ++ List.replicate (1 - (lg_sl ([.ref a_snk])).length) Slot.unset).toArray) [] := by rw [hargs]; exact lg_entry_eq _ _ _
  rw [hfr]
  generalize (lg_sl ([.ref a_snk]) ++ List.replicate (1 - (lg_sl ([.ref a_snk])).length) Slot.unset).toArray = ls at hl ⊢
  have hl : lv_has ls 1 [(0, .ref a_snk)] := hl
  refine gen_Q (fun Q hQ => ?_)
  clear hfr
  unfold f_Sink_init at hf
  refine lv_aload_n hx hb d_m296_0 rfl (lv_at hl 0 rfl) ?_
  refine W.objInit hx hb hown k0 k1 k2 rfl (by rw [hml]; exact hl.1) rfl d_m296_1 (Nat.le_of_ble_eq_true rfl) (Nat.le_of_ble_eq_true rfl) ?_
  refine W.eq (g2 := F0 m 4 ls []) rfl ?_
  obtain rfl := Option.some.inj hf
  subst hQ
  exact W.vret hx hb hr (fun t ht hW => ⟨rfl, trivial, ht⟩) (fun q h => by cases h) d_m296_4

def f_Picture_init (N : Nat) : Option (Int32 × Int32 × Int32 × Int32 × (Nat → Int32) × (Nat → Int32) × (Nat → Int32) × (Nat → Int32) × (Nat → Int32) × (Nat → Int32) × (Nat → Int32) × Nat × (Nat → Int32)) :=
  (f_Picture_become 0 N (8 : Int32) (8 : Int32) (1 : Int32) (0 : Int32) (fun _ => 0) (fun _ => 0) (fun _ => 0) (fun _ => 0) (fun _ => 0) (fun _ => 0) (fun _ => 0) 64 (fun _ => 0)).bind fun z1 =>
  some (z1.1, z1.2.1, z1.2.2.1, z1.2.2.2.1, z1.2.2.2.2.1, z1.2.2.2.2.2.1, z1.2.2.2.2.2.2.1, z1.2.2.2.2.2.2.2.1, z1.2.2.2.2.2.2.2.2.1, z1.2.2.2.2.2.2.2.2.2.1, z1.2.2.2.2.2.2.2.2.2.2.1, z1.2.2.2.2.2.2.2.2.2.2.2.1, z1.2.2.2.2.2.2.2.2.2.2.2.2)
def rm_Picture_init : Room := { frames := 3, cells := 9, slots := 92, locals := 72 }
set_option maxHeartbeats 1000000 in
set_option maxRecDepth 100000 in
theorem c_Picture_init (l : Launch) (dC : Nat → ClassId) (dI : Nat → Nat → Nat) (cI cB cS cT : ClassId) (N : Nat) (a_pic : Nat) (sz : Nat) (z : Int32 × Int32 × Int32 × Int32 × (Nat → Int32) × (Nat → Int32) × (Nat → Int32) × (Nat → Int32) × (Nat → Int32) × (Nat → Int32) × (Nat → Int32) × Nat × (Nat → Int32)) (hf : f_Picture_init N = some z) : Met l y_m30 ws_m30 rm_Picture_init (gPre (dC, dI) [.ref a_pic] (gT cI cB cS cT) [(a_pic, .inr (8, [.null, .null, .null, .null, .null, .null, .null, .int (0 : Int32), .int (0 : Int32), .int (0 : Int32), .int (0 : Int32), .null]))] sz) (gQvA (dC, dI) (gT cI cB cS cT) (U := Nat × Nat × Nat × Nat × Nat × Nat × Nat × Nat) [(a_pic, .inr (8, [.null, .null, .null, .null, .null, .null, .null, .int (0 : Int32), .int (0 : Int32), .int (0 : Int32), .int (0 : Int32), .null]))] (fun u => [(a_pic, .inr (8, [.ref u.1, .ref u.2.1, .ref u.2.2.1, .ref u.2.2.2.1, .ref u.2.2.2.2.1, .ref u.2.2.2.2.2.1, .ref u.2.2.2.2.2.2.1, .int z.1, .int z.2.1, .int z.2.2.1, .int z.2.2.2.1, .ref u.2.2.2.2.2.2.2])), (u.1, .inl (cI, 4, .inl z.2.2.2.2.1)), (u.2.1, .inl (cI, 4, .inl z.2.2.2.2.2.1)), (u.2.2.1, .inl (cI, 4, .inl z.2.2.2.2.2.2.1)), (u.2.2.2.1, .inl (cI, 4, .inl z.2.2.2.2.2.2.2.1)), (u.2.2.2.2.1, .inl (cI, 4, .inl z.2.2.2.2.2.2.2.2.1)), (u.2.2.2.2.2.1, .inl (cI, 4, .inl z.2.2.2.2.2.2.2.2.2.1)), (u.2.2.2.2.2.2.1, .inl (cI, 4, .inl z.2.2.2.2.2.2.2.2.2.2.1)), (u.2.2.2.2.2.2.2, .inl (cS, z.2.2.2.2.2.2.2.2.2.2.2.1, .inl z.2.2.2.2.2.2.2.2.2.2.2.2))]) sz) 9 92 (va_A [(a_pic, .inr (8, [.null, .null, .null, .null, .null, .null, .null, .int (0 : Int32), .int (0 : Int32), .int (0 : Int32), .int (0 : Int32), .null]))] sz) := by
  refine Met.ofW (cc := prog_9_method_1_code) (maxL := 1) (ret := none) (by decide) rfl ?_
  intro p e s m args below meth c s₁ B hml hv
  obtain ⟨hargs, hsz, hP, hKN, hD0⟩ := hv
  have hK := hKN.1
  have hx := B.exec
  have hb := B.bytes
  have hr := B.returns
  have hts := atoms_spec (ws := ws_m30) B.pre
  have hown : s.vm.findClass "ScanCoder$Picture" = some m.cls := findClass_of_methodNamed B.named
  have hlocks := B.notSynchronized
  have hin : meth.name = "<init>" := (name_of_methodNamed B.named B.method).1
  have k0 := hts _ (List.mem_cons_of_mem _ tw_31)
  have k1 := hts _ (List.mem_cons_of_mem _ tw_24)
  have k2 := hts _ (List.mem_cons_of_mem _ tw_25)
  have k3 := hts _ (List.mem_cons_of_mem _ tw_108)
  have k4 := hts _ (List.mem_cons_of_mem _ tw_58)
  have k5 := hts _ (List.mem_cons_of_mem _ tw_60)
  have k6 := hts _ (List.mem_cons_of_mem _ tw_62)
  have k7 := hts _ (List.mem_cons_of_mem _ tw_64)
  have k8 := hts _ (List.mem_cons_of_mem _ tw_65)
  have k9 := hts _ (List.mem_cons_of_mem _ tw_67)
  have k10 := hts _ (List.mem_cons_of_mem _ tw_69)
  have k11 := hts _ (List.mem_cons_of_mem _ tw_109)
  have k12 := hts _ (List.mem_cons_of_mem _ tw_79)
  have n0 : ∀ w ∈ u_ws "ScanCoder$Picture" T_8 12, w ∈ ws_m30 := fun w h => List.mem_cons_of_mem _ (in_8 w h)
  subst hsz
  have hD := hD0.self (sz := s.heap.size)
  obtain ⟨A, hAe⟩ : ∃ A : Nat → Prop, va_A [(a_pic, .inr (8, [.null, .null, .null, .null, .null, .null, .null, .int (0 : Int32), .int (0 : Int32), .int (0 : Int32), .int (0 : Int32), .null]))] s.heap.size = A := ⟨_, rfl⟩
  rw [hAe] at hD
  have hA : ∀ q : Nat, s.heap.size ≤ q → A q := fun q h => by rw [← hAe]; exact Or.inr h
  have hS : va_S A s.heap s.heap [] := va_S.rf
  have hl := lv_entry ([.ref a_pic]) (n := 1) (Nat.le_of_ble_eq_true rfl)
  have hfr : entryFrame m args 1 = F0 m 0 ((lg_sl ([.ref a_pic]) ++ List.replicate (1 - (lg_sl ([.ref a_pic])).length) Slot.unset).toArray) [] := by rw [hargs]; exact lg_entry_eq _ _ _
  rw [hfr]
  generalize (lg_sl ([.ref a_pic]) ++ List.replicate (1 - (lg_sl ([.ref a_pic])).length) Slot.unset).toArray = ls at hl ⊢
  have hl : lv_has ls 1 [(0, .ref a_pic)] := hl
  refine gen_Q (fun Q hQ => ?_)
  clear hfr
  have hgo : ∀ (H : Heap) (locs : List Loc), va_P (dC, dI) vwCl [(a_pic, .inr (8, [.null, .null, .null, .null, .null, .null, .null, .int (0 : Int32), .int (0 : Int32), .int (0 : Int32), .int (0 : Int32), .null]))] H → va_S A s.heap H locs → W p l e (headSpec ws_m30 rm_Picture_init).room s m args below meth c H locs 0 0 Q (F0 m 0 ls []) := by
    intro H locs hP hS
    unfold f_Picture_init at hf
    refine lv_aload_n hx hb d_m30_0 rfl (lv_at hl 0 rfl) ?_
    refine W.objInit hx hb hown k0 k1 k2 rfl (by rw [hml]; exact hl.1) rfl d_m30_1 (Nat.le_of_ble_eq_true rfl) (Nat.le_of_ble_eq_true rfl) ?_
    refine W.eq (g2 := F0 m 4 ls []) rfl ?_
    refine lv_aload_n hx hb d_m30_4 rfl (lv_at hl 0 rfl) ?_
    refine lv_iconst (v := (4 : Int32)) hx hb d_m30_5 (by decide) ?_
    refine va_newa (atype := .int) (ty := .int) (a0 := (4, .inl (fun _ => 0))) (N' := 4) hx hb k3 rfl hK hP hD hS hA (fun _ => rfl) (by decide) (by decide) (by decide) (Nat.le_of_ble_eq_true rfl) (Nat.le_of_ble_eq_true rfl) d_m30_6 (fun q6 cA H hK1 hP hD hS => ?_)
    have hcA := g_cA (t0 := 0) hK rfl hK1
    subst hcA
    clear hK1
    refine W.widen (k := 1) (n := 4) (Nat.le_of_ble_eq_true rfl) (Nat.le_of_ble_eq_true rfl) ?_
    have hP : va_P (dC, dI) vwCl [(a_pic, .inr (8, [.null, .null, .null, .null, .null, .null, .null, .int (0 : Int32), .int (0 : Int32), .int (0 : Int32), .int (0 : Int32), .null])), (q6, .inl (cI, 4, .inl (fun _ => 0)))] H := hP
    have hD : va_D A [(a_pic, .inr (8, [.null, .null, .null, .null, .null, .null, .null, .int (0 : Int32), .int (0 : Int32), .int (0 : Int32), .int (0 : Int32), .null])), (q6, .inl (cI, 4, .inl (fun _ => 0)))] := hD
    refine va_putF (D := (dC, dI)) (ci := 8) (v := .ref q6) (ty := (.array .int)) (C := "ScanCoder$Picture") (T := T_8) (N := 12) hx hb hts n0 ty_8 tyok_8 nm_8 hown hK hP hD hS 0 rfl rfl 0 (by decide) k4 (fun _ h9 => h9) rfl hin rfl (by decide +kernel) rfl rfl (Nat.le_of_ble_eq_true rfl) d_m30_8 (fun H locs hP hD hS => ?_)
    have hP : va_P (dC, dI) vwCl [(a_pic, .inr (8, [.ref q6, .null, .null, .null, .null, .null, .null, .int (0 : Int32), .int (0 : Int32), .int (0 : Int32), .int (0 : Int32), .null])), (q6, .inl (cI, 4, .inl (fun _ => 0)))] H := hP
    have hD : va_D A [(a_pic, .inr (8, [.ref q6, .null, .null, .null, .null, .null, .null, .int (0 : Int32), .int (0 : Int32), .int (0 : Int32), .int (0 : Int32), .null])), (q6, .inl (cI, 4, .inl (fun _ => 0)))] := hD
    refine lv_aload_n hx hb d_m30_11 rfl (lv_at hl 0 rfl) ?_
    refine lv_iconst (v := (4 : Int32)) hx hb d_m30_12 (by decide) ?_
    refine va_newa (atype := .int) (ty := .int) (a0 := (4, .inl (fun _ => 0))) (N' := 4) hx hb k3 rfl hK hP hD hS hA (fun _ => rfl) (by decide) (by decide) (by decide) (Nat.le_of_ble_eq_true rfl) (Nat.le_of_ble_eq_true rfl) d_m30_13 (fun q13 cA H hK1 hP hD hS => ?_)
    have hcA := g_cA (t0 := 0) hK rfl hK1
    subst hcA
    clear hK1
    refine W.widen (k := 2) (n := 8) (Nat.le_of_ble_eq_true rfl) (Nat.le_of_ble_eq_true rfl) ?_
    have hP : va_P (dC, dI) vwCl [(a_pic, .inr (8, [.ref q6, .null, .null, .null, .null, .null, .null, .int (0 : Int32), .int (0 : Int32), .int (0 : Int32), .int (0 : Int32), .null])), (q6, .inl (cI, 4, .inl (fun _ => 0))), (q13, .inl (cI, 4, .inl (fun _ => 0)))] H := hP
    have hD : va_D A [(a_pic, .inr (8, [.ref q6, .null, .null, .null, .null, .null, .null, .int (0 : Int32), .int (0 : Int32), .int (0 : Int32), .int (0 : Int32), .null])), (q6, .inl (cI, 4, .inl (fun _ => 0))), (q13, .inl (cI, 4, .inl (fun _ => 0)))] := hD
    refine va_putF (D := (dC, dI)) (ci := 8) (v := .ref q13) (ty := (.array .int)) (C := "ScanCoder$Picture") (T := T_8) (N := 12) hx hb hts n0 ty_8 tyok_8 nm_8 hown hK hP hD hS 0 rfl rfl 1 (by decide) k5 (fun _ h9 => h9) rfl hin rfl (by decide +kernel) rfl rfl (Nat.le_of_ble_eq_true rfl) d_m30_15 (fun H locs hP hD hS => ?_)
    have hP : va_P (dC, dI) vwCl [(a_pic, .inr (8, [.ref q6, .ref q13, .null, .null, .null, .null, .null, .int (0 : Int32), .int (0 : Int32), .int (0 : Int32), .int (0 : Int32), .null])), (q6, .inl (cI, 4, .inl (fun _ => 0))), (q13, .inl (cI, 4, .inl (fun _ => 0)))] H := hP
    have hD : va_D A [(a_pic, .inr (8, [.ref q6, .ref q13, .null, .null, .null, .null, .null, .int (0 : Int32), .int (0 : Int32), .int (0 : Int32), .int (0 : Int32), .null])), (q6, .inl (cI, 4, .inl (fun _ => 0))), (q13, .inl (cI, 4, .inl (fun _ => 0)))] := hD
    refine lv_aload_n hx hb d_m30_18 rfl (lv_at hl 0 rfl) ?_
    refine lv_iconst (v := (4 : Int32)) hx hb d_m30_19 (by decide) ?_
    refine va_newa (atype := .int) (ty := .int) (a0 := (4, .inl (fun _ => 0))) (N' := 4) hx hb k3 rfl hK hP hD hS hA (fun _ => rfl) (by decide) (by decide) (by decide) (Nat.le_of_ble_eq_true rfl) (Nat.le_of_ble_eq_true rfl) d_m30_20 (fun q20 cA H hK1 hP hD hS => ?_)
    have hcA := g_cA (t0 := 0) hK rfl hK1
    subst hcA
    clear hK1
    refine W.widen (k := 3) (n := 12) (Nat.le_of_ble_eq_true rfl) (Nat.le_of_ble_eq_true rfl) ?_
    have hP : va_P (dC, dI) vwCl [(a_pic, .inr (8, [.ref q6, .ref q13, .null, .null, .null, .null, .null, .int (0 : Int32), .int (0 : Int32), .int (0 : Int32), .int (0 : Int32), .null])), (q6, .inl (cI, 4, .inl (fun _ => 0))), (q13, .inl (cI, 4, .inl (fun _ => 0))), (q20, .inl (cI, 4, .inl (fun _ => 0)))] H := hP
    have hD : va_D A [(a_pic, .inr (8, [.ref q6, .ref q13, .null, .null, .null, .null, .null, .int (0 : Int32), .int (0 : Int32), .int (0 : Int32), .int (0 : Int32), .null])), (q6, .inl (cI, 4, .inl (fun _ => 0))), (q13, .inl (cI, 4, .inl (fun _ => 0))), (q20, .inl (cI, 4, .inl (fun _ => 0)))] := hD
    refine va_putF (D := (dC, dI)) (ci := 8) (v := .ref q20) (ty := (.array .int)) (C := "ScanCoder$Picture") (T := T_8) (N := 12) hx hb hts n0 ty_8 tyok_8 nm_8 hown hK hP hD hS 0 rfl rfl 2 (by decide) k6 (fun _ h9 => h9) rfl hin rfl (by decide +kernel) rfl rfl (Nat.le_of_ble_eq_true rfl) d_m30_22 (fun H locs hP hD hS => ?_)
    have hP : va_P (dC, dI) vwCl [(a_pic, .inr (8, [.ref q6, .ref q13, .ref q20, .null, .null, .null, .null, .int (0 : Int32), .int (0 : Int32), .int (0 : Int32), .int (0 : Int32), .null])), (q6, .inl (cI, 4, .inl (fun _ => 0))), (q13, .inl (cI, 4, .inl (fun _ => 0))), (q20, .inl (cI, 4, .inl (fun _ => 0)))] H := hP
    have hD : va_D A [(a_pic, .inr (8, [.ref q6, .ref q13, .ref q20, .null, .null, .null, .null, .int (0 : Int32), .int (0 : Int32), .int (0 : Int32), .int (0 : Int32), .null])), (q6, .inl (cI, 4, .inl (fun _ => 0))), (q13, .inl (cI, 4, .inl (fun _ => 0))), (q20, .inl (cI, 4, .inl (fun _ => 0)))] := hD
    refine lv_aload_n hx hb d_m30_25 rfl (lv_at hl 0 rfl) ?_
    refine lv_iconst (v := (4 : Int32)) hx hb d_m30_26 (by decide) ?_
    refine va_newa (atype := .int) (ty := .int) (a0 := (4, .inl (fun _ => 0))) (N' := 4) hx hb k3 rfl hK hP hD hS hA (fun _ => rfl) (by decide) (by decide) (by decide) (Nat.le_of_ble_eq_true rfl) (Nat.le_of_ble_eq_true rfl) d_m30_27 (fun q27 cA H hK1 hP hD hS => ?_)
    have hcA := g_cA (t0 := 0) hK rfl hK1
    subst hcA
    clear hK1
    refine W.widen (k := 4) (n := 16) (Nat.le_of_ble_eq_true rfl) (Nat.le_of_ble_eq_true rfl) ?_
    have hP : va_P (dC, dI) vwCl [(a_pic, .inr (8, [.ref q6, .ref q13, .ref q20, .null, .null, .null, .null, .int (0 : Int32), .int (0 : Int32), .int (0 : Int32), .int (0 : Int32), .null])), (q6, .inl (cI, 4, .inl (fun _ => 0))), (q13, .inl (cI, 4, .inl (fun _ => 0))), (q20, .inl (cI, 4, .inl (fun _ => 0))), (q27, .inl (cI, 4, .inl (fun _ => 0)))] H := hP
    have hD : va_D A [(a_pic, .inr (8, [.ref q6, .ref q13, .ref q20, .null, .null, .null, .null, .int (0 : Int32), .int (0 : Int32), .int (0 : Int32), .int (0 : Int32), .null])), (q6, .inl (cI, 4, .inl (fun _ => 0))), (q13, .inl (cI, 4, .inl (fun _ => 0))), (q20, .inl (cI, 4, .inl (fun _ => 0))), (q27, .inl (cI, 4, .inl (fun _ => 0)))] := hD
    refine va_putF (D := (dC, dI)) (ci := 8) (v := .ref q27) (ty := (.array .int)) (C := "ScanCoder$Picture") (T := T_8) (N := 12) hx hb hts n0 ty_8 tyok_8 nm_8 hown hK hP hD hS 0 rfl rfl 3 (by decide) k7 (fun _ h9 => h9) rfl hin rfl (by decide +kernel) rfl rfl (Nat.le_of_ble_eq_true rfl) d_m30_29 (fun H locs hP hD hS => ?_)
    have hP : va_P (dC, dI) vwCl [(a_pic, .inr (8, [.ref q6, .ref q13, .ref q20, .ref q27, .null, .null, .null, .int (0 : Int32), .int (0 : Int32), .int (0 : Int32), .int (0 : Int32), .null])), (q6, .inl (cI, 4, .inl (fun _ => 0))), (q13, .inl (cI, 4, .inl (fun _ => 0))), (q20, .inl (cI, 4, .inl (fun _ => 0))), (q27, .inl (cI, 4, .inl (fun _ => 0)))] H := hP
    have hD : va_D A [(a_pic, .inr (8, [.ref q6, .ref q13, .ref q20, .ref q27, .null, .null, .null, .int (0 : Int32), .int (0 : Int32), .int (0 : Int32), .int (0 : Int32), .null])), (q6, .inl (cI, 4, .inl (fun _ => 0))), (q13, .inl (cI, 4, .inl (fun _ => 0))), (q20, .inl (cI, 4, .inl (fun _ => 0))), (q27, .inl (cI, 4, .inl (fun _ => 0)))] := hD
    refine lv_aload_n hx hb d_m30_32 rfl (lv_at hl 0 rfl) ?_
    refine lv_iconst (v := (4 : Int32)) hx hb d_m30_33 (by decide) ?_
    refine va_newa (atype := .int) (ty := .int) (a0 := (4, .inl (fun _ => 0))) (N' := 4) hx hb k3 rfl hK hP hD hS hA (fun _ => rfl) (by decide) (by decide) (by decide) (Nat.le_of_ble_eq_true rfl) (Nat.le_of_ble_eq_true rfl) d_m30_34 (fun q34 cA H hK1 hP hD hS => ?_)
    have hcA := g_cA (t0 := 0) hK rfl hK1
    subst hcA
    clear hK1
    refine W.widen (k := 5) (n := 20) (Nat.le_of_ble_eq_true rfl) (Nat.le_of_ble_eq_true rfl) ?_
    have hP : va_P (dC, dI) vwCl [(a_pic, .inr (8, [.ref q6, .ref q13, .ref q20, .ref q27, .null, .null, .null, .int (0 : Int32), .int (0 : Int32), .int (0 : Int32), .int (0 : Int32), .null])), (q6, .inl (cI, 4, .inl (fun _ => 0))), (q13, .inl (cI, 4, .inl (fun _ => 0))), (q20, .inl (cI, 4, .inl (fun _ => 0))), (q27, .inl (cI, 4, .inl (fun _ => 0))), (q34, .inl (cI, 4, .inl (fun _ => 0)))] H := hP
    have hD : va_D A [(a_pic, .inr (8, [.ref q6, .ref q13, .ref q20, .ref q27, .null, .null, .null, .int (0 : Int32), .int (0 : Int32), .int (0 : Int32), .int (0 : Int32), .null])), (q6, .inl (cI, 4, .inl (fun _ => 0))), (q13, .inl (cI, 4, .inl (fun _ => 0))), (q20, .inl (cI, 4, .inl (fun _ => 0))), (q27, .inl (cI, 4, .inl (fun _ => 0))), (q34, .inl (cI, 4, .inl (fun _ => 0)))] := hD
    refine va_putF (D := (dC, dI)) (ci := 8) (v := .ref q34) (ty := (.array .int)) (C := "ScanCoder$Picture") (T := T_8) (N := 12) hx hb hts n0 ty_8 tyok_8 nm_8 hown hK hP hD hS 0 rfl rfl 4 (by decide) k8 (fun _ h9 => h9) rfl hin rfl (by decide +kernel) rfl rfl (Nat.le_of_ble_eq_true rfl) d_m30_36 (fun H locs hP hD hS => ?_)
    have hP : va_P (dC, dI) vwCl [(a_pic, .inr (8, [.ref q6, .ref q13, .ref q20, .ref q27, .ref q34, .null, .null, .int (0 : Int32), .int (0 : Int32), .int (0 : Int32), .int (0 : Int32), .null])), (q6, .inl (cI, 4, .inl (fun _ => 0))), (q13, .inl (cI, 4, .inl (fun _ => 0))), (q20, .inl (cI, 4, .inl (fun _ => 0))), (q27, .inl (cI, 4, .inl (fun _ => 0))), (q34, .inl (cI, 4, .inl (fun _ => 0)))] H := hP
    have hD : va_D A [(a_pic, .inr (8, [.ref q6, .ref q13, .ref q20, .ref q27, .ref q34, .null, .null, .int (0 : Int32), .int (0 : Int32), .int (0 : Int32), .int (0 : Int32), .null])), (q6, .inl (cI, 4, .inl (fun _ => 0))), (q13, .inl (cI, 4, .inl (fun _ => 0))), (q20, .inl (cI, 4, .inl (fun _ => 0))), (q27, .inl (cI, 4, .inl (fun _ => 0))), (q34, .inl (cI, 4, .inl (fun _ => 0)))] := hD
    refine lv_aload_n hx hb d_m30_39 rfl (lv_at hl 0 rfl) ?_
    refine lv_iconst (v := (4 : Int32)) hx hb d_m30_40 (by decide) ?_
    refine va_newa (atype := .int) (ty := .int) (a0 := (4, .inl (fun _ => 0))) (N' := 4) hx hb k3 rfl hK hP hD hS hA (fun _ => rfl) (by decide) (by decide) (by decide) (Nat.le_of_ble_eq_true rfl) (Nat.le_of_ble_eq_true rfl) d_m30_41 (fun q41 cA H hK1 hP hD hS => ?_)
    have hcA := g_cA (t0 := 0) hK rfl hK1
    subst hcA
    clear hK1
    refine W.widen (k := 6) (n := 24) (Nat.le_of_ble_eq_true rfl) (Nat.le_of_ble_eq_true rfl) ?_
    have hP : va_P (dC, dI) vwCl [(a_pic, .inr (8, [.ref q6, .ref q13, .ref q20, .ref q27, .ref q34, .null, .null, .int (0 : Int32), .int (0 : Int32), .int (0 : Int32), .int (0 : Int32), .null])), (q6, .inl (cI, 4, .inl (fun _ => 0))), (q13, .inl (cI, 4, .inl (fun _ => 0))), (q20, .inl (cI, 4, .inl (fun _ => 0))), (q27, .inl (cI, 4, .inl (fun _ => 0))), (q34, .inl (cI, 4, .inl (fun _ => 0))), (q41, .inl (cI, 4, .inl (fun _ => 0)))] H := hP
    have hD : va_D A [(a_pic, .inr (8, [.ref q6, .ref q13, .ref q20, .ref q27, .ref q34, .null, .null, .int (0 : Int32), .int (0 : Int32), .int (0 : Int32), .int (0 : Int32), .null])), (q6, .inl (cI, 4, .inl (fun _ => 0))), (q13, .inl (cI, 4, .inl (fun _ => 0))), (q20, .inl (cI, 4, .inl (fun _ => 0))), (q27, .inl (cI, 4, .inl (fun _ => 0))), (q34, .inl (cI, 4, .inl (fun _ => 0))), (q41, .inl (cI, 4, .inl (fun _ => 0)))] := hD
    refine va_putF (D := (dC, dI)) (ci := 8) (v := .ref q41) (ty := (.array .int)) (C := "ScanCoder$Picture") (T := T_8) (N := 12) hx hb hts n0 ty_8 tyok_8 nm_8 hown hK hP hD hS 0 rfl rfl 5 (by decide) k9 (fun _ h9 => h9) rfl hin rfl (by decide +kernel) rfl rfl (Nat.le_of_ble_eq_true rfl) d_m30_43 (fun H locs hP hD hS => ?_)
    have hP : va_P (dC, dI) vwCl [(a_pic, .inr (8, [.ref q6, .ref q13, .ref q20, .ref q27, .ref q34, .ref q41, .null, .int (0 : Int32), .int (0 : Int32), .int (0 : Int32), .int (0 : Int32), .null])), (q6, .inl (cI, 4, .inl (fun _ => 0))), (q13, .inl (cI, 4, .inl (fun _ => 0))), (q20, .inl (cI, 4, .inl (fun _ => 0))), (q27, .inl (cI, 4, .inl (fun _ => 0))), (q34, .inl (cI, 4, .inl (fun _ => 0))), (q41, .inl (cI, 4, .inl (fun _ => 0)))] H := hP
    have hD : va_D A [(a_pic, .inr (8, [.ref q6, .ref q13, .ref q20, .ref q27, .ref q34, .ref q41, .null, .int (0 : Int32), .int (0 : Int32), .int (0 : Int32), .int (0 : Int32), .null])), (q6, .inl (cI, 4, .inl (fun _ => 0))), (q13, .inl (cI, 4, .inl (fun _ => 0))), (q20, .inl (cI, 4, .inl (fun _ => 0))), (q27, .inl (cI, 4, .inl (fun _ => 0))), (q34, .inl (cI, 4, .inl (fun _ => 0))), (q41, .inl (cI, 4, .inl (fun _ => 0)))] := hD
    refine lv_aload_n hx hb d_m30_46 rfl (lv_at hl 0 rfl) ?_
    refine lv_iconst (v := (4 : Int32)) hx hb d_m30_47 (by decide) ?_
    refine va_newa (atype := .int) (ty := .int) (a0 := (4, .inl (fun _ => 0))) (N' := 4) hx hb k3 rfl hK hP hD hS hA (fun _ => rfl) (by decide) (by decide) (by decide) (Nat.le_of_ble_eq_true rfl) (Nat.le_of_ble_eq_true rfl) d_m30_48 (fun q48 cA H hK1 hP hD hS => ?_)
    have hcA := g_cA (t0 := 0) hK rfl hK1
    subst hcA
    clear hK1
    refine W.widen (k := 7) (n := 28) (Nat.le_of_ble_eq_true rfl) (Nat.le_of_ble_eq_true rfl) ?_
    have hP : va_P (dC, dI) vwCl [(a_pic, .inr (8, [.ref q6, .ref q13, .ref q20, .ref q27, .ref q34, .ref q41, .null, .int (0 : Int32), .int (0 : Int32), .int (0 : Int32), .int (0 : Int32), .null])), (q6, .inl (cI, 4, .inl (fun _ => 0))), (q13, .inl (cI, 4, .inl (fun _ => 0))), (q20, .inl (cI, 4, .inl (fun _ => 0))), (q27, .inl (cI, 4, .inl (fun _ => 0))), (q34, .inl (cI, 4, .inl (fun _ => 0))), (q41, .inl (cI, 4, .inl (fun _ => 0))), (q48, .inl (cI, 4, .inl (fun _ => 0)))] H := hP
    have hD : va_D A [(a_pic, .inr (8, [.ref q6, .ref q13, .ref q20, .ref q27, .ref q34, .ref q41, .null, .int (0 : Int32), .int (0 : Int32), .int (0 : Int32), .int (0 : Int32), .null])), (q6, .inl (cI, 4, .inl (fun _ => 0))), (q13, .inl (cI, 4, .inl (fun _ => 0))), (q20, .inl (cI, 4, .inl (fun _ => 0))), (q27, .inl (cI, 4, .inl (fun _ => 0))), (q34, .inl (cI, 4, .inl (fun _ => 0))), (q41, .inl (cI, 4, .inl (fun _ => 0))), (q48, .inl (cI, 4, .inl (fun _ => 0)))] := hD
    refine va_putF (D := (dC, dI)) (ci := 8) (v := .ref q48) (ty := (.array .int)) (C := "ScanCoder$Picture") (T := T_8) (N := 12) hx hb hts n0 ty_8 tyok_8 nm_8 hown hK hP hD hS 0 rfl rfl 6 (by decide) k10 (fun _ h9 => h9) rfl hin rfl (by decide +kernel) rfl rfl (Nat.le_of_ble_eq_true rfl) d_m30_50 (fun H locs hP hD hS => ?_)
    have hP : va_P (dC, dI) vwCl [(a_pic, .inr (8, [.ref q6, .ref q13, .ref q20, .ref q27, .ref q34, .ref q41, .ref q48, .int (0 : Int32), .int (0 : Int32), .int (0 : Int32), .int (0 : Int32), .null])), (q6, .inl (cI, 4, .inl (fun _ => 0))), (q13, .inl (cI, 4, .inl (fun _ => 0))), (q20, .inl (cI, 4, .inl (fun _ => 0))), (q27, .inl (cI, 4, .inl (fun _ => 0))), (q34, .inl (cI, 4, .inl (fun _ => 0))), (q41, .inl (cI, 4, .inl (fun _ => 0))), (q48, .inl (cI, 4, .inl (fun _ => 0)))] H := hP
    have hD : va_D A [(a_pic, .inr (8, [.ref q6, .ref q13, .ref q20, .ref q27, .ref q34, .ref q41, .ref q48, .int (0 : Int32), .int (0 : Int32), .int (0 : Int32), .int (0 : Int32), .null])), (q6, .inl (cI, 4, .inl (fun _ => 0))), (q13, .inl (cI, 4, .inl (fun _ => 0))), (q20, .inl (cI, 4, .inl (fun _ => 0))), (q27, .inl (cI, 4, .inl (fun _ => 0))), (q34, .inl (cI, 4, .inl (fun _ => 0))), (q41, .inl (cI, 4, .inl (fun _ => 0))), (q48, .inl (cI, 4, .inl (fun _ => 0)))] := hD
    refine lv_aload_n hx hb d_m30_53 rfl (lv_at hl 0 rfl) ?_
    refine lv_bipush (v := (64 : Int32)) hx hb d_m30_54 (by decide) ?_
    refine va_newa (atype := .short) (ty := .short) (a0 := (64, .inl (fun _ => 0))) (N' := 64) hx hb k11 rfl hK hP hD hS hA (fun _ => rfl) (by decide) (by decide) (by decide) (Nat.le_of_ble_eq_true rfl) (Nat.le_of_ble_eq_true rfl) d_m30_56 (fun q56 cA H hK1 hP hD hS => ?_)
    have hcA := g_cA (t0 := 2) hK rfl hK1
    subst hcA
    clear hK1
    refine W.widen (k := 8) (n := 92) (Nat.le_of_ble_eq_true rfl) (Nat.le_of_ble_eq_true rfl) ?_
    have hP : va_P (dC, dI) vwCl [(a_pic, .inr (8, [.ref q6, .ref q13, .ref q20, .ref q27, .ref q34, .ref q41, .ref q48, .int (0 : Int32), .int (0 : Int32), .int (0 : Int32), .int (0 : Int32), .null])), (q6, .inl (cI, 4, .inl (fun _ => 0))), (q13, .inl (cI, 4, .inl (fun _ => 0))), (q20, .inl (cI, 4, .inl (fun _ => 0))), (q27, .inl (cI, 4, .inl (fun _ => 0))), (q34, .inl (cI, 4, .inl (fun _ => 0))), (q41, .inl (cI, 4, .inl (fun _ => 0))), (q48, .inl (cI, 4, .inl (fun _ => 0))), (q56, .inl (cS, 64, .inl (fun _ => 0)))] H := hP
    have hD : va_D A [(a_pic, .inr (8, [.ref q6, .ref q13, .ref q20, .ref q27, .ref q34, .ref q41, .ref q48, .int (0 : Int32), .int (0 : Int32), .int (0 : Int32), .int (0 : Int32), .null])), (q6, .inl (cI, 4, .inl (fun _ => 0))), (q13, .inl (cI, 4, .inl (fun _ => 0))), (q20, .inl (cI, 4, .inl (fun _ => 0))), (q27, .inl (cI, 4, .inl (fun _ => 0))), (q34, .inl (cI, 4, .inl (fun _ => 0))), (q41, .inl (cI, 4, .inl (fun _ => 0))), (q48, .inl (cI, 4, .inl (fun _ => 0))), (q56, .inl (cS, 64, .inl (fun _ => 0)))] := hD
    refine va_put (D := (dC, dI)) (ci := 8) (v := .ref q56) (ty := (.array .short)) (C := "ScanCoder$Picture") (T := T_8) (N := 12) hx hb hts n0 ty_8 tyok_8 nm_8 hown hK hP hD hS 0 rfl rfl 11 (by decide) k12 (fun _ h9 => h9) rfl (by decide +kernel) rfl rfl (Nat.le_of_ble_eq_true rfl) d_m30_58 (fun H locs hP hD hS => ?_)
    have hP : va_P (dC, dI) vwCl [(a_pic, .inr (8, [.ref q6, .ref q13, .ref q20, .ref q27, .ref q34, .ref q41, .ref q48, .int (0 : Int32), .int (0 : Int32), .int (0 : Int32), .int (0 : Int32), .ref q56])), (q6, .inl (cI, 4, .inl (fun _ => 0))), (q13, .inl (cI, 4, .inl (fun _ => 0))), (q20, .inl (cI, 4, .inl (fun _ => 0))), (q27, .inl (cI, 4, .inl (fun _ => 0))), (q34, .inl (cI, 4, .inl (fun _ => 0))), (q41, .inl (cI, 4, .inl (fun _ => 0))), (q48, .inl (cI, 4, .inl (fun _ => 0))), (q56, .inl (cS, 64, .inl (fun _ => 0)))] H := hP
    have hD : va_D A [(a_pic, .inr (8, [.ref q6, .ref q13, .ref q20, .ref q27, .ref q34, .ref q41, .ref q48, .int (0 : Int32), .int (0 : Int32), .int (0 : Int32), .int (0 : Int32), .ref q56])), (q6, .inl (cI, 4, .inl (fun _ => 0))), (q13, .inl (cI, 4, .inl (fun _ => 0))), (q20, .inl (cI, 4, .inl (fun _ => 0))), (q27, .inl (cI, 4, .inl (fun _ => 0))), (q34, .inl (cI, 4, .inl (fun _ => 0))), (q41, .inl (cI, 4, .inl (fun _ => 0))), (q48, .inl (cI, 4, .inl (fun _ => 0))), (q56, .inl (cS, 64, .inl (fun _ => 0)))] := hD
    refine lv_aload_n hx hb d_m30_61 rfl (lv_at hl 0 rfl) ?_
    refine lv_bipush (v := (8 : Int32)) hx hb d_m30_62 (by decide) ?_
    refine lv_bipush (v := (8 : Int32)) hx hb d_m30_64 (by decide) ?_
    refine lv_iconst (v := (1 : Int32)) hx hb d_m30_66 (by decide) ?_
    refine lv_iconst (v := (0 : Int32)) hx hb d_m30_67 (by decide) ?_
    obtain ⟨z1, hz1, hf⟩ := ob_bind hf
    refine g_callAv (U := Nat) (wc := (w_Picture_become cI cB cS cT a_pic q6 q13 q20 q27 q34 q41 q48 q56 (0 : Int32) (0 : Int32) (0 : Int32) (0 : Int32) (fun _ => 0) (fun _ => 0) (fun _ => 0) (fun _ => 0) (fun _ => 0) (fun _ => 0) (fun _ => 0) 64 (fun _ => 0))) (w1 := fun u1 => (w_Picture_become cI cB cS cT a_pic q6 q13 q20 q27 q34 q41 q48 u1 z1.1 z1.2.1 z1.2.2.1 z1.2.2.2.1 z1.2.2.2.2.1 z1.2.2.2.2.2.1 z1.2.2.2.2.2.2.1 z1.2.2.2.2.2.2.2.1 z1.2.2.2.2.2.2.2.2.1 z1.2.2.2.2.2.2.2.2.2.1 z1.2.2.2.2.2.2.2.2.2.2.1 z1.2.2.2.2.2.2.2.2.2.2.2.1 z1.2.2.2.2.2.2.2.2.2.2.2.2)) (w2 := fun u1 => [(a_pic, .inr (8, [.ref q6, .ref q13, .ref q20, .ref q27, .ref q34, .ref q41, .ref q48, .int z1.1, .int z1.2.1, .int z1.2.2.1, .int z1.2.2.2.1, .ref u1])), (q6, .inl (cI, 4, .inl z1.2.2.2.2.1)), (q13, .inl (cI, 4, .inl z1.2.2.2.2.2.1)), (q20, .inl (cI, 4, .inl z1.2.2.2.2.2.2.1)), (q27, .inl (cI, 4, .inl z1.2.2.2.2.2.2.2.1)), (q34, .inl (cI, 4, .inl z1.2.2.2.2.2.2.2.2.1)), (q41, .inl (cI, 4, .inl z1.2.2.2.2.2.2.2.2.2.1)), (q48, .inl (cI, 4, .inl z1.2.2.2.2.2.2.2.2.2.2.1)), (u1, .inl (cS, z1.2.2.2.2.2.2.2.2.2.2.2.1, .inl z1.2.2.2.2.2.2.2.2.2.2.2.2))]) [0, 1, 2, 3, 4, 5, 6, 7, 8] [some 0, some 1, some 2, some 3, some 4, some 5, some 6, some 7, some 8] hP hD hS hA rfl (fun _ => rfl) rfl rfl (va_runV (As := [.int (8 : Int32), .int (8 : Int32), .int (1 : Int32), .int (0 : Int32)]) (rest := []) ⟨hx, hb, hml, hown, hts⟩ (c_Picture_become l dC dI cI cB cS cT 0 N a_pic q6 q13 q20 q27 q34 q41 q48 q56 (0 : Int32) (0 : Int32) (0 : Int32) (0 : Int32) (fun _ => 0) (fun _ => 0) (fun _ => 0) (fun _ => 0) (fun _ => 0) (fun _ => 0) (fun _ => 0) 64 (fun _ => 0) (8 : Int32) (8 : Int32) (1 : Int32) (0 : Int32) H.size z1 hz1) ⟨(callB_of 4 hts (gi tw_35 rfl) rfl rfl rfl (hts _ (List.mem_cons_of_mem _ tw_2)) (hts _ (List.mem_cons_of_mem _ tw_32)) (by decide +kernel) ⟨Nat.le_of_ble_eq_true rfl, Nat.le_of_ble_eq_true rfl⟩), hts _ (List.mem_cons_of_mem _ tw_33), hts _ (List.mem_cons_of_mem _ tw_34)⟩ ⟨g_blind, va_recv hK hP (ci := 8) (q0 := 0) rfl rfl, g_at hKN (g_pm hP [0, 1, 2, 3, 4, 5, 6, 7, 8] rfl) (hD.sub [0, 1, 2, 3, 4, 5, 6, 7, 8] (by decide) rfl)⟩ rfl rfl hl.1 rfl (lv_room (Nat.le_of_ble_eq_true rfl)) d_m30_68 ⟨Nat.le_of_ble_eq_true rfl, Nat.le_of_ble_eq_true rfl⟩) (fun u1 H locs hP hD hS => ?_)
    refine W.widen (k := 9) (n := 92) (Nat.le_of_ble_eq_true rfl) (Nat.le_of_ble_eq_true rfl) ?_
    have hP : va_P (dC, dI) vwCl [(a_pic, .inr (8, [.ref q6, .ref q13, .ref q20, .ref q27, .ref q34, .ref q41, .ref q48, .int z1.1, .int z1.2.1, .int z1.2.2.1, .int z1.2.2.2.1, .ref u1])), (q6, .inl (cI, 4, .inl z1.2.2.2.2.1)), (q13, .inl (cI, 4, .inl z1.2.2.2.2.2.1)), (q20, .inl (cI, 4, .inl z1.2.2.2.2.2.2.1)), (q27, .inl (cI, 4, .inl z1.2.2.2.2.2.2.2.1)), (q34, .inl (cI, 4, .inl z1.2.2.2.2.2.2.2.2.1)), (q41, .inl (cI, 4, .inl z1.2.2.2.2.2.2.2.2.2.1)), (q48, .inl (cI, 4, .inl z1.2.2.2.2.2.2.2.2.2.2.1)), (u1, .inl (cS, z1.2.2.2.2.2.2.2.2.2.2.2.1, .inl z1.2.2.2.2.2.2.2.2.2.2.2.2))] H := hP
    have hD : va_D A [(a_pic, .inr (8, [.ref q6, .ref q13, .ref q20, .ref q27, .ref q34, .ref q41, .ref q48, .int z1.1, .int z1.2.1, .int z1.2.2.1, .int z1.2.2.2.1, .ref u1])), (q6, .inl (cI, 4, .inl z1.2.2.2.2.1)), (q13, .inl (cI, 4, .inl z1.2.2.2.2.2.1)), (q20, .inl (cI, 4, .inl z1.2.2.2.2.2.2.1)), (q27, .inl (cI, 4, .inl z1.2.2.2.2.2.2.2.1)), (q34, .inl (cI, 4, .inl z1.2.2.2.2.2.2.2.2.1)), (q41, .inl (cI, 4, .inl z1.2.2.2.2.2.2.2.2.2.1)), (q48, .inl (cI, 4, .inl z1.2.2.2.2.2.2.2.2.2.2.1)), (u1, .inl (cS, z1.2.2.2.2.2.2.2.2.2.2.2.1, .inl z1.2.2.2.2.2.2.2.2.2.2.2.2))] := hD
    refine W.eq (g2 := F0 m 71 ls []) rfl ?_
    obtain rfl := Option.some.inj hf
    subst hQ
    subst hAe
    exact W.vret hx hb hr (fun t ht hW => ⟨⟨(q6, q13, q20, q27, q34, q41, q48, u1), rfl, trivial, by rw [ht]; exact hP, hD⟩, hS.F ht⟩) hS.2.2 d_m30_71
  exact hgo _ _ hP hS

def f_Course_init (N : Nat) (pic_many : Int32) (pic_unitsAcross : Int32) (pic_unitsDown : Int32) (pic_h : Nat → Int32) (pic_v : Nat → Int32) (pic_ac : Nat → Int32) (pic_dn : Nat → Int32) (pic_oa : Nat → Int32) (pic_od : Nat → Int32) (pic_st : Nat → Int32) : Option (Int32 × Int32 × Int32 × Int32 × Int32 × Int32 × Int32 × Int32 × (Nat → Int32) × (Nat → Int32) × (Nat → Int32) × (Nat → Int32)) :=
  (f_Course_startAnew N pic_many pic_unitsAcross pic_unitsDown pic_h pic_v pic_ac pic_dn pic_oa pic_od pic_st (fun _ => 0) (fun _ => 0) (fun _ => 0) (fun _ => 0)).bind fun z1 =>
  some (z1.1, z1.2.1, z1.2.2.1, z1.2.2.2.1, z1.2.2.2.2.1, z1.2.2.2.2.2.1, z1.2.2.2.2.2.2.1, z1.2.2.2.2.2.2.2.1, z1.2.2.2.2.2.2.2.2.1, z1.2.2.2.2.2.2.2.2.2.1, z1.2.2.2.2.2.2.2.2.2.2.1, z1.2.2.2.2.2.2.2.2.2.2.2)
def rm_Course_init : Room := { frames := 6, cells := 4, slots := 392, locals := 141 }
set_option maxHeartbeats 1000000 in
set_option maxRecDepth 100000 in
theorem c_Course_init (l : Launch) (dC : Nat → ClassId) (dI : Nat → Nat → Nat) (cI cB cS cT : ClassId) (N : Nat) (a_pic : Nat) (a_pic_h : Nat) (a_pic_v : Nat) (a_pic_ac : Nat) (a_pic_dn : Nat) (a_pic_oa : Nat) (a_pic_od : Nat) (a_pic_st : Nat) (a_crs : Nat) (a_pic_co : Nat) (pic_many : Int32) (pic_unitsAcross : Int32) (pic_unitsDown : Int32) (pic_blocks : Int32) (pic_h : Nat → Int32) (pic_v : Nat → Int32) (pic_ac : Nat → Int32) (pic_dn : Nat → Int32) (pic_oa : Nat → Int32) (pic_od : Nat → Int32) (pic_st : Nat → Int32) (sz : Nat) (z : Int32 × Int32 × Int32 × Int32 × Int32 × Int32 × Int32 × Int32 × (Nat → Int32) × (Nat → Int32) × (Nat → Int32) × (Nat → Int32)) (hf : f_Course_init N pic_many pic_unitsAcross pic_unitsDown pic_h pic_v pic_ac pic_dn pic_oa pic_od pic_st = some z) : Met l y_m114 ws_m114 rm_Course_init (gPre (dC, dI) [.ref a_crs, .ref a_pic] (gT cI cB cS cT) [(a_pic, .inr (8, [.ref a_pic_h, .ref a_pic_v, .ref a_pic_ac, .ref a_pic_dn, .ref a_pic_oa, .ref a_pic_od, .ref a_pic_st, .int pic_many, .int pic_unitsAcross, .int pic_unitsDown, .int pic_blocks, .ref a_pic_co])), (a_pic_h, .inl (cI, 4, .inl pic_h)), (a_pic_v, .inl (cI, 4, .inl pic_v)), (a_pic_ac, .inl (cI, 4, .inl pic_ac)), (a_pic_dn, .inl (cI, 4, .inl pic_dn)), (a_pic_oa, .inl (cI, 4, .inl pic_oa)), (a_pic_od, .inl (cI, 4, .inl pic_od)), (a_pic_st, .inl (cI, 4, .inl pic_st)), (a_crs, .inr (4, [.null, .null, .null, .null, .null, .int (0 : Int32), .int (0 : Int32), .int (0 : Int32), .int (0 : Int32), .int (0 : Int32), .int (0 : Int32), .int (0 : Int32), .int (0 : Int32)]))] sz) (gQvA (dC, dI) (gT cI cB cS cT) (U := Nat × Nat × Nat × Nat) [(a_pic, .inr (8, [.ref a_pic_h, .ref a_pic_v, .ref a_pic_ac, .ref a_pic_dn, .ref a_pic_oa, .ref a_pic_od, .ref a_pic_st, .int pic_many, .int pic_unitsAcross, .int pic_unitsDown, .int pic_blocks, .ref a_pic_co])), (a_pic_h, .inl (cI, 4, .inl pic_h)), (a_pic_v, .inl (cI, 4, .inl pic_v)), (a_pic_ac, .inl (cI, 4, .inl pic_ac)), (a_pic_dn, .inl (cI, 4, .inl pic_dn)), (a_pic_oa, .inl (cI, 4, .inl pic_oa)), (a_pic_od, .inl (cI, 4, .inl pic_od)), (a_pic_st, .inl (cI, 4, .inl pic_st)), (a_crs, .inr (4, [.null, .null, .null, .null, .null, .int (0 : Int32), .int (0 : Int32), .int (0 : Int32), .int (0 : Int32), .int (0 : Int32), .int (0 : Int32), .int (0 : Int32), .int (0 : Int32)]))] (fun u => [(a_pic, .inr (8, [.ref a_pic_h, .ref a_pic_v, .ref a_pic_ac, .ref a_pic_dn, .ref a_pic_oa, .ref a_pic_od, .ref a_pic_st, .int pic_many, .int pic_unitsAcross, .int pic_unitsDown, .int pic_blocks, .ref a_pic_co])), (a_pic_h, .inl (cI, 4, .inl pic_h)), (a_pic_v, .inl (cI, 4, .inl pic_v)), (a_pic_ac, .inl (cI, 4, .inl pic_ac)), (a_pic_dn, .inl (cI, 4, .inl pic_dn)), (a_pic_oa, .inl (cI, 4, .inl pic_oa)), (a_pic_od, .inl (cI, 4, .inl pic_od)), (a_pic_st, .inl (cI, 4, .inl pic_st)), (a_crs, .inr (4, [.ref a_pic, .ref u.1, .ref u.2.1, .ref u.2.2.1, .ref u.2.2.2, .int z.1, .int z.2.1, .int z.2.2.1, .int z.2.2.2.1, .int z.2.2.2.2.1, .int z.2.2.2.2.2.1, .int z.2.2.2.2.2.2.1, .int z.2.2.2.2.2.2.2.1])), (u.1, .inl (cI, 192, .inl z.2.2.2.2.2.2.2.2.1)), (u.2.1, .inl (cI, 192, .inl z.2.2.2.2.2.2.2.2.2.1)), (u.2.2.1, .inl (cI, 4, .inl z.2.2.2.2.2.2.2.2.2.2.1)), (u.2.2.2, .inl (cI, 4, .inl z.2.2.2.2.2.2.2.2.2.2.2))]) sz) 4 392 (va_A [(a_pic, .inr (8, [.ref a_pic_h, .ref a_pic_v, .ref a_pic_ac, .ref a_pic_dn, .ref a_pic_oa, .ref a_pic_od, .ref a_pic_st, .int pic_many, .int pic_unitsAcross, .int pic_unitsDown, .int pic_blocks, .ref a_pic_co])), (a_pic_h, .inl (cI, 4, .inl pic_h)), (a_pic_v, .inl (cI, 4, .inl pic_v)), (a_pic_ac, .inl (cI, 4, .inl pic_ac)), (a_pic_dn, .inl (cI, 4, .inl pic_dn)), (a_pic_oa, .inl (cI, 4, .inl pic_oa)), (a_pic_od, .inl (cI, 4, .inl pic_od)), (a_pic_st, .inl (cI, 4, .inl pic_st)), (a_crs, .inr (4, [.null, .null, .null, .null, .null, .int (0 : Int32), .int (0 : Int32), .int (0 : Int32), .int (0 : Int32), .int (0 : Int32), .int (0 : Int32), .int (0 : Int32), .int (0 : Int32)]))] sz) := by
  refine Met.ofW (cc := prog_5_method_1_code) (maxL := 2) (ret := none) (by decide) rfl ?_
  intro p e s m args below meth c s₁ B hml hv
  obtain ⟨hargs, hsz, hP, hKN, hD0⟩ := hv
  have hK := hKN.1
  have hx := B.exec
  have hb := B.bytes
  have hr := B.returns
  have hts := atoms_spec (ws := ws_m114) B.pre
  have hown : s.vm.findClass "ScanCoder$Course" = some m.cls := findClass_of_methodNamed B.named
  have hlocks := B.notSynchronized
  have hin : meth.name = "<init>" := (name_of_methodNamed B.named B.method).1
  have k0 := hts _ (List.mem_cons_of_mem _ tw_115)
  have k1 := hts _ (List.mem_cons_of_mem _ tw_24)
  have k2 := hts _ (List.mem_cons_of_mem _ tw_25)
  have k3 := hts _ (List.mem_cons_of_mem _ tw_108)
  have k4 := hts _ (List.mem_cons_of_mem _ tw_158)
  have k5 := hts _ (List.mem_cons_of_mem _ tw_161)
  have k6 := hts _ (List.mem_cons_of_mem _ tw_164)
  have k7 := hts _ (List.mem_cons_of_mem _ tw_168)
  have k8 := hts _ (List.mem_cons_of_mem _ tw_157)
  have n0 : ∀ w ∈ u_ws "ScanCoder$Course" T_4 13, w ∈ ws_m114 := fun w h => List.mem_cons_of_mem _ (in_4 w h)
  subst hsz
  have hD := hD0.self (sz := s.heap.size)
  obtain ⟨A, hAe⟩ : ∃ A : Nat → Prop, va_A [(a_pic, .inr (8, [.ref a_pic_h, .ref a_pic_v, .ref a_pic_ac, .ref a_pic_dn, .ref a_pic_oa, .ref a_pic_od, .ref a_pic_st, .int pic_many, .int pic_unitsAcross, .int pic_unitsDown, .int pic_blocks, .ref a_pic_co])), (a_pic_h, .inl (cI, 4, .inl pic_h)), (a_pic_v, .inl (cI, 4, .inl pic_v)), (a_pic_ac, .inl (cI, 4, .inl pic_ac)), (a_pic_dn, .inl (cI, 4, .inl pic_dn)), (a_pic_oa, .inl (cI, 4, .inl pic_oa)), (a_pic_od, .inl (cI, 4, .inl pic_od)), (a_pic_st, .inl (cI, 4, .inl pic_st)), (a_crs, .inr (4, [.null, .null, .null, .null, .null, .int (0 : Int32), .int (0 : Int32), .int (0 : Int32), .int (0 : Int32), .int (0 : Int32), .int (0 : Int32), .int (0 : Int32), .int (0 : Int32)]))] s.heap.size = A := ⟨_, rfl⟩
  rw [hAe] at hD
  have hA : ∀ q : Nat, s.heap.size ≤ q → A q := fun q h => by rw [← hAe]; exact Or.inr h
  have hS : va_S A s.heap s.heap [] := va_S.rf
  have hl := lv_entry ([.ref a_crs, .ref a_pic]) (n := 2) (Nat.le_of_ble_eq_true rfl)
  have hfr : entryFrame m args 2 = F0 m 0 ((lg_sl ([.ref a_crs, .ref a_pic]) ++ List.replicate (2 - (lg_sl ([.ref a_crs, .ref a_pic])).length) Slot.unset).toArray) [] := by rw [hargs]; exact lg_entry_eq _ _ _
  rw [hfr]
  generalize (lg_sl ([.ref a_crs, .ref a_pic]) ++ List.replicate (2 - (lg_sl ([.ref a_crs, .ref a_pic])).length) Slot.unset).toArray = ls at hl ⊢
  have hl : lv_has ls 2 [(0, .ref a_crs), (1, .ref a_pic)] := hl
  refine gen_Q (fun Q hQ => ?_)
  clear hfr
  have hgo : ∀ (H : Heap) (locs : List Loc), va_P (dC, dI) vwCl [(a_pic, .inr (8, [.ref a_pic_h, .ref a_pic_v, .ref a_pic_ac, .ref a_pic_dn, .ref a_pic_oa, .ref a_pic_od, .ref a_pic_st, .int pic_many, .int pic_unitsAcross, .int pic_unitsDown, .int pic_blocks, .ref a_pic_co])), (a_pic_h, .inl (cI, 4, .inl pic_h)), (a_pic_v, .inl (cI, 4, .inl pic_v)), (a_pic_ac, .inl (cI, 4, .inl pic_ac)), (a_pic_dn, .inl (cI, 4, .inl pic_dn)), (a_pic_oa, .inl (cI, 4, .inl pic_oa)), (a_pic_od, .inl (cI, 4, .inl pic_od)), (a_pic_st, .inl (cI, 4, .inl pic_st)), (a_crs, .inr (4, [.null, .null, .null, .null, .null, .int (0 : Int32), .int (0 : Int32), .int (0 : Int32), .int (0 : Int32), .int (0 : Int32), .int (0 : Int32), .int (0 : Int32), .int (0 : Int32)]))] H → va_S A s.heap H locs → W p l e (headSpec ws_m114 rm_Course_init).room s m args below meth c H locs 0 0 Q (F0 m 0 ls []) := by
    intro H locs hP hS
    unfold f_Course_init at hf
    refine lv_aload_n hx hb d_m114_0 rfl (lv_at hl 0 rfl) ?_
    refine W.objInit hx hb hown k0 k1 k2 rfl (by rw [hml]; exact hl.1) rfl d_m114_1 (Nat.le_of_ble_eq_true rfl) (Nat.le_of_ble_eq_true rfl) ?_
    refine W.eq (g2 := F0 m 4 ls []) rfl ?_
    refine lv_aload_n hx hb d_m114_4 rfl (lv_at hl 0 rfl) ?_
    refine lv_sipush (v := (192 : Int32)) hx hb d_m114_5 (by decide) ?_
    refine va_newa (atype := .int) (ty := .int) (a0 := (192, .inl (fun _ => 0))) (N' := 192) hx hb k3 rfl hK hP hD hS hA (fun _ => rfl) (by decide) (by decide) (by decide) (Nat.le_of_ble_eq_true rfl) (Nat.le_of_ble_eq_true rfl) d_m114_8 (fun q8 cA H hK1 hP hD hS => ?_)
    have hcA := g_cA (t0 := 0) hK rfl hK1
    subst hcA
    clear hK1
    refine W.widen (k := 1) (n := 192) (Nat.le_of_ble_eq_true rfl) (Nat.le_of_ble_eq_true rfl) ?_
    have hP : va_P (dC, dI) vwCl [(a_pic, .inr (8, [.ref a_pic_h, .ref a_pic_v, .ref a_pic_ac, .ref a_pic_dn, .ref a_pic_oa, .ref a_pic_od, .ref a_pic_st, .int pic_many, .int pic_unitsAcross, .int pic_unitsDown, .int pic_blocks, .ref a_pic_co])), (a_pic_h, .inl (cI, 4, .inl pic_h)), (a_pic_v, .inl (cI, 4, .inl pic_v)), (a_pic_ac, .inl (cI, 4, .inl pic_ac)), (a_pic_dn, .inl (cI, 4, .inl pic_dn)), (a_pic_oa, .inl (cI, 4, .inl pic_oa)), (a_pic_od, .inl (cI, 4, .inl pic_od)), (a_pic_st, .inl (cI, 4, .inl pic_st)), (a_crs, .inr (4, [.null, .null, .null, .null, .null, .int (0 : Int32), .int (0 : Int32), .int (0 : Int32), .int (0 : Int32), .int (0 : Int32), .int (0 : Int32), .int (0 : Int32), .int (0 : Int32)])), (q8, .inl (cI, 192, .inl (fun _ => 0)))] H := hP
    have hD : va_D A [(a_pic, .inr (8, [.ref a_pic_h, .ref a_pic_v, .ref a_pic_ac, .ref a_pic_dn, .ref a_pic_oa, .ref a_pic_od, .ref a_pic_st, .int pic_many, .int pic_unitsAcross, .int pic_unitsDown, .int pic_blocks, .ref a_pic_co])), (a_pic_h, .inl (cI, 4, .inl pic_h)), (a_pic_v, .inl (cI, 4, .inl pic_v)), (a_pic_ac, .inl (cI, 4, .inl pic_ac)), (a_pic_dn, .inl (cI, 4, .inl pic_dn)), (a_pic_oa, .inl (cI, 4, .inl pic_oa)), (a_pic_od, .inl (cI, 4, .inl pic_od)), (a_pic_st, .inl (cI, 4, .inl pic_st)), (a_crs, .inr (4, [.null, .null, .null, .null, .null, .int (0 : Int32), .int (0 : Int32), .int (0 : Int32), .int (0 : Int32), .int (0 : Int32), .int (0 : Int32), .int (0 : Int32), .int (0 : Int32)])), (q8, .inl (cI, 192, .inl (fun _ => 0)))] := hD
    refine va_putF (D := (dC, dI)) (ci := 4) (v := .ref q8) (ty := (.array .int)) (C := "ScanCoder$Course") (T := T_4) (N := 13) hx hb hts n0 ty_4 tyok_4 nm_4 hown hK hP hD hS 8 rfl rfl 1 (by decide) k4 (fun _ h9 => h9) rfl hin rfl (by decide +kernel) rfl rfl (Nat.le_of_ble_eq_true rfl) d_m114_10 (fun H locs hP hD hS => ?_)
    have hP : va_P (dC, dI) vwCl [(a_pic, .inr (8, [.ref a_pic_h, .ref a_pic_v, .ref a_pic_ac, .ref a_pic_dn, .ref a_pic_oa, .ref a_pic_od, .ref a_pic_st, .int pic_many, .int pic_unitsAcross, .int pic_unitsDown, .int pic_blocks, .ref a_pic_co])), (a_pic_h, .inl (cI, 4, .inl pic_h)), (a_pic_v, .inl (cI, 4, .inl pic_v)), (a_pic_ac, .inl (cI, 4, .inl pic_ac)), (a_pic_dn, .inl (cI, 4, .inl pic_dn)), (a_pic_oa, .inl (cI, 4, .inl pic_oa)), (a_pic_od, .inl (cI, 4, .inl pic_od)), (a_pic_st, .inl (cI, 4, .inl pic_st)), (a_crs, .inr (4, [.null, .ref q8, .null, .null, .null, .int (0 : Int32), .int (0 : Int32), .int (0 : Int32), .int (0 : Int32), .int (0 : Int32), .int (0 : Int32), .int (0 : Int32), .int (0 : Int32)])), (q8, .inl (cI, 192, .inl (fun _ => 0)))] H := hP
    have hD : va_D A [(a_pic, .inr (8, [.ref a_pic_h, .ref a_pic_v, .ref a_pic_ac, .ref a_pic_dn, .ref a_pic_oa, .ref a_pic_od, .ref a_pic_st, .int pic_many, .int pic_unitsAcross, .int pic_unitsDown, .int pic_blocks, .ref a_pic_co])), (a_pic_h, .inl (cI, 4, .inl pic_h)), (a_pic_v, .inl (cI, 4, .inl pic_v)), (a_pic_ac, .inl (cI, 4, .inl pic_ac)), (a_pic_dn, .inl (cI, 4, .inl pic_dn)), (a_pic_oa, .inl (cI, 4, .inl pic_oa)), (a_pic_od, .inl (cI, 4, .inl pic_od)), (a_pic_st, .inl (cI, 4, .inl pic_st)), (a_crs, .inr (4, [.null, .ref q8, .null, .null, .null, .int (0 : Int32), .int (0 : Int32), .int (0 : Int32), .int (0 : Int32), .int (0 : Int32), .int (0 : Int32), .int (0 : Int32), .int (0 : Int32)])), (q8, .inl (cI, 192, .inl (fun _ => 0)))] := hD
    refine lv_aload_n hx hb d_m114_13 rfl (lv_at hl 0 rfl) ?_
    refine lv_sipush (v := (192 : Int32)) hx hb d_m114_14 (by decide) ?_
    refine va_newa (atype := .int) (ty := .int) (a0 := (192, .inl (fun _ => 0))) (N' := 192) hx hb k3 rfl hK hP hD hS hA (fun _ => rfl) (by decide) (by decide) (by decide) (Nat.le_of_ble_eq_true rfl) (Nat.le_of_ble_eq_true rfl) d_m114_17 (fun q17 cA H hK1 hP hD hS => ?_)
    have hcA := g_cA (t0 := 0) hK rfl hK1
    subst hcA
    clear hK1
    refine W.widen (k := 2) (n := 384) (Nat.le_of_ble_eq_true rfl) (Nat.le_of_ble_eq_true rfl) ?_
    have hP : va_P (dC, dI) vwCl [(a_pic, .inr (8, [.ref a_pic_h, .ref a_pic_v, .ref a_pic_ac, .ref a_pic_dn, .ref a_pic_oa, .ref a_pic_od, .ref a_pic_st, .int pic_many, .int pic_unitsAcross, .int pic_unitsDown, .int pic_blocks, .ref a_pic_co])), (a_pic_h, .inl (cI, 4, .inl pic_h)), (a_pic_v, .inl (cI, 4, .inl pic_v)), (a_pic_ac, .inl (cI, 4, .inl pic_ac)), (a_pic_dn, .inl (cI, 4, .inl pic_dn)), (a_pic_oa, .inl (cI, 4, .inl pic_oa)), (a_pic_od, .inl (cI, 4, .inl pic_od)), (a_pic_st, .inl (cI, 4, .inl pic_st)), (a_crs, .inr (4, [.null, .ref q8, .null, .null, .null, .int (0 : Int32), .int (0 : Int32), .int (0 : Int32), .int (0 : Int32), .int (0 : Int32), .int (0 : Int32), .int (0 : Int32), .int (0 : Int32)])), (q8, .inl (cI, 192, .inl (fun _ => 0))), (q17, .inl (cI, 192, .inl (fun _ => 0)))] H := hP
    have hD : va_D A [(a_pic, .inr (8, [.ref a_pic_h, .ref a_pic_v, .ref a_pic_ac, .ref a_pic_dn, .ref a_pic_oa, .ref a_pic_od, .ref a_pic_st, .int pic_many, .int pic_unitsAcross, .int pic_unitsDown, .int pic_blocks, .ref a_pic_co])), (a_pic_h, .inl (cI, 4, .inl pic_h)), (a_pic_v, .inl (cI, 4, .inl pic_v)), (a_pic_ac, .inl (cI, 4, .inl pic_ac)), (a_pic_dn, .inl (cI, 4, .inl pic_dn)), (a_pic_oa, .inl (cI, 4, .inl pic_oa)), (a_pic_od, .inl (cI, 4, .inl pic_od)), (a_pic_st, .inl (cI, 4, .inl pic_st)), (a_crs, .inr (4, [.null, .ref q8, .null, .null, .null, .int (0 : Int32), .int (0 : Int32), .int (0 : Int32), .int (0 : Int32), .int (0 : Int32), .int (0 : Int32), .int (0 : Int32), .int (0 : Int32)])), (q8, .inl (cI, 192, .inl (fun _ => 0))), (q17, .inl (cI, 192, .inl (fun _ => 0)))] := hD
    refine va_putF (D := (dC, dI)) (ci := 4) (v := .ref q17) (ty := (.array .int)) (C := "ScanCoder$Course") (T := T_4) (N := 13) hx hb hts n0 ty_4 tyok_4 nm_4 hown hK hP hD hS 8 rfl rfl 2 (by decide) k5 (fun _ h9 => h9) rfl hin rfl (by decide +kernel) rfl rfl (Nat.le_of_ble_eq_true rfl) d_m114_19 (fun H locs hP hD hS => ?_)
    have hP : va_P (dC, dI) vwCl [(a_pic, .inr (8, [.ref a_pic_h, .ref a_pic_v, .ref a_pic_ac, .ref a_pic_dn, .ref a_pic_oa, .ref a_pic_od, .ref a_pic_st, .int pic_many, .int pic_unitsAcross, .int pic_unitsDown, .int pic_blocks, .ref a_pic_co])), (a_pic_h, .inl (cI, 4, .inl pic_h)), (a_pic_v, .inl (cI, 4, .inl pic_v)), (a_pic_ac, .inl (cI, 4, .inl pic_ac)), (a_pic_dn, .inl (cI, 4, .inl pic_dn)), (a_pic_oa, .inl (cI, 4, .inl pic_oa)), (a_pic_od, .inl (cI, 4, .inl pic_od)), (a_pic_st, .inl (cI, 4, .inl pic_st)), (a_crs, .inr (4, [.null, .ref q8, .ref q17, .null, .null, .int (0 : Int32), .int (0 : Int32), .int (0 : Int32), .int (0 : Int32), .int (0 : Int32), .int (0 : Int32), .int (0 : Int32), .int (0 : Int32)])), (q8, .inl (cI, 192, .inl (fun _ => 0))), (q17, .inl (cI, 192, .inl (fun _ => 0)))] H := hP
    have hD : va_D A [(a_pic, .inr (8, [.ref a_pic_h, .ref a_pic_v, .ref a_pic_ac, .ref a_pic_dn, .ref a_pic_oa, .ref a_pic_od, .ref a_pic_st, .int pic_many, .int pic_unitsAcross, .int pic_unitsDown, .int pic_blocks, .ref a_pic_co])), (a_pic_h, .inl (cI, 4, .inl pic_h)), (a_pic_v, .inl (cI, 4, .inl pic_v)), (a_pic_ac, .inl (cI, 4, .inl pic_ac)), (a_pic_dn, .inl (cI, 4, .inl pic_dn)), (a_pic_oa, .inl (cI, 4, .inl pic_oa)), (a_pic_od, .inl (cI, 4, .inl pic_od)), (a_pic_st, .inl (cI, 4, .inl pic_st)), (a_crs, .inr (4, [.null, .ref q8, .ref q17, .null, .null, .int (0 : Int32), .int (0 : Int32), .int (0 : Int32), .int (0 : Int32), .int (0 : Int32), .int (0 : Int32), .int (0 : Int32), .int (0 : Int32)])), (q8, .inl (cI, 192, .inl (fun _ => 0))), (q17, .inl (cI, 192, .inl (fun _ => 0)))] := hD
    refine lv_aload_n hx hb d_m114_22 rfl (lv_at hl 0 rfl) ?_
    refine lv_iconst (v := (4 : Int32)) hx hb d_m114_23 (by decide) ?_
    refine va_newa (atype := .int) (ty := .int) (a0 := (4, .inl (fun _ => 0))) (N' := 4) hx hb k3 rfl hK hP hD hS hA (fun _ => rfl) (by decide) (by decide) (by decide) (Nat.le_of_ble_eq_true rfl) (Nat.le_of_ble_eq_true rfl) d_m114_24 (fun q24 cA H hK1 hP hD hS => ?_)
    have hcA := g_cA (t0 := 0) hK rfl hK1
    subst hcA
    clear hK1
    refine W.widen (k := 3) (n := 388) (Nat.le_of_ble_eq_true rfl) (Nat.le_of_ble_eq_true rfl) ?_
    have hP : va_P (dC, dI) vwCl [(a_pic, .inr (8, [.ref a_pic_h, .ref a_pic_v, .ref a_pic_ac, .ref a_pic_dn, .ref a_pic_oa, .ref a_pic_od, .ref a_pic_st, .int pic_many, .int pic_unitsAcross, .int pic_unitsDown, .int pic_blocks, .ref a_pic_co])), (a_pic_h, .inl (cI, 4, .inl pic_h)), (a_pic_v, .inl (cI, 4, .inl pic_v)), (a_pic_ac, .inl (cI, 4, .inl pic_ac)), (a_pic_dn, .inl (cI, 4, .inl pic_dn)), (a_pic_oa, .inl (cI, 4, .inl pic_oa)), (a_pic_od, .inl (cI, 4, .inl pic_od)), (a_pic_st, .inl (cI, 4, .inl pic_st)), (a_crs, .inr (4, [.null, .ref q8, .ref q17, .null, .null, .int (0 : Int32), .int (0 : Int32), .int (0 : Int32), .int (0 : Int32), .int (0 : Int32), .int (0 : Int32), .int (0 : Int32), .int (0 : Int32)])), (q8, .inl (cI, 192, .inl (fun _ => 0))), (q17, .inl (cI, 192, .inl (fun _ => 0))), (q24, .inl (cI, 4, .inl (fun _ => 0)))] H := hP
    have hD : va_D A [(a_pic, .inr (8, [.ref a_pic_h, .ref a_pic_v, .ref a_pic_ac, .ref a_pic_dn, .ref a_pic_oa, .ref a_pic_od, .ref a_pic_st, .int pic_many, .int pic_unitsAcross, .int pic_unitsDown, .int pic_blocks, .ref a_pic_co])), (a_pic_h, .inl (cI, 4, .inl pic_h)), (a_pic_v, .inl (cI, 4, .inl pic_v)), (a_pic_ac, .inl (cI, 4, .inl pic_ac)), (a_pic_dn, .inl (cI, 4, .inl pic_dn)), (a_pic_oa, .inl (cI, 4, .inl pic_oa)), (a_pic_od, .inl (cI, 4, .inl pic_od)), (a_pic_st, .inl (cI, 4, .inl pic_st)), (a_crs, .inr (4, [.null, .ref q8, .ref q17, .null, .null, .int (0 : Int32), .int (0 : Int32), .int (0 : Int32), .int (0 : Int32), .int (0 : Int32), .int (0 : Int32), .int (0 : Int32), .int (0 : Int32)])), (q8, .inl (cI, 192, .inl (fun _ => 0))), (q17, .inl (cI, 192, .inl (fun _ => 0))), (q24, .inl (cI, 4, .inl (fun _ => 0)))] := hD
    refine va_putF (D := (dC, dI)) (ci := 4) (v := .ref q24) (ty := (.array .int)) (C := "ScanCoder$Course") (T := T_4) (N := 13) hx hb hts n0 ty_4 tyok_4 nm_4 hown hK hP hD hS 8 rfl rfl 3 (by decide) k6 (fun _ h9 => h9) rfl hin rfl (by decide +kernel) rfl rfl (Nat.le_of_ble_eq_true rfl) d_m114_26 (fun H locs hP hD hS => ?_)
    have hP : va_P (dC, dI) vwCl [(a_pic, .inr (8, [.ref a_pic_h, .ref a_pic_v, .ref a_pic_ac, .ref a_pic_dn, .ref a_pic_oa, .ref a_pic_od, .ref a_pic_st, .int pic_many, .int pic_unitsAcross, .int pic_unitsDown, .int pic_blocks, .ref a_pic_co])), (a_pic_h, .inl (cI, 4, .inl pic_h)), (a_pic_v, .inl (cI, 4, .inl pic_v)), (a_pic_ac, .inl (cI, 4, .inl pic_ac)), (a_pic_dn, .inl (cI, 4, .inl pic_dn)), (a_pic_oa, .inl (cI, 4, .inl pic_oa)), (a_pic_od, .inl (cI, 4, .inl pic_od)), (a_pic_st, .inl (cI, 4, .inl pic_st)), (a_crs, .inr (4, [.null, .ref q8, .ref q17, .ref q24, .null, .int (0 : Int32), .int (0 : Int32), .int (0 : Int32), .int (0 : Int32), .int (0 : Int32), .int (0 : Int32), .int (0 : Int32), .int (0 : Int32)])), (q8, .inl (cI, 192, .inl (fun _ => 0))), (q17, .inl (cI, 192, .inl (fun _ => 0))), (q24, .inl (cI, 4, .inl (fun _ => 0)))] H := hP
    have hD : va_D A [(a_pic, .inr (8, [.ref a_pic_h, .ref a_pic_v, .ref a_pic_ac, .ref a_pic_dn, .ref a_pic_oa, .ref a_pic_od, .ref a_pic_st, .int pic_many, .int pic_unitsAcross, .int pic_unitsDown, .int pic_blocks, .ref a_pic_co])), (a_pic_h, .inl (cI, 4, .inl pic_h)), (a_pic_v, .inl (cI, 4, .inl pic_v)), (a_pic_ac, .inl (cI, 4, .inl pic_ac)), (a_pic_dn, .inl (cI, 4, .inl pic_dn)), (a_pic_oa, .inl (cI, 4, .inl pic_oa)), (a_pic_od, .inl (cI, 4, .inl pic_od)), (a_pic_st, .inl (cI, 4, .inl pic_st)), (a_crs, .inr (4, [.null, .ref q8, .ref q17, .ref q24, .null, .int (0 : Int32), .int (0 : Int32), .int (0 : Int32), .int (0 : Int32), .int (0 : Int32), .int (0 : Int32), .int (0 : Int32), .int (0 : Int32)])), (q8, .inl (cI, 192, .inl (fun _ => 0))), (q17, .inl (cI, 192, .inl (fun _ => 0))), (q24, .inl (cI, 4, .inl (fun _ => 0)))] := hD
    refine lv_aload_n hx hb d_m114_29 rfl (lv_at hl 0 rfl) ?_
    refine lv_iconst (v := (4 : Int32)) hx hb d_m114_30 (by decide) ?_
    refine va_newa (atype := .int) (ty := .int) (a0 := (4, .inl (fun _ => 0))) (N' := 4) hx hb k3 rfl hK hP hD hS hA (fun _ => rfl) (by decide) (by decide) (by decide) (Nat.le_of_ble_eq_true rfl) (Nat.le_of_ble_eq_true rfl) d_m114_31 (fun q31 cA H hK1 hP hD hS => ?_)
    have hcA := g_cA (t0 := 0) hK rfl hK1
    subst hcA
    clear hK1
    refine W.widen (k := 4) (n := 392) (Nat.le_of_ble_eq_true rfl) (Nat.le_of_ble_eq_true rfl) ?_
    have hP : va_P (dC, dI) vwCl [(a_pic, .inr (8, [.ref a_pic_h, .ref a_pic_v, .ref a_pic_ac, .ref a_pic_dn, .ref a_pic_oa, .ref a_pic_od, .ref a_pic_st, .int pic_many, .int pic_unitsAcross, .int pic_unitsDown, .int pic_blocks, .ref a_pic_co])), (a_pic_h, .inl (cI, 4, .inl pic_h)), (a_pic_v, .inl (cI, 4, .inl pic_v)), (a_pic_ac, .inl (cI, 4, .inl pic_ac)), (a_pic_dn, .inl (cI, 4, .inl pic_dn)), (a_pic_oa, .inl (cI, 4, .inl pic_oa)), (a_pic_od, .inl (cI, 4, .inl pic_od)), (a_pic_st, .inl (cI, 4, .inl pic_st)), (a_crs, .inr (4, [.null, .ref q8, .ref q17, .ref q24, .null, .int (0 : Int32), .int (0 : Int32), .int (0 : Int32), .int (0 : Int32), .int (0 : Int32), .int (0 : Int32), .int (0 : Int32), .int (0 : Int32)])), (q8, .inl (cI, 192, .inl (fun _ => 0))), (q17, .inl (cI, 192, .inl (fun _ => 0))), (q24, .inl (cI, 4, .inl (fun _ => 0))), (q31, .inl (cI, 4, .inl (fun _ => 0)))] H := hP
    have hD : va_D A [(a_pic, .inr (8, [.ref a_pic_h, .ref a_pic_v, .ref a_pic_ac, .ref a_pic_dn, .ref a_pic_oa, .ref a_pic_od, .ref a_pic_st, .int pic_many, .int pic_unitsAcross, .int pic_unitsDown, .int pic_blocks, .ref a_pic_co])), (a_pic_h, .inl (cI, 4, .inl pic_h)), (a_pic_v, .inl (cI, 4, .inl pic_v)), (a_pic_ac, .inl (cI, 4, .inl pic_ac)), (a_pic_dn, .inl (cI, 4, .inl pic_dn)), (a_pic_oa, .inl (cI, 4, .inl pic_oa)), (a_pic_od, .inl (cI, 4, .inl pic_od)), (a_pic_st, .inl (cI, 4, .inl pic_st)), (a_crs, .inr (4, [.null, .ref q8, .ref q17, .ref q24, .null, .int (0 : Int32), .int (0 : Int32), .int (0 : Int32), .int (0 : Int32), .int (0 : Int32), .int (0 : Int32), .int (0 : Int32), .int (0 : Int32)])), (q8, .inl (cI, 192, .inl (fun _ => 0))), (q17, .inl (cI, 192, .inl (fun _ => 0))), (q24, .inl (cI, 4, .inl (fun _ => 0))), (q31, .inl (cI, 4, .inl (fun _ => 0)))] := hD
    refine va_putF (D := (dC, dI)) (ci := 4) (v := .ref q31) (ty := (.array .int)) (C := "ScanCoder$Course") (T := T_4) (N := 13) hx hb hts n0 ty_4 tyok_4 nm_4 hown hK hP hD hS 8 rfl rfl 4 (by decide) k7 (fun _ h9 => h9) rfl hin rfl (by decide +kernel) rfl rfl (Nat.le_of_ble_eq_true rfl) d_m114_33 (fun H locs hP hD hS => ?_)
    have hP : va_P (dC, dI) vwCl [(a_pic, .inr (8, [.ref a_pic_h, .ref a_pic_v, .ref a_pic_ac, .ref a_pic_dn, .ref a_pic_oa, .ref a_pic_od, .ref a_pic_st, .int pic_many, .int pic_unitsAcross, .int pic_unitsDown, .int pic_blocks, .ref a_pic_co])), (a_pic_h, .inl (cI, 4, .inl pic_h)), (a_pic_v, .inl (cI, 4, .inl pic_v)), (a_pic_ac, .inl (cI, 4, .inl pic_ac)), (a_pic_dn, .inl (cI, 4, .inl pic_dn)), (a_pic_oa, .inl (cI, 4, .inl pic_oa)), (a_pic_od, .inl (cI, 4, .inl pic_od)), (a_pic_st, .inl (cI, 4, .inl pic_st)), (a_crs, .inr (4, [.null, .ref q8, .ref q17, .ref q24, .ref q31, .int (0 : Int32), .int (0 : Int32), .int (0 : Int32), .int (0 : Int32), .int (0 : Int32), .int (0 : Int32), .int (0 : Int32), .int (0 : Int32)])), (q8, .inl (cI, 192, .inl (fun _ => 0))), (q17, .inl (cI, 192, .inl (fun _ => 0))), (q24, .inl (cI, 4, .inl (fun _ => 0))), (q31, .inl (cI, 4, .inl (fun _ => 0)))] H := hP
    have hD : va_D A [(a_pic, .inr (8, [.ref a_pic_h, .ref a_pic_v, .ref a_pic_ac, .ref a_pic_dn, .ref a_pic_oa, .ref a_pic_od, .ref a_pic_st, .int pic_many, .int pic_unitsAcross, .int pic_unitsDown, .int pic_blocks, .ref a_pic_co])), (a_pic_h, .inl (cI, 4, .inl pic_h)), (a_pic_v, .inl (cI, 4, .inl pic_v)), (a_pic_ac, .inl (cI, 4, .inl pic_ac)), (a_pic_dn, .inl (cI, 4, .inl pic_dn)), (a_pic_oa, .inl (cI, 4, .inl pic_oa)), (a_pic_od, .inl (cI, 4, .inl pic_od)), (a_pic_st, .inl (cI, 4, .inl pic_st)), (a_crs, .inr (4, [.null, .ref q8, .ref q17, .ref q24, .ref q31, .int (0 : Int32), .int (0 : Int32), .int (0 : Int32), .int (0 : Int32), .int (0 : Int32), .int (0 : Int32), .int (0 : Int32), .int (0 : Int32)])), (q8, .inl (cI, 192, .inl (fun _ => 0))), (q17, .inl (cI, 192, .inl (fun _ => 0))), (q24, .inl (cI, 4, .inl (fun _ => 0))), (q31, .inl (cI, 4, .inl (fun _ => 0)))] := hD
    refine lv_aload_n hx hb d_m114_36 rfl (lv_at hl 0 rfl) ?_
    refine lv_aload_n hx hb d_m114_37 rfl (lv_at hl 1 rfl) ?_
    refine va_putF (D := (dC, dI)) (ci := 4) (v := .ref a_pic) (ty := (.object "ScanCoder$Picture")) (C := "ScanCoder$Course") (T := T_4) (N := 13) hx hb hts n0 ty_4 tyok_4 nm_4 hown hK hP hD hS 8 rfl rfl 0 (by decide) k8 (fun _ h9 => h9) rfl hin rfl (by decide +kernel) rfl rfl (Nat.le_of_ble_eq_true rfl) d_m114_38 (fun H locs hP hD hS => ?_)
    have hP : va_P (dC, dI) vwCl [(a_pic, .inr (8, [.ref a_pic_h, .ref a_pic_v, .ref a_pic_ac, .ref a_pic_dn, .ref a_pic_oa, .ref a_pic_od, .ref a_pic_st, .int pic_many, .int pic_unitsAcross, .int pic_unitsDown, .int pic_blocks, .ref a_pic_co])), (a_pic_h, .inl (cI, 4, .inl pic_h)), (a_pic_v, .inl (cI, 4, .inl pic_v)), (a_pic_ac, .inl (cI, 4, .inl pic_ac)), (a_pic_dn, .inl (cI, 4, .inl pic_dn)), (a_pic_oa, .inl (cI, 4, .inl pic_oa)), (a_pic_od, .inl (cI, 4, .inl pic_od)), (a_pic_st, .inl (cI, 4, .inl pic_st)), (a_crs, .inr (4, [.ref a_pic, .ref q8, .ref q17, .ref q24, .ref q31, .int (0 : Int32), .int (0 : Int32), .int (0 : Int32), .int (0 : Int32), .int (0 : Int32), .int (0 : Int32), .int (0 : Int32), .int (0 : Int32)])), (q8, .inl (cI, 192, .inl (fun _ => 0))), (q17, .inl (cI, 192, .inl (fun _ => 0))), (q24, .inl (cI, 4, .inl (fun _ => 0))), (q31, .inl (cI, 4, .inl (fun _ => 0)))] H := hP
    have hD : va_D A [(a_pic, .inr (8, [.ref a_pic_h, .ref a_pic_v, .ref a_pic_ac, .ref a_pic_dn, .ref a_pic_oa, .ref a_pic_od, .ref a_pic_st, .int pic_many, .int pic_unitsAcross, .int pic_unitsDown, .int pic_blocks, .ref a_pic_co])), (a_pic_h, .inl (cI, 4, .inl pic_h)), (a_pic_v, .inl (cI, 4, .inl pic_v)), (a_pic_ac, .inl (cI, 4, .inl pic_ac)), (a_pic_dn, .inl (cI, 4, .inl pic_dn)), (a_pic_oa, .inl (cI, 4, .inl pic_oa)), (a_pic_od, .inl (cI, 4, .inl pic_od)), (a_pic_st, .inl (cI, 4, .inl pic_st)), (a_crs, .inr (4, [.ref a_pic, .ref q8, .ref q17, .ref q24, .ref q31, .int (0 : Int32), .int (0 : Int32), .int (0 : Int32), .int (0 : Int32), .int (0 : Int32), .int (0 : Int32), .int (0 : Int32), .int (0 : Int32)])), (q8, .inl (cI, 192, .inl (fun _ => 0))), (q17, .inl (cI, 192, .inl (fun _ => 0))), (q24, .inl (cI, 4, .inl (fun _ => 0))), (q31, .inl (cI, 4, .inl (fun _ => 0)))] := hD
    refine lv_aload_n hx hb d_m114_41 rfl (lv_at hl 0 rfl) ?_
    obtain ⟨z1, hz1, hf⟩ := ob_bind hf
    refine g_callv (wc := (w_Course_startAnew cI cB cS cT a_pic a_pic_h a_pic_v a_pic_ac a_pic_dn a_pic_oa a_pic_od a_pic_st a_crs q8 q17 q24 q31 a_pic_co pic_many pic_unitsAcross pic_unitsDown pic_blocks pic_h pic_v pic_ac pic_dn pic_oa pic_od pic_st (0 : Int32) (0 : Int32) (0 : Int32) (0 : Int32) (0 : Int32) (0 : Int32) (0 : Int32) (0 : Int32) (fun _ => 0) (fun _ => 0) (fun _ => 0) (fun _ => 0))) (w1 := (w_Course_startAnew cI cB cS cT a_pic a_pic_h a_pic_v a_pic_ac a_pic_dn a_pic_oa a_pic_od a_pic_st a_crs q8 q17 q24 q31 a_pic_co pic_many pic_unitsAcross pic_unitsDown pic_blocks pic_h pic_v pic_ac pic_dn pic_oa pic_od pic_st z1.1 z1.2.1 z1.2.2.1 z1.2.2.2.1 z1.2.2.2.2.1 z1.2.2.2.2.2.1 z1.2.2.2.2.2.2.1 z1.2.2.2.2.2.2.2.1 z1.2.2.2.2.2.2.2.2.1 z1.2.2.2.2.2.2.2.2.2.1 z1.2.2.2.2.2.2.2.2.2.2.1 z1.2.2.2.2.2.2.2.2.2.2.2)) (w2 := [(a_pic, .inr (8, [.ref a_pic_h, .ref a_pic_v, .ref a_pic_ac, .ref a_pic_dn, .ref a_pic_oa, .ref a_pic_od, .ref a_pic_st, .int pic_many, .int pic_unitsAcross, .int pic_unitsDown, .int pic_blocks, .ref a_pic_co])), (a_pic_h, .inl (cI, 4, .inl pic_h)), (a_pic_v, .inl (cI, 4, .inl pic_v)), (a_pic_ac, .inl (cI, 4, .inl pic_ac)), (a_pic_dn, .inl (cI, 4, .inl pic_dn)), (a_pic_oa, .inl (cI, 4, .inl pic_oa)), (a_pic_od, .inl (cI, 4, .inl pic_od)), (a_pic_st, .inl (cI, 4, .inl pic_st)), (a_crs, .inr (4, [.ref a_pic, .ref q8, .ref q17, .ref q24, .ref q31, .int z1.1, .int z1.2.1, .int z1.2.2.1, .int z1.2.2.2.1, .int z1.2.2.2.2.1, .int z1.2.2.2.2.2.1, .int z1.2.2.2.2.2.2.1, .int z1.2.2.2.2.2.2.2.1])), (q8, .inl (cI, 192, .inl z1.2.2.2.2.2.2.2.2.1)), (q17, .inl (cI, 192, .inl z1.2.2.2.2.2.2.2.2.2.1)), (q24, .inl (cI, 4, .inl z1.2.2.2.2.2.2.2.2.2.2.1)), (q31, .inl (cI, 4, .inl z1.2.2.2.2.2.2.2.2.2.2.2))]) [0, 1, 2, 3, 4, 5, 6, 7, 8, 9, 10, 11, 12] [some 0, some 1, some 2, some 3, some 4, some 5, some 6, some 7, some 8, some 9, some 10, some 11, some 12] hP hD hS hA rfl rfl rfl rfl (va_runV (As := []) (rest := []) ⟨hx, hb, hml, hown, hts⟩ (c_Course_startAnew l dC dI cI cB cS cT N a_pic a_pic_h a_pic_v a_pic_ac a_pic_dn a_pic_oa a_pic_od a_pic_st a_crs q8 q17 q24 q31 a_pic_co pic_many pic_unitsAcross pic_unitsDown pic_blocks pic_h pic_v pic_ac pic_dn pic_oa pic_od pic_st (0 : Int32) (0 : Int32) (0 : Int32) (0 : Int32) (0 : Int32) (0 : Int32) (0 : Int32) (0 : Int32) (fun _ => 0) (fun _ => 0) (fun _ => 0) (fun _ => 0) H.size z1 hz1) ⟨(callB_of 0 hts (gi tw_119 rfl) rfl rfl rfl (hts _ (List.mem_cons_of_mem _ tw_5)) (hts _ (List.mem_cons_of_mem _ tw_116)) (by decide +kernel) ⟨Nat.le_of_ble_eq_true rfl, Nat.le_of_ble_eq_true rfl⟩), hts _ (List.mem_cons_of_mem _ tw_117), hts _ (List.mem_cons_of_mem _ tw_118)⟩ ⟨g_blind, va_recv hK hP (ci := 4) (q0 := 8) rfl rfl, g_at hKN (g_pm hP [0, 1, 2, 3, 4, 5, 6, 7, 8, 9, 10, 11, 12] rfl) (hD.sub [0, 1, 2, 3, 4, 5, 6, 7, 8, 9, 10, 11, 12] (by decide) rfl)⟩ rfl rfl hl.1 rfl (lv_room (Nat.le_of_ble_eq_true rfl)) d_m114_42 ⟨Nat.le_of_ble_eq_true rfl, Nat.le_of_ble_eq_true rfl⟩) (fun H locs hP hD hS => ?_)
    refine W.eq (g2 := F0 m 45 ls []) rfl ?_
    obtain rfl := Option.some.inj hf
    subst hQ
    subst hAe
    exact W.vret hx hb hr (fun t ht hW => ⟨⟨(q8, q17, q24, q31), rfl, trivial, by rw [ht]; exact hP, hD⟩, hS.F ht⟩) hS.2.2 d_m114_45
  exact hgo _ _ hP hS

def f_Draft_init  : Option (Unit) :=
  some ()
def rm_Draft_init : Room := { frames := 1, cells := 3, slots := 529, locals := 12 }
set_option maxHeartbeats 1000000 in
set_option maxRecDepth 100000 in
theorem c_Draft_init (l : Launch) (dC : Nat → ClassId) (dI : Nat → Nat → Nat) (cI cB cS cT : ClassId) (a_drf : Nat) (sz : Nat) (z : Unit) (hf : f_Draft_init  = some z) : Met l y_m225 ws_m225 rm_Draft_init (gPre (dC, dI) [.ref a_drf] (gT cI cB cS cT) [(a_drf, .inr (6, [.null, .null, .null, .int (0 : Int32)]))] sz) (gQvA (dC, dI) (gT cI cB cS cT) (U := Nat × Nat × Nat) [(a_drf, .inr (6, [.null, .null, .null, .int (0 : Int32)]))] (fun u => [(a_drf, .inr (6, [.ref u.1, .ref u.2.1, .ref u.2.2, .int (0 : Int32)])), (u.1, .inl (cI, 17, .inl (fun _ => 0))), (u.2.1, .inl (cI, 256, .inl (fun _ => 0))), (u.2.2, .inl (cB, 256, .inl (fun _ => 0)))]) sz) 3 529 (va_A [(a_drf, .inr (6, [.null, .null, .null, .int (0 : Int32)]))] sz) := by
  refine Met.ofW (cc := prog_7_method_1_code) (maxL := 1) (ret := none) (by decide) rfl ?_
  intro p e s m args below meth c s₁ B hml hv
  obtain ⟨hargs, hsz, hP, hKN, hD0⟩ := hv
  have hK := hKN.1
  have hx := B.exec
  have hb := B.bytes
  have hr := B.returns
  have hts := atoms_spec (ws := ws_m225) B.pre
  have hown : s.vm.findClass "ScanCoder$Draft" = some m.cls := findClass_of_methodNamed B.named
  have hlocks := B.notSynchronized
  have hin : meth.name = "<init>" := (name_of_methodNamed B.named B.method).1
  have k0 := hts _ (List.mem_cons_of_mem _ tw_226)
  have k1 := hts _ (List.mem_cons_of_mem _ tw_24)
  have k2 := hts _ (List.mem_cons_of_mem _ tw_25)
  have k3 := hts _ (List.mem_cons_of_mem _ tw_108)
  have k4 := hts _ (List.mem_cons_of_mem _ tw_227)
  have k5 := hts _ (List.mem_cons_of_mem _ tw_229)
  have k6 := hts _ (List.mem_cons_of_mem _ tw_243)
  have k7 := hts _ (List.mem_cons_of_mem _ tw_231)
  have n0 : ∀ w ∈ u_ws "ScanCoder$Draft" T_6 4, w ∈ ws_m225 := fun w h => List.mem_cons_of_mem _ (in_6 w h)
  subst hsz
  have hD := hD0.self (sz := s.heap.size)
  obtain ⟨A, hAe⟩ : ∃ A : Nat → Prop, va_A [(a_drf, .inr (6, [.null, .null, .null, .int (0 : Int32)]))] s.heap.size = A := ⟨_, rfl⟩
  rw [hAe] at hD
  have hA : ∀ q : Nat, s.heap.size ≤ q → A q := fun q h => by rw [← hAe]; exact Or.inr h
  have hS : va_S A s.heap s.heap [] := va_S.rf
  have hl := lv_entry ([.ref a_drf]) (n := 1) (Nat.le_of_ble_eq_true rfl)
  have hfr : entryFrame m args 1 = F0 m 0 ((lg_sl ([.ref a_drf]) ++ List.replicate (1 - (lg_sl ([.ref a_drf])).length) Slot.unset).toArray) [] := by rw [hargs]; exact lg_entry_eq _ _ _
  rw [hfr]
  generalize (lg_sl ([.ref a_drf]) ++ List.replicate (1 - (lg_sl ([.ref a_drf])).length) Slot.unset).toArray = ls at hl ⊢
  have hl : lv_has ls 1 [(0, .ref a_drf)] := hl
  refine gen_Q (fun Q hQ => ?_)
  clear hfr
  have hgo : ∀ (H : Heap) (locs : List Loc), va_P (dC, dI) vwCl [(a_drf, .inr (6, [.null, .null, .null, .int (0 : Int32)]))] H → va_S A s.heap H locs → W p l e (headSpec ws_m225 rm_Draft_init).room s m args below meth c H locs 0 0 Q (F0 m 0 ls []) := by
    intro H locs hP hS
    unfold f_Draft_init at hf
    refine lv_aload_n hx hb d_m225_0 rfl (lv_at hl 0 rfl) ?_
    refine W.objInit hx hb hown k0 k1 k2 rfl (by rw [hml]; exact hl.1) rfl d_m225_1 (Nat.le_of_ble_eq_true rfl) (Nat.le_of_ble_eq_true rfl) ?_
    refine W.eq (g2 := F0 m 4 ls []) rfl ?_
    refine lv_aload_n hx hb d_m225_4 rfl (lv_at hl 0 rfl) ?_
    refine lv_bipush (v := (17 : Int32)) hx hb d_m225_5 (by decide) ?_
    refine va_newa (atype := .int) (ty := .int) (a0 := (17, .inl (fun _ => 0))) (N' := 17) hx hb k3 rfl hK hP hD hS hA (fun _ => rfl) (by decide) (by decide) (by decide) (Nat.le_of_ble_eq_true rfl) (Nat.le_of_ble_eq_true rfl) d_m225_7 (fun q7 cA H hK1 hP hD hS => ?_)
    have hcA := g_cA (t0 := 0) hK rfl hK1
    subst hcA
    clear hK1
    refine W.widen (k := 1) (n := 17) (Nat.le_of_ble_eq_true rfl) (Nat.le_of_ble_eq_true rfl) ?_
    have hP : va_P (dC, dI) vwCl [(a_drf, .inr (6, [.null, .null, .null, .int (0 : Int32)])), (q7, .inl (cI, 17, .inl (fun _ => 0)))] H := hP
    have hD : va_D A [(a_drf, .inr (6, [.null, .null, .null, .int (0 : Int32)])), (q7, .inl (cI, 17, .inl (fun _ => 0)))] := hD
    refine va_putF (D := (dC, dI)) (ci := 6) (v := .ref q7) (ty := (.array .int)) (C := "ScanCoder$Draft") (T := T_6) (N := 4) hx hb hts n0 ty_6 tyok_6 nm_6 hown hK hP hD hS 0 rfl rfl 0 (by decide) k4 (fun _ h9 => h9) rfl hin rfl (by decide +kernel) rfl rfl (Nat.le_of_ble_eq_true rfl) d_m225_9 (fun H locs hP hD hS => ?_)
    have hP : va_P (dC, dI) vwCl [(a_drf, .inr (6, [.ref q7, .null, .null, .int (0 : Int32)])), (q7, .inl (cI, 17, .inl (fun _ => 0)))] H := hP
    have hD : va_D A [(a_drf, .inr (6, [.ref q7, .null, .null, .int (0 : Int32)])), (q7, .inl (cI, 17, .inl (fun _ => 0)))] := hD
    refine lv_aload_n hx hb d_m225_12 rfl (lv_at hl 0 rfl) ?_
    refine lv_sipush (v := (256 : Int32)) hx hb d_m225_13 (by decide) ?_
    refine va_newa (atype := .int) (ty := .int) (a0 := (256, .inl (fun _ => 0))) (N' := 256) hx hb k3 rfl hK hP hD hS hA (fun _ => rfl) (by decide) (by decide) (by decide) (Nat.le_of_ble_eq_true rfl) (Nat.le_of_ble_eq_true rfl) d_m225_16 (fun q16 cA H hK1 hP hD hS => ?_)
    have hcA := g_cA (t0 := 0) hK rfl hK1
    subst hcA
    clear hK1
    refine W.widen (k := 2) (n := 273) (Nat.le_of_ble_eq_true rfl) (Nat.le_of_ble_eq_true rfl) ?_
    have hP : va_P (dC, dI) vwCl [(a_drf, .inr (6, [.ref q7, .null, .null, .int (0 : Int32)])), (q7, .inl (cI, 17, .inl (fun _ => 0))), (q16, .inl (cI, 256, .inl (fun _ => 0)))] H := hP
    have hD : va_D A [(a_drf, .inr (6, [.ref q7, .null, .null, .int (0 : Int32)])), (q7, .inl (cI, 17, .inl (fun _ => 0))), (q16, .inl (cI, 256, .inl (fun _ => 0)))] := hD
    refine va_putF (D := (dC, dI)) (ci := 6) (v := .ref q16) (ty := (.array .int)) (C := "ScanCoder$Draft") (T := T_6) (N := 4) hx hb hts n0 ty_6 tyok_6 nm_6 hown hK hP hD hS 0 rfl rfl 1 (by decide) k5 (fun _ h9 => h9) rfl hin rfl (by decide +kernel) rfl rfl (Nat.le_of_ble_eq_true rfl) d_m225_18 (fun H locs hP hD hS => ?_)
    have hP : va_P (dC, dI) vwCl [(a_drf, .inr (6, [.ref q7, .ref q16, .null, .int (0 : Int32)])), (q7, .inl (cI, 17, .inl (fun _ => 0))), (q16, .inl (cI, 256, .inl (fun _ => 0)))] H := hP
    have hD : va_D A [(a_drf, .inr (6, [.ref q7, .ref q16, .null, .int (0 : Int32)])), (q7, .inl (cI, 17, .inl (fun _ => 0))), (q16, .inl (cI, 256, .inl (fun _ => 0)))] := hD
    refine lv_aload_n hx hb d_m225_21 rfl (lv_at hl 0 rfl) ?_
    refine lv_sipush (v := (256 : Int32)) hx hb d_m225_22 (by decide) ?_
    refine va_newa (atype := .byte) (ty := .byte) (a0 := (256, .inl (fun _ => 0))) (N' := 256) hx hb k6 rfl hK hP hD hS hA (fun _ => rfl) (by decide) (by decide) (by decide) (Nat.le_of_ble_eq_true rfl) (Nat.le_of_ble_eq_true rfl) d_m225_25 (fun q25 cA H hK1 hP hD hS => ?_)
    have hcA := g_cA (t0 := 1) hK rfl hK1
    subst hcA
    clear hK1
    refine W.widen (k := 3) (n := 529) (Nat.le_of_ble_eq_true rfl) (Nat.le_of_ble_eq_true rfl) ?_
    have hP : va_P (dC, dI) vwCl [(a_drf, .inr (6, [.ref q7, .ref q16, .null, .int (0 : Int32)])), (q7, .inl (cI, 17, .inl (fun _ => 0))), (q16, .inl (cI, 256, .inl (fun _ => 0))), (q25, .inl (cB, 256, .inl (fun _ => 0)))] H := hP
    have hD : va_D A [(a_drf, .inr (6, [.ref q7, .ref q16, .null, .int (0 : Int32)])), (q7, .inl (cI, 17, .inl (fun _ => 0))), (q16, .inl (cI, 256, .inl (fun _ => 0))), (q25, .inl (cB, 256, .inl (fun _ => 0)))] := hD
    refine va_putF (D := (dC, dI)) (ci := 6) (v := .ref q25) (ty := (.array .byte)) (C := "ScanCoder$Draft") (T := T_6) (N := 4) hx hb hts n0 ty_6 tyok_6 nm_6 hown hK hP hD hS 0 rfl rfl 2 (by decide) k7 (fun _ h9 => h9) rfl hin rfl (by decide +kernel) rfl rfl (Nat.le_of_ble_eq_true rfl) d_m225_27 (fun H locs hP hD hS => ?_)
    have hP : va_P (dC, dI) vwCl [(a_drf, .inr (6, [.ref q7, .ref q16, .ref q25, .int (0 : Int32)])), (q7, .inl (cI, 17, .inl (fun _ => 0))), (q16, .inl (cI, 256, .inl (fun _ => 0))), (q25, .inl (cB, 256, .inl (fun _ => 0)))] H := hP
    have hD : va_D A [(a_drf, .inr (6, [.ref q7, .ref q16, .ref q25, .int (0 : Int32)])), (q7, .inl (cI, 17, .inl (fun _ => 0))), (q16, .inl (cI, 256, .inl (fun _ => 0))), (q25, .inl (cB, 256, .inl (fun _ => 0)))] := hD
    obtain rfl := Option.some.inj hf
    subst hQ
    subst hAe
    exact W.vret hx hb hr (fun t ht hW => ⟨⟨(q7, q16, q25), rfl, trivial, by rw [ht]; exact hP, hD⟩, hS.F ht⟩) hS.2.2 d_m225_30
  exact hgo _ _ hP hS

def f_Table_init  : Option (Unit) :=
  some ()
def rm_Table_init : Room := { frames := 1, cells := 4, slots := 547, locals := 12 }
set_option maxHeartbeats 1000000 in
set_option maxRecDepth 100000 in
theorem c_Table_init (l : Launch) (dC : Nat → ClassId) (dI : Nat → Nat → Nat) (cI cB cS cT : ClassId) (a_tab : Nat) (sz : Nat) (z : Unit) (hf : f_Table_init  = some z) : Met l y_m249 ws_m249 rm_Table_init (gPre (dC, dI) [.ref a_tab] (gT cI cB cS cT) [(a_tab, .inr (10, [.null, .null, .null, .null, .int (0 : Int32), .int (0 : Int32)]))] sz) (gQvA (dC, dI) (gT cI cB cS cT) (U := Nat × Nat × Nat × Nat) [(a_tab, .inr (10, [.null, .null, .null, .null, .int (0 : Int32), .int (0 : Int32)]))] (fun u => [(a_tab, .inr (10, [.ref u.1, .ref u.2.1, .ref u.2.2.1, .ref u.2.2.2, .int (0 : Int32), .int (0 : Int32)])), (u.1, .inl (cI, 256, .inl (fun _ => 0))), (u.2.1, .inl (cI, 256, .inl (fun _ => 0))), (u.2.2.1, .inl (cI, 17, .inl (fun _ => 0))), (u.2.2.2, .inl (cI, 18, .inl (fun _ => 0)))]) sz) 4 547 (va_A [(a_tab, .inr (10, [.null, .null, .null, .null, .int (0 : Int32), .int (0 : Int32)]))] sz) := by
  refine Met.ofW (cc := prog_12_method_1_code) (maxL := 1) (ret := none) (by decide) rfl ?_
  intro p e s m args below meth c s₁ B hml hv
  obtain ⟨hargs, hsz, hP, hKN, hD0⟩ := hv
  have hK := hKN.1
  have hx := B.exec
  have hb := B.bytes
  have hr := B.returns
  have hts := atoms_spec (ws := ws_m249) B.pre
  have hown : s.vm.findClass "ScanCoder$Table" = some m.cls := findClass_of_methodNamed B.named
  have hlocks := B.notSynchronized
  have hin : meth.name = "<init>" := (name_of_methodNamed B.named B.method).1
  have k0 := hts _ (List.mem_cons_of_mem _ tw_250)
  have k1 := hts _ (List.mem_cons_of_mem _ tw_24)
  have k2 := hts _ (List.mem_cons_of_mem _ tw_25)
  have k3 := hts _ (List.mem_cons_of_mem _ tw_108)
  have k4 := hts _ (List.mem_cons_of_mem _ tw_251)
  have k5 := hts _ (List.mem_cons_of_mem _ tw_253)
  have k6 := hts _ (List.mem_cons_of_mem _ tw_254)
  have k7 := hts _ (List.mem_cons_of_mem _ tw_255)
  have n0 : ∀ w ∈ u_ws "ScanCoder$Table" T_10 6, w ∈ ws_m249 := fun w h => List.mem_cons_of_mem _ (in_10 w h)
  subst hsz
  have hD := hD0.self (sz := s.heap.size)
  obtain ⟨A, hAe⟩ : ∃ A : Nat → Prop, va_A [(a_tab, .inr (10, [.null, .null, .null, .null, .int (0 : Int32), .int (0 : Int32)]))] s.heap.size = A := ⟨_, rfl⟩
  rw [hAe] at hD
  have hA : ∀ q : Nat, s.heap.size ≤ q → A q := fun q h => by rw [← hAe]; exact Or.inr h
  have hS : va_S A s.heap s.heap [] := va_S.rf
  have hl := lv_entry ([.ref a_tab]) (n := 1) (Nat.le_of_ble_eq_true rfl)
  have hfr : entryFrame m args 1 = F0 m 0 ((lg_sl ([.ref a_tab]) ++ List.replicate (1 - (lg_sl ([.ref a_tab])).length) Slot.unset).toArray) [] := by rw [hargs]; exact lg_entry_eq _ _ _
  rw [hfr]
  generalize (lg_sl ([.ref a_tab]) ++ List.replicate (1 - (lg_sl ([.ref a_tab])).length) Slot.unset).toArray = ls at hl ⊢
  have hl : lv_has ls 1 [(0, .ref a_tab)] := hl
  refine gen_Q (fun Q hQ => ?_)
  clear hfr
  have hgo : ∀ (H : Heap) (locs : List Loc), va_P (dC, dI) vwCl [(a_tab, .inr (10, [.null, .null, .null, .null, .int (0 : Int32), .int (0 : Int32)]))] H → va_S A s.heap H locs → W p l e (headSpec ws_m249 rm_Table_init).room s m args below meth c H locs 0 0 Q (F0 m 0 ls []) := by
    intro H locs hP hS
    unfold f_Table_init at hf
    refine lv_aload_n hx hb d_m249_0 rfl (lv_at hl 0 rfl) ?_
    refine W.objInit hx hb hown k0 k1 k2 rfl (by rw [hml]; exact hl.1) rfl d_m249_1 (Nat.le_of_ble_eq_true rfl) (Nat.le_of_ble_eq_true rfl) ?_
    refine W.eq (g2 := F0 m 4 ls []) rfl ?_
    refine lv_aload_n hx hb d_m249_4 rfl (lv_at hl 0 rfl) ?_
    refine lv_sipush (v := (256 : Int32)) hx hb d_m249_5 (by decide) ?_
    refine va_newa (atype := .int) (ty := .int) (a0 := (256, .inl (fun _ => 0))) (N' := 256) hx hb k3 rfl hK hP hD hS hA (fun _ => rfl) (by decide) (by decide) (by decide) (Nat.le_of_ble_eq_true rfl) (Nat.le_of_ble_eq_true rfl) d_m249_8 (fun q8 cA H hK1 hP hD hS => ?_)
    have hcA := g_cA (t0 := 0) hK rfl hK1
    subst hcA
    clear hK1
    refine W.widen (k := 1) (n := 256) (Nat.le_of_ble_eq_true rfl) (Nat.le_of_ble_eq_true rfl) ?_
    have hP : va_P (dC, dI) vwCl [(a_tab, .inr (10, [.null, .null, .null, .null, .int (0 : Int32), .int (0 : Int32)])), (q8, .inl (cI, 256, .inl (fun _ => 0)))] H := hP
    have hD : va_D A [(a_tab, .inr (10, [.null, .null, .null, .null, .int (0 : Int32), .int (0 : Int32)])), (q8, .inl (cI, 256, .inl (fun _ => 0)))] := hD
    refine va_putF (D := (dC, dI)) (ci := 10) (v := .ref q8) (ty := (.array .int)) (C := "ScanCoder$Table") (T := T_10) (N := 6) hx hb hts n0 ty_10 tyok_10 nm_10 hown hK hP hD hS 0 rfl rfl 0 (by decide) k4 (fun _ h9 => h9) rfl hin rfl (by decide +kernel) rfl rfl (Nat.le_of_ble_eq_true rfl) d_m249_10 (fun H locs hP hD hS => ?_)
    have hP : va_P (dC, dI) vwCl [(a_tab, .inr (10, [.ref q8, .null, .null, .null, .int (0 : Int32), .int (0 : Int32)])), (q8, .inl (cI, 256, .inl (fun _ => 0)))] H := hP
    have hD : va_D A [(a_tab, .inr (10, [.ref q8, .null, .null, .null, .int (0 : Int32), .int (0 : Int32)])), (q8, .inl (cI, 256, .inl (fun _ => 0)))] := hD
    refine lv_aload_n hx hb d_m249_13 rfl (lv_at hl 0 rfl) ?_
    refine lv_sipush (v := (256 : Int32)) hx hb d_m249_14 (by decide) ?_
    refine va_newa (atype := .int) (ty := .int) (a0 := (256, .inl (fun _ => 0))) (N' := 256) hx hb k3 rfl hK hP hD hS hA (fun _ => rfl) (by decide) (by decide) (by decide) (Nat.le_of_ble_eq_true rfl) (Nat.le_of_ble_eq_true rfl) d_m249_17 (fun q17 cA H hK1 hP hD hS => ?_)
    have hcA := g_cA (t0 := 0) hK rfl hK1
    subst hcA
    clear hK1
    refine W.widen (k := 2) (n := 512) (Nat.le_of_ble_eq_true rfl) (Nat.le_of_ble_eq_true rfl) ?_
    have hP : va_P (dC, dI) vwCl [(a_tab, .inr (10, [.ref q8, .null, .null, .null, .int (0 : Int32), .int (0 : Int32)])), (q8, .inl (cI, 256, .inl (fun _ => 0))), (q17, .inl (cI, 256, .inl (fun _ => 0)))] H := hP
    have hD : va_D A [(a_tab, .inr (10, [.ref q8, .null, .null, .null, .int (0 : Int32), .int (0 : Int32)])), (q8, .inl (cI, 256, .inl (fun _ => 0))), (q17, .inl (cI, 256, .inl (fun _ => 0)))] := hD
    refine va_putF (D := (dC, dI)) (ci := 10) (v := .ref q17) (ty := (.array .int)) (C := "ScanCoder$Table") (T := T_10) (N := 6) hx hb hts n0 ty_10 tyok_10 nm_10 hown hK hP hD hS 0 rfl rfl 1 (by decide) k5 (fun _ h9 => h9) rfl hin rfl (by decide +kernel) rfl rfl (Nat.le_of_ble_eq_true rfl) d_m249_19 (fun H locs hP hD hS => ?_)
    have hP : va_P (dC, dI) vwCl [(a_tab, .inr (10, [.ref q8, .ref q17, .null, .null, .int (0 : Int32), .int (0 : Int32)])), (q8, .inl (cI, 256, .inl (fun _ => 0))), (q17, .inl (cI, 256, .inl (fun _ => 0)))] H := hP
    have hD : va_D A [(a_tab, .inr (10, [.ref q8, .ref q17, .null, .null, .int (0 : Int32), .int (0 : Int32)])), (q8, .inl (cI, 256, .inl (fun _ => 0))), (q17, .inl (cI, 256, .inl (fun _ => 0)))] := hD
    refine lv_aload_n hx hb d_m249_22 rfl (lv_at hl 0 rfl) ?_
    refine lv_bipush (v := (17 : Int32)) hx hb d_m249_23 (by decide) ?_
    refine va_newa (atype := .int) (ty := .int) (a0 := (17, .inl (fun _ => 0))) (N' := 17) hx hb k3 rfl hK hP hD hS hA (fun _ => rfl) (by decide) (by decide) (by decide) (Nat.le_of_ble_eq_true rfl) (Nat.le_of_ble_eq_true rfl) d_m249_25 (fun q25 cA H hK1 hP hD hS => ?_)
    have hcA := g_cA (t0 := 0) hK rfl hK1
    subst hcA
    clear hK1
    refine W.widen (k := 3) (n := 529) (Nat.le_of_ble_eq_true rfl) (Nat.le_of_ble_eq_true rfl) ?_
    have hP : va_P (dC, dI) vwCl [(a_tab, .inr (10, [.ref q8, .ref q17, .null, .null, .int (0 : Int32), .int (0 : Int32)])), (q8, .inl (cI, 256, .inl (fun _ => 0))), (q17, .inl (cI, 256, .inl (fun _ => 0))), (q25, .inl (cI, 17, .inl (fun _ => 0)))] H := hP
    have hD : va_D A [(a_tab, .inr (10, [.ref q8, .ref q17, .null, .null, .int (0 : Int32), .int (0 : Int32)])), (q8, .inl (cI, 256, .inl (fun _ => 0))), (q17, .inl (cI, 256, .inl (fun _ => 0))), (q25, .inl (cI, 17, .inl (fun _ => 0)))] := hD
    refine va_putF (D := (dC, dI)) (ci := 10) (v := .ref q25) (ty := (.array .int)) (C := "ScanCoder$Table") (T := T_10) (N := 6) hx hb hts n0 ty_10 tyok_10 nm_10 hown hK hP hD hS 0 rfl rfl 2 (by decide) k6 (fun _ h9 => h9) rfl hin rfl (by decide +kernel) rfl rfl (Nat.le_of_ble_eq_true rfl) d_m249_27 (fun H locs hP hD hS => ?_)
    have hP : va_P (dC, dI) vwCl [(a_tab, .inr (10, [.ref q8, .ref q17, .ref q25, .null, .int (0 : Int32), .int (0 : Int32)])), (q8, .inl (cI, 256, .inl (fun _ => 0))), (q17, .inl (cI, 256, .inl (fun _ => 0))), (q25, .inl (cI, 17, .inl (fun _ => 0)))] H := hP
    have hD : va_D A [(a_tab, .inr (10, [.ref q8, .ref q17, .ref q25, .null, .int (0 : Int32), .int (0 : Int32)])), (q8, .inl (cI, 256, .inl (fun _ => 0))), (q17, .inl (cI, 256, .inl (fun _ => 0))), (q25, .inl (cI, 17, .inl (fun _ => 0)))] := hD
    refine lv_aload_n hx hb d_m249_30 rfl (lv_at hl 0 rfl) ?_
    refine lv_bipush (v := (18 : Int32)) hx hb d_m249_31 (by decide) ?_
    refine va_newa (atype := .int) (ty := .int) (a0 := (18, .inl (fun _ => 0))) (N' := 18) hx hb k3 rfl hK hP hD hS hA (fun _ => rfl) (by decide) (by decide) (by decide) (Nat.le_of_ble_eq_true rfl) (Nat.le_of_ble_eq_true rfl) d_m249_33 (fun q33 cA H hK1 hP hD hS => ?_)
    have hcA := g_cA (t0 := 0) hK rfl hK1
    subst hcA
    clear hK1
    refine W.widen (k := 4) (n := 547) (Nat.le_of_ble_eq_true rfl) (Nat.le_of_ble_eq_true rfl) ?_
    have hP : va_P (dC, dI) vwCl [(a_tab, .inr (10, [.ref q8, .ref q17, .ref q25, .null, .int (0 : Int32), .int (0 : Int32)])), (q8, .inl (cI, 256, .inl (fun _ => 0))), (q17, .inl (cI, 256, .inl (fun _ => 0))), (q25, .inl (cI, 17, .inl (fun _ => 0))), (q33, .inl (cI, 18, .inl (fun _ => 0)))] H := hP
    have hD : va_D A [(a_tab, .inr (10, [.ref q8, .ref q17, .ref q25, .null, .int (0 : Int32), .int (0 : Int32)])), (q8, .inl (cI, 256, .inl (fun _ => 0))), (q17, .inl (cI, 256, .inl (fun _ => 0))), (q25, .inl (cI, 17, .inl (fun _ => 0))), (q33, .inl (cI, 18, .inl (fun _ => 0)))] := hD
    refine va_putF (D := (dC, dI)) (ci := 10) (v := .ref q33) (ty := (.array .int)) (C := "ScanCoder$Table") (T := T_10) (N := 6) hx hb hts n0 ty_10 tyok_10 nm_10 hown hK hP hD hS 0 rfl rfl 3 (by decide) k7 (fun _ h9 => h9) rfl hin rfl (by decide +kernel) rfl rfl (Nat.le_of_ble_eq_true rfl) d_m249_35 (fun H locs hP hD hS => ?_)
    have hP : va_P (dC, dI) vwCl [(a_tab, .inr (10, [.ref q8, .ref q17, .ref q25, .ref q33, .int (0 : Int32), .int (0 : Int32)])), (q8, .inl (cI, 256, .inl (fun _ => 0))), (q17, .inl (cI, 256, .inl (fun _ => 0))), (q25, .inl (cI, 17, .inl (fun _ => 0))), (q33, .inl (cI, 18, .inl (fun _ => 0)))] H := hP
    have hD : va_D A [(a_tab, .inr (10, [.ref q8, .ref q17, .ref q25, .ref q33, .int (0 : Int32), .int (0 : Int32)])), (q8, .inl (cI, 256, .inl (fun _ => 0))), (q17, .inl (cI, 256, .inl (fun _ => 0))), (q25, .inl (cI, 17, .inl (fun _ => 0))), (q33, .inl (cI, 18, .inl (fun _ => 0)))] := hD
    obtain rfl := Option.some.inj hf
    subst hQ
    subst hAe
    exact W.vret hx hb hr (fun t ht hW => ⟨⟨(q8, q17, q25, q33), rfl, trivial, by rw [ht]; exact hP, hD⟩, hS.F ht⟩) hS.2.2 d_m249_38
  exact hgo _ _ hP hS

def f_Store_init  : Option (Unit) :=
  some ()
def rm_Store_init : Room := { frames := 1, cells := 1, slots := 64, locals := 12 }
set_option maxHeartbeats 1000000 in
set_option maxRecDepth 100000 in
theorem c_Store_init (l : Launch) (dC : Nat → ClassId) (dI : Nat → Nat → Nat) (cI cB cS cT : ClassId) (a_sto : Nat) (sz : Nat) (z : Unit) (hf : f_Store_init  = some z) : Met l y_m276 ws_m276 rm_Store_init (gPre (dC, dI) [.ref a_sto] (gT cI cB cS cT) [(a_sto, .inr (9, [.null, .int (0 : Int32)]))] sz) (gQvA (dC, dI) (gT cI cB cS cT) (U := Nat) [(a_sto, .inr (9, [.null, .int (0 : Int32)]))] (fun u => [(a_sto, .inr (9, [.ref u, .int (0 : Int32)])), (u, .inl (cB, 64, .inl (fun _ => 0)))]) sz) 1 64 (va_A [(a_sto, .inr (9, [.null, .int (0 : Int32)]))] sz) := by
  refine Met.ofW (cc := prog_11_method_1_code) (maxL := 1) (ret := none) (by decide) rfl ?_
  intro p e s m args below meth c s₁ B hml hv
  obtain ⟨hargs, hsz, hP, hKN, hD0⟩ := hv
  have hK := hKN.1
  have hx := B.exec
  have hb := B.bytes
  have hr := B.returns
  have hts := atoms_spec (ws := ws_m276) B.pre
  have hown : s.vm.findClass "ScanCoder$Store" = some m.cls := findClass_of_methodNamed B.named
  have hlocks := B.notSynchronized
  have hin : meth.name = "<init>" := (name_of_methodNamed B.named B.method).1
  have k0 := hts _ (List.mem_cons_of_mem _ tw_277)
  have k1 := hts _ (List.mem_cons_of_mem _ tw_24)
  have k2 := hts _ (List.mem_cons_of_mem _ tw_25)
  have k3 := hts _ (List.mem_cons_of_mem _ tw_243)
  have k4 := hts _ (List.mem_cons_of_mem _ tw_278)
  have n0 : ∀ w ∈ u_ws "ScanCoder$Store" T_9 2, w ∈ ws_m276 := fun w h => List.mem_cons_of_mem _ (in_9 w h)
  subst hsz
  have hD := hD0.self (sz := s.heap.size)
  obtain ⟨A, hAe⟩ : ∃ A : Nat → Prop, va_A [(a_sto, .inr (9, [.null, .int (0 : Int32)]))] s.heap.size = A := ⟨_, rfl⟩
  rw [hAe] at hD
  have hA : ∀ q : Nat, s.heap.size ≤ q → A q := fun q h => by rw [← hAe]; exact Or.inr h
  have hS : va_S A s.heap s.heap [] := va_S.rf
  have hl := lv_entry ([.ref a_sto]) (n := 1) (Nat.le_of_ble_eq_true rfl)
  have hfr : entryFrame m args 1 = F0 m 0 ((lg_sl ([.ref a_sto]) ++ List.replicate (1 - (lg_sl ([.ref a_sto])).length) Slot.unset).toArray) [] := by rw [hargs]; exact lg_entry_eq _ _ _
  rw [hfr]
  generalize (lg_sl ([.ref a_sto]) ++ List.replicate (1 - (lg_sl ([.ref a_sto])).length) Slot.unset).toArray = ls at hl ⊢
  have hl : lv_has ls 1 [(0, .ref a_sto)] := hl
  refine gen_Q (fun Q hQ => ?_)
  clear hfr
  have hgo : ∀ (H : Heap) (locs : List Loc), va_P (dC, dI) vwCl [(a_sto, .inr (9, [.null, .int (0 : Int32)]))] H → va_S A s.heap H locs → W p l e (headSpec ws_m276 rm_Store_init).room s m args below meth c H locs 0 0 Q (F0 m 0 ls []) := by
    intro H locs hP hS
    unfold f_Store_init at hf
    refine lv_aload_n hx hb d_m276_0 rfl (lv_at hl 0 rfl) ?_
    refine W.objInit hx hb hown k0 k1 k2 rfl (by rw [hml]; exact hl.1) rfl d_m276_1 (Nat.le_of_ble_eq_true rfl) (Nat.le_of_ble_eq_true rfl) ?_
    refine W.eq (g2 := F0 m 4 ls []) rfl ?_
    refine lv_aload_n hx hb d_m276_4 rfl (lv_at hl 0 rfl) ?_
    refine lv_bipush (v := (64 : Int32)) hx hb d_m276_5 (by decide) ?_
    refine va_newa (atype := .byte) (ty := .byte) (a0 := (64, .inl (fun _ => 0))) (N' := 64) hx hb k3 rfl hK hP hD hS hA (fun _ => rfl) (by decide) (by decide) (by decide) (Nat.le_of_ble_eq_true rfl) (Nat.le_of_ble_eq_true rfl) d_m276_7 (fun q7 cA H hK1 hP hD hS => ?_)
    have hcA := g_cA (t0 := 1) hK rfl hK1
    subst hcA
    clear hK1
    refine W.widen (k := 1) (n := 64) (Nat.le_of_ble_eq_true rfl) (Nat.le_of_ble_eq_true rfl) ?_
    have hP : va_P (dC, dI) vwCl [(a_sto, .inr (9, [.null, .int (0 : Int32)])), (q7, .inl (cB, 64, .inl (fun _ => 0)))] H := hP
    have hD : va_D A [(a_sto, .inr (9, [.null, .int (0 : Int32)])), (q7, .inl (cB, 64, .inl (fun _ => 0)))] := hD
    refine va_put (D := (dC, dI)) (ci := 9) (v := .ref q7) (ty := (.array .byte)) (C := "ScanCoder$Store") (T := T_9) (N := 2) hx hb hts n0 ty_9 tyok_9 nm_9 hown hK hP hD hS 0 rfl rfl 0 (by decide) k4 (fun _ h9 => h9) rfl (by decide +kernel) rfl rfl (Nat.le_of_ble_eq_true rfl) d_m276_9 (fun H locs hP hD hS => ?_)
    have hP : va_P (dC, dI) vwCl [(a_sto, .inr (9, [.ref q7, .int (0 : Int32)])), (q7, .inl (cB, 64, .inl (fun _ => 0)))] H := hP
    have hD : va_D A [(a_sto, .inr (9, [.ref q7, .int (0 : Int32)])), (q7, .inl (cB, 64, .inl (fun _ => 0)))] := hD
    obtain rfl := Option.some.inj hf
    subst hQ
    subst hAe
    exact W.vret hx hb hr (fun t ht hW => ⟨⟨q7, rfl, trivial, by rw [ht]; exact hP, hD⟩, hS.F ht⟩) hS.2.2 d_m276_12
  exact hgo _ _ hP hS

def f_Counter_init  : Option (Unit) :=
  (f_Sink_init ).bind fun z1 =>
  some ()
def rm_Counter_init : Room := { frames := 2, cells := 1, slots := 2048, locals := 32 }
set_option maxHeartbeats 1000000 in
set_option maxRecDepth 100000 in
theorem c_Counter_init (l : Launch) (dC : Nat → ClassId) (dI : Nat → Nat → Nat) (cI cB cS cT : ClassId) (a_cnt : Nat) (sz : Nat) (z : Unit) (hf : f_Counter_init  = some z) : Met l y_m293 ws_m293 rm_Counter_init (gPre (dC, dI) [.ref a_cnt] (gT cI cB cS cT) [(a_cnt, .inr (3, [.null, .int (0 : Int32)]))] sz) (gQvA (dC, dI) (gT cI cB cS cT) (U := Nat) [(a_cnt, .inr (3, [.null, .int (0 : Int32)]))] (fun u => [(a_cnt, .inr (3, [.ref u, .int (0 : Int32)])), (u, .inl (cI, 2048, .inl (fun _ => 0)))]) sz) 1 2048 (va_A [(a_cnt, .inr (3, [.null, .int (0 : Int32)]))] sz) := by
  refine Met.ofW (cc := prog_4_method_1_code) (maxL := 1) (ret := none) (by decide) rfl ?_
  intro p e s m args below meth c s₁ B hml hv
  obtain ⟨hargs, hsz, hP, hKN, hD0⟩ := hv
  have hK := hKN.1
  have hx := B.exec
  have hb := B.bytes
  have hr := B.returns
  have hts := atoms_spec (ws := ws_m293) B.pre
  have hown : s.vm.findClass "ScanCoder$Counter" = some m.cls := findClass_of_methodNamed B.named
  have hlocks := B.notSynchronized
  have hin : meth.name = "<init>" := (name_of_methodNamed B.named B.method).1
  have k0 := hts _ (List.mem_cons_of_mem _ tw_108)
  have k1 := hts _ (List.mem_cons_of_mem _ tw_298)
  have n0 : ∀ w ∈ u_ws "ScanCoder$Counter" T_3 2, w ∈ ws_m293 := fun w h => List.mem_cons_of_mem _ (in_3 w h)
  subst hsz
  have hD := hD0.self (sz := s.heap.size)
  obtain ⟨A, hAe⟩ : ∃ A : Nat → Prop, va_A [(a_cnt, .inr (3, [.null, .int (0 : Int32)]))] s.heap.size = A := ⟨_, rfl⟩
  rw [hAe] at hD
  have hA : ∀ q : Nat, s.heap.size ≤ q → A q := fun q h => by rw [← hAe]; exact Or.inr h
  have hS : va_S A s.heap s.heap [] := va_S.rf
  have hl := lv_entry ([.ref a_cnt]) (n := 1) (Nat.le_of_ble_eq_true rfl)
  have hfr : entryFrame m args 1 = F0 m 0 ((lg_sl ([.ref a_cnt]) ++ List.replicate (1 - (lg_sl ([.ref a_cnt])).length) Slot.unset).toArray) [] := by rw [hargs]; exact lg_entry_eq _ _ _
  rw [hfr]
  generalize (lg_sl ([.ref a_cnt]) ++ List.replicate (1 - (lg_sl ([.ref a_cnt])).length) Slot.unset).toArray = ls at hl ⊢
  have hl : lv_has ls 1 [(0, .ref a_cnt)] := hl
  refine gen_Q (fun Q hQ => ?_)
  clear hfr
  have hgo : ∀ (H : Heap) (locs : List Loc), va_P (dC, dI) vwCl [(a_cnt, .inr (3, [.null, .int (0 : Int32)]))] H → va_S A s.heap H locs → W p l e (headSpec ws_m293 rm_Counter_init).room s m args below meth c H locs 0 0 Q (F0 m 0 ls []) := by
    intro H locs hP hS
    unfold f_Counter_init at hf
    refine lv_aload_n hx hb d_m293_0 rfl (lv_at hl 0 rfl) ?_
    obtain ⟨z1, hz1, hf⟩ := ob_bind hf
    refine va_csv (g_run (va_runIN (As := []) (rest := []) ⟨hx, hb, hml, hown, hts⟩ (c_Sink_init l dC dI cI cB cS cT a_cnt z1 hz1) ⟨(va_cnB 0 hts (gi tw_296 rfl) rfl rfl rfl (gn_294 hKN.2) (hts _ (List.mem_cons_of_mem _ tw_10)) (by decide +kernel) ⟨Nat.le_of_ble_eq_true rfl, Nat.le_of_ble_eq_true rfl⟩), rfl, hts _ (List.mem_cons_of_mem _ tw_295)⟩ ⟨gp_blind, gp_at hKN (g_pm hP [] rfl)⟩ rfl rfl hl.1 rfl (lv_room (Nat.le_of_ble_eq_true rfl)) d_m293_1 ⟨Nat.zero_le _, Nat.zero_le _⟩)) (fun _ => ?_)
    refine W.eq (g2 := F0 m 4 ls []) rfl ?_
    refine lv_aload_n hx hb d_m293_4 rfl (lv_at hl 0 rfl) ?_
    refine lv_sipush (v := (2048 : Int32)) hx hb d_m293_5 (by decide) ?_
    refine va_newa (atype := .int) (ty := .int) (a0 := (2048, .inl (fun _ => 0))) (N' := 2048) hx hb k0 rfl hK hP hD hS hA (fun _ => rfl) (by decide) (by decide) (by decide) (Nat.le_of_ble_eq_true rfl) (Nat.le_of_ble_eq_true rfl) d_m293_8 (fun q8 cA H hK1 hP hD hS => ?_)
    have hcA := g_cA (t0 := 0) hK rfl hK1
    subst hcA
    clear hK1
    refine W.widen (k := 1) (n := 2048) (Nat.le_of_ble_eq_true rfl) (Nat.le_of_ble_eq_true rfl) ?_
    have hP : va_P (dC, dI) vwCl [(a_cnt, .inr (3, [.null, .int (0 : Int32)])), (q8, .inl (cI, 2048, .inl (fun _ => 0)))] H := hP
    have hD : va_D A [(a_cnt, .inr (3, [.null, .int (0 : Int32)])), (q8, .inl (cI, 2048, .inl (fun _ => 0)))] := hD
    refine va_putF (D := (dC, dI)) (ci := 3) (v := .ref q8) (ty := (.array .int)) (C := "ScanCoder$Counter") (T := T_3) (N := 2) hx hb hts n0 ty_3 tyok_3 nm_3 hown hK hP hD hS 0 rfl rfl 0 (by decide) k1 (fun _ h9 => h9) rfl hin rfl (by decide +kernel) rfl rfl (Nat.le_of_ble_eq_true rfl) d_m293_10 (fun H locs hP hD hS => ?_)
    have hP : va_P (dC, dI) vwCl [(a_cnt, .inr (3, [.ref q8, .int (0 : Int32)])), (q8, .inl (cI, 2048, .inl (fun _ => 0)))] H := hP
    have hD : va_D A [(a_cnt, .inr (3, [.ref q8, .int (0 : Int32)])), (q8, .inl (cI, 2048, .inl (fun _ => 0)))] := hD
    obtain rfl := Option.some.inj hf
    subst hQ
    subst hAe
    exact W.vret hx hb hr (fun t ht hW => ⟨⟨q8, rfl, trivial, by rw [ht]; exact hP, hD⟩, hS.F ht⟩) hS.2.2 d_m293_13
  exact hgo _ _ hP hS

def f_BitWriter_init  : Option (Unit) :=
  (f_Sink_init ).bind fun z1 =>
  some ()
def rm_BitWriter_init : Room := { frames := 2, cells := 0, slots := 0, locals := 32 }
set_option maxHeartbeats 1000000 in
set_option maxRecDepth 100000 in
theorem c_BitWriter_init (l : Launch) (dC : Nat → ClassId) (dI : Nat → Nat → Nat) (cI cB cS cT : ClassId) (a_sto : Nat) (a_wr : Nat) (a_tbs : Nat) (sz : Nat) (z : Unit) (hf : f_BitWriter_init  = some z) : Met l y_m311 ws_m311 rm_BitWriter_init (gPre (dC, dI) [.ref a_wr, .ref a_tbs, .ref a_sto] (gT cI cB cS cT) [(a_wr, .inr (2, [.null, .null, .int (0 : Int32), .int (0 : Int32), .int (0 : Int32), .int (0 : Int32), .int (0 : Int32)]))] sz) (gQvA (dC, dI) (gT cI cB cS cT) (U := Unit) [(a_wr, .inr (2, [.null, .null, .int (0 : Int32), .int (0 : Int32), .int (0 : Int32), .int (0 : Int32), .int (0 : Int32)]))] (fun u => [(a_wr, .inr (2, [.ref a_tbs, .ref a_sto, .int (0 : Int32), .int (0 : Int32), .int (0 : Int32), .int (0 : Int32), .int (0 : Int32)]))]) sz) 0 0 (va_A [(a_wr, .inr (2, [.null, .null, .int (0 : Int32), .int (0 : Int32), .int (0 : Int32), .int (0 : Int32), .int (0 : Int32)]))] sz) := by
  refine Met.ofW (cc := prog_3_method_1_code) (maxL := 3) (ret := none) (by decide) rfl ?_
  intro p e s m args below meth c s₁ B hml hv
  obtain ⟨hargs, hsz, hP, hKN, hD0⟩ := hv
  have hK := hKN.1
  have hx := B.exec
  have hb := B.bytes
  have hr := B.returns
  have hts := atoms_spec (ws := ws_m311) B.pre
  have hown : s.vm.findClass "ScanCoder$BitWriter" = some m.cls := findClass_of_methodNamed B.named
  have hlocks := B.notSynchronized
  have hin : meth.name = "<init>" := (name_of_methodNamed B.named B.method).1
  have k0 := hts _ (List.mem_cons_of_mem _ tw_313)
  have k1 := hts _ (List.mem_cons_of_mem _ tw_314)
  have n0 : ∀ w ∈ u_ws "ScanCoder$BitWriter" T_2 7, w ∈ ws_m311 := fun w h => List.mem_cons_of_mem _ (in_2 w h)
  subst hsz
  have hD := hD0.self (sz := s.heap.size)
  obtain ⟨A, hAe⟩ : ∃ A : Nat → Prop, va_A [(a_wr, .inr (2, [.null, .null, .int (0 : Int32), .int (0 : Int32), .int (0 : Int32), .int (0 : Int32), .int (0 : Int32)]))] s.heap.size = A := ⟨_, rfl⟩
  rw [hAe] at hD
  have hA : ∀ q : Nat, s.heap.size ≤ q → A q := fun q h => by rw [← hAe]; exact Or.inr h
  have hS : va_S A s.heap s.heap [] := va_S.rf
  have hl := lv_entry ([.ref a_wr, .ref a_tbs, .ref a_sto]) (n := 3) (Nat.le_of_ble_eq_true rfl)
  have hfr : entryFrame m args 3 = F0 m 0 ((lg_sl ([.ref a_wr, .ref a_tbs, .ref a_sto]) ++ List.replicate (3 - (lg_sl ([.ref a_wr, .ref a_tbs, .ref a_sto])).length) Slot.unset).toArray) [] := by rw [hargs]; exact lg_entry_eq _ _ _
  rw [hfr]
  generalize (lg_sl ([.ref a_wr, .ref a_tbs, .ref a_sto]) ++ List.replicate (3 - (lg_sl ([.ref a_wr, .ref a_tbs, .ref a_sto])).length) Slot.unset).toArray = ls at hl ⊢
  have hl : lv_has ls 3 [(0, .ref a_wr), (1, .ref a_tbs), (2, .ref a_sto)] := hl
  refine gen_Q (fun Q hQ => ?_)
  clear hfr
  have hgo : ∀ (H : Heap) (locs : List Loc), va_P (dC, dI) vwCl [(a_wr, .inr (2, [.null, .null, .int (0 : Int32), .int (0 : Int32), .int (0 : Int32), .int (0 : Int32), .int (0 : Int32)]))] H → va_S A s.heap H locs → W p l e (headSpec ws_m311 rm_BitWriter_init).room s m args below meth c H locs 0 0 Q (F0 m 0 ls []) := by
    intro H locs hP hS
    unfold f_BitWriter_init at hf
    refine lv_aload_n hx hb d_m311_0 rfl (lv_at hl 0 rfl) ?_
    obtain ⟨z1, hz1, hf⟩ := ob_bind hf
    refine va_csv (g_run (va_runIN (As := []) (rest := []) ⟨hx, hb, hml, hown, hts⟩ (c_Sink_init l dC dI cI cB cS cT a_wr z1 hz1) ⟨(va_cnB 0 hts (gi tw_296 rfl) rfl rfl rfl (gn_312 hKN.2) (hts _ (List.mem_cons_of_mem _ tw_10)) (by decide +kernel) ⟨Nat.le_of_ble_eq_true rfl, Nat.le_of_ble_eq_true rfl⟩), rfl, hts _ (List.mem_cons_of_mem _ tw_295)⟩ ⟨gp_blind, gp_at hKN (g_pm hP [] rfl)⟩ rfl rfl hl.1 rfl (lv_room (Nat.le_of_ble_eq_true rfl)) d_m311_1 ⟨Nat.zero_le _, Nat.zero_le _⟩)) (fun _ => ?_)
    refine W.eq (g2 := F0 m 4 ls []) rfl ?_
    refine lv_aload_n hx hb d_m311_4 rfl (lv_at hl 0 rfl) ?_
    refine lv_aload_n hx hb d_m311_5 rfl (lv_at hl 1 rfl) ?_
    refine va_putF (D := (dC, dI)) (ci := 2) (v := .ref a_tbs) (ty := (.array (.object "ScanCoder$Table"))) (C := "ScanCoder$BitWriter") (T := T_2) (N := 7) hx hb hts n0 ty_2 tyok_2 nm_2 hown hK hP hD hS 0 rfl rfl 0 (by decide) k0 (fun _ h9 => h9) rfl hin rfl (by decide +kernel) rfl rfl (Nat.le_of_ble_eq_true rfl) d_m311_6 (fun H locs hP hD hS => ?_)
    have hP : va_P (dC, dI) vwCl [(a_wr, .inr (2, [.ref a_tbs, .null, .int (0 : Int32), .int (0 : Int32), .int (0 : Int32), .int (0 : Int32), .int (0 : Int32)]))] H := hP
    have hD : va_D A [(a_wr, .inr (2, [.ref a_tbs, .null, .int (0 : Int32), .int (0 : Int32), .int (0 : Int32), .int (0 : Int32), .int (0 : Int32)]))] := hD
    refine lv_aload_n hx hb d_m311_9 rfl (lv_at hl 0 rfl) ?_
    refine lv_aload_n hx hb d_m311_10 rfl (lv_at hl 2 rfl) ?_
    refine va_putF (D := (dC, dI)) (ci := 2) (v := .ref a_sto) (ty := (.object "ScanCoder$Store")) (C := "ScanCoder$BitWriter") (T := T_2) (N := 7) hx hb hts n0 ty_2 tyok_2 nm_2 hown hK hP hD hS 0 rfl rfl 1 (by decide) k1 (fun _ h9 => h9) rfl hin rfl (by decide +kernel) rfl rfl (Nat.le_of_ble_eq_true rfl) d_m311_11 (fun H locs hP hD hS => ?_)
    have hP : va_P (dC, dI) vwCl [(a_wr, .inr (2, [.ref a_tbs, .ref a_sto, .int (0 : Int32), .int (0 : Int32), .int (0 : Int32), .int (0 : Int32), .int (0 : Int32)]))] H := hP
    have hD : va_D A [(a_wr, .inr (2, [.ref a_tbs, .ref a_sto, .int (0 : Int32), .int (0 : Int32), .int (0 : Int32), .int (0 : Int32), .int (0 : Int32)]))] := hD
    obtain rfl := Option.some.inj hf
    subst hQ
    subst hAe
    exact W.vret hx hb hr (fun t ht hW => ⟨⟨(), rfl, trivial, by rw [ht]; exact hP, hD⟩, hS.F ht⟩) hS.2.2 d_m311_14
  exact hgo _ _ hP hS

def f_Encoder_init_cnt  : Option (Unit) :=
  some ()
def rm_Encoder_init_cnt : Room := { frames := 1, cells := 2, slots := 968, locals := 12 }
set_option maxHeartbeats 1000000 in
set_option maxRecDepth 100000 in
theorem c_Encoder_init_cnt (l : Launch) (dC : Nat → ClassId) (dI : Nat → Nat → Nat) (cI cB cS cT : ClassId) (a_pic : Nat) (a_crs : Nat) (a_cnt : Nat) (a_enc : Nat) (sz : Nat) (z : Unit) (hf : f_Encoder_init_cnt  = some z) : Met l y_m341 ws_m341 rm_Encoder_init_cnt (gPre (dC, dI) [.ref a_enc, .ref a_pic, .ref a_crs, .ref a_cnt] (gT cI cB cS cT) [(a_enc, .inr (7, [.null, .null, .null, .null, .null, .int (0 : Int32), .int (0 : Int32), .int (0 : Int32)]))] sz) (gQvA (dC, dI) (gT cI cB cS cT) (U := Nat × Nat) [(a_enc, .inr (7, [.null, .null, .null, .null, .null, .int (0 : Int32), .int (0 : Int32), .int (0 : Int32)]))] (fun u => [(a_enc, .inr (7, [.ref a_pic, .ref a_crs, .ref u.1, .ref u.2, .ref a_cnt, .int (0 : Int32), .int (0 : Int32), .int (0 : Int32)])), (u.1, .inl (cI, 4, .inl (fun _ => 0))), (u.2, .inl (cB, 964, .inl (fun _ => 0)))]) sz) 2 968 (va_A [(a_enc, .inr (7, [.null, .null, .null, .null, .null, .int (0 : Int32), .int (0 : Int32), .int (0 : Int32)]))] sz) := by
  refine Met.ofW (cc := prog_8_method_1_code) (maxL := 4) (ret := none) (by decide) rfl ?_
  intro p e s m args below meth c s₁ B hml hv
  obtain ⟨hargs, hsz, hP, hKN, hD0⟩ := hv
  have hK := hKN.1
  have hx := B.exec
  have hb := B.bytes
  have hr := B.returns
  have hts := atoms_spec (ws := ws_m341) B.pre
  have hown : s.vm.findClass "ScanCoder$Encoder" = some m.cls := findClass_of_methodNamed B.named
  have hlocks := B.notSynchronized
  have hin : meth.name = "<init>" := (name_of_methodNamed B.named B.method).1
  have k0 := hts _ (List.mem_cons_of_mem _ tw_342)
  have k1 := hts _ (List.mem_cons_of_mem _ tw_24)
  have k2 := hts _ (List.mem_cons_of_mem _ tw_25)
  have k3 := hts _ (List.mem_cons_of_mem _ tw_108)
  have k4 := hts _ (List.mem_cons_of_mem _ tw_345)
  have k5 := hts _ (List.mem_cons_of_mem _ tw_243)
  have k6 := hts _ (List.mem_cons_of_mem _ tw_346)
  have k7 := hts _ (List.mem_cons_of_mem _ tw_343)
  have k8 := hts _ (List.mem_cons_of_mem _ tw_344)
  have k9 := hts _ (List.mem_cons_of_mem _ tw_347)
  have n0 : ∀ w ∈ u_ws "ScanCoder$Encoder" T_7 8, w ∈ ws_m341 := fun w h => List.mem_cons_of_mem _ (in_7 w h)
  subst hsz
  have hD := hD0.self (sz := s.heap.size)
  obtain ⟨A, hAe⟩ : ∃ A : Nat → Prop, va_A [(a_enc, .inr (7, [.null, .null, .null, .null, .null, .int (0 : Int32), .int (0 : Int32), .int (0 : Int32)]))] s.heap.size = A := ⟨_, rfl⟩
  rw [hAe] at hD
  have hA : ∀ q : Nat, s.heap.size ≤ q → A q := fun q h => by rw [← hAe]; exact Or.inr h
  have hS : va_S A s.heap s.heap [] := va_S.rf
  have hl := lv_entry ([.ref a_enc, .ref a_pic, .ref a_crs, .ref a_cnt]) (n := 4) (Nat.le_of_ble_eq_true rfl)
  have hfr : entryFrame m args 4 = F0 m 0 ((lg_sl ([.ref a_enc, .ref a_pic, .ref a_crs, .ref a_cnt]) ++ List.replicate (4 - (lg_sl ([.ref a_enc, .ref a_pic, .ref a_crs, .ref a_cnt])).length) Slot.unset).toArray) [] := by rw [hargs]; exact lg_entry_eq _ _ _
  rw [hfr]
  generalize (lg_sl ([.ref a_enc, .ref a_pic, .ref a_crs, .ref a_cnt]) ++ List.replicate (4 - (lg_sl ([.ref a_enc, .ref a_pic, .ref a_crs, .ref a_cnt])).length) Slot.unset).toArray = ls at hl ⊢
  have hl : lv_has ls 4 [(0, .ref a_enc), (1, .ref a_pic), (2, .ref a_crs), (3, .ref a_cnt)] := hl
  refine gen_Q (fun Q hQ => ?_)
  clear hfr
  have hgo : ∀ (H : Heap) (locs : List Loc), va_P (dC, dI) vwCl [(a_enc, .inr (7, [.null, .null, .null, .null, .null, .int (0 : Int32), .int (0 : Int32), .int (0 : Int32)]))] H → va_S A s.heap H locs → W p l e (headSpec ws_m341 rm_Encoder_init_cnt).room s m args below meth c H locs 0 0 Q (F0 m 0 ls []) := by
    intro H locs hP hS
    unfold f_Encoder_init_cnt at hf
    refine lv_aload_n hx hb d_m341_0 rfl (lv_at hl 0 rfl) ?_
    refine W.objInit hx hb hown k0 k1 k2 rfl (by rw [hml]; exact hl.1) rfl d_m341_1 (Nat.le_of_ble_eq_true rfl) (Nat.le_of_ble_eq_true rfl) ?_
    refine W.eq (g2 := F0 m 4 ls []) rfl ?_
    refine lv_aload_n hx hb d_m341_4 rfl (lv_at hl 0 rfl) ?_
    refine lv_iconst (v := (4 : Int32)) hx hb d_m341_5 (by decide) ?_
    refine va_newa (atype := .int) (ty := .int) (a0 := (4, .inl (fun _ => 0))) (N' := 4) hx hb k3 rfl hK hP hD hS hA (fun _ => rfl) (by decide) (by decide) (by decide) (Nat.le_of_ble_eq_true rfl) (Nat.le_of_ble_eq_true rfl) d_m341_6 (fun q6 cA H hK1 hP hD hS => ?_)
    have hcA := g_cA (t0 := 0) hK rfl hK1
    subst hcA
    clear hK1
    refine W.widen (k := 1) (n := 4) (Nat.le_of_ble_eq_true rfl) (Nat.le_of_ble_eq_true rfl) ?_
    have hP : va_P (dC, dI) vwCl [(a_enc, .inr (7, [.null, .null, .null, .null, .null, .int (0 : Int32), .int (0 : Int32), .int (0 : Int32)])), (q6, .inl (cI, 4, .inl (fun _ => 0)))] H := hP
    have hD : va_D A [(a_enc, .inr (7, [.null, .null, .null, .null, .null, .int (0 : Int32), .int (0 : Int32), .int (0 : Int32)])), (q6, .inl (cI, 4, .inl (fun _ => 0)))] := hD
    refine va_putF (D := (dC, dI)) (ci := 7) (v := .ref q6) (ty := (.array .int)) (C := "ScanCoder$Encoder") (T := T_7) (N := 8) hx hb hts n0 ty_7 tyok_7 nm_7 hown hK hP hD hS 0 rfl rfl 2 (by decide) k4 (fun _ h9 => h9) rfl hin rfl (by decide +kernel) rfl rfl (Nat.le_of_ble_eq_true rfl) d_m341_8 (fun H locs hP hD hS => ?_)
    have hP : va_P (dC, dI) vwCl [(a_enc, .inr (7, [.null, .null, .ref q6, .null, .null, .int (0 : Int32), .int (0 : Int32), .int (0 : Int32)])), (q6, .inl (cI, 4, .inl (fun _ => 0)))] H := hP
    have hD : va_D A [(a_enc, .inr (7, [.null, .null, .ref q6, .null, .null, .int (0 : Int32), .int (0 : Int32), .int (0 : Int32)])), (q6, .inl (cI, 4, .inl (fun _ => 0)))] := hD
    refine lv_aload_n hx hb d_m341_11 rfl (lv_at hl 0 rfl) ?_
    refine lv_sipush (v := (964 : Int32)) hx hb d_m341_12 (by decide) ?_
    refine va_newa (atype := .byte) (ty := .byte) (a0 := (964, .inl (fun _ => 0))) (N' := 964) hx hb k5 rfl hK hP hD hS hA (fun _ => rfl) (by decide) (by decide) (by decide) (Nat.le_of_ble_eq_true rfl) (Nat.le_of_ble_eq_true rfl) d_m341_15 (fun q15 cA H hK1 hP hD hS => ?_)
    have hcA := g_cA (t0 := 1) hK rfl hK1
    subst hcA
    clear hK1
    refine W.widen (k := 2) (n := 968) (Nat.le_of_ble_eq_true rfl) (Nat.le_of_ble_eq_true rfl) ?_
    have hP : va_P (dC, dI) vwCl [(a_enc, .inr (7, [.null, .null, .ref q6, .null, .null, .int (0 : Int32), .int (0 : Int32), .int (0 : Int32)])), (q6, .inl (cI, 4, .inl (fun _ => 0))), (q15, .inl (cB, 964, .inl (fun _ => 0)))] H := hP
    have hD : va_D A [(a_enc, .inr (7, [.null, .null, .ref q6, .null, .null, .int (0 : Int32), .int (0 : Int32), .int (0 : Int32)])), (q6, .inl (cI, 4, .inl (fun _ => 0))), (q15, .inl (cB, 964, .inl (fun _ => 0)))] := hD
    refine va_putF (D := (dC, dI)) (ci := 7) (v := .ref q15) (ty := (.array .byte)) (C := "ScanCoder$Encoder") (T := T_7) (N := 8) hx hb hts n0 ty_7 tyok_7 nm_7 hown hK hP hD hS 0 rfl rfl 3 (by decide) k6 (fun _ h9 => h9) rfl hin rfl (by decide +kernel) rfl rfl (Nat.le_of_ble_eq_true rfl) d_m341_17 (fun H locs hP hD hS => ?_)
    have hP : va_P (dC, dI) vwCl [(a_enc, .inr (7, [.null, .null, .ref q6, .ref q15, .null, .int (0 : Int32), .int (0 : Int32), .int (0 : Int32)])), (q6, .inl (cI, 4, .inl (fun _ => 0))), (q15, .inl (cB, 964, .inl (fun _ => 0)))] H := hP
    have hD : va_D A [(a_enc, .inr (7, [.null, .null, .ref q6, .ref q15, .null, .int (0 : Int32), .int (0 : Int32), .int (0 : Int32)])), (q6, .inl (cI, 4, .inl (fun _ => 0))), (q15, .inl (cB, 964, .inl (fun _ => 0)))] := hD
    refine lv_aload_n hx hb d_m341_20 rfl (lv_at hl 0 rfl) ?_
    refine lv_aload_n hx hb d_m341_21 rfl (lv_at hl 1 rfl) ?_
    refine va_putF (D := (dC, dI)) (ci := 7) (v := .ref a_pic) (ty := (.object "ScanCoder$Picture")) (C := "ScanCoder$Encoder") (T := T_7) (N := 8) hx hb hts n0 ty_7 tyok_7 nm_7 hown hK hP hD hS 0 rfl rfl 0 (by decide) k7 (fun _ h9 => h9) rfl hin rfl (by decide +kernel) rfl rfl (Nat.le_of_ble_eq_true rfl) d_m341_22 (fun H locs hP hD hS => ?_)
    have hP : va_P (dC, dI) vwCl [(a_enc, .inr (7, [.ref a_pic, .null, .ref q6, .ref q15, .null, .int (0 : Int32), .int (0 : Int32), .int (0 : Int32)])), (q6, .inl (cI, 4, .inl (fun _ => 0))), (q15, .inl (cB, 964, .inl (fun _ => 0)))] H := hP
    have hD : va_D A [(a_enc, .inr (7, [.ref a_pic, .null, .ref q6, .ref q15, .null, .int (0 : Int32), .int (0 : Int32), .int (0 : Int32)])), (q6, .inl (cI, 4, .inl (fun _ => 0))), (q15, .inl (cB, 964, .inl (fun _ => 0)))] := hD
    refine lv_aload_n hx hb d_m341_25 rfl (lv_at hl 0 rfl) ?_
    refine lv_aload_n hx hb d_m341_26 rfl (lv_at hl 2 rfl) ?_
    refine va_putF (D := (dC, dI)) (ci := 7) (v := .ref a_crs) (ty := (.object "ScanCoder$Course")) (C := "ScanCoder$Encoder") (T := T_7) (N := 8) hx hb hts n0 ty_7 tyok_7 nm_7 hown hK hP hD hS 0 rfl rfl 1 (by decide) k8 (fun _ h9 => h9) rfl hin rfl (by decide +kernel) rfl rfl (Nat.le_of_ble_eq_true rfl) d_m341_27 (fun H locs hP hD hS => ?_)
    have hP : va_P (dC, dI) vwCl [(a_enc, .inr (7, [.ref a_pic, .ref a_crs, .ref q6, .ref q15, .null, .int (0 : Int32), .int (0 : Int32), .int (0 : Int32)])), (q6, .inl (cI, 4, .inl (fun _ => 0))), (q15, .inl (cB, 964, .inl (fun _ => 0)))] H := hP
    have hD : va_D A [(a_enc, .inr (7, [.ref a_pic, .ref a_crs, .ref q6, .ref q15, .null, .int (0 : Int32), .int (0 : Int32), .int (0 : Int32)])), (q6, .inl (cI, 4, .inl (fun _ => 0))), (q15, .inl (cB, 964, .inl (fun _ => 0)))] := hD
    refine lv_aload_n hx hb d_m341_30 rfl (lv_at hl 0 rfl) ?_
    refine lv_aload_n hx hb d_m341_31 rfl (lv_at hl 3 rfl) ?_
    refine va_put (D := (dC, dI)) (ci := 7) (v := .ref a_cnt) (ty := (.object "ScanCoder$Sink")) (C := "ScanCoder$Encoder") (T := T_7) (N := 8) hx hb hts n0 ty_7 tyok_7 nm_7 hown hK hP hD hS 0 rfl rfl 4 (by decide) k9 (fun _ h9 => h9) rfl (by decide +kernel) rfl rfl (Nat.le_of_ble_eq_true rfl) d_m341_32 (fun H locs hP hD hS => ?_)
    have hP : va_P (dC, dI) vwCl [(a_enc, .inr (7, [.ref a_pic, .ref a_crs, .ref q6, .ref q15, .ref a_cnt, .int (0 : Int32), .int (0 : Int32), .int (0 : Int32)])), (q6, .inl (cI, 4, .inl (fun _ => 0))), (q15, .inl (cB, 964, .inl (fun _ => 0)))] H := hP
    have hD : va_D A [(a_enc, .inr (7, [.ref a_pic, .ref a_crs, .ref q6, .ref q15, .ref a_cnt, .int (0 : Int32), .int (0 : Int32), .int (0 : Int32)])), (q6, .inl (cI, 4, .inl (fun _ => 0))), (q15, .inl (cB, 964, .inl (fun _ => 0)))] := hD
    obtain rfl := Option.some.inj hf
    subst hQ
    subst hAe
    exact W.vret hx hb hr (fun t ht hW => ⟨⟨(q6, q15), rfl, trivial, by rw [ht]; exact hP, hD⟩, hS.F ht⟩) hS.2.2 d_m341_35
  exact hgo _ _ hP hS

def f_BitReader_init  : Option (Unit) :=
  some ()
def rm_BitReader_init : Room := { frames := 1, cells := 0, slots := 0, locals := 12 }
set_option maxHeartbeats 1000000 in
set_option maxRecDepth 100000 in
theorem c_BitReader_init (l : Launch) (dC : Nat → ClassId) (dI : Nat → Nat → Nat) (cI cB cS cT : ClassId) (a_sto : Nat) (a_rd : Nat) (sz : Nat) (z : Unit) (hf : f_BitReader_init  = some z) : Met l y_m374 ws_m374 rm_BitReader_init (gPre (dC, dI) [.ref a_rd, .ref a_sto] (gT cI cB cS cT) [(a_rd, .inr (1, [.null, .int (0 : Int32), .int (0 : Int32), .int (0 : Int32), .int (0 : Int32)]))] sz) (gQvA (dC, dI) (gT cI cB cS cT) (U := Unit) [(a_rd, .inr (1, [.null, .int (0 : Int32), .int (0 : Int32), .int (0 : Int32), .int (0 : Int32)]))] (fun u => [(a_rd, .inr (1, [.ref a_sto, .int (0 : Int32), .int (0 : Int32), .int (0 : Int32), .int (0 : Int32)]))]) sz) 0 0 (va_A [(a_rd, .inr (1, [.null, .int (0 : Int32), .int (0 : Int32), .int (0 : Int32), .int (0 : Int32)]))] sz) := by
  refine Met.ofW (cc := prog_2_method_1_code) (maxL := 2) (ret := none) (by decide) rfl ?_
  intro p e s m args below meth c s₁ B hml hv
  obtain ⟨hargs, hsz, hP, hKN, hD0⟩ := hv
  have hK := hKN.1
  have hx := B.exec
  have hb := B.bytes
  have hr := B.returns
  have hts := atoms_spec (ws := ws_m374) B.pre
  have hown : s.vm.findClass "ScanCoder$BitReader" = some m.cls := findClass_of_methodNamed B.named
  have hlocks := B.notSynchronized
  have hin : meth.name = "<init>" := (name_of_methodNamed B.named B.method).1
  have k0 := hts _ (List.mem_cons_of_mem _ tw_375)
  have k1 := hts _ (List.mem_cons_of_mem _ tw_24)
  have k2 := hts _ (List.mem_cons_of_mem _ tw_25)
  have k3 := hts _ (List.mem_cons_of_mem _ tw_376)
  have n0 : ∀ w ∈ u_ws "ScanCoder$BitReader" T_1 5, w ∈ ws_m374 := fun w h => List.mem_cons_of_mem _ (in_1 w h)
  subst hsz
  have hD := hD0.self (sz := s.heap.size)
  obtain ⟨A, hAe⟩ : ∃ A : Nat → Prop, va_A [(a_rd, .inr (1, [.null, .int (0 : Int32), .int (0 : Int32), .int (0 : Int32), .int (0 : Int32)]))] s.heap.size = A := ⟨_, rfl⟩
  rw [hAe] at hD
  have hA : ∀ q : Nat, s.heap.size ≤ q → A q := fun q h => by rw [← hAe]; exact Or.inr h
  have hS : va_S A s.heap s.heap [] := va_S.rf
  have hl := lv_entry ([.ref a_rd, .ref a_sto]) (n := 2) (Nat.le_of_ble_eq_true rfl)
  have hfr : entryFrame m args 2 = F0 m 0 ((lg_sl ([.ref a_rd, .ref a_sto]) ++ List.replicate (2 - (lg_sl ([.ref a_rd, .ref a_sto])).length) Slot.unset).toArray) [] := by rw [hargs]; exact lg_entry_eq _ _ _
  rw [hfr]
  generalize (lg_sl ([.ref a_rd, .ref a_sto]) ++ List.replicate (2 - (lg_sl ([.ref a_rd, .ref a_sto])).length) Slot.unset).toArray = ls at hl ⊢
  have hl : lv_has ls 2 [(0, .ref a_rd), (1, .ref a_sto)] := hl
  refine gen_Q (fun Q hQ => ?_)
  clear hfr
  have hgo : ∀ (H : Heap) (locs : List Loc), va_P (dC, dI) vwCl [(a_rd, .inr (1, [.null, .int (0 : Int32), .int (0 : Int32), .int (0 : Int32), .int (0 : Int32)]))] H → va_S A s.heap H locs → W p l e (headSpec ws_m374 rm_BitReader_init).room s m args below meth c H locs 0 0 Q (F0 m 0 ls []) := by
    intro H locs hP hS
    unfold f_BitReader_init at hf
    refine lv_aload_n hx hb d_m374_0 rfl (lv_at hl 0 rfl) ?_
    refine W.objInit hx hb hown k0 k1 k2 rfl (by rw [hml]; exact hl.1) rfl d_m374_1 (Nat.le_of_ble_eq_true rfl) (Nat.le_of_ble_eq_true rfl) ?_
    refine W.eq (g2 := F0 m 4 ls []) rfl ?_
    refine lv_aload_n hx hb d_m374_4 rfl (lv_at hl 0 rfl) ?_
    refine lv_aload_n hx hb d_m374_5 rfl (lv_at hl 1 rfl) ?_
    refine va_putF (D := (dC, dI)) (ci := 1) (v := .ref a_sto) (ty := (.object "ScanCoder$Store")) (C := "ScanCoder$BitReader") (T := T_1) (N := 5) hx hb hts n0 ty_1 tyok_1 nm_1 hown hK hP hD hS 0 rfl rfl 0 (by decide) k3 (fun _ h9 => h9) rfl hin rfl (by decide +kernel) rfl rfl (Nat.le_of_ble_eq_true rfl) d_m374_6 (fun H locs hP hD hS => ?_)
    have hP : va_P (dC, dI) vwCl [(a_rd, .inr (1, [.ref a_sto, .int (0 : Int32), .int (0 : Int32), .int (0 : Int32), .int (0 : Int32)]))] H := hP
    have hD : va_D A [(a_rd, .inr (1, [.ref a_sto, .int (0 : Int32), .int (0 : Int32), .int (0 : Int32), .int (0 : Int32)]))] := hD
    obtain rfl := Option.some.inj hf
    subst hQ
    subst hAe
    exact W.vret hx hb hr (fun t ht hW => ⟨⟨(), rfl, trivial, by rw [ht]; exact hP, hD⟩, hS.F ht⟩) hS.2.2 d_m374_9
  exact hgo _ _ hP hS

def f_Decoder_init  : Option (Unit) :=
  some ()
def rm_Decoder_init : Room := { frames := 1, cells := 1, slots := 4, locals := 12 }
set_option maxHeartbeats 1000000 in
set_option maxRecDepth 100000 in
theorem c_Decoder_init (l : Launch) (dC : Nat → ClassId) (dI : Nat → Nat → Nat) (cI cB cS cT : ClassId) (a_pic : Nat) (a_crs : Nat) (a_rd : Nat) (a_dec : Nat) (a_tbs : Nat) (sz : Nat) (z : Unit) (hf : f_Decoder_init  = some z) : Met l y_m395 ws_m395 rm_Decoder_init (gPre (dC, dI) [.ref a_dec, .ref a_pic, .ref a_crs, .ref a_tbs, .ref a_rd] (gT cI cB cS cT) [(a_dec, .inr (5, [.null, .null, .null, .null, .null, .int (0 : Int32), .int (0 : Int32)]))] sz) (gQvA (dC, dI) (gT cI cB cS cT) (U := Nat) [(a_dec, .inr (5, [.null, .null, .null, .null, .null, .int (0 : Int32), .int (0 : Int32)]))] (fun u => [(a_dec, .inr (5, [.ref a_pic, .ref a_crs, .ref a_tbs, .ref a_rd, .ref u, .int (0 : Int32), .int (0 : Int32)])), (u, .inl (cI, 4, .inl (fun _ => 0)))]) sz) 1 4 (va_A [(a_dec, .inr (5, [.null, .null, .null, .null, .null, .int (0 : Int32), .int (0 : Int32)]))] sz) := by
  refine Met.ofW (cc := prog_6_method_1_code) (maxL := 5) (ret := none) (by decide) rfl ?_
  intro p e s m args below meth c s₁ B hml hv
  obtain ⟨hargs, hsz, hP, hKN, hD0⟩ := hv
  have hK := hKN.1
  have hx := B.exec
  have hb := B.bytes
  have hr := B.returns
  have hts := atoms_spec (ws := ws_m395) B.pre
  have hown : s.vm.findClass "ScanCoder$Decoder" = some m.cls := findClass_of_methodNamed B.named
  have hlocks := B.notSynchronized
  have hin : meth.name = "<init>" := (name_of_methodNamed B.named B.method).1
  have k0 := hts _ (List.mem_cons_of_mem _ tw_396)
  have k1 := hts _ (List.mem_cons_of_mem _ tw_24)
  have k2 := hts _ (List.mem_cons_of_mem _ tw_25)
  have k3 := hts _ (List.mem_cons_of_mem _ tw_108)
  have k4 := hts _ (List.mem_cons_of_mem _ tw_401)
  have k5 := hts _ (List.mem_cons_of_mem _ tw_397)
  have k6 := hts _ (List.mem_cons_of_mem _ tw_398)
  have k7 := hts _ (List.mem_cons_of_mem _ tw_399)
  have k8 := hts _ (List.mem_cons_of_mem _ tw_400)
  have n0 : ∀ w ∈ u_ws "ScanCoder$Decoder" T_5 7, w ∈ ws_m395 := fun w h => List.mem_cons_of_mem _ (in_5 w h)
  subst hsz
  have hD := hD0.self (sz := s.heap.size)
  obtain ⟨A, hAe⟩ : ∃ A : Nat → Prop, va_A [(a_dec, .inr (5, [.null, .null, .null, .null, .null, .int (0 : Int32), .int (0 : Int32)]))] s.heap.size = A := ⟨_, rfl⟩
  rw [hAe] at hD
  have hA : ∀ q : Nat, s.heap.size ≤ q → A q := fun q h => by rw [← hAe]; exact Or.inr h
  have hS : va_S A s.heap s.heap [] := va_S.rf
  have hl := lv_entry ([.ref a_dec, .ref a_pic, .ref a_crs, .ref a_tbs, .ref a_rd]) (n := 5) (Nat.le_of_ble_eq_true rfl)
  have hfr : entryFrame m args 5 = F0 m 0 ((lg_sl ([.ref a_dec, .ref a_pic, .ref a_crs, .ref a_tbs, .ref a_rd]) ++ List.replicate (5 - (lg_sl ([.ref a_dec, .ref a_pic, .ref a_crs, .ref a_tbs, .ref a_rd])).length) Slot.unset).toArray) [] := by rw [hargs]; exact lg_entry_eq _ _ _
  rw [hfr]
  generalize (lg_sl ([.ref a_dec, .ref a_pic, .ref a_crs, .ref a_tbs, .ref a_rd]) ++ List.replicate (5 - (lg_sl ([.ref a_dec, .ref a_pic, .ref a_crs, .ref a_tbs, .ref a_rd])).length) Slot.unset).toArray = ls at hl ⊢
  have hl : lv_has ls 5 [(0, .ref a_dec), (1, .ref a_pic), (2, .ref a_crs), (3, .ref a_tbs), (4, .ref a_rd)] := hl
  refine gen_Q (fun Q hQ => ?_)
  clear hfr
  have hgo : ∀ (H : Heap) (locs : List Loc), va_P (dC, dI) vwCl [(a_dec, .inr (5, [.null, .null, .null, .null, .null, .int (0 : Int32), .int (0 : Int32)]))] H → va_S A s.heap H locs → W p l e (headSpec ws_m395 rm_Decoder_init).room s m args below meth c H locs 0 0 Q (F0 m 0 ls []) := by
    intro H locs hP hS
    unfold f_Decoder_init at hf
    refine lv_aload_n hx hb d_m395_0 rfl (lv_at hl 0 rfl) ?_
    refine W.objInit hx hb hown k0 k1 k2 rfl (by rw [hml]; exact hl.1) rfl d_m395_1 (Nat.le_of_ble_eq_true rfl) (Nat.le_of_ble_eq_true rfl) ?_
    refine W.eq (g2 := F0 m 4 ls []) rfl ?_
    refine lv_aload_n hx hb d_m395_4 rfl (lv_at hl 0 rfl) ?_
    refine lv_iconst (v := (4 : Int32)) hx hb d_m395_5 (by decide) ?_
    refine va_newa (atype := .int) (ty := .int) (a0 := (4, .inl (fun _ => 0))) (N' := 4) hx hb k3 rfl hK hP hD hS hA (fun _ => rfl) (by decide) (by decide) (by decide) (Nat.le_of_ble_eq_true rfl) (Nat.le_of_ble_eq_true rfl) d_m395_6 (fun q6 cA H hK1 hP hD hS => ?_)
    have hcA := g_cA (t0 := 0) hK rfl hK1
    subst hcA
    clear hK1
    refine W.widen (k := 1) (n := 4) (Nat.le_of_ble_eq_true rfl) (Nat.le_of_ble_eq_true rfl) ?_
    have hP : va_P (dC, dI) vwCl [(a_dec, .inr (5, [.null, .null, .null, .null, .null, .int (0 : Int32), .int (0 : Int32)])), (q6, .inl (cI, 4, .inl (fun _ => 0)))] H := hP
    have hD : va_D A [(a_dec, .inr (5, [.null, .null, .null, .null, .null, .int (0 : Int32), .int (0 : Int32)])), (q6, .inl (cI, 4, .inl (fun _ => 0)))] := hD
    refine va_putF (D := (dC, dI)) (ci := 5) (v := .ref q6) (ty := (.array .int)) (C := "ScanCoder$Decoder") (T := T_5) (N := 7) hx hb hts n0 ty_5 tyok_5 nm_5 hown hK hP hD hS 0 rfl rfl 4 (by decide) k4 (fun _ h9 => h9) rfl hin rfl (by decide +kernel) rfl rfl (Nat.le_of_ble_eq_true rfl) d_m395_8 (fun H locs hP hD hS => ?_)
    have hP : va_P (dC, dI) vwCl [(a_dec, .inr (5, [.null, .null, .null, .null, .ref q6, .int (0 : Int32), .int (0 : Int32)])), (q6, .inl (cI, 4, .inl (fun _ => 0)))] H := hP
    have hD : va_D A [(a_dec, .inr (5, [.null, .null, .null, .null, .ref q6, .int (0 : Int32), .int (0 : Int32)])), (q6, .inl (cI, 4, .inl (fun _ => 0)))] := hD
    refine lv_aload_n hx hb d_m395_11 rfl (lv_at hl 0 rfl) ?_
    refine lv_aload_n hx hb d_m395_12 rfl (lv_at hl 1 rfl) ?_
    refine va_putF (D := (dC, dI)) (ci := 5) (v := .ref a_pic) (ty := (.object "ScanCoder$Picture")) (C := "ScanCoder$Decoder") (T := T_5) (N := 7) hx hb hts n0 ty_5 tyok_5 nm_5 hown hK hP hD hS 0 rfl rfl 0 (by decide) k5 (fun _ h9 => h9) rfl hin rfl (by decide +kernel) rfl rfl (Nat.le_of_ble_eq_true rfl) d_m395_13 (fun H locs hP hD hS => ?_)
    have hP : va_P (dC, dI) vwCl [(a_dec, .inr (5, [.ref a_pic, .null, .null, .null, .ref q6, .int (0 : Int32), .int (0 : Int32)])), (q6, .inl (cI, 4, .inl (fun _ => 0)))] H := hP
    have hD : va_D A [(a_dec, .inr (5, [.ref a_pic, .null, .null, .null, .ref q6, .int (0 : Int32), .int (0 : Int32)])), (q6, .inl (cI, 4, .inl (fun _ => 0)))] := hD
    refine lv_aload_n hx hb d_m395_16 rfl (lv_at hl 0 rfl) ?_
    refine lv_aload_n hx hb d_m395_17 rfl (lv_at hl 2 rfl) ?_
    refine va_putF (D := (dC, dI)) (ci := 5) (v := .ref a_crs) (ty := (.object "ScanCoder$Course")) (C := "ScanCoder$Decoder") (T := T_5) (N := 7) hx hb hts n0 ty_5 tyok_5 nm_5 hown hK hP hD hS 0 rfl rfl 1 (by decide) k6 (fun _ h9 => h9) rfl hin rfl (by decide +kernel) rfl rfl (Nat.le_of_ble_eq_true rfl) d_m395_18 (fun H locs hP hD hS => ?_)
    have hP : va_P (dC, dI) vwCl [(a_dec, .inr (5, [.ref a_pic, .ref a_crs, .null, .null, .ref q6, .int (0 : Int32), .int (0 : Int32)])), (q6, .inl (cI, 4, .inl (fun _ => 0)))] H := hP
    have hD : va_D A [(a_dec, .inr (5, [.ref a_pic, .ref a_crs, .null, .null, .ref q6, .int (0 : Int32), .int (0 : Int32)])), (q6, .inl (cI, 4, .inl (fun _ => 0)))] := hD
    refine lv_aload_n hx hb d_m395_21 rfl (lv_at hl 0 rfl) ?_
    refine lv_aload_n hx hb d_m395_22 rfl (lv_at hl 3 rfl) ?_
    refine va_putF (D := (dC, dI)) (ci := 5) (v := .ref a_tbs) (ty := (.array (.object "ScanCoder$Table"))) (C := "ScanCoder$Decoder") (T := T_5) (N := 7) hx hb hts n0 ty_5 tyok_5 nm_5 hown hK hP hD hS 0 rfl rfl 2 (by decide) k7 (fun _ h9 => h9) rfl hin rfl (by decide +kernel) rfl rfl (Nat.le_of_ble_eq_true rfl) d_m395_23 (fun H locs hP hD hS => ?_)
    have hP : va_P (dC, dI) vwCl [(a_dec, .inr (5, [.ref a_pic, .ref a_crs, .ref a_tbs, .null, .ref q6, .int (0 : Int32), .int (0 : Int32)])), (q6, .inl (cI, 4, .inl (fun _ => 0)))] H := hP
    have hD : va_D A [(a_dec, .inr (5, [.ref a_pic, .ref a_crs, .ref a_tbs, .null, .ref q6, .int (0 : Int32), .int (0 : Int32)])), (q6, .inl (cI, 4, .inl (fun _ => 0)))] := hD
    refine lv_aload_n hx hb d_m395_26 rfl (lv_at hl 0 rfl) ?_
    refine lv_aload hx hb d_m395_27 (lv_at hl 4 rfl) ?_
    refine va_putF (D := (dC, dI)) (ci := 5) (v := .ref a_rd) (ty := (.object "ScanCoder$BitReader")) (C := "ScanCoder$Decoder") (T := T_5) (N := 7) hx hb hts n0 ty_5 tyok_5 nm_5 hown hK hP hD hS 0 rfl rfl 3 (by decide) k8 (fun _ h9 => h9) rfl hin rfl (by decide +kernel) rfl rfl (Nat.le_of_ble_eq_true rfl) d_m395_29 (fun H locs hP hD hS => ?_)
    have hP : va_P (dC, dI) vwCl [(a_dec, .inr (5, [.ref a_pic, .ref a_crs, .ref a_tbs, .ref a_rd, .ref q6, .int (0 : Int32), .int (0 : Int32)])), (q6, .inl (cI, 4, .inl (fun _ => 0)))] H := hP
    have hD : va_D A [(a_dec, .inr (5, [.ref a_pic, .ref a_crs, .ref a_tbs, .ref a_rd, .ref q6, .int (0 : Int32), .int (0 : Int32)])), (q6, .inl (cI, 4, .inl (fun _ => 0)))] := hD
    obtain rfl := Option.some.inj hf
    subst hQ
    subst hAe
    exact W.vret hx hb hr (fun t ht hW => ⟨⟨q6, rfl, trivial, by rw [ht]; exact hP, hD⟩, hS.F ht⟩) hS.2.2 d_m395_32
  exact hgo _ _ hP hS
