
def f_BitWriter_begin (p0 : Int32) : Option (Int32 × Int32 × Int32 × Int32 × Int32) :=
  if p0 = 0 ∨ p0 = 1 then some (p0, (0 : Int32), (0 : Int32), (0 : Int32), (0 : Int32)) else none
abbrev w_BitWriter_begin (cI cB cS cT : ClassId) (a_wr : Nat) (a_tbs : Nat) (a_sto : Nat) (wr_keeps : Int32) (wr_part : Int32) (wr_filled : Int32) (wr_length : Int32) (wr_lacksWord : Int32) : va_W := [(a_wr, .inr (2, [.ref a_tbs, .ref a_sto, .int wr_keeps, .int wr_part, .int wr_filled, .int wr_length, .int wr_lacksWord]))]
def rm_BitWriter_begin : Room := { frames := 0, cells := 0, slots := 0, locals := 0 }
set_option maxHeartbeats 1000000 in
set_option maxRecDepth 100000 in
theorem c_BitWriter_begin (l : Launch) (dC : Nat → ClassId) (dI : Nat → Nat → Nat) (cI cB cS cT : ClassId) (a_wr : Nat) (a_tbs : Nat) (a_sto : Nat) (wr_keeps : Int32) (wr_part : Int32) (wr_filled : Int32) (wr_length : Int32) (wr_lacksWord : Int32) (p0 : Int32) (sz : Nat) (z : Int32 × Int32 × Int32 × Int32 × Int32) (hf : f_BitWriter_begin p0 = some z) : Met l y_m541 ws_m541 rm_BitWriter_begin (gPre (dC, dI) [.ref a_wr, .int p0] (gT cI cB cS cT) (w_BitWriter_begin cI cB cS cT a_wr a_tbs a_sto wr_keeps wr_part wr_filled wr_length wr_lacksWord) sz) (gQv (dC, dI) (gT cI cB cS cT) (w_BitWriter_begin cI cB cS cT a_wr a_tbs a_sto wr_keeps wr_part wr_filled wr_length wr_lacksWord) (w_BitWriter_begin cI cB cS cT a_wr a_tbs a_sto z.1 z.2.1 z.2.2.1 z.2.2.2.1 z.2.2.2.2) sz) 0 0 (va_A (w_BitWriter_begin cI cB cS cT a_wr a_tbs a_sto wr_keeps wr_part wr_filled wr_length wr_lacksWord) sz) := by
  refine Met.ofW (cc := prog_3_method_2_code) (maxL := 2) (ret := none) (by decide) rfl ?_
  intro p e s m args below meth c s₁ B hml hv
  obtain ⟨hargs, hsz, hP, hKN, hD0⟩ := hv
  have hK := hKN.1
  have hx := B.exec
  have hb := B.bytes
  have hr := B.returns
  have hts := atoms_spec (ws := ws_m541) B.pre
  have hown : s.vm.findClass "ScanCoder$BitWriter" = some m.cls := findClass_of_methodNamed B.named
  have hlocks := B.notSynchronized
  have k0 := hts _ (List.mem_cons_of_mem _ tw_315)
  have k1 := hts _ (List.mem_cons_of_mem _ tw_316)
  have k2 := hts _ (List.mem_cons_of_mem _ tw_317)
  have k3 := hts _ (List.mem_cons_of_mem _ tw_318)
  have k4 := hts _ (List.mem_cons_of_mem _ tw_320)
  have n0 : ∀ w ∈ u_ws "ScanCoder$BitWriter" T_2 7, w ∈ ws_m541 := fun w h => List.mem_cons_of_mem _ (in_2 w h)
  subst hsz
  have hD := hD0.self (sz := s.heap.size)
  obtain ⟨A, hAe⟩ : ∃ A : Nat → Prop, va_A (w_BitWriter_begin cI cB cS cT a_wr a_tbs a_sto wr_keeps wr_part wr_filled wr_length wr_lacksWord) s.heap.size = A := ⟨_, rfl⟩
  rw [hAe] at hD
  have hA : ∀ q : Nat, s.heap.size ≤ q → A q := fun q h => by rw [← hAe]; exact Or.inr h
  have hS : va_S A s.heap s.heap [] := va_S.rf
  have hl := lv_entry ([.ref a_wr, .int p0]) (n := 2) (Nat.le_of_ble_eq_true rfl)
  have hfr : entryFrame m args 2 = F0 m 0 ((lg_sl ([.ref a_wr, .int p0]) ++ List.replicate (2 - (lg_sl ([.ref a_wr, .int p0])).length) Slot.unset).toArray) [] := by rw [hargs]; exact lg_entry_eq _ _ _
  rw [hfr]
  generalize (lg_sl ([.ref a_wr, .int p0]) ++ List.replicate (2 - (lg_sl ([.ref a_wr, .int p0])).length) Slot.unset).toArray = ls at hl ⊢
  have hl : lv_has ls 2 [(0, .ref a_wr), (1, .int p0)] := hl
  refine gen_Q (fun Q hQ => ?_)
  clear hfr
  have hgo : ∀ (H : Heap) (locs : List Loc), va_P (dC, dI) vwCl (w_BitWriter_begin cI cB cS cT a_wr a_tbs a_sto wr_keeps wr_part wr_filled wr_length wr_lacksWord) H → va_S A s.heap H locs → W p l e (headSpec ws_m541 rm_BitWriter_begin).room s m args below meth c H locs 0 0 Q (F0 m 0 ls []) := by
    intro H locs hP hS
    unfold f_BitWriter_begin at hf
    refine lv_aload_n hx hb d_m541_0 rfl (lv_at hl 0 rfl) ?_
    refine lv_iload_n hx hb d_m541_1 rfl (lv_at hl 1 rfl) ?_
    obtain ⟨hi, hf⟩ := ob_ok hf
    refine va_put (D := (dC, dI)) (ci := 2) (v := .int p0) (ty := .boolean) (C := "ScanCoder$BitWriter") (T := T_2) (N := 7) hx hb hts n0 ty_2 tyok_2 nm_2 hown hK hP hD hS 0 rfl rfl 2 (by decide) k0 (fun _ h9 => h9) rfl (by decide +kernel) (nb_ok hi).1 (nb_ok hi).2 (Nat.le_of_ble_eq_true rfl) d_m541_2 (fun H locs hP hD hS => ?_)
    have hP : va_P (dC, dI) vwCl (w_BitWriter_begin cI cB cS cT a_wr a_tbs a_sto p0 wr_part wr_filled wr_length wr_lacksWord) H := hP
    have hD : va_D A (w_BitWriter_begin cI cB cS cT a_wr a_tbs a_sto p0 wr_part wr_filled wr_length wr_lacksWord) := hD
    refine lv_aload_n hx hb d_m541_5 rfl (lv_at hl 0 rfl) ?_
    refine lv_iconst (v := (0 : Int32)) hx hb d_m541_6 (by decide) ?_
    refine va_put (D := (dC, dI)) (ci := 2) (v := .int (0 : Int32)) (ty := .int) (C := "ScanCoder$BitWriter") (T := T_2) (N := 7) hx hb hts n0 ty_2 tyok_2 nm_2 hown hK hP hD hS 0 rfl rfl 3 (by decide) k1 (fun _ h9 => h9) rfl (by decide +kernel) rfl rfl (Nat.le_of_ble_eq_true rfl) d_m541_7 (fun H locs hP hD hS => ?_)
    have hP : va_P (dC, dI) vwCl (w_BitWriter_begin cI cB cS cT a_wr a_tbs a_sto p0 (0 : Int32) wr_filled wr_length wr_lacksWord) H := hP
    have hD : va_D A (w_BitWriter_begin cI cB cS cT a_wr a_tbs a_sto p0 (0 : Int32) wr_filled wr_length wr_lacksWord) := hD
    refine lv_aload_n hx hb d_m541_10 rfl (lv_at hl 0 rfl) ?_
    refine lv_iconst (v := (0 : Int32)) hx hb d_m541_11 (by decide) ?_
    refine va_put (D := (dC, dI)) (ci := 2) (v := .int (0 : Int32)) (ty := .int) (C := "ScanCoder$BitWriter") (T := T_2) (N := 7) hx hb hts n0 ty_2 tyok_2 nm_2 hown hK hP hD hS 0 rfl rfl 4 (by decide) k2 (fun _ h9 => h9) rfl (by decide +kernel) rfl rfl (Nat.le_of_ble_eq_true rfl) d_m541_12 (fun H locs hP hD hS => ?_)
    have hP : va_P (dC, dI) vwCl (w_BitWriter_begin cI cB cS cT a_wr a_tbs a_sto p0 (0 : Int32) (0 : Int32) wr_length wr_lacksWord) H := hP
    have hD : va_D A (w_BitWriter_begin cI cB cS cT a_wr a_tbs a_sto p0 (0 : Int32) (0 : Int32) wr_length wr_lacksWord) := hD
    refine lv_aload_n hx hb d_m541_15 rfl (lv_at hl 0 rfl) ?_
    refine lv_iconst (v := (0 : Int32)) hx hb d_m541_16 (by decide) ?_
    refine va_put (D := (dC, dI)) (ci := 2) (v := .int (0 : Int32)) (ty := .int) (C := "ScanCoder$BitWriter") (T := T_2) (N := 7) hx hb hts n0 ty_2 tyok_2 nm_2 hown hK hP hD hS 0 rfl rfl 5 (by decide) k3 (fun _ h9 => h9) rfl (by decide +kernel) rfl rfl (Nat.le_of_ble_eq_true rfl) d_m541_17 (fun H locs hP hD hS => ?_)
    have hP : va_P (dC, dI) vwCl (w_BitWriter_begin cI cB cS cT a_wr a_tbs a_sto p0 (0 : Int32) (0 : Int32) (0 : Int32) wr_lacksWord) H := hP
    have hD : va_D A (w_BitWriter_begin cI cB cS cT a_wr a_tbs a_sto p0 (0 : Int32) (0 : Int32) (0 : Int32) wr_lacksWord) := hD
    refine lv_aload_n hx hb d_m541_20 rfl (lv_at hl 0 rfl) ?_
    refine lv_iconst (v := (0 : Int32)) hx hb d_m541_21 (by decide) ?_
    refine va_put (D := (dC, dI)) (ci := 2) (v := .int (0 : Int32)) (ty := .boolean) (C := "ScanCoder$BitWriter") (T := T_2) (N := 7) hx hb hts n0 ty_2 tyok_2 nm_2 hown hK hP hD hS 0 rfl rfl 6 (by decide) k4 (fun _ h9 => h9) rfl (by decide +kernel) rfl rfl (Nat.le_of_ble_eq_true rfl) d_m541_22 (fun H locs hP hD hS => ?_)
    have hP : va_P (dC, dI) vwCl (w_BitWriter_begin cI cB cS cT a_wr a_tbs a_sto p0 (0 : Int32) (0 : Int32) (0 : Int32) (0 : Int32)) H := hP
    have hD : va_D A (w_BitWriter_begin cI cB cS cT a_wr a_tbs a_sto p0 (0 : Int32) (0 : Int32) (0 : Int32) (0 : Int32)) := hD
    obtain rfl := Option.some.inj hf
    subst hQ
    subst hAe
    exact W.vret hx hb hr (fun t ht hW => ⟨⟨(), rfl, trivial, by rw [ht]; exact hP, hD⟩, hS.F ht⟩) hS.2.2 d_m541_25
  exact hgo _ _ hP hS
def f_BitWriter_putByte_J36 (sto_b_j36 : Nat → Int32) (wr_length : Int32) : Option ((Nat → Int32) × Int32) :=
  some (sto_b_j36, wr_length + (1 : Int32))
def f_BitWriter_putByte (p0 : Int32) (n_sto_b : Nat) (sto_b : Nat → Int32) (wr_keeps : Int32) (wr_length : Int32) : Option ((Nat → Int32) × Int32) :=
  if wr_keeps = 0 then
    f_BitWriter_putByte_J36 sto_b wr_length
  else
    if (Int32.ofNat n_sto_b) ≤ wr_length then
      f_BitWriter_putByte_J36 sto_b wr_length
    else
      if wr_length < 0 ∨ n_sto_b ≤ wr_length.toNatClampNeg then none else
      f_BitWriter_putByte_J36 (upd sto_b wr_length.toNatClampNeg (vp_nar .byte p0.toInt8.toInt32)) wr_length
abbrev w_BitWriter_putByte (cI cB cS cT : ClassId) (a_sto : Nat) (a_sto_b : Nat) (a_wr : Nat) (a_tbs : Nat) (sto_length : Int32) (n_sto_b : Nat) (sto_b : Nat → Int32) (wr_keeps : Int32) (wr_part : Int32) (wr_filled : Int32) (wr_length : Int32) (wr_lacksWord : Int32) : va_W := [(a_sto, .inr (9, [.ref a_sto_b, .int sto_length])), (a_sto_b, .inl (cB, n_sto_b, .inl sto_b)), (a_wr, .inr (2, [.ref a_tbs, .ref a_sto, .int wr_keeps, .int wr_part, .int wr_filled, .int wr_length, .int wr_lacksWord]))]
def rm_BitWriter_putByte : Room := { frames := 0, cells := 0, slots := 0, locals := 0 }
set_option maxHeartbeats 1000000 in
set_option maxRecDepth 100000 in
theorem c_BitWriter_putByte (l : Launch) (dC : Nat → ClassId) (dI : Nat → Nat → Nat) (cI cB cS cT : ClassId) (a_sto : Nat) (a_sto_b : Nat) (a_wr : Nat) (a_tbs : Nat) (sto_length : Int32) (n_sto_b : Nat) (sto_b : Nat → Int32) (wr_keeps : Int32) (wr_part : Int32) (wr_filled : Int32) (wr_length : Int32) (wr_lacksWord : Int32) (p0 : Int32) (sz : Nat) (z : (Nat → Int32) × Int32) (hf : f_BitWriter_putByte p0 n_sto_b sto_b wr_keeps wr_length = some z) : Met l y_m583 ws_m583 rm_BitWriter_putByte (gPre (dC, dI) [.ref a_wr, .int p0] (gT cI cB cS cT) (w_BitWriter_putByte cI cB cS cT a_sto a_sto_b a_wr a_tbs sto_length n_sto_b sto_b wr_keeps wr_part wr_filled wr_length wr_lacksWord) sz) (gQv (dC, dI) (gT cI cB cS cT) (w_BitWriter_putByte cI cB cS cT a_sto a_sto_b a_wr a_tbs sto_length n_sto_b sto_b wr_keeps wr_part wr_filled wr_length wr_lacksWord) (w_BitWriter_putByte cI cB cS cT a_sto a_sto_b a_wr a_tbs sto_length n_sto_b z.1 wr_keeps wr_part wr_filled z.2 wr_lacksWord) sz) 0 0 (va_A (w_BitWriter_putByte cI cB cS cT a_sto a_sto_b a_wr a_tbs sto_length n_sto_b sto_b wr_keeps wr_part wr_filled wr_length wr_lacksWord) sz) := by
  refine Met.ofW (cc := prog_3_method_5_code) (maxL := 2) (ret := none) (by decide) rfl ?_
  intro p e s m args below meth c s₁ B hml hv
  obtain ⟨hargs, hsz, hP, hKN, hD0⟩ := hv
  have hK := hKN.1
  have hx := B.exec
  have hb := B.bytes
  have hr := B.returns
  have hts := atoms_spec (ws := ws_m583) B.pre
  have hown : s.vm.findClass "ScanCoder$BitWriter" = some m.cls := findClass_of_methodNamed B.named
  have hlocks := B.notSynchronized
  have k0 := hts _ (List.mem_cons_of_mem _ tw_315)
  have k1 := hts _ (List.mem_cons_of_mem _ tw_318)
  have k2 := hts _ (List.mem_cons_of_mem _ tw_314)
  have k3 := hts _ (List.mem_cons_of_mem _ tw_280)
  have n0 : ∀ w ∈ u_ws "ScanCoder$BitWriter" T_2 7, w ∈ ws_m583 := fun w h => List.mem_cons_of_mem _ (in_2 w h)
  have n1 : ∀ w ∈ u_ws "ScanCoder$Store" T_9 2, w ∈ ws_m583 := fun w h => List.mem_cons_of_mem _ (in_9 w h)
  subst hsz
  have hD := hD0.self (sz := s.heap.size)
  obtain ⟨A, hAe⟩ : ∃ A : Nat → Prop, va_A (w_BitWriter_putByte cI cB cS cT a_sto a_sto_b a_wr a_tbs sto_length n_sto_b sto_b wr_keeps wr_part wr_filled wr_length wr_lacksWord) s.heap.size = A := ⟨_, rfl⟩
  rw [hAe] at hD
  have hA : ∀ q : Nat, s.heap.size ≤ q → A q := fun q h => by rw [← hAe]; exact Or.inr h
  have hS : va_S A s.heap s.heap [] := va_S.rf
  have hl := lv_entry ([.ref a_wr, .int p0]) (n := 2) (Nat.le_of_ble_eq_true rfl)
  have hfr : entryFrame m args 2 = F0 m 0 ((lg_sl ([.ref a_wr, .int p0]) ++ List.replicate (2 - (lg_sl ([.ref a_wr, .int p0])).length) Slot.unset).toArray) [] := by rw [hargs]; exact lg_entry_eq _ _ _
  rw [hfr]
  generalize (lg_sl ([.ref a_wr, .int p0]) ++ List.replicate (2 - (lg_sl ([.ref a_wr, .int p0])).length) Slot.unset).toArray = ls at hl ⊢
  have hl : lv_has ls 2 [(0, .ref a_wr), (1, .int p0)] := hl
  refine gen_Q (fun Q hQ => ?_)
  clear hfr
  have J36 : ∀ (sto_b_j36 : Nat → Int32), f_BitWriter_putByte_J36 sto_b_j36 wr_length = some z → GW (dC, dI) A p l e (headSpec ws_m583 rm_BitWriter_putByte).room s m args below meth c 0 0 Q 2 36 (w_BitWriter_putByte cI cB cS cT a_sto a_sto_b a_wr a_tbs sto_length n_sto_b sto_b_j36 wr_keeps wr_part wr_filled wr_length wr_lacksWord) [(0, .ref a_wr)] [] := by
    intro sto_b_j36 hf H locs ls hP hD hS hl
    unfold f_BitWriter_putByte_J36 at hf
    refine lv_aload_n hx hb d_m583_36 rfl (lv_at hl 0 rfl) ?_
    refine lv_dup hx hb d_m583_37 rfl ?_
    refine va_get (D := (dC, dI)) (ci := 2) (v := .int wr_length) (C := "ScanCoder$BitWriter") (T := T_2) (N := 7) hx hb hts n0 hown hK hP 2 rfl rfl 5 (by decide) k1 (fun _ h9 => h9) rfl d_m583_38 ?_
    refine lv_iconst (v := (1 : Int32)) hx hb d_m583_41 (by decide) ?_
    refine lv_iadd hx hb d_m583_42 ?_
    refine va_put (D := (dC, dI)) (ci := 2) (v := .int (wr_length + (1 : Int32))) (ty := .int) (C := "ScanCoder$BitWriter") (T := T_2) (N := 7) hx hb hts n0 ty_2 tyok_2 nm_2 hown hK hP hD hS 2 rfl rfl 5 (by decide) k1 (fun _ h9 => h9) rfl (by decide +kernel) rfl rfl (Nat.le_of_ble_eq_true rfl) d_m583_43 (fun H locs hP hD hS => ?_)
    have hP : va_P (dC, dI) vwCl (w_BitWriter_putByte cI cB cS cT a_sto a_sto_b a_wr a_tbs sto_length n_sto_b sto_b_j36 wr_keeps wr_part wr_filled (wr_length + (1 : Int32)) wr_lacksWord) H := hP
    have hD : va_D A (w_BitWriter_putByte cI cB cS cT a_sto a_sto_b a_wr a_tbs sto_length n_sto_b sto_b_j36 wr_keeps wr_part wr_filled (wr_length + (1 : Int32)) wr_lacksWord) := hD
    obtain rfl := Option.some.inj hf
    subst hQ
    subst hAe
    exact W.vret hx hb hr (fun t ht hW => ⟨⟨(), rfl, trivial, by rw [ht]; exact hP, hD⟩, hS.F ht⟩) hS.2.2 d_m583_46
  have hgo : ∀ (H : Heap) (locs : List Loc), va_P (dC, dI) vwCl (w_BitWriter_putByte cI cB cS cT a_sto a_sto_b a_wr a_tbs sto_length n_sto_b sto_b wr_keeps wr_part wr_filled wr_length wr_lacksWord) H → va_S A s.heap H locs → W p l e (headSpec ws_m583 rm_BitWriter_putByte).room s m args below meth c H locs 0 0 Q (F0 m 0 ls []) := by
    intro H locs hP hS
    unfold f_BitWriter_putByte at hf
    refine lv_aload_n hx hb d_m583_0 rfl (lv_at hl 0 rfl) ?_
    refine va_get (D := (dC, dI)) (ci := 2) (v := .int wr_keeps) (C := "ScanCoder$BitWriter") (T := T_2) (N := 7) hx hb hts n0 hown hK hP 2 rfl rfl 2 (by decide) k0 (fun _ h9 => h9) rfl d_m583_1 ?_
    refine lv_if_eq (tgt := 36) hx hb d_m583_4 (by decide) (fun hc => ?_) (fun hc => ?_)
    · replace hf := (if_pos hc).symm.trans hf
      exact J36 sto_b hf H locs ls hP hD hS (lv_sub hl [0] rfl)
    · replace hf := (if_neg hc).symm.trans hf
      refine lv_aload_n hx hb d_m583_7 rfl (lv_at hl 0 rfl) ?_
      refine va_get (D := (dC, dI)) (ci := 2) (v := .int wr_length) (C := "ScanCoder$BitWriter") (T := T_2) (N := 7) hx hb hts n0 hown hK hP 2 rfl rfl 5 (by decide) k1 (fun _ h9 => h9) rfl d_m583_8 ?_
      refine lv_aload_n hx hb d_m583_11 rfl (lv_at hl 0 rfl) ?_
      refine va_get (D := (dC, dI)) (ci := 2) (v := .ref a_sto) (C := "ScanCoder$BitWriter") (T := T_2) (N := 7) hx hb hts n0 hown hK hP 2 rfl rfl 1 (by decide) k2 (fun _ h9 => h9) rfl d_m583_12 ?_
      refine va_get (D := (dC, dI)) (ci := 9) (v := .ref a_sto_b) (C := "ScanCoder$Store") (T := T_9) (N := 2) hx hb hts n1 hown hK hP 0 rfl rfl 0 (by decide) k3 (fun _ h9 => h9) rfl d_m583_15 ?_
      refine va_alen (v := Int32.ofNat n_sto_b) hx hb hK hP 1 1 rfl rfl rfl d_m583_18 ?_
      refine lv_icmp_ge (tgt := 36) hx hb d_m583_19 (by decide) (fun hc => ?_) (fun hc => ?_)
      · replace hf := (if_pos hc).symm.trans hf
        exact J36 sto_b hf H locs ls hP hD hS (lv_sub hl [0] rfl)
      · replace hf := (if_neg hc).symm.trans hf
        refine lv_aload_n hx hb d_m583_22 rfl (lv_at hl 0 rfl) ?_
        refine va_get (D := (dC, dI)) (ci := 2) (v := .ref a_sto) (C := "ScanCoder$BitWriter") (T := T_2) (N := 7) hx hb hts n0 hown hK hP 2 rfl rfl 1 (by decide) k2 (fun _ h9 => h9) rfl d_m583_23 ?_
        refine va_get (D := (dC, dI)) (ci := 9) (v := .ref a_sto_b) (C := "ScanCoder$Store") (T := T_9) (N := 2) hx hb hts n1 hown hK hP 0 rfl rfl 0 (by decide) k3 (fun _ h9 => h9) rfl d_m583_26 ?_
        refine lv_aload_n hx hb d_m583_29 rfl (lv_at hl 0 rfl) ?_
        refine va_get (D := (dC, dI)) (ci := 2) (v := .int wr_length) (C := "ScanCoder$BitWriter") (T := T_2) (N := 7) hx hb hts n0 hown hK hP 2 rfl rfl 5 (by decide) k1 (fun _ h9 => h9) rfl d_m583_30 ?_
        refine lv_iload_n hx hb d_m583_33 rfl (lv_at hl 1 rfl) ?_
        refine lv_i2b hx hb d_m583_34 rfl ?_
        obtain ⟨hi, hf⟩ := ob_if hf
        refine va_bast hx hb hK hP hD hS 1 1 rfl rfl hi d_m583_35 (fun H locs hP hD hS => ?_)
        have hP : va_P (dC, dI) vwCl (w_BitWriter_putByte cI cB cS cT a_sto a_sto_b a_wr a_tbs sto_length n_sto_b (upd sto_b wr_length.toNatClampNeg (vp_nar .byte p0.toInt8.toInt32)) wr_keeps wr_part wr_filled wr_length wr_lacksWord) H := hP
        have hD : va_D A (w_BitWriter_putByte cI cB cS cT a_sto a_sto_b a_wr a_tbs sto_length n_sto_b (upd sto_b wr_length.toNatClampNeg (vp_nar .byte p0.toInt8.toInt32)) wr_keeps wr_part wr_filled wr_length wr_lacksWord) := hD
        exact J36 (upd sto_b wr_length.toNatClampNeg (vp_nar .byte p0.toInt8.toInt32)) hf H locs ls hP hD hS (lv_sub hl [0] rfl)
  exact hgo _ _ hP hS
def f_BitWriter_putBits_J5_83 (N : Nat) (rec : (Int32 × (Nat → Int32) × Int32 × Int32 × Int32) → Option ((Nat → Int32) × Int32 × Int32 × Int32)) (v4_5 : Int32) (sto_b_j83 : Nat → Int32) (wr_part_j83 : Int32) (wr_filled_j83 : Int32) (wr_length_j83 : Int32) : Option ((Nat → Int32) × Int32 × Int32 × Int32) :=
  rec (v4_5 + (-1 : Int32), sto_b_j83, wr_part_j83, wr_filled_j83, wr_length_j83)
def f_BitWriter_putBits_J5_73 (N : Nat) (rec : (Int32 × (Nat → Int32) × Int32 × Int32 × Int32) → Option ((Nat → Int32) × Int32 × Int32 × Int32)) (v4_5 : Int32) (sto_b_j73 : Nat → Int32) (wr_length_j73 : Int32) : Option ((Nat → Int32) × Int32 × Int32 × Int32) :=
  f_BitWriter_putBits_J5_83 N rec v4_5 sto_b_j73 (0 : Int32) (0 : Int32) wr_length_j73
def f_BitWriter_putBits_L5b (p0 : Int64) (n_sto_b : Nat) (wr_keeps : Int32) (N : Nat) (rec : (Int32 × (Nat → Int32) × Int32 × Int32 × Int32) → Option ((Nat → Int32) × Int32 × Int32 × Int32)) (v4_5 : Int32) (sto_b_5 : Nat → Int32) (wr_part_5 : Int32) (wr_filled_5 : Int32) (wr_length_5 : Int32) : Option ((Nat → Int32) × Int32 × Int32 × Int32) :=
  if v4_5 < 0 then
    some (sto_b_5, wr_part_5, wr_filled_5, wr_length_5)
  else
    if (8 : Int32) ≤ (wr_filled_5 + (1 : Int32)) then
      (f_BitWriter_putByte ((wr_part_5 <<< ((1 : Int32) &&& 31)) ||| ((((p0.toUInt64 >>> (v4_5.toInt64.toUInt64 &&& Int64.toUInt64 63)).toInt64) &&& (1 : Int64)).toInt32)) n_sto_b sto_b_5 wr_keeps wr_length_5).bind fun z1 =>
      if ((wr_part_5 <<< ((1 : Int32) &&& 31)) ||| ((((p0.toUInt64 >>> (v4_5.toInt64.toUInt64 &&& Int64.toUInt64 63)).toInt64) &&& (1 : Int64)).toInt32)) = (255 : Int32) then
        (f_BitWriter_putByte (0 : Int32) n_sto_b z1.1 wr_keeps z1.2).bind fun z2 =>
        f_BitWriter_putBits_J5_73 N rec v4_5 z2.1 z2.2
      else
        f_BitWriter_putBits_J5_73 N rec v4_5 z1.1 z1.2
    else
      f_BitWriter_putBits_J5_83 N rec v4_5 sto_b_5 ((wr_part_5 <<< ((1 : Int32) &&& 31)) ||| ((((p0.toUInt64 >>> (v4_5.toInt64.toUInt64 &&& Int64.toUInt64 63)).toInt64) &&& (1 : Int64)).toInt32)) (wr_filled_5 + (1 : Int32)) wr_length_5
def f_BitWriter_putBits_L5 (p0 : Int64) (n_sto_b : Nat) (wr_keeps : Int32) (N : Nat) (k : Nat) : (Int32 × (Nat → Int32) × Int32 × Int32 × Int32) → Option ((Nat → Int32) × Int32 × Int32 × Int32) := it (fun rec a => f_BitWriter_putBits_L5b p0 n_sto_b wr_keeps N rec a.1 a.2.1 a.2.2.1 a.2.2.2.1 a.2.2.2.2) k
def f_BitWriter_putBits (N : Nat) (p0 : Int64) (p1 : Int32) (n_sto_b : Nat) (sto_b : Nat → Int32) (wr_keeps : Int32) (wr_part : Int32) (wr_filled : Int32) (wr_length : Int32) : Option ((Nat → Int32) × Int32 × Int32 × Int32) :=
  (f_BitWriter_putBits_L5 p0 n_sto_b wr_keeps N N (p1 - (1 : Int32), sto_b, wr_part, wr_filled, wr_length)).bind fun z3 =>
    some (z3.1, z3.2.1, z3.2.2.1, z3.2.2.2)
abbrev w_BitWriter_putBits (cI cB cS cT : ClassId) (a_sto : Nat) (a_sto_b : Nat) (a_wr : Nat) (a_tbs : Nat) (sto_length : Int32) (n_sto_b : Nat) (sto_b : Nat → Int32) (wr_keeps : Int32) (wr_part : Int32) (wr_filled : Int32) (wr_length : Int32) (wr_lacksWord : Int32) : va_W := [(a_sto, .inr (9, [.ref a_sto_b, .int sto_length])), (a_sto_b, .inl (cB, n_sto_b, .inl sto_b)), (a_wr, .inr (2, [.ref a_tbs, .ref a_sto, .int wr_keeps, .int wr_part, .int wr_filled, .int wr_length, .int wr_lacksWord]))]
def rm_BitWriter_putBits : Room := { frames := 1, cells := 0, slots := 0, locals := 21 }
set_option maxHeartbeats 1000000 in
set_option maxRecDepth 100000 in
theorem c_BitWriter_putBits (l : Launch) (dC : Nat → ClassId) (dI : Nat → Nat → Nat) (cI cB cS cT : ClassId) (N : Nat) (a_sto : Nat) (a_sto_b : Nat) (a_wr : Nat) (a_tbs : Nat) (sto_length : Int32) (n_sto_b : Nat) (sto_b : Nat → Int32) (wr_keeps : Int32) (wr_part : Int32) (wr_filled : Int32) (wr_length : Int32) (wr_lacksWord : Int32) (p0 : Int64) (p1 : Int32) (sz : Nat) (z : (Nat → Int32) × Int32 × Int32 × Int32) (hf : f_BitWriter_putBits N p0 p1 n_sto_b sto_b wr_keeps wr_part wr_filled wr_length = some z) : Met l y_m579 ws_m579 rm_BitWriter_putBits (gPre (dC, dI) [.ref a_wr, .long p0, .int p1] (gT cI cB cS cT) (w_BitWriter_putBits cI cB cS cT a_sto a_sto_b a_wr a_tbs sto_length n_sto_b sto_b wr_keeps wr_part wr_filled wr_length wr_lacksWord) sz) (gQv (dC, dI) (gT cI cB cS cT) (w_BitWriter_putBits cI cB cS cT a_sto a_sto_b a_wr a_tbs sto_length n_sto_b sto_b wr_keeps wr_part wr_filled wr_length wr_lacksWord) (w_BitWriter_putBits cI cB cS cT a_sto a_sto_b a_wr a_tbs sto_length n_sto_b z.1 wr_keeps z.2.1 z.2.2.1 z.2.2.2 wr_lacksWord) sz) 0 0 (va_A (w_BitWriter_putBits cI cB cS cT a_sto a_sto_b a_wr a_tbs sto_length n_sto_b sto_b wr_keeps wr_part wr_filled wr_length wr_lacksWord) sz) := by
  refine Met.ofW (cc := prog_3_method_4_code) (maxL := 5) (ret := none) (by decide) rfl ?_
  intro p e s m args below meth c s₁ B hml hv
  obtain ⟨hargs, hsz, hP, hKN, hD0⟩ := hv
  have hK := hKN.1
  have hx := B.exec
  have hb := B.bytes
  have hr := B.returns
  have hts := atoms_spec (ws := ws_m579) B.pre
  have hown : s.vm.findClass "ScanCoder$BitWriter" = some m.cls := findClass_of_methodNamed B.named
  have hlocks := B.notSynchronized
  have k0 := hts _ (List.mem_cons_of_mem _ tw_316)
  have k1 := hts _ (List.mem_cons_of_mem _ tw_317)
  have n0 : ∀ w ∈ u_ws "ScanCoder$BitWriter" T_2 7, w ∈ ws_m579 := fun w h => List.mem_cons_of_mem _ (in_2 w h)
  subst hsz
  have hD := hD0.self (sz := s.heap.size)
  obtain ⟨A, hAe⟩ : ∃ A : Nat → Prop, va_A (w_BitWriter_putBits cI cB cS cT a_sto a_sto_b a_wr a_tbs sto_length n_sto_b sto_b wr_keeps wr_part wr_filled wr_length wr_lacksWord) s.heap.size = A := ⟨_, rfl⟩
  rw [hAe] at hD
  have hA : ∀ q : Nat, s.heap.size ≤ q → A q := fun q h => by rw [← hAe]; exact Or.inr h
  have hS : va_S A s.heap s.heap [] := va_S.rf
  have hl := lv_entry ([.ref a_wr, .long p0, .int p1]) (n := 5) (Nat.le_of_ble_eq_true rfl)
  have hfr : entryFrame m args 5 = F0 m 0 ((lg_sl ([.ref a_wr, .long p0, .int p1]) ++ List.replicate (5 - (lg_sl ([.ref a_wr, .long p0, .int p1])).length) Slot.unset).toArray) [] := by rw [hargs]; exact lg_entry_eq _ _ _
  rw [hfr]
  generalize (lg_sl ([.ref a_wr, .long p0, .int p1]) ++ List.replicate (5 - (lg_sl ([.ref a_wr, .long p0, .int p1])).length) Slot.unset).toArray = ls at hl ⊢
  have hl : lv_has ls 5 [(0, .ref a_wr), (1, .long p0), (3, .int p1)] := hl
  refine gen_Q (fun Q hQ => ?_)
  clear hfr
  have L5 : ∀  (z : (Nat → Int32) × Int32 × Int32 × Int32), (GW (dC, dI) A p l e (headSpec ws_m579 rm_BitWriter_putBits).room s m args below meth c 0 0 Q 5 89 (w_BitWriter_putBits cI cB cS cT a_sto a_sto_b a_wr a_tbs sto_length n_sto_b z.1 wr_keeps z.2.1 z.2.2.1 z.2.2.2 wr_lacksWord) [] []) → ∀ (k : Nat) (v4_5 : Int32) (sto_b_5 : Nat → Int32) (wr_part_5 : Int32) (wr_filled_5 : Int32) (wr_length_5 : Int32), f_BitWriter_putBits_L5 p0 n_sto_b wr_keeps N k (v4_5, sto_b_5, wr_part_5, wr_filled_5, wr_length_5) = some z → GW (dC, dI) A p l e (headSpec ws_m579 rm_BitWriter_putBits).room s m args below meth c 0 0 Q 5 5 (w_BitWriter_putBits cI cB cS cT a_sto a_sto_b a_wr a_tbs sto_length n_sto_b sto_b_5 wr_keeps wr_part_5 wr_filled_5 wr_length_5 wr_lacksWord) [(0, .ref a_wr), (1, .long p0), (4, .int v4_5)] [] := by
    intro  z hE0 k
    induction k with
    | zero =>
      intro v4_5 sto_b_5 wr_part_5 wr_filled_5 wr_length_5 hf
      exact (it_zero hf).elim
    | succ k ih =>
      intro v4_5 sto_b_5 wr_part_5 wr_filled_5 wr_length_5 hf H locs ls hP hD hS hl
      have J5_83 : ∀ (sto_b_j83 : Nat → Int32) (wr_part_j83 : Int32) (wr_filled_j83 : Int32) (wr_length_j83 : Int32), f_BitWriter_putBits_J5_83 N (f_BitWriter_putBits_L5 p0 n_sto_b wr_keeps N k) v4_5 sto_b_j83 wr_part_j83 wr_filled_j83 wr_length_j83 = some z → GW (dC, dI) A p l e (headSpec ws_m579 rm_BitWriter_putBits).room s m args below meth c 0 0 Q 5 83 (w_BitWriter_putBits cI cB cS cT a_sto a_sto_b a_wr a_tbs sto_length n_sto_b sto_b_j83 wr_keeps wr_part_j83 wr_filled_j83 wr_length_j83 wr_lacksWord) [(0, .ref a_wr), (1, .long p0), (4, .int v4_5)] [] := by
        intro sto_b_j83 wr_part_j83 wr_filled_j83 wr_length_j83 hf H locs ls hP hD hS hl
        unfold f_BitWriter_putBits_J5_83 at hf
        refine lv_iinc (v := v4_5 + (-1 : Int32)) (lv' := [(4, .int (v4_5 + (-1 : Int32))), (0, .ref a_wr), (1, .long p0)]) hx hb d_m579_83 hl (k := 2) rfl rfl (by decide) rfl (fun ls hl => ?_)
        refine lv_goto (tgt := 5) hx hb d_m579_86 (by decide) ?_
        exact ih (v4_5 + (-1 : Int32)) sto_b_j83 wr_part_j83 wr_filled_j83 wr_length_j83 hf H locs ls hP hD hS (lv_sub hl [1, 2, 0] rfl)
      have J5_73 : ∀ (sto_b_j73 : Nat → Int32) (wr_part_j73 : Int32) (wr_filled_j73 : Int32) (wr_length_j73 : Int32), f_BitWriter_putBits_J5_73 N (f_BitWriter_putBits_L5 p0 n_sto_b wr_keeps N k) v4_5 sto_b_j73 wr_length_j73 = some z → GW (dC, dI) A p l e (headSpec ws_m579 rm_BitWriter_putBits).room s m args below meth c 0 0 Q 5 73 (w_BitWriter_putBits cI cB cS cT a_sto a_sto_b a_wr a_tbs sto_length n_sto_b sto_b_j73 wr_keeps wr_part_j73 wr_filled_j73 wr_length_j73 wr_lacksWord) [(0, .ref a_wr), (1, .long p0), (4, .int v4_5)] [] := by
        intro sto_b_j73 wr_part_j73 wr_filled_j73 wr_length_j73 hf H locs ls hP hD hS hl
        unfold f_BitWriter_putBits_J5_73 at hf
        refine lv_aload_n hx hb d_m579_73 rfl (lv_at hl 0 rfl) ?_
        refine lv_iconst (v := (0 : Int32)) hx hb d_m579_74 (by decide) ?_
        refine va_put (D := (dC, dI)) (ci := 2) (v := .int (0 : Int32)) (ty := .int) (C := "ScanCoder$BitWriter") (T := T_2) (N := 7) hx hb hts n0 ty_2 tyok_2 nm_2 hown hK hP hD hS 2 rfl rfl 3 (by decide) k0 (fun _ h9 => h9) rfl (by decide +kernel) rfl rfl (Nat.le_of_ble_eq_true rfl) d_m579_75 (fun H locs hP hD hS => ?_)
        have hP : va_P (dC, dI) vwCl (w_BitWriter_putBits cI cB cS cT a_sto a_sto_b a_wr a_tbs sto_length n_sto_b sto_b_j73 wr_keeps (0 : Int32) wr_filled_j73 wr_length_j73 wr_lacksWord) H := hP
        have hD : va_D A (w_BitWriter_putBits cI cB cS cT a_sto a_sto_b a_wr a_tbs sto_length n_sto_b sto_b_j73 wr_keeps (0 : Int32) wr_filled_j73 wr_length_j73 wr_lacksWord) := hD
        refine lv_aload_n hx hb d_m579_78 rfl (lv_at hl 0 rfl) ?_
        refine lv_iconst (v := (0 : Int32)) hx hb d_m579_79 (by decide) ?_
        refine va_put (D := (dC, dI)) (ci := 2) (v := .int (0 : Int32)) (ty := .int) (C := "ScanCoder$BitWriter") (T := T_2) (N := 7) hx hb hts n0 ty_2 tyok_2 nm_2 hown hK hP hD hS 2 rfl rfl 4 (by decide) k1 (fun _ h9 => h9) rfl (by decide +kernel) rfl rfl (Nat.le_of_ble_eq_true rfl) d_m579_80 (fun H locs hP hD hS => ?_)
        have hP : va_P (dC, dI) vwCl (w_BitWriter_putBits cI cB cS cT a_sto a_sto_b a_wr a_tbs sto_length n_sto_b sto_b_j73 wr_keeps (0 : Int32) (0 : Int32) wr_length_j73 wr_lacksWord) H := hP
        have hD : va_D A (w_BitWriter_putBits cI cB cS cT a_sto a_sto_b a_wr a_tbs sto_length n_sto_b sto_b_j73 wr_keeps (0 : Int32) (0 : Int32) wr_length_j73 wr_lacksWord) := hD
        exact J5_83 sto_b_j73 (0 : Int32) (0 : Int32) wr_length_j73 hf H locs ls hP hD hS hl
      have hf : f_BitWriter_putBits_L5b p0 n_sto_b wr_keeps N (f_BitWriter_putBits_L5 p0 n_sto_b wr_keeps N k) v4_5 sto_b_5 wr_part_5 wr_filled_5 wr_length_5 = some z := hf
      unfold f_BitWriter_putBits_L5b at hf
      refine lv_iload hx hb d_m579_5 (lv_at hl 2 rfl) ?_
      refine lv_if_lt (tgt := 89) hx hb d_m579_7 (by decide) (fun hc => ?_) (fun hc => ?_)
      · replace hf := (if_pos hc).symm.trans hf
        obtain rfl := Option.some.inj hf
        exact hE0  H locs ls hP hD hS (lv_sub hl [] rfl)
      · replace hf := (if_neg hc).symm.trans hf
        refine lv_aload_n hx hb d_m579_10 rfl (lv_at hl 0 rfl) ?_
        refine lv_aload_n hx hb d_m579_11 rfl (lv_at hl 0 rfl) ?_
        refine va_get (D := (dC, dI)) (ci := 2) (v := .int wr_part_5) (C := "ScanCoder$BitWriter") (T := T_2) (N := 7) hx hb hts n0 hown hK hP 2 rfl rfl 3 (by decide) k0 (fun _ h9 => h9) rfl d_m579_12 ?_
        refine lv_iconst (v := (1 : Int32)) hx hb d_m579_15 (by decide) ?_
        refine lv_ishl hx hb d_m579_16 ?_
        refine lv_lload_n hx hb d_m579_17 rfl (lv_at hl 1 rfl) ?_
        refine lv_iload hx hb d_m579_18 (lv_at hl 2 rfl) ?_
        refine lv_lushr hx hb d_m579_20 rfl ?_
        refine lv_lconst (v := (1 : Int64)) hx hb d_m579_21 (by decide) ?_
        refine lv_land hx hb d_m579_22 ?_
        refine lv_l2i hx hb d_m579_23 rfl ?_
        refine lv_ior hx hb d_m579_24 ?_
        refine va_put (D := (dC, dI)) (ci := 2) (v := .int ((wr_part_5 <<< ((1 : Int32) &&& 31)) ||| ((((p0.toUInt64 >>> (v4_5.toInt64.toUInt64 &&& Int64.toUInt64 63)).toInt64) &&& (1 : Int64)).toInt32))) (ty := .int) (C := "ScanCoder$BitWriter") (T := T_2) (N := 7) hx hb hts n0 ty_2 tyok_2 nm_2 hown hK hP hD hS 2 rfl rfl 3 (by decide) k0 (fun _ h9 => h9) rfl (by decide +kernel) rfl rfl (Nat.le_of_ble_eq_true rfl) d_m579_25 (fun H locs hP hD hS => ?_)
        have hP : va_P (dC, dI) vwCl (w_BitWriter_putBits cI cB cS cT a_sto a_sto_b a_wr a_tbs sto_length n_sto_b sto_b_5 wr_keeps ((wr_part_5 <<< ((1 : Int32) &&& 31)) ||| ((((p0.toUInt64 >>> (v4_5.toInt64.toUInt64 &&& Int64.toUInt64 63)).toInt64) &&& (1 : Int64)).toInt32)) wr_filled_5 wr_length_5 wr_lacksWord) H := hP
        have hD : va_D A (w_BitWriter_putBits cI cB cS cT a_sto a_sto_b a_wr a_tbs sto_length n_sto_b sto_b_5 wr_keeps ((wr_part_5 <<< ((1 : Int32) &&& 31)) ||| ((((p0.toUInt64 >>> (v4_5.toInt64.toUInt64 &&& Int64.toUInt64 63)).toInt64) &&& (1 : Int64)).toInt32)) wr_filled_5 wr_length_5 wr_lacksWord) := hD
        refine lv_aload_n hx hb d_m579_28 rfl (lv_at hl 0 rfl) ?_
        refine lv_dup hx hb d_m579_29 rfl ?_
        refine va_get (D := (dC, dI)) (ci := 2) (v := .int wr_filled_5) (C := "ScanCoder$BitWriter") (T := T_2) (N := 7) hx hb hts n0 hown hK hP 2 rfl rfl 4 (by decide) k1 (fun _ h9 => h9) rfl d_m579_30 ?_
        refine lv_iconst (v := (1 : Int32)) hx hb d_m579_33 (by decide) ?_
        refine lv_iadd hx hb d_m579_34 ?_
        refine va_put (D := (dC, dI)) (ci := 2) (v := .int (wr_filled_5 + (1 : Int32))) (ty := .int) (C := "ScanCoder$BitWriter") (T := T_2) (N := 7) hx hb hts n0 ty_2 tyok_2 nm_2 hown hK hP hD hS 2 rfl rfl 4 (by decide) k1 (fun _ h9 => h9) rfl (by decide +kernel) rfl rfl (Nat.le_of_ble_eq_true rfl) d_m579_35 (fun H locs hP hD hS => ?_)
        have hP : va_P (dC, dI) vwCl (w_BitWriter_putBits cI cB cS cT a_sto a_sto_b a_wr a_tbs sto_length n_sto_b sto_b_5 wr_keeps ((wr_part_5 <<< ((1 : Int32) &&& 31)) ||| ((((p0.toUInt64 >>> (v4_5.toInt64.toUInt64 &&& Int64.toUInt64 63)).toInt64) &&& (1 : Int64)).toInt32)) (wr_filled_5 + (1 : Int32)) wr_length_5 wr_lacksWord) H := hP
        have hD : va_D A (w_BitWriter_putBits cI cB cS cT a_sto a_sto_b a_wr a_tbs sto_length n_sto_b sto_b_5 wr_keeps ((wr_part_5 <<< ((1 : Int32) &&& 31)) ||| ((((p0.toUInt64 >>> (v4_5.toInt64.toUInt64 &&& Int64.toUInt64 63)).toInt64) &&& (1 : Int64)).toInt32)) (wr_filled_5 + (1 : Int32)) wr_length_5 wr_lacksWord) := hD
        refine lv_aload_n hx hb d_m579_38 rfl (lv_at hl 0 rfl) ?_
        refine va_get (D := (dC, dI)) (ci := 2) (v := .int (wr_filled_5 + (1 : Int32))) (C := "ScanCoder$BitWriter") (T := T_2) (N := 7) hx hb hts n0 hown hK hP 2 rfl rfl 4 (by decide) k1 (fun _ h9 => h9) rfl d_m579_39 ?_
        refine lv_bipush (v := (8 : Int32)) hx hb d_m579_42 (by decide) ?_
        refine lv_icmp_ge (tgt := 50) hx hb d_m579_44 (by decide) (fun hc => ?_) (fun hc => ?_)
        · replace hf := (if_pos hc).symm.trans hf
          refine lv_aload_n hx hb d_m579_50 rfl (lv_at hl 0 rfl) ?_
          refine lv_aload_n hx hb d_m579_51 rfl (lv_at hl 0 rfl) ?_
          refine va_get (D := (dC, dI)) (ci := 2) (v := .int ((wr_part_5 <<< ((1 : Int32) &&& 31)) ||| ((((p0.toUInt64 >>> (v4_5.toInt64.toUInt64 &&& Int64.toUInt64 63)).toInt64) &&& (1 : Int64)).toInt32))) (C := "ScanCoder$BitWriter") (T := T_2) (N := 7) hx hb hts n0 hown hK hP 2 rfl rfl 3 (by decide) k0 (fun _ h9 => h9) rfl d_m579_52 ?_
          obtain ⟨z1, hz1, hf⟩ := ob_bind hf
          refine g_callv (wc := (w_BitWriter_putByte cI cB cS cT a_sto a_sto_b a_wr a_tbs sto_length n_sto_b sto_b_5 wr_keeps ((wr_part_5 <<< ((1 : Int32) &&& 31)) ||| ((((p0.toUInt64 >>> (v4_5.toInt64.toUInt64 &&& Int64.toUInt64 63)).toInt64) &&& (1 : Int64)).toInt32)) (wr_filled_5 + (1 : Int32)) wr_length_5 wr_lacksWord)) (w1 := (w_BitWriter_putByte cI cB cS cT a_sto a_sto_b a_wr a_tbs sto_length n_sto_b z1.1 wr_keeps ((wr_part_5 <<< ((1 : Int32) &&& 31)) ||| ((((p0.toUInt64 >>> (v4_5.toInt64.toUInt64 &&& Int64.toUInt64 63)).toInt64) &&& (1 : Int64)).toInt32)) (wr_filled_5 + (1 : Int32)) z1.2 wr_lacksWord)) (w2 := (w_BitWriter_putBits cI cB cS cT a_sto a_sto_b a_wr a_tbs sto_length n_sto_b z1.1 wr_keeps ((wr_part_5 <<< ((1 : Int32) &&& 31)) ||| ((((p0.toUInt64 >>> (v4_5.toInt64.toUInt64 &&& Int64.toUInt64 63)).toInt64) &&& (1 : Int64)).toInt32)) (wr_filled_5 + (1 : Int32)) z1.2 wr_lacksWord)) [0, 1, 2] [some 0, some 1, some 2] hP hD hS hA rfl rfl rfl rfl (va_runV (As := [.int ((wr_part_5 <<< ((1 : Int32) &&& 31)) ||| ((((p0.toUInt64 >>> (v4_5.toInt64.toUInt64 &&& Int64.toUInt64 63)).toInt64) &&& (1 : Int64)).toInt32))]) (rest := []) ⟨hx, hb, hml, hown, hts⟩ (c_BitWriter_putByte l dC dI cI cB cS cT a_sto a_sto_b a_wr a_tbs sto_length n_sto_b sto_b_5 wr_keeps ((wr_part_5 <<< ((1 : Int32) &&& 31)) ||| ((((p0.toUInt64 >>> (v4_5.toInt64.toUInt64 &&& Int64.toUInt64 63)).toInt64) &&& (1 : Int64)).toInt32)) (wr_filled_5 + (1 : Int32)) wr_length_5 wr_lacksWord ((wr_part_5 <<< ((1 : Int32) &&& 31)) ||| ((((p0.toUInt64 >>> (v4_5.toInt64.toUInt64 &&& Int64.toUInt64 63)).toInt64) &&& (1 : Int64)).toInt32)) H.size z1 hz1) ⟨(callB_of 1 hts (gi tw_583 rfl) rfl rfl rfl (hts _ (List.mem_cons_of_mem _ tw_12)) (hts _ (List.mem_cons_of_mem _ tw_580)) (by decide +kernel) ⟨Nat.le_of_ble_eq_true rfl, Nat.le_of_ble_eq_true rfl⟩), hts _ (List.mem_cons_of_mem _ tw_582), hts _ (List.mem_cons_of_mem _ ts_m583)⟩ ⟨g_blind, va_recv hK hP (ci := 2) (q0 := 2) rfl rfl, g_at hKN (g_pm hP [0, 1, 2] rfl) (hD.sub [0, 1, 2] (by decide) rfl)⟩ rfl rfl hl.1 rfl (lv_room (Nat.le_of_ble_eq_true rfl)) d_m579_55 ⟨Nat.zero_le _, Nat.zero_le _⟩) (fun H locs hP hD hS => ?_)
          refine W.eq (g2 := F0 m 58 ls []) rfl ?_
          refine lv_aload_n hx hb d_m579_58 rfl (lv_at hl 0 rfl) ?_
          refine va_get (D := (dC, dI)) (ci := 2) (v := .int ((wr_part_5 <<< ((1 : Int32) &&& 31)) ||| ((((p0.toUInt64 >>> (v4_5.toInt64.toUInt64 &&& Int64.toUInt64 63)).toInt64) &&& (1 : Int64)).toInt32))) (C := "ScanCoder$BitWriter") (T := T_2) (N := 7) hx hb hts n0 hown hK hP 2 rfl rfl 3 (by decide) k0 (fun _ h9 => h9) rfl d_m579_59 ?_
          refine lv_sipush (v := (255 : Int32)) hx hb d_m579_62 (by decide) ?_
          refine lv_icmp_ne (tgt := 73) hx hb d_m579_65 (by decide) (fun hc => ?_) (fun hc => ?_)
          · replace hf := (if_neg hc).symm.trans hf
            exact J5_73 z1.1 ((wr_part_5 <<< ((1 : Int32) &&& 31)) ||| ((((p0.toUInt64 >>> (v4_5.toInt64.toUInt64 &&& Int64.toUInt64 63)).toInt64) &&& (1 : Int64)).toInt32)) (wr_filled_5 + (1 : Int32)) z1.2 hf H locs ls hP hD hS hl
          · replace hf := (if_pos hc).symm.trans hf
            refine lv_aload_n hx hb d_m579_68 rfl (lv_at hl 0 rfl) ?_
            refine lv_iconst (v := (0 : Int32)) hx hb d_m579_69 (by decide) ?_
            obtain ⟨z2, hz2, hf⟩ := ob_bind hf
            refine g_callv (wc := (w_BitWriter_putByte cI cB cS cT a_sto a_sto_b a_wr a_tbs sto_length n_sto_b z1.1 wr_keeps ((wr_part_5 <<< ((1 : Int32) &&& 31)) ||| ((((p0.toUInt64 >>> (v4_5.toInt64.toUInt64 &&& Int64.toUInt64 63)).toInt64) &&& (1 : Int64)).toInt32)) (wr_filled_5 + (1 : Int32)) z1.2 wr_lacksWord)) (w1 := (w_BitWriter_putByte cI cB cS cT a_sto a_sto_b a_wr a_tbs sto_length n_sto_b z2.1 wr_keeps ((wr_part_5 <<< ((1 : Int32) &&& 31)) ||| ((((p0.toUInt64 >>> (v4_5.toInt64.toUInt64 &&& Int64.toUInt64 63)).toInt64) &&& (1 : Int64)).toInt32)) (wr_filled_5 + (1 : Int32)) z2.2 wr_lacksWord)) (w2 := (w_BitWriter_putBits cI cB cS cT a_sto a_sto_b a_wr a_tbs sto_length n_sto_b z2.1 wr_keeps ((wr_part_5 <<< ((1 : Int32) &&& 31)) ||| ((((p0.toUInt64 >>> (v4_5.toInt64.toUInt64 &&& Int64.toUInt64 63)).toInt64) &&& (1 : Int64)).toInt32)) (wr_filled_5 + (1 : Int32)) z2.2 wr_lacksWord)) [0, 1, 2] [some 0, some 1, some 2] hP hD hS hA rfl rfl rfl rfl (va_runV (As := [.int (0 : Int32)]) (rest := []) ⟨hx, hb, hml, hown, hts⟩ (c_BitWriter_putByte l dC dI cI cB cS cT a_sto a_sto_b a_wr a_tbs sto_length n_sto_b z1.1 wr_keeps ((wr_part_5 <<< ((1 : Int32) &&& 31)) ||| ((((p0.toUInt64 >>> (v4_5.toInt64.toUInt64 &&& Int64.toUInt64 63)).toInt64) &&& (1 : Int64)).toInt32)) (wr_filled_5 + (1 : Int32)) z1.2 wr_lacksWord (0 : Int32) H.size z2 hz2) ⟨(callB_of 1 hts (gi tw_583 rfl) rfl rfl rfl (hts _ (List.mem_cons_of_mem _ tw_12)) (hts _ (List.mem_cons_of_mem _ tw_580)) (by decide +kernel) ⟨Nat.le_of_ble_eq_true rfl, Nat.le_of_ble_eq_true rfl⟩), hts _ (List.mem_cons_of_mem _ tw_582), hts _ (List.mem_cons_of_mem _ ts_m583)⟩ ⟨g_blind, va_recv hK hP (ci := 2) (q0 := 2) rfl rfl, g_at hKN (g_pm hP [0, 1, 2] rfl) (hD.sub [0, 1, 2] (by decide) rfl)⟩ rfl rfl hl.1 rfl (lv_room (Nat.le_of_ble_eq_true rfl)) d_m579_70 ⟨Nat.zero_le _, Nat.zero_le _⟩) (fun H locs hP hD hS => ?_)
            refine W.eq (g2 := F0 m 73 ls []) rfl ?_
            exact J5_73 z2.1 ((wr_part_5 <<< ((1 : Int32) &&& 31)) ||| ((((p0.toUInt64 >>> (v4_5.toInt64.toUInt64 &&& Int64.toUInt64 63)).toInt64) &&& (1 : Int64)).toInt32)) (wr_filled_5 + (1 : Int32)) z2.2 hf H locs ls hP hD hS hl
        · replace hf := (if_neg hc).symm.trans hf
          refine lv_goto (tgt := 83) hx hb d_m579_47 (by decide) ?_
          exact J5_83 sto_b_5 ((wr_part_5 <<< ((1 : Int32) &&& 31)) ||| ((((p0.toUInt64 >>> (v4_5.toInt64.toUInt64 &&& Int64.toUInt64 63)).toInt64) &&& (1 : Int64)).toInt32)) (wr_filled_5 + (1 : Int32)) wr_length_5 hf H locs ls hP hD hS hl
  have hgo : ∀ (H : Heap) (locs : List Loc), va_P (dC, dI) vwCl (w_BitWriter_putBits cI cB cS cT a_sto a_sto_b a_wr a_tbs sto_length n_sto_b sto_b wr_keeps wr_part wr_filled wr_length wr_lacksWord) H → va_S A s.heap H locs → W p l e (headSpec ws_m579 rm_BitWriter_putBits).room s m args below meth c H locs 0 0 Q (F0 m 0 ls []) := by
    intro H locs hP hS
    unfold f_BitWriter_putBits at hf
    refine lv_iload_n hx hb d_m579_0 rfl (lv_at hl 2 rfl) ?_
    refine lv_iconst (v := (1 : Int32)) hx hb d_m579_1 (by decide) ?_
    refine lv_isub hx hb d_m579_2 ?_
    refine lv_istore (lv' := [(4, .int (p1 - (1 : Int32))), (0, .ref a_wr), (1, .long p0), (3, .int p1)]) hx hb d_m579_3 hl (by decide) rfl (fun ls hl => ?_)
    obtain ⟨z3, hz3, hf⟩ := ob_bind hf
    refine L5  z3 ?_ N (p1 - (1 : Int32)) sto_b wr_part wr_filled wr_length hz3 H locs ls hP hD hS (lv_sub hl [1, 2, 0] rfl)
    · intro H locs ls hP hD hS hl
      obtain rfl := Option.some.inj hf
      subst hQ
      subst hAe
      exact W.vret hx hb hr (fun t ht hW => ⟨⟨(), rfl, trivial, by rw [ht]; exact hP, hD⟩, hS.F ht⟩) hS.2.2 d_m579_89
  exact hgo _ _ hP hS

def f_BitWriter_putWord (N : Nat) (p0 : Int32) (p1 : Int32) (n_sto_b : Nat) (sto_b : Nat → Int32) (wr_keeps : Int32) (wr_part : Int32) (wr_filled : Int32) (wr_length : Int32) (wr_lacksWord : Int32) (vw : Nat → Nat → Int32) : Option ((Nat → Int32) × Int32 × Int32 × Int32 × Int32) :=
  if p0 < 0 ∨ 8 ≤ p0.toNatClampNeg then none else
  if p1 < 0 ∨ 256 ≤ p1.toNatClampNeg then none else
  if (vw p0.toNatClampNeg p1.toNatClampNeg) = 0 then
    some (sto_b, wr_part, wr_filled, wr_length, (1 : Int32))
  else
    (f_SC_sizeOf N (vw p0.toNatClampNeg p1.toNatClampNeg)).bind fun z2 =>
    (f_BitWriter_putBits N ((vw p0.toNatClampNeg p1.toNatClampNeg).toInt64) (z2 - (1 : Int32)) n_sto_b sto_b wr_keeps wr_part wr_filled wr_length).bind fun z3 =>
    some (z3.1, z3.2.1, z3.2.2.1, z3.2.2.2, wr_lacksWord)
abbrev w_BitWriter_putWord (cI cB cS cT : ClassId) (a_sto : Nat) (a_sto_b : Nat) (a_wr : Nat) (a_tbs : Nat) (sto_length : Int32) (n_sto_b : Nat) (sto_b : Nat → Int32) (wr_keeps : Int32) (wr_part : Int32) (wr_filled : Int32) (wr_length : Int32) (wr_lacksWord : Int32) (ta : Nat → Nat) (tw : Nat → Nat) (ts : Nat → Nat) (tf : Nat → Nat) (tx : Nat → Nat) (vw : Nat → Nat → Int32) (vs : Nat → Nat → Int32) (vf : Nat → Nat → Int32) (vx : Nat → Nat → Int32) (ve : Nat → Int32) (vz : Nat → Int32) : va_W := [(a_sto, .inr (9, [.ref a_sto_b, .int sto_length])), (a_sto_b, .inl (cB, n_sto_b, .inl sto_b)), (a_wr, .inr (2, [.ref a_tbs, .ref a_sto, .int wr_keeps, .int wr_part, .int wr_filled, .int wr_length, .int wr_lacksWord])), (a_tbs, .inl (cT, 8, .inr (.inr (.inr (.inr (fun i => some (ta i)))))))] ++ tbl 10 cI ta tw ts tf tx vw vs vf vx ve vz
def rm_BitWriter_putWord : Room := { frames := 2, cells := 0, slots := 0, locals := 45 }
set_option maxHeartbeats 1000000 in
set_option maxRecDepth 100000 in
theorem c_BitWriter_putWord (l : Launch) (dC : Nat → ClassId) (dI : Nat → Nat → Nat) (cI cB cS cT : ClassId) (N : Nat) (a_sto : Nat) (a_sto_b : Nat) (a_wr : Nat) (a_tbs : Nat) (sto_length : Int32) (n_sto_b : Nat) (sto_b : Nat → Int32) (wr_keeps : Int32) (wr_part : Int32) (wr_filled : Int32) (wr_length : Int32) (wr_lacksWord : Int32) (ta : Nat → Nat) (tw : Nat → Nat) (ts : Nat → Nat) (tf : Nat → Nat) (tx : Nat → Nat) (vw : Nat → Nat → Int32) (vs : Nat → Nat → Int32) (vf : Nat → Nat → Int32) (vx : Nat → Nat → Int32) (ve : Nat → Int32) (vz : Nat → Int32) (p0 : Int32) (p1 : Int32) (sz : Nat) (z : (Nat → Int32) × Int32 × Int32 × Int32 × Int32) (hf : f_BitWriter_putWord N p0 p1 n_sto_b sto_b wr_keeps wr_part wr_filled wr_length wr_lacksWord vw = some z) : Met l y_m574 ws_m574 rm_BitWriter_putWord (gPre (dC, dI) [.ref a_wr, .int p0, .int p1] (gT cI cB cS cT) (w_BitWriter_putWord cI cB cS cT a_sto a_sto_b a_wr a_tbs sto_length n_sto_b sto_b wr_keeps wr_part wr_filled wr_length wr_lacksWord ta tw ts tf tx vw vs vf vx ve vz) sz) (gQv (dC, dI) (gT cI cB cS cT) (w_BitWriter_putWord cI cB cS cT a_sto a_sto_b a_wr a_tbs sto_length n_sto_b sto_b wr_keeps wr_part wr_filled wr_length wr_lacksWord ta tw ts tf tx vw vs vf vx ve vz) (w_BitWriter_putWord cI cB cS cT a_sto a_sto_b a_wr a_tbs sto_length n_sto_b z.1 wr_keeps z.2.1 z.2.2.1 z.2.2.2.1 z.2.2.2.2 ta tw ts tf tx vw vs vf vx ve vz) sz) 0 0 (va_A (w_BitWriter_putWord cI cB cS cT a_sto a_sto_b a_wr a_tbs sto_length n_sto_b sto_b wr_keeps wr_part wr_filled wr_length wr_lacksWord ta tw ts tf tx vw vs vf vx ve vz) sz) := by
  refine Met.ofW (cc := prog_3_method_3_code) (maxL := 4) (ret := none) (by decide) rfl ?_
  intro p e s m args below meth c s₁ B hml hv
  obtain ⟨hargs, hsz, hP, hKN, hD0⟩ := hv
  have hK := hKN.1
  have hx := B.exec
  have hb := B.bytes
  have hr := B.returns
  have hts := atoms_spec (ws := ws_m574) B.pre
  have hown : s.vm.findClass "ScanCoder$BitWriter" = some m.cls := findClass_of_methodNamed B.named
  have hlocks := B.notSynchronized
  have k0 := hts _ (List.mem_cons_of_mem _ tw_313)
  have k1 := hts _ (List.mem_cons_of_mem _ tw_252)
  have k2 := hts _ (List.mem_cons_of_mem _ tw_320)
  have n0 : ∀ w ∈ u_ws "ScanCoder$BitWriter" T_2 7, w ∈ ws_m574 := fun w h => List.mem_cons_of_mem _ (in_2 w h)
  have n1 : ∀ w ∈ u_ws "ScanCoder$Table" T_10 6, w ∈ ws_m574 := fun w h => List.mem_cons_of_mem _ (in_10 w h)
  subst hsz
  have hD := hD0.self (sz := s.heap.size)
  obtain ⟨A, hAe⟩ : ∃ A : Nat → Prop, va_A (w_BitWriter_putWord cI cB cS cT a_sto a_sto_b a_wr a_tbs sto_length n_sto_b sto_b wr_keeps wr_part wr_filled wr_length wr_lacksWord ta tw ts tf tx vw vs vf vx ve vz) s.heap.size = A := ⟨_, rfl⟩
  rw [hAe] at hD
  have hA : ∀ q : Nat, s.heap.size ≤ q → A q := fun q h => by rw [← hAe]; exact Or.inr h
  have hS : va_S A s.heap s.heap [] := va_S.rf
  have hl := lv_entry ([.ref a_wr, .int p0, .int p1]) (n := 4) (Nat.le_of_ble_eq_true rfl)
  have hfr : entryFrame m args 4 = F0 m 0 ((lg_sl ([.ref a_wr, .int p0, .int p1]) ++ List.replicate (4 - (lg_sl ([.ref a_wr, .int p0, .int p1])).length) Slot.unset).toArray) [] := by rw [hargs]; exact lg_entry_eq _ _ _
  rw [hfr]
  generalize (lg_sl ([.ref a_wr, .int p0, .int p1]) ++ List.replicate (4 - (lg_sl ([.ref a_wr, .int p0, .int p1])).length) Slot.unset).toArray = ls at hl ⊢
  have hl : lv_has ls 4 [(0, .ref a_wr), (1, .int p0), (2, .int p1)] := hl
  refine gen_Q (fun Q hQ => ?_)
  clear hfr
  have hgo : ∀ (H : Heap) (locs : List Loc), va_P (dC, dI) vwCl (w_BitWriter_putWord cI cB cS cT a_sto a_sto_b a_wr a_tbs sto_length n_sto_b sto_b wr_keeps wr_part wr_filled wr_length wr_lacksWord ta tw ts tf tx vw vs vf vx ve vz) H → va_S A s.heap H locs → W p l e (headSpec ws_m574 rm_BitWriter_putWord).room s m args below meth c H locs 0 0 Q (F0 m 0 ls []) := by
    intro H locs hP hS
    unfold f_BitWriter_putWord at hf
    refine lv_aload_n hx hb d_m574_0 rfl (lv_at hl 0 rfl) ?_
    refine va_get (D := (dC, dI)) (ci := 2) (v := .ref a_tbs) (C := "ScanCoder$BitWriter") (T := T_2) (N := 7) hx hb hts n0 hown hK hP 2 rfl rfl 0 (by decide) k0 (fun _ h9 => h9) rfl d_m574_1 ?_
    refine lv_iload_n hx hb d_m574_4 rfl (lv_at hl 1 rfl) ?_
    obtain ⟨hi, hf⟩ := ob_if hf
    have hix1 : p0.toNatClampNeg < 8 := Nat.lt_of_not_le (fun h => hi (Or.inr h))
    refine va_aldq hx hb hK hP 3 3 rfl rfl hi d_m574_5 ?_
    refine W.eq (g2 := F0 m 6 ls [.ref (ta p0.toNatClampNeg)]) rfl ?_
    have hPF := tb_focus (i := p0.toNatClampNeg) hP hix1
    refine va_get (D := (dC, dI)) (ci := 10) (v := .ref (tw p0.toNatClampNeg)) (C := "ScanCoder$Table") (T := T_10) (N := 6) hx hb hts n1 hown hK hPF 4 rfl rfl 0 (by decide) k1 (fun _ h9 => h9) rfl d_m574_6 ?_
    refine lv_iload_n hx hb d_m574_9 rfl (lv_at hl 2 rfl) ?_
    obtain ⟨hi, hf⟩ := ob_if hf
    have hPF := tb_focus (i := p0.toNatClampNeg) hP hix1
    refine va_iald hx hb hK hPF 5 0 rfl rfl hi d_m574_10 ?_
    refine lv_istore_n (lv' := [(3, .int (vw p0.toNatClampNeg p1.toNatClampNeg)), (0, .ref a_wr), (1, .int p0), (2, .int p1)]) hx hb d_m574_11 rfl hl (by decide) rfl (fun ls hl => ?_)
    refine lv_iload_n hx hb d_m574_12 rfl (lv_at hl 0 rfl) ?_
    refine lv_if_ne (tgt := 24) hx hb d_m574_13 (by decide) (fun hc => ?_) (fun hc => ?_)
    · replace hf := (if_neg hc).symm.trans hf
      refine lv_aload_n hx hb d_m574_24 rfl (lv_at hl 1 rfl) ?_
      refine lv_iload_n hx hb d_m574_25 rfl (lv_at hl 0 rfl) ?_
      refine lv_i2l hx hb d_m574_26 rfl ?_
      refine lv_iload_n hx hb d_m574_27 rfl (lv_at hl 0 rfl) ?_
      obtain ⟨z2, hz2, hf⟩ := ob_bind hf
      refine vp_callSi (g_run (va_runSN (As := [.int (vw p0.toNatClampNeg p1.toNatClampNeg)]) (rest := [.long ((vw p0.toNatClampNeg p1.toNatClampNeg).toInt64), .ref a_wr]) ⟨hx, hb, hml, hown, hts⟩ (c_SC_sizeOf l dC dI cI cB cS cT N (vw p0.toNatClampNeg p1.toNatClampNeg) z2 hz2) ⟨(va_cnB 1 hts (gi tw_565 rfl) rfl rfl rfl (gn_575 hKN.2) (hts _ (List.mem_cons_of_mem _ tw_1)) (by decide +kernel) ⟨Nat.le_of_ble_eq_true rfl, Nat.le_of_ble_eq_true rfl⟩), hts _ (List.mem_cons_of_mem _ tw_564), trivial⟩ ⟨gp_blind, gp_at hKN (g_pm hP [] rfl)⟩ rfl rfl hl.1 rfl (lv_room (Nat.le_of_ble_eq_true rfl)) d_m574_28 ⟨Nat.zero_le _, Nat.zero_le _⟩)) (fun r hrz2 => ?_)
      have hrz2 := hrz2.symm
      subst hrz2
      refine W.eq (g2 := F0 m 31 ls [.int z2, .long ((vw p0.toNatClampNeg p1.toNatClampNeg).toInt64), .ref a_wr]) rfl ?_
      refine lv_iconst (v := (1 : Int32)) hx hb d_m574_31 (by decide) ?_
      refine lv_isub hx hb d_m574_32 ?_
      obtain ⟨z3, hz3, hf⟩ := ob_bind hf
      refine g_callv (wc := (w_BitWriter_putBits cI cB cS cT a_sto a_sto_b a_wr a_tbs sto_length n_sto_b sto_b wr_keeps wr_part wr_filled wr_length wr_lacksWord)) (w1 := (w_BitWriter_putBits cI cB cS cT a_sto a_sto_b a_wr a_tbs sto_length n_sto_b z3.1 wr_keeps z3.2.1 z3.2.2.1 z3.2.2.2 wr_lacksWord)) (w2 := (w_BitWriter_putWord cI cB cS cT a_sto a_sto_b a_wr a_tbs sto_length n_sto_b z3.1 wr_keeps z3.2.1 z3.2.2.1 z3.2.2.2 wr_lacksWord ta tw ts tf tx vw vs vf vx ve vz)) [0, 1, 2] [some 0, some 1, some 2, none, none, none, none, none, none, none, none, none, none, none, none, none, none, none, none, none, none, none, none, none, none, none, none, none, none, none, none, none, none, none, none, none, none, none, none, none, none, none, none, none] hP hD hS hA rfl rfl rfl rfl (va_runV (As := [.long ((vw p0.toNatClampNeg p1.toNatClampNeg).toInt64), .int (z2 - (1 : Int32))]) (rest := []) ⟨hx, hb, hml, hown, hts⟩ (c_BitWriter_putBits l dC dI cI cB cS cT N a_sto a_sto_b a_wr a_tbs sto_length n_sto_b sto_b wr_keeps wr_part wr_filled wr_length wr_lacksWord ((vw p0.toNatClampNeg p1.toNatClampNeg).toInt64) (z2 - (1 : Int32)) H.size z3 hz3) ⟨(callB_of 2 hts (gi tw_579 rfl) rfl rfl rfl (hts _ (List.mem_cons_of_mem _ tw_12)) (hts _ (List.mem_cons_of_mem _ tw_576)) (by decide +kernel) ⟨Nat.le_of_ble_eq_true rfl, Nat.le_of_ble_eq_true rfl⟩), hts _ (List.mem_cons_of_mem _ tw_577), hts _ (List.mem_cons_of_mem _ tw_578)⟩ ⟨g_blind, va_recv hK hP (ci := 2) (q0 := 2) rfl rfl, g_at hKN (g_pm hP [0, 1, 2] rfl) (hD.sub [0, 1, 2] (by decide) rfl)⟩ rfl rfl hl.1 rfl (lv_room (Nat.le_of_ble_eq_true rfl)) d_m574_33 ⟨Nat.zero_le _, Nat.zero_le _⟩) (fun H locs hP hD hS => ?_)
      refine W.eq (g2 := F0 m 36 ls []) rfl ?_
      obtain rfl := Option.some.inj hf
      subst hQ
      subst hAe
      exact W.vret hx hb hr (fun t ht hW => ⟨⟨(), rfl, trivial, by rw [ht]; exact hP, hD⟩, hS.F ht⟩) hS.2.2 d_m574_36
    · replace hf := (if_pos hc).symm.trans hf
      refine lv_aload_n hx hb d_m574_16 rfl (lv_at hl 1 rfl) ?_
      refine lv_iconst (v := (1 : Int32)) hx hb d_m574_17 (by decide) ?_
      refine va_put (D := (dC, dI)) (ci := 2) (v := .int (1 : Int32)) (ty := .boolean) (C := "ScanCoder$BitWriter") (T := T_2) (N := 7) hx hb hts n0 ty_2 tyok_2 nm_2 hown hK hP hD hS 2 rfl rfl 6 (by decide) k2 (fun _ h9 => h9) rfl (by decide +kernel) rfl rfl (Nat.le_of_ble_eq_true rfl) d_m574_18 (fun H locs hP hD hS => ?_)
      have hP : va_P (dC, dI) vwCl (w_BitWriter_putWord cI cB cS cT a_sto a_sto_b a_wr a_tbs sto_length n_sto_b sto_b wr_keeps wr_part wr_filled wr_length (1 : Int32) ta tw ts tf tx vw vs vf vx ve vz) H := hP
      have hD : va_D A (w_BitWriter_putWord cI cB cS cT a_sto a_sto_b a_wr a_tbs sto_length n_sto_b sto_b wr_keeps wr_part wr_filled wr_length (1 : Int32) ta tw ts tf tx vw vs vf vx ve vz) := hD
      refine lv_goto (tgt := 36) hx hb d_m574_21 (by decide) ?_
      obtain rfl := Option.some.inj hf
      subst hQ
      subst hAe
      exact W.vret hx hb hr (fun t ht hW => ⟨⟨(), rfl, trivial, by rw [ht]; exact hP, hD⟩, hS.F ht⟩) hS.2.2 d_m574_36
  exact hgo _ _ hP hS

def f_BitWriter_endByte (N : Nat) (n_sto_b : Nat) (sto_b : Nat → Int32) (wr_keeps : Int32) (wr_part : Int32) (wr_filled : Int32) (wr_length : Int32) : Option ((Nat → Int32) × Int32 × Int32 × Int32) :=
  if wr_filled ≤ 0 then
    some (sto_b, wr_part, wr_filled, wr_length)
  else
    (f_BitWriter_putBits N (255 : Int64) ((8 : Int32) - wr_filled) n_sto_b sto_b wr_keeps wr_part wr_filled wr_length).bind fun z1 =>
    some (z1.1, z1.2.1, z1.2.2.1, z1.2.2.2)
abbrev w_BitWriter_endByte (cI cB cS cT : ClassId) (a_sto : Nat) (a_sto_b : Nat) (a_wr : Nat) (a_tbs : Nat) (sto_length : Int32) (n_sto_b : Nat) (sto_b : Nat → Int32) (wr_keeps : Int32) (wr_part : Int32) (wr_filled : Int32) (wr_length : Int32) (wr_lacksWord : Int32) : va_W := [(a_sto, .inr (9, [.ref a_sto_b, .int sto_length])), (a_sto_b, .inl (cB, n_sto_b, .inl sto_b)), (a_wr, .inr (2, [.ref a_tbs, .ref a_sto, .int wr_keeps, .int wr_part, .int wr_filled, .int wr_length, .int wr_lacksWord]))]
def rm_BitWriter_endByte : Room := { frames := 2, cells := 0, slots := 0, locals := 45 }
set_option maxHeartbeats 1000000 in
set_option maxRecDepth 100000 in
theorem c_BitWriter_endByte (l : Launch) (dC : Nat → ClassId) (dI : Nat → Nat → Nat) (cI cB cS cT : ClassId) (N : Nat) (a_sto : Nat) (a_sto_b : Nat) (a_wr : Nat) (a_tbs : Nat) (sto_length : Int32) (n_sto_b : Nat) (sto_b : Nat → Int32) (wr_keeps : Int32) (wr_part : Int32) (wr_filled : Int32) (wr_length : Int32) (wr_lacksWord : Int32) (sz : Nat) (z : (Nat → Int32) × Int32 × Int32 × Int32) (hf : f_BitWriter_endByte N n_sto_b sto_b wr_keeps wr_part wr_filled wr_length = some z) : Met l y_m599 ws_m599 rm_BitWriter_endByte (gPre (dC, dI) [.ref a_wr] (gT cI cB cS cT) (w_BitWriter_endByte cI cB cS cT a_sto a_sto_b a_wr a_tbs sto_length n_sto_b sto_b wr_keeps wr_part wr_filled wr_length wr_lacksWord) sz) (gQv (dC, dI) (gT cI cB cS cT) (w_BitWriter_endByte cI cB cS cT a_sto a_sto_b a_wr a_tbs sto_length n_sto_b sto_b wr_keeps wr_part wr_filled wr_length wr_lacksWord) (w_BitWriter_endByte cI cB cS cT a_sto a_sto_b a_wr a_tbs sto_length n_sto_b z.1 wr_keeps z.2.1 z.2.2.1 z.2.2.2 wr_lacksWord) sz) 0 0 (va_A (w_BitWriter_endByte cI cB cS cT a_sto a_sto_b a_wr a_tbs sto_length n_sto_b sto_b wr_keeps wr_part wr_filled wr_length wr_lacksWord) sz) := by
  refine Met.ofW (cc := prog_3_method_6_code) (maxL := 1) (ret := none) (by decide) rfl ?_
  intro p e s m args below meth c s₁ B hml hv
  obtain ⟨hargs, hsz, hP, hKN, hD0⟩ := hv
  have hK := hKN.1
  have hx := B.exec
  have hb := B.bytes
  have hr := B.returns
  have hts := atoms_spec (ws := ws_m599) B.pre
  have hown : s.vm.findClass "ScanCoder$BitWriter" = some m.cls := findClass_of_methodNamed B.named
  have hlocks := B.notSynchronized
  have k0 := hts _ (List.mem_cons_of_mem _ tw_317)
  have k1 := hts _ (List.mem_cons_of_mem _ tw_600)
  have n0 : ∀ w ∈ u_ws "ScanCoder$BitWriter" T_2 7, w ∈ ws_m599 := fun w h => List.mem_cons_of_mem _ (in_2 w h)
  subst hsz
  have hD := hD0.self (sz := s.heap.size)
  obtain ⟨A, hAe⟩ : ∃ A : Nat → Prop, va_A (w_BitWriter_endByte cI cB cS cT a_sto a_sto_b a_wr a_tbs sto_length n_sto_b sto_b wr_keeps wr_part wr_filled wr_length wr_lacksWord) s.heap.size = A := ⟨_, rfl⟩
  rw [hAe] at hD
  have hA : ∀ q : Nat, s.heap.size ≤ q → A q := fun q h => by rw [← hAe]; exact Or.inr h
  have hS : va_S A s.heap s.heap [] := va_S.rf
  have hl := lv_entry ([.ref a_wr]) (n := 1) (Nat.le_of_ble_eq_true rfl)
  have hfr : entryFrame m args 1 = F0 m 0 ((lg_sl ([.ref a_wr]) ++ List.replicate (1 - (lg_sl ([.ref a_wr])).length) Slot.unset).toArray) [] := by rw [hargs]; exact lg_entry_eq _ _ _
  rw [hfr]
  generalize (lg_sl ([.ref a_wr]) ++ List.replicate (1 - (lg_sl ([.ref a_wr])).length) Slot.unset).toArray = ls at hl ⊢
  have hl : lv_has ls 1 [(0, .ref a_wr)] := hl
  refine gen_Q (fun Q hQ => ?_)
  clear hfr
  have hgo : ∀ (H : Heap) (locs : List Loc), va_P (dC, dI) vwCl (w_BitWriter_endByte cI cB cS cT a_sto a_sto_b a_wr a_tbs sto_length n_sto_b sto_b wr_keeps wr_part wr_filled wr_length wr_lacksWord) H → va_S A s.heap H locs → W p l e (headSpec ws_m599 rm_BitWriter_endByte).room s m args below meth c H locs 0 0 Q (F0 m 0 ls []) := by
    intro H locs hP hS
    unfold f_BitWriter_endByte at hf
    refine lv_aload_n hx hb d_m599_0 rfl (lv_at hl 0 rfl) ?_
    refine va_get (D := (dC, dI)) (ci := 2) (v := .int wr_filled) (C := "ScanCoder$BitWriter") (T := T_2) (N := 7) hx hb hts n0 hown hK hP 2 rfl rfl 4 (by decide) k0 (fun _ h9 => h9) rfl d_m599_1 ?_
    refine lv_if_le (tgt := 21) hx hb d_m599_4 (by decide) (fun hc => ?_) (fun hc => ?_)
    · replace hf := (if_pos hc).symm.trans hf
      obtain rfl := Option.some.inj hf
      subst hQ
      subst hAe
      exact W.vret hx hb hr (fun t ht hW => ⟨⟨(), rfl, trivial, by rw [ht]; exact hP, hD⟩, hS.F ht⟩) hS.2.2 d_m599_21
    · replace hf := (if_neg hc).symm.trans hf
      refine lv_aload_n hx hb d_m599_7 rfl (lv_at hl 0 rfl) ?_
      refine lv_ldc2 (v := (255 : Int64)) hx hb hown k1 d_m599_8 ?_
      refine lv_bipush (v := (8 : Int32)) hx hb d_m599_11 (by decide) ?_
      refine lv_aload_n hx hb d_m599_13 rfl (lv_at hl 0 rfl) ?_
      refine va_get (D := (dC, dI)) (ci := 2) (v := .int wr_filled) (C := "ScanCoder$BitWriter") (T := T_2) (N := 7) hx hb hts n0 hown hK hP 2 rfl rfl 4 (by decide) k0 (fun _ h9 => h9) rfl d_m599_14 ?_
      refine lv_isub hx hb d_m599_17 ?_
      obtain ⟨z1, hz1, hf⟩ := ob_bind hf
      refine g_callv (wc := (w_BitWriter_putBits cI cB cS cT a_sto a_sto_b a_wr a_tbs sto_length n_sto_b sto_b wr_keeps wr_part wr_filled wr_length wr_lacksWord)) (w1 := (w_BitWriter_putBits cI cB cS cT a_sto a_sto_b a_wr a_tbs sto_length n_sto_b z1.1 wr_keeps z1.2.1 z1.2.2.1 z1.2.2.2 wr_lacksWord)) (w2 := (w_BitWriter_endByte cI cB cS cT a_sto a_sto_b a_wr a_tbs sto_length n_sto_b z1.1 wr_keeps z1.2.1 z1.2.2.1 z1.2.2.2 wr_lacksWord)) [0, 1, 2] [some 0, some 1, some 2] hP hD hS hA rfl rfl rfl rfl (va_runV (As := [.long (255 : Int64), .int ((8 : Int32) - wr_filled)]) (rest := []) ⟨hx, hb, hml, hown, hts⟩ (c_BitWriter_putBits l dC dI cI cB cS cT N a_sto a_sto_b a_wr a_tbs sto_length n_sto_b sto_b wr_keeps wr_part wr_filled wr_length wr_lacksWord (255 : Int64) ((8 : Int32) - wr_filled) H.size z1 hz1) ⟨(callB_of 2 hts (gi tw_579 rfl) rfl rfl rfl (hts _ (List.mem_cons_of_mem _ tw_12)) (hts _ (List.mem_cons_of_mem _ tw_576)) (by decide +kernel) ⟨Nat.le_of_ble_eq_true rfl, Nat.le_of_ble_eq_true rfl⟩), hts _ (List.mem_cons_of_mem _ tw_577), hts _ (List.mem_cons_of_mem _ tw_578)⟩ ⟨g_blind, va_recv hK hP (ci := 2) (q0 := 2) rfl rfl, g_at hKN (g_pm hP [0, 1, 2] rfl) (hD.sub [0, 1, 2] (by decide) rfl)⟩ rfl rfl hl.1 rfl (lv_room (Nat.le_of_ble_eq_true rfl)) d_m599_18 ⟨Nat.zero_le _, Nat.zero_le _⟩) (fun H locs hP hD hS => ?_)
      refine W.eq (g2 := F0 m 21 ls []) rfl ?_
      obtain rfl := Option.some.inj hf
      subst hQ
      subst hAe
      exact W.vret hx hb hr (fun t ht hW => ⟨⟨(), rfl, trivial, by rw [ht]; exact hP, hD⟩, hS.F ht⟩) hS.2.2 d_m599_21
  exact hgo _ _ hP hS

def f_BitWriter_putRestart (p0 : Int32) (n_sto_b : Nat) (sto_b : Nat → Int32) (wr_keeps : Int32) (wr_length : Int32) : Option ((Nat → Int32) × Int32) :=
  (f_BitWriter_putByte (255 : Int32) n_sto_b sto_b wr_keeps wr_length).bind fun z1 =>
  (f_BitWriter_putByte p0 n_sto_b z1.1 wr_keeps z1.2).bind fun z2 =>
  some (z2.1, z2.2)
abbrev w_BitWriter_putRestart (cI cB cS cT : ClassId) (a_sto : Nat) (a_sto_b : Nat) (a_wr : Nat) (a_tbs : Nat) (sto_length : Int32) (n_sto_b : Nat) (sto_b : Nat → Int32) (wr_keeps : Int32) (wr_part : Int32) (wr_filled : Int32) (wr_length : Int32) (wr_lacksWord : Int32) : va_W := [(a_sto, .inr (9, [.ref a_sto_b, .int sto_length])), (a_sto_b, .inl (cB, n_sto_b, .inl sto_b)), (a_wr, .inr (2, [.ref a_tbs, .ref a_sto, .int wr_keeps, .int wr_part, .int wr_filled, .int wr_length, .int wr_lacksWord]))]
def rm_BitWriter_putRestart : Room := { frames := 1, cells := 0, slots := 0, locals := 21 }
set_option maxHeartbeats 1000000 in
set_option maxRecDepth 100000 in
theorem c_BitWriter_putRestart (l : Launch) (dC : Nat → ClassId) (dI : Nat → Nat → Nat) (cI cB cS cT : ClassId) (a_sto : Nat) (a_sto_b : Nat) (a_wr : Nat) (a_tbs : Nat) (sto_length : Int32) (n_sto_b : Nat) (sto_b : Nat → Int32) (wr_keeps : Int32) (wr_part : Int32) (wr_filled : Int32) (wr_length : Int32) (wr_lacksWord : Int32) (p0 : Int32) (sz : Nat) (z : (Nat → Int32) × Int32) (hf : f_BitWriter_putRestart p0 n_sto_b sto_b wr_keeps wr_length = some z) : Met l y_m613 ws_m613 rm_BitWriter_putRestart (gPre (dC, dI) [.ref a_wr, .int p0] (gT cI cB cS cT) (w_BitWriter_putRestart cI cB cS cT a_sto a_sto_b a_wr a_tbs sto_length n_sto_b sto_b wr_keeps wr_part wr_filled wr_length wr_lacksWord) sz) (gQv (dC, dI) (gT cI cB cS cT) (w_BitWriter_putRestart cI cB cS cT a_sto a_sto_b a_wr a_tbs sto_length n_sto_b sto_b wr_keeps wr_part wr_filled wr_length wr_lacksWord) (w_BitWriter_putRestart cI cB cS cT a_sto a_sto_b a_wr a_tbs sto_length n_sto_b z.1 wr_keeps wr_part wr_filled z.2 wr_lacksWord) sz) 0 0 (va_A (w_BitWriter_putRestart cI cB cS cT a_sto a_sto_b a_wr a_tbs sto_length n_sto_b sto_b wr_keeps wr_part wr_filled wr_length wr_lacksWord) sz) := by
  refine Met.ofW (cc := prog_3_method_7_code) (maxL := 2) (ret := none) (by decide) rfl ?_
  intro p e s m args below meth c s₁ B hml hv
  obtain ⟨hargs, hsz, hP, hKN, hD0⟩ := hv
  have hK := hKN.1
  have hx := B.exec
  have hb := B.bytes
  have hr := B.returns
  have hts := atoms_spec (ws := ws_m613) B.pre
  have hown : s.vm.findClass "ScanCoder$BitWriter" = some m.cls := findClass_of_methodNamed B.named
  have hlocks := B.notSynchronized
  subst hsz
  have hD := hD0.self (sz := s.heap.size)
  obtain ⟨A, hAe⟩ : ∃ A : Nat → Prop, va_A (w_BitWriter_putRestart cI cB cS cT a_sto a_sto_b a_wr a_tbs sto_length n_sto_b sto_b wr_keeps wr_part wr_filled wr_length wr_lacksWord) s.heap.size = A := ⟨_, rfl⟩
  rw [hAe] at hD
  have hA : ∀ q : Nat, s.heap.size ≤ q → A q := fun q h => by rw [← hAe]; exact Or.inr h
  have hS : va_S A s.heap s.heap [] := va_S.rf
  have hl := lv_entry ([.ref a_wr, .int p0]) (n := 2) (Nat.le_of_ble_eq_true rfl)
  have hfr : entryFrame m args 2 = F0 m 0 ((lg_sl ([.ref a_wr, .int p0]) ++ List.replicate (2 - (lg_sl ([.ref a_wr, .int p0])).length) Slot.unset).toArray) [] := by rw [hargs]; exact lg_entry_eq _ _ _
  rw [hfr]
  generalize (lg_sl ([.ref a_wr, .int p0]) ++ List.replicate (2 - (lg_sl ([.ref a_wr, .int p0])).length) Slot.unset).toArray = ls at hl ⊢
  have hl : lv_has ls 2 [(0, .ref a_wr), (1, .int p0)] := hl
  refine gen_Q (fun Q hQ => ?_)
  clear hfr
  have hgo : ∀ (H : Heap) (locs : List Loc), va_P (dC, dI) vwCl (w_BitWriter_putRestart cI cB cS cT a_sto a_sto_b a_wr a_tbs sto_length n_sto_b sto_b wr_keeps wr_part wr_filled wr_length wr_lacksWord) H → va_S A s.heap H locs → W p l e (headSpec ws_m613 rm_BitWriter_putRestart).room s m args below meth c H locs 0 0 Q (F0 m 0 ls []) := by
    intro H locs hP hS
    unfold f_BitWriter_putRestart at hf
    refine lv_aload_n hx hb d_m613_0 rfl (lv_at hl 0 rfl) ?_
    refine lv_sipush (v := (255 : Int32)) hx hb d_m613_1 (by decide) ?_
    obtain ⟨z1, hz1, hf⟩ := ob_bind hf
    refine g_callv (wc := (w_BitWriter_putByte cI cB cS cT a_sto a_sto_b a_wr a_tbs sto_length n_sto_b sto_b wr_keeps wr_part wr_filled wr_length wr_lacksWord)) (w1 := (w_BitWriter_putByte cI cB cS cT a_sto a_sto_b a_wr a_tbs sto_length n_sto_b z1.1 wr_keeps wr_part wr_filled z1.2 wr_lacksWord)) (w2 := (w_BitWriter_putRestart cI cB cS cT a_sto a_sto_b a_wr a_tbs sto_length n_sto_b z1.1 wr_keeps wr_part wr_filled z1.2 wr_lacksWord)) [0, 1, 2] [some 0, some 1, some 2] hP hD hS hA rfl rfl rfl rfl (va_runV (As := [.int (255 : Int32)]) (rest := []) ⟨hx, hb, hml, hown, hts⟩ (c_BitWriter_putByte l dC dI cI cB cS cT a_sto a_sto_b a_wr a_tbs sto_length n_sto_b sto_b wr_keeps wr_part wr_filled wr_length wr_lacksWord (255 : Int32) H.size z1 hz1) ⟨(callB_of 1 hts (gi tw_583 rfl) rfl rfl rfl (hts _ (List.mem_cons_of_mem _ tw_12)) (hts _ (List.mem_cons_of_mem _ tw_580)) (by decide +kernel) ⟨Nat.le_of_ble_eq_true rfl, Nat.le_of_ble_eq_true rfl⟩), hts _ (List.mem_cons_of_mem _ tw_582), hts _ (List.mem_cons_of_mem _ ts_m583)⟩ ⟨g_blind, va_recv hK hP (ci := 2) (q0 := 2) rfl rfl, g_at hKN (g_pm hP [0, 1, 2] rfl) (hD.sub [0, 1, 2] (by decide) rfl)⟩ rfl rfl hl.1 rfl (lv_room (Nat.le_of_ble_eq_true rfl)) d_m613_4 ⟨Nat.zero_le _, Nat.zero_le _⟩) (fun H locs hP hD hS => ?_)
    refine W.eq (g2 := F0 m 7 ls []) rfl ?_
    refine lv_aload_n hx hb d_m613_7 rfl (lv_at hl 0 rfl) ?_
    refine lv_iload_n hx hb d_m613_8 rfl (lv_at hl 1 rfl) ?_
    obtain ⟨z2, hz2, hf⟩ := ob_bind hf
    refine g_callv (wc := (w_BitWriter_putByte cI cB cS cT a_sto a_sto_b a_wr a_tbs sto_length n_sto_b z1.1 wr_keeps wr_part wr_filled z1.2 wr_lacksWord)) (w1 := (w_BitWriter_putByte cI cB cS cT a_sto a_sto_b a_wr a_tbs sto_length n_sto_b z2.1 wr_keeps wr_part wr_filled z2.2 wr_lacksWord)) (w2 := (w_BitWriter_putRestart cI cB cS cT a_sto a_sto_b a_wr a_tbs sto_length n_sto_b z2.1 wr_keeps wr_part wr_filled z2.2 wr_lacksWord)) [0, 1, 2] [some 0, some 1, some 2] hP hD hS hA rfl rfl rfl rfl (va_runV (As := [.int p0]) (rest := []) ⟨hx, hb, hml, hown, hts⟩ (c_BitWriter_putByte l dC dI cI cB cS cT a_sto a_sto_b a_wr a_tbs sto_length n_sto_b z1.1 wr_keeps wr_part wr_filled z1.2 wr_lacksWord p0 H.size z2 hz2) ⟨(callB_of 1 hts (gi tw_583 rfl) rfl rfl rfl (hts _ (List.mem_cons_of_mem _ tw_12)) (hts _ (List.mem_cons_of_mem _ tw_580)) (by decide +kernel) ⟨Nat.le_of_ble_eq_true rfl, Nat.le_of_ble_eq_true rfl⟩), hts _ (List.mem_cons_of_mem _ tw_582), hts _ (List.mem_cons_of_mem _ ts_m583)⟩ ⟨g_blind, va_recv hK hP (ci := 2) (q0 := 2) rfl rfl, g_at hKN (g_pm hP [0, 1, 2] rfl) (hD.sub [0, 1, 2] (by decide) rfl)⟩ rfl rfl hl.1 rfl (lv_room (Nat.le_of_ble_eq_true rfl)) d_m613_9 ⟨Nat.zero_le _, Nat.zero_le _⟩) (fun H locs hP hD hS => ?_)
    refine W.eq (g2 := F0 m 12 ls []) rfl ?_
    obtain rfl := Option.some.inj hf
    subst hQ
    subst hAe
    exact W.vret hx hb hr (fun t ht hW => ⟨⟨(), rfl, trivial, by rw [ht]; exact hP, hD⟩, hS.F ht⟩) hS.2.2 d_m613_12
  exact hgo _ _ hP hS
