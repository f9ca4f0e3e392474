
def f_BitReader_begin  : Option (Int32 × Int32 × Int32 × Int32) :=
  some ((0 : Int32), (0 : Int32), (0 : Int32), (0 : Int32))
abbrev w_BitReader_begin (cI cB cS cT : ClassId) (a_rd : Nat) (a_sto : Nat) (rd_at : Int32) (rd_part : Int32) (rd_left : Int32) (rd_fault : Int32) : va_W := [(a_rd, .inr (1, [.ref a_sto, .int rd_at, .int rd_part, .int rd_left, .int rd_fault]))]
def rm_BitReader_begin : Room := { frames := 0, cells := 0, slots := 0, locals := 0 }
set_option maxHeartbeats 1000000 in
set_option maxRecDepth 100000 in
theorem c_BitReader_begin (l : Launch) (dC : Nat → ClassId) (dI : Nat → Nat → Nat) (cI cB cS cT : ClassId) (a_rd : Nat) (a_sto : Nat) (rd_at : Int32) (rd_part : Int32) (rd_left : Int32) (rd_fault : Int32) (sz : Nat) (z : Int32 × Int32 × Int32 × Int32) (hf : f_BitReader_begin  = some z) : Met l y_m667 ws_m667 rm_BitReader_begin (gPre (dC, dI) [.ref a_rd] (gT cI cB cS cT) (w_BitReader_begin cI cB cS cT a_rd a_sto rd_at rd_part rd_left rd_fault) sz) (gQv (dC, dI) (gT cI cB cS cT) (w_BitReader_begin cI cB cS cT a_rd a_sto rd_at rd_part rd_left rd_fault) (w_BitReader_begin cI cB cS cT a_rd a_sto z.1 z.2.1 z.2.2.1 z.2.2.2) sz) 0 0 (va_A (w_BitReader_begin cI cB cS cT a_rd a_sto rd_at rd_part rd_left rd_fault) sz) := by
  refine Met.ofW (cc := prog_2_method_2_code) (maxL := 1) (ret := none) (by decide) rfl ?_
  intro p e s m args below meth c s₁ B hml hv
  obtain ⟨hargs, hsz, hP, hKN, hD0⟩ := hv
  have hK := hKN.1
  have hx := B.exec
  have hb := B.bytes
  have hr := B.returns
  have hts := atoms_spec (ws := ws_m667) B.pre
  have hown : s.vm.findClass "ScanCoder$BitReader" = some m.cls := findClass_of_methodNamed B.named
  have hlocks := B.notSynchronized
  have k0 := hts _ (List.mem_cons_of_mem _ tw_377)
  have k1 := hts _ (List.mem_cons_of_mem _ tw_378)
  have k2 := hts _ (List.mem_cons_of_mem _ tw_379)
  have k3 := hts _ (List.mem_cons_of_mem _ tw_380)
  have n0 : ∀ w ∈ u_ws "ScanCoder$BitReader" T_1 5, w ∈ ws_m667 := fun w h => List.mem_cons_of_mem _ (in_1 w h)
  subst hsz
  have hD := hD0.self (sz := s.heap.size)
  obtain ⟨A, hAe⟩ : ∃ A : Nat → Prop, va_A (w_BitReader_begin cI cB cS cT a_rd a_sto rd_at rd_part rd_left rd_fault) s.heap.size = A := ⟨_, rfl⟩
  rw [hAe] at hD
  have hA : ∀ q : Nat, s.heap.size ≤ q → A q := fun q h => by rw [← hAe]; exact Or.inr h
  have hS : va_S A s.heap s.heap [] := va_S.rf
  have hl := lv_entry ([.ref a_rd]) (n := 1) (Nat.le_of_ble_eq_true rfl)
  have hfr : entryFrame m args 1 = F0 m 0 ((lg_sl ([.ref a_rd]) ++ List.replicate (1 - (lg_sl ([.ref a_rd])).length) Slot.unset).toArray) [] := by rw [hargs]; exact lg_entry_eq _ _ _
  rw [hfr]
  generalize (lg_sl ([.ref a_rd]) ++ List.replicate (1 - (lg_sl ([.ref a_rd])).length) Slot.unset).toArray = ls at hl ⊢
  have hl : lv_has ls 1 [(0, .ref a_rd)] := hl
  refine gen_Q (fun Q hQ => ?_)
  clear hfr
  have hgo : ∀ (H : Heap) (locs : List Loc), va_P (dC, dI) vwCl (w_BitReader_begin cI cB cS cT a_rd a_sto rd_at rd_part rd_left rd_fault) H → va_S A s.heap H locs → W p l e (headSpec ws_m667 rm_BitReader_begin).room s m args below meth c H locs 0 0 Q (F0 m 0 ls []) := by
    intro H locs hP hS
    unfold f_BitReader_begin at hf
    refine lv_aload_n hx hb d_m667_0 rfl (lv_at hl 0 rfl) ?_
    refine lv_iconst (v := (0 : Int32)) hx hb d_m667_1 (by decide) ?_
    refine va_put (D := (dC, dI)) (ci := 1) (v := .int (0 : Int32)) (ty := .int) (C := "ScanCoder$BitReader") (T := T_1) (N := 5) hx hb hts n0 ty_1 tyok_1 nm_1 hown hK hP hD hS 0 rfl rfl 1 (by decide) k0 (fun _ h9 => h9) rfl (by decide +kernel) rfl rfl (Nat.le_of_ble_eq_true rfl) d_m667_2 (fun H locs hP hD hS => ?_)
    have hP : va_P (dC, dI) vwCl (w_BitReader_begin cI cB cS cT a_rd a_sto (0 : Int32) rd_part rd_left rd_fault) H := hP
    have hD : va_D A (w_BitReader_begin cI cB cS cT a_rd a_sto (0 : Int32) rd_part rd_left rd_fault) := hD
    refine lv_aload_n hx hb d_m667_5 rfl (lv_at hl 0 rfl) ?_
    refine lv_iconst (v := (0 : Int32)) hx hb d_m667_6 (by decide) ?_
    refine va_put (D := (dC, dI)) (ci := 1) (v := .int (0 : Int32)) (ty := .int) (C := "ScanCoder$BitReader") (T := T_1) (N := 5) hx hb hts n0 ty_1 tyok_1 nm_1 hown hK hP hD hS 0 rfl rfl 2 (by decide) k1 (fun _ h9 => h9) rfl (by decide +kernel) rfl rfl (Nat.le_of_ble_eq_true rfl) d_m667_7 (fun H locs hP hD hS => ?_)
    have hP : va_P (dC, dI) vwCl (w_BitReader_begin cI cB cS cT a_rd a_sto (0 : Int32) (0 : Int32) rd_left rd_fault) H := hP
    have hD : va_D A (w_BitReader_begin cI cB cS cT a_rd a_sto (0 : Int32) (0 : Int32) rd_left rd_fault) := hD
    refine lv_aload_n hx hb d_m667_10 rfl (lv_at hl 0 rfl) ?_
    refine lv_iconst (v := (0 : Int32)) hx hb d_m667_11 (by decide) ?_
    refine va_put (D := (dC, dI)) (ci := 1) (v := .int (0 : Int32)) (ty := .int) (C := "ScanCoder$BitReader") (T := T_1) (N := 5) hx hb hts n0 ty_1 tyok_1 nm_1 hown hK hP hD hS 0 rfl rfl 3 (by decide) k2 (fun _ h9 => h9) rfl (by decide +kernel) rfl rfl (Nat.le_of_ble_eq_true rfl) d_m667_12 (fun H locs hP hD hS => ?_)
    have hP : va_P (dC, dI) vwCl (w_BitReader_begin cI cB cS cT a_rd a_sto (0 : Int32) (0 : Int32) (0 : Int32) rd_fault) H := hP
    have hD : va_D A (w_BitReader_begin cI cB cS cT a_rd a_sto (0 : Int32) (0 : Int32) (0 : Int32) rd_fault) := hD
    refine lv_aload_n hx hb d_m667_15 rfl (lv_at hl 0 rfl) ?_
    refine lv_iconst (v := (0 : Int32)) hx hb d_m667_16 (by decide) ?_
    refine va_put (D := (dC, dI)) (ci := 1) (v := .int (0 : Int32)) (ty := .int) (C := "ScanCoder$BitReader") (T := T_1) (N := 5) hx hb hts n0 ty_1 tyok_1 nm_1 hown hK hP hD hS 0 rfl rfl 4 (by decide) k3 (fun _ h9 => h9) rfl (by decide +kernel) rfl rfl (Nat.le_of_ble_eq_true rfl) d_m667_17 (fun H locs hP hD hS => ?_)
    have hP : va_P (dC, dI) vwCl (w_BitReader_begin cI cB cS cT a_rd a_sto (0 : Int32) (0 : Int32) (0 : Int32) (0 : Int32)) H := hP
    have hD : va_D A (w_BitReader_begin cI cB cS cT a_rd a_sto (0 : Int32) (0 : Int32) (0 : Int32) (0 : Int32)) := hD
    obtain rfl := Option.some.inj hf
    subst hQ
    subst hAe
    exact W.vret hx hb hr (fun t ht hW => ⟨⟨(), rfl, trivial, by rw [ht]; exact hP, hD⟩, hS.F ht⟩) hS.2.2 d_m667_20
  exact hgo _ _ hP hS
def f_BitReader_openByte_J134 (rd_at_j134 : Int32) (rd_part_j134 : Int32) (rd_left_j134 : Int32) (rd_fault_j134 : Int32) : Option (Int32 × Int32 × Int32 × Int32) :=
  some (rd_at_j134 + (1 : Int32), rd_part_j134, rd_left_j134, rd_fault_j134)
def f_BitReader_openByte_J124 (v1_j124 : Int32) (rd_at_j124 : Int32) (rd_part_j124 : Int32) (rd_left_j124 : Int32) (rd_fault : Int32) : Option (Int32 × Int32 × Int32 × Int32) :=
  if v1_j124 = 0 then
    f_BitReader_openByte_J134 rd_at_j124 rd_part_j124 rd_left_j124 rd_fault
  else
    f_BitReader_openByte_J134 rd_at_j124 rd_part_j124 rd_left_j124 (6 : Int32)
def f_BitReader_openByte_J101 (s0_j101 : Int32) (rd_at_j101 : Int32) (rd_part_j101 : Int32) (rd_left_j101 : Int32) (rd_fault : Int32) : Option (Int32 × Int32 × Int32 × Int32) :=
  if s0_j101 < (208 : Int32) then
    f_BitReader_openByte_J124 s0_j101 rd_at_j101 rd_part_j101 rd_left_j101 rd_fault
  else
    if (215 : Int32) < s0_j101 then
      f_BitReader_openByte_J124 s0_j101 rd_at_j101 rd_part_j101 rd_left_j101 rd_fault
    else
      f_BitReader_openByte_J134 rd_at_j101 rd_part_j101 rd_left_j101 (1 : Int32)
def f_BitReader_openByte (sto_length : Int32) (n_sto_b : Nat) (sto_b : Nat → Int32) (rd_at : Int32) (rd_part : Int32) (rd_left : Int32) (rd_fault : Int32) : Option (Int32 × Int32 × Int32 × Int32) :=
  if rd_at < sto_length then
    if rd_at < 0 ∨ n_sto_b ≤ rd_at.toNatClampNeg then none else
    if (255 : Int32) ≤ ((sto_b rd_at.toNatClampNeg) &&& (255 : Int32)) then
      if sto_length ≤ (rd_at + (1 : Int32)) then
        f_BitReader_openByte_J101 (-1 : Int32) (rd_at + (1 : Int32)) ((sto_b rd_at.toNatClampNeg) &&& (255 : Int32)) (8 : Int32) rd_fault
      else
        if (rd_at + (1 : Int32)) < 0 ∨ n_sto_b ≤ (rd_at + (1 : Int32)).toNatClampNeg then none else
        f_BitReader_openByte_J101 ((sto_b (rd_at + (1 : Int32)).toNatClampNeg) &&& (255 : Int32)) (rd_at + (1 : Int32)) ((sto_b rd_at.toNatClampNeg) &&& (255 : Int32)) (8 : Int32) rd_fault
    else
      some (rd_at + (1 : Int32), (sto_b rd_at.toNatClampNeg) &&& (255 : Int32), (8 : Int32), rd_fault)
  else
    some (rd_at, rd_part, rd_left, (1 : Int32))
abbrev w_BitReader_openByte (cI cB cS cT : ClassId) (a_sto : Nat) (a_sto_b : Nat) (a_rd : Nat) (sto_length : Int32) (n_sto_b : Nat) (sto_b : Nat → Int32) (rd_at : Int32) (rd_part : Int32) (rd_left : Int32) (rd_fault : Int32) : va_W := [(a_sto, .inr (9, [.ref a_sto_b, .int sto_length])), (a_sto_b, .inl (cB, n_sto_b, .inl sto_b)), (a_rd, .inr (1, [.ref a_sto, .int rd_at, .int rd_part, .int rd_left, .int rd_fault]))]
def rm_BitReader_openByte : Room := { frames := 0, cells := 0, slots := 0, locals := 0 }
set_option maxHeartbeats 1000000 in
set_option maxRecDepth 100000 in
theorem c_BitReader_openByte (l : Launch) (dC : Nat → ClassId) (dI : Nat → Nat → Nat) (cI cB cS cT : ClassId) (a_sto : Nat) (a_sto_b : Nat) (a_rd : Nat) (sto_length : Int32) (n_sto_b : Nat) (sto_b : Nat → Int32) (rd_at : Int32) (rd_part : Int32) (rd_left : Int32) (rd_fault : Int32) (sz : Nat) (z : Int32 × Int32 × Int32 × Int32) (hf : f_BitReader_openByte sto_length n_sto_b sto_b rd_at rd_part rd_left rd_fault = some z) : Met l y_m710 ws_m710 rm_BitReader_openByte (gPre (dC, dI) [.ref a_rd] (gT cI cB cS cT) (w_BitReader_openByte cI cB cS cT a_sto a_sto_b a_rd sto_length n_sto_b sto_b rd_at rd_part rd_left rd_fault) sz) (gQv (dC, dI) (gT cI cB cS cT) (w_BitReader_openByte cI cB cS cT a_sto a_sto_b a_rd sto_length n_sto_b sto_b rd_at rd_part rd_left rd_fault) (w_BitReader_openByte cI cB cS cT a_sto a_sto_b a_rd sto_length n_sto_b sto_b z.1 z.2.1 z.2.2.1 z.2.2.2) sz) 0 0 (va_A (w_BitReader_openByte cI cB cS cT a_sto a_sto_b a_rd sto_length n_sto_b sto_b rd_at rd_part rd_left rd_fault) sz) := by
  refine Met.ofW (cc := prog_2_method_4_code) (maxL := 2) (ret := none) (by decide) rfl ?_
  intro p e s m args below meth c s₁ B hml hv
  obtain ⟨hargs, hsz, hP, hKN, hD0⟩ := hv
  have hK := hKN.1
  have hx := B.exec
  have hb := B.bytes
  have hr := B.returns
  have hts := atoms_spec (ws := ws_m710) B.pre
  have hown : s.vm.findClass "ScanCoder$BitReader" = some m.cls := findClass_of_methodNamed B.named
  have hlocks := B.notSynchronized
  have k0 := hts _ (List.mem_cons_of_mem _ tw_377)
  have k1 := hts _ (List.mem_cons_of_mem _ tw_376)
  have k2 := hts _ (List.mem_cons_of_mem _ tw_282)
  have k3 := hts _ (List.mem_cons_of_mem _ tw_279)
  have k4 := hts _ (List.mem_cons_of_mem _ tw_378)
  have k5 := hts _ (List.mem_cons_of_mem _ tw_379)
  have k6 := hts _ (List.mem_cons_of_mem _ tw_380)
  have n0 : ∀ w ∈ u_ws "ScanCoder$BitReader" T_1 5, w ∈ ws_m710 := fun w h => List.mem_cons_of_mem _ (in_1 w h)
  have n1 : ∀ w ∈ u_ws "ScanCoder$Store" T_9 2, w ∈ ws_m710 := fun w h => List.mem_cons_of_mem _ (in_9 w h)
  subst hsz
  have hD := hD0.self (sz := s.heap.size)
  obtain ⟨A, hAe⟩ : ∃ A : Nat → Prop, va_A (w_BitReader_openByte cI cB cS cT a_sto a_sto_b a_rd sto_length n_sto_b sto_b rd_at rd_part rd_left rd_fault) s.heap.size = A := ⟨_, rfl⟩
  rw [hAe] at hD
  have hA : ∀ q : Nat, s.heap.size ≤ q → A q := fun q h => by rw [← hAe]; exact Or.inr h
  have hS : va_S A s.heap s.heap [] := va_S.rf
  have hl := lv_entry ([.ref a_rd]) (n := 2) (Nat.le_of_ble_eq_true rfl)
  have hfr : entryFrame m args 2 = F0 m 0 ((lg_sl ([.ref a_rd]) ++ List.replicate (2 - (lg_sl ([.ref a_rd])).length) Slot.unset).toArray) [] := by rw [hargs]; exact lg_entry_eq _ _ _
  rw [hfr]
  generalize (lg_sl ([.ref a_rd]) ++ List.replicate (2 - (lg_sl ([.ref a_rd])).length) Slot.unset).toArray = ls at hl ⊢
  have hl : lv_has ls 2 [(0, .ref a_rd)] := hl
  refine gen_Q (fun Q hQ => ?_)
  clear hfr
  have J134 : ∀ (rd_at_j134 : Int32) (rd_part_j134 : Int32) (rd_left_j134 : Int32) (rd_fault_j134 : Int32), f_BitReader_openByte_J134 rd_at_j134 rd_part_j134 rd_left_j134 rd_fault_j134 = some z → GW (dC, dI) A p l e (headSpec ws_m710 rm_BitReader_openByte).room s m args below meth c 0 0 Q 2 134 (w_BitReader_openByte cI cB cS cT a_sto a_sto_b a_rd sto_length n_sto_b sto_b rd_at_j134 rd_part_j134 rd_left_j134 rd_fault_j134) [(0, .ref a_rd)] [] := by
    intro rd_at_j134 rd_part_j134 rd_left_j134 rd_fault_j134 hf H locs ls hP hD hS hl
    unfold f_BitReader_openByte_J134 at hf
    refine lv_aload_n hx hb d_m710_134 rfl (lv_at hl 0 rfl) ?_
    refine lv_dup hx hb d_m710_135 rfl ?_
    refine va_get (D := (dC, dI)) (ci := 1) (v := .int rd_at_j134) (C := "ScanCoder$BitReader") (T := T_1) (N := 5) hx hb hts n0 hown hK hP 2 rfl rfl 1 (by decide) k0 (fun _ h9 => h9) rfl d_m710_136 ?_
    refine lv_iconst (v := (1 : Int32)) hx hb d_m710_139 (by decide) ?_
    refine lv_iadd hx hb d_m710_140 ?_
    refine va_put (D := (dC, dI)) (ci := 1) (v := .int (rd_at_j134 + (1 : Int32))) (ty := .int) (C := "ScanCoder$BitReader") (T := T_1) (N := 5) hx hb hts n0 ty_1 tyok_1 nm_1 hown hK hP hD hS 2 rfl rfl 1 (by decide) k0 (fun _ h9 => h9) rfl (by decide +kernel) rfl rfl (Nat.le_of_ble_eq_true rfl) d_m710_141 (fun H locs hP hD hS => ?_)
    have hP : va_P (dC, dI) vwCl (w_BitReader_openByte cI cB cS cT a_sto a_sto_b a_rd sto_length n_sto_b sto_b (rd_at_j134 + (1 : Int32)) rd_part_j134 rd_left_j134 rd_fault_j134) H := hP
    have hD : va_D A (w_BitReader_openByte cI cB cS cT a_sto a_sto_b a_rd sto_length n_sto_b sto_b (rd_at_j134 + (1 : Int32)) rd_part_j134 rd_left_j134 rd_fault_j134) := hD
    obtain rfl := Option.some.inj hf
    subst hQ
    subst hAe
    exact W.vret hx hb hr (fun t ht hW => ⟨⟨(), rfl, trivial, by rw [ht]; exact hP, hD⟩, hS.F ht⟩) hS.2.2 d_m710_144
  have J124 : ∀ (v1_j124 : Int32) (rd_at_j124 : Int32) (rd_part_j124 : Int32) (rd_left_j124 : Int32), f_BitReader_openByte_J124 v1_j124 rd_at_j124 rd_part_j124 rd_left_j124 rd_fault = some z → GW (dC, dI) A p l e (headSpec ws_m710 rm_BitReader_openByte).room s m args below meth c 0 0 Q 2 124 (w_BitReader_openByte cI cB cS cT a_sto a_sto_b a_rd sto_length n_sto_b sto_b rd_at_j124 rd_part_j124 rd_left_j124 rd_fault) [(0, .ref a_rd), (1, .int v1_j124)] [] := by
    intro v1_j124 rd_at_j124 rd_part_j124 rd_left_j124 hf H locs ls hP hD hS hl
    unfold f_BitReader_openByte_J124 at hf
    refine lv_iload_n hx hb d_m710_124 rfl (lv_at hl 1 rfl) ?_
    refine lv_if_eq (tgt := 134) hx hb d_m710_125 (by decide) (fun hc => ?_) (fun hc => ?_)
    · replace hf := (if_pos hc).symm.trans hf
      exact J134 rd_at_j124 rd_part_j124 rd_left_j124 rd_fault hf H locs ls hP hD hS (lv_sub hl [0] rfl)
    · replace hf := (if_neg hc).symm.trans hf
      refine lv_aload_n hx hb d_m710_128 rfl (lv_at hl 0 rfl) ?_
      refine lv_bipush (v := (6 : Int32)) hx hb d_m710_129 (by decide) ?_
      refine va_put (D := (dC, dI)) (ci := 1) (v := .int (6 : Int32)) (ty := .int) (C := "ScanCoder$BitReader") (T := T_1) (N := 5) hx hb hts n0 ty_1 tyok_1 nm_1 hown hK hP hD hS 2 rfl rfl 4 (by decide) k6 (fun _ h9 => h9) rfl (by decide +kernel) rfl rfl (Nat.le_of_ble_eq_true rfl) d_m710_131 (fun H locs hP hD hS => ?_)
      have hP : va_P (dC, dI) vwCl (w_BitReader_openByte cI cB cS cT a_sto a_sto_b a_rd sto_length n_sto_b sto_b rd_at_j124 rd_part_j124 rd_left_j124 (6 : Int32)) H := hP
      have hD : va_D A (w_BitReader_openByte cI cB cS cT a_sto a_sto_b a_rd sto_length n_sto_b sto_b rd_at_j124 rd_part_j124 rd_left_j124 (6 : Int32)) := hD
      exact J134 rd_at_j124 rd_part_j124 rd_left_j124 (6 : Int32) hf H locs ls hP hD hS (lv_sub hl [0] rfl)
  have J101 : ∀ (rd_at_j101 : Int32) (rd_part_j101 : Int32) (rd_left_j101 : Int32) (s0_j101 : Int32), f_BitReader_openByte_J101 s0_j101 rd_at_j101 rd_part_j101 rd_left_j101 rd_fault = some z → GW (dC, dI) A p l e (headSpec ws_m710 rm_BitReader_openByte).room s m args below meth c 0 0 Q 2 101 (w_BitReader_openByte cI cB cS cT a_sto a_sto_b a_rd sto_length n_sto_b sto_b rd_at_j101 rd_part_j101 rd_left_j101 rd_fault) [(0, .ref a_rd)] [.int s0_j101] := by
    intro rd_at_j101 rd_part_j101 rd_left_j101 s0_j101 hf H locs ls hP hD hS hl
    unfold f_BitReader_openByte_J101 at hf
    refine lv_istore_n (lv' := [(1, .int s0_j101), (0, .ref a_rd)]) hx hb d_m710_101 rfl hl (by decide) rfl (fun ls hl => ?_)
    refine lv_iload_n hx hb d_m710_102 rfl (lv_at hl 0 rfl) ?_
    refine lv_sipush (v := (208 : Int32)) hx hb d_m710_103 (by decide) ?_
    refine lv_icmp_lt (tgt := 124) hx hb d_m710_106 (by decide) (fun hc => ?_) (fun hc => ?_)
    · replace hf := (if_pos hc).symm.trans hf
      exact J124 s0_j101 rd_at_j101 rd_part_j101 rd_left_j101 hf H locs ls hP hD hS (lv_sub hl [1, 0] rfl)
    · replace hf := (if_neg hc).symm.trans hf
      refine lv_iload_n hx hb d_m710_109 rfl (lv_at hl 0 rfl) ?_
      refine lv_sipush (v := (215 : Int32)) hx hb d_m710_110 (by decide) ?_
      refine lv_icmp_gt (tgt := 124) hx hb d_m710_113 (by decide) (fun hc => ?_) (fun hc => ?_)
      · replace hf := (if_pos hc).symm.trans hf
        exact J124 s0_j101 rd_at_j101 rd_part_j101 rd_left_j101 hf H locs ls hP hD hS (lv_sub hl [1, 0] rfl)
      · replace hf := (if_neg hc).symm.trans hf
        refine lv_aload_n hx hb d_m710_116 rfl (lv_at hl 1 rfl) ?_
        refine lv_iconst (v := (1 : Int32)) hx hb d_m710_117 (by decide) ?_
        refine va_put (D := (dC, dI)) (ci := 1) (v := .int (1 : Int32)) (ty := .int) (C := "ScanCoder$BitReader") (T := T_1) (N := 5) hx hb hts n0 ty_1 tyok_1 nm_1 hown hK hP hD hS 2 rfl rfl 4 (by decide) k6 (fun _ h9 => h9) rfl (by decide +kernel) rfl rfl (Nat.le_of_ble_eq_true rfl) d_m710_118 (fun H locs hP hD hS => ?_)
        have hP : va_P (dC, dI) vwCl (w_BitReader_openByte cI cB cS cT a_sto a_sto_b a_rd sto_length n_sto_b sto_b rd_at_j101 rd_part_j101 rd_left_j101 (1 : Int32)) H := hP
        have hD : va_D A (w_BitReader_openByte cI cB cS cT a_sto a_sto_b a_rd sto_length n_sto_b sto_b rd_at_j101 rd_part_j101 rd_left_j101 (1 : Int32)) := hD
        refine lv_goto (tgt := 134) hx hb d_m710_121 (by decide) ?_
        exact J134 rd_at_j101 rd_part_j101 rd_left_j101 (1 : Int32) hf H locs ls hP hD hS (lv_sub hl [1] rfl)
  have hgo : ∀ (H : Heap) (locs : List Loc), va_P (dC, dI) vwCl (w_BitReader_openByte cI cB cS cT a_sto a_sto_b a_rd sto_length n_sto_b sto_b rd_at rd_part rd_left rd_fault) H → va_S A s.heap H locs → W p l e (headSpec ws_m710 rm_BitReader_openByte).room s m args below meth c H locs 0 0 Q (F0 m 0 ls []) := by
    intro H locs hP hS
    unfold f_BitReader_openByte at hf
    refine lv_aload_n hx hb d_m710_0 rfl (lv_at hl 0 rfl) ?_
    refine va_get (D := (dC, dI)) (ci := 1) (v := .int rd_at) (C := "ScanCoder$BitReader") (T := T_1) (N := 5) hx hb hts n0 hown hK hP 2 rfl rfl 1 (by decide) k0 (fun _ h9 => h9) rfl d_m710_1 ?_
    refine lv_aload_n hx hb d_m710_4 rfl (lv_at hl 0 rfl) ?_
    refine va_get (D := (dC, dI)) (ci := 1) (v := .ref a_sto) (C := "ScanCoder$BitReader") (T := T_1) (N := 5) hx hb hts n0 hown hK hP 2 rfl rfl 0 (by decide) k1 (fun _ h9 => h9) rfl d_m710_5 ?_
    refine va_get (D := (dC, dI)) (ci := 9) (v := .int sto_length) (C := "ScanCoder$Store") (T := T_9) (N := 2) hx hb hts n1 hown hK hP 0 rfl rfl 1 (by decide) k2 (fun _ h9 => h9) rfl d_m710_8 ?_
    refine lv_icmp_lt (tgt := 20) hx hb d_m710_11 (by decide) (fun hc => ?_) (fun hc => ?_)
    · replace hf := (if_pos hc).symm.trans hf
      refine lv_aload_n hx hb d_m710_20 rfl (lv_at hl 0 rfl) ?_
      refine lv_aload_n hx hb d_m710_21 rfl (lv_at hl 0 rfl) ?_
      refine va_get (D := (dC, dI)) (ci := 1) (v := .ref a_sto) (C := "ScanCoder$BitReader") (T := T_1) (N := 5) hx hb hts n0 hown hK hP 2 rfl rfl 0 (by decide) k1 (fun _ h9 => h9) rfl d_m710_22 ?_
      refine va_get (D := (dC, dI)) (ci := 9) (v := .ref a_sto_b) (C := "ScanCoder$Store") (T := T_9) (N := 2) hx hb hts n1 hown hK hP 0 rfl rfl 0 (by decide) k3 (fun _ h9 => h9) rfl d_m710_25 ?_
      refine lv_aload_n hx hb d_m710_28 rfl (lv_at hl 0 rfl) ?_
      refine va_get (D := (dC, dI)) (ci := 1) (v := .int rd_at) (C := "ScanCoder$BitReader") (T := T_1) (N := 5) hx hb hts n0 hown hK hP 2 rfl rfl 1 (by decide) k0 (fun _ h9 => h9) rfl d_m710_29 ?_
      obtain ⟨hi, hf⟩ := ob_if hf
      refine va_bald hx hb hK hP 1 1 rfl rfl hi d_m710_32 ?_
      refine lv_sipush (v := (255 : Int32)) hx hb d_m710_33 (by decide) ?_
      refine lv_iand hx hb d_m710_36 ?_
      refine va_put (D := (dC, dI)) (ci := 1) (v := .int ((sto_b rd_at.toNatClampNeg) &&& (255 : Int32))) (ty := .int) (C := "ScanCoder$BitReader") (T := T_1) (N := 5) hx hb hts n0 ty_1 tyok_1 nm_1 hown hK hP hD hS 2 rfl rfl 2 (by decide) k4 (fun _ h9 => h9) rfl (by decide +kernel) rfl rfl (Nat.le_of_ble_eq_true rfl) d_m710_37 (fun H locs hP hD hS => ?_)
      have hP : va_P (dC, dI) vwCl (w_BitReader_openByte cI cB cS cT a_sto a_sto_b a_rd sto_length n_sto_b sto_b rd_at ((sto_b rd_at.toNatClampNeg) &&& (255 : Int32)) rd_left rd_fault) H := hP
      have hD : va_D A (w_BitReader_openByte cI cB cS cT a_sto a_sto_b a_rd sto_length n_sto_b sto_b rd_at ((sto_b rd_at.toNatClampNeg) &&& (255 : Int32)) rd_left rd_fault) := hD
      refine lv_aload_n hx hb d_m710_40 rfl (lv_at hl 0 rfl) ?_
      refine lv_bipush (v := (8 : Int32)) hx hb d_m710_41 (by decide) ?_
      refine va_put (D := (dC, dI)) (ci := 1) (v := .int (8 : Int32)) (ty := .int) (C := "ScanCoder$BitReader") (T := T_1) (N := 5) hx hb hts n0 ty_1 tyok_1 nm_1 hown hK hP hD hS 2 rfl rfl 3 (by decide) k5 (fun _ h9 => h9) rfl (by decide +kernel) rfl rfl (Nat.le_of_ble_eq_true rfl) d_m710_43 (fun H locs hP hD hS => ?_)
      have hP : va_P (dC, dI) vwCl (w_BitReader_openByte cI cB cS cT a_sto a_sto_b a_rd sto_length n_sto_b sto_b rd_at ((sto_b rd_at.toNatClampNeg) &&& (255 : Int32)) (8 : Int32) rd_fault) H := hP
      have hD : va_D A (w_BitReader_openByte cI cB cS cT a_sto a_sto_b a_rd sto_length n_sto_b sto_b rd_at ((sto_b rd_at.toNatClampNeg) &&& (255 : Int32)) (8 : Int32) rd_fault) := hD
      refine lv_aload_n hx hb d_m710_46 rfl (lv_at hl 0 rfl) ?_
      refine lv_dup hx hb d_m710_47 rfl ?_
      refine va_get (D := (dC, dI)) (ci := 1) (v := .int rd_at) (C := "ScanCoder$BitReader") (T := T_1) (N := 5) hx hb hts n0 hown hK hP 2 rfl rfl 1 (by decide) k0 (fun _ h9 => h9) rfl d_m710_48 ?_
      refine lv_iconst (v := (1 : Int32)) hx hb d_m710_51 (by decide) ?_
      refine lv_iadd hx hb d_m710_52 ?_
      refine va_put (D := (dC, dI)) (ci := 1) (v := .int (rd_at + (1 : Int32))) (ty := .int) (C := "ScanCoder$BitReader") (T := T_1) (N := 5) hx hb hts n0 ty_1 tyok_1 nm_1 hown hK hP hD hS 2 rfl rfl 1 (by decide) k0 (fun _ h9 => h9) rfl (by decide +kernel) rfl rfl (Nat.le_of_ble_eq_true rfl) d_m710_53 (fun H locs hP hD hS => ?_)
      have hP : va_P (dC, dI) vwCl (w_BitReader_openByte cI cB cS cT a_sto a_sto_b a_rd sto_length n_sto_b sto_b (rd_at + (1 : Int32)) ((sto_b rd_at.toNatClampNeg) &&& (255 : Int32)) (8 : Int32) rd_fault) H := hP
      have hD : va_D A (w_BitReader_openByte cI cB cS cT a_sto a_sto_b a_rd sto_length n_sto_b sto_b (rd_at + (1 : Int32)) ((sto_b rd_at.toNatClampNeg) &&& (255 : Int32)) (8 : Int32) rd_fault) := hD
      refine lv_aload_n hx hb d_m710_56 rfl (lv_at hl 0 rfl) ?_
      refine va_get (D := (dC, dI)) (ci := 1) (v := .int ((sto_b rd_at.toNatClampNeg) &&& (255 : Int32))) (C := "ScanCoder$BitReader") (T := T_1) (N := 5) hx hb hts n0 hown hK hP 2 rfl rfl 2 (by decide) k4 (fun _ h9 => h9) rfl d_m710_57 ?_
      refine lv_sipush (v := (255 : Int32)) hx hb d_m710_60 (by decide) ?_
      refine lv_icmp_ge (tgt := 67) hx hb d_m710_63 (by decide) (fun hc => ?_) (fun hc => ?_)
      · replace hf := (if_pos hc).symm.trans hf
        refine lv_aload_n hx hb d_m710_67 rfl (lv_at hl 0 rfl) ?_
        refine va_get (D := (dC, dI)) (ci := 1) (v := .int (rd_at + (1 : Int32))) (C := "ScanCoder$BitReader") (T := T_1) (N := 5) hx hb hts n0 hown hK hP 2 rfl rfl 1 (by decide) k0 (fun _ h9 => h9) rfl d_m710_68 ?_
        refine lv_aload_n hx hb d_m710_71 rfl (lv_at hl 0 rfl) ?_
        refine va_get (D := (dC, dI)) (ci := 1) (v := .ref a_sto) (C := "ScanCoder$BitReader") (T := T_1) (N := 5) hx hb hts n0 hown hK hP 2 rfl rfl 0 (by decide) k1 (fun _ h9 => h9) rfl d_m710_72 ?_
        refine va_get (D := (dC, dI)) (ci := 9) (v := .int sto_length) (C := "ScanCoder$Store") (T := T_9) (N := 2) hx hb hts n1 hown hK hP 0 rfl rfl 1 (by decide) k2 (fun _ h9 => h9) rfl d_m710_75 ?_
        refine lv_icmp_ge (tgt := 100) hx hb d_m710_78 (by decide) (fun hc => ?_) (fun hc => ?_)
        · replace hf := (if_pos hc).symm.trans hf
          refine lv_iconst (v := (-1 : Int32)) hx hb d_m710_100 (by decide) ?_
          exact J101 (rd_at + (1 : Int32)) ((sto_b rd_at.toNatClampNeg) &&& (255 : Int32)) (8 : Int32) (-1 : Int32) hf H locs ls hP hD hS hl
        · replace hf := (if_neg hc).symm.trans hf
          refine lv_aload_n hx hb d_m710_81 rfl (lv_at hl 0 rfl) ?_
          refine va_get (D := (dC, dI)) (ci := 1) (v := .ref a_sto) (C := "ScanCoder$BitReader") (T := T_1) (N := 5) hx hb hts n0 hown hK hP 2 rfl rfl 0 (by decide) k1 (fun _ h9 => h9) rfl d_m710_82 ?_
          refine va_get (D := (dC, dI)) (ci := 9) (v := .ref a_sto_b) (C := "ScanCoder$Store") (T := T_9) (N := 2) hx hb hts n1 hown hK hP 0 rfl rfl 0 (by decide) k3 (fun _ h9 => h9) rfl d_m710_85 ?_
          refine lv_aload_n hx hb d_m710_88 rfl (lv_at hl 0 rfl) ?_
          refine va_get (D := (dC, dI)) (ci := 1) (v := .int (rd_at + (1 : Int32))) (C := "ScanCoder$BitReader") (T := T_1) (N := 5) hx hb hts n0 hown hK hP 2 rfl rfl 1 (by decide) k0 (fun _ h9 => h9) rfl d_m710_89 ?_
          obtain ⟨hi, hf⟩ := ob_if hf
          refine va_bald hx hb hK hP 1 1 rfl rfl hi d_m710_92 ?_
          refine lv_sipush (v := (255 : Int32)) hx hb d_m710_93 (by decide) ?_
          refine lv_iand hx hb d_m710_96 ?_
          refine lv_goto (tgt := 101) hx hb d_m710_97 (by decide) ?_
          exact J101 (rd_at + (1 : Int32)) ((sto_b rd_at.toNatClampNeg) &&& (255 : Int32)) (8 : Int32) ((sto_b (rd_at + (1 : Int32)).toNatClampNeg) &&& (255 : Int32)) hf H locs ls hP hD hS hl
      · replace hf := (if_neg hc).symm.trans hf
        obtain rfl := Option.some.inj hf
        subst hQ
        subst hAe
        exact W.vret hx hb hr (fun t ht hW => ⟨⟨(), rfl, trivial, by rw [ht]; exact hP, hD⟩, hS.F ht⟩) hS.2.2 d_m710_66
    · replace hf := (if_neg hc).symm.trans hf
      refine lv_aload_n hx hb d_m710_14 rfl (lv_at hl 0 rfl) ?_
      refine lv_iconst (v := (1 : Int32)) hx hb d_m710_15 (by decide) ?_
      refine va_put (D := (dC, dI)) (ci := 1) (v := .int (1 : Int32)) (ty := .int) (C := "ScanCoder$BitReader") (T := T_1) (N := 5) hx hb hts n0 ty_1 tyok_1 nm_1 hown hK hP hD hS 2 rfl rfl 4 (by decide) k6 (fun _ h9 => h9) rfl (by decide +kernel) rfl rfl (Nat.le_of_ble_eq_true rfl) d_m710_16 (fun H locs hP hD hS => ?_)
      have hP : va_P (dC, dI) vwCl (w_BitReader_openByte cI cB cS cT a_sto a_sto_b a_rd sto_length n_sto_b sto_b rd_at rd_part rd_left (1 : Int32)) H := hP
      have hD : va_D A (w_BitReader_openByte cI cB cS cT a_sto a_sto_b a_rd sto_length n_sto_b sto_b rd_at rd_part rd_left (1 : Int32)) := hD
      obtain rfl := Option.some.inj hf
      subst hQ
      subst hAe
      exact W.vret hx hb hr (fun t ht hW => ⟨⟨(), rfl, trivial, by rw [ht]; exact hP, hD⟩, hS.F ht⟩) hS.2.2 d_m710_19
  exact hgo _ _ hP hS
def f_BitReader_takeBits_J4_20 (N : Nat) (rec : (Int32 × Int32 × Int32 × Int32 × Int32 × Int32) → Option (Nat × Int32 × Int32 × Int32 × Int32 × Int32)) (rd_fault_j20 : Int32) (v2_4 : Int32) (rd_part_j20 : Int32) (rd_left_j20 : Int32) (v3_4 : Int32) (rd_at_j20 : Int32) : Option (Nat × Int32 × Int32 × Int32 × Int32 × Int32) :=
  if rd_fault_j20 = 0 then
    rec ((v2_4 <<< ((1 : Int32) &&& 31)) ||| ((rd_part_j20 >>> ((rd_left_j20 - (1 : Int32)) &&& 31)) &&& (1 : Int32)), v3_4 + (1 : Int32), rd_at_j20, rd_part_j20, rd_left_j20 - (1 : Int32), rd_fault_j20)
  else
    some (0, v2_4, rd_at_j20, rd_part_j20, rd_left_j20, rd_fault_j20)
def f_BitReader_takeBits_L4b (p0 : Int32) (sto_length : Int32) (n_sto_b : Nat) (sto_b : Nat → Int32) (N : Nat) (rec : (Int32 × Int32 × Int32 × Int32 × Int32 × Int32) → Option (Nat × Int32 × Int32 × Int32 × Int32 × Int32)) (v2_4 : Int32) (v3_4 : Int32) (rd_at_4 : Int32) (rd_part_4 : Int32) (rd_left_4 : Int32) (rd_fault_4 : Int32) : Option (Nat × Int32 × Int32 × Int32 × Int32 × Int32) :=
  if p0 ≤ v3_4 then
    some (1, v2_4, rd_at_4, rd_part_4, rd_left_4, rd_fault_4)
  else
    if rd_left_4 = 0 then
      (f_BitReader_openByte sto_length n_sto_b sto_b rd_at_4 rd_part_4 rd_left_4 rd_fault_4).bind fun z1 =>
      f_BitReader_takeBits_J4_20 N rec z1.2.2.2 v2_4 z1.2.1 z1.2.2.1 v3_4 z1.1
    else
      f_BitReader_takeBits_J4_20 N rec rd_fault_4 v2_4 rd_part_4 rd_left_4 v3_4 rd_at_4
def f_BitReader_takeBits_L4 (p0 : Int32) (sto_length : Int32) (n_sto_b : Nat) (sto_b : Nat → Int32) (N : Nat) (k : Nat) : (Int32 × Int32 × Int32 × Int32 × Int32 × Int32) → Option (Nat × Int32 × Int32 × Int32 × Int32 × Int32) := it (fun rec a => f_BitReader_takeBits_L4b p0 sto_length n_sto_b sto_b N rec a.1 a.2.1 a.2.2.1 a.2.2.2.1 a.2.2.2.2.1 a.2.2.2.2.2) k
def f_BitReader_takeBits (N : Nat) (p0 : Int32) (sto_length : Int32) (n_sto_b : Nat) (sto_b : Nat → Int32) (rd_at : Int32) (rd_part : Int32) (rd_left : Int32) (rd_fault : Int32) : Option (Int32 × Int32 × Int32 × Int32 × Int32) :=
  (f_BitReader_takeBits_L4 p0 sto_length n_sto_b sto_b N N ((0 : Int32), (0 : Int32), rd_at, rd_part, rd_left, rd_fault)).bind fun z2 =>
    if z2.1 = 0 then some ((-1 : Int32), z2.2.2.1, z2.2.2.2.1, z2.2.2.2.2.1, z2.2.2.2.2.2) else some (z2.2.1, z2.2.2.1, z2.2.2.2.1, z2.2.2.2.2.1, z2.2.2.2.2.2)
abbrev w_BitReader_takeBits (cI cB cS cT : ClassId) (a_sto : Nat) (a_sto_b : Nat) (a_rd : Nat) (sto_length : Int32) (n_sto_b : Nat) (sto_b : Nat → Int32) (rd_at : Int32) (rd_part : Int32) (rd_left : Int32) (rd_fault : Int32) : va_W := [(a_sto, .inr (9, [.ref a_sto_b, .int sto_length])), (a_sto_b, .inl (cB, n_sto_b, .inl sto_b)), (a_rd, .inr (1, [.ref a_sto, .int rd_at, .int rd_part, .int rd_left, .int rd_fault]))]
def rm_BitReader_takeBits : Room := { frames := 1, cells := 0, slots := 0, locals := 21 }
set_option maxHeartbeats 1000000 in
set_option maxRecDepth 100000 in
theorem c_BitReader_takeBits (l : Launch) (dC : Nat → ClassId) (dI : Nat → Nat → Nat) (cI cB cS cT : ClassId) (N : Nat) (a_sto : Nat) (a_sto_b : Nat) (a_rd : Nat) (sto_length : Int32) (n_sto_b : Nat) (sto_b : Nat → Int32) (rd_at : Int32) (rd_part : Int32) (rd_left : Int32) (rd_fault : Int32) (p0 : Int32) (sz : Nat) (z : Int32 × Int32 × Int32 × Int32 × Int32) (hf : f_BitReader_takeBits N p0 sto_length n_sto_b sto_b rd_at rd_part rd_left rd_fault = some z) : Met l y_m706 ws_m706 rm_BitReader_takeBits (gPre (dC, dI) [.ref a_rd, .int p0] (gT cI cB cS cT) (w_BitReader_takeBits cI cB cS cT a_sto a_sto_b a_rd sto_length n_sto_b sto_b rd_at rd_part rd_left rd_fault) sz) (gQi (dC, dI) (gT cI cB cS cT) z.1 (w_BitReader_takeBits cI cB cS cT a_sto a_sto_b a_rd sto_length n_sto_b sto_b rd_at rd_part rd_left rd_fault) (w_BitReader_takeBits cI cB cS cT a_sto a_sto_b a_rd sto_length n_sto_b sto_b z.2.1 z.2.2.1 z.2.2.2.1 z.2.2.2.2) sz) 0 0 (va_A (w_BitReader_takeBits cI cB cS cT a_sto a_sto_b a_rd sto_length n_sto_b sto_b rd_at rd_part rd_left rd_fault) sz) := by
  refine Met.ofW (cc := prog_2_method_3_code) (maxL := 4) (ret := (some .int)) (by decide) rfl ?_
  intro p e s m args below meth c s₁ B hml hv
  obtain ⟨hargs, hsz, hP, hKN, hD0⟩ := hv
  have hK := hKN.1
  have hx := B.exec
  have hb := B.bytes
  have hr := B.returns
  have hts := atoms_spec (ws := ws_m706) B.pre
  have hown : s.vm.findClass "ScanCoder$BitReader" = some m.cls := findClass_of_methodNamed B.named
  have hlocks := B.notSynchronized
  have k0 := hts _ (List.mem_cons_of_mem _ tw_379)
  have k1 := hts _ (List.mem_cons_of_mem _ tw_380)
  have k2 := hts _ (List.mem_cons_of_mem _ tw_378)
  have n0 : ∀ w ∈ u_ws "ScanCoder$BitReader" T_1 5, w ∈ ws_m706 := fun w h => List.mem_cons_of_mem _ (in_1 w h)
  subst hsz
  have hD := hD0.self (sz := s.heap.size)
  obtain ⟨A, hAe⟩ : ∃ A : Nat → Prop, va_A (w_BitReader_takeBits cI cB cS cT a_sto a_sto_b a_rd sto_length n_sto_b sto_b rd_at rd_part rd_left rd_fault) s.heap.size = A := ⟨_, rfl⟩
  rw [hAe] at hD
  have hA : ∀ q : Nat, s.heap.size ≤ q → A q := fun q h => by rw [← hAe]; exact Or.inr h
  have hS : va_S A s.heap s.heap [] := va_S.rf
  have hl := lv_entry ([.ref a_rd, .int p0]) (n := 4) (Nat.le_of_ble_eq_true rfl)
  have hfr : entryFrame m args 4 = F0 m 0 ((lg_sl ([.ref a_rd, .int p0]) ++ List.replicate (4 - (lg_sl ([.ref a_rd, .int p0])).length) Slot.unset).toArray) [] := by rw [hargs]; exact lg_entry_eq _ _ _
  rw [hfr]
  generalize (lg_sl ([.ref a_rd, .int p0]) ++ List.replicate (4 - (lg_sl ([.ref a_rd, .int p0])).length) Slot.unset).toArray = ls at hl ⊢
  have hl : lv_has ls 4 [(0, .ref a_rd), (1, .int p0)] := hl
  refine gen_Q (fun Q hQ => ?_)
  clear hfr
  have L4 : ∀  (z : Nat × Int32 × Int32 × Int32 × Int32 × Int32), (z.1 = 0 → GW (dC, dI) A p l e (headSpec ws_m706 rm_BitReader_takeBits).room s m args below meth c 0 0 Q 4 27 (w_BitReader_takeBits cI cB cS cT a_sto a_sto_b a_rd sto_length n_sto_b sto_b z.2.2.1 z.2.2.2.1 z.2.2.2.2.1 z.2.2.2.2.2) [] []) → (z.1 = 1 → GW (dC, dI) A p l e (headSpec ws_m706 rm_BitReader_takeBits).room s m args below meth c 0 0 Q 4 61 (w_BitReader_takeBits cI cB cS cT a_sto a_sto_b a_rd sto_length n_sto_b sto_b z.2.2.1 z.2.2.2.1 z.2.2.2.2.1 z.2.2.2.2.2) [(2, .int z.2.1)] []) → ∀ (k : Nat) (v2_4 : Int32) (v3_4 : Int32) (rd_at_4 : Int32) (rd_part_4 : Int32) (rd_left_4 : Int32) (rd_fault_4 : Int32), f_BitReader_takeBits_L4 p0 sto_length n_sto_b sto_b N k (v2_4, v3_4, rd_at_4, rd_part_4, rd_left_4, rd_fault_4) = some z → GW (dC, dI) A p l e (headSpec ws_m706 rm_BitReader_takeBits).room s m args below meth c 0 0 Q 4 4 (w_BitReader_takeBits cI cB cS cT a_sto a_sto_b a_rd sto_length n_sto_b sto_b rd_at_4 rd_part_4 rd_left_4 rd_fault_4) [(0, .ref a_rd), (1, .int p0), (2, .int v2_4), (3, .int v3_4)] [] := by
    intro  z hE0 hE1 k
    induction k with
    | zero =>
      intro v2_4 v3_4 rd_at_4 rd_part_4 rd_left_4 rd_fault_4 hf
      exact (it_zero hf).elim
    | succ k ih =>
      intro v2_4 v3_4 rd_at_4 rd_part_4 rd_left_4 rd_fault_4 hf H locs ls hP hD hS hl
      have J4_20 : ∀ (rd_at_j20 : Int32) (rd_part_j20 : Int32) (rd_left_j20 : Int32) (rd_fault_j20 : Int32), f_BitReader_takeBits_J4_20 N (f_BitReader_takeBits_L4 p0 sto_length n_sto_b sto_b N k) rd_fault_j20 v2_4 rd_part_j20 rd_left_j20 v3_4 rd_at_j20 = some z → GW (dC, dI) A p l e (headSpec ws_m706 rm_BitReader_takeBits).room s m args below meth c 0 0 Q 4 20 (w_BitReader_takeBits cI cB cS cT a_sto a_sto_b a_rd sto_length n_sto_b sto_b rd_at_j20 rd_part_j20 rd_left_j20 rd_fault_j20) [(0, .ref a_rd), (1, .int p0), (2, .int v2_4), (3, .int v3_4)] [] := by
        intro rd_at_j20 rd_part_j20 rd_left_j20 rd_fault_j20 hf H locs ls hP hD hS hl
        unfold f_BitReader_takeBits_J4_20 at hf
        refine lv_aload_n hx hb d_m706_20 rfl (lv_at hl 0 rfl) ?_
        refine va_get (D := (dC, dI)) (ci := 1) (v := .int rd_fault_j20) (C := "ScanCoder$BitReader") (T := T_1) (N := 5) hx hb hts n0 hown hK hP 2 rfl rfl 4 (by decide) k1 (fun _ h9 => h9) rfl d_m706_21 ?_
        refine lv_if_eq (tgt := 29) hx hb d_m706_24 (by decide) (fun hc => ?_) (fun hc => ?_)
        · replace hf := (if_pos hc).symm.trans hf
          refine lv_aload_n hx hb d_m706_29 rfl (lv_at hl 0 rfl) ?_
          refine lv_dup hx hb d_m706_30 rfl ?_
          refine va_get (D := (dC, dI)) (ci := 1) (v := .int rd_left_j20) (C := "ScanCoder$BitReader") (T := T_1) (N := 5) hx hb hts n0 hown hK hP 2 rfl rfl 3 (by decide) k0 (fun _ h9 => h9) rfl d_m706_31 ?_
          refine lv_iconst (v := (1 : Int32)) hx hb d_m706_34 (by decide) ?_
          refine lv_isub hx hb d_m706_35 ?_
          refine va_put (D := (dC, dI)) (ci := 1) (v := .int (rd_left_j20 - (1 : Int32))) (ty := .int) (C := "ScanCoder$BitReader") (T := T_1) (N := 5) hx hb hts n0 ty_1 tyok_1 nm_1 hown hK hP hD hS 2 rfl rfl 3 (by decide) k0 (fun _ h9 => h9) rfl (by decide +kernel) rfl rfl (Nat.le_of_ble_eq_true rfl) d_m706_36 (fun H locs hP hD hS => ?_)
          have hP : va_P (dC, dI) vwCl (w_BitReader_takeBits cI cB cS cT a_sto a_sto_b a_rd sto_length n_sto_b sto_b rd_at_j20 rd_part_j20 (rd_left_j20 - (1 : Int32)) rd_fault_j20) H := hP
          have hD : va_D A (w_BitReader_takeBits cI cB cS cT a_sto a_sto_b a_rd sto_length n_sto_b sto_b rd_at_j20 rd_part_j20 (rd_left_j20 - (1 : Int32)) rd_fault_j20) := hD
          refine lv_iload_n hx hb d_m706_39 rfl (lv_at hl 2 rfl) ?_
          refine lv_iconst (v := (1 : Int32)) hx hb d_m706_40 (by decide) ?_
          refine lv_ishl hx hb d_m706_41 ?_
          refine lv_aload_n hx hb d_m706_42 rfl (lv_at hl 0 rfl) ?_
          refine va_get (D := (dC, dI)) (ci := 1) (v := .int rd_part_j20) (C := "ScanCoder$BitReader") (T := T_1) (N := 5) hx hb hts n0 hown hK hP 2 rfl rfl 2 (by decide) k2 (fun _ h9 => h9) rfl d_m706_43 ?_
          refine lv_aload_n hx hb d_m706_46 rfl (lv_at hl 0 rfl) ?_
          refine va_get (D := (dC, dI)) (ci := 1) (v := .int (rd_left_j20 - (1 : Int32))) (C := "ScanCoder$BitReader") (T := T_1) (N := 5) hx hb hts n0 hown hK hP 2 rfl rfl 3 (by decide) k0 (fun _ h9 => h9) rfl d_m706_47 ?_
          refine lv_ishr hx hb d_m706_50 ?_
          refine lv_iconst (v := (1 : Int32)) hx hb d_m706_51 (by decide) ?_
          refine lv_iand hx hb d_m706_52 ?_
          refine lv_ior hx hb d_m706_53 ?_
          refine lv_istore_n (lv' := [(2, .int ((v2_4 <<< ((1 : Int32) &&& 31)) ||| ((rd_part_j20 >>> ((rd_left_j20 - (1 : Int32)) &&& 31)) &&& (1 : Int32)))), (0, .ref a_rd), (1, .int p0), (3, .int v3_4)]) hx hb d_m706_54 rfl hl (by decide) rfl (fun ls hl => ?_)
          refine lv_iinc (v := v3_4 + (1 : Int32)) (lv' := [(3, .int (v3_4 + (1 : Int32))), (2, .int ((v2_4 <<< ((1 : Int32) &&& 31)) ||| ((rd_part_j20 >>> ((rd_left_j20 - (1 : Int32)) &&& 31)) &&& (1 : Int32)))), (0, .ref a_rd), (1, .int p0)]) hx hb d_m706_55 hl (k := 3) rfl rfl (by decide) rfl (fun ls hl => ?_)
          refine lv_goto (tgt := 4) hx hb d_m706_58 (by decide) ?_
          exact ih ((v2_4 <<< ((1 : Int32) &&& 31)) ||| ((rd_part_j20 >>> ((rd_left_j20 - (1 : Int32)) &&& 31)) &&& (1 : Int32))) (v3_4 + (1 : Int32)) rd_at_j20 rd_part_j20 (rd_left_j20 - (1 : Int32)) rd_fault_j20 hf H locs ls hP hD hS (lv_sub hl [2, 3, 1, 0] rfl)
        · replace hf := (if_neg hc).symm.trans hf
          obtain rfl := Option.some.inj hf
          exact hE0 rfl  H locs ls hP hD hS (lv_sub hl [] rfl)
      have hf : f_BitReader_takeBits_L4b p0 sto_length n_sto_b sto_b N (f_BitReader_takeBits_L4 p0 sto_length n_sto_b sto_b N k) v2_4 v3_4 rd_at_4 rd_part_4 rd_left_4 rd_fault_4 = some z := hf
      unfold f_BitReader_takeBits_L4b at hf
      refine lv_iload_n hx hb d_m706_4 rfl (lv_at hl 3 rfl) ?_
      refine lv_iload_n hx hb d_m706_5 rfl (lv_at hl 1 rfl) ?_
      refine lv_icmp_ge (tgt := 61) hx hb d_m706_6 (by decide) (fun hc => ?_) (fun hc => ?_)
      · replace hf := (if_pos hc).symm.trans hf
        obtain rfl := Option.some.inj hf
        exact hE1 rfl  H locs ls hP hD hS (lv_sub hl [2] rfl)
      · replace hf := (if_neg hc).symm.trans hf
        refine lv_aload_n hx hb d_m706_9 rfl (lv_at hl 0 rfl) ?_
        refine va_get (D := (dC, dI)) (ci := 1) (v := .int rd_left_4) (C := "ScanCoder$BitReader") (T := T_1) (N := 5) hx hb hts n0 hown hK hP 2 rfl rfl 3 (by decide) k0 (fun _ h9 => h9) rfl d_m706_10 ?_
        refine lv_if_ne (tgt := 20) hx hb d_m706_13 (by decide) (fun hc => ?_) (fun hc => ?_)
        · replace hf := (if_neg hc).symm.trans hf
          exact J4_20 rd_at_4 rd_part_4 rd_left_4 rd_fault_4 hf H locs ls hP hD hS hl
        · replace hf := (if_pos hc).symm.trans hf
          refine lv_aload_n hx hb d_m706_16 rfl (lv_at hl 0 rfl) ?_
          obtain ⟨z1, hz1, hf⟩ := ob_bind hf
          refine g_callv (wc := (w_BitReader_openByte cI cB cS cT a_sto a_sto_b a_rd sto_length n_sto_b sto_b rd_at_4 rd_part_4 rd_left_4 rd_fault_4)) (w1 := (w_BitReader_openByte cI cB cS cT a_sto a_sto_b a_rd sto_length n_sto_b sto_b z1.1 z1.2.1 z1.2.2.1 z1.2.2.2)) (w2 := (w_BitReader_takeBits cI cB cS cT a_sto a_sto_b a_rd sto_length n_sto_b sto_b z1.1 z1.2.1 z1.2.2.1 z1.2.2.2)) [0, 1, 2] [some 0, some 1, some 2] hP hD hS hA rfl rfl rfl rfl (va_runV (As := []) (rest := []) ⟨hx, hb, hml, hown, hts⟩ (c_BitReader_openByte l dC dI cI cB cS cT a_sto a_sto_b a_rd sto_length n_sto_b sto_b rd_at_4 rd_part_4 rd_left_4 rd_fault_4 H.size z1 hz1) ⟨(callB_of 0 hts (gi tw_710 rfl) rfl rfl rfl (hts _ (List.mem_cons_of_mem _ tw_15)) (hts _ (List.mem_cons_of_mem _ tw_707)) (by decide +kernel) ⟨Nat.le_of_ble_eq_true rfl, Nat.le_of_ble_eq_true rfl⟩), hts _ (List.mem_cons_of_mem _ tw_709), hts _ (List.mem_cons_of_mem _ ts_m710)⟩ ⟨g_blind, va_recv hK hP (ci := 1) (q0 := 2) rfl rfl, g_at hKN (g_pm hP [0, 1, 2] rfl) (hD.sub [0, 1, 2] (by decide) rfl)⟩ rfl rfl hl.1 rfl (lv_room (Nat.le_of_ble_eq_true rfl)) d_m706_17 ⟨Nat.zero_le _, Nat.zero_le _⟩) (fun H locs hP hD hS => ?_)
          refine W.eq (g2 := F0 m 20 ls []) rfl ?_
          exact J4_20 z1.1 z1.2.1 z1.2.2.1 z1.2.2.2 hf H locs ls hP hD hS hl
  have hgo : ∀ (H : Heap) (locs : List Loc), va_P (dC, dI) vwCl (w_BitReader_takeBits cI cB cS cT a_sto a_sto_b a_rd sto_length n_sto_b sto_b rd_at rd_part rd_left rd_fault) H → va_S A s.heap H locs → W p l e (headSpec ws_m706 rm_BitReader_takeBits).room s m args below meth c H locs 0 0 Q (F0 m 0 ls []) := by
    intro H locs hP hS
    unfold f_BitReader_takeBits at hf
    refine lv_iconst (v := (0 : Int32)) hx hb d_m706_0 (by decide) ?_
    refine lv_istore_n (lv' := [(2, .int (0 : Int32)), (0, .ref a_rd), (1, .int p0)]) hx hb d_m706_1 rfl hl (by decide) rfl (fun ls hl => ?_)
    refine lv_iconst (v := (0 : Int32)) hx hb d_m706_2 (by decide) ?_
    refine lv_istore_n (lv' := [(3, .int (0 : Int32)), (2, .int (0 : Int32)), (0, .ref a_rd), (1, .int p0)]) hx hb d_m706_3 rfl hl (by decide) rfl (fun ls hl => ?_)
    obtain ⟨z2, hz2, hf⟩ := ob_bind hf
    refine L4  z2 ?_ ?_ N (0 : Int32) (0 : Int32) rd_at rd_part rd_left rd_fault hz2 H locs ls hP hD hS (lv_sub hl [2, 3, 1, 0] rfl)
    · intro hz H locs ls hP hD hS hl
      replace hf := (if_pos hz).symm.trans hf
      refine lv_iconst (v := (-1 : Int32)) hx hb d_m706_27 (by decide) ?_
      obtain rfl := Option.some.inj hf
      subst hQ
      subst hAe
      exact W.iret (v := (-1 : Int32)) hx hb hr (fun t ht hW => ⟨⟨(-1 : Int32), (), rfl, rfl, by rw [ht]; exact hP, hD⟩, hS.F ht⟩) hS.2.2 d_m706_28
    · intro hz H locs ls hP hD hS hl
      replace hf := (if_neg (by rw [hz]; decide)).symm.trans hf
      refine lv_iload_n hx hb d_m706_61 rfl (lv_at hl 0 rfl) ?_
      obtain rfl := Option.some.inj hf
      subst hQ
      subst hAe
      exact W.iret (v := z2.2.1) hx hb hr (fun t ht hW => ⟨⟨z2.2.1, (), rfl, rfl, by rw [ht]; exact hP, hD⟩, hS.F ht⟩) hS.2.2 d_m706_62
  exact hgo _ _ hP hS
def f_BitReader_takeWord_L4b (tab_end : Int32) (sto_length : Int32) (n_sto_b : Nat) (sto_b : Nat → Int32) (tab_s : Nat → Int32) (tab_f : Nat → Int32) (tab_x : Nat → Int32) (N : Nat) (rec : (Int32 × Int32 × Int32 × Int32 × Int32 × Int32) → Option (Nat × Int32 × Int32 × Int32 × Int32 × Int32)) (v2_4 : Int32) (v3_4 : Int32) (rd_at_4 : Int32) (rd_part_4 : Int32) (rd_left_4 : Int32) (rd_fault_4 : Int32) : Option (Nat × Int32 × Int32 × Int32 × Int32 × Int32) :=
  if (16 : Int32) ≤ v3_4 then
    some (2, (0 : Int32), rd_at_4, rd_part_4, rd_left_4, rd_fault_4)
  else
    (f_Table_hasLonger v2_4 v3_4 tab_end).bind fun z1 =>
    if z1 = 0 then
      some (2, (0 : Int32), rd_at_4, rd_part_4, rd_left_4, rd_fault_4)
    else
      (f_BitReader_takeBits N (1 : Int32) sto_length n_sto_b sto_b rd_at_4 rd_part_4 rd_left_4 rd_fault_4).bind fun z2 =>
      if z2.1 = (-1 : Int32) then
        some (0, (0 : Int32), z2.2.1, z2.2.2.1, z2.2.2.2.1, z2.2.2.2.2)
      else
        (f_Table_symbolOf ((v2_4 <<< ((1 : Int32) &&& 31)) ||| z2.1) (v3_4 + (1 : Int32)) tab_s tab_f tab_x).bind fun z3 =>
        if z3 = (-1 : Int32) then
          rec ((v2_4 <<< ((1 : Int32) &&& 31)) ||| z2.1, v3_4 + (1 : Int32), z2.2.1, z2.2.2.1, z2.2.2.2.1, z2.2.2.2.2)
        else
          some (1, z3, z2.2.1, z2.2.2.1, z2.2.2.2.1, z2.2.2.2.2)
def f_BitReader_takeWord_L4 (tab_end : Int32) (sto_length : Int32) (n_sto_b : Nat) (sto_b : Nat → Int32) (tab_s : Nat → Int32) (tab_f : Nat → Int32) (tab_x : Nat → Int32) (N : Nat) (k : Nat) : (Int32 × Int32 × Int32 × Int32 × Int32 × Int32) → Option (Nat × Int32 × Int32 × Int32 × Int32 × Int32) := it (fun rec a => f_BitReader_takeWord_L4b tab_end sto_length n_sto_b sto_b tab_s tab_f tab_x N rec a.1 a.2.1 a.2.2.1 a.2.2.2.1 a.2.2.2.2.1 a.2.2.2.2.2) k
def f_BitReader_takeWord_J66 (N : Nat) (rd_at_j66 : Int32) (rd_part_j66 : Int32) (rd_left_j66 : Int32) : Option (Int32 × Int32 × Int32 × Int32 × Int32) :=
  some ((-1 : Int32), rd_at_j66, rd_part_j66, rd_left_j66, (2 : Int32))
def f_BitReader_takeWord (N : Nat) (sto_length : Int32) (n_sto_b : Nat) (sto_b : Nat → Int32) (rd_at : Int32) (rd_part : Int32) (rd_left : Int32) (rd_fault : Int32) (tab_end : Int32) (tab_s : Nat → Int32) (tab_f : Nat → Int32) (tab_x : Nat → Int32) : Option (Int32 × Int32 × Int32 × Int32 × Int32) :=
  (f_BitReader_takeWord_L4 tab_end sto_length n_sto_b sto_b tab_s tab_f tab_x N N ((0 : Int32), (0 : Int32), rd_at, rd_part, rd_left, rd_fault)).bind fun z4 =>
    if z4.1 = 0 then some ((-1 : Int32), z4.2.2.1, z4.2.2.2.1, z4.2.2.2.2.1, z4.2.2.2.2.2) else if z4.1 = 1 then some (z4.2.1, z4.2.2.1, z4.2.2.2.1, z4.2.2.2.2.1, z4.2.2.2.2.2) else f_BitReader_takeWord_J66 N z4.2.2.1 z4.2.2.2.1 z4.2.2.2.2.1
abbrev w_BitReader_takeWord (cI cB cS cT : ClassId) (a_sto : Nat) (a_sto_b : Nat) (a_rd : Nat) (a_tab : Nat) (a_tab_s : Nat) (a_tab_f : Nat) (a_tab_x : Nat) (a_tab_w : Nat) (sto_length : Int32) (n_sto_b : Nat) (sto_b : Nat → Int32) (rd_at : Int32) (rd_part : Int32) (rd_left : Int32) (rd_fault : Int32) (tab_end : Int32) (tab_size : Int32) (tab_s : Nat → Int32) (tab_f : Nat → Int32) (tab_x : Nat → Int32) : va_W := [(a_sto, .inr (9, [.ref a_sto_b, .int sto_length])), (a_sto_b, .inl (cB, n_sto_b, .inl sto_b)), (a_rd, .inr (1, [.ref a_sto, .int rd_at, .int rd_part, .int rd_left, .int rd_fault])), (a_tab, .inr (10, [.ref a_tab_w, .ref a_tab_s, .ref a_tab_f, .ref a_tab_x, .int tab_end, .int tab_size])), (a_tab_s, .inl (cI, 256, .inl tab_s)), (a_tab_f, .inl (cI, 17, .inl tab_f)), (a_tab_x, .inl (cI, 18, .inl tab_x))]
def rm_BitReader_takeWord : Room := { frames := 2, cells := 0, slots := 0, locals := 44 }
set_option maxHeartbeats 1000000 in
set_option maxRecDepth 100000 in
theorem c_BitReader_takeWord (l : Launch) (dC : Nat → ClassId) (dI : Nat → Nat → Nat) (cI cB cS cT : ClassId) (N : Nat) (a_sto : Nat) (a_sto_b : Nat) (a_rd : Nat) (a_tab : Nat) (a_tab_s : Nat) (a_tab_f : Nat) (a_tab_x : Nat) (a_tab_w : Nat) (sto_length : Int32) (n_sto_b : Nat) (sto_b : Nat → Int32) (rd_at : Int32) (rd_part : Int32) (rd_left : Int32) (rd_fault : Int32) (tab_end : Int32) (tab_size : Int32) (tab_s : Nat → Int32) (tab_f : Nat → Int32) (tab_x : Nat → Int32) (sz : Nat) (z : Int32 × Int32 × Int32 × Int32 × Int32) (hf : f_BitReader_takeWord N sto_length n_sto_b sto_b rd_at rd_part rd_left rd_fault tab_end tab_s tab_f tab_x = some z) : Met l y_m698 ws_m698 rm_BitReader_takeWord (gPre (dC, dI) [.ref a_rd, .ref a_tab] (gT cI cB cS cT) (w_BitReader_takeWord cI cB cS cT a_sto a_sto_b a_rd a_tab a_tab_s a_tab_f a_tab_x a_tab_w sto_length n_sto_b sto_b rd_at rd_part rd_left rd_fault tab_end tab_size tab_s tab_f tab_x) sz) (gQi (dC, dI) (gT cI cB cS cT) z.1 (w_BitReader_takeWord cI cB cS cT a_sto a_sto_b a_rd a_tab a_tab_s a_tab_f a_tab_x a_tab_w sto_length n_sto_b sto_b rd_at rd_part rd_left rd_fault tab_end tab_size tab_s tab_f tab_x) (w_BitReader_takeWord cI cB cS cT a_sto a_sto_b a_rd a_tab a_tab_s a_tab_f a_tab_x a_tab_w sto_length n_sto_b sto_b z.2.1 z.2.2.1 z.2.2.2.1 z.2.2.2.2 tab_end tab_size tab_s tab_f tab_x) sz) 0 0 (va_A (w_BitReader_takeWord cI cB cS cT a_sto a_sto_b a_rd a_tab a_tab_s a_tab_f a_tab_x a_tab_w sto_length n_sto_b sto_b rd_at rd_part rd_left rd_fault tab_end tab_size tab_s tab_f tab_x) sz) := by
  refine Met.ofW (cc := prog_2_method_5_code) (maxL := 6) (ret := (some .int)) (by decide) rfl ?_
  intro p e s m args below meth c s₁ B hml hv
  obtain ⟨hargs, hsz, hP, hKN, hD0⟩ := hv
  have hK := hKN.1
  have hx := B.exec
  have hb := B.bytes
  have hr := B.returns
  have hts := atoms_spec (ws := ws_m698) B.pre
  have hown : s.vm.findClass "ScanCoder$BitReader" = some m.cls := findClass_of_methodNamed B.named
  have hlocks := B.notSynchronized
  have k0 := hts _ (List.mem_cons_of_mem _ tw_380)
  have n0 : ∀ w ∈ u_ws "ScanCoder$BitReader" T_1 5, w ∈ ws_m698 := fun w h => List.mem_cons_of_mem _ (in_1 w h)
  subst hsz
  have hD := hD0.self (sz := s.heap.size)
  obtain ⟨A, hAe⟩ : ∃ A : Nat → Prop, va_A (w_BitReader_takeWord cI cB cS cT a_sto a_sto_b a_rd a_tab a_tab_s a_tab_f a_tab_x a_tab_w sto_length n_sto_b sto_b rd_at rd_part rd_left rd_fault tab_end tab_size tab_s tab_f tab_x) s.heap.size = A := ⟨_, rfl⟩
  rw [hAe] at hD
  have hA : ∀ q : Nat, s.heap.size ≤ q → A q := fun q h => by rw [← hAe]; exact Or.inr h
  have hS : va_S A s.heap s.heap [] := va_S.rf
  have hl := lv_entry ([.ref a_rd, .ref a_tab]) (n := 6) (Nat.le_of_ble_eq_true rfl)
  have hfr : entryFrame m args 6 = F0 m 0 ((lg_sl ([.ref a_rd, .ref a_tab]) ++ List.replicate (6 - (lg_sl ([.ref a_rd, .ref a_tab])).length) Slot.unset).toArray) [] := by rw [hargs]; exact lg_entry_eq _ _ _
  rw [hfr]
  generalize (lg_sl ([.ref a_rd, .ref a_tab]) ++ List.replicate (6 - (lg_sl ([.ref a_rd, .ref a_tab])).length) Slot.unset).toArray = ls at hl ⊢
  have hl : lv_has ls 6 [(0, .ref a_rd), (1, .ref a_tab)] := hl
  refine gen_Q (fun Q hQ => ?_)
  clear hfr
  have L4 : ∀  (z : Nat × Int32 × Int32 × Int32 × Int32 × Int32), (z.1 = 0 → GW (dC, dI) A p l e (headSpec ws_m698 rm_BitReader_takeWord).room s m args below meth c 0 0 Q 6 32 (w_BitReader_takeWord cI cB cS cT a_sto a_sto_b a_rd a_tab a_tab_s a_tab_f a_tab_x a_tab_w sto_length n_sto_b sto_b z.2.2.1 z.2.2.2.1 z.2.2.2.2.1 z.2.2.2.2.2 tab_end tab_size tab_s tab_f tab_x) [] []) → (z.1 = 1 → GW (dC, dI) A p l e (headSpec ws_m698 rm_BitReader_takeWord).room s m args below meth c 0 0 Q 6 57 (w_BitReader_takeWord cI cB cS cT a_sto a_sto_b a_rd a_tab a_tab_s a_tab_f a_tab_x a_tab_w sto_length n_sto_b sto_b z.2.2.1 z.2.2.2.1 z.2.2.2.2.1 z.2.2.2.2.2 tab_end tab_size tab_s tab_f tab_x) [(5, .int z.2.1)] []) → (z.1 = 2 → GW (dC, dI) A p l e (headSpec ws_m698 rm_BitReader_takeWord).room s m args below meth c 0 0 Q 6 66 (w_BitReader_takeWord cI cB cS cT a_sto a_sto_b a_rd a_tab a_tab_s a_tab_f a_tab_x a_tab_w sto_length n_sto_b sto_b z.2.2.1 z.2.2.2.1 z.2.2.2.2.1 z.2.2.2.2.2 tab_end tab_size tab_s tab_f tab_x) [(0, .ref a_rd)] []) → ∀ (k : Nat) (v2_4 : Int32) (v3_4 : Int32) (rd_at_4 : Int32) (rd_part_4 : Int32) (rd_left_4 : Int32) (rd_fault_4 : Int32), f_BitReader_takeWord_L4 tab_end sto_length n_sto_b sto_b tab_s tab_f tab_x N k (v2_4, v3_4, rd_at_4, rd_part_4, rd_left_4, rd_fault_4) = some z → GW (dC, dI) A p l e (headSpec ws_m698 rm_BitReader_takeWord).room s m args below meth c 0 0 Q 6 4 (w_BitReader_takeWord cI cB cS cT a_sto a_sto_b a_rd a_tab a_tab_s a_tab_f a_tab_x a_tab_w sto_length n_sto_b sto_b rd_at_4 rd_part_4 rd_left_4 rd_fault_4 tab_end tab_size tab_s tab_f tab_x) [(0, .ref a_rd), (1, .ref a_tab), (2, .int v2_4), (3, .int v3_4)] [] := by
    intro  z hE0 hE1 hE2 k
    induction k with
    | zero =>
      intro v2_4 v3_4 rd_at_4 rd_part_4 rd_left_4 rd_fault_4 hf
      exact (it_zero hf).elim
    | succ k ih =>
      intro v2_4 v3_4 rd_at_4 rd_part_4 rd_left_4 rd_fault_4 hf H locs ls hP hD hS hl
      have hf : f_BitReader_takeWord_L4b tab_end sto_length n_sto_b sto_b tab_s tab_f tab_x N (f_BitReader_takeWord_L4 tab_end sto_length n_sto_b sto_b tab_s tab_f tab_x N k) v2_4 v3_4 rd_at_4 rd_part_4 rd_left_4 rd_fault_4 = some z := hf
      unfold f_BitReader_takeWord_L4b at hf
      refine lv_iload_n hx hb d_m698_4 rfl (lv_at hl 3 rfl) ?_
      refine lv_bipush (v := (16 : Int32)) hx hb d_m698_5 (by decide) ?_
      refine lv_icmp_ge (tgt := 66) hx hb d_m698_7 (by decide) (fun hc => ?_) (fun hc => ?_)
      · replace hf := (if_pos hc).symm.trans hf
        obtain rfl := Option.some.inj hf
        exact hE2 rfl  H locs ls hP hD hS (lv_sub hl [0] rfl)
      · replace hf := (if_neg hc).symm.trans hf
        refine lv_aload_n hx hb d_m698_10 rfl (lv_at hl 1 rfl) ?_
        refine lv_iload_n hx hb d_m698_11 rfl (lv_at hl 2 rfl) ?_
        refine lv_iload_n hx hb d_m698_12 rfl (lv_at hl 3 rfl) ?_
        obtain ⟨z1, hz1, hf⟩ := ob_bind hf
        refine vp_callSi (g_run (va_runV (As := [.int v2_4, .int v3_4]) (rest := []) ⟨hx, hb, hml, hown, hts⟩ (c_Table_hasLonger l dC dI cI cB cS cT a_tab a_tab_w a_tab_s a_tab_f a_tab_x tab_end tab_size v2_4 v3_4 z1 hz1) ⟨(callB_of 2 hts (gi tw_702 rfl) rfl rfl rfl (hts _ (List.mem_cons_of_mem _ tw_8)) (hts _ (List.mem_cons_of_mem _ tw_699)) (by decide +kernel) ⟨Nat.le_of_ble_eq_true rfl, Nat.le_of_ble_eq_true rfl⟩), hts _ (List.mem_cons_of_mem _ tw_700), hts _ (List.mem_cons_of_mem _ tw_701)⟩ ⟨gp_blind, va_recv hK hP (ci := 10) (q0 := 3) rfl rfl, gp_at hKN (g_pm hP [3] rfl)⟩ rfl rfl hl.1 rfl (lv_room (Nat.le_of_ble_eq_true rfl)) d_m698_13 ⟨Nat.zero_le _, Nat.zero_le _⟩)) (fun r hrz1 => ?_)
        have hrz1 := hrz1.symm
        subst hrz1
        refine W.eq (g2 := F0 m 16 ls [.int z1]) rfl ?_
        refine lv_if_eq (tgt := 66) hx hb d_m698_16 (by decide) (fun hc => ?_) (fun hc => ?_)
        · replace hf := (if_pos hc).symm.trans hf
          obtain rfl := Option.some.inj hf
          exact hE2 rfl  H locs ls hP hD hS (lv_sub hl [0] rfl)
        · replace hf := (if_neg hc).symm.trans hf
          refine lv_aload_n hx hb d_m698_19 rfl (lv_at hl 0 rfl) ?_
          refine lv_iconst (v := (1 : Int32)) hx hb d_m698_20 (by decide) ?_
          obtain ⟨z2, hz2, hf⟩ := ob_bind hf
          refine g_calli (wc := (w_BitReader_takeBits cI cB cS cT a_sto a_sto_b a_rd sto_length n_sto_b sto_b rd_at_4 rd_part_4 rd_left_4 rd_fault_4)) (w1 := (w_BitReader_takeBits cI cB cS cT a_sto a_sto_b a_rd sto_length n_sto_b sto_b z2.2.1 z2.2.2.1 z2.2.2.2.1 z2.2.2.2.2)) (w2 := (w_BitReader_takeWord cI cB cS cT a_sto a_sto_b a_rd a_tab a_tab_s a_tab_f a_tab_x a_tab_w sto_length n_sto_b sto_b z2.2.1 z2.2.2.1 z2.2.2.2.1 z2.2.2.2.2 tab_end tab_size tab_s tab_f tab_x)) [0, 1, 2] [some 0, some 1, some 2, none, none, none, none] hP hD hS hA rfl rfl rfl rfl (va_runV (As := [.int (1 : Int32)]) (rest := []) ⟨hx, hb, hml, hown, hts⟩ (c_BitReader_takeBits l dC dI cI cB cS cT N a_sto a_sto_b a_rd sto_length n_sto_b sto_b rd_at_4 rd_part_4 rd_left_4 rd_fault_4 (1 : Int32) H.size z2 hz2) ⟨(callB_of 1 hts (gi tw_706 rfl) rfl rfl rfl (hts _ (List.mem_cons_of_mem _ tw_15)) (hts _ (List.mem_cons_of_mem _ tw_703)) (by decide +kernel) ⟨Nat.le_of_ble_eq_true rfl, Nat.le_of_ble_eq_true rfl⟩), hts _ (List.mem_cons_of_mem _ tw_704), hts _ (List.mem_cons_of_mem _ tw_705)⟩ ⟨g_blind, va_recv hK hP (ci := 1) (q0 := 2) rfl rfl, g_at hKN (g_pm hP [0, 1, 2] rfl) (hD.sub [0, 1, 2] (by decide) rfl)⟩ rfl rfl hl.1 rfl (lv_room (Nat.le_of_ble_eq_true rfl)) d_m698_21 ⟨Nat.zero_le _, Nat.zero_le _⟩) (fun H locs hP hD hS => ?_)
          refine W.eq (g2 := F0 m 24 ls [.int z2.1]) rfl ?_
          refine lv_istore (lv' := [(4, .int z2.1), (0, .ref a_rd), (1, .ref a_tab), (2, .int v2_4), (3, .int v3_4)]) hx hb d_m698_24 hl (by decide) rfl (fun ls hl => ?_)
          refine lv_iload hx hb d_m698_26 (lv_at hl 0 rfl) ?_
          refine lv_iconst (v := (-1 : Int32)) hx hb d_m698_28 (by decide) ?_
          refine lv_icmp_ne (tgt := 34) hx hb d_m698_29 (by decide) (fun hc => ?_) (fun hc => ?_)
          · replace hf := (if_neg hc).symm.trans hf
            refine lv_iload_n hx hb d_m698_34 rfl (lv_at hl 3 rfl) ?_
            refine lv_iconst (v := (1 : Int32)) hx hb d_m698_35 (by decide) ?_
            refine lv_ishl hx hb d_m698_36 ?_
            refine lv_iload hx hb d_m698_37 (lv_at hl 0 rfl) ?_
            refine lv_ior hx hb d_m698_39 ?_
            refine lv_istore_n (lv' := [(2, .int ((v2_4 <<< ((1 : Int32) &&& 31)) ||| z2.1)), (4, .int z2.1), (0, .ref a_rd), (1, .ref a_tab), (3, .int v3_4)]) hx hb d_m698_40 rfl hl (by decide) rfl (fun ls hl => ?_)
            refine lv_aload_n hx hb d_m698_41 rfl (lv_at hl 3 rfl) ?_
            refine lv_iload_n hx hb d_m698_42 rfl (lv_at hl 0 rfl) ?_
            refine lv_iload_n hx hb d_m698_43 rfl (lv_at hl 4 rfl) ?_
            refine lv_iconst (v := (1 : Int32)) hx hb d_m698_44 (by decide) ?_
            refine lv_iadd hx hb d_m698_45 ?_
            obtain ⟨z3, hz3, hf⟩ := ob_bind hf
            refine vp_callSi (g_run (va_runV (As := [.int ((v2_4 <<< ((1 : Int32) &&& 31)) ||| z2.1), .int (v3_4 + (1 : Int32))]) (rest := []) ⟨hx, hb, hml, hown, hts⟩ (c_Table_symbolOf l dC dI cI cB cS cT a_tab a_tab_s a_tab_f a_tab_x a_tab_w tab_end tab_size tab_s tab_f tab_x ((v2_4 <<< ((1 : Int32) &&& 31)) ||| z2.1) (v3_4 + (1 : Int32)) z3 hz3) ⟨(callB_of 2 hts (gi tw_714 rfl) rfl rfl rfl (hts _ (List.mem_cons_of_mem _ tw_8)) (hts _ (List.mem_cons_of_mem _ tw_711)) (by decide +kernel) ⟨Nat.le_of_ble_eq_true rfl, Nat.le_of_ble_eq_true rfl⟩), hts _ (List.mem_cons_of_mem _ tw_712), hts _ (List.mem_cons_of_mem _ tw_713)⟩ ⟨gp_blind, va_recv hK hP (ci := 10) (q0 := 3) rfl rfl, gp_at hKN (g_pm hP [3, 4, 5, 6] rfl)⟩ rfl rfl hl.1 rfl (lv_room (Nat.le_of_ble_eq_true rfl)) d_m698_46 ⟨Nat.zero_le _, Nat.zero_le _⟩)) (fun r hrz3 => ?_)
            have hrz3 := hrz3.symm
            subst hrz3
            refine W.eq (g2 := F0 m 49 ls [.int z3]) rfl ?_
            refine lv_istore (lv' := [(5, .int z3), (2, .int ((v2_4 <<< ((1 : Int32) &&& 31)) ||| z2.1)), (4, .int z2.1), (0, .ref a_rd), (1, .ref a_tab), (3, .int v3_4)]) hx hb d_m698_49 hl (by decide) rfl (fun ls hl => ?_)
            refine lv_iload hx hb d_m698_51 (lv_at hl 0 rfl) ?_
            refine lv_iconst (v := (-1 : Int32)) hx hb d_m698_53 (by decide) ?_
            refine lv_icmp_eq (tgt := 60) hx hb d_m698_54 (by decide) (fun hc => ?_) (fun hc => ?_)
            · replace hf := (if_pos hc).symm.trans hf
              refine lv_iinc (v := v3_4 + (1 : Int32)) (lv' := [(3, .int (v3_4 + (1 : Int32))), (5, .int z3), (2, .int ((v2_4 <<< ((1 : Int32) &&& 31)) ||| z2.1)), (4, .int z2.1), (0, .ref a_rd), (1, .ref a_tab)]) hx hb d_m698_60 hl (k := 5) rfl rfl (by decide) rfl (fun ls hl => ?_)
              refine lv_goto (tgt := 4) hx hb d_m698_63 (by decide) ?_
              exact ih ((v2_4 <<< ((1 : Int32) &&& 31)) ||| z2.1) (v3_4 + (1 : Int32)) z2.2.1 z2.2.2.1 z2.2.2.2.1 z2.2.2.2.2 hf H locs ls hP hD hS (lv_sub hl [4, 5, 2, 0] rfl)
            · replace hf := (if_neg hc).symm.trans hf
              obtain rfl := Option.some.inj hf
              exact hE1 rfl  H locs ls hP hD hS (lv_sub hl [0] rfl)
          · replace hf := (if_pos hc).symm.trans hf
            obtain rfl := Option.some.inj hf
            exact hE0 rfl  H locs ls hP hD hS (lv_sub hl [] rfl)
  have J66 : ∀ (rd_at_j66 : Int32) (rd_part_j66 : Int32) (rd_left_j66 : Int32) (rd_fault_j66 : Int32), f_BitReader_takeWord_J66 N rd_at_j66 rd_part_j66 rd_left_j66 = some z → GW (dC, dI) A p l e (headSpec ws_m698 rm_BitReader_takeWord).room s m args below meth c 0 0 Q 6 66 (w_BitReader_takeWord cI cB cS cT a_sto a_sto_b a_rd a_tab a_tab_s a_tab_f a_tab_x a_tab_w sto_length n_sto_b sto_b rd_at_j66 rd_part_j66 rd_left_j66 rd_fault_j66 tab_end tab_size tab_s tab_f tab_x) [(0, .ref a_rd)] [] := by
    intro rd_at_j66 rd_part_j66 rd_left_j66 rd_fault_j66 hf H locs ls hP hD hS hl
    unfold f_BitReader_takeWord_J66 at hf
    refine lv_aload_n hx hb d_m698_66 rfl (lv_at hl 0 rfl) ?_
    refine lv_iconst (v := (2 : Int32)) hx hb d_m698_67 (by decide) ?_
    refine va_put (D := (dC, dI)) (ci := 1) (v := .int (2 : Int32)) (ty := .int) (C := "ScanCoder$BitReader") (T := T_1) (N := 5) hx hb hts n0 ty_1 tyok_1 nm_1 hown hK hP hD hS 2 rfl rfl 4 (by decide) k0 (fun _ h9 => h9) rfl (by decide +kernel) rfl rfl (Nat.le_of_ble_eq_true rfl) d_m698_68 (fun H locs hP hD hS => ?_)
    have hP : va_P (dC, dI) vwCl (w_BitReader_takeWord cI cB cS cT a_sto a_sto_b a_rd a_tab a_tab_s a_tab_f a_tab_x a_tab_w sto_length n_sto_b sto_b rd_at_j66 rd_part_j66 rd_left_j66 (2 : Int32) tab_end tab_size tab_s tab_f tab_x) H := hP
    have hD : va_D A (w_BitReader_takeWord cI cB cS cT a_sto a_sto_b a_rd a_tab a_tab_s a_tab_f a_tab_x a_tab_w sto_length n_sto_b sto_b rd_at_j66 rd_part_j66 rd_left_j66 (2 : Int32) tab_end tab_size tab_s tab_f tab_x) := hD
    refine lv_iconst (v := (-1 : Int32)) hx hb d_m698_71 (by decide) ?_
    obtain rfl := Option.some.inj hf
    subst hQ
    subst hAe
    exact W.iret (v := (-1 : Int32)) hx hb hr (fun t ht hW => ⟨⟨(-1 : Int32), (), rfl, rfl, by rw [ht]; exact hP, hD⟩, hS.F ht⟩) hS.2.2 d_m698_72
  have hgo : ∀ (H : Heap) (locs : List Loc), va_P (dC, dI) vwCl (w_BitReader_takeWord cI cB cS cT a_sto a_sto_b a_rd a_tab a_tab_s a_tab_f a_tab_x a_tab_w sto_length n_sto_b sto_b rd_at rd_part rd_left rd_fault tab_end tab_size tab_s tab_f tab_x) H → va_S A s.heap H locs → W p l e (headSpec ws_m698 rm_BitReader_takeWord).room s m args below meth c H locs 0 0 Q (F0 m 0 ls []) := by
    intro H locs hP hS
    unfold f_BitReader_takeWord at hf
    refine lv_iconst (v := (0 : Int32)) hx hb d_m698_0 (by decide) ?_
    refine lv_istore_n (lv' := [(2, .int (0 : Int32)), (0, .ref a_rd), (1, .ref a_tab)]) hx hb d_m698_1 rfl hl (by decide) rfl (fun ls hl => ?_)
    refine lv_iconst (v := (0 : Int32)) hx hb d_m698_2 (by decide) ?_
    refine lv_istore_n (lv' := [(3, .int (0 : Int32)), (2, .int (0 : Int32)), (0, .ref a_rd), (1, .ref a_tab)]) hx hb d_m698_3 rfl hl (by decide) rfl (fun ls hl => ?_)
    obtain ⟨z4, hz4, hf⟩ := ob_bind hf
    refine L4  z4 ?_ ?_ ?_ N (0 : Int32) (0 : Int32) rd_at rd_part rd_left rd_fault hz4 H locs ls hP hD hS (lv_sub hl [2, 3, 1, 0] rfl)
    · intro hz H locs ls hP hD hS hl
      replace hf := (if_pos hz).symm.trans hf
      refine lv_iconst (v := (-1 : Int32)) hx hb d_m698_32 (by decide) ?_
      obtain rfl := Option.some.inj hf
      subst hQ
      subst hAe
      exact W.iret (v := (-1 : Int32)) hx hb hr (fun t ht hW => ⟨⟨(-1 : Int32), (), rfl, rfl, by rw [ht]; exact hP, hD⟩, hS.F ht⟩) hS.2.2 d_m698_33
    · intro hz H locs ls hP hD hS hl
      replace hf := (if_neg (by rw [hz]; decide)).symm.trans hf
      replace hf := (if_pos hz).symm.trans hf
      refine lv_iload hx hb d_m698_57 (lv_at hl 0 rfl) ?_
      obtain rfl := Option.some.inj hf
      subst hQ
      subst hAe
      exact W.iret (v := z4.2.1) hx hb hr (fun t ht hW => ⟨⟨z4.2.1, (), rfl, rfl, by rw [ht]; exact hP, hD⟩, hS.F ht⟩) hS.2.2 d_m698_59
    · intro hz H locs ls hP hD hS hl
      replace hf := (if_neg (by rw [hz]; decide)).symm.trans hf
      replace hf := (if_neg (by rw [hz]; decide)).symm.trans hf
      exact J66 z4.2.2.1 z4.2.2.2.1 z4.2.2.2.2.1 z4.2.2.2.2.2 hf H locs ls hP hD hS hl
  exact hgo _ _ hP hS
def f_BitReader_endByte_J24 (rd_fault_j24 : Int32) : Option (Int32 × Int32) :=
  some ((0 : Int32), rd_fault_j24)
def f_BitReader_endByte (rd_part : Int32) (rd_left : Int32) (rd_fault : Int32) : Option (Int32 × Int32) :=
  if (rd_part &&& (((1 : Int32) <<< (rd_left &&& 31)) - (1 : Int32))) = (((1 : Int32) <<< (rd_left &&& 31)) - (1 : Int32)) then
    f_BitReader_endByte_J24 rd_fault
  else
    f_BitReader_endByte_J24 (5 : Int32)
abbrev w_BitReader_endByte (cI cB cS cT : ClassId) (a_rd : Nat) (a_sto : Nat) (rd_at : Int32) (rd_part : Int32) (rd_left : Int32) (rd_fault : Int32) : va_W := [(a_rd, .inr (1, [.ref a_sto, .int rd_at, .int rd_part, .int rd_left, .int rd_fault]))]
def rm_BitReader_endByte : Room := { frames := 0, cells := 0, slots := 0, locals := 0 }
set_option maxHeartbeats 1000000 in
set_option maxRecDepth 100000 in
theorem c_BitReader_endByte (l : Launch) (dC : Nat → ClassId) (dI : Nat → Nat → Nat) (cI cB cS cT : ClassId) (a_rd : Nat) (a_sto : Nat) (rd_at : Int32) (rd_part : Int32) (rd_left : Int32) (rd_fault : Int32) (sz : Nat) (z : Int32 × Int32) (hf : f_BitReader_endByte rd_part rd_left rd_fault = some z) : Met l y_m681 ws_m681 rm_BitReader_endByte (gPre (dC, dI) [.ref a_rd] (gT cI cB cS cT) (w_BitReader_endByte cI cB cS cT a_rd a_sto rd_at rd_part rd_left rd_fault) sz) (gQv (dC, dI) (gT cI cB cS cT) (w_BitReader_endByte cI cB cS cT a_rd a_sto rd_at rd_part rd_left rd_fault) (w_BitReader_endByte cI cB cS cT a_rd a_sto rd_at rd_part z.1 z.2) sz) 0 0 (va_A (w_BitReader_endByte cI cB cS cT a_rd a_sto rd_at rd_part rd_left rd_fault) sz) := by
  refine Met.ofW (cc := prog_2_method_6_code) (maxL := 2) (ret := none) (by decide) rfl ?_
  intro p e s m args below meth c s₁ B hml hv
  obtain ⟨hargs, hsz, hP, hKN, hD0⟩ := hv
  have hK := hKN.1
  have hx := B.exec
  have hb := B.bytes
  have hr := B.returns
  have hts := atoms_spec (ws := ws_m681) B.pre
  have hown : s.vm.findClass "ScanCoder$BitReader" = some m.cls := findClass_of_methodNamed B.named
  have hlocks := B.notSynchronized
  have k0 := hts _ (List.mem_cons_of_mem _ tw_379)
  have k1 := hts _ (List.mem_cons_of_mem _ tw_378)
  have k2 := hts _ (List.mem_cons_of_mem _ tw_380)
  have n0 : ∀ w ∈ u_ws "ScanCoder$BitReader" T_1 5, w ∈ ws_m681 := fun w h => List.mem_cons_of_mem _ (in_1 w h)
  subst hsz
  have hD := hD0.self (sz := s.heap.size)
  obtain ⟨A, hAe⟩ : ∃ A : Nat → Prop, va_A (w_BitReader_endByte cI cB cS cT a_rd a_sto rd_at rd_part rd_left rd_fault) s.heap.size = A := ⟨_, rfl⟩
  rw [hAe] at hD
  have hA : ∀ q : Nat, s.heap.size ≤ q → A q := fun q h => by rw [← hAe]; exact Or.inr h
  have hS : va_S A s.heap s.heap [] := va_S.rf
  have hl := lv_entry ([.ref a_rd]) (n := 2) (Nat.le_of_ble_eq_true rfl)
  have hfr : entryFrame m args 2 = F0 m 0 ((lg_sl ([.ref a_rd]) ++ List.replicate (2 - (lg_sl ([.ref a_rd])).length) Slot.unset).toArray) [] := by rw [hargs]; exact lg_entry_eq _ _ _
  rw [hfr]
  generalize (lg_sl ([.ref a_rd]) ++ List.replicate (2 - (lg_sl ([.ref a_rd])).length) Slot.unset).toArray = ls at hl ⊢
  have hl : lv_has ls 2 [(0, .ref a_rd)] := hl
  refine gen_Q (fun Q hQ => ?_)
  clear hfr
  have J24 : ∀ (rd_fault_j24 : Int32), f_BitReader_endByte_J24 rd_fault_j24 = some z → GW (dC, dI) A p l e (headSpec ws_m681 rm_BitReader_endByte).room s m args below meth c 0 0 Q 2 24 (w_BitReader_endByte cI cB cS cT a_rd a_sto rd_at rd_part rd_left rd_fault_j24) [(0, .ref a_rd)] [] := by
    intro rd_fault_j24 hf H locs ls hP hD hS hl
    unfold f_BitReader_endByte_J24 at hf
    refine lv_aload_n hx hb d_m681_24 rfl (lv_at hl 0 rfl) ?_
    refine lv_iconst (v := (0 : Int32)) hx hb d_m681_25 (by decide) ?_
    refine va_put (D := (dC, dI)) (ci := 1) (v := .int (0 : Int32)) (ty := .int) (C := "ScanCoder$BitReader") (T := T_1) (N := 5) hx hb hts n0 ty_1 tyok_1 nm_1 hown hK hP hD hS 0 rfl rfl 3 (by decide) k0 (fun _ h9 => h9) rfl (by decide +kernel) rfl rfl (Nat.le_of_ble_eq_true rfl) d_m681_26 (fun H locs hP hD hS => ?_)
    have hP : va_P (dC, dI) vwCl (w_BitReader_endByte cI cB cS cT a_rd a_sto rd_at rd_part (0 : Int32) rd_fault_j24) H := hP
    have hD : va_D A (w_BitReader_endByte cI cB cS cT a_rd a_sto rd_at rd_part (0 : Int32) rd_fault_j24) := hD
    obtain rfl := Option.some.inj hf
    subst hQ
    subst hAe
    exact W.vret hx hb hr (fun t ht hW => ⟨⟨(), rfl, trivial, by rw [ht]; exact hP, hD⟩, hS.F ht⟩) hS.2.2 d_m681_29
  have hgo : ∀ (H : Heap) (locs : List Loc), va_P (dC, dI) vwCl (w_BitReader_endByte cI cB cS cT a_rd a_sto rd_at rd_part rd_left rd_fault) H → va_S A s.heap H locs → W p l e (headSpec ws_m681 rm_BitReader_endByte).room s m args below meth c H locs 0 0 Q (F0 m 0 ls []) := by
    intro H locs hP hS
    unfold f_BitReader_endByte at hf
    refine lv_iconst (v := (1 : Int32)) hx hb d_m681_0 (by decide) ?_
    refine lv_aload_n hx hb d_m681_1 rfl (lv_at hl 0 rfl) ?_
    refine va_get (D := (dC, dI)) (ci := 1) (v := .int rd_left) (C := "ScanCoder$BitReader") (T := T_1) (N := 5) hx hb hts n0 hown hK hP 0 rfl rfl 3 (by decide) k0 (fun _ h9 => h9) rfl d_m681_2 ?_
    refine lv_ishl hx hb d_m681_5 ?_
    refine lv_iconst (v := (1 : Int32)) hx hb d_m681_6 (by decide) ?_
    refine lv_isub hx hb d_m681_7 ?_
    refine lv_istore_n (lv' := [(1, .int (((1 : Int32) <<< (rd_left &&& 31)) - (1 : Int32))), (0, .ref a_rd)]) hx hb d_m681_8 rfl hl (by decide) rfl (fun ls hl => ?_)
    refine lv_aload_n hx hb d_m681_9 rfl (lv_at hl 1 rfl) ?_
    refine va_get (D := (dC, dI)) (ci := 1) (v := .int rd_part) (C := "ScanCoder$BitReader") (T := T_1) (N := 5) hx hb hts n0 hown hK hP 0 rfl rfl 2 (by decide) k1 (fun _ h9 => h9) rfl d_m681_10 ?_
    refine lv_iload_n hx hb d_m681_13 rfl (lv_at hl 0 rfl) ?_
    refine lv_iand hx hb d_m681_14 ?_
    refine lv_iload_n hx hb d_m681_15 rfl (lv_at hl 0 rfl) ?_
    refine lv_icmp_eq (tgt := 24) hx hb d_m681_16 (by decide) (fun hc => ?_) (fun hc => ?_)
    · replace hf := (if_pos hc).symm.trans hf
      exact J24 rd_fault hf H locs ls hP hD hS (lv_sub hl [1] rfl)
    · replace hf := (if_neg hc).symm.trans hf
      refine lv_aload_n hx hb d_m681_19 rfl (lv_at hl 1 rfl) ?_
      refine lv_iconst (v := (5 : Int32)) hx hb d_m681_20 (by decide) ?_
      refine va_put (D := (dC, dI)) (ci := 1) (v := .int (5 : Int32)) (ty := .int) (C := "ScanCoder$BitReader") (T := T_1) (N := 5) hx hb hts n0 ty_1 tyok_1 nm_1 hown hK hP hD hS 0 rfl rfl 4 (by decide) k2 (fun _ h9 => h9) rfl (by decide +kernel) rfl rfl (Nat.le_of_ble_eq_true rfl) d_m681_21 (fun H locs hP hD hS => ?_)
      have hP : va_P (dC, dI) vwCl (w_BitReader_endByte cI cB cS cT a_rd a_sto rd_at rd_part rd_left (5 : Int32)) H := hP
      have hD : va_D A (w_BitReader_endByte cI cB cS cT a_rd a_sto rd_at rd_part rd_left (5 : Int32)) := hD
      exact J24 (5 : Int32) hf H locs ls hP hD hS (lv_sub hl [1] rfl)
  exact hgo _ _ hP hS
def f_BitReader_takeRestart_J39 (rd_at : Int32) (rd_fault_j39 : Int32) : Option (Int32 × Int32) :=
  some (rd_at + (2 : Int32), rd_fault_j39)
def f_BitReader_takeRestart_J34 (rd_at : Int32) : Option (Int32 × Int32) :=
  f_BitReader_takeRestart_J39 rd_at (5 : Int32)
def f_BitReader_takeRestart (p0 : Int32) (sto_length : Int32) (n_sto_b : Nat) (sto_b : Nat → Int32) (rd_at : Int32) (rd_fault : Int32) : Option (Int32 × Int32) :=
  (f_Store_byteAt rd_at sto_length n_sto_b sto_b).bind fun z1 =>
  if z1 = (255 : Int32) then
    (f_Store_byteAt (rd_at + (1 : Int32)) sto_length n_sto_b sto_b).bind fun z2 =>
    if z2 = p0 then
      f_BitReader_takeRestart_J39 rd_at rd_fault
    else
      f_BitReader_takeRestart_J34 rd_at
  else
    f_BitReader_takeRestart_J34 rd_at
abbrev w_BitReader_takeRestart (cI cB cS cT : ClassId) (a_sto : Nat) (a_sto_b : Nat) (a_rd : Nat) (sto_length : Int32) (n_sto_b : Nat) (sto_b : Nat → Int32) (rd_at : Int32) (rd_part : Int32) (rd_left : Int32) (rd_fault : Int32) : va_W := [(a_sto, .inr (9, [.ref a_sto_b, .int sto_length])), (a_sto_b, .inl (cB, n_sto_b, .inl sto_b)), (a_rd, .inr (1, [.ref a_sto, .int rd_at, .int rd_part, .int rd_left, .int rd_fault]))]
def rm_BitReader_takeRestart : Room := { frames := 1, cells := 0, slots := 0, locals := 21 }
set_option maxHeartbeats 1000000 in
set_option maxRecDepth 100000 in
theorem c_BitReader_takeRestart (l : Launch) (dC : Nat → ClassId) (dI : Nat → Nat → Nat) (cI cB cS cT : ClassId) (a_sto : Nat) (a_sto_b : Nat) (a_rd : Nat) (sto_length : Int32) (n_sto_b : Nat) (sto_b : Nat → Int32) (rd_at : Int32) (rd_part : Int32) (rd_left : Int32) (rd_fault : Int32) (p0 : Int32) (sz : Nat) (z : Int32 × Int32) (hf : f_BitReader_takeRestart p0 sto_length n_sto_b sto_b rd_at rd_fault = some z) : Met l y_m686 ws_m686 rm_BitReader_takeRestart (gPre (dC, dI) [.ref a_rd, .int p0] (gT cI cB cS cT) (w_BitReader_takeRestart cI cB cS cT a_sto a_sto_b a_rd sto_length n_sto_b sto_b rd_at rd_part rd_left rd_fault) sz) (gQv (dC, dI) (gT cI cB cS cT) (w_BitReader_takeRestart cI cB cS cT a_sto a_sto_b a_rd sto_length n_sto_b sto_b rd_at rd_part rd_left rd_fault) (w_BitReader_takeRestart cI cB cS cT a_sto a_sto_b a_rd sto_length n_sto_b sto_b z.1 rd_part rd_left z.2) sz) 0 0 (va_A (w_BitReader_takeRestart cI cB cS cT a_sto a_sto_b a_rd sto_length n_sto_b sto_b rd_at rd_part rd_left rd_fault) sz) := by
  refine Met.ofW (cc := prog_2_method_7_code) (maxL := 2) (ret := none) (by decide) rfl ?_
  intro p e s m args below meth c s₁ B hml hv
  obtain ⟨hargs, hsz, hP, hKN, hD0⟩ := hv
  have hK := hKN.1
  have hx := B.exec
  have hb := B.bytes
  have hr := B.returns
  have hts := atoms_spec (ws := ws_m686) B.pre
  have hown : s.vm.findClass "ScanCoder$BitReader" = some m.cls := findClass_of_methodNamed B.named
  have hlocks := B.notSynchronized
  have k0 := hts _ (List.mem_cons_of_mem _ tw_376)
  have k1 := hts _ (List.mem_cons_of_mem _ tw_377)
  have k2 := hts _ (List.mem_cons_of_mem _ tw_380)
  have n0 : ∀ w ∈ u_ws "ScanCoder$BitReader" T_1 5, w ∈ ws_m686 := fun w h => List.mem_cons_of_mem _ (in_1 w h)
  subst hsz
  have hD := hD0.self (sz := s.heap.size)
  obtain ⟨A, hAe⟩ : ∃ A : Nat → Prop, va_A (w_BitReader_takeRestart cI cB cS cT a_sto a_sto_b a_rd sto_length n_sto_b sto_b rd_at rd_part rd_left rd_fault) s.heap.size = A := ⟨_, rfl⟩
  rw [hAe] at hD
  have hA : ∀ q : Nat, s.heap.size ≤ q → A q := fun q h => by rw [← hAe]; exact Or.inr h
  have hS : va_S A s.heap s.heap [] := va_S.rf
  have hl := lv_entry ([.ref a_rd, .int p0]) (n := 2) (Nat.le_of_ble_eq_true rfl)
  have hfr : entryFrame m args 2 = F0 m 0 ((lg_sl ([.ref a_rd, .int p0]) ++ List.replicate (2 - (lg_sl ([.ref a_rd, .int p0])).length) Slot.unset).toArray) [] := by rw [hargs]; exact lg_entry_eq _ _ _
  rw [hfr]
  generalize (lg_sl ([.ref a_rd, .int p0]) ++ List.replicate (2 - (lg_sl ([.ref a_rd, .int p0])).length) Slot.unset).toArray = ls at hl ⊢
  have hl : lv_has ls 2 [(0, .ref a_rd), (1, .int p0)] := hl
  refine gen_Q (fun Q hQ => ?_)
  clear hfr
  have J39 : ∀ (rd_fault_j39 : Int32), f_BitReader_takeRestart_J39 rd_at rd_fault_j39 = some z → GW (dC, dI) A p l e (headSpec ws_m686 rm_BitReader_takeRestart).room s m args below meth c 0 0 Q 2 39 (w_BitReader_takeRestart cI cB cS cT a_sto a_sto_b a_rd sto_length n_sto_b sto_b rd_at rd_part rd_left rd_fault_j39) [(0, .ref a_rd)] [] := by
    intro rd_fault_j39 hf H locs ls hP hD hS hl
    unfold f_BitReader_takeRestart_J39 at hf
    refine lv_aload_n hx hb d_m686_39 rfl (lv_at hl 0 rfl) ?_
    refine lv_dup hx hb d_m686_40 rfl ?_
    refine va_get (D := (dC, dI)) (ci := 1) (v := .int rd_at) (C := "ScanCoder$BitReader") (T := T_1) (N := 5) hx hb hts n0 hown hK hP 2 rfl rfl 1 (by decide) k1 (fun _ h9 => h9) rfl d_m686_41 ?_
    refine lv_iconst (v := (2 : Int32)) hx hb d_m686_44 (by decide) ?_
    refine lv_iadd hx hb d_m686_45 ?_
    refine va_put (D := (dC, dI)) (ci := 1) (v := .int (rd_at + (2 : Int32))) (ty := .int) (C := "ScanCoder$BitReader") (T := T_1) (N := 5) hx hb hts n0 ty_1 tyok_1 nm_1 hown hK hP hD hS 2 rfl rfl 1 (by decide) k1 (fun _ h9 => h9) rfl (by decide +kernel) rfl rfl (Nat.le_of_ble_eq_true rfl) d_m686_46 (fun H locs hP hD hS => ?_)
    have hP : va_P (dC, dI) vwCl (w_BitReader_takeRestart cI cB cS cT a_sto a_sto_b a_rd sto_length n_sto_b sto_b (rd_at + (2 : Int32)) rd_part rd_left rd_fault_j39) H := hP
    have hD : va_D A (w_BitReader_takeRestart cI cB cS cT a_sto a_sto_b a_rd sto_length n_sto_b sto_b (rd_at + (2 : Int32)) rd_part rd_left rd_fault_j39) := hD
    obtain rfl := Option.some.inj hf
    subst hQ
    subst hAe
    exact W.vret hx hb hr (fun t ht hW => ⟨⟨(), rfl, trivial, by rw [ht]; exact hP, hD⟩, hS.F ht⟩) hS.2.2 d_m686_49
  have J34 : ∀ (_ : Unit), f_BitReader_takeRestart_J34 rd_at = some z → GW (dC, dI) A p l e (headSpec ws_m686 rm_BitReader_takeRestart).room s m args below meth c 0 0 Q 2 34 (w_BitReader_takeRestart cI cB cS cT a_sto a_sto_b a_rd sto_length n_sto_b sto_b rd_at rd_part rd_left rd_fault) [(0, .ref a_rd)] [] := by
    intro _ hf H locs ls hP hD hS hl
    unfold f_BitReader_takeRestart_J34 at hf
    refine lv_aload_n hx hb d_m686_34 rfl (lv_at hl 0 rfl) ?_
    refine lv_iconst (v := (5 : Int32)) hx hb d_m686_35 (by decide) ?_
    refine va_put (D := (dC, dI)) (ci := 1) (v := .int (5 : Int32)) (ty := .int) (C := "ScanCoder$BitReader") (T := T_1) (N := 5) hx hb hts n0 ty_1 tyok_1 nm_1 hown hK hP hD hS 2 rfl rfl 4 (by decide) k2 (fun _ h9 => h9) rfl (by decide +kernel) rfl rfl (Nat.le_of_ble_eq_true rfl) d_m686_36 (fun H locs hP hD hS => ?_)
    have hP : va_P (dC, dI) vwCl (w_BitReader_takeRestart cI cB cS cT a_sto a_sto_b a_rd sto_length n_sto_b sto_b rd_at rd_part rd_left (5 : Int32)) H := hP
    have hD : va_D A (w_BitReader_takeRestart cI cB cS cT a_sto a_sto_b a_rd sto_length n_sto_b sto_b rd_at rd_part rd_left (5 : Int32)) := hD
    exact J39 (5 : Int32) hf H locs ls hP hD hS hl
  have hgo : ∀ (H : Heap) (locs : List Loc), va_P (dC, dI) vwCl (w_BitReader_takeRestart cI cB cS cT a_sto a_sto_b a_rd sto_length n_sto_b sto_b rd_at rd_part rd_left rd_fault) H → va_S A s.heap H locs → W p l e (headSpec ws_m686 rm_BitReader_takeRestart).room s m args below meth c H locs 0 0 Q (F0 m 0 ls []) := by
    intro H locs hP hS
    unfold f_BitReader_takeRestart at hf
    refine lv_aload_n hx hb d_m686_0 rfl (lv_at hl 0 rfl) ?_
    refine va_get (D := (dC, dI)) (ci := 1) (v := .ref a_sto) (C := "ScanCoder$BitReader") (T := T_1) (N := 5) hx hb hts n0 hown hK hP 2 rfl rfl 0 (by decide) k0 (fun _ h9 => h9) rfl d_m686_1 ?_
    refine lv_aload_n hx hb d_m686_4 rfl (lv_at hl 0 rfl) ?_
    refine va_get (D := (dC, dI)) (ci := 1) (v := .int rd_at) (C := "ScanCoder$BitReader") (T := T_1) (N := 5) hx hb hts n0 hown hK hP 2 rfl rfl 1 (by decide) k1 (fun _ h9 => h9) rfl d_m686_5 ?_
    obtain ⟨z1, hz1, hf⟩ := ob_bind hf
    refine vp_callSi (g_run (va_runV (As := [.int rd_at]) (rest := []) ⟨hx, hb, hml, hown, hts⟩ (c_Store_byteAt l dC dI cI cB cS cT a_sto a_sto_b sto_length n_sto_b sto_b rd_at z1 hz1) ⟨(callB_of 1 hts (gi tw_690 rfl) rfl rfl rfl (hts _ (List.mem_cons_of_mem _ tw_9)) (hts _ (List.mem_cons_of_mem _ tw_687)) (by decide +kernel) ⟨Nat.le_of_ble_eq_true rfl, Nat.le_of_ble_eq_true rfl⟩), hts _ (List.mem_cons_of_mem _ tw_688), hts _ (List.mem_cons_of_mem _ tw_689)⟩ ⟨gp_blind, va_recv hK hP (ci := 9) (q0 := 0) rfl rfl, gp_at hKN (g_pm hP [0, 1] rfl)⟩ rfl rfl hl.1 rfl (lv_room (Nat.le_of_ble_eq_true rfl)) d_m686_8 ⟨Nat.zero_le _, Nat.zero_le _⟩)) (fun r hrz1 => ?_)
    have hrz1 := hrz1.symm
    subst hrz1
    refine W.eq (g2 := F0 m 11 ls [.int z1]) rfl ?_
    refine lv_sipush (v := (255 : Int32)) hx hb d_m686_11 (by decide) ?_
    refine lv_icmp_ne (tgt := 34) hx hb d_m686_14 (by decide) (fun hc => ?_) (fun hc => ?_)
    · replace hf := (if_neg hc).symm.trans hf
      exact J34 () hf H locs ls hP hD hS (lv_sub hl [0] rfl)
    · replace hf := (if_pos hc).symm.trans hf
      refine lv_aload_n hx hb d_m686_17 rfl (lv_at hl 0 rfl) ?_
      refine va_get (D := (dC, dI)) (ci := 1) (v := .ref a_sto) (C := "ScanCoder$BitReader") (T := T_1) (N := 5) hx hb hts n0 hown hK hP 2 rfl rfl 0 (by decide) k0 (fun _ h9 => h9) rfl d_m686_18 ?_
      refine lv_aload_n hx hb d_m686_21 rfl (lv_at hl 0 rfl) ?_
      refine va_get (D := (dC, dI)) (ci := 1) (v := .int rd_at) (C := "ScanCoder$BitReader") (T := T_1) (N := 5) hx hb hts n0 hown hK hP 2 rfl rfl 1 (by decide) k1 (fun _ h9 => h9) rfl d_m686_22 ?_
      refine lv_iconst (v := (1 : Int32)) hx hb d_m686_25 (by decide) ?_
      refine lv_iadd hx hb d_m686_26 ?_
      obtain ⟨z2, hz2, hf⟩ := ob_bind hf
      refine vp_callSi (g_run (va_runV (As := [.int (rd_at + (1 : Int32))]) (rest := []) ⟨hx, hb, hml, hown, hts⟩ (c_Store_byteAt l dC dI cI cB cS cT a_sto a_sto_b sto_length n_sto_b sto_b (rd_at + (1 : Int32)) z2 hz2) ⟨(callB_of 1 hts (gi tw_690 rfl) rfl rfl rfl (hts _ (List.mem_cons_of_mem _ tw_9)) (hts _ (List.mem_cons_of_mem _ tw_687)) (by decide +kernel) ⟨Nat.le_of_ble_eq_true rfl, Nat.le_of_ble_eq_true rfl⟩), hts _ (List.mem_cons_of_mem _ tw_688), hts _ (List.mem_cons_of_mem _ tw_689)⟩ ⟨gp_blind, va_recv hK hP (ci := 9) (q0 := 0) rfl rfl, gp_at hKN (g_pm hP [0, 1] rfl)⟩ rfl rfl hl.1 rfl (lv_room (Nat.le_of_ble_eq_true rfl)) d_m686_27 ⟨Nat.zero_le _, Nat.zero_le _⟩)) (fun r hrz2 => ?_)
      have hrz2 := hrz2.symm
      subst hrz2
      refine W.eq (g2 := F0 m 30 ls [.int z2]) rfl ?_
      refine lv_iload_n hx hb d_m686_30 rfl (lv_at hl 1 rfl) ?_
      refine lv_icmp_eq (tgt := 39) hx hb d_m686_31 (by decide) (fun hc => ?_) (fun hc => ?_)
      · replace hf := (if_pos hc).symm.trans hf
        exact J39 rd_fault hf H locs ls hP hD hS (lv_sub hl [0] rfl)
      · replace hf := (if_neg hc).symm.trans hf
        exact J34 () hf H locs ls hP hD hS (lv_sub hl [0] rfl)
  exact hgo _ _ hP hS

def f_BitReader_takeEnd (sto_length : Int32) (rd_at : Int32) (rd_fault : Int32) : Option (Int32) :=
  if rd_at = sto_length then
    some rd_fault
  else
    some (5 : Int32)
abbrev w_BitReader_takeEnd (cI cB cS cT : ClassId) (a_sto : Nat) (a_rd : Nat) (a_sto_b : Nat) (sto_length : Int32) (rd_at : Int32) (rd_part : Int32) (rd_left : Int32) (rd_fault : Int32) : va_W := [(a_sto, .inr (9, [.ref a_sto_b, .int sto_length])), (a_rd, .inr (1, [.ref a_sto, .int rd_at, .int rd_part, .int rd_left, .int rd_fault]))]
def rm_BitReader_takeEnd : Room := { frames := 0, cells := 0, slots := 0, locals := 0 }
set_option maxHeartbeats 1000000 in
set_option maxRecDepth 100000 in
theorem c_BitReader_takeEnd (l : Launch) (dC : Nat → ClassId) (dI : Nat → Nat → Nat) (cI cB cS cT : ClassId) (a_sto : Nat) (a_rd : Nat) (a_sto_b : Nat) (sto_length : Int32) (rd_at : Int32) (rd_part : Int32) (rd_left : Int32) (rd_fault : Int32) (sz : Nat) (z : Int32) (hf : f_BitReader_takeEnd sto_length rd_at rd_fault = some z) : Met l y_m769 ws_m769 rm_BitReader_takeEnd (gPre (dC, dI) [.ref a_rd] (gT cI cB cS cT) (w_BitReader_takeEnd cI cB cS cT a_sto a_rd a_sto_b sto_length rd_at rd_part rd_left rd_fault) sz) (gQv (dC, dI) (gT cI cB cS cT) (w_BitReader_takeEnd cI cB cS cT a_sto a_rd a_sto_b sto_length rd_at rd_part rd_left rd_fault) (w_BitReader_takeEnd cI cB cS cT a_sto a_rd a_sto_b sto_length rd_at rd_part rd_left z) sz) 0 0 (va_A (w_BitReader_takeEnd cI cB cS cT a_sto a_rd a_sto_b sto_length rd_at rd_part rd_left rd_fault) sz) := by
  refine Met.ofW (cc := prog_2_method_8_code) (maxL := 1) (ret := none) (by decide) rfl ?_
  intro p e s m args below meth c s₁ B hml hv
  obtain ⟨hargs, hsz, hP, hKN, hD0⟩ := hv
  have hK := hKN.1
  have hx := B.exec
  have hb := B.bytes
  have hr := B.returns
  have hts := atoms_spec (ws := ws_m769) B.pre
  have hown : s.vm.findClass "ScanCoder$BitReader" = some m.cls := findClass_of_methodNamed B.named
  have hlocks := B.notSynchronized
  have k0 := hts _ (List.mem_cons_of_mem _ tw_377)
  have k1 := hts _ (List.mem_cons_of_mem _ tw_376)
  have k2 := hts _ (List.mem_cons_of_mem _ tw_282)
  have k3 := hts _ (List.mem_cons_of_mem _ tw_380)
  have n0 : ∀ w ∈ u_ws "ScanCoder$BitReader" T_1 5, w ∈ ws_m769 := fun w h => List.mem_cons_of_mem _ (in_1 w h)
  have n1 : ∀ w ∈ u_ws "ScanCoder$Store" T_9 2, w ∈ ws_m769 := fun w h => List.mem_cons_of_mem _ (in_9 w h)
  subst hsz
  have hD := hD0.self (sz := s.heap.size)
  obtain ⟨A, hAe⟩ : ∃ A : Nat → Prop, va_A (w_BitReader_takeEnd cI cB cS cT a_sto a_rd a_sto_b sto_length rd_at rd_part rd_left rd_fault) s.heap.size = A := ⟨_, rfl⟩
  rw [hAe] at hD
  have hA : ∀ q : Nat, s.heap.size ≤ q → A q := fun q h => by rw [← hAe]; exact Or.inr h
  have hS : va_S A s.heap s.heap [] := va_S.rf
  have hl := lv_entry ([.ref a_rd]) (n := 1) (Nat.le_of_ble_eq_true rfl)
  have hfr : entryFrame m args 1 = F0 m 0 ((lg_sl ([.ref a_rd]) ++ List.replicate (1 - (lg_sl ([.ref a_rd])).length) Slot.unset).toArray) [] := by rw [hargs]; exact lg_entry_eq _ _ _
  rw [hfr]
  generalize (lg_sl ([.ref a_rd]) ++ List.replicate (1 - (lg_sl ([.ref a_rd])).length) Slot.unset).toArray = ls at hl ⊢
  have hl : lv_has ls 1 [(0, .ref a_rd)] := hl
  refine gen_Q (fun Q hQ => ?_)
  clear hfr
  have hgo : ∀ (H : Heap) (locs : List Loc), va_P (dC, dI) vwCl (w_BitReader_takeEnd cI cB cS cT a_sto a_rd a_sto_b sto_length rd_at rd_part rd_left rd_fault) H → va_S A s.heap H locs → W p l e (headSpec ws_m769 rm_BitReader_takeEnd).room s m args below meth c H locs 0 0 Q (F0 m 0 ls []) := by
    intro H locs hP hS
    unfold f_BitReader_takeEnd at hf
    refine lv_aload_n hx hb d_m769_0 rfl (lv_at hl 0 rfl) ?_
    refine va_get (D := (dC, dI)) (ci := 1) (v := .int rd_at) (C := "ScanCoder$BitReader") (T := T_1) (N := 5) hx hb hts n0 hown hK hP 1 rfl rfl 1 (by decide) k0 (fun _ h9 => h9) rfl d_m769_1 ?_
    refine lv_aload_n hx hb d_m769_4 rfl (lv_at hl 0 rfl) ?_
    refine va_get (D := (dC, dI)) (ci := 1) (v := .ref a_sto) (C := "ScanCoder$BitReader") (T := T_1) (N := 5) hx hb hts n0 hown hK hP 1 rfl rfl 0 (by decide) k1 (fun _ h9 => h9) rfl d_m769_5 ?_
    refine va_get (D := (dC, dI)) (ci := 9) (v := .int sto_length) (C := "ScanCoder$Store") (T := T_9) (N := 2) hx hb hts n1 hown hK hP 0 rfl rfl 1 (by decide) k2 (fun _ h9 => h9) rfl d_m769_8 ?_
    refine lv_icmp_eq (tgt := 19) hx hb d_m769_11 (by decide) (fun hc => ?_) (fun hc => ?_)
    · replace hf := (if_pos hc).symm.trans hf
      obtain rfl := Option.some.inj hf
      subst hQ
      subst hAe
      exact W.vret hx hb hr (fun t ht hW => ⟨⟨(), rfl, trivial, by rw [ht]; exact hP, hD⟩, hS.F ht⟩) hS.2.2 d_m769_19
    · replace hf := (if_neg hc).symm.trans hf
      refine lv_aload_n hx hb d_m769_14 rfl (lv_at hl 0 rfl) ?_
      refine lv_iconst (v := (5 : Int32)) hx hb d_m769_15 (by decide) ?_
      refine va_put (D := (dC, dI)) (ci := 1) (v := .int (5 : Int32)) (ty := .int) (C := "ScanCoder$BitReader") (T := T_1) (N := 5) hx hb hts n0 ty_1 tyok_1 nm_1 hown hK hP hD hS 1 rfl rfl 4 (by decide) k3 (fun _ h9 => h9) rfl (by decide +kernel) rfl rfl (Nat.le_of_ble_eq_true rfl) d_m769_16 (fun H locs hP hD hS => ?_)
      have hP : va_P (dC, dI) vwCl (w_BitReader_takeEnd cI cB cS cT a_sto a_rd a_sto_b sto_length rd_at rd_part rd_left (5 : Int32)) H := hP
      have hD : va_D A (w_BitReader_takeEnd cI cB cS cT a_sto a_rd a_sto_b sto_length rd_at rd_part rd_left (5 : Int32)) := hD
      obtain rfl := Option.some.inj hf
      subst hQ
      subst hAe
      exact W.vret hx hb hr (fun t ht hW => ⟨⟨(), rfl, trivial, by rw [ht]; exact hP, hD⟩, hS.F ht⟩) hS.2.2 d_m769_19
  exact hgo _ _ hP hS
