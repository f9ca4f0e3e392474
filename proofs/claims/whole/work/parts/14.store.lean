
def f_Arrays_copyOf (ms : Nat) (p1 : Int32) (n_p0B : Nat) (p0B : Nat → Int32) : Option (Nat × (Nat → Int32)) :=
  if p1 = (Int32.ofNat n_p0B) then
    none
  else
    (some p1).bind fun nn1 =>
    if nn1 < 0 ∨ ms < nn1.toNatClampNeg ∨ 65536 < nn1.toNatClampNeg then none else
    if (0 : Int32) < 0 then none else if (0 : Int32) < 0 then none else if (if p1 < (Int32.ofNat n_p0B) then p1 else (Int32.ofNat n_p0B)) < 0 then none else if n_p0B < (0 : Int32).toNatClampNeg + (if p1 < (Int32.ofNat n_p0B) then p1 else (Int32.ofNat n_p0B)).toNatClampNeg then none else if nn1.toNatClampNeg < (0 : Int32).toNatClampNeg + (if p1 < (Int32.ofNat n_p0B) then p1 else (Int32.ofNat n_p0B)).toNatClampNeg then none else 
    if ∀ i : Nat, i < (if p1 < (Int32.ofNat n_p0B) then p1 else (Int32.ofNat n_p0B)).toNatClampNeg → fits .byte (.int (p0B ((0 : Int32).toNatClampNeg + i))) = true then some (nn1.toNatClampNeg, va_cpy p0B (fun _ => 0) (0 : Int32).toNatClampNeg (0 : Int32).toNatClampNeg (if p1 < (Int32.ofNat n_p0B) then p1 else (Int32.ofNat n_p0B)).toNatClampNeg) else none
abbrev w_Arrays_copyOf (cI cB cS cT : ClassId) (a_p0B : Nat) (n_p0B : Nat) (p0B : Nat → Int32) : va_W := [(a_p0B, .inl (cB, n_p0B, .inl p0B))]
def rm_Arrays_copyOf (ms : Nat) : Room := { frames := 1, cells := 1, slots := ms, locals := 32 }
set_option maxHeartbeats 1000000 in
set_option maxRecDepth 100000 in
theorem c_Arrays_copyOf (l : Launch) (dC : Nat → ClassId) (dI : Nat → Nat → Nat) (cI cB cS cT : ClassId) (ms : Nat) (a_p0B : Nat) (n_p0B : Nat) (p0B : Nat → Int32) (p1 : Int32) (sz : Nat) (z : Nat × (Nat → Int32)) (hf : f_Arrays_copyOf ms p1 n_p0B p0B = some z) : Met l y_m646 ws_m646 (rm_Arrays_copyOf ms) (gPre (dC, dI) [.ref a_p0B, .int p1] (gT cI cB cS cT) (w_Arrays_copyOf cI cB cS cT a_p0B n_p0B p0B) sz) (gQrA (dC, dI) (gT cI cB cS cT) (w_Arrays_copyOf cI cB cS cT a_p0B n_p0B p0B) (fun u => [(a_p0B, .inl (cB, n_p0B, .inl p0B)), (u, .inl (cB, z.1, .inl z.2))]) sz) 1 ms (va_A (w_Arrays_copyOf cI cB cS cT a_p0B n_p0B p0B) sz) := by
  refine Met.ofW (cc := prog_19_method_121_code) (maxL := 3) (ret := (some (.array .byte))) (by decide) rfl ?_
  intro p e s m args below meth c s₁ B hml hv
  obtain ⟨hargs, hsz, hP, hKN, hD0⟩ := hv
  have hK := hKN.1
  have hx := B.exec
  have hb := B.bytes
  have hr := B.returns
  have hts := atoms_spec (ws := ws_m646) B.pre
  have hown : s.vm.findClass "java/util/Arrays" = some m.cls := findClass_of_methodNamed B.named
  have hlocks := B.notSynchronized
  have k0 := hts _ (List.mem_cons_of_mem _ tw_243)
  have k1 := hts _ (List.mem_cons_of_mem _ tw_654)
  have k2 := hts _ (List.mem_cons_of_mem _ tw_53)
  have k3 := hts _ (List.mem_cons_of_mem _ tw_3)
  have k4 := hts _ (List.mem_cons_of_mem _ tw_54)
  have k5 := hts _ (List.mem_cons_of_mem _ tw_655)
  have k6 := hts _ (List.mem_cons_of_mem _ tw_499)
  have k7 := hts _ (List.mem_cons_of_mem _ tw_498)
  have k8 := hts _ (List.mem_cons_of_mem _ tw_17)
  subst hsz
  have hD := hD0.self (sz := s.heap.size)
  obtain ⟨A, hAe⟩ : ∃ A : Nat → Prop, va_A (w_Arrays_copyOf cI cB cS cT a_p0B n_p0B p0B) s.heap.size = A := ⟨_, rfl⟩
  rw [hAe] at hD
  have hA : ∀ q : Nat, s.heap.size ≤ q → A q := fun q h => by rw [← hAe]; exact Or.inr h
  have hS : va_S A s.heap s.heap [] := va_S.rf
  have hl := lv_entry ([.ref a_p0B, .int p1]) (n := 3) (Nat.le_of_ble_eq_true rfl)
  have hfr : entryFrame m args 3 = F0 m 0 ((lg_sl ([.ref a_p0B, .int p1]) ++ List.replicate (3 - (lg_sl ([.ref a_p0B, .int p1])).length) Slot.unset).toArray) [] := by rw [hargs]; exact lg_entry_eq _ _ _
  rw [hfr]
  generalize (lg_sl ([.ref a_p0B, .int p1]) ++ List.replicate (3 - (lg_sl ([.ref a_p0B, .int p1])).length) Slot.unset).toArray = ls at hl ⊢
  have hl : lv_has ls 3 [(0, .ref a_p0B), (1, .int p1)] := hl
  refine gen_Q (fun Q hQ => ?_)
  clear hfr
  have hgo : ∀ (H : Heap) (locs : List Loc), va_P (dC, dI) vwCl (w_Arrays_copyOf cI cB cS cT a_p0B n_p0B p0B) H → va_S A s.heap H locs → W p l e (headSpec ws_m646 (rm_Arrays_copyOf ms)).room s m args below meth c H locs 0 0 Q (F0 m 0 ls []) := by
    intro H locs hP hS
    unfold f_Arrays_copyOf at hf
    refine lv_iload_n hx hb d_m646_0 rfl (lv_at hl 1 rfl) ?_
    refine lv_aload_n hx hb d_m646_1 rfl (lv_at hl 0 rfl) ?_
    refine va_alen (v := Int32.ofNat n_p0B) hx hb hK hP 0 1 rfl rfl rfl d_m646_2 ?_
    refine lv_icmp_ne (tgt := 14) hx hb d_m646_3 (by decide) (fun hc => ?_) (fun hc => ?_)
    · replace hf := (if_neg hc).symm.trans hf
      refine lv_iload_n hx hb d_m646_14 rfl (lv_at hl 1 rfl) ?_
      obtain ⟨nn1, hnn, hf⟩ := ob_bind hf
      have hnn := Option.some.inj hnn
      refine lv_topi (fun yy hy => ?_)
      have hyy : nn1 = yy := hnn.symm.trans hy.symm
      subst hyy
      obtain ⟨hi, hf⟩ := ob_if hf
      refine va_newa (atype := .byte) (ty := .byte) (a0 := (nn1.toNatClampNeg, .inl (fun _ => 0))) (N' := nn1.toNatClampNeg) hx hb k0 rfl hK hP hD hS hA (fun _ => rfl) (fun h => hi (Or.inl h)) rfl (g_nb (fun h => hi (Or.inr (Or.inr h)))) (Nat.le_of_ble_eq_true rfl) (by rw [Nat.zero_add]; exact Nat.le_of_not_lt (fun h => hi (Or.inr (Or.inl h)))) d_m646_15 (fun q15 cA H hK1 hP hD hS => ?_)
      have hcA := g_cA (t0 := 1) hK rfl hK1
      subst hcA
      clear hK1
      refine W.widen (k := 1) (n := ms) (Nat.le_of_ble_eq_true rfl) (by rw [Nat.zero_add]; exact Nat.le_of_not_lt (fun h => hi (Or.inr (Or.inl h)))) ?_
      have hP : va_P (dC, dI) vwCl [(a_p0B, .inl (cB, n_p0B, .inl p0B)), (q15, .inl (cB, nn1.toNatClampNeg, .inl (fun _ => 0)))] H := hP
      have hD : va_D A [(a_p0B, .inl (cB, n_p0B, .inl p0B)), (q15, .inl (cB, nn1.toNatClampNeg, .inl (fun _ => 0)))] := hD
      refine lv_astore_n (lv' := [(2, .ref q15), (0, .ref a_p0B), (1, .int p1)]) hx hb d_m646_17 rfl hl (by decide) rfl (fun ls hl => ?_)
      refine lv_aload_n hx hb d_m646_18 rfl (lv_at hl 1 rfl) ?_
      refine lv_iconst (v := (0 : Int32)) hx hb d_m646_19 (by decide) ?_
      refine lv_aload_n hx hb d_m646_20 rfl (lv_at hl 0 rfl) ?_
      refine lv_iconst (v := (0 : Int32)) hx hb d_m646_21 (by decide) ?_
      refine lv_aload_n hx hb d_m646_22 rfl (lv_at hl 1 rfl) ?_
      refine va_alen (v := Int32.ofNat n_p0B) hx hb hK hP 0 1 rfl rfl rfl d_m646_23 ?_
      refine lv_iload_n hx hb d_m646_24 rfl (lv_at hl 2 rfl) ?_
      refine va_mmin hx hb (by rw [hml]; exact hl.1.symm) hown k1 k2 k3 k4 (Nat.le_of_ble_eq_true rfl) (Nat.le_of_ble_eq_true rfl) (Nat.le_of_ble_eq_true rfl) (Nat.le_refl _) d_m646_25 ?_
      obtain ⟨hc0, hf⟩ := ob_if hf
      obtain ⟨hc1, hf⟩ := ob_if hf
      obtain ⟨hc2, hf⟩ := ob_if hf
      obtain ⟨hc3, hf⟩ := ob_if hf
      obtain ⟨hc4, hf⟩ := ob_if hf
      obtain ⟨hfit, hf⟩ := ob_ok hf
      refine va_copyi hx hb (by rw [hml]; exact hl.1.symm) hown k5 k6 k7 k8 hK hP hD hS 0 1 1 1 rfl rfl rfl rfl rfl hc0 hc1 hc2 (Nat.le_of_not_lt hc3) (Nat.le_of_not_lt hc4) hfit (Nat.le_of_ble_eq_true rfl) (Nat.le_of_ble_eq_true rfl) d_m646_28 (fun H locs hP hD hS => ?_)
      have hP : va_P (dC, dI) vwCl [(a_p0B, .inl (cB, n_p0B, .inl p0B)), (q15, .inl (cB, nn1.toNatClampNeg, .inl (va_cpy p0B (fun _ => 0) (0 : Int32).toNatClampNeg (0 : Int32).toNatClampNeg (if p1 < (Int32.ofNat n_p0B) then p1 else (Int32.ofNat n_p0B)).toNatClampNeg)))] H := hP
      have hD : va_D A [(a_p0B, .inl (cB, n_p0B, .inl p0B)), (q15, .inl (cB, nn1.toNatClampNeg, .inl (va_cpy p0B (fun _ => 0) (0 : Int32).toNatClampNeg (0 : Int32).toNatClampNeg (if p1 < (Int32.ofNat n_p0B) then p1 else (Int32.ofNat n_p0B)).toNatClampNeg)))] := hD
      refine W.eq (g2 := F0 m 31 ls []) rfl ?_
      refine lv_aload_n hx hb d_m646_31 rfl (lv_at hl 0 rfl) ?_
      obtain rfl := Option.some.inj hf
      subst hQ
      subst hAe
      exact W.aret (v := .ref q15) hx hb hr (Or.inr ⟨_, rfl⟩) (Or.inr ⟨_, rfl⟩) (fun t ht hW => ⟨⟨(), q15, rfl, trivial, by rw [ht]; exact hP, hD⟩, hS.F ht⟩) hS.2.2 d_m646_32
    · replace hf := (if_pos hc).symm.trans hf
      refine lv_aload_n hx hb d_m646_6 rfl (lv_at hl 0 rfl) ?_
      cases hf
  exact hgo _ _ hP hS

def f_Store_byteAt (p0 : Int32) (sto_length : Int32) (n_sto_b : Nat) (sto_b : Nat → Int32) : Option (Int32) :=
  if p0 < 0 then
    some (-1 : Int32)
  else
    if p0 < sto_length then
      if p0 < 0 ∨ n_sto_b ≤ p0.toNatClampNeg then none else
      some ((sto_b p0.toNatClampNeg) &&& (255 : Int32))
    else
      some (-1 : Int32)
abbrev w_Store_byteAt (cI cB cS cT : ClassId) (a_sto : Nat) (a_sto_b : Nat) (sto_length : Int32) (n_sto_b : Nat) (sto_b : Nat → Int32) : va_W := [(a_sto, .inr (9, [.ref a_sto_b, .int sto_length])), (a_sto_b, .inl (cB, n_sto_b, .inl sto_b))]
def rm_Store_byteAt : Room := { frames := 0, cells := 0, slots := 0, locals := 0 }
set_option maxHeartbeats 1000000 in
set_option maxRecDepth 100000 in
theorem c_Store_byteAt (l : Launch) (dC : Nat → ClassId) (dI : Nat → Nat → Nat) (cI cB cS cT : ClassId) (a_sto : Nat) (a_sto_b : Nat) (sto_length : Int32) (n_sto_b : Nat) (sto_b : Nat → Int32) (p0 : Int32) (z : Int32) (hf : f_Store_byteAt p0 sto_length n_sto_b sto_b = some z) : Met l y_m690 ws_m690 rm_Store_byteAt (gPreP (dC, dI) [.ref a_sto, .int p0] (gT cI cB cS cT) (w_Store_byteAt cI cB cS cT a_sto a_sto_b sto_length n_sto_b sto_b)) (vp_Si (fun r => r = z)) 0 0 (fun _ => False) := by
  refine Met.ofW (cc := prog_11_method_2_code) (maxL := 2) (ret := (some .int)) (by decide) rfl ?_
  intro p e s m args below meth c s₁ B hml hv
  obtain ⟨hargs, hP, hKN⟩ := hv
  have hK := hKN.1
  have hx := B.exec
  have hb := B.bytes
  have hr := B.returns
  have hts := atoms_spec (ws := ws_m690) B.pre
  have hown : s.vm.findClass "ScanCoder$Store" = some m.cls := findClass_of_methodNamed B.named
  have hlocks := B.notSynchronized
  have k0 := hts _ (List.mem_cons_of_mem _ tw_281)
  have k1 := hts _ (List.mem_cons_of_mem _ tw_278)
  have n0 : ∀ w ∈ u_ws "ScanCoder$Store" T_9 2, w ∈ ws_m690 := fun w h => List.mem_cons_of_mem _ (in_9 w h)
  have hl := lv_entry ([.ref a_sto, .int p0]) (n := 2) (Nat.le_of_ble_eq_true rfl)
  have hfr : entryFrame m args 2 = F0 m 0 ((lg_sl ([.ref a_sto, .int p0]) ++ List.replicate (2 - (lg_sl ([.ref a_sto, .int p0])).length) Slot.unset).toArray) [] := by rw [hargs]; exact lg_entry_eq _ _ _
  rw [hfr]
  generalize (lg_sl ([.ref a_sto, .int p0]) ++ List.replicate (2 - (lg_sl ([.ref a_sto, .int p0])).length) Slot.unset).toArray = ls at hl ⊢
  have hl : lv_has ls 2 [(0, .ref a_sto), (1, .int p0)] := hl
  refine gen_Q (fun Q hQ => ?_)
  clear hfr
  unfold f_Store_byteAt at hf
  refine lv_iload_n hx hb d_m690_0 rfl (lv_at hl 1 rfl) ?_
  refine lv_if_lt (tgt := 12) hx hb d_m690_1 (by decide) (fun hc => ?_) (fun hc => ?_)
  · replace hf := (if_pos hc).symm.trans hf
    refine lv_iconst (v := (-1 : Int32)) hx hb d_m690_12 (by decide) ?_
    refine lv_goto (tgt := 26) hx hb d_m690_13 (by decide) ?_
    obtain rfl := Option.some.inj hf
    subst hQ
    exact W.iret (v := (-1 : Int32)) hx hb hr (fun t ht hW => ⟨(-1 : Int32), rfl, rfl, ht⟩) (fun q h => by cases h) d_m690_26
  · replace hf := (if_neg hc).symm.trans hf
    refine lv_iload_n hx hb d_m690_4 rfl (lv_at hl 1 rfl) ?_
    refine lv_aload_n hx hb d_m690_5 rfl (lv_at hl 0 rfl) ?_
    refine va_get (D := (dC, dI)) (ci := 9) (v := .int sto_length) (C := "ScanCoder$Store") (T := T_9) (N := 2) hx hb hts n0 hown hK hP 0 rfl rfl 1 (by decide) k0 (fun _ h9 => h9) rfl d_m690_6 ?_
    refine lv_icmp_lt (tgt := 16) hx hb d_m690_9 (by decide) (fun hc => ?_) (fun hc => ?_)
    · replace hf := (if_pos hc).symm.trans hf
      refine lv_aload_n hx hb d_m690_16 rfl (lv_at hl 0 rfl) ?_
      refine va_get (D := (dC, dI)) (ci := 9) (v := .ref a_sto_b) (C := "ScanCoder$Store") (T := T_9) (N := 2) hx hb hts n0 hown hK hP 0 rfl rfl 0 (by decide) k1 (fun _ h9 => h9) rfl d_m690_17 ?_
      refine lv_iload_n hx hb d_m690_20 rfl (lv_at hl 1 rfl) ?_
      obtain ⟨hi, hf⟩ := ob_if hf
      refine va_bald hx hb hK hP 1 1 rfl rfl hi d_m690_21 ?_
      refine lv_sipush (v := (255 : Int32)) hx hb d_m690_22 (by decide) ?_
      refine lv_iand hx hb d_m690_25 ?_
      obtain rfl := Option.some.inj hf
      subst hQ
      exact W.iret (v := (sto_b p0.toNatClampNeg) &&& (255 : Int32)) hx hb hr (fun t ht hW => ⟨(sto_b p0.toNatClampNeg) &&& (255 : Int32), rfl, rfl, ht⟩) (fun q h => by cases h) d_m690_26
    · replace hf := (if_neg hc).symm.trans hf
      refine lv_iconst (v := (-1 : Int32)) hx hb d_m690_12 (by decide) ?_
      refine lv_goto (tgt := 26) hx hb d_m690_13 (by decide) ?_
      obtain rfl := Option.some.inj hf
      subst hQ
      exact W.iret (v := (-1 : Int32)) hx hb hr (fun t ht hW => ⟨(-1 : Int32), rfl, rfl, ht⟩) (fun q h => by cases h) d_m690_26

def f_Store_reserve (ms : Nat) (p0 : Int32) (n_sto_b : Nat) (sto_b : Nat → Int32) : Option (Nat × (Nat → Int32)) :=
  if p0 ≤ (Int32.ofNat n_sto_b) then
    some (n_sto_b, sto_b)
  else
    (f_Arrays_copyOf ms (if p0 < (if (16384 : Int32) < ((2 : Int32) * (Int32.ofNat n_sto_b)) then (16384 : Int32) else ((2 : Int32) * (Int32.ofNat n_sto_b))) then (if (16384 : Int32) < ((2 : Int32) * (Int32.ofNat n_sto_b)) then (16384 : Int32) else ((2 : Int32) * (Int32.ofNat n_sto_b))) else p0) n_sto_b sto_b).bind fun z1 =>
    some (z1.1, z1.2)
abbrev w_Store_reserve (cI cB cS cT : ClassId) (a_sto : Nat) (a_sto_b : Nat) (sto_length : Int32) (n_sto_b : Nat) (sto_b : Nat → Int32) : va_W := [(a_sto, .inr (9, [.ref a_sto_b, .int sto_length])), (a_sto_b, .inl (cB, n_sto_b, .inl sto_b))]
def rm_Store_reserve (ms : Nat) : Room := { frames := 2, cells := 1, slots := ms, locals := 54 }
set_option maxHeartbeats 1000000 in
set_option maxRecDepth 100000 in
theorem c_Store_reserve (l : Launch) (dC : Nat → ClassId) (dI : Nat → Nat → Nat) (cI cB cS cT : ClassId) (ms : Nat) (a_sto : Nat) (a_sto_b : Nat) (sto_length : Int32) (n_sto_b : Nat) (sto_b : Nat → Int32) (p0 : Int32) (sz : Nat) (z : Nat × (Nat → Int32)) (hf : f_Store_reserve ms p0 n_sto_b sto_b = some z) : Met l y_m641 ws_m641 (rm_Store_reserve ms) (gPre (dC, dI) [.ref a_sto, .int p0] (gT cI cB cS cT) (w_Store_reserve cI cB cS cT a_sto a_sto_b sto_length n_sto_b sto_b) sz) (gQvA (dC, dI) (gT cI cB cS cT) (U := Nat) (w_Store_reserve cI cB cS cT a_sto a_sto_b sto_length n_sto_b sto_b) (fun u => (w_Store_reserve cI cB cS cT a_sto u sto_length z.1 z.2)) sz) 1 ms (va_A (w_Store_reserve cI cB cS cT a_sto a_sto_b sto_length n_sto_b sto_b) sz) := by
  refine Met.ofW (cc := prog_11_method_3_code) (maxL := 2) (ret := none) (by decide) rfl ?_
  intro p e s m args below meth c s₁ B hml hv
  obtain ⟨hargs, hsz, hP, hKN, hD0⟩ := hv
  have hK := hKN.1
  have hx := B.exec
  have hb := B.bytes
  have hr := B.returns
  have hts := atoms_spec (ws := ws_m641) B.pre
  have hown : s.vm.findClass "ScanCoder$Store" = some m.cls := findClass_of_methodNamed B.named
  have hlocks := B.notSynchronized
  have k0 := hts _ (List.mem_cons_of_mem _ tw_278)
  have k1 := hts _ (List.mem_cons_of_mem _ tw_642)
  have k2 := hts _ (List.mem_cons_of_mem _ tw_53)
  have k3 := hts _ (List.mem_cons_of_mem _ tw_3)
  have k4 := hts _ (List.mem_cons_of_mem _ tw_54)
  have k5 := hts _ (List.mem_cons_of_mem _ tw_643)
  have k6 := hts _ (List.mem_cons_of_mem _ tw_43)
  have k7 := hts _ (List.mem_cons_of_mem _ tw_44)
  have n0 : ∀ w ∈ u_ws "ScanCoder$Store" T_9 2, w ∈ ws_m641 := fun w h => List.mem_cons_of_mem _ (in_9 w h)
  subst hsz
  have hD := hD0.self (sz := s.heap.size)
  obtain ⟨A, hAe⟩ : ∃ A : Nat → Prop, va_A (w_Store_reserve cI cB cS cT a_sto a_sto_b sto_length n_sto_b sto_b) s.heap.size = A := ⟨_, rfl⟩
  rw [hAe] at hD
  have hA : ∀ q : Nat, s.heap.size ≤ q → A q := fun q h => by rw [← hAe]; exact Or.inr h
  have hS : va_S A s.heap s.heap [] := va_S.rf
  have hl := lv_entry ([.ref a_sto, .int p0]) (n := 2) (Nat.le_of_ble_eq_true rfl)
  have hfr : entryFrame m args 2 = F0 m 0 ((lg_sl ([.ref a_sto, .int p0]) ++ List.replicate (2 - (lg_sl ([.ref a_sto, .int p0])).length) Slot.unset).toArray) [] := by rw [hargs]; exact lg_entry_eq _ _ _
  rw [hfr]
  generalize (lg_sl ([.ref a_sto, .int p0]) ++ List.replicate (2 - (lg_sl ([.ref a_sto, .int p0])).length) Slot.unset).toArray = ls at hl ⊢
  have hl : lv_has ls 2 [(0, .ref a_sto), (1, .int p0)] := hl
  refine gen_Q (fun Q hQ => ?_)
  clear hfr
  have hgo : ∀ (H : Heap) (locs : List Loc), va_P (dC, dI) vwCl (w_Store_reserve cI cB cS cT a_sto a_sto_b sto_length n_sto_b sto_b) H → va_S A s.heap H locs → W p l e (headSpec ws_m641 (rm_Store_reserve ms)).room s m args below meth c H locs 0 0 Q (F0 m 0 ls []) := by
    intro H locs hP hS
    unfold f_Store_reserve at hf
    refine lv_iload_n hx hb d_m641_0 rfl (lv_at hl 1 rfl) ?_
    refine lv_aload_n hx hb d_m641_1 rfl (lv_at hl 0 rfl) ?_
    refine va_get (D := (dC, dI)) (ci := 9) (v := .ref a_sto_b) (C := "ScanCoder$Store") (T := T_9) (N := 2) hx hb hts n0 hown hK hP 0 rfl rfl 0 (by decide) k0 (fun _ h9 => h9) rfl d_m641_2 ?_
    refine va_alen (v := Int32.ofNat n_sto_b) hx hb hK hP 1 1 rfl rfl rfl d_m641_5 ?_
    refine lv_icmp_le (tgt := 37) hx hb d_m641_6 (by decide) (fun hc => ?_) (fun hc => ?_)
    · replace hf := (if_pos hc).symm.trans hf
      refine W.widen (k := 1) (n := ms) (Nat.zero_le _) (Nat.zero_le _) ?_
      obtain rfl := Option.some.inj hf
      subst hQ
      subst hAe
      exact W.vret hx hb hr (fun t ht hW => ⟨⟨a_sto_b, rfl, trivial, by rw [ht]; exact hP, hD⟩, hS.F ht⟩) hS.2.2 d_m641_37
    · replace hf := (if_neg hc).symm.trans hf
      refine lv_aload_n hx hb d_m641_9 rfl (lv_at hl 0 rfl) ?_
      refine lv_aload_n hx hb d_m641_10 rfl (lv_at hl 0 rfl) ?_
      refine va_get (D := (dC, dI)) (ci := 9) (v := .ref a_sto_b) (C := "ScanCoder$Store") (T := T_9) (N := 2) hx hb hts n0 hown hK hP 0 rfl rfl 0 (by decide) k0 (fun _ h9 => h9) rfl d_m641_11 ?_
      refine lv_iload_n hx hb d_m641_14 rfl (lv_at hl 1 rfl) ?_
      refine lv_iconst (v := (2 : Int32)) hx hb d_m641_15 (by decide) ?_
      refine lv_aload_n hx hb d_m641_16 rfl (lv_at hl 0 rfl) ?_
      refine va_get (D := (dC, dI)) (ci := 9) (v := .ref a_sto_b) (C := "ScanCoder$Store") (T := T_9) (N := 2) hx hb hts n0 hown hK hP 0 rfl rfl 0 (by decide) k0 (fun _ h9 => h9) rfl d_m641_17 ?_
      refine va_alen (v := Int32.ofNat n_sto_b) hx hb hK hP 1 1 rfl rfl rfl d_m641_20 ?_
      refine lv_imul hx hb d_m641_21 ?_
      refine lv_sipush (v := (16384 : Int32)) hx hb d_m641_22 (by decide) ?_
      refine va_mmin hx hb (by rw [hml]; exact hl.1.symm) hown k1 k2 k3 k4 (Nat.le_of_ble_eq_true rfl) (Nat.le_of_ble_eq_true rfl) (Nat.zero_le _) (Nat.zero_le _) d_m641_25 ?_
      refine va_mmax hx hb (by rw [hml]; exact hl.1.symm) hown k5 k6 k3 k7 (Nat.le_of_ble_eq_true rfl) (Nat.le_of_ble_eq_true rfl) (Nat.zero_le _) (Nat.zero_le _) d_m641_28 ?_
      obtain ⟨z1, hz1, hf⟩ := ob_bind hf
      refine g_callAr (wc := (w_Arrays_copyOf cI cB cS cT a_sto_b n_sto_b sto_b)) (w1 := fun u1 => [(a_sto_b, .inl (cB, n_sto_b, .inl sto_b)), (u1, .inl (cB, z1.1, .inl z1.2))]) (w2 := fun u1 => [(a_sto, .inr (9, [.ref a_sto_b, .int sto_length])), (a_sto_b, .inl (cB, n_sto_b, .inl sto_b)), (u1, .inl (cB, z1.1, .inl z1.2))]) [1] [none, some 0, some 1] hP hD hS hA rfl (fun _ => rfl) rfl rfl (va_runS (As := [.ref a_sto_b, .int (if p0 < (if (16384 : Int32) < ((2 : Int32) * (Int32.ofNat n_sto_b)) then (16384 : Int32) else ((2 : Int32) * (Int32.ofNat n_sto_b))) then (if (16384 : Int32) < ((2 : Int32) * (Int32.ofNat n_sto_b)) then (16384 : Int32) else ((2 : Int32) * (Int32.ofNat n_sto_b))) else p0)]) (rest := [.ref a_sto]) ⟨hx, hb, hml, hown, hts⟩ (c_Arrays_copyOf l dC dI cI cB cS cT ms a_sto_b n_sto_b sto_b (if p0 < (if (16384 : Int32) < ((2 : Int32) * (Int32.ofNat n_sto_b)) then (16384 : Int32) else ((2 : Int32) * (Int32.ofNat n_sto_b))) then (if (16384 : Int32) < ((2 : Int32) * (Int32.ofNat n_sto_b)) then (16384 : Int32) else ((2 : Int32) * (Int32.ofNat n_sto_b))) else p0) H.size z1 hz1) ⟨(callB_of 2 hts (gi tw_646 rfl) rfl rfl rfl (hts _ (List.mem_cons_of_mem _ tw_4)) (hts _ (List.mem_cons_of_mem _ tw_644)) (by decide +kernel) ⟨Nat.le_of_ble_eq_true rfl, Nat.le_of_ble_eq_true rfl⟩), hts _ (List.mem_cons_of_mem _ tw_645)⟩ ⟨g_blind, g_at hKN (g_pm hP [1] rfl) (hD.sub [1] (by decide) rfl)⟩ rfl rfl hl.1 rfl (lv_room (Nat.le_of_ble_eq_true rfl)) d_m641_31 ⟨Nat.le_of_ble_eq_true rfl, Nat.le_of_eq (Nat.zero_add _)⟩) (fun u1 H locs hP hD hS => ?_)
      refine W.widen (k := 1) (n := ms) (Nat.le_of_ble_eq_true rfl) (Nat.le_of_eq (Nat.zero_add _)) ?_
      have hP : va_P (dC, dI) vwCl [(a_sto, .inr (9, [.ref a_sto_b, .int sto_length])), (a_sto_b, .inl (cB, n_sto_b, .inl sto_b)), (u1, .inl (cB, z1.1, .inl z1.2))] H := hP
      have hD : va_D A [(a_sto, .inr (9, [.ref a_sto_b, .int sto_length])), (a_sto_b, .inl (cB, n_sto_b, .inl sto_b)), (u1, .inl (cB, z1.1, .inl z1.2))] := hD
      refine W.eq (g2 := F0 m 34 ls [.ref u1, .ref a_sto]) rfl ?_
      refine va_put (D := (dC, dI)) (ci := 9) (v := .ref u1) (ty := (.array .byte)) (C := "ScanCoder$Store") (T := T_9) (N := 2) hx hb hts n0 ty_9 tyok_9 nm_9 hown hK hP hD hS 0 rfl rfl 0 (by decide) k0 (fun _ h9 => h9) rfl (by decide +kernel) rfl rfl (Nat.le_of_ble_eq_true rfl) d_m641_34 (fun H locs hP hD hS => ?_)
      have hP : va_P (dC, dI) vwCl (w_Store_reserve cI cB cS cT a_sto u1 sto_length z1.1 z1.2) H := g_pm hP [0, 2] rfl
      have hD : va_D A (w_Store_reserve cI cB cS cT a_sto u1 sto_length z1.1 z1.2) := hD.sub [0, 2] (by decide) rfl
      obtain rfl := Option.some.inj hf
      subst hQ
      subst hAe
      exact W.vret hx hb hr (fun t ht hW => ⟨⟨u1, rfl, trivial, by rw [ht]; exact hP, hD⟩, hS.F ht⟩) hS.2.2 d_m641_37
  exact hgo _ _ hP hS
def f_Store_append_L40b (n_sto_b_40 : Nat) (p0 : Int64) (N : Nat) (rec : (Int32 × Int32 × (Nat → Int32)) → Option (Int32 × (Nat → Int32))) (v4_40 : Int32) (sto_length_40 : Int32) (sto_b_40 : Nat → Int32) : Option (Int32 × (Nat → Int32)) :=
  if v4_40 < 0 then
    some (sto_length_40, sto_b_40)
  else
    if sto_length_40 < 0 ∨ n_sto_b_40 ≤ sto_length_40.toNatClampNeg then none else
    rec (v4_40 + (-1 : Int32), sto_length_40 + (1 : Int32), upd sto_b_40 sto_length_40.toNatClampNeg (vp_nar .byte ((((p0.toUInt64 >>> (((8 : Int32) * v4_40).toInt64.toUInt64 &&& Int64.toUInt64 63)).toInt64).toInt32).toInt8.toInt32)))
def f_Store_append_L40 (n_sto_b_40 : Nat) (p0 : Int64) (N : Nat) (k : Nat) : (Int32 × Int32 × (Nat → Int32)) → Option (Int32 × (Nat → Int32)) := it (fun rec a => f_Store_append_L40b n_sto_b_40 p0 N rec a.1 a.2.1 a.2.2) k
def f_Store_append (ms : Nat) (N : Nat) (p0 : Int64) (p1 : Int32) (sto_length : Int32) (n_sto_b : Nat) (sto_b : Nat → Int32) : Option (Int32 × Int32 × Nat × (Nat → Int32)) :=
  if p1 < (1 : Int32) then
    some ((0 : Int32), sto_length, n_sto_b, sto_b)
  else
    if (8 : Int32) < p1 then
      some ((0 : Int32), sto_length, n_sto_b, sto_b)
    else
      if (sto_length + p1) ≤ (16384 : Int32) then
        (f_Store_reserve ms (sto_length + p1) n_sto_b sto_b).bind fun z1 =>
        (f_Store_append_L40 z1.1 p0 N N (p1 - (1 : Int32), sto_length, z1.2)).bind fun z2 =>
          some ((1 : Int32), z2.1, z1.1, z2.2)
      else
        some ((0 : Int32), sto_length, n_sto_b, sto_b)
abbrev w_Store_append (cI cB cS cT : ClassId) (a_sto : Nat) (a_sto_b : Nat) (sto_length : Int32) (n_sto_b : Nat) (sto_b : Nat → Int32) : va_W := [(a_sto, .inr (9, [.ref a_sto_b, .int sto_length])), (a_sto_b, .inl (cB, n_sto_b, .inl sto_b))]
def rm_Store_append (ms : Nat) : Room := { frames := 3, cells := 1, slots := ms, locals := 75 }
set_option maxHeartbeats 1000000 in
set_option maxRecDepth 100000 in
theorem c_Store_append (l : Launch) (dC : Nat → ClassId) (dI : Nat → Nat → Nat) (cI cB cS cT : ClassId) (ms : Nat) (N : Nat) (a_sto : Nat) (a_sto_b : Nat) (sto_length : Int32) (n_sto_b : Nat) (sto_b : Nat → Int32) (p0 : Int64) (p1 : Int32) (sz : Nat) (z : Int32 × Int32 × Nat × (Nat → Int32)) (hf : f_Store_append ms N p0 p1 sto_length n_sto_b sto_b = some z) : Met l y_m790 ws_m790 (rm_Store_append ms) (gPre (dC, dI) [.ref a_sto, .long p0, .int p1] (gT cI cB cS cT) (w_Store_append cI cB cS cT a_sto a_sto_b sto_length n_sto_b sto_b) sz) (gQiA (dC, dI) (gT cI cB cS cT) (U := Nat) z.1 (w_Store_append cI cB cS cT a_sto a_sto_b sto_length n_sto_b sto_b) (fun u => (w_Store_append cI cB cS cT a_sto u z.2.1 z.2.2.1 z.2.2.2)) sz) 1 ms (va_A (w_Store_append cI cB cS cT a_sto a_sto_b sto_length n_sto_b sto_b) sz) := by
  refine Met.ofW (cc := prog_11_method_4_code) (maxL := 5) (ret := (some .boolean)) (by decide) rfl ?_
  intro p e s m args below meth c s₁ B hml hv
  obtain ⟨hargs, hsz, hP, hKN, hD0⟩ := hv
  have hK := hKN.1
  have hx := B.exec
  have hb := B.bytes
  have hr := B.returns
  have hts := atoms_spec (ws := ws_m790) B.pre
  have hown : s.vm.findClass "ScanCoder$Store" = some m.cls := findClass_of_methodNamed B.named
  have hlocks := B.notSynchronized
  have k0 := hts _ (List.mem_cons_of_mem _ tw_281)
  have k1 := hts _ (List.mem_cons_of_mem _ tw_278)
  have n0 : ∀ w ∈ u_ws "ScanCoder$Store" T_9 2, w ∈ ws_m790 := fun w h => List.mem_cons_of_mem _ (in_9 w h)
  subst hsz
  have hD := hD0.self (sz := s.heap.size)
  obtain ⟨A, hAe⟩ : ∃ A : Nat → Prop, va_A (w_Store_append cI cB cS cT a_sto a_sto_b sto_length n_sto_b sto_b) s.heap.size = A := ⟨_, rfl⟩
  rw [hAe] at hD
  have hA : ∀ q : Nat, s.heap.size ≤ q → A q := fun q h => by rw [← hAe]; exact Or.inr h
  have hS : va_S A s.heap s.heap [] := va_S.rf
  have hl := lv_entry ([.ref a_sto, .long p0, .int p1]) (n := 5) (Nat.le_of_ble_eq_true rfl)
  have hfr : entryFrame m args 5 = F0 m 0 ((lg_sl ([.ref a_sto, .long p0, .int p1]) ++ List.replicate (5 - (lg_sl ([.ref a_sto, .long p0, .int p1])).length) Slot.unset).toArray) [] := by rw [hargs]; exact lg_entry_eq _ _ _
  rw [hfr]
  generalize (lg_sl ([.ref a_sto, .long p0, .int p1]) ++ List.replicate (5 - (lg_sl ([.ref a_sto, .long p0, .int p1])).length) Slot.unset).toArray = ls at hl ⊢
  have hl : lv_has ls 5 [(0, .ref a_sto), (1, .long p0), (3, .int p1)] := hl
  refine gen_Q (fun Q hQ => ?_)
  clear hfr
  have L40 : ∀ (a_sto_b_40 : Nat) (n_sto_b_40 : Nat) (z : Int32 × (Nat → Int32)), (GW (dC, dI) A p l e (headSpec ws_m790 (rm_Store_append ms)).room s m args below meth c 1 ms Q 5 79 (w_Store_append cI cB cS cT a_sto a_sto_b_40 z.1 n_sto_b_40 z.2) [] []) → ∀ (k : Nat) (v4_40 : Int32) (sto_length_40 : Int32) (sto_b_40 : Nat → Int32), f_Store_append_L40 n_sto_b_40 p0 N k (v4_40, sto_length_40, sto_b_40) = some z → GW (dC, dI) A p l e (headSpec ws_m790 (rm_Store_append ms)).room s m args below meth c 1 ms Q 5 40 (w_Store_append cI cB cS cT a_sto a_sto_b_40 sto_length_40 n_sto_b_40 sto_b_40) [(0, .ref a_sto), (1, .long p0), (4, .int v4_40)] [] := by
    intro a_sto_b_40 n_sto_b_40 z hE0 k
    induction k with
    | zero =>
      intro v4_40 sto_length_40 sto_b_40 hf
      exact (it_zero hf).elim
    | succ k ih =>
      intro v4_40 sto_length_40 sto_b_40 hf H locs ls hP hD hS hl
      have hf : f_Store_append_L40b n_sto_b_40 p0 N (f_Store_append_L40 n_sto_b_40 p0 N k) v4_40 sto_length_40 sto_b_40 = some z := hf
      unfold f_Store_append_L40b at hf
      refine lv_iload hx hb d_m790_40 (lv_at hl 2 rfl) ?_
      refine lv_if_lt (tgt := 79) hx hb d_m790_42 (by decide) (fun hc => ?_) (fun hc => ?_)
      · replace hf := (if_pos hc).symm.trans hf
        obtain rfl := Option.some.inj hf
        exact hE0  H locs ls hP hD hS (lv_sub hl [] rfl)
      · replace hf := (if_neg hc).symm.trans hf
        refine lv_aload_n hx hb d_m790_45 rfl (lv_at hl 0 rfl) ?_
        refine va_get (D := (dC, dI)) (ci := 9) (v := .ref a_sto_b_40) (C := "ScanCoder$Store") (T := T_9) (N := 2) hx hb hts n0 hown hK hP 0 rfl rfl 0 (by decide) k1 (fun _ h9 => h9) rfl d_m790_46 ?_
        refine lv_aload_n hx hb d_m790_49 rfl (lv_at hl 0 rfl) ?_
        refine va_get (D := (dC, dI)) (ci := 9) (v := .int sto_length_40) (C := "ScanCoder$Store") (T := T_9) (N := 2) hx hb hts n0 hown hK hP 0 rfl rfl 1 (by decide) k0 (fun _ h9 => h9) rfl d_m790_50 ?_
        refine lv_lload_n hx hb d_m790_53 rfl (lv_at hl 1 rfl) ?_
        refine lv_bipush (v := (8 : Int32)) hx hb d_m790_54 (by decide) ?_
        refine lv_iload hx hb d_m790_56 (lv_at hl 2 rfl) ?_
        refine lv_imul hx hb d_m790_58 ?_
        refine lv_lushr hx hb d_m790_59 rfl ?_
        refine lv_l2i hx hb d_m790_60 rfl ?_
        refine lv_i2b hx hb d_m790_61 rfl ?_
        obtain ⟨hi, hf⟩ := ob_if hf
        refine va_bast hx hb hK hP hD hS 1 1 rfl rfl hi d_m790_62 (fun H locs hP hD hS => ?_)
        have hP : va_P (dC, dI) vwCl (w_Store_append cI cB cS cT a_sto a_sto_b_40 sto_length_40 n_sto_b_40 (upd sto_b_40 sto_length_40.toNatClampNeg (vp_nar .byte ((((p0.toUInt64 >>> (((8 : Int32) * v4_40).toInt64.toUInt64 &&& Int64.toUInt64 63)).toInt64).toInt32).toInt8.toInt32)))) H := hP
        have hD : va_D A (w_Store_append cI cB cS cT a_sto a_sto_b_40 sto_length_40 n_sto_b_40 (upd sto_b_40 sto_length_40.toNatClampNeg (vp_nar .byte ((((p0.toUInt64 >>> (((8 : Int32) * v4_40).toInt64.toUInt64 &&& Int64.toUInt64 63)).toInt64).toInt32).toInt8.toInt32)))) := hD
        refine lv_aload_n hx hb d_m790_63 rfl (lv_at hl 0 rfl) ?_
        refine lv_dup hx hb d_m790_64 rfl ?_
        refine va_get (D := (dC, dI)) (ci := 9) (v := .int sto_length_40) (C := "ScanCoder$Store") (T := T_9) (N := 2) hx hb hts n0 hown hK hP 0 rfl rfl 1 (by decide) k0 (fun _ h9 => h9) rfl d_m790_65 ?_
        refine lv_iconst (v := (1 : Int32)) hx hb d_m790_68 (by decide) ?_
        refine lv_iadd hx hb d_m790_69 ?_
        refine va_put (D := (dC, dI)) (ci := 9) (v := .int (sto_length_40 + (1 : Int32))) (ty := .int) (C := "ScanCoder$Store") (T := T_9) (N := 2) hx hb hts n0 ty_9 tyok_9 nm_9 hown hK hP hD hS 0 rfl rfl 1 (by decide) k0 (fun _ h9 => h9) rfl (by decide +kernel) rfl rfl (Nat.le_of_ble_eq_true rfl) d_m790_70 (fun H locs hP hD hS => ?_)
        have hP : va_P (dC, dI) vwCl (w_Store_append cI cB cS cT a_sto a_sto_b_40 (sto_length_40 + (1 : Int32)) n_sto_b_40 (upd sto_b_40 sto_length_40.toNatClampNeg (vp_nar .byte ((((p0.toUInt64 >>> (((8 : Int32) * v4_40).toInt64.toUInt64 &&& Int64.toUInt64 63)).toInt64).toInt32).toInt8.toInt32)))) H := hP
        have hD : va_D A (w_Store_append cI cB cS cT a_sto a_sto_b_40 (sto_length_40 + (1 : Int32)) n_sto_b_40 (upd sto_b_40 sto_length_40.toNatClampNeg (vp_nar .byte ((((p0.toUInt64 >>> (((8 : Int32) * v4_40).toInt64.toUInt64 &&& Int64.toUInt64 63)).toInt64).toInt32).toInt8.toInt32)))) := hD
        refine lv_iinc (v := v4_40 + (-1 : Int32)) (lv' := [(4, .int (v4_40 + (-1 : Int32))), (0, .ref a_sto), (1, .long p0)]) hx hb d_m790_73 hl (k := 2) rfl rfl (by decide) rfl (fun ls hl => ?_)
        refine lv_goto (tgt := 40) hx hb d_m790_76 (by decide) ?_
        exact ih (v4_40 + (-1 : Int32)) (sto_length_40 + (1 : Int32)) (upd sto_b_40 sto_length_40.toNatClampNeg (vp_nar .byte ((((p0.toUInt64 >>> (((8 : Int32) * v4_40).toInt64.toUInt64 &&& Int64.toUInt64 63)).toInt64).toInt32).toInt8.toInt32))) hf H locs ls hP hD hS (lv_sub hl [1, 2, 0] rfl)
  have hgo : ∀ (H : Heap) (locs : List Loc), va_P (dC, dI) vwCl (w_Store_append cI cB cS cT a_sto a_sto_b sto_length n_sto_b sto_b) H → va_S A s.heap H locs → W p l e (headSpec ws_m790 (rm_Store_append ms)).room s m args below meth c H locs 0 0 Q (F0 m 0 ls []) := by
    intro H locs hP hS
    unfold f_Store_append at hf
    refine lv_iload_n hx hb d_m790_0 rfl (lv_at hl 2 rfl) ?_
    refine lv_iconst (v := (1 : Int32)) hx hb d_m790_1 (by decide) ?_
    refine lv_icmp_lt (tgt := 23) hx hb d_m790_2 (by decide) (fun hc => ?_) (fun hc => ?_)
    · replace hf := (if_pos hc).symm.trans hf
      refine W.widen (k := 1) (n := ms) (Nat.zero_le _) (Nat.zero_le _) ?_
      refine lv_iconst (v := (0 : Int32)) hx hb d_m790_23 (by decide) ?_
      obtain rfl := Option.some.inj hf
      subst hQ
      subst hAe
      exact W.zret (v := (0 : Int32)) hx hb hr (by decide) (fun t ht hW => ⟨⟨(0 : Int32), a_sto_b, rfl, rfl, by rw [ht]; exact hP, hD⟩, hS.F ht⟩) hS.2.2 d_m790_24
    · replace hf := (if_neg hc).symm.trans hf
      refine lv_iload_n hx hb d_m790_5 rfl (lv_at hl 2 rfl) ?_
      refine lv_bipush (v := (8 : Int32)) hx hb d_m790_6 (by decide) ?_
      refine lv_icmp_gt (tgt := 23) hx hb d_m790_8 (by decide) (fun hc => ?_) (fun hc => ?_)
      · replace hf := (if_pos hc).symm.trans hf
        refine W.widen (k := 1) (n := ms) (Nat.zero_le _) (Nat.zero_le _) ?_
        refine lv_iconst (v := (0 : Int32)) hx hb d_m790_23 (by decide) ?_
        obtain rfl := Option.some.inj hf
        subst hQ
        subst hAe
        exact W.zret (v := (0 : Int32)) hx hb hr (by decide) (fun t ht hW => ⟨⟨(0 : Int32), a_sto_b, rfl, rfl, by rw [ht]; exact hP, hD⟩, hS.F ht⟩) hS.2.2 d_m790_24
      · replace hf := (if_neg hc).symm.trans hf
        refine lv_aload_n hx hb d_m790_11 rfl (lv_at hl 0 rfl) ?_
        refine va_get (D := (dC, dI)) (ci := 9) (v := .int sto_length) (C := "ScanCoder$Store") (T := T_9) (N := 2) hx hb hts n0 hown hK hP 0 rfl rfl 1 (by decide) k0 (fun _ h9 => h9) rfl d_m790_12 ?_
        refine lv_iload_n hx hb d_m790_15 rfl (lv_at hl 2 rfl) ?_
        refine lv_iadd hx hb d_m790_16 ?_
        refine lv_sipush (v := (16384 : Int32)) hx hb d_m790_17 (by decide) ?_
        refine lv_icmp_le (tgt := 25) hx hb d_m790_20 (by decide) (fun hc => ?_) (fun hc => ?_)
        · replace hf := (if_pos hc).symm.trans hf
          refine lv_aload_n hx hb d_m790_25 rfl (lv_at hl 0 rfl) ?_
          refine lv_aload_n hx hb d_m790_26 rfl (lv_at hl 0 rfl) ?_
          refine va_get (D := (dC, dI)) (ci := 9) (v := .int sto_length) (C := "ScanCoder$Store") (T := T_9) (N := 2) hx hb hts n0 hown hK hP 0 rfl rfl 1 (by decide) k0 (fun _ h9 => h9) rfl d_m790_27 ?_
          refine lv_iload_n hx hb d_m790_30 rfl (lv_at hl 2 rfl) ?_
          refine lv_iadd hx hb d_m790_31 ?_
          obtain ⟨z1, hz1, hf⟩ := ob_bind hf
          refine g_callAv (U := Nat) (wc := (w_Store_reserve cI cB cS cT a_sto a_sto_b sto_length n_sto_b sto_b)) (w1 := fun u1 => (w_Store_reserve cI cB cS cT a_sto u1 sto_length z1.1 z1.2)) (w2 := fun u1 => (w_Store_append cI cB cS cT a_sto u1 sto_length z1.1 z1.2)) [0, 1] [some 0, some 1] hP hD hS hA rfl (fun _ => rfl) rfl rfl (va_runV (As := [.int (sto_length + p1)]) (rest := []) ⟨hx, hb, hml, hown, hts⟩ (c_Store_reserve l dC dI cI cB cS cT ms a_sto a_sto_b sto_length n_sto_b sto_b (sto_length + p1) H.size z1 hz1) ⟨(callB_of 1 hts (gi tw_641 rfl) rfl rfl rfl (hts _ (List.mem_cons_of_mem _ tw_9)) (hts _ (List.mem_cons_of_mem _ tw_791)) (by decide +kernel) ⟨Nat.le_of_ble_eq_true rfl, Nat.le_of_ble_eq_true rfl⟩), hts _ (List.mem_cons_of_mem _ tw_639), hts _ (List.mem_cons_of_mem _ tw_640)⟩ ⟨g_blind, va_recv hK hP (ci := 9) (q0 := 0) rfl rfl, g_at hKN (g_pm hP [0, 1] rfl) (hD.sub [0, 1] (by decide) rfl)⟩ rfl rfl hl.1 rfl (lv_room (Nat.le_of_ble_eq_true rfl)) d_m790_32 ⟨Nat.le_of_ble_eq_true rfl, Nat.le_of_eq (Nat.zero_add _)⟩) (fun u1 H locs hP hD hS => ?_)
          refine W.widen (k := 1) (n := ms) (Nat.le_of_ble_eq_true rfl) (Nat.le_of_eq (Nat.zero_add _)) ?_
          have hP : va_P (dC, dI) vwCl (w_Store_append cI cB cS cT a_sto u1 sto_length z1.1 z1.2) H := hP
          have hD : va_D A (w_Store_append cI cB cS cT a_sto u1 sto_length z1.1 z1.2) := hD
          refine W.eq (g2 := F0 m 35 ls []) rfl ?_
          refine lv_iload_n hx hb d_m790_35 rfl (lv_at hl 2 rfl) ?_
          refine lv_iconst (v := (1 : Int32)) hx hb d_m790_36 (by decide) ?_
          refine lv_isub hx hb d_m790_37 ?_
          refine lv_istore (lv' := [(4, .int (p1 - (1 : Int32))), (0, .ref a_sto), (1, .long p0), (3, .int p1)]) hx hb d_m790_38 hl (by decide) rfl (fun ls hl => ?_)
          obtain ⟨z2, hz2, hf⟩ := ob_bind hf
          refine L40 u1 z1.1 z2 ?_ N (p1 - (1 : Int32)) sto_length z1.2 hz2 H locs ls hP hD hS (lv_sub hl [1, 2, 0] rfl)
          · intro H locs ls hP hD hS hl
            refine lv_iconst (v := (1 : Int32)) hx hb d_m790_79 (by decide) ?_
            obtain rfl := Option.some.inj hf
            subst hQ
            subst hAe
            exact W.zret (v := (1 : Int32)) hx hb hr (by decide) (fun t ht hW => ⟨⟨(1 : Int32), u1, rfl, rfl, by rw [ht]; exact hP, hD⟩, hS.F ht⟩) hS.2.2 d_m790_80
        · replace hf := (if_neg hc).symm.trans hf
          refine W.widen (k := 1) (n := ms) (Nat.zero_le _) (Nat.zero_le _) ?_
          refine lv_iconst (v := (0 : Int32)) hx hb d_m790_23 (by decide) ?_
          obtain rfl := Option.some.inj hf
          subst hQ
          subst hAe
          exact W.zret (v := (0 : Int32)) hx hb hr (by decide) (fun t ht hW => ⟨⟨(0 : Int32), a_sto_b, rfl, rfl, by rw [ht]; exact hP, hD⟩, hS.F ht⟩) hS.2.2 d_m790_24
  exact hgo _ _ hP hS
