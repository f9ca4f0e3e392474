
def f_Counter_begin (N : Nat) (cnt_t : Nat → Int32) : Option (Int32 × (Nat → Int32)) :=
  (f_Arrays_fillI N (0 : Int32) 2048 cnt_t).bind fun z1 =>
  some ((0 : Int32), z1)
abbrev w_Counter_begin (cI cB cS cT : ClassId) (a_cnt : Nat) (a_cnt_t : Nat) (cnt_total : Int32) (cnt_t : Nat → Int32) : va_W := [(a_cnt, .inr (3, [.ref a_cnt_t, .int cnt_total])), (a_cnt_t, .inl (cI, 2048, .inl cnt_t))]
def rm_Counter_begin : Room := { frames := 1, cells := 0, slots := 0, locals := 23 }
set_option maxHeartbeats 1000000 in
set_option maxRecDepth 100000 in
theorem c_Counter_begin (l : Launch) (dC : Nat → ClassId) (dI : Nat → Nat → Nat) (cI cB cS cT : ClassId) (N : Nat) (a_cnt : Nat) (a_cnt_t : Nat) (cnt_total : Int32) (cnt_t : Nat → Int32) (sz : Nat) (z : Int32 × (Nat → Int32)) (hf : f_Counter_begin N cnt_t = some z) : Met l y_m777 ws_m777 rm_Counter_begin (gPre (dC, dI) [.ref a_cnt] (gT cI cB cS cT) (w_Counter_begin cI cB cS cT a_cnt a_cnt_t cnt_total cnt_t) sz) (gQv (dC, dI) (gT cI cB cS cT) (w_Counter_begin cI cB cS cT a_cnt a_cnt_t cnt_total cnt_t) (w_Counter_begin cI cB cS cT a_cnt a_cnt_t z.1 z.2) sz) 0 0 (va_A (w_Counter_begin cI cB cS cT a_cnt a_cnt_t cnt_total cnt_t) sz) := by
  refine Met.ofW (cc := prog_4_method_2_code) (maxL := 1) (ret := none) (by decide) rfl ?_
  intro p e s m args below meth c s₁ B hml hv
  obtain ⟨hargs, hsz, hP, hKN, hD0⟩ := hv
  have hK := hKN.1
  have hx := B.exec
  have hb := B.bytes
  have hr := B.returns
  have hts := atoms_spec (ws := ws_m777) B.pre
  have hown : s.vm.findClass "ScanCoder$Counter" = some m.cls := findClass_of_methodNamed B.named
  have hlocks := B.notSynchronized
  have k0 := hts _ (List.mem_cons_of_mem _ tw_298)
  have k1 := hts _ (List.mem_cons_of_mem _ tw_300)
  have n0 : ∀ w ∈ u_ws "ScanCoder$Counter" T_3 2, w ∈ ws_m777 := fun w h => List.mem_cons_of_mem _ (in_3 w h)
  subst hsz
  have hD := hD0.self (sz := s.heap.size)
  obtain ⟨A, hAe⟩ : ∃ A : Nat → Prop, va_A (w_Counter_begin cI cB cS cT a_cnt a_cnt_t cnt_total cnt_t) s.heap.size = A := ⟨_, rfl⟩
  rw [hAe] at hD
  have hA : ∀ q : Nat, s.heap.size ≤ q → A q := fun q h => by rw [← hAe]; exact Or.inr h
  have hS : va_S A s.heap s.heap [] := va_S.rf
  have hl := lv_entry ([.ref a_cnt]) (n := 1) (Nat.le_of_ble_eq_true rfl)
  have hfr : entryFrame m args 1 = F0 m 0 ((lg_sl ([.ref a_cnt]) ++ List.replicate (1 - (lg_sl ([.ref a_cnt])).length) Slot.unset).toArray) [] := by rw [hargs]; exact lg_entry_eq _ _ _
  rw [hfr]
  generalize (lg_sl ([.ref a_cnt]) ++ List.replicate (1 - (lg_sl ([.ref a_cnt])).length) Slot.unset).toArray = ls at hl ⊢
  have hl : lv_has ls 1 [(0, .ref a_cnt)] := hl
  refine gen_Q (fun Q hQ => ?_)
  clear hfr
  have hgo : ∀ (H : Heap) (locs : List Loc), va_P (dC, dI) vwCl (w_Counter_begin cI cB cS cT a_cnt a_cnt_t cnt_total cnt_t) H → va_S A s.heap H locs → W p l e (headSpec ws_m777 rm_Counter_begin).room s m args below meth c H locs 0 0 Q (F0 m 0 ls []) := by
    intro H locs hP hS
    unfold f_Counter_begin at hf
    refine lv_aload_n hx hb d_m777_0 rfl (lv_at hl 0 rfl) ?_
    refine va_get (D := (dC, dI)) (ci := 3) (v := .ref a_cnt_t) (C := "ScanCoder$Counter") (T := T_3) (N := 2) hx hb hts n0 hown hK hP 0 rfl rfl 0 (by decide) k0 (fun _ h9 => h9) rfl d_m777_1 ?_
    refine lv_iconst (v := (0 : Int32)) hx hb d_m777_4 (by decide) ?_
    obtain ⟨z1, hz1, hf⟩ := ob_bind hf
    refine g_callv (wc := (w_Arrays_fillI cI cB cS cT a_cnt_t 2048 cnt_t)) (w1 := (w_Arrays_fillI cI cB cS cT a_cnt_t 2048 z1)) (w2 := (w_Counter_begin cI cB cS cT a_cnt a_cnt_t cnt_total z1)) [1] [none, some 0] hP hD hS hA rfl rfl rfl rfl (va_runS (As := [.ref a_cnt_t, .int (0 : Int32)]) (rest := []) ⟨hx, hb, hml, hown, hts⟩ (c_Arrays_fillI l dC dI cI cB cS cT N a_cnt_t 2048 cnt_t (0 : Int32) H.size z1 hz1) ⟨(callB_of 2 hts (gi tw_122 rfl) rfl rfl rfl (hts _ (List.mem_cons_of_mem _ tw_4)) (hts _ (List.mem_cons_of_mem _ tw_778)) (by decide +kernel) ⟨Nat.le_of_ble_eq_true rfl, Nat.le_of_ble_eq_true rfl⟩), hts _ (List.mem_cons_of_mem _ tw_121)⟩ ⟨g_blind, g_at hKN (g_pm hP [1] rfl) (hD.sub [1] (by decide) rfl)⟩ rfl rfl hl.1 rfl (lv_room (Nat.le_of_ble_eq_true rfl)) d_m777_5 ⟨Nat.zero_le _, Nat.zero_le _⟩) (fun H locs hP hD hS => ?_)
    refine W.eq (g2 := F0 m 8 ls []) rfl ?_
    refine lv_aload_n hx hb d_m777_8 rfl (lv_at hl 0 rfl) ?_
    refine lv_iconst (v := (0 : Int32)) hx hb d_m777_9 (by decide) ?_
    refine va_put (D := (dC, dI)) (ci := 3) (v := .int (0 : Int32)) (ty := .int) (C := "ScanCoder$Counter") (T := T_3) (N := 2) hx hb hts n0 ty_3 tyok_3 nm_3 hown hK hP hD hS 0 rfl rfl 1 (by decide) k1 (fun _ h9 => h9) rfl (by decide +kernel) rfl rfl (Nat.le_of_ble_eq_true rfl) d_m777_10 (fun H locs hP hD hS => ?_)
    have hP : va_P (dC, dI) vwCl (w_Counter_begin cI cB cS cT a_cnt a_cnt_t (0 : Int32) z1) H := hP
    have hD : va_D A (w_Counter_begin cI cB cS cT a_cnt a_cnt_t (0 : Int32) z1) := hD
    obtain rfl := Option.some.inj hf
    subst hQ
    subst hAe
    exact W.vret hx hb hr (fun t ht hW => ⟨⟨(), rfl, trivial, by rw [ht]; exact hP, hD⟩, hS.F ht⟩) hS.2.2 d_m777_13
  exact hgo _ _ hP hS

def f_Counter_putWord (p0 : Int32) (p1 : Int32) (cnt_total : Int32) (cnt_t : Nat → Int32) : Option (Int32 × (Nat → Int32)) :=
  if ((p0 * (256 : Int32)) + p1) < 0 ∨ 2048 ≤ ((p0 * (256 : Int32)) + p1).toNatClampNeg then none else
  if ((p0 * (256 : Int32)) + p1) < 0 ∨ 2048 ≤ ((p0 * (256 : Int32)) + p1).toNatClampNeg then none else
  some (cnt_total + (1 : Int32), upd cnt_t ((p0 * (256 : Int32)) + p1).toNatClampNeg ((cnt_t ((p0 * (256 : Int32)) + p1).toNatClampNeg) + (1 : Int32)))
abbrev w_Counter_putWord (cI cB cS cT : ClassId) (a_cnt : Nat) (a_cnt_t : Nat) (cnt_total : Int32) (cnt_t : Nat → Int32) : va_W := [(a_cnt, .inr (3, [.ref a_cnt_t, .int cnt_total])), (a_cnt_t, .inl (cI, 2048, .inl cnt_t))]
def rm_Counter_putWord : Room := { frames := 0, cells := 0, slots := 0, locals := 0 }
set_option maxHeartbeats 1000000 in
set_option maxRecDepth 100000 in
theorem c_Counter_putWord (l : Launch) (dC : Nat → ClassId) (dI : Nat → Nat → Nat) (cI cB cS cT : ClassId) (a_cnt : Nat) (a_cnt_t : Nat) (cnt_total : Int32) (cnt_t : Nat → Int32) (p0 : Int32) (p1 : Int32) (sz : Nat) (z : Int32 × (Nat → Int32)) (hf : f_Counter_putWord p0 p1 cnt_total cnt_t = some z) : Met l y_m586 ws_m586 rm_Counter_putWord (gPre (dC, dI) [.ref a_cnt, .int p0, .int p1] (gT cI cB cS cT) (w_Counter_putWord cI cB cS cT a_cnt a_cnt_t cnt_total cnt_t) sz) (gQv (dC, dI) (gT cI cB cS cT) (w_Counter_putWord cI cB cS cT a_cnt a_cnt_t cnt_total cnt_t) (w_Counter_putWord cI cB cS cT a_cnt a_cnt_t z.1 z.2) sz) 0 0 (va_A (w_Counter_putWord cI cB cS cT a_cnt a_cnt_t cnt_total cnt_t) sz) := by
  refine Met.ofW (cc := prog_4_method_3_code) (maxL := 3) (ret := none) (by decide) rfl ?_
  intro p e s m args below meth c s₁ B hml hv
  obtain ⟨hargs, hsz, hP, hKN, hD0⟩ := hv
  have hK := hKN.1
  have hx := B.exec
  have hb := B.bytes
  have hr := B.returns
  have hts := atoms_spec (ws := ws_m586) B.pre
  have hown : s.vm.findClass "ScanCoder$Counter" = some m.cls := findClass_of_methodNamed B.named
  have hlocks := B.notSynchronized
  have k0 := hts _ (List.mem_cons_of_mem _ tw_298)
  have k1 := hts _ (List.mem_cons_of_mem _ tw_300)
  have n0 : ∀ w ∈ u_ws "ScanCoder$Counter" T_3 2, w ∈ ws_m586 := fun w h => List.mem_cons_of_mem _ (in_3 w h)
  subst hsz
  have hD := hD0.self (sz := s.heap.size)
  obtain ⟨A, hAe⟩ : ∃ A : Nat → Prop, va_A (w_Counter_putWord cI cB cS cT a_cnt a_cnt_t cnt_total cnt_t) s.heap.size = A := ⟨_, rfl⟩
  rw [hAe] at hD
  have hA : ∀ q : Nat, s.heap.size ≤ q → A q := fun q h => by rw [← hAe]; exact Or.inr h
  have hS : va_S A s.heap s.heap [] := va_S.rf
  have hl := lv_entry ([.ref a_cnt, .int p0, .int p1]) (n := 3) (Nat.le_of_ble_eq_true rfl)
  have hfr : entryFrame m args 3 = F0 m 0 ((lg_sl ([.ref a_cnt, .int p0, .int p1]) ++ List.replicate (3 - (lg_sl ([.ref a_cnt, .int p0, .int p1])).length) Slot.unset).toArray) [] := by rw [hargs]; exact lg_entry_eq _ _ _
  rw [hfr]
  generalize (lg_sl ([.ref a_cnt, .int p0, .int p1]) ++ List.replicate (3 - (lg_sl ([.ref a_cnt, .int p0, .int p1])).length) Slot.unset).toArray = ls at hl ⊢
  have hl : lv_has ls 3 [(0, .ref a_cnt), (1, .int p0), (2, .int p1)] := hl
  refine gen_Q (fun Q hQ => ?_)
  clear hfr
  have hgo : ∀ (H : Heap) (locs : List Loc), va_P (dC, dI) vwCl (w_Counter_putWord cI cB cS cT a_cnt a_cnt_t cnt_total cnt_t) H → va_S A s.heap H locs → W p l e (headSpec ws_m586 rm_Counter_putWord).room s m args below meth c H locs 0 0 Q (F0 m 0 ls []) := by
    intro H locs hP hS
    unfold f_Counter_putWord at hf
    refine lv_aload_n hx hb d_m586_0 rfl (lv_at hl 0 rfl) ?_
    refine va_get (D := (dC, dI)) (ci := 3) (v := .ref a_cnt_t) (C := "ScanCoder$Counter") (T := T_3) (N := 2) hx hb hts n0 hown hK hP 0 rfl rfl 0 (by decide) k0 (fun _ h9 => h9) rfl d_m586_1 ?_
    refine lv_iload_n hx hb d_m586_4 rfl (lv_at hl 1 rfl) ?_
    refine lv_sipush (v := (256 : Int32)) hx hb d_m586_5 (by decide) ?_
    refine lv_imul hx hb d_m586_8 ?_
    refine lv_iload_n hx hb d_m586_9 rfl (lv_at hl 2 rfl) ?_
    refine lv_iadd hx hb d_m586_10 ?_
    refine lv_dup2_11 hx hb d_m586_11 rfl rfl ?_
    obtain ⟨hi, hf⟩ := ob_if hf
    refine va_iald hx hb hK hP 1 0 rfl rfl hi d_m586_12 ?_
    refine lv_iconst (v := (1 : Int32)) hx hb d_m586_13 (by decide) ?_
    refine lv_iadd hx hb d_m586_14 ?_
    obtain ⟨hi, hf⟩ := ob_if hf
    refine va_iast hx hb hK hP hD hS 1 0 rfl rfl hi d_m586_15 (fun H locs hP hD hS => ?_)
    have hP : va_P (dC, dI) vwCl (w_Counter_putWord cI cB cS cT a_cnt a_cnt_t cnt_total (upd cnt_t ((p0 * (256 : Int32)) + p1).toNatClampNeg ((cnt_t ((p0 * (256 : Int32)) + p1).toNatClampNeg) + (1 : Int32)))) H := hP
    have hD : va_D A (w_Counter_putWord cI cB cS cT a_cnt a_cnt_t cnt_total (upd cnt_t ((p0 * (256 : Int32)) + p1).toNatClampNeg ((cnt_t ((p0 * (256 : Int32)) + p1).toNatClampNeg) + (1 : Int32)))) := hD
    refine lv_aload_n hx hb d_m586_16 rfl (lv_at hl 0 rfl) ?_
    refine lv_dup hx hb d_m586_17 rfl ?_
    refine va_get (D := (dC, dI)) (ci := 3) (v := .int cnt_total) (C := "ScanCoder$Counter") (T := T_3) (N := 2) hx hb hts n0 hown hK hP 0 rfl rfl 1 (by decide) k1 (fun _ h9 => h9) rfl d_m586_18 ?_
    refine lv_iconst (v := (1 : Int32)) hx hb d_m586_21 (by decide) ?_
    refine lv_iadd hx hb d_m586_22 ?_
    refine va_put (D := (dC, dI)) (ci := 3) (v := .int (cnt_total + (1 : Int32))) (ty := .int) (C := "ScanCoder$Counter") (T := T_3) (N := 2) hx hb hts n0 ty_3 tyok_3 nm_3 hown hK hP hD hS 0 rfl rfl 1 (by decide) k1 (fun _ h9 => h9) rfl (by decide +kernel) rfl rfl (Nat.le_of_ble_eq_true rfl) d_m586_23 (fun H locs hP hD hS => ?_)
    have hP : va_P (dC, dI) vwCl (w_Counter_putWord cI cB cS cT a_cnt a_cnt_t (cnt_total + (1 : Int32)) (upd cnt_t ((p0 * (256 : Int32)) + p1).toNatClampNeg ((cnt_t ((p0 * (256 : Int32)) + p1).toNatClampNeg) + (1 : Int32)))) H := hP
    have hD : va_D A (w_Counter_putWord cI cB cS cT a_cnt a_cnt_t (cnt_total + (1 : Int32)) (upd cnt_t ((p0 * (256 : Int32)) + p1).toNatClampNeg ((cnt_t ((p0 * (256 : Int32)) + p1).toNatClampNeg) + (1 : Int32)))) := hD
    obtain rfl := Option.some.inj hf
    subst hQ
    subst hAe
    exact W.vret hx hb hr (fun t ht hW => ⟨⟨(), rfl, trivial, by rw [ht]; exact hP, hD⟩, hS.F ht⟩) hS.2.2 d_m586_26
  exact hgo _ _ hP hS

def f_Counter_putBits  : Option (Unit) :=
  some ()
abbrev w_Counter_putBits (cI cB cS cT : ClassId) (a_cnt : Nat) (a_cnt_t : Nat) (cnt_total : Int32) : va_W := [(a_cnt, .inr (3, [.ref a_cnt_t, .int cnt_total]))]
def rm_Counter_putBits : Room := { frames := 0, cells := 0, slots := 0, locals := 0 }
set_option maxHeartbeats 1000000 in
set_option maxRecDepth 100000 in
theorem c_Counter_putBits (l : Launch) (dC : Nat → ClassId) (dI : Nat → Nat → Nat) (cI cB cS cT : ClassId) (a_cnt : Nat) (a_cnt_t : Nat) (cnt_total : Int32) (p0 : Int64) (p1 : Int32) (z : Unit) (hf : f_Counter_putBits  = some z) : Met l y_m593 ws_m593 rm_Counter_putBits (gPreP (dC, dI) [.ref a_cnt, .long p0, .int p1] (gT cI cB cS cT) (w_Counter_putBits cI cB cS cT a_cnt a_cnt_t cnt_total)) (va_Sv (fun _ => True)) 0 0 (fun _ => False) := by
  refine Met.ofW (cc := prog_4_method_4_code) (maxL := 4) (ret := none) (by decide) rfl ?_
  intro p e s m args below meth c s₁ B hml hv
  obtain ⟨hargs, hP, hKN⟩ := hv
  have hK := hKN.1
  have hx := B.exec
  have hb := B.bytes
  have hr := B.returns
  have hts := atoms_spec (ws := ws_m593) B.pre
  have hown : s.vm.findClass "ScanCoder$Counter" = some m.cls := findClass_of_methodNamed B.named
  have hlocks := B.notSynchronized
  have hl := lv_entry ([.ref a_cnt, .long p0, .int p1]) (n := 4) (Nat.le_of_ble_eq_true rfl)
  have hfr : entryFrame m args 4 = F0 m 0 ((lg_sl ([.ref a_cnt, .long p0, .int p1]) ++ List.replicate (4 - (lg_sl ([.ref a_cnt, .long p0, .int p1])).length) Slot.unset).toArray) [] := by rw [hargs]; exact lg_entry_eq _ _ _
  rw [hfr]
  generalize (lg_sl ([.ref a_cnt, .long p0, .int p1]) ++ List.replicate (4 - (lg_sl ([.ref a_cnt, .long p0, .int p1])).length) Slot.unset).toArray = ls at hl ⊢
  have hl : lv_has ls 4 [(0, .ref a_cnt), (1, .long p0), (3, .int p1)] := hl
  refine gen_Q (fun Q hQ => ?_)
  clear hfr
  unfold f_Counter_putBits at hf
  obtain rfl := Option.some.inj hf
  subst hQ
  exact W.vret hx hb hr (fun t ht hW => ⟨rfl, trivial, ht⟩) (fun q h => by cases h) d_m593_0

def f_Counter_endByte  : Option (Unit) :=
  some ()
abbrev w_Counter_endByte (cI cB cS cT : ClassId) (a_cnt : Nat) (a_cnt_t : Nat) (cnt_total : Int32) : va_W := [(a_cnt, .inr (3, [.ref a_cnt_t, .int cnt_total]))]
def rm_Counter_endByte : Room := { frames := 0, cells := 0, slots := 0, locals := 0 }
set_option maxHeartbeats 1000000 in
set_option maxRecDepth 100000 in
theorem c_Counter_endByte (l : Launch) (dC : Nat → ClassId) (dI : Nat → Nat → Nat) (cI cB cS cT : ClassId) (a_cnt : Nat) (a_cnt_t : Nat) (cnt_total : Int32) (z : Unit) (hf : f_Counter_endByte  = some z) : Met l y_m603 ws_m603 rm_Counter_endByte (gPreP (dC, dI) [.ref a_cnt] (gT cI cB cS cT) (w_Counter_endByte cI cB cS cT a_cnt a_cnt_t cnt_total)) (va_Sv (fun _ => True)) 0 0 (fun _ => False) := by
  refine Met.ofW (cc := prog_4_method_5_code) (maxL := 1) (ret := none) (by decide) rfl ?_
  intro p e s m args below meth c s₁ B hml hv
  obtain ⟨hargs, hP, hKN⟩ := hv
  have hK := hKN.1
  have hx := B.exec
  have hb := B.bytes
  have hr := B.returns
  have hts := atoms_spec (ws := ws_m603) B.pre
  have hown : s.vm.findClass "ScanCoder$Counter" = some m.cls := findClass_of_methodNamed B.named
  have hlocks := B.notSynchronized
  have hl := lv_entry ([.ref a_cnt]) (n := 1) (Nat.le_of_ble_eq_true rfl)
  have hfr : entryFrame m args 1 = F0 m 0 ((lg_sl ([.ref a_cnt]) ++ List.replicate (1 - (lg_sl ([.ref a_cnt])).length) Slot.unset).toArray) [] := by rw [hargs]; exact lg_entry_eq _ _ _
  rw [hfr]
  generalize (lg_sl ([.ref a_cnt]) ++ List.replicate (1 - (lg_sl ([.ref a_cnt])).length) Slot.unset).toArray = ls at hl ⊢
  have hl : lv_has ls 1 [(0, .ref a_cnt)] := hl
  refine gen_Q (fun Q hQ => ?_)
  clear hfr
  unfold f_Counter_endByte at hf
  obtain rfl := Option.some.inj hf
  subst hQ
  exact W.vret hx hb hr (fun t ht hW => ⟨rfl, trivial, ht⟩) (fun q h => by cases h) d_m603_0

def f_Counter_putRestart  : Option (Unit) :=
  some ()
abbrev w_Counter_putRestart (cI cB cS cT : ClassId) (a_cnt : Nat) (a_cnt_t : Nat) (cnt_total : Int32) : va_W := [(a_cnt, .inr (3, [.ref a_cnt_t, .int cnt_total]))]
def rm_Counter_putRestart : Room := { frames := 0, cells := 0, slots := 0, locals := 0 }
set_option maxHeartbeats 1000000 in
set_option maxRecDepth 100000 in
theorem c_Counter_putRestart (l : Launch) (dC : Nat → ClassId) (dI : Nat → Nat → Nat) (cI cB cS cT : ClassId) (a_cnt : Nat) (a_cnt_t : Nat) (cnt_total : Int32) (p0 : Int32) (z : Unit) (hf : f_Counter_putRestart  = some z) : Met l y_m616 ws_m616 rm_Counter_putRestart (gPreP (dC, dI) [.ref a_cnt, .int p0] (gT cI cB cS cT) (w_Counter_putRestart cI cB cS cT a_cnt a_cnt_t cnt_total)) (va_Sv (fun _ => True)) 0 0 (fun _ => False) := by
  refine Met.ofW (cc := prog_4_method_6_code) (maxL := 2) (ret := none) (by decide) rfl ?_
  intro p e s m args below meth c s₁ B hml hv
  obtain ⟨hargs, hP, hKN⟩ := hv
  have hK := hKN.1
  have hx := B.exec
  have hb := B.bytes
  have hr := B.returns
  have hts := atoms_spec (ws := ws_m616) B.pre
  have hown : s.vm.findClass "ScanCoder$Counter" = some m.cls := findClass_of_methodNamed B.named
  have hlocks := B.notSynchronized
  have hl := lv_entry ([.ref a_cnt, .int p0]) (n := 2) (Nat.le_of_ble_eq_true rfl)
  have hfr : entryFrame m args 2 = F0 m 0 ((lg_sl ([.ref a_cnt, .int p0]) ++ List.replicate (2 - (lg_sl ([.ref a_cnt, .int p0])).length) Slot.unset).toArray) [] := by rw [hargs]; exact lg_entry_eq _ _ _
  rw [hfr]
  generalize (lg_sl ([.ref a_cnt, .int p0]) ++ List.replicate (2 - (lg_sl ([.ref a_cnt, .int p0])).length) Slot.unset).toArray = ls at hl ⊢
  have hl : lv_has ls 2 [(0, .ref a_cnt), (1, .int p0)] := hl
  refine gen_Q (fun Q hQ => ?_)
  clear hfr
  unfold f_Counter_putRestart at hf
  obtain rfl := Option.some.inj hf
  subst hQ
  exact W.vret hx hb hr (fun t ht hW => ⟨rfl, trivial, ht⟩) (fun q h => by cases h) d_m616_0
