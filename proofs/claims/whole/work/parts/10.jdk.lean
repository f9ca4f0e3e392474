def f_Arrays_fillI_L5b (v3_5 : Int32) (n_p0I : Nat) (p1 : Int32) (N : Nat) (rec : (Int32 × (Nat → Int32)) → Option (Nat → Int32)) (v2_5 : Int32) (p0I_5 : Nat → Int32) : Option (Nat → Int32) :=
  if v3_5 ≤ v2_5 then
    some p0I_5
  else
    if v2_5 < 0 ∨ n_p0I ≤ v2_5.toNatClampNeg then none else
    rec (v2_5 + (1 : Int32), upd p0I_5 v2_5.toNatClampNeg p1)
def f_Arrays_fillI_L5 (v3_5 : Int32) (n_p0I : Nat) (p1 : Int32) (N : Nat) (k : Nat) : (Int32 × (Nat → Int32)) → Option (Nat → Int32) := it (fun rec a => f_Arrays_fillI_L5b v3_5 n_p0I p1 N rec a.1 a.2) k
def f_Arrays_fillI (N : Nat) (p1 : Int32) (n_p0I : Nat) (p0I : Nat → Int32) : Option (Nat → Int32) :=
  (f_Arrays_fillI_L5 (Int32.ofNat n_p0I) n_p0I p1 N N ((0 : Int32), p0I)).bind fun z1 =>
    some z1
abbrev w_Arrays_fillI (cI cB cS cT : ClassId) (a_p0I : Nat) (n_p0I : Nat) (p0I : Nat → Int32) : va_W := [(a_p0I, .inl (cI, n_p0I, .inl p0I))]
def rm_Arrays_fillI : Room := { frames := 0, cells := 0, slots := 0, locals := 0 }
set_option maxHeartbeats 1000000 in
set_option maxRecDepth 100000 in
theorem c_Arrays_fillI (l : Launch) (dC : Nat → ClassId) (dI : Nat → Nat → Nat) (cI cB cS cT : ClassId) (N : Nat) (a_p0I : Nat) (n_p0I : Nat) (p0I : Nat → Int32) (p1 : Int32) (sz : Nat) (z : Nat → Int32) (hf : f_Arrays_fillI N p1 n_p0I p0I = some z) : Met l y_m122 ws_m122 rm_Arrays_fillI (gPre (dC, dI) [.ref a_p0I, .int p1] (gT cI cB cS cT) (w_Arrays_fillI cI cB cS cT a_p0I n_p0I p0I) sz) (gQv (dC, dI) (gT cI cB cS cT) (w_Arrays_fillI cI cB cS cT a_p0I n_p0I p0I) (w_Arrays_fillI cI cB cS cT a_p0I n_p0I z) sz) 0 0 (va_A (w_Arrays_fillI cI cB cS cT a_p0I n_p0I p0I) sz) := by
  refine Met.ofW (cc := prog_19_method_103_code) (maxL := 4) (ret := none) (by decide) rfl ?_
  intro p e s m args below meth c s₁ B hml hv
  obtain ⟨hargs, hsz, hP, hKN, hD0⟩ := hv
  have hK := hKN.1
  have hx := B.exec
  have hb := B.bytes
  have hr := B.returns
  have hts := atoms_spec (ws := ws_m122) B.pre
  have hown : s.vm.findClass "java/util/Arrays" = some m.cls := findClass_of_methodNamed B.named
  have hlocks := B.notSynchronized
  subst hsz
  have hD := hD0.self (sz := s.heap.size)
  obtain ⟨A, hAe⟩ : ∃ A : Nat → Prop, va_A (w_Arrays_fillI cI cB cS cT a_p0I n_p0I p0I) s.heap.size = A := ⟨_, rfl⟩
  rw [hAe] at hD
  have hA : ∀ q : Nat, s.heap.size ≤ q → A q := fun q h => by rw [← hAe]; exact Or.inr h
  have hS : va_S A s.heap s.heap [] := va_S.rf
  have hl := lv_entry ([.ref a_p0I, .int p1]) (n := 4) (Nat.le_of_ble_eq_true rfl)
  have hfr : entryFrame m args 4 = F0 m 0 ((lg_sl ([.ref a_p0I, .int p1]) ++ List.replicate (4 - (lg_sl ([.ref a_p0I, .int p1])).length) Slot.unset).toArray) [] := by rw [hargs]; exact lg_entry_eq _ _ _
  rw [hfr]
  generalize (lg_sl ([.ref a_p0I, .int p1]) ++ List.replicate (4 - (lg_sl ([.ref a_p0I, .int p1])).length) Slot.unset).toArray = ls at hl ⊢
  have hl : lv_has ls 4 [(0, .ref a_p0I), (1, .int p1)] := hl
  refine gen_Q (fun Q hQ => ?_)
  clear hfr
  have L5 : ∀ (v3_5 : Int32) (z : Nat → Int32), (GW (dC, dI) A p l e (headSpec ws_m122 rm_Arrays_fillI).room s m args below meth c 0 0 Q 4 20 (w_Arrays_fillI cI cB cS cT a_p0I n_p0I z) [] []) → ∀ (k : Nat) (v2_5 : Int32) (p0I_5 : Nat → Int32), f_Arrays_fillI_L5 v3_5 n_p0I p1 N k (v2_5, p0I_5) = some z → GW (dC, dI) A p l e (headSpec ws_m122 rm_Arrays_fillI).room s m args below meth c 0 0 Q 4 5 (w_Arrays_fillI cI cB cS cT a_p0I n_p0I p0I_5) [(0, .ref a_p0I), (1, .int p1), (2, .int v2_5), (3, .int v3_5)] [] := by
    intro v3_5 z hE0 k
    induction k with
    | zero =>
      intro v2_5 p0I_5 hf
      exact (it_zero hf).elim
    | succ k ih =>
      intro v2_5 p0I_5 hf H locs ls hP hD hS hl
      have hf : f_Arrays_fillI_L5b v3_5 n_p0I p1 N (f_Arrays_fillI_L5 v3_5 n_p0I p1 N k) v2_5 p0I_5 = some z := hf
      unfold f_Arrays_fillI_L5b at hf
      refine lv_iload_n hx hb d_m122_5 rfl (lv_at hl 2 rfl) ?_
      refine lv_iload_n hx hb d_m122_6 rfl (lv_at hl 3 rfl) ?_
      refine lv_icmp_ge (tgt := 20) hx hb d_m122_7 (by decide) (fun hc => ?_) (fun hc => ?_)
      · replace hf := (if_pos hc).symm.trans hf
        obtain rfl := Option.some.inj hf
        exact hE0  H locs ls hP hD hS (lv_sub hl [] rfl)
      · replace hf := (if_neg hc).symm.trans hf
        refine lv_aload_n hx hb d_m122_10 rfl (lv_at hl 0 rfl) ?_
        refine lv_iload_n hx hb d_m122_11 rfl (lv_at hl 2 rfl) ?_
        refine lv_iload_n hx hb d_m122_12 rfl (lv_at hl 1 rfl) ?_
        obtain ⟨hi, hf⟩ := ob_if hf
        refine va_iast hx hb hK hP hD hS 0 0 rfl rfl hi d_m122_13 (fun H locs hP hD hS => ?_)
        have hP : va_P (dC, dI) vwCl (w_Arrays_fillI cI cB cS cT a_p0I n_p0I (upd p0I_5 v2_5.toNatClampNeg p1)) H := hP
        have hD : va_D A (w_Arrays_fillI cI cB cS cT a_p0I n_p0I (upd p0I_5 v2_5.toNatClampNeg p1)) := hD
        refine lv_iinc (v := v2_5 + (1 : Int32)) (lv' := [(2, .int (v2_5 + (1 : Int32))), (0, .ref a_p0I), (1, .int p1), (3, .int v3_5)]) hx hb d_m122_14 hl (k := 2) rfl rfl (by decide) rfl (fun ls hl => ?_)
        refine lv_goto (tgt := 5) hx hb d_m122_17 (by decide) ?_
        exact ih (v2_5 + (1 : Int32)) (upd p0I_5 v2_5.toNatClampNeg p1) hf H locs ls hP hD hS (lv_sub hl [1, 2, 0, 3] rfl)
  have hgo : ∀ (H : Heap) (locs : List Loc), va_P (dC, dI) vwCl (w_Arrays_fillI cI cB cS cT a_p0I n_p0I p0I) H → va_S A s.heap H locs → W p l e (headSpec ws_m122 rm_Arrays_fillI).room s m args below meth c H locs 0 0 Q (F0 m 0 ls []) := by
    intro H locs hP hS
    unfold f_Arrays_fillI at hf
    refine lv_iconst (v := (0 : Int32)) hx hb d_m122_0 (by decide) ?_
    refine lv_istore_n (lv' := [(2, .int (0 : Int32)), (0, .ref a_p0I), (1, .int p1)]) hx hb d_m122_1 rfl hl (by decide) rfl (fun ls hl => ?_)
    refine lv_aload_n hx hb d_m122_2 rfl (lv_at hl 1 rfl) ?_
    refine va_alen (v := Int32.ofNat n_p0I) hx hb hK hP 0 0 rfl rfl rfl d_m122_3 ?_
    refine lv_istore_n (lv' := [(3, .int (Int32.ofNat n_p0I)), (2, .int (0 : Int32)), (0, .ref a_p0I), (1, .int p1)]) hx hb d_m122_4 rfl hl (by decide) rfl (fun ls hl => ?_)
    obtain ⟨z1, hz1, hf⟩ := ob_bind hf
    refine L5 (Int32.ofNat n_p0I) z1 ?_ N (0 : Int32) p0I hz1 H locs ls hP hD hS (lv_sub hl [2, 3, 1, 0] rfl)
    · intro H locs ls hP hD hS hl
      obtain rfl := Option.some.inj hf
      subst hQ
      subst hAe
      exact W.vret hx hb hr (fun t ht hW => ⟨⟨(), rfl, trivial, by rw [ht]; exact hP, hD⟩, hS.F ht⟩) hS.2.2 d_m122_20
  exact hgo _ _ hP hS
def f_Arrays_fillB_L5b (v3_5 : Int32) (n_p0B : Nat) (p1 : Int32) (N : Nat) (rec : (Int32 × (Nat → Int32)) → Option (Nat → Int32)) (v2_5 : Int32) (p0B_5 : Nat → Int32) : Option (Nat → Int32) :=
  if v3_5 ≤ v2_5 then
    some p0B_5
  else
    if v2_5 < 0 ∨ n_p0B ≤ v2_5.toNatClampNeg then none else
    rec (v2_5 + (1 : Int32), upd p0B_5 v2_5.toNatClampNeg (vp_nar .byte p1))
def f_Arrays_fillB_L5 (v3_5 : Int32) (n_p0B : Nat) (p1 : Int32) (N : Nat) (k : Nat) : (Int32 × (Nat → Int32)) → Option (Nat → Int32) := it (fun rec a => f_Arrays_fillB_L5b v3_5 n_p0B p1 N rec a.1 a.2) k
def f_Arrays_fillB (N : Nat) (p1 : Int32) (n_p0B : Nat) (p0B : Nat → Int32) : Option (Nat → Int32) :=
  (f_Arrays_fillB_L5 (Int32.ofNat n_p0B) n_p0B p1 N N ((0 : Int32), p0B)).bind fun z1 =>
    some z1
abbrev w_Arrays_fillB (cI cB cS cT : ClassId) (a_p0B : Nat) (n_p0B : Nat) (p0B : Nat → Int32) : va_W := [(a_p0B, .inl (cB, n_p0B, .inl p0B))]
def rm_Arrays_fillB : Room := { frames := 0, cells := 0, slots := 0, locals := 0 }
set_option maxHeartbeats 1000000 in
set_option maxRecDepth 100000 in
theorem c_Arrays_fillB (l : Launch) (dC : Nat → ClassId) (dI : Nat → Nat → Nat) (cI cB cS cT : ClassId) (N : Nat) (a_p0B : Nat) (n_p0B : Nat) (p0B : Nat → Int32) (p1 : Int32) (sz : Nat) (z : Nat → Int32) (hf : f_Arrays_fillB N p1 n_p0B p0B = some z) : Met l y_m487 ws_m487 rm_Arrays_fillB (gPre (dC, dI) [.ref a_p0B, .int p1] (gT cI cB cS cT) (w_Arrays_fillB cI cB cS cT a_p0B n_p0B p0B) sz) (gQv (dC, dI) (gT cI cB cS cT) (w_Arrays_fillB cI cB cS cT a_p0B n_p0B p0B) (w_Arrays_fillB cI cB cS cT a_p0B n_p0B z) sz) 0 0 (va_A (w_Arrays_fillB cI cB cS cT a_p0B n_p0B p0B) sz) := by
  refine Met.ofW (cc := prog_19_method_109_code) (maxL := 4) (ret := none) (by decide) rfl ?_
  intro p e s m args below meth c s₁ B hml hv
  obtain ⟨hargs, hsz, hP, hKN, hD0⟩ := hv
  have hK := hKN.1
  have hx := B.exec
  have hb := B.bytes
  have hr := B.returns
  have hts := atoms_spec (ws := ws_m487) B.pre
  have hown : s.vm.findClass "java/util/Arrays" = some m.cls := findClass_of_methodNamed B.named
  have hlocks := B.notSynchronized
  subst hsz
  have hD := hD0.self (sz := s.heap.size)
  obtain ⟨A, hAe⟩ : ∃ A : Nat → Prop, va_A (w_Arrays_fillB cI cB cS cT a_p0B n_p0B p0B) s.heap.size = A := ⟨_, rfl⟩
  rw [hAe] at hD
  have hA : ∀ q : Nat, s.heap.size ≤ q → A q := fun q h => by rw [← hAe]; exact Or.inr h
  have hS : va_S A s.heap s.heap [] := va_S.rf
  have hl := lv_entry ([.ref a_p0B, .int p1]) (n := 4) (Nat.le_of_ble_eq_true rfl)
  have hfr : entryFrame m args 4 = F0 m 0 ((lg_sl ([.ref a_p0B, .int p1]) ++ List.replicate (4 - (lg_sl ([.ref a_p0B, .int p1])).length) Slot.unset).toArray) [] := by rw [hargs]; exact lg_entry_eq _ _ _
  rw [hfr]
  generalize (lg_sl ([.ref a_p0B, .int p1]) ++ List.replicate (4 - (lg_sl ([.ref a_p0B, .int p1])).length) Slot.unset).toArray = ls at hl ⊢
  have hl : lv_has ls 4 [(0, .ref a_p0B), (1, .int p1)] := hl
  refine gen_Q (fun Q hQ => ?_)
  clear hfr
  have L5 : ∀ (v3_5 : Int32) (z : Nat → Int32), (GW (dC, dI) A p l e (headSpec ws_m487 rm_Arrays_fillB).room s m args below meth c 0 0 Q 4 20 (w_Arrays_fillB cI cB cS cT a_p0B n_p0B z) [] []) → ∀ (k : Nat) (v2_5 : Int32) (p0B_5 : Nat → Int32), f_Arrays_fillB_L5 v3_5 n_p0B p1 N k (v2_5, p0B_5) = some z → GW (dC, dI) A p l e (headSpec ws_m487 rm_Arrays_fillB).room s m args below meth c 0 0 Q 4 5 (w_Arrays_fillB cI cB cS cT a_p0B n_p0B p0B_5) [(0, .ref a_p0B), (1, .int p1), (2, .int v2_5), (3, .int v3_5)] [] := by
    intro v3_5 z hE0 k
    induction k with
    | zero =>
      intro v2_5 p0B_5 hf
      exact (it_zero hf).elim
    | succ k ih =>
      intro v2_5 p0B_5 hf H locs ls hP hD hS hl
      have hf : f_Arrays_fillB_L5b v3_5 n_p0B p1 N (f_Arrays_fillB_L5 v3_5 n_p0B p1 N k) v2_5 p0B_5 = some z := hf
      unfold f_Arrays_fillB_L5b at hf
      refine lv_iload_n hx hb d_m487_5 rfl (lv_at hl 2 rfl) ?_
      refine lv_iload_n hx hb d_m487_6 rfl (lv_at hl 3 rfl) ?_
      refine lv_icmp_ge (tgt := 20) hx hb d_m487_7 (by decide) (fun hc => ?_) (fun hc => ?_)
      · replace hf := (if_pos hc).symm.trans hf
        obtain rfl := Option.some.inj hf
        exact hE0  H locs ls hP hD hS (lv_sub hl [] rfl)
      · replace hf := (if_neg hc).symm.trans hf
        refine lv_aload_n hx hb d_m487_10 rfl (lv_at hl 0 rfl) ?_
        refine lv_iload_n hx hb d_m487_11 rfl (lv_at hl 2 rfl) ?_
        refine lv_iload_n hx hb d_m487_12 rfl (lv_at hl 1 rfl) ?_
        obtain ⟨hi, hf⟩ := ob_if hf
        refine va_bast hx hb hK hP hD hS 0 1 rfl rfl hi d_m487_13 (fun H locs hP hD hS => ?_)
        have hP : va_P (dC, dI) vwCl (w_Arrays_fillB cI cB cS cT a_p0B n_p0B (upd p0B_5 v2_5.toNatClampNeg (vp_nar .byte p1))) H := hP
        have hD : va_D A (w_Arrays_fillB cI cB cS cT a_p0B n_p0B (upd p0B_5 v2_5.toNatClampNeg (vp_nar .byte p1))) := hD
        refine lv_iinc (v := v2_5 + (1 : Int32)) (lv' := [(2, .int (v2_5 + (1 : Int32))), (0, .ref a_p0B), (1, .int p1), (3, .int v3_5)]) hx hb d_m487_14 hl (k := 2) rfl rfl (by decide) rfl (fun ls hl => ?_)
        refine lv_goto (tgt := 5) hx hb d_m487_17 (by decide) ?_
        exact ih (v2_5 + (1 : Int32)) (upd p0B_5 v2_5.toNatClampNeg (vp_nar .byte p1)) hf H locs ls hP hD hS (lv_sub hl [1, 2, 0, 3] rfl)
  have hgo : ∀ (H : Heap) (locs : List Loc), va_P (dC, dI) vwCl (w_Arrays_fillB cI cB cS cT a_p0B n_p0B p0B) H → va_S A s.heap H locs → W p l e (headSpec ws_m487 rm_Arrays_fillB).room s m args below meth c H locs 0 0 Q (F0 m 0 ls []) := by
    intro H locs hP hS
    unfold f_Arrays_fillB at hf
    refine lv_iconst (v := (0 : Int32)) hx hb d_m487_0 (by decide) ?_
    refine lv_istore_n (lv' := [(2, .int (0 : Int32)), (0, .ref a_p0B), (1, .int p1)]) hx hb d_m487_1 rfl hl (by decide) rfl (fun ls hl => ?_)
    refine lv_aload_n hx hb d_m487_2 rfl (lv_at hl 1 rfl) ?_
    refine va_alen (v := Int32.ofNat n_p0B) hx hb hK hP 0 1 rfl rfl rfl d_m487_3 ?_
    refine lv_istore_n (lv' := [(3, .int (Int32.ofNat n_p0B)), (2, .int (0 : Int32)), (0, .ref a_p0B), (1, .int p1)]) hx hb d_m487_4 rfl hl (by decide) rfl (fun ls hl => ?_)
    obtain ⟨z1, hz1, hf⟩ := ob_bind hf
    refine L5 (Int32.ofNat n_p0B) z1 ?_ N (0 : Int32) p0B hz1 H locs ls hP hD hS (lv_sub hl [2, 3, 1, 0] rfl)
    · intro H locs ls hP hD hS hl
      obtain rfl := Option.some.inj hf
      subst hQ
      subst hAe
      exact W.vret hx hb hr (fun t ht hW => ⟨⟨(), rfl, trivial, by rw [ht]; exact hP, hD⟩, hS.F ht⟩) hS.2.2 d_m487_20
  exact hgo _ _ hP hS
def f_Arrays_fillS_L5b (v3_5 : Int32) (n_p0S : Nat) (p1 : Int32) (N : Nat) (rec : (Int32 × (Nat → Int32)) → Option (Nat → Int32)) (v2_5 : Int32) (p0S_5 : Nat → Int32) : Option (Nat → Int32) :=
  if v3_5 ≤ v2_5 then
    some p0S_5
  else
    if v2_5 < 0 ∨ n_p0S ≤ v2_5.toNatClampNeg then none else
    rec (v2_5 + (1 : Int32), upd p0S_5 v2_5.toNatClampNeg (vp_nar .short p1))
def f_Arrays_fillS_L5 (v3_5 : Int32) (n_p0S : Nat) (p1 : Int32) (N : Nat) (k : Nat) : (Int32 × (Nat → Int32)) → Option (Nat → Int32) := it (fun rec a => f_Arrays_fillS_L5b v3_5 n_p0S p1 N rec a.1 a.2) k
def f_Arrays_fillS (N : Nat) (p1 : Int32) (n_p0S : Nat) (p0S : Nat → Int32) : Option (Nat → Int32) :=
  (f_Arrays_fillS_L5 (Int32.ofNat n_p0S) n_p0S p1 N N ((0 : Int32), p0S)).bind fun z1 =>
    some z1
abbrev w_Arrays_fillS (cI cB cS cT : ClassId) (a_p0S : Nat) (n_p0S : Nat) (p0S : Nat → Int32) : va_W := [(a_p0S, .inl (cS, n_p0S, .inl p0S))]
def rm_Arrays_fillS : Room := { frames := 0, cells := 0, slots := 0, locals := 0 }
set_option maxHeartbeats 1000000 in
set_option maxRecDepth 100000 in
theorem c_Arrays_fillS (l : Launch) (dC : Nat → ClassId) (dI : Nat → Nat → Nat) (cI cB cS cT : ClassId) (N : Nat) (a_p0S : Nat) (n_p0S : Nat) (p0S : Nat → Int32) (p1 : Int32) (sz : Nat) (z : Nat → Int32) (hf : f_Arrays_fillS N p1 n_p0S p0S = some z) : Met l y_m57 ws_m57 rm_Arrays_fillS (gPre (dC, dI) [.ref a_p0S, .int p1] (gT cI cB cS cT) (w_Arrays_fillS cI cB cS cT a_p0S n_p0S p0S) sz) (gQv (dC, dI) (gT cI cB cS cT) (w_Arrays_fillS cI cB cS cT a_p0S n_p0S p0S) (w_Arrays_fillS cI cB cS cT a_p0S n_p0S z) sz) 0 0 (va_A (w_Arrays_fillS cI cB cS cT a_p0S n_p0S p0S) sz) := by
  refine Met.ofW (cc := prog_19_method_105_code) (maxL := 4) (ret := none) (by decide) rfl ?_
  intro p e s m args below meth c s₁ B hml hv
  obtain ⟨hargs, hsz, hP, hKN, hD0⟩ := hv
  have hK := hKN.1
  have hx := B.exec
  have hb := B.bytes
  have hr := B.returns
  have hts := atoms_spec (ws := ws_m57) B.pre
  have hown : s.vm.findClass "java/util/Arrays" = some m.cls := findClass_of_methodNamed B.named
  have hlocks := B.notSynchronized
  subst hsz
  have hD := hD0.self (sz := s.heap.size)
  obtain ⟨A, hAe⟩ : ∃ A : Nat → Prop, va_A (w_Arrays_fillS cI cB cS cT a_p0S n_p0S p0S) s.heap.size = A := ⟨_, rfl⟩
  rw [hAe] at hD
  have hA : ∀ q : Nat, s.heap.size ≤ q → A q := fun q h => by rw [← hAe]; exact Or.inr h
  have hS : va_S A s.heap s.heap [] := va_S.rf
  have hl := lv_entry ([.ref a_p0S, .int p1]) (n := 4) (Nat.le_of_ble_eq_true rfl)
  have hfr : entryFrame m args 4 = F0 m 0 ((lg_sl ([.ref a_p0S, .int p1]) ++ List.replicate (4 - (lg_sl ([.ref a_p0S, .int p1])).length) Slot.unset).toArray) [] := by rw [hargs]; exact lg_entry_eq _ _ _
  rw [hfr]
  generalize (lg_sl ([.ref a_p0S, .int p1]) ++ List.replicate (4 - (lg_sl ([.ref a_p0S, .int p1])).length) Slot.unset).toArray = ls at hl ⊢
  have hl : lv_has ls 4 [(0, .ref a_p0S), (1, .int p1)] := hl
  refine gen_Q (fun Q hQ => ?_)
  clear hfr
  have L5 : ∀ (v3_5 : Int32) (z : Nat → Int32), (GW (dC, dI) A p l e (headSpec ws_m57 rm_Arrays_fillS).room s m args below meth c 0 0 Q 4 20 (w_Arrays_fillS cI cB cS cT a_p0S n_p0S z) [] []) → ∀ (k : Nat) (v2_5 : Int32) (p0S_5 : Nat → Int32), f_Arrays_fillS_L5 v3_5 n_p0S p1 N k (v2_5, p0S_5) = some z → GW (dC, dI) A p l e (headSpec ws_m57 rm_Arrays_fillS).room s m args below meth c 0 0 Q 4 5 (w_Arrays_fillS cI cB cS cT a_p0S n_p0S p0S_5) [(0, .ref a_p0S), (1, .int p1), (2, .int v2_5), (3, .int v3_5)] [] := by
    intro v3_5 z hE0 k
    induction k with
    | zero =>
      intro v2_5 p0S_5 hf
      exact (it_zero hf).elim
    | succ k ih =>
      intro v2_5 p0S_5 hf H locs ls hP hD hS hl
      have hf : f_Arrays_fillS_L5b v3_5 n_p0S p1 N (f_Arrays_fillS_L5 v3_5 n_p0S p1 N k) v2_5 p0S_5 = some z := hf
      unfold f_Arrays_fillS_L5b at hf
      refine lv_iload_n hx hb d_m57_5 rfl (lv_at hl 2 rfl) ?_
      refine lv_iload_n hx hb d_m57_6 rfl (lv_at hl 3 rfl) ?_
      refine lv_icmp_ge (tgt := 20) hx hb d_m57_7 (by decide) (fun hc => ?_) (fun hc => ?_)
      · replace hf := (if_pos hc).symm.trans hf
        obtain rfl := Option.some.inj hf
        exact hE0  H locs ls hP hD hS (lv_sub hl [] rfl)
      · replace hf := (if_neg hc).symm.trans hf
        refine lv_aload_n hx hb d_m57_10 rfl (lv_at hl 0 rfl) ?_
        refine lv_iload_n hx hb d_m57_11 rfl (lv_at hl 2 rfl) ?_
        refine lv_iload_n hx hb d_m57_12 rfl (lv_at hl 1 rfl) ?_
        obtain ⟨hi, hf⟩ := ob_if hf
        refine va_sast hx hb hK hP hD hS 0 2 rfl rfl hi d_m57_13 (fun H locs hP hD hS => ?_)
        have hP : va_P (dC, dI) vwCl (w_Arrays_fillS cI cB cS cT a_p0S n_p0S (upd p0S_5 v2_5.toNatClampNeg (vp_nar .short p1))) H := hP
        have hD : va_D A (w_Arrays_fillS cI cB cS cT a_p0S n_p0S (upd p0S_5 v2_5.toNatClampNeg (vp_nar .short p1))) := hD
        refine lv_iinc (v := v2_5 + (1 : Int32)) (lv' := [(2, .int (v2_5 + (1 : Int32))), (0, .ref a_p0S), (1, .int p1), (3, .int v3_5)]) hx hb d_m57_14 hl (k := 2) rfl rfl (by decide) rfl (fun ls hl => ?_)
        refine lv_goto (tgt := 5) hx hb d_m57_17 (by decide) ?_
        exact ih (v2_5 + (1 : Int32)) (upd p0S_5 v2_5.toNatClampNeg (vp_nar .short p1)) hf H locs ls hP hD hS (lv_sub hl [1, 2, 0, 3] rfl)
  have hgo : ∀ (H : Heap) (locs : List Loc), va_P (dC, dI) vwCl (w_Arrays_fillS cI cB cS cT a_p0S n_p0S p0S) H → va_S A s.heap H locs → W p l e (headSpec ws_m57 rm_Arrays_fillS).room s m args below meth c H locs 0 0 Q (F0 m 0 ls []) := by
    intro H locs hP hS
    unfold f_Arrays_fillS at hf
    refine lv_iconst (v := (0 : Int32)) hx hb d_m57_0 (by decide) ?_
    refine lv_istore_n (lv' := [(2, .int (0 : Int32)), (0, .ref a_p0S), (1, .int p1)]) hx hb d_m57_1 rfl hl (by decide) rfl (fun ls hl => ?_)
    refine lv_aload_n hx hb d_m57_2 rfl (lv_at hl 1 rfl) ?_
    refine va_alen (v := Int32.ofNat n_p0S) hx hb hK hP 0 2 rfl rfl rfl d_m57_3 ?_
    refine lv_istore_n (lv' := [(3, .int (Int32.ofNat n_p0S)), (2, .int (0 : Int32)), (0, .ref a_p0S), (1, .int p1)]) hx hb d_m57_4 rfl hl (by decide) rfl (fun ls hl => ?_)
    obtain ⟨z1, hz1, hf⟩ := ob_bind hf
    refine L5 (Int32.ofNat n_p0S) z1 ?_ N (0 : Int32) p0S hz1 H locs ls hP hD hS (lv_sub hl [2, 3, 1, 0] rfl)
    · intro H locs ls hP hD hS hl
      obtain rfl := Option.some.inj hf
      subst hQ
      subst hAe
      exact W.vret hx hb hr (fun t ht hW => ⟨⟨(), rfl, trivial, by rw [ht]; exact hP, hD⟩, hS.F ht⟩) hS.2.2 d_m57_20
  exact hgo _ _ hP hS

def f_Integer_bitCount (p0 : Int32) : Option (Int32) :=
  some ((((((((p0 - (((p0.toUInt32 >>> ((1 : Int32).toUInt32 &&& Int32.toUInt32 31)).toInt32) &&& (1431655765 : Int32))) &&& (858993459 : Int32)) + ((((p0 - (((p0.toUInt32 >>> ((1 : Int32).toUInt32 &&& Int32.toUInt32 31)).toInt32) &&& (1431655765 : Int32))).toUInt32 >>> ((2 : Int32).toUInt32 &&& Int32.toUInt32 31)).toInt32) &&& (858993459 : Int32))) + (((((p0 - (((p0.toUInt32 >>> ((1 : Int32).toUInt32 &&& Int32.toUInt32 31)).toInt32) &&& (1431655765 : Int32))) &&& (858993459 : Int32)) + ((((p0 - (((p0.toUInt32 >>> ((1 : Int32).toUInt32 &&& Int32.toUInt32 31)).toInt32) &&& (1431655765 : Int32))).toUInt32 >>> ((2 : Int32).toUInt32 &&& Int32.toUInt32 31)).toInt32) &&& (858993459 : Int32))).toUInt32 >>> ((4 : Int32).toUInt32 &&& Int32.toUInt32 31)).toInt32)) &&& (252645135 : Int32)) + (((((((p0 - (((p0.toUInt32 >>> ((1 : Int32).toUInt32 &&& Int32.toUInt32 31)).toInt32) &&& (1431655765 : Int32))) &&& (858993459 : Int32)) + ((((p0 - (((p0.toUInt32 >>> ((1 : Int32).toUInt32 &&& Int32.toUInt32 31)).toInt32) &&& (1431655765 : Int32))).toUInt32 >>> ((2 : Int32).toUInt32 &&& Int32.toUInt32 31)).toInt32) &&& (858993459 : Int32))) + (((((p0 - (((p0.toUInt32 >>> ((1 : Int32).toUInt32 &&& Int32.toUInt32 31)).toInt32) &&& (1431655765 : Int32))) &&& (858993459 : Int32)) + ((((p0 - (((p0.toUInt32 >>> ((1 : Int32).toUInt32 &&& Int32.toUInt32 31)).toInt32) &&& (1431655765 : Int32))).toUInt32 >>> ((2 : Int32).toUInt32 &&& Int32.toUInt32 31)).toInt32) &&& (858993459 : Int32))).toUInt32 >>> ((4 : Int32).toUInt32 &&& Int32.toUInt32 31)).toInt32)) &&& (252645135 : Int32)).toUInt32 >>> ((8 : Int32).toUInt32 &&& Int32.toUInt32 31)).toInt32)) + ((((((((p0 - (((p0.toUInt32 >>> ((1 : Int32).toUInt32 &&& Int32.toUInt32 31)).toInt32) &&& (1431655765 : Int32))) &&& (858993459 : Int32)) + ((((p0 - (((p0.toUInt32 >>> ((1 : Int32).toUInt32 &&& Int32.toUInt32 31)).toInt32) &&& (1431655765 : Int32))).toUInt32 >>> ((2 : Int32).toUInt32 &&& Int32.toUInt32 31)).toInt32) &&& (858993459 : Int32))) + (((((p0 - (((p0.toUInt32 >>> ((1 : Int32).toUInt32 &&& Int32.toUInt32 31)).toInt32) &&& (1431655765 : Int32))) &&& (858993459 : Int32)) + ((((p0 - (((p0.toUInt32 >>> ((1 : Int32).toUInt32 &&& Int32.toUInt32 31)).toInt32) &&& (1431655765 : Int32))).toUInt32 >>> ((2 : Int32).toUInt32 &&& Int32.toUInt32 31)).toInt32) &&& (858993459 : Int32))).toUInt32 >>> ((4 : Int32).toUInt32 &&& Int32.toUInt32 31)).toInt32)) &&& (252645135 : Int32)) + (((((((p0 - (((p0.toUInt32 >>> ((1 : Int32).toUInt32 &&& Int32.toUInt32 31)).toInt32) &&& (1431655765 : Int32))) &&& (858993459 : Int32)) + ((((p0 - (((p0.toUInt32 >>> ((1 : Int32).toUInt32 &&& Int32.toUInt32 31)).toInt32) &&& (1431655765 : Int32))).toUInt32 >>> ((2 : Int32).toUInt32 &&& Int32.toUInt32 31)).toInt32) &&& (858993459 : Int32))) + (((((p0 - (((p0.toUInt32 >>> ((1 : Int32).toUInt32 &&& Int32.toUInt32 31)).toInt32) &&& (1431655765 : Int32))) &&& (858993459 : Int32)) + ((((p0 - (((p0.toUInt32 >>> ((1 : Int32).toUInt32 &&& Int32.toUInt32 31)).toInt32) &&& (1431655765 : Int32))).toUInt32 >>> ((2 : Int32).toUInt32 &&& Int32.toUInt32 31)).toInt32) &&& (858993459 : Int32))).toUInt32 >>> ((4 : Int32).toUInt32 &&& Int32.toUInt32 31)).toInt32)) &&& (252645135 : Int32)).toUInt32 >>> ((8 : Int32).toUInt32 &&& Int32.toUInt32 31)).toInt32)).toUInt32 >>> ((16 : Int32).toUInt32 &&& Int32.toUInt32 31)).toInt32)) &&& (63 : Int32))
abbrev w_Integer_bitCount (cI cB cS cT : ClassId)  : va_W := []
def rm_Integer_bitCount : Room := { frames := 0, cells := 0, slots := 0, locals := 0 }
set_option maxHeartbeats 1000000 in
set_option maxRecDepth 100000 in
theorem c_Integer_bitCount (l : Launch) (dC : Nat → ClassId) (dI : Nat → Nat → Nat) (cI cB cS cT : ClassId) (p0 : Int32) (z : Int32) (hf : f_Integer_bitCount p0 = some z) : Met l y_m133 ws_m133 rm_Integer_bitCount (gPreP (dC, dI) [.int p0] (gT cI cB cS cT) (w_Integer_bitCount cI cB cS cT)) (vp_Si (fun r => r = z)) 0 0 (fun _ => False) := by
  refine Met.ofW (cc := prog_16_method_49_code) (maxL := 1) (ret := (some .int)) (by decide) rfl ?_
  intro p e s m args below meth c s₁ B hml hv
  obtain ⟨hargs, hP, hKN⟩ := hv
  have hK := hKN.1
  have hx := B.exec
  have hb := B.bytes
  have hr := B.returns
  have hts := atoms_spec (ws := ws_m133) B.pre
  have hown : s.vm.findClass "java/lang/Integer" = some m.cls := findClass_of_methodNamed B.named
  have hlocks := B.notSynchronized
  have k0 := hts _ (List.mem_cons_of_mem _ tw_134)
  have k1 := hts _ (List.mem_cons_of_mem _ tw_135)
  have k2 := hts _ (List.mem_cons_of_mem _ tw_136)
  have hl := lv_entry ([.int p0]) (n := 1) (Nat.le_of_ble_eq_true rfl)
  have hfr : entryFrame m args 1 = F0 m 0 ((lg_sl ([.int p0]) ++ List.replicate (1 - (lg_sl ([.int p0])).length) Slot.unset).toArray) [] := by rw [hargs]; exact lg_entry_eq _ _ _
  rw [hfr]
  generalize (lg_sl ([.int p0]) ++ List.replicate (1 - (lg_sl ([.int p0])).length) Slot.unset).toArray = ls at hl ⊢
  have hl : lv_has ls 1 [(0, .int p0)] := hl
  refine gen_Q (fun Q hQ => ?_)
  clear hfr
  unfold f_Integer_bitCount at hf
  refine lv_iload_n hx hb d_m133_0 rfl (lv_at hl 0 rfl) ?_
  refine lv_iload_n hx hb d_m133_1 rfl (lv_at hl 0 rfl) ?_
  refine lv_iconst (v := (1 : Int32)) hx hb d_m133_2 (by decide) ?_
  refine lv_iushr hx hb d_m133_3 rfl ?_
  refine lv_ldcw (v := (1431655765 : Int32)) hx hb hown k0 d_m133_4 ?_
  refine lv_iand hx hb d_m133_7 ?_
  refine lv_isub hx hb d_m133_8 ?_
  refine lv_istore_n (lv' := [(0, .int (p0 - (((p0.toUInt32 >>> ((1 : Int32).toUInt32 &&& Int32.toUInt32 31)).toInt32) &&& (1431655765 : Int32))))]) hx hb d_m133_9 rfl hl (by decide) rfl (fun ls hl => ?_)
  refine lv_iload_n hx hb d_m133_10 rfl (lv_at hl 0 rfl) ?_
  refine lv_ldcw (v := (858993459 : Int32)) hx hb hown k1 d_m133_11 ?_
  refine lv_iand hx hb d_m133_14 ?_
  refine lv_iload_n hx hb d_m133_15 rfl (lv_at hl 0 rfl) ?_
  refine lv_iconst (v := (2 : Int32)) hx hb d_m133_16 (by decide) ?_
  refine lv_iushr hx hb d_m133_17 rfl ?_
  refine lv_ldcw (v := (858993459 : Int32)) hx hb hown k1 d_m133_18 ?_
  refine lv_iand hx hb d_m133_21 ?_
  refine lv_iadd hx hb d_m133_22 ?_
  refine lv_istore_n (lv' := [(0, .int (((p0 - (((p0.toUInt32 >>> ((1 : Int32).toUInt32 &&& Int32.toUInt32 31)).toInt32) &&& (1431655765 : Int32))) &&& (858993459 : Int32)) + ((((p0 - (((p0.toUInt32 >>> ((1 : Int32).toUInt32 &&& Int32.toUInt32 31)).toInt32) &&& (1431655765 : Int32))).toUInt32 >>> ((2 : Int32).toUInt32 &&& Int32.toUInt32 31)).toInt32) &&& (858993459 : Int32))))]) hx hb d_m133_23 rfl hl (by decide) rfl (fun ls hl => ?_)
  refine lv_iload_n hx hb d_m133_24 rfl (lv_at hl 0 rfl) ?_
  refine lv_iload_n hx hb d_m133_25 rfl (lv_at hl 0 rfl) ?_
  refine lv_iconst (v := (4 : Int32)) hx hb d_m133_26 (by decide) ?_
  refine lv_iushr hx hb d_m133_27 rfl ?_
  refine lv_iadd hx hb d_m133_28 ?_
  refine lv_ldcw (v := (252645135 : Int32)) hx hb hown k2 d_m133_29 ?_
  refine lv_iand hx hb d_m133_32 ?_
  refine lv_istore_n (lv' := [(0, .int (((((p0 - (((p0.toUInt32 >>> ((1 : Int32).toUInt32 &&& Int32.toUInt32 31)).toInt32) &&& (1431655765 : Int32))) &&& (858993459 : Int32)) + ((((p0 - (((p0.toUInt32 >>> ((1 : Int32).toUInt32 &&& Int32.toUInt32 31)).toInt32) &&& (1431655765 : Int32))).toUInt32 >>> ((2 : Int32).toUInt32 &&& Int32.toUInt32 31)).toInt32) &&& (858993459 : Int32))) + (((((p0 - (((p0.toUInt32 >>> ((1 : Int32).toUInt32 &&& Int32.toUInt32 31)).toInt32) &&& (1431655765 : Int32))) &&& (858993459 : Int32)) + ((((p0 - (((p0.toUInt32 >>> ((1 : Int32).toUInt32 &&& Int32.toUInt32 31)).toInt32) &&& (1431655765 : Int32))).toUInt32 >>> ((2 : Int32).toUInt32 &&& Int32.toUInt32 31)).toInt32) &&& (858993459 : Int32))).toUInt32 >>> ((4 : Int32).toUInt32 &&& Int32.toUInt32 31)).toInt32)) &&& (252645135 : Int32)))]) hx hb d_m133_33 rfl hl (by decide) rfl (fun ls hl => ?_)
  refine lv_iload_n hx hb d_m133_34 rfl (lv_at hl 0 rfl) ?_
  refine lv_iload_n hx hb d_m133_35 rfl (lv_at hl 0 rfl) ?_
  refine lv_bipush (v := (8 : Int32)) hx hb d_m133_36 (by decide) ?_
  refine lv_iushr hx hb d_m133_38 rfl ?_
  refine lv_iadd hx hb d_m133_39 ?_
  refine lv_istore_n (lv' := [(0, .int ((((((p0 - (((p0.toUInt32 >>> ((1 : Int32).toUInt32 &&& Int32.toUInt32 31)).toInt32) &&& (1431655765 : Int32))) &&& (858993459 : Int32)) + ((((p0 - (((p0.toUInt32 >>> ((1 : Int32).toUInt32 &&& Int32.toUInt32 31)).toInt32) &&& (1431655765 : Int32))).toUInt32 >>> ((2 : Int32).toUInt32 &&& Int32.toUInt32 31)).toInt32) &&& (858993459 : Int32))) + (((((p0 - (((p0.toUInt32 >>> ((1 : Int32).toUInt32 &&& Int32.toUInt32 31)).toInt32) &&& (1431655765 : Int32))) &&& (858993459 : Int32)) + ((((p0 - (((p0.toUInt32 >>> ((1 : Int32).toUInt32 &&& Int32.toUInt32 31)).toInt32) &&& (1431655765 : Int32))).toUInt32 >>> ((2 : Int32).toUInt32 &&& Int32.toUInt32 31)).toInt32) &&& (858993459 : Int32))).toUInt32 >>> ((4 : Int32).toUInt32 &&& Int32.toUInt32 31)).toInt32)) &&& (252645135 : Int32)) + (((((((p0 - (((p0.toUInt32 >>> ((1 : Int32).toUInt32 &&& Int32.toUInt32 31)).toInt32) &&& (1431655765 : Int32))) &&& (858993459 : Int32)) + ((((p0 - (((p0.toUInt32 >>> ((1 : Int32).toUInt32 &&& Int32.toUInt32 31)).toInt32) &&& (1431655765 : Int32))).toUInt32 >>> ((2 : Int32).toUInt32 &&& Int32.toUInt32 31)).toInt32) &&& (858993459 : Int32))) + (((((p0 - (((p0.toUInt32 >>> ((1 : Int32).toUInt32 &&& Int32.toUInt32 31)).toInt32) &&& (1431655765 : Int32))) &&& (858993459 : Int32)) + ((((p0 - (((p0.toUInt32 >>> ((1 : Int32).toUInt32 &&& Int32.toUInt32 31)).toInt32) &&& (1431655765 : Int32))).toUInt32 >>> ((2 : Int32).toUInt32 &&& Int32.toUInt32 31)).toInt32) &&& (858993459 : Int32))).toUInt32 >>> ((4 : Int32).toUInt32 &&& Int32.toUInt32 31)).toInt32)) &&& (252645135 : Int32)).toUInt32 >>> ((8 : Int32).toUInt32 &&& Int32.toUInt32 31)).toInt32)))]) hx hb d_m133_40 rfl hl (by decide) rfl (fun ls hl => ?_)
  refine lv_iload_n hx hb d_m133_41 rfl (lv_at hl 0 rfl) ?_
  refine lv_iload_n hx hb d_m133_42 rfl (lv_at hl 0 rfl) ?_
  refine lv_bipush (v := (16 : Int32)) hx hb d_m133_43 (by decide) ?_
  refine lv_iushr hx hb d_m133_45 rfl ?_
  refine lv_iadd hx hb d_m133_46 ?_
  refine lv_istore_n (lv' := [(0, .int (((((((p0 - (((p0.toUInt32 >>> ((1 : Int32).toUInt32 &&& Int32.toUInt32 31)).toInt32) &&& (1431655765 : Int32))) &&& (858993459 : Int32)) + ((((p0 - (((p0.toUInt32 >>> ((1 : Int32).toUInt32 &&& Int32.toUInt32 31)).toInt32) &&& (1431655765 : Int32))).toUInt32 >>> ((2 : Int32).toUInt32 &&& Int32.toUInt32 31)).toInt32) &&& (858993459 : Int32))) + (((((p0 - (((p0.toUInt32 >>> ((1 : Int32).toUInt32 &&& Int32.toUInt32 31)).toInt32) &&& (1431655765 : Int32))) &&& (858993459 : Int32)) + ((((p0 - (((p0.toUInt32 >>> ((1 : Int32).toUInt32 &&& Int32.toUInt32 31)).toInt32) &&& (1431655765 : Int32))).toUInt32 >>> ((2 : Int32).toUInt32 &&& Int32.toUInt32 31)).toInt32) &&& (858993459 : Int32))).toUInt32 >>> ((4 : Int32).toUInt32 &&& Int32.toUInt32 31)).toInt32)) &&& (252645135 : Int32)) + (((((((p0 - (((p0.toUInt32 >>> ((1 : Int32).toUInt32 &&& Int32.toUInt32 31)).toInt32) &&& (1431655765 : Int32))) &&& (858993459 : Int32)) + ((((p0 - (((p0.toUInt32 >>> ((1 : Int32).toUInt32 &&& Int32.toUInt32 31)).toInt32) &&& (1431655765 : Int32))).toUInt32 >>> ((2 : Int32).toUInt32 &&& Int32.toUInt32 31)).toInt32) &&& (858993459 : Int32))) + (((((p0 - (((p0.toUInt32 >>> ((1 : Int32).toUInt32 &&& Int32.toUInt32 31)).toInt32) &&& (1431655765 : Int32))) &&& (858993459 : Int32)) + ((((p0 - (((p0.toUInt32 >>> ((1 : Int32).toUInt32 &&& Int32.toUInt32 31)).toInt32) &&& (1431655765 : Int32))).toUInt32 >>> ((2 : Int32).toUInt32 &&& Int32.toUInt32 31)).toInt32) &&& (858993459 : Int32))).toUInt32 >>> ((4 : Int32).toUInt32 &&& Int32.toUInt32 31)).toInt32)) &&& (252645135 : Int32)).toUInt32 >>> ((8 : Int32).toUInt32 &&& Int32.toUInt32 31)).toInt32)) + ((((((((p0 - (((p0.toUInt32 >>> ((1 : Int32).toUInt32 &&& Int32.toUInt32 31)).toInt32) &&& (1431655765 : Int32))) &&& (858993459 : Int32)) + ((((p0 - (((p0.toUInt32 >>> ((1 : Int32).toUInt32 &&& Int32.toUInt32 31)).toInt32) &&& (1431655765 : Int32))).toUInt32 >>> ((2 : Int32).toUInt32 &&& Int32.toUInt32 31)).toInt32) &&& (858993459 : Int32))) + (((((p0 - (((p0.toUInt32 >>> ((1 : Int32).toUInt32 &&& Int32.toUInt32 31)).toInt32) &&& (1431655765 : Int32))) &&& (858993459 : Int32)) + ((((p0 - (((p0.toUInt32 >>> ((1 : Int32).toUInt32 &&& Int32.toUInt32 31)).toInt32) &&& (1431655765 : Int32))).toUInt32 >>> ((2 : Int32).toUInt32 &&& Int32.toUInt32 31)).toInt32) &&& (858993459 : Int32))).toUInt32 >>> ((4 : Int32).toUInt32 &&& Int32.toUInt32 31)).toInt32)) &&& (252645135 : Int32)) + (((((((p0 - (((p0.toUInt32 >>> ((1 : Int32).toUInt32 &&& Int32.toUInt32 31)).toInt32) &&& (1431655765 : Int32))) &&& (858993459 : Int32)) + ((((p0 - (((p0.toUInt32 >>> ((1 : Int32).toUInt32 &&& Int32.toUInt32 31)).toInt32) &&& (1431655765 : Int32))).toUInt32 >>> ((2 : Int32).toUInt32 &&& Int32.toUInt32 31)).toInt32) &&& (858993459 : Int32))) + (((((p0 - (((p0.toUInt32 >>> ((1 : Int32).toUInt32 &&& Int32.toUInt32 31)).toInt32) &&& (1431655765 : Int32))) &&& (858993459 : Int32)) + ((((p0 - (((p0.toUInt32 >>> ((1 : Int32).toUInt32 &&& Int32.toUInt32 31)).toInt32) &&& (1431655765 : Int32))).toUInt32 >>> ((2 : Int32).toUInt32 &&& Int32.toUInt32 31)).toInt32) &&& (858993459 : Int32))).toUInt32 >>> ((4 : Int32).toUInt32 &&& Int32.toUInt32 31)).toInt32)) &&& (252645135 : Int32)).toUInt32 >>> ((8 : Int32).toUInt32 &&& Int32.toUInt32 31)).toInt32)).toUInt32 >>> ((16 : Int32).toUInt32 &&& Int32.toUInt32 31)).toInt32)))]) hx hb d_m133_47 rfl hl (by decide) rfl (fun ls hl => ?_)
  refine lv_iload_n hx hb d_m133_48 rfl (lv_at hl 0 rfl) ?_
  refine lv_bipush (v := (63 : Int32)) hx hb d_m133_49 (by decide) ?_
  refine lv_iand hx hb d_m133_51 ?_
  obtain rfl := Option.some.inj hf
  subst hQ
  exact W.iret (v := (((((((p0 - (((p0.toUInt32 >>> ((1 : Int32).toUInt32 &&& Int32.toUInt32 31)).toInt32) &&& (1431655765 : Int32))) &&& (858993459 : Int32)) + ((((p0 - (((p0.toUInt32 >>> ((1 : Int32).toUInt32 &&& Int32.toUInt32 31)).toInt32) &&& (1431655765 : Int32))).toUInt32 >>> ((2 : Int32).toUInt32 &&& Int32.toUInt32 31)).toInt32) &&& (858993459 : Int32))) + (((((p0 - (((p0.toUInt32 >>> ((1 : Int32).toUInt32 &&& Int32.toUInt32 31)).toInt32) &&& (1431655765 : Int32))) &&& (858993459 : Int32)) + ((((p0 - (((p0.toUInt32 >>> ((1 : Int32).toUInt32 &&& Int32.toUInt32 31)).toInt32) &&& (1431655765 : Int32))).toUInt32 >>> ((2 : Int32).toUInt32 &&& Int32.toUInt32 31)).toInt32) &&& (858993459 : Int32))).toUInt32 >>> ((4 : Int32).toUInt32 &&& Int32.toUInt32 31)).toInt32)) &&& (252645135 : Int32)) + (((((((p0 - (((p0.toUInt32 >>> ((1 : Int32).toUInt32 &&& Int32.toUInt32 31)).toInt32) &&& (1431655765 : Int32))) &&& (858993459 : Int32)) + ((((p0 - (((p0.toUInt32 >>> ((1 : Int32).toUInt32 &&& Int32.toUInt32 31)).toInt32) &&& (1431655765 : Int32))).toUInt32 >>> ((2 : Int32).toUInt32 &&& Int32.toUInt32 31)).toInt32) &&& (858993459 : Int32))) + (((((p0 - (((p0.toUInt32 >>> ((1 : Int32).toUInt32 &&& Int32.toUInt32 31)).toInt32) &&& (1431655765 : Int32))) &&& (858993459 : Int32)) + ((((p0 - (((p0.toUInt32 >>> ((1 : Int32).toUInt32 &&& Int32.toUInt32 31)).toInt32) &&& (1431655765 : Int32))).toUInt32 >>> ((2 : Int32).toUInt32 &&& Int32.toUInt32 31)).toInt32) &&& (858993459 : Int32))).toUInt32 >>> ((4 : Int32).toUInt32 &&& Int32.toUInt32 31)).toInt32)) &&& (252645135 : Int32)).toUInt32 >>> ((8 : Int32).toUInt32 &&& Int32.toUInt32 31)).toInt32)) + ((((((((p0 - (((p0.toUInt32 >>> ((1 : Int32).toUInt32 &&& Int32.toUInt32 31)).toInt32) &&& (1431655765 : Int32))) &&& (858993459 : Int32)) + ((((p0 - (((p0.toUInt32 >>> ((1 : Int32).toUInt32 &&& Int32.toUInt32 31)).toInt32) &&& (1431655765 : Int32))).toUInt32 >>> ((2 : Int32).toUInt32 &&& Int32.toUInt32 31)).toInt32) &&& (858993459 : Int32))) + (((((p0 - (((p0.toUInt32 >>> ((1 : Int32).toUInt32 &&& Int32.toUInt32 31)).toInt32) &&& (1431655765 : Int32))) &&& (858993459 : Int32)) + ((((p0 - (((p0.toUInt32 >>> ((1 : Int32).toUInt32 &&& Int32.toUInt32 31)).toInt32) &&& (1431655765 : Int32))).toUInt32 >>> ((2 : Int32).toUInt32 &&& Int32.toUInt32 31)).toInt32) &&& (858993459 : Int32))).toUInt32 >>> ((4 : Int32).toUInt32 &&& Int32.toUInt32 31)).toInt32)) &&& (252645135 : Int32)) + (((((((p0 - (((p0.toUInt32 >>> ((1 : Int32).toUInt32 &&& Int32.toUInt32 31)).toInt32) &&& (1431655765 : Int32))) &&& (858993459 : Int32)) + ((((p0 - (((p0.toUInt32 >>> ((1 : Int32).toUInt32 &&& Int32.toUInt32 31)).toInt32) &&& (1431655765 : Int32))).toUInt32 >>> ((2 : Int32).toUInt32 &&& Int32.toUInt32 31)).toInt32) &&& (858993459 : Int32))) + (((((p0 - (((p0.toUInt32 >>> ((1 : Int32).toUInt32 &&& Int32.toUInt32 31)).toInt32) &&& (1431655765 : Int32))) &&& (858993459 : Int32)) + ((((p0 - (((p0.toUInt32 >>> ((1 : Int32).toUInt32 &&& Int32.toUInt32 31)).toInt32) &&& (1431655765 : Int32))).toUInt32 >>> ((2 : Int32).toUInt32 &&& Int32.toUInt32 31)).toInt32) &&& (858993459 : Int32))).toUInt32 >>> ((4 : Int32).toUInt32 &&& Int32.toUInt32 31)).toInt32)) &&& (252645135 : Int32)).toUInt32 >>> ((8 : Int32).toUInt32 &&& Int32.toUInt32 31)).toInt32)).toUInt32 >>> ((16 : Int32).toUInt32 &&& Int32.toUInt32 31)).toInt32)) &&& (63 : Int32)) hx hb hr (fun t ht hW => ⟨(((((((p0 - (((p0.toUInt32 >>> ((1 : Int32).toUInt32 &&& Int32.toUInt32 31)).toInt32) &&& (1431655765 : Int32))) &&& (858993459 : Int32)) + ((((p0 - (((p0.toUInt32 >>> ((1 : Int32).toUInt32 &&& Int32.toUInt32 31)).toInt32) &&& (1431655765 : Int32))).toUInt32 >>> ((2 : Int32).toUInt32 &&& Int32.toUInt32 31)).toInt32) &&& (858993459 : Int32))) + (((((p0 - (((p0.toUInt32 >>> ((1 : Int32).toUInt32 &&& Int32.toUInt32 31)).toInt32) &&& (1431655765 : Int32))) &&& (858993459 : Int32)) + ((((p0 - (((p0.toUInt32 >>> ((1 : Int32).toUInt32 &&& Int32.toUInt32 31)).toInt32) &&& (1431655765 : Int32))).toUInt32 >>> ((2 : Int32).toUInt32 &&& Int32.toUInt32 31)).toInt32) &&& (858993459 : Int32))).toUInt32 >>> ((4 : Int32).toUInt32 &&& Int32.toUInt32 31)).toInt32)) &&& (252645135 : Int32)) + (((((((p0 - (((p0.toUInt32 >>> ((1 : Int32).toUInt32 &&& Int32.toUInt32 31)).toInt32) &&& (1431655765 : Int32))) &&& (858993459 : Int32)) + ((((p0 - (((p0.toUInt32 >>> ((1 : Int32).toUInt32 &&& Int32.toUInt32 31)).toInt32) &&& (1431655765 : Int32))).toUInt32 >>> ((2 : Int32).toUInt32 &&& Int32.toUInt32 31)).toInt32) &&& (858993459 : Int32))) + (((((p0 - (((p0.toUInt32 >>> ((1 : Int32).toUInt32 &&& Int32.toUInt32 31)).toInt32) &&& (1431655765 : Int32))) &&& (858993459 : Int32)) + ((((p0 - (((p0.toUInt32 >>> ((1 : Int32).toUInt32 &&& Int32.toUInt32 31)).toInt32) &&& (1431655765 : Int32))).toUInt32 >>> ((2 : Int32).toUInt32 &&& Int32.toUInt32 31)).toInt32) &&& (858993459 : Int32))).toUInt32 >>> ((4 : Int32).toUInt32 &&& Int32.toUInt32 31)).toInt32)) &&& (252645135 : Int32)).toUInt32 >>> ((8 : Int32).toUInt32 &&& Int32.toUInt32 31)).toInt32)) + ((((((((p0 - (((p0.toUInt32 >>> ((1 : Int32).toUInt32 &&& Int32.toUInt32 31)).toInt32) &&& (1431655765 : Int32))) &&& (858993459 : Int32)) + ((((p0 - (((p0.toUInt32 >>> ((1 : Int32).toUInt32 &&& Int32.toUInt32 31)).toInt32) &&& (1431655765 : Int32))).toUInt32 >>> ((2 : Int32).toUInt32 &&& Int32.toUInt32 31)).toInt32) &&& (858993459 : Int32))) + (((((p0 - (((p0.toUInt32 >>> ((1 : Int32).toUInt32 &&& Int32.toUInt32 31)).toInt32) &&& (1431655765 : Int32))) &&& (858993459 : Int32)) + ((((p0 - (((p0.toUInt32 >>> ((1 : Int32).toUInt32 &&& Int32.toUInt32 31)).toInt32) &&& (1431655765 : Int32))).toUInt32 >>> ((2 : Int32).toUInt32 &&& Int32.toUInt32 31)).toInt32) &&& (858993459 : Int32))).toUInt32 >>> ((4 : Int32).toUInt32 &&& Int32.toUInt32 31)).toInt32)) &&& (252645135 : Int32)) + (((((((p0 - (((p0.toUInt32 >>> ((1 : Int32).toUInt32 &&& Int32.toUInt32 31)).toInt32) &&& (1431655765 : Int32))) &&& (858993459 : Int32)) + ((((p0 - (((p0.toUInt32 >>> ((1 : Int32).toUInt32 &&& Int32.toUInt32 31)).toInt32) &&& (1431655765 : Int32))).toUInt32 >>> ((2 : Int32).toUInt32 &&& Int32.toUInt32 31)).toInt32) &&& (858993459 : Int32))) + (((((p0 - (((p0.toUInt32 >>> ((1 : Int32).toUInt32 &&& Int32.toUInt32 31)).toInt32) &&& (1431655765 : Int32))) &&& (858993459 : Int32)) + ((((p0 - (((p0.toUInt32 >>> ((1 : Int32).toUInt32 &&& Int32.toUInt32 31)).toInt32) &&& (1431655765 : Int32))).toUInt32 >>> ((2 : Int32).toUInt32 &&& Int32.toUInt32 31)).toInt32) &&& (858993459 : Int32))).toUInt32 >>> ((4 : Int32).toUInt32 &&& Int32.toUInt32 31)).toInt32)) &&& (252645135 : Int32)).toUInt32 >>> ((8 : Int32).toUInt32 &&& Int32.toUInt32 31)).toInt32)).toUInt32 >>> ((16 : Int32).toUInt32 &&& Int32.toUInt32 31)).toInt32)) &&& (63 : Int32), rfl, rfl, ht⟩) (fun q h => by cases h) d_m133_52
def f_SC_sizeOf_L7b  (N : Nat) (rec : (Int32 × Int32) → Option (Int32)) (v1_7 : Int32) (v2_7 : Int32) : Option (Int32) :=
  if v2_7 ≤ 0 then
    some v1_7
  else
    rec (v1_7 + (1 : Int32), v2_7 >>> ((1 : Int32) &&& 31))
def f_SC_sizeOf_L7  (N : Nat) (k : Nat) : (Int32 × Int32) → Option (Int32) := it (fun rec a => f_SC_sizeOf_L7b  N rec a.1 a.2) k
def f_SC_sizeOf (N : Nat) (p0 : Int32) : Option (Int32) :=
  (f_SC_sizeOf_L7 N N ((0 : Int32), (if 0 ≤ p0 then p0 else 0 - p0))).bind fun z1 =>
    some z1
abbrev w_SC_sizeOf (cI cB cS cT : ClassId)  : va_W := []
def rm_SC_sizeOf : Room := { frames := 1, cells := 0, slots := 0, locals := 21 }
set_option maxHeartbeats 1000000 in
set_option maxRecDepth 100000 in
theorem c_SC_sizeOf (l : Launch) (dC : Nat → ClassId) (dI : Nat → Nat → Nat) (cI cB cS cT : ClassId) (N : Nat) (p0 : Int32) (z : Int32) (hf : f_SC_sizeOf N p0 = some z) : Met l y_m565 ws_m565 rm_SC_sizeOf (gPreP (dC, dI) [.int p0] (gT cI cB cS cT) (w_SC_sizeOf cI cB cS cT)) (vp_Si (fun r => r = z)) 0 0 (fun _ => False) := by
  refine Met.ofW (cc := prog_1_method_20_code) (maxL := 3) (ret := (some .int)) (by decide) rfl ?_
  intro p e s m args below meth c s₁ B hml hv
  obtain ⟨hargs, hP, hKN⟩ := hv
  have hK := hKN.1
  have hx := B.exec
  have hb := B.bytes
  have hr := B.returns
  have hts := atoms_spec (ws := ws_m565) B.pre
  have hown : s.vm.findClass "ScanCoder" = some m.cls := findClass_of_methodNamed B.named
  have hlocks := B.notSynchronized
  have k0 := hts _ (List.mem_cons_of_mem _ tw_566)
  have k1 := hts _ (List.mem_cons_of_mem _ tw_567)
  have k2 := hts _ (List.mem_cons_of_mem _ tw_3)
  have k3 := hts _ (List.mem_cons_of_mem _ tw_568)
  have hl := lv_entry ([.int p0]) (n := 3) (Nat.le_of_ble_eq_true rfl)
  have hfr : entryFrame m args 3 = F0 m 0 ((lg_sl ([.int p0]) ++ List.replicate (3 - (lg_sl ([.int p0])).length) Slot.unset).toArray) [] := by rw [hargs]; exact lg_entry_eq _ _ _
  rw [hfr]
  generalize (lg_sl ([.int p0]) ++ List.replicate (3 - (lg_sl ([.int p0])).length) Slot.unset).toArray = ls at hl ⊢
  have hl : lv_has ls 3 [(0, .int p0)] := hl
  refine gen_Q (fun Q hQ => ?_)
  clear hfr
  have L7 : ∀  (z : Int32), (GP p l e (headSpec ws_m565 rm_SC_sizeOf).room s m args below meth c Q 3 21 [(1, .int z)] []) → ∀ (k : Nat) (v1_7 : Int32) (v2_7 : Int32), f_SC_sizeOf_L7  N k (v1_7, v2_7) = some z → GP p l e (headSpec ws_m565 rm_SC_sizeOf).room s m args below meth c Q 3 7 [(1, .int v1_7), (2, .int v2_7)] [] := by
    intro  z hE0 k
    induction k with
    | zero =>
      intro v1_7 v2_7 hf
      exact (it_zero hf).elim
    | succ k ih =>
      intro v1_7 v2_7 hf ls hl
      have hf : f_SC_sizeOf_L7b  N (f_SC_sizeOf_L7  N k) v1_7 v2_7 = some z := hf
      unfold f_SC_sizeOf_L7b at hf
      refine lv_iload_n hx hb d_m565_7 rfl (lv_at hl 1 rfl) ?_
      refine lv_if_le (tgt := 21) hx hb d_m565_8 (by decide) (fun hc => ?_) (fun hc => ?_)
      · replace hf := (if_pos hc).symm.trans hf
        obtain rfl := Option.some.inj hf
        exact hE0  ls (lv_sub hl [0] rfl)
      · replace hf := (if_neg hc).symm.trans hf
        refine lv_iinc (v := v1_7 + (1 : Int32)) (lv' := [(1, .int (v1_7 + (1 : Int32))), (2, .int v2_7)]) hx hb d_m565_11 hl (k := 0) rfl rfl (by decide) rfl (fun ls hl => ?_)
        refine lv_iload_n hx hb d_m565_14 rfl (lv_at hl 1 rfl) ?_
        refine lv_iconst (v := (1 : Int32)) hx hb d_m565_15 (by decide) ?_
        refine lv_ishr hx hb d_m565_16 ?_
        refine lv_istore_n (lv' := [(2, .int (v2_7 >>> ((1 : Int32) &&& 31))), (1, .int (v1_7 + (1 : Int32)))]) hx hb d_m565_17 rfl hl (by decide) rfl (fun ls hl => ?_)
        refine lv_goto (tgt := 7) hx hb d_m565_18 (by decide) ?_
        exact ih (v1_7 + (1 : Int32)) (v2_7 >>> ((1 : Int32) &&& 31)) hf ls (lv_sub hl [1, 0] rfl)
  unfold f_SC_sizeOf at hf
  refine lv_iconst (v := (0 : Int32)) hx hb d_m565_0 (by decide) ?_
  refine lv_istore_n (lv' := [(1, .int (0 : Int32)), (0, .int p0)]) hx hb d_m565_1 rfl hl (by decide) rfl (fun ls hl => ?_)
  refine lv_iload_n hx hb d_m565_2 rfl (lv_at hl 1 rfl) ?_
  refine va_mabs hx hb (by rw [hml]; exact hl.1.symm) hown k0 k1 k2 k3 (Nat.le_of_ble_eq_true rfl) (Nat.le_of_ble_eq_true rfl) (Nat.zero_le _) (Nat.zero_le _) d_m565_3 ?_
  refine lv_istore_n (lv' := [(2, .int (if 0 ≤ p0 then p0 else 0 - p0)), (1, .int (0 : Int32)), (0, .int p0)]) hx hb d_m565_6 rfl hl (by decide) rfl (fun ls hl => ?_)
  obtain ⟨z1, hz1, hf⟩ := ob_bind hf
  refine L7  z1 ?_ N (0 : Int32) (if 0 ≤ p0 then p0 else 0 - p0) hz1 ls (lv_sub hl [1, 0] rfl)
  · intro ls hl
    refine lv_iload_n hx hb d_m565_21 rfl (lv_at hl 0 rfl) ?_
    obtain rfl := Option.some.inj hf
    subst hQ
    exact W.iret (v := z1) hx hb hr (fun t ht hW => ⟨z1, rfl, rfl, ht⟩) (fun q h => by cases h) d_m565_22
