def f_Draft_begin_L3b (p0 : Int64) (p1 : Int64) (N : Nat) (rec : (Int32 × (Nat → Int32)) → Option (Nat → Int32)) (v5_3 : Int32) (drf_c_3 : Nat → Int32) : Option (Nat → Int32) :=
  if (8 : Int32) ≤ v5_3 then
    some drf_c_3
  else
    if (v5_3 + (1 : Int32)) < 0 ∨ 17 ≤ (v5_3 + (1 : Int32)).toNatClampNeg then none else
    if (v5_3 + (9 : Int32)) < 0 ∨ 17 ≤ (v5_3 + (9 : Int32)).toNatClampNeg then none else
    rec (v5_3 + (1 : Int32), upd (upd drf_c_3 (v5_3 + (1 : Int32)).toNatClampNeg ((((p0.toUInt64 >>> (((8 : Int32) * v5_3).toInt64.toUInt64 &&& Int64.toUInt64 63)).toInt64) &&& (255 : Int64)).toInt32)) (v5_3 + (9 : Int32)).toNatClampNeg ((((p1.toUInt64 >>> (((8 : Int32) * v5_3).toInt64.toUInt64 &&& Int64.toUInt64 63)).toInt64) &&& (255 : Int64)).toInt32))
def f_Draft_begin_L3 (p0 : Int64) (p1 : Int64) (N : Nat) (k : Nat) : (Int32 × (Nat → Int32)) → Option (Nat → Int32) := it (fun rec a => f_Draft_begin_L3b p0 p1 N rec a.1 a.2) k
def f_Draft_begin (N : Nat) (p0 : Int64) (p1 : Int64) (drf_c : Nat → Int32) : Option (Int32 × (Nat → Int32)) :=
  (f_Draft_begin_L3 p0 p1 N N ((0 : Int32), drf_c)).bind fun z1 =>
    some ((0 : Int32), z1)
abbrev w_Draft_begin (cI cB cS cT : ClassId) (a_drf : Nat) (a_drf_c : Nat) (a_drf_s : Nat) (a_drf_z : Nat) (drf_size : Int32) (drf_c : Nat → Int32) : va_W := [(a_drf, .inr (6, [.ref a_drf_c, .ref a_drf_s, .ref a_drf_z, .int drf_size])), (a_drf_c, .inl (cI, 17, .inl drf_c))]
def rm_Draft_begin : Room := { frames := 0, cells := 0, slots := 0, locals := 0 }
set_option maxHeartbeats 1000000 in
set_option maxRecDepth 100000 in
theorem c_Draft_begin (l : Launch) (dC : Nat → ClassId) (dI : Nat → Nat → Nat) (cI cB cS cT : ClassId) (N : Nat) (a_drf : Nat) (a_drf_c : Nat) (a_drf_s : Nat) (a_drf_z : Nat) (drf_size : Int32) (drf_c : Nat → Int32) (p0 : Int64) (p1 : Int64) (sz : Nat) (z : Int32 × (Nat → Int32)) (hf : f_Draft_begin N p0 p1 drf_c = some z) : Met l y_m463 ws_m463 rm_Draft_begin (gPre (dC, dI) [.ref a_drf, .long p0, .long p1] (gT cI cB cS cT) (w_Draft_begin cI cB cS cT a_drf a_drf_c a_drf_s a_drf_z drf_size drf_c) sz) (gQv (dC, dI) (gT cI cB cS cT) (w_Draft_begin cI cB cS cT a_drf a_drf_c a_drf_s a_drf_z drf_size drf_c) (w_Draft_begin cI cB cS cT a_drf a_drf_c a_drf_s a_drf_z z.1 z.2) sz) 0 0 (va_A (w_Draft_begin cI cB cS cT a_drf a_drf_c a_drf_s a_drf_z drf_size drf_c) sz) := by
  refine Met.ofW (cc := prog_7_method_2_code) (maxL := 6) (ret := none) (by decide) rfl ?_
  intro p e s m args below meth c s₁ B hml hv
  obtain ⟨hargs, hsz, hP, hKN, hD0⟩ := hv
  have hK := hKN.1
  have hx := B.exec
  have hb := B.bytes
  have hr := B.returns
  have hts := atoms_spec (ws := ws_m463) B.pre
  have hown : s.vm.findClass "ScanCoder$Draft" = some m.cls := findClass_of_methodNamed B.named
  have hlocks := B.notSynchronized
  have k0 := hts _ (List.mem_cons_of_mem _ tw_227)
  have k1 := hts _ (List.mem_cons_of_mem _ tw_464)
  have k2 := hts _ (List.mem_cons_of_mem _ tw_233)
  have n0 : ∀ w ∈ u_ws "ScanCoder$Draft" T_6 4, w ∈ ws_m463 := fun w h => List.mem_cons_of_mem _ (in_6 w h)
  subst hsz
  have hD := hD0.self (sz := s.heap.size)
  obtain ⟨A, hAe⟩ : ∃ A : Nat → Prop, va_A (w_Draft_begin cI cB cS cT a_drf a_drf_c a_drf_s a_drf_z drf_size drf_c) s.heap.size = A := ⟨_, rfl⟩
  rw [hAe] at hD
  have hA : ∀ q : Nat, s.heap.size ≤ q → A q := fun q h => by rw [← hAe]; exact Or.inr h
  have hS : va_S A s.heap s.heap [] := va_S.rf
  have hl := lv_entry ([.ref a_drf, .long p0, .long p1]) (n := 6) (Nat.le_of_ble_eq_true rfl)
  have hfr : entryFrame m args 6 = F0 m 0 ((lg_sl ([.ref a_drf, .long p0, .long p1]) ++ List.replicate (6 - (lg_sl ([.ref a_drf, .long p0, .long p1])).length) Slot.unset).toArray) [] := by rw [hargs]; exact lg_entry_eq _ _ _
  rw [hfr]
  generalize (lg_sl ([.ref a_drf, .long p0, .long p1]) ++ List.replicate (6 - (lg_sl ([.ref a_drf, .long p0, .long p1])).length) Slot.unset).toArray = ls at hl ⊢
  have hl : lv_has ls 6 [(0, .ref a_drf), (1, .long p0), (3, .long p1)] := hl
  refine gen_Q (fun Q hQ => ?_)
  clear hfr
  have L3 : ∀  (z : Nat → Int32), (GW (dC, dI) A p l e (headSpec ws_m463 rm_Draft_begin).room s m args below meth c 0 0 Q 6 59 (w_Draft_begin cI cB cS cT a_drf a_drf_c a_drf_s a_drf_z drf_size z) [(0, .ref a_drf)] []) → ∀ (k : Nat) (v5_3 : Int32) (drf_c_3 : Nat → Int32), f_Draft_begin_L3 p0 p1 N k (v5_3, drf_c_3) = some z → GW (dC, dI) A p l e (headSpec ws_m463 rm_Draft_begin).room s m args below meth c 0 0 Q 6 3 (w_Draft_begin cI cB cS cT a_drf a_drf_c a_drf_s a_drf_z drf_size drf_c_3) [(0, .ref a_drf), (1, .long p0), (3, .long p1), (5, .int v5_3)] [] := by
    intro  z hE0 k
    induction k with
    | zero =>
      intro v5_3 drf_c_3 hf
      exact (it_zero hf).elim
    | succ k ih =>
      intro v5_3 drf_c_3 hf H locs ls hP hD hS hl
      have hf : f_Draft_begin_L3b p0 p1 N (f_Draft_begin_L3 p0 p1 N k) v5_3 drf_c_3 = some z := hf
      unfold f_Draft_begin_L3b at hf
      refine lv_iload hx hb d_m463_3 (lv_at hl 3 rfl) ?_
      refine lv_bipush (v := (8 : Int32)) hx hb d_m463_5 (by decide) ?_
      refine lv_icmp_ge (tgt := 59) hx hb d_m463_7 (by decide) (fun hc => ?_) (fun hc => ?_)
      · replace hf := (if_pos hc).symm.trans hf
        obtain rfl := Option.some.inj hf
        exact hE0  H locs ls hP hD hS (lv_sub hl [0] rfl)
      · replace hf := (if_neg hc).symm.trans hf
        refine lv_aload_n hx hb d_m463_10 rfl (lv_at hl 0 rfl) ?_
        refine va_get (D := (dC, dI)) (ci := 6) (v := .ref a_drf_c) (C := "ScanCoder$Draft") (T := T_6) (N := 4) hx hb hts n0 hown hK hP 0 rfl rfl 0 (by decide) k0 (fun _ h9 => h9) rfl d_m463_11 ?_
        refine lv_iload hx hb d_m463_14 (lv_at hl 3 rfl) ?_
        refine lv_iconst (v := (1 : Int32)) hx hb d_m463_16 (by decide) ?_
        refine lv_iadd hx hb d_m463_17 ?_
        refine lv_lload_n hx hb d_m463_18 rfl (lv_at hl 1 rfl) ?_
        refine lv_bipush (v := (8 : Int32)) hx hb d_m463_19 (by decide) ?_
        refine lv_iload hx hb d_m463_21 (lv_at hl 3 rfl) ?_
        refine lv_imul hx hb d_m463_23 ?_
        refine lv_lushr hx hb d_m463_24 rfl ?_
        refine lv_ldc2 (v := (255 : Int64)) hx hb hown k1 d_m463_25 ?_
        refine lv_land hx hb d_m463_28 ?_
        refine lv_l2i hx hb d_m463_29 rfl ?_
        obtain ⟨hi, hf⟩ := ob_if hf
        refine va_iast hx hb hK hP hD hS 1 0 rfl rfl hi d_m463_30 (fun H locs hP hD hS => ?_)
        have hP : va_P (dC, dI) vwCl (w_Draft_begin cI cB cS cT a_drf a_drf_c a_drf_s a_drf_z drf_size (upd drf_c_3 (v5_3 + (1 : Int32)).toNatClampNeg ((((p0.toUInt64 >>> (((8 : Int32) * v5_3).toInt64.toUInt64 &&& Int64.toUInt64 63)).toInt64) &&& (255 : Int64)).toInt32))) H := hP
        have hD : va_D A (w_Draft_begin cI cB cS cT a_drf a_drf_c a_drf_s a_drf_z drf_size (upd drf_c_3 (v5_3 + (1 : Int32)).toNatClampNeg ((((p0.toUInt64 >>> (((8 : Int32) * v5_3).toInt64.toUInt64 &&& Int64.toUInt64 63)).toInt64) &&& (255 : Int64)).toInt32))) := hD
        refine lv_aload_n hx hb d_m463_31 rfl (lv_at hl 0 rfl) ?_
        refine va_get (D := (dC, dI)) (ci := 6) (v := .ref a_drf_c) (C := "ScanCoder$Draft") (T := T_6) (N := 4) hx hb hts n0 hown hK hP 0 rfl rfl 0 (by decide) k0 (fun _ h9 => h9) rfl d_m463_32 ?_
        refine lv_iload hx hb d_m463_35 (lv_at hl 3 rfl) ?_
        refine lv_bipush (v := (9 : Int32)) hx hb d_m463_37 (by decide) ?_
        refine lv_iadd hx hb d_m463_39 ?_
        refine lv_lload_n hx hb d_m463_40 rfl (lv_at hl 2 rfl) ?_
        refine lv_bipush (v := (8 : Int32)) hx hb d_m463_41 (by decide) ?_
        refine lv_iload hx hb d_m463_43 (lv_at hl 3 rfl) ?_
        refine lv_imul hx hb d_m463_45 ?_
        refine lv_lushr hx hb d_m463_46 rfl ?_
        refine lv_ldc2 (v := (255 : Int64)) hx hb hown k1 d_m463_47 ?_
        refine lv_land hx hb d_m463_50 ?_
        refine lv_l2i hx hb d_m463_51 rfl ?_
        obtain ⟨hi, hf⟩ := ob_if hf
        refine va_iast hx hb hK hP hD hS 1 0 rfl rfl hi d_m463_52 (fun H locs hP hD hS => ?_)
        have hP : va_P (dC, dI) vwCl (w_Draft_begin cI cB cS cT a_drf a_drf_c a_drf_s a_drf_z drf_size (upd (upd drf_c_3 (v5_3 + (1 : Int32)).toNatClampNeg ((((p0.toUInt64 >>> (((8 : Int32) * v5_3).toInt64.toUInt64 &&& Int64.toUInt64 63)).toInt64) &&& (255 : Int64)).toInt32)) (v5_3 + (9 : Int32)).toNatClampNeg ((((p1.toUInt64 >>> (((8 : Int32) * v5_3).toInt64.toUInt64 &&& Int64.toUInt64 63)).toInt64) &&& (255 : Int64)).toInt32))) H := hP
        have hD : va_D A (w_Draft_begin cI cB cS cT a_drf a_drf_c a_drf_s a_drf_z drf_size (upd (upd drf_c_3 (v5_3 + (1 : Int32)).toNatClampNeg ((((p0.toUInt64 >>> (((8 : Int32) * v5_3).toInt64.toUInt64 &&& Int64.toUInt64 63)).toInt64) &&& (255 : Int64)).toInt32)) (v5_3 + (9 : Int32)).toNatClampNeg ((((p1.toUInt64 >>> (((8 : Int32) * v5_3).toInt64.toUInt64 &&& Int64.toUInt64 63)).toInt64) &&& (255 : Int64)).toInt32))) := hD
        refine lv_iinc (v := v5_3 + (1 : Int32)) (lv' := [(5, .int (v5_3 + (1 : Int32))), (0, .ref a_drf), (1, .long p0), (3, .long p1)]) hx hb d_m463_53 hl (k := 3) rfl rfl (by decide) rfl (fun ls hl => ?_)
        refine lv_goto (tgt := 3) hx hb d_m463_56 (by decide) ?_
        exact ih (v5_3 + (1 : Int32)) (upd (upd drf_c_3 (v5_3 + (1 : Int32)).toNatClampNeg ((((p0.toUInt64 >>> (((8 : Int32) * v5_3).toInt64.toUInt64 &&& Int64.toUInt64 63)).toInt64) &&& (255 : Int64)).toInt32)) (v5_3 + (9 : Int32)).toNatClampNeg ((((p1.toUInt64 >>> (((8 : Int32) * v5_3).toInt64.toUInt64 &&& Int64.toUInt64 63)).toInt64) &&& (255 : Int64)).toInt32)) hf H locs ls hP hD hS (lv_sub hl [1, 2, 3, 0] rfl)
  have hgo : ∀ (H : Heap) (locs : List Loc), va_P (dC, dI) vwCl (w_Draft_begin cI cB cS cT a_drf a_drf_c a_drf_s a_drf_z drf_size drf_c) H → va_S A s.heap H locs → W p l e (headSpec ws_m463 rm_Draft_begin).room s m args below meth c H locs 0 0 Q (F0 m 0 ls []) := by
    intro H locs hP hS
    unfold f_Draft_begin at hf
    refine lv_iconst (v := (0 : Int32)) hx hb d_m463_0 (by decide) ?_
    refine lv_istore (lv' := [(5, .int (0 : Int32)), (0, .ref a_drf), (1, .long p0), (3, .long p1)]) hx hb d_m463_1 hl (by decide) rfl (fun ls hl => ?_)
    obtain ⟨z1, hz1, hf⟩ := ob_bind hf
    refine L3  z1 ?_ N (0 : Int32) drf_c hz1 H locs ls hP hD hS (lv_sub hl [1, 2, 3, 0] rfl)
    · intro H locs ls hP hD hS hl
      refine lv_aload_n hx hb d_m463_59 rfl (lv_at hl 0 rfl) ?_
      refine lv_iconst (v := (0 : Int32)) hx hb d_m463_60 (by decide) ?_
      refine va_put (D := (dC, dI)) (ci := 6) (v := .int (0 : Int32)) (ty := .int) (C := "ScanCoder$Draft") (T := T_6) (N := 4) hx hb hts n0 ty_6 tyok_6 nm_6 hown hK hP hD hS 0 rfl rfl 3 (by decide) k2 (fun _ h9 => h9) rfl (by decide +kernel) rfl rfl (Nat.le_of_ble_eq_true rfl) d_m463_61 (fun H locs hP hD hS => ?_)
      have hP : va_P (dC, dI) vwCl (w_Draft_begin cI cB cS cT a_drf a_drf_c a_drf_s a_drf_z (0 : Int32) z1) H := hP
      have hD : va_D A (w_Draft_begin cI cB cS cT a_drf a_drf_c a_drf_s a_drf_z (0 : Int32) z1) := hD
      obtain rfl := Option.some.inj hf
      subst hQ
      subst hAe
      exact W.vret hx hb hr (fun t ht hW => ⟨⟨(), rfl, trivial, by rw [ht]; exact hP, hD⟩, hS.F ht⟩) hS.2.2 d_m463_64
  exact hgo _ _ hP hS
def f_Draft_append_L30b (p0 : Int64) (N : Nat) (rec : (Int32 × Int32 × (Nat → Int32)) → Option (Int32 × (Nat → Int32))) (v4_30 : Int32) (drf_size_30 : Int32) (drf_s_30 : Nat → Int32) : Option (Int32 × (Nat → Int32)) :=
  if v4_30 < 0 then
    some (drf_size_30, drf_s_30)
  else
    if drf_size_30 < 0 ∨ 256 ≤ drf_size_30.toNatClampNeg then none else
    rec (v4_30 + (-1 : Int32), drf_size_30 + (1 : Int32), upd drf_s_30 drf_size_30.toNatClampNeg ((((p0.toUInt64 >>> (((8 : Int32) * v4_30).toInt64.toUInt64 &&& Int64.toUInt64 63)).toInt64) &&& (255 : Int64)).toInt32))
def f_Draft_append_L30 (p0 : Int64) (N : Nat) (k : Nat) : (Int32 × Int32 × (Nat → Int32)) → Option (Int32 × (Nat → Int32)) := it (fun rec a => f_Draft_append_L30b p0 N rec a.1 a.2.1 a.2.2) k
def f_Draft_append (N : Nat) (p0 : Int64) (p1 : Int32) (drf_size : Int32) (drf_s : Nat → Int32) : Option (Int32 × Int32 × (Nat → Int32)) :=
  if p1 < (1 : Int32) then
    some ((0 : Int32), drf_size, drf_s)
  else
    if (8 : Int32) < p1 then
      some ((0 : Int32), drf_size, drf_s)
    else
      if (drf_size + p1) ≤ (256 : Int32) then
        (f_Draft_append_L30 p0 N N (p1 - (1 : Int32), drf_size, drf_s)).bind fun z1 =>
          some ((1 : Int32), z1.1, z1.2)
      else
        some ((0 : Int32), drf_size, drf_s)
abbrev w_Draft_append (cI cB cS cT : ClassId) (a_drf : Nat) (a_drf_s : Nat) (a_drf_c : Nat) (a_drf_z : Nat) (drf_size : Int32) (drf_s : Nat → Int32) : va_W := [(a_drf, .inr (6, [.ref a_drf_c, .ref a_drf_s, .ref a_drf_z, .int drf_size])), (a_drf_s, .inl (cI, 256, .inl drf_s))]
def rm_Draft_append : Room := { frames := 0, cells := 0, slots := 0, locals := 0 }
set_option maxHeartbeats 1000000 in
set_option maxRecDepth 100000 in
theorem c_Draft_append (l : Launch) (dC : Nat → ClassId) (dI : Nat → Nat → Nat) (cI cB cS cT : ClassId) (N : Nat) (a_drf : Nat) (a_drf_s : Nat) (a_drf_c : Nat) (a_drf_z : Nat) (drf_size : Int32) (drf_s : Nat → Int32) (p0 : Int64) (p1 : Int32) (sz : Nat) (z : Int32 × Int32 × (Nat → Int32)) (hf : f_Draft_append N p0 p1 drf_size drf_s = some z) : Met l y_m472 ws_m472 rm_Draft_append (gPre (dC, dI) [.ref a_drf, .long p0, .int p1] (gT cI cB cS cT) (w_Draft_append cI cB cS cT a_drf a_drf_s a_drf_c a_drf_z drf_size drf_s) sz) (gQi (dC, dI) (gT cI cB cS cT) z.1 (w_Draft_append cI cB cS cT a_drf a_drf_s a_drf_c a_drf_z drf_size drf_s) (w_Draft_append cI cB cS cT a_drf a_drf_s a_drf_c a_drf_z z.2.1 z.2.2) sz) 0 0 (va_A (w_Draft_append cI cB cS cT a_drf a_drf_s a_drf_c a_drf_z drf_size drf_s) sz) := by
  refine Met.ofW (cc := prog_7_method_3_code) (maxL := 5) (ret := (some .boolean)) (by decide) rfl ?_
  intro p e s m args below meth c s₁ B hml hv
  obtain ⟨hargs, hsz, hP, hKN, hD0⟩ := hv
  have hK := hKN.1
  have hx := B.exec
  have hb := B.bytes
  have hr := B.returns
  have hts := atoms_spec (ws := ws_m472) B.pre
  have hown : s.vm.findClass "ScanCoder$Draft" = some m.cls := findClass_of_methodNamed B.named
  have hlocks := B.notSynchronized
  have k0 := hts _ (List.mem_cons_of_mem _ tw_233)
  have k1 := hts _ (List.mem_cons_of_mem _ tw_229)
  have k2 := hts _ (List.mem_cons_of_mem _ tw_464)
  have n0 : ∀ w ∈ u_ws "ScanCoder$Draft" T_6 4, w ∈ ws_m472 := fun w h => List.mem_cons_of_mem _ (in_6 w h)
  subst hsz
  have hD := hD0.self (sz := s.heap.size)
  obtain ⟨A, hAe⟩ : ∃ A : Nat → Prop, va_A (w_Draft_append cI cB cS cT a_drf a_drf_s a_drf_c a_drf_z drf_size drf_s) s.heap.size = A := ⟨_, rfl⟩
  rw [hAe] at hD
  have hA : ∀ q : Nat, s.heap.size ≤ q → A q := fun q h => by rw [← hAe]; exact Or.inr h
  have hS : va_S A s.heap s.heap [] := va_S.rf
  have hl := lv_entry ([.ref a_drf, .long p0, .int p1]) (n := 5) (Nat.le_of_ble_eq_true rfl)
  have hfr : entryFrame m args 5 = F0 m 0 ((lg_sl ([.ref a_drf, .long p0, .int p1]) ++ List.replicate (5 - (lg_sl ([.ref a_drf, .long p0, .int p1])).length) Slot.unset).toArray) [] := by rw [hargs]; exact lg_entry_eq _ _ _
  rw [hfr]
  generalize (lg_sl ([.ref a_drf, .long p0, .int p1]) ++ List.replicate (5 - (lg_sl ([.ref a_drf, .long p0, .int p1])).length) Slot.unset).toArray = ls at hl ⊢
  have hl : lv_has ls 5 [(0, .ref a_drf), (1, .long p0), (3, .int p1)] := hl
  refine gen_Q (fun Q hQ => ?_)
  clear hfr
  have L30 : ∀  (z : Int32 × (Nat → Int32)), (GW (dC, dI) A p l e (headSpec ws_m472 rm_Draft_append).room s m args below meth c 0 0 Q 5 72 (w_Draft_append cI cB cS cT a_drf a_drf_s a_drf_c a_drf_z z.1 z.2) [] []) → ∀ (k : Nat) (v4_30 : Int32) (drf_size_30 : Int32) (drf_s_30 : Nat → Int32), f_Draft_append_L30 p0 N k (v4_30, drf_size_30, drf_s_30) = some z → GW (dC, dI) A p l e (headSpec ws_m472 rm_Draft_append).room s m args below meth c 0 0 Q 5 30 (w_Draft_append cI cB cS cT a_drf a_drf_s a_drf_c a_drf_z drf_size_30 drf_s_30) [(0, .ref a_drf), (1, .long p0), (4, .int v4_30)] [] := by
    intro  z hE0 k
    induction k with
    | zero =>
      intro v4_30 drf_size_30 drf_s_30 hf
      exact (it_zero hf).elim
    | succ k ih =>
      intro v4_30 drf_size_30 drf_s_30 hf H locs ls hP hD hS hl
      have hf : f_Draft_append_L30b p0 N (f_Draft_append_L30 p0 N k) v4_30 drf_size_30 drf_s_30 = some z := hf
      unfold f_Draft_append_L30b at hf
      refine lv_iload hx hb d_m472_30 (lv_at hl 2 rfl) ?_
      refine lv_if_lt (tgt := 72) hx hb d_m472_32 (by decide) (fun hc => ?_) (fun hc => ?_)
      · replace hf := (if_pos hc).symm.trans hf
        obtain rfl := Option.some.inj hf
        exact hE0  H locs ls hP hD hS (lv_sub hl [] rfl)
      · replace hf := (if_neg hc).symm.trans hf
        refine lv_aload_n hx hb d_m472_35 rfl (lv_at hl 0 rfl) ?_
        refine va_get (D := (dC, dI)) (ci := 6) (v := .ref a_drf_s) (C := "ScanCoder$Draft") (T := T_6) (N := 4) hx hb hts n0 hown hK hP 0 rfl rfl 1 (by decide) k1 (fun _ h9 => h9) rfl d_m472_36 ?_
        refine lv_aload_n hx hb d_m472_39 rfl (lv_at hl 0 rfl) ?_
        refine va_get (D := (dC, dI)) (ci := 6) (v := .int drf_size_30) (C := "ScanCoder$Draft") (T := T_6) (N := 4) hx hb hts n0 hown hK hP 0 rfl rfl 3 (by decide) k0 (fun _ h9 => h9) rfl d_m472_40 ?_
        refine lv_lload_n hx hb d_m472_43 rfl (lv_at hl 1 rfl) ?_
        refine lv_bipush (v := (8 : Int32)) hx hb d_m472_44 (by decide) ?_
        refine lv_iload hx hb d_m472_46 (lv_at hl 2 rfl) ?_
        refine lv_imul hx hb d_m472_48 ?_
        refine lv_lushr hx hb d_m472_49 rfl ?_
        refine lv_ldc2 (v := (255 : Int64)) hx hb hown k2 d_m472_50 ?_
        refine lv_land hx hb d_m472_53 ?_
        refine lv_l2i hx hb d_m472_54 rfl ?_
        obtain ⟨hi, hf⟩ := ob_if hf
        refine va_iast hx hb hK hP hD hS 1 0 rfl rfl hi d_m472_55 (fun H locs hP hD hS => ?_)
        have hP : va_P (dC, dI) vwCl (w_Draft_append cI cB cS cT a_drf a_drf_s a_drf_c a_drf_z drf_size_30 (upd drf_s_30 drf_size_30.toNatClampNeg ((((p0.toUInt64 >>> (((8 : Int32) * v4_30).toInt64.toUInt64 &&& Int64.toUInt64 63)).toInt64) &&& (255 : Int64)).toInt32))) H := hP
        have hD : va_D A (w_Draft_append cI cB cS cT a_drf a_drf_s a_drf_c a_drf_z drf_size_30 (upd drf_s_30 drf_size_30.toNatClampNeg ((((p0.toUInt64 >>> (((8 : Int32) * v4_30).toInt64.toUInt64 &&& Int64.toUInt64 63)).toInt64) &&& (255 : Int64)).toInt32))) := hD
        refine lv_aload_n hx hb d_m472_56 rfl (lv_at hl 0 rfl) ?_
        refine lv_dup hx hb d_m472_57 rfl ?_
        refine va_get (D := (dC, dI)) (ci := 6) (v := .int drf_size_30) (C := "ScanCoder$Draft") (T := T_6) (N := 4) hx hb hts n0 hown hK hP 0 rfl rfl 3 (by decide) k0 (fun _ h9 => h9) rfl d_m472_58 ?_
        refine lv_iconst (v := (1 : Int32)) hx hb d_m472_61 (by decide) ?_
        refine lv_iadd hx hb d_m472_62 ?_
        refine va_put (D := (dC, dI)) (ci := 6) (v := .int (drf_size_30 + (1 : Int32))) (ty := .int) (C := "ScanCoder$Draft") (T := T_6) (N := 4) hx hb hts n0 ty_6 tyok_6 nm_6 hown hK hP hD hS 0 rfl rfl 3 (by decide) k0 (fun _ h9 => h9) rfl (by decide +kernel) rfl rfl (Nat.le_of_ble_eq_true rfl) d_m472_63 (fun H locs hP hD hS => ?_)
        have hP : va_P (dC, dI) vwCl (w_Draft_append cI cB cS cT a_drf a_drf_s a_drf_c a_drf_z (drf_size_30 + (1 : Int32)) (upd drf_s_30 drf_size_30.toNatClampNeg ((((p0.toUInt64 >>> (((8 : Int32) * v4_30).toInt64.toUInt64 &&& Int64.toUInt64 63)).toInt64) &&& (255 : Int64)).toInt32))) H := hP
        have hD : va_D A (w_Draft_append cI cB cS cT a_drf a_drf_s a_drf_c a_drf_z (drf_size_30 + (1 : Int32)) (upd drf_s_30 drf_size_30.toNatClampNeg ((((p0.toUInt64 >>> (((8 : Int32) * v4_30).toInt64.toUInt64 &&& Int64.toUInt64 63)).toInt64) &&& (255 : Int64)).toInt32))) := hD
        refine lv_iinc (v := v4_30 + (-1 : Int32)) (lv' := [(4, .int (v4_30 + (-1 : Int32))), (0, .ref a_drf), (1, .long p0)]) hx hb d_m472_66 hl (k := 2) rfl rfl (by decide) rfl (fun ls hl => ?_)
        refine lv_goto (tgt := 30) hx hb d_m472_69 (by decide) ?_
        exact ih (v4_30 + (-1 : Int32)) (drf_size_30 + (1 : Int32)) (upd drf_s_30 drf_size_30.toNatClampNeg ((((p0.toUInt64 >>> (((8 : Int32) * v4_30).toInt64.toUInt64 &&& Int64.toUInt64 63)).toInt64) &&& (255 : Int64)).toInt32)) hf H locs ls hP hD hS (lv_sub hl [1, 2, 0] rfl)
  have hgo : ∀ (H : Heap) (locs : List Loc), va_P (dC, dI) vwCl (w_Draft_append cI cB cS cT a_drf a_drf_s a_drf_c a_drf_z drf_size drf_s) H → va_S A s.heap H locs → W p l e (headSpec ws_m472 rm_Draft_append).room s m args below meth c H locs 0 0 Q (F0 m 0 ls []) := by
    intro H locs hP hS
    unfold f_Draft_append at hf
    refine lv_iload_n hx hb d_m472_0 rfl (lv_at hl 2 rfl) ?_
    refine lv_iconst (v := (1 : Int32)) hx hb d_m472_1 (by decide) ?_
    refine lv_icmp_lt (tgt := 23) hx hb d_m472_2 (by decide) (fun hc => ?_) (fun hc => ?_)
    · replace hf := (if_pos hc).symm.trans hf
      refine lv_iconst (v := (0 : Int32)) hx hb d_m472_23 (by decide) ?_
      obtain rfl := Option.some.inj hf
      subst hQ
      subst hAe
      exact W.zret (v := (0 : Int32)) hx hb hr (by decide) (fun t ht hW => ⟨⟨(0 : Int32), (), rfl, rfl, by rw [ht]; exact hP, hD⟩, hS.F ht⟩) hS.2.2 d_m472_24
    · replace hf := (if_neg hc).symm.trans hf
      refine lv_iload_n hx hb d_m472_5 rfl (lv_at hl 2 rfl) ?_
      refine lv_bipush (v := (8 : Int32)) hx hb d_m472_6 (by decide) ?_
      refine lv_icmp_gt (tgt := 23) hx hb d_m472_8 (by decide) (fun hc => ?_) (fun hc => ?_)
      · replace hf := (if_pos hc).symm.trans hf
        refine lv_iconst (v := (0 : Int32)) hx hb d_m472_23 (by decide) ?_
        obtain rfl := Option.some.inj hf
        subst hQ
        subst hAe
        exact W.zret (v := (0 : Int32)) hx hb hr (by decide) (fun t ht hW => ⟨⟨(0 : Int32), (), rfl, rfl, by rw [ht]; exact hP, hD⟩, hS.F ht⟩) hS.2.2 d_m472_24
      · replace hf := (if_neg hc).symm.trans hf
        refine lv_aload_n hx hb d_m472_11 rfl (lv_at hl 0 rfl) ?_
        refine va_get (D := (dC, dI)) (ci := 6) (v := .int drf_size) (C := "ScanCoder$Draft") (T := T_6) (N := 4) hx hb hts n0 hown hK hP 0 rfl rfl 3 (by decide) k0 (fun _ h9 => h9) rfl d_m472_12 ?_
        refine lv_iload_n hx hb d_m472_15 rfl (lv_at hl 2 rfl) ?_
        refine lv_iadd hx hb d_m472_16 ?_
        refine lv_sipush (v := (256 : Int32)) hx hb d_m472_17 (by decide) ?_
        refine lv_icmp_le (tgt := 25) hx hb d_m472_20 (by decide) (fun hc => ?_) (fun hc => ?_)
        · replace hf := (if_pos hc).symm.trans hf
          refine lv_iload_n hx hb d_m472_25 rfl (lv_at hl 2 rfl) ?_
          refine lv_iconst (v := (1 : Int32)) hx hb d_m472_26 (by decide) ?_
          refine lv_isub hx hb d_m472_27 ?_
          refine lv_istore (lv' := [(4, .int (p1 - (1 : Int32))), (0, .ref a_drf), (1, .long p0), (3, .int p1)]) hx hb d_m472_28 hl (by decide) rfl (fun ls hl => ?_)
          obtain ⟨z1, hz1, hf⟩ := ob_bind hf
          refine L30  z1 ?_ N (p1 - (1 : Int32)) drf_size drf_s hz1 H locs ls hP hD hS (lv_sub hl [1, 2, 0] rfl)
          · intro H locs ls hP hD hS hl
            refine lv_iconst (v := (1 : Int32)) hx hb d_m472_72 (by decide) ?_
            obtain rfl := Option.some.inj hf
            subst hQ
            subst hAe
            exact W.zret (v := (1 : Int32)) hx hb hr (by decide) (fun t ht hW => ⟨⟨(1 : Int32), (), rfl, rfl, by rw [ht]; exact hP, hD⟩, hS.F ht⟩) hS.2.2 d_m472_73
        · replace hf := (if_neg hc).symm.trans hf
          refine lv_iconst (v := (0 : Int32)) hx hb d_m472_23 (by decide) ?_
          obtain rfl := Option.some.inj hf
          subst hQ
          subst hAe
          exact W.zret (v := (0 : Int32)) hx hb hr (by decide) (fun t ht hW => ⟨⟨(0 : Int32), (), rfl, rfl, by rw [ht]; exact hP, hD⟩, hS.F ht⟩) hS.2.2 d_m472_24
  exact hgo _ _ hP hS
def f_Draft_hasTwins_L10b (drf_size : Int32) (drf_s : Nat → Int32) (N : Nat) (rec : (Int32 × (Nat → Int32)) → Option (Nat × (Nat → Int32))) (v1_10 : Int32) (drf_z_10 : Nat → Int32) : Option (Nat × (Nat → Int32)) :=
  if drf_size ≤ v1_10 then
    some (1, drf_z_10)
  else
    if v1_10 < 0 ∨ 256 ≤ v1_10.toNatClampNeg then none else
    if (drf_s v1_10.toNatClampNeg) < 0 ∨ 256 ≤ (drf_s v1_10.toNatClampNeg).toNatClampNeg then none else
    if (drf_z_10 (drf_s v1_10.toNatClampNeg).toNatClampNeg) = 0 then
      if v1_10 < 0 ∨ 256 ≤ v1_10.toNatClampNeg then none else
      if (drf_s v1_10.toNatClampNeg) < 0 ∨ 256 ≤ (drf_s v1_10.toNatClampNeg).toNatClampNeg then none else
      rec (v1_10 + (1 : Int32), upd drf_z_10 (drf_s v1_10.toNatClampNeg).toNatClampNeg (vp_nar .byte (1 : Int32)))
    else
      some (0, drf_z_10)
def f_Draft_hasTwins_L10 (drf_size : Int32) (drf_s : Nat → Int32) (N : Nat) (k : Nat) : (Int32 × (Nat → Int32)) → Option (Nat × (Nat → Int32)) := it (fun rec a => f_Draft_hasTwins_L10b drf_size drf_s N rec a.1 a.2) k
def f_Draft_hasTwins (N : Nat) (drf_size : Int32) (drf_s : Nat → Int32) (drf_z : Nat → Int32) : Option (Int32 × (Nat → Int32)) :=
  (f_Arrays_fillB N (0 : Int32) 256 drf_z).bind fun z1 =>
  (f_Draft_hasTwins_L10 drf_size drf_s N N ((0 : Int32), z1)).bind fun z2 =>
    if z2.1 = 0 then some ((1 : Int32), z2.2) else some ((0 : Int32), z2.2)
abbrev w_Draft_hasTwins (cI cB cS cT : ClassId) (a_drf : Nat) (a_drf_s : Nat) (a_drf_z : Nat) (a_drf_c : Nat) (drf_size : Int32) (drf_s : Nat → Int32) (drf_z : Nat → Int32) : va_W := [(a_drf, .inr (6, [.ref a_drf_c, .ref a_drf_s, .ref a_drf_z, .int drf_size])), (a_drf_s, .inl (cI, 256, .inl drf_s)), (a_drf_z, .inl (cB, 256, .inl drf_z))]
def rm_Draft_hasTwins : Room := { frames := 1, cells := 0, slots := 0, locals := 23 }
set_option maxHeartbeats 1000000 in
set_option maxRecDepth 100000 in
theorem c_Draft_hasTwins (l : Launch) (dC : Nat → ClassId) (dI : Nat → Nat → Nat) (cI cB cS cT : ClassId) (N : Nat) (a_drf : Nat) (a_drf_s : Nat) (a_drf_z : Nat) (a_drf_c : Nat) (drf_size : Int32) (drf_s : Nat → Int32) (drf_z : Nat → Int32) (sz : Nat) (z : Int32 × (Nat → Int32)) (hf : f_Draft_hasTwins N drf_size drf_s drf_z = some z) : Met l y_m484 ws_m484 rm_Draft_hasTwins (gPre (dC, dI) [.ref a_drf] (gT cI cB cS cT) (w_Draft_hasTwins cI cB cS cT a_drf a_drf_s a_drf_z a_drf_c drf_size drf_s drf_z) sz) (gQi (dC, dI) (gT cI cB cS cT) z.1 (w_Draft_hasTwins cI cB cS cT a_drf a_drf_s a_drf_z a_drf_c drf_size drf_s drf_z) (w_Draft_hasTwins cI cB cS cT a_drf a_drf_s a_drf_z a_drf_c drf_size drf_s z.2) sz) 0 0 (va_A (w_Draft_hasTwins cI cB cS cT a_drf a_drf_s a_drf_z a_drf_c drf_size drf_s drf_z) sz) := by
  refine Met.ofW (cc := prog_7_method_5_code) (maxL := 2) (ret := (some .boolean)) (by decide) rfl ?_
  intro p e s m args below meth c s₁ B hml hv
  obtain ⟨hargs, hsz, hP, hKN, hD0⟩ := hv
  have hK := hKN.1
  have hx := B.exec
  have hb := B.bytes
  have hr := B.returns
  have hts := atoms_spec (ws := ws_m484) B.pre
  have hown : s.vm.findClass "ScanCoder$Draft" = some m.cls := findClass_of_methodNamed B.named
  have hlocks := B.notSynchronized
  have k0 := hts _ (List.mem_cons_of_mem _ tw_231)
  have k1 := hts _ (List.mem_cons_of_mem _ tw_233)
  have k2 := hts _ (List.mem_cons_of_mem _ tw_229)
  have n0 : ∀ w ∈ u_ws "ScanCoder$Draft" T_6 4, w ∈ ws_m484 := fun w h => List.mem_cons_of_mem _ (in_6 w h)
  subst hsz
  have hD := hD0.self (sz := s.heap.size)
  obtain ⟨A, hAe⟩ : ∃ A : Nat → Prop, va_A (w_Draft_hasTwins cI cB cS cT a_drf a_drf_s a_drf_z a_drf_c drf_size drf_s drf_z) s.heap.size = A := ⟨_, rfl⟩
  rw [hAe] at hD
  have hA : ∀ q : Nat, s.heap.size ≤ q → A q := fun q h => by rw [← hAe]; exact Or.inr h
  have hS : va_S A s.heap s.heap [] := va_S.rf
  have hl := lv_entry ([.ref a_drf]) (n := 2) (Nat.le_of_ble_eq_true rfl)
  have hfr : entryFrame m args 2 = F0 m 0 ((lg_sl ([.ref a_drf]) ++ List.replicate (2 - (lg_sl ([.ref a_drf])).length) Slot.unset).toArray) [] := by rw [hargs]; exact lg_entry_eq _ _ _
  rw [hfr]
  generalize (lg_sl ([.ref a_drf]) ++ List.replicate (2 - (lg_sl ([.ref a_drf])).length) Slot.unset).toArray = ls at hl ⊢
  have hl : lv_has ls 2 [(0, .ref a_drf)] := hl
  refine gen_Q (fun Q hQ => ?_)
  clear hfr
  have L10 : ∀  (z : Nat × (Nat → Int32)), (z.1 = 0 → GW (dC, dI) A p l e (headSpec ws_m484 rm_Draft_hasTwins).room s m args below meth c 0 0 Q 2 32 (w_Draft_hasTwins cI cB cS cT a_drf a_drf_s a_drf_z a_drf_c drf_size drf_s z.2) [] []) → (z.1 = 1 → GW (dC, dI) A p l e (headSpec ws_m484 rm_Draft_hasTwins).room s m args below meth c 0 0 Q 2 52 (w_Draft_hasTwins cI cB cS cT a_drf a_drf_s a_drf_z a_drf_c drf_size drf_s z.2) [] []) → ∀ (k : Nat) (v1_10 : Int32) (drf_z_10 : Nat → Int32), f_Draft_hasTwins_L10 drf_size drf_s N k (v1_10, drf_z_10) = some z → GW (dC, dI) A p l e (headSpec ws_m484 rm_Draft_hasTwins).room s m args below meth c 0 0 Q 2 10 (w_Draft_hasTwins cI cB cS cT a_drf a_drf_s a_drf_z a_drf_c drf_size drf_s drf_z_10) [(0, .ref a_drf), (1, .int v1_10)] [] := by
    intro  z hE0 hE1 k
    induction k with
    | zero =>
      intro v1_10 drf_z_10 hf
      exact (it_zero hf).elim
    | succ k ih =>
      intro v1_10 drf_z_10 hf H locs ls hP hD hS hl
      have hf : f_Draft_hasTwins_L10b drf_size drf_s N (f_Draft_hasTwins_L10 drf_size drf_s N k) v1_10 drf_z_10 = some z := hf
      unfold f_Draft_hasTwins_L10b at hf
      refine lv_iload_n hx hb d_m484_10 rfl (lv_at hl 1 rfl) ?_
      refine lv_aload_n hx hb d_m484_11 rfl (lv_at hl 0 rfl) ?_
      refine va_get (D := (dC, dI)) (ci := 6) (v := .int drf_size) (C := "ScanCoder$Draft") (T := T_6) (N := 4) hx hb hts n0 hown hK hP 0 rfl rfl 3 (by decide) k1 (fun _ h9 => h9) rfl d_m484_12 ?_
      refine lv_icmp_ge (tgt := 52) hx hb d_m484_15 (by decide) (fun hc => ?_) (fun hc => ?_)
      · replace hf := (if_pos hc).symm.trans hf
        obtain rfl := Option.some.inj hf
        exact hE1 rfl  H locs ls hP hD hS (lv_sub hl [] rfl)
      · replace hf := (if_neg hc).symm.trans hf
        refine lv_aload_n hx hb d_m484_18 rfl (lv_at hl 0 rfl) ?_
        refine va_get (D := (dC, dI)) (ci := 6) (v := .ref a_drf_z) (C := "ScanCoder$Draft") (T := T_6) (N := 4) hx hb hts n0 hown hK hP 0 rfl rfl 2 (by decide) k0 (fun _ h9 => h9) rfl d_m484_19 ?_
        refine lv_aload_n hx hb d_m484_22 rfl (lv_at hl 0 rfl) ?_
        refine va_get (D := (dC, dI)) (ci := 6) (v := .ref a_drf_s) (C := "ScanCoder$Draft") (T := T_6) (N := 4) hx hb hts n0 hown hK hP 0 rfl rfl 1 (by decide) k2 (fun _ h9 => h9) rfl d_m484_23 ?_
        refine lv_iload_n hx hb d_m484_26 rfl (lv_at hl 1 rfl) ?_
        obtain ⟨hi, hf⟩ := ob_if hf
        refine va_iald hx hb hK hP 1 0 rfl rfl hi d_m484_27 ?_
        obtain ⟨hi, hf⟩ := ob_if hf
        refine va_bald hx hb hK hP 2 1 rfl rfl hi d_m484_28 ?_
        refine lv_if_eq (tgt := 34) hx hb d_m484_29 (by decide) (fun hc => ?_) (fun hc => ?_)
        · replace hf := (if_pos hc).symm.trans hf
          refine lv_aload_n hx hb d_m484_34 rfl (lv_at hl 0 rfl) ?_
          refine va_get (D := (dC, dI)) (ci := 6) (v := .ref a_drf_z) (C := "ScanCoder$Draft") (T := T_6) (N := 4) hx hb hts n0 hown hK hP 0 rfl rfl 2 (by decide) k0 (fun _ h9 => h9) rfl d_m484_35 ?_
          refine lv_aload_n hx hb d_m484_38 rfl (lv_at hl 0 rfl) ?_
          refine va_get (D := (dC, dI)) (ci := 6) (v := .ref a_drf_s) (C := "ScanCoder$Draft") (T := T_6) (N := 4) hx hb hts n0 hown hK hP 0 rfl rfl 1 (by decide) k2 (fun _ h9 => h9) rfl d_m484_39 ?_
          refine lv_iload_n hx hb d_m484_42 rfl (lv_at hl 1 rfl) ?_
          obtain ⟨hi, hf⟩ := ob_if hf
          refine va_iald hx hb hK hP 1 0 rfl rfl hi d_m484_43 ?_
          refine lv_iconst (v := (1 : Int32)) hx hb d_m484_44 (by decide) ?_
          obtain ⟨hi, hf⟩ := ob_if hf
          refine va_bast hx hb hK hP hD hS 2 1 rfl rfl hi d_m484_45 (fun H locs hP hD hS => ?_)
          have hP : va_P (dC, dI) vwCl (w_Draft_hasTwins cI cB cS cT a_drf a_drf_s a_drf_z a_drf_c drf_size drf_s (upd drf_z_10 (drf_s v1_10.toNatClampNeg).toNatClampNeg (vp_nar .byte (1 : Int32)))) H := hP
          have hD : va_D A (w_Draft_hasTwins cI cB cS cT a_drf a_drf_s a_drf_z a_drf_c drf_size drf_s (upd drf_z_10 (drf_s v1_10.toNatClampNeg).toNatClampNeg (vp_nar .byte (1 : Int32)))) := hD
          refine lv_iinc (v := v1_10 + (1 : Int32)) (lv' := [(1, .int (v1_10 + (1 : Int32))), (0, .ref a_drf)]) hx hb d_m484_46 hl (k := 1) rfl rfl (by decide) rfl (fun ls hl => ?_)
          refine lv_goto (tgt := 10) hx hb d_m484_49 (by decide) ?_
          exact ih (v1_10 + (1 : Int32)) (upd drf_z_10 (drf_s v1_10.toNatClampNeg).toNatClampNeg (vp_nar .byte (1 : Int32))) hf H locs ls hP hD hS (lv_sub hl [1, 0] rfl)
        · replace hf := (if_neg hc).symm.trans hf
          obtain rfl := Option.some.inj hf
          exact hE0 rfl  H locs ls hP hD hS (lv_sub hl [] rfl)
  have hgo : ∀ (H : Heap) (locs : List Loc), va_P (dC, dI) vwCl (w_Draft_hasTwins cI cB cS cT a_drf a_drf_s a_drf_z a_drf_c drf_size drf_s drf_z) H → va_S A s.heap H locs → W p l e (headSpec ws_m484 rm_Draft_hasTwins).room s m args below meth c H locs 0 0 Q (F0 m 0 ls []) := by
    intro H locs hP hS
    unfold f_Draft_hasTwins at hf
    refine lv_aload_n hx hb d_m484_0 rfl (lv_at hl 0 rfl) ?_
    refine va_get (D := (dC, dI)) (ci := 6) (v := .ref a_drf_z) (C := "ScanCoder$Draft") (T := T_6) (N := 4) hx hb hts n0 hown hK hP 0 rfl rfl 2 (by decide) k0 (fun _ h9 => h9) rfl d_m484_1 ?_
    refine lv_iconst (v := (0 : Int32)) hx hb d_m484_4 (by decide) ?_
    obtain ⟨z1, hz1, hf⟩ := ob_bind hf
    refine g_callv (wc := (w_Arrays_fillB cI cB cS cT a_drf_z 256 drf_z)) (w1 := (w_Arrays_fillB cI cB cS cT a_drf_z 256 z1)) (w2 := (w_Draft_hasTwins cI cB cS cT a_drf a_drf_s a_drf_z a_drf_c drf_size drf_s z1)) [2] [none, none, some 0] hP hD hS hA rfl rfl rfl rfl (va_runS (As := [.ref a_drf_z, .int (0 : Int32)]) (rest := []) ⟨hx, hb, hml, hown, hts⟩ (c_Arrays_fillB l dC dI cI cB cS cT N a_drf_z 256 drf_z (0 : Int32) H.size z1 hz1) ⟨(callB_of 2 hts (gi tw_487 rfl) rfl rfl rfl (hts _ (List.mem_cons_of_mem _ tw_4)) (hts _ (List.mem_cons_of_mem _ tw_485)) (by decide +kernel) ⟨Nat.le_of_ble_eq_true rfl, Nat.le_of_ble_eq_true rfl⟩), hts _ (List.mem_cons_of_mem _ tw_486)⟩ ⟨g_blind, g_at hKN (g_pm hP [2] rfl) (hD.sub [2] (by decide) rfl)⟩ rfl rfl hl.1 rfl (lv_room (Nat.le_of_ble_eq_true rfl)) d_m484_5 ⟨Nat.zero_le _, Nat.zero_le _⟩) (fun H locs hP hD hS => ?_)
    refine W.eq (g2 := F0 m 8 ls []) rfl ?_
    refine lv_iconst (v := (0 : Int32)) hx hb d_m484_8 (by decide) ?_
    refine lv_istore_n (lv' := [(1, .int (0 : Int32)), (0, .ref a_drf)]) hx hb d_m484_9 rfl hl (by decide) rfl (fun ls hl => ?_)
    obtain ⟨z2, hz2, hf⟩ := ob_bind hf
    refine L10  z2 ?_ ?_ N (0 : Int32) z1 hz2 H locs ls hP hD hS (lv_sub hl [1, 0] rfl)
    · intro hz H locs ls hP hD hS hl
      replace hf := (if_pos hz).symm.trans hf
      refine lv_iconst (v := (1 : Int32)) hx hb d_m484_32 (by decide) ?_
      obtain rfl := Option.some.inj hf
      subst hQ
      subst hAe
      exact W.zret (v := (1 : Int32)) hx hb hr (by decide) (fun t ht hW => ⟨⟨(1 : Int32), (), rfl, rfl, by rw [ht]; exact hP, hD⟩, hS.F ht⟩) hS.2.2 d_m484_33
    · intro hz H locs ls hP hD hS hl
      replace hf := (if_neg (by rw [hz]; decide)).symm.trans hf
      refine lv_iconst (v := (0 : Int32)) hx hb d_m484_52 (by decide) ?_
      obtain rfl := Option.some.inj hf
      subst hQ
      subst hAe
      exact W.zret (v := (0 : Int32)) hx hb hr (by decide) (fun t ht hW => ⟨⟨(0 : Int32), (), rfl, rfl, by rw [ht]; exact hP, hD⟩, hS.F ht⟩) hS.2.2 d_m484_53
  exact hgo _ _ hP hS
def f_Draft_wordsFit_J4_43 (N : Nat) (rec : (Int32 × Int32) → Option (Nat)) (v1_j43 : Int32) (v2_4 : Int32) : Option (Nat) :=
  rec (v1_j43, v2_4 + (1 : Int32))
def f_Draft_wordsFit_L4b (drf_c : Nat → Int32) (N : Nat) (rec : (Int32 × Int32) → Option (Nat)) (v1_4 : Int32) (v2_4 : Int32) : Option (Nat) :=
  if (16 : Int32) < v2_4 then
    some 1
  else
    if v2_4 < 0 ∨ 17 ≤ v2_4.toNatClampNeg then none else
    if v2_4 < 0 ∨ 17 ≤ v2_4.toNatClampNeg then none else
    if (drf_c v2_4.toNatClampNeg) ≤ 0 then
      f_Draft_wordsFit_J4_43 N rec (((2 : Int32) * v1_4) + (drf_c v2_4.toNatClampNeg)) v2_4
    else
      if (((2 : Int32) * v1_4) + (drf_c v2_4.toNatClampNeg)) ≤ (((1 : Int32) <<< (v2_4 &&& 31)) - (1 : Int32)) then
        f_Draft_wordsFit_J4_43 N rec (((2 : Int32) * v1_4) + (drf_c v2_4.toNatClampNeg)) v2_4
      else
        some 0
def f_Draft_wordsFit_L4 (drf_c : Nat → Int32) (N : Nat) (k : Nat) : (Int32 × Int32) → Option (Nat) := it (fun rec a => f_Draft_wordsFit_L4b drf_c N rec a.1 a.2) k
def f_Draft_wordsFit (N : Nat) (drf_c : Nat → Int32) : Option (Int32) :=
  (f_Draft_wordsFit_L4 drf_c N N ((0 : Int32), (1 : Int32))).bind fun z1 =>
    if z1 = 0 then some (0 : Int32) else some (1 : Int32)
abbrev w_Draft_wordsFit (cI cB cS cT : ClassId) (a_drf : Nat) (a_drf_c : Nat) (a_drf_s : Nat) (a_drf_z : Nat) (drf_size : Int32) (drf_c : Nat → Int32) : va_W := [(a_drf, .inr (6, [.ref a_drf_c, .ref a_drf_s, .ref a_drf_z, .int drf_size])), (a_drf_c, .inl (cI, 17, .inl drf_c))]
def rm_Draft_wordsFit : Room := { frames := 0, cells := 0, slots := 0, locals := 0 }
set_option maxHeartbeats 1000000 in
set_option maxRecDepth 100000 in
theorem c_Draft_wordsFit (l : Launch) (dC : Nat → ClassId) (dI : Nat → Nat → Nat) (cI cB cS cT : ClassId) (N : Nat) (a_drf : Nat) (a_drf_c : Nat) (a_drf_s : Nat) (a_drf_z : Nat) (drf_size : Int32) (drf_c : Nat → Int32) (z : Int32) (hf : f_Draft_wordsFit N drf_c = some z) : Met l y_m491 ws_m491 rm_Draft_wordsFit (gPreP (dC, dI) [.ref a_drf] (gT cI cB cS cT) (w_Draft_wordsFit cI cB cS cT a_drf a_drf_c a_drf_s a_drf_z drf_size drf_c)) (vp_Si (fun r => r = z)) 0 0 (fun _ => False) := by
  refine Met.ofW (cc := prog_7_method_6_code) (maxL := 4) (ret := (some .boolean)) (by decide) rfl ?_
  intro p e s m args below meth c s₁ B hml hv
  obtain ⟨hargs, hP, hKN⟩ := hv
  have hK := hKN.1
  have hx := B.exec
  have hb := B.bytes
  have hr := B.returns
  have hts := atoms_spec (ws := ws_m491) B.pre
  have hown : s.vm.findClass "ScanCoder$Draft" = some m.cls := findClass_of_methodNamed B.named
  have hlocks := B.notSynchronized
  have k0 := hts _ (List.mem_cons_of_mem _ tw_227)
  have n0 : ∀ w ∈ u_ws "ScanCoder$Draft" T_6 4, w ∈ ws_m491 := fun w h => List.mem_cons_of_mem _ (in_6 w h)
  have hl := lv_entry ([.ref a_drf]) (n := 4) (Nat.le_of_ble_eq_true rfl)
  have hfr : entryFrame m args 4 = F0 m 0 ((lg_sl ([.ref a_drf]) ++ List.replicate (4 - (lg_sl ([.ref a_drf])).length) Slot.unset).toArray) [] := by rw [hargs]; exact lg_entry_eq _ _ _
  rw [hfr]
  generalize (lg_sl ([.ref a_drf]) ++ List.replicate (4 - (lg_sl ([.ref a_drf])).length) Slot.unset).toArray = ls at hl ⊢
  have hl : lv_has ls 4 [(0, .ref a_drf)] := hl
  refine gen_Q (fun Q hQ => ?_)
  clear hfr
  have L4 : ∀  (z : Nat), (z = 0 → GP p l e (headSpec ws_m491 rm_Draft_wordsFit).room s m args below meth c Q 4 41 [] []) → (z = 1 → GP p l e (headSpec ws_m491 rm_Draft_wordsFit).room s m args below meth c Q 4 49 [] []) → ∀ (k : Nat) (v1_4 : Int32) (v2_4 : Int32), f_Draft_wordsFit_L4 drf_c N k (v1_4, v2_4) = some z → GP p l e (headSpec ws_m491 rm_Draft_wordsFit).room s m args below meth c Q 4 4 [(0, .ref a_drf), (1, .int v1_4), (2, .int v2_4)] [] := by
    intro  z hE0 hE1 k
    induction k with
    | zero =>
      intro v1_4 v2_4 hf
      exact (it_zero hf).elim
    | succ k ih =>
      intro v1_4 v2_4 hf ls hl
      have J4_43 : ∀ (v1_j43 : Int32), f_Draft_wordsFit_J4_43 N (f_Draft_wordsFit_L4 drf_c N k) v1_j43 v2_4 = some z → GP p l e (headSpec ws_m491 rm_Draft_wordsFit).room s m args below meth c Q 4 43 [(0, .ref a_drf), (1, .int v1_j43), (2, .int v2_4)] [] := by
        intro v1_j43 hf ls hl
        unfold f_Draft_wordsFit_J4_43 at hf
        refine lv_iinc (v := v2_4 + (1 : Int32)) (lv' := [(2, .int (v2_4 + (1 : Int32))), (0, .ref a_drf), (1, .int v1_j43)]) hx hb d_m491_43 hl (k := 2) rfl rfl (by decide) rfl (fun ls hl => ?_)
        refine lv_goto (tgt := 4) hx hb d_m491_46 (by decide) ?_
        exact ih v1_j43 (v2_4 + (1 : Int32)) hf ls (lv_sub hl [1, 2, 0] rfl)
      have hf : f_Draft_wordsFit_L4b drf_c N (f_Draft_wordsFit_L4 drf_c N k) v1_4 v2_4 = some z := hf
      unfold f_Draft_wordsFit_L4b at hf
      refine lv_iload_n hx hb d_m491_4 rfl (lv_at hl 2 rfl) ?_
      refine lv_bipush (v := (16 : Int32)) hx hb d_m491_5 (by decide) ?_
      refine lv_icmp_gt (tgt := 49) hx hb d_m491_7 (by decide) (fun hc => ?_) (fun hc => ?_)
      · replace hf := (if_pos hc).symm.trans hf
        obtain rfl := Option.some.inj hf
        exact hE1 rfl  ls (lv_sub hl [] rfl)
      · replace hf := (if_neg hc).symm.trans hf
        refine lv_iconst (v := (1 : Int32)) hx hb d_m491_10 (by decide) ?_
        refine lv_iload_n hx hb d_m491_11 rfl (lv_at hl 2 rfl) ?_
        refine lv_ishl hx hb d_m491_12 ?_
        refine lv_iconst (v := (1 : Int32)) hx hb d_m491_13 (by decide) ?_
        refine lv_isub hx hb d_m491_14 ?_
        refine lv_istore_n (lv' := [(3, .int (((1 : Int32) <<< (v2_4 &&& 31)) - (1 : Int32))), (0, .ref a_drf), (1, .int v1_4), (2, .int v2_4)]) hx hb d_m491_15 rfl hl (by decide) rfl (fun ls hl => ?_)
        refine lv_iconst (v := (2 : Int32)) hx hb d_m491_16 (by decide) ?_
        refine lv_iload_n hx hb d_m491_17 rfl (lv_at hl 2 rfl) ?_
        refine lv_imul hx hb d_m491_18 ?_
        refine lv_aload_n hx hb d_m491_19 rfl (lv_at hl 1 rfl) ?_
        refine va_get (D := (dC, dI)) (ci := 6) (v := .ref a_drf_c) (C := "ScanCoder$Draft") (T := T_6) (N := 4) hx hb hts n0 hown hK hP 0 rfl rfl 0 (by decide) k0 (fun _ h9 => h9) rfl d_m491_20 ?_
        refine lv_iload_n hx hb d_m491_23 rfl (lv_at hl 3 rfl) ?_
        obtain ⟨hi, hf⟩ := ob_if hf
        refine va_iald hx hb hK hP 1 0 rfl rfl hi d_m491_24 ?_
        refine lv_iadd hx hb d_m491_25 ?_
        refine lv_istore_n (lv' := [(1, .int (((2 : Int32) * v1_4) + (drf_c v2_4.toNatClampNeg))), (3, .int (((1 : Int32) <<< (v2_4 &&& 31)) - (1 : Int32))), (0, .ref a_drf), (2, .int v2_4)]) hx hb d_m491_26 rfl hl (by decide) rfl (fun ls hl => ?_)
        refine lv_aload_n hx hb d_m491_27 rfl (lv_at hl 2 rfl) ?_
        refine va_get (D := (dC, dI)) (ci := 6) (v := .ref a_drf_c) (C := "ScanCoder$Draft") (T := T_6) (N := 4) hx hb hts n0 hown hK hP 0 rfl rfl 0 (by decide) k0 (fun _ h9 => h9) rfl d_m491_28 ?_
        refine lv_iload_n hx hb d_m491_31 rfl (lv_at hl 3 rfl) ?_
        obtain ⟨hi, hf⟩ := ob_if hf
        refine va_iald hx hb hK hP 1 0 rfl rfl hi d_m491_32 ?_
        refine lv_if_le (tgt := 43) hx hb d_m491_33 (by decide) (fun hc => ?_) (fun hc => ?_)
        · replace hf := (if_pos hc).symm.trans hf
          exact J4_43 (((2 : Int32) * v1_4) + (drf_c v2_4.toNatClampNeg)) hf ls (lv_sub hl [2, 0, 3] rfl)
        · replace hf := (if_neg hc).symm.trans hf
          refine lv_iload_n hx hb d_m491_36 rfl (lv_at hl 0 rfl) ?_
          refine lv_iload_n hx hb d_m491_37 rfl (lv_at hl 1 rfl) ?_
          refine lv_icmp_le (tgt := 43) hx hb d_m491_38 (by decide) (fun hc => ?_) (fun hc => ?_)
          · replace hf := (if_pos hc).symm.trans hf
            exact J4_43 (((2 : Int32) * v1_4) + (drf_c v2_4.toNatClampNeg)) hf ls (lv_sub hl [2, 0, 3] rfl)
          · replace hf := (if_neg hc).symm.trans hf
            obtain rfl := Option.some.inj hf
            exact hE0 rfl  ls (lv_sub hl [] rfl)
  unfold f_Draft_wordsFit at hf
  refine lv_iconst (v := (0 : Int32)) hx hb d_m491_0 (by decide) ?_
  refine lv_istore_n (lv' := [(1, .int (0 : Int32)), (0, .ref a_drf)]) hx hb d_m491_1 rfl hl (by decide) rfl (fun ls hl => ?_)
  refine lv_iconst (v := (1 : Int32)) hx hb d_m491_2 (by decide) ?_
  refine lv_istore_n (lv' := [(2, .int (1 : Int32)), (1, .int (0 : Int32)), (0, .ref a_drf)]) hx hb d_m491_3 rfl hl (by decide) rfl (fun ls hl => ?_)
  obtain ⟨z1, hz1, hf⟩ := ob_bind hf
  refine L4  z1 ?_ ?_ N (0 : Int32) (1 : Int32) hz1 ls (lv_sub hl [2, 1, 0] rfl)
  · intro hz ls hl
    replace hf := (if_pos hz).symm.trans hf
    refine lv_iconst (v := (0 : Int32)) hx hb d_m491_41 (by decide) ?_
    obtain rfl := Option.some.inj hf
    subst hQ
    exact W.zret (v := (0 : Int32)) hx hb hr (by decide) (fun t ht hW => ⟨(0 : Int32), rfl, rfl, ht⟩) (fun q h => by cases h) d_m491_42
  · intro hz ls hl
    replace hf := (if_neg (by rw [hz]; decide)).symm.trans hf
    refine lv_iconst (v := (1 : Int32)) hx hb d_m491_49 (by decide) ?_
    obtain rfl := Option.some.inj hf
    subst hQ
    exact W.zret (v := (1 : Int32)) hx hb hr (by decide) (fun t ht hW => ⟨(1 : Int32), rfl, rfl, ht⟩) (fun q h => by cases h) d_m491_50
def f_Draft_isTable_L4b (drf_c : Nat → Int32) (N : Nat) (rec : (Int32 × Int32) → Option (Int32)) (v1_4 : Int32) (v2_4 : Int32) : Option (Int32) :=
  if (16 : Int32) < v2_4 then
    some v1_4
  else
    if v2_4 < 0 ∨ 17 ≤ v2_4.toNatClampNeg then none else
    rec (v1_4 + (drf_c v2_4.toNatClampNeg), v2_4 + (1 : Int32))
def f_Draft_isTable_L4 (drf_c : Nat → Int32) (N : Nat) (k : Nat) : (Int32 × Int32) → Option (Int32) := it (fun rec a => f_Draft_isTable_L4b drf_c N rec a.1 a.2) k
def f_Draft_isTable (N : Nat) (drf_size : Int32) (drf_c : Nat → Int32) (drf_s : Nat → Int32) (drf_z : Nat → Int32) : Option (Int32 × (Nat → Int32)) :=
  (f_Draft_isTable_L4 drf_c N N ((0 : Int32), (1 : Int32))).bind fun z1 =>
    if z1 = drf_size then
    (f_Draft_hasTwins N drf_size drf_s drf_z).bind fun z2 =>
    if z2.1 = 0 then
      (f_Draft_wordsFit N drf_c).bind fun z3 =>
      if z3 = 0 then
        some ((0 : Int32), z2.2)
      else
        some ((1 : Int32), z2.2)
    else
      some ((0 : Int32), z2.2)
  else
    some ((0 : Int32), drf_z)
abbrev w_Draft_isTable (cI cB cS cT : ClassId) (a_drf : Nat) (a_drf_c : Nat) (a_drf_s : Nat) (a_drf_z : Nat) (drf_size : Int32) (drf_c : Nat → Int32) (drf_s : Nat → Int32) (drf_z : Nat → Int32) : va_W := [(a_drf, .inr (6, [.ref a_drf_c, .ref a_drf_s, .ref a_drf_z, .int drf_size])), (a_drf_c, .inl (cI, 17, .inl drf_c)), (a_drf_s, .inl (cI, 256, .inl drf_s)), (a_drf_z, .inl (cB, 256, .inl drf_z))]
def rm_Draft_isTable : Room := { frames := 2, cells := 0, slots := 0, locals := 44 }
set_option maxHeartbeats 1000000 in
set_option maxRecDepth 100000 in
theorem c_Draft_isTable (l : Launch) (dC : Nat → ClassId) (dI : Nat → Nat → Nat) (cI cB cS cT : ClassId) (N : Nat) (a_drf : Nat) (a_drf_c : Nat) (a_drf_s : Nat) (a_drf_z : Nat) (drf_size : Int32) (drf_c : Nat → Int32) (drf_s : Nat → Int32) (drf_z : Nat → Int32) (sz : Nat) (z : Int32 × (Nat → Int32)) (hf : f_Draft_isTable N drf_size drf_c drf_s drf_z = some z) : Met l y_m480 ws_m480 rm_Draft_isTable (gPre (dC, dI) [.ref a_drf] (gT cI cB cS cT) (w_Draft_isTable cI cB cS cT a_drf a_drf_c a_drf_s a_drf_z drf_size drf_c drf_s drf_z) sz) (gQi (dC, dI) (gT cI cB cS cT) z.1 (w_Draft_isTable cI cB cS cT a_drf a_drf_c a_drf_s a_drf_z drf_size drf_c drf_s drf_z) (w_Draft_isTable cI cB cS cT a_drf a_drf_c a_drf_s a_drf_z drf_size drf_c drf_s z.2) sz) 0 0 (va_A (w_Draft_isTable cI cB cS cT a_drf a_drf_c a_drf_s a_drf_z drf_size drf_c drf_s drf_z) sz) := by
  refine Met.ofW (cc := prog_7_method_4_code) (maxL := 3) (ret := (some .boolean)) (by decide) rfl ?_
  intro p e s m args below meth c s₁ B hml hv
  obtain ⟨hargs, hsz, hP, hKN, hD0⟩ := hv
  have hK := hKN.1
  have hx := B.exec
  have hb := B.bytes
  have hr := B.returns
  have hts := atoms_spec (ws := ws_m480) B.pre
  have hown : s.vm.findClass "ScanCoder$Draft" = some m.cls := findClass_of_methodNamed B.named
  have hlocks := B.notSynchronized
  have k0 := hts _ (List.mem_cons_of_mem _ tw_227)
  have k1 := hts _ (List.mem_cons_of_mem _ tw_233)
  have n0 : ∀ w ∈ u_ws "ScanCoder$Draft" T_6 4, w ∈ ws_m480 := fun w h => List.mem_cons_of_mem _ (in_6 w h)
  subst hsz
  have hD := hD0.self (sz := s.heap.size)
  obtain ⟨A, hAe⟩ : ∃ A : Nat → Prop, va_A (w_Draft_isTable cI cB cS cT a_drf a_drf_c a_drf_s a_drf_z drf_size drf_c drf_s drf_z) s.heap.size = A := ⟨_, rfl⟩
  rw [hAe] at hD
  have hA : ∀ q : Nat, s.heap.size ≤ q → A q := fun q h => by rw [← hAe]; exact Or.inr h
  have hS : va_S A s.heap s.heap [] := va_S.rf
  have hl := lv_entry ([.ref a_drf]) (n := 3) (Nat.le_of_ble_eq_true rfl)
  have hfr : entryFrame m args 3 = F0 m 0 ((lg_sl ([.ref a_drf]) ++ List.replicate (3 - (lg_sl ([.ref a_drf])).length) Slot.unset).toArray) [] := by rw [hargs]; exact lg_entry_eq _ _ _
  rw [hfr]
  generalize (lg_sl ([.ref a_drf]) ++ List.replicate (3 - (lg_sl ([.ref a_drf])).length) Slot.unset).toArray = ls at hl ⊢
  have hl : lv_has ls 3 [(0, .ref a_drf)] := hl
  refine gen_Q (fun Q hQ => ?_)
  clear hfr
  have L4 : ∀  (z : Int32), (GW (dC, dI) A p l e (headSpec ws_m480 rm_Draft_isTable).room s m args below meth c 0 0 Q 3 25 (w_Draft_isTable cI cB cS cT a_drf a_drf_c a_drf_s a_drf_z drf_size drf_c drf_s drf_z) [(0, .ref a_drf), (1, .int z)] []) → ∀ (k : Nat) (v1_4 : Int32) (v2_4 : Int32), f_Draft_isTable_L4 drf_c N k (v1_4, v2_4) = some z → GW (dC, dI) A p l e (headSpec ws_m480 rm_Draft_isTable).room s m args below meth c 0 0 Q 3 4 (w_Draft_isTable cI cB cS cT a_drf a_drf_c a_drf_s a_drf_z drf_size drf_c drf_s drf_z) [(0, .ref a_drf), (1, .int v1_4), (2, .int v2_4)] [] := by
    intro  z hE0 k
    induction k with
    | zero =>
      intro v1_4 v2_4 hf
      exact (it_zero hf).elim
    | succ k ih =>
      intro v1_4 v2_4 hf H locs ls hP hD hS hl
      have hf : f_Draft_isTable_L4b drf_c N (f_Draft_isTable_L4 drf_c N k) v1_4 v2_4 = some z := hf
      unfold f_Draft_isTable_L4b at hf
      refine lv_iload_n hx hb d_m480_4 rfl (lv_at hl 2 rfl) ?_
      refine lv_bipush (v := (16 : Int32)) hx hb d_m480_5 (by decide) ?_
      refine lv_icmp_gt (tgt := 25) hx hb d_m480_7 (by decide) (fun hc => ?_) (fun hc => ?_)
      · replace hf := (if_pos hc).symm.trans hf
        obtain rfl := Option.some.inj hf
        exact hE0  H locs ls hP hD hS (lv_sub hl [0, 1] rfl)
      · replace hf := (if_neg hc).symm.trans hf
        refine lv_iload_n hx hb d_m480_10 rfl (lv_at hl 1 rfl) ?_
        refine lv_aload_n hx hb d_m480_11 rfl (lv_at hl 0 rfl) ?_
        refine va_get (D := (dC, dI)) (ci := 6) (v := .ref a_drf_c) (C := "ScanCoder$Draft") (T := T_6) (N := 4) hx hb hts n0 hown hK hP 0 rfl rfl 0 (by decide) k0 (fun _ h9 => h9) rfl d_m480_12 ?_
        refine lv_iload_n hx hb d_m480_15 rfl (lv_at hl 2 rfl) ?_
        obtain ⟨hi, hf⟩ := ob_if hf
        refine va_iald hx hb hK hP 1 0 rfl rfl hi d_m480_16 ?_
        refine lv_iadd hx hb d_m480_17 ?_
        refine lv_istore_n (lv' := [(1, .int (v1_4 + (drf_c v2_4.toNatClampNeg))), (0, .ref a_drf), (2, .int v2_4)]) hx hb d_m480_18 rfl hl (by decide) rfl (fun ls hl => ?_)
        refine lv_iinc (v := v2_4 + (1 : Int32)) (lv' := [(2, .int (v2_4 + (1 : Int32))), (1, .int (v1_4 + (drf_c v2_4.toNatClampNeg))), (0, .ref a_drf)]) hx hb d_m480_19 hl (k := 2) rfl rfl (by decide) rfl (fun ls hl => ?_)
        refine lv_goto (tgt := 4) hx hb d_m480_22 (by decide) ?_
        exact ih (v1_4 + (drf_c v2_4.toNatClampNeg)) (v2_4 + (1 : Int32)) hf H locs ls hP hD hS (lv_sub hl [2, 1, 0] rfl)
  have hgo : ∀ (H : Heap) (locs : List Loc), va_P (dC, dI) vwCl (w_Draft_isTable cI cB cS cT a_drf a_drf_c a_drf_s a_drf_z drf_size drf_c drf_s drf_z) H → va_S A s.heap H locs → W p l e (headSpec ws_m480 rm_Draft_isTable).room s m args below meth c H locs 0 0 Q (F0 m 0 ls []) := by
    intro H locs hP hS
    unfold f_Draft_isTable at hf
    refine lv_iconst (v := (0 : Int32)) hx hb d_m480_0 (by decide) ?_
    refine lv_istore_n (lv' := [(1, .int (0 : Int32)), (0, .ref a_drf)]) hx hb d_m480_1 rfl hl (by decide) rfl (fun ls hl => ?_)
    refine lv_iconst (v := (1 : Int32)) hx hb d_m480_2 (by decide) ?_
    refine lv_istore_n (lv' := [(2, .int (1 : Int32)), (1, .int (0 : Int32)), (0, .ref a_drf)]) hx hb d_m480_3 rfl hl (by decide) rfl (fun ls hl => ?_)
    obtain ⟨z1, hz1, hf⟩ := ob_bind hf
    refine L4  z1 ?_ N (0 : Int32) (1 : Int32) hz1 H locs ls hP hD hS (lv_sub hl [2, 1, 0] rfl)
    · intro H locs ls hP hD hS hl
      refine lv_iload_n hx hb d_m480_25 rfl (lv_at hl 1 rfl) ?_
      refine lv_aload_n hx hb d_m480_26 rfl (lv_at hl 0 rfl) ?_
      refine va_get (D := (dC, dI)) (ci := 6) (v := .int drf_size) (C := "ScanCoder$Draft") (T := T_6) (N := 4) hx hb hts n0 hown hK hP 0 rfl rfl 3 (by decide) k1 (fun _ h9 => h9) rfl d_m480_27 ?_
      refine lv_icmp_ne (tgt := 51) hx hb d_m480_30 (by decide) (fun hc => ?_) (fun hc => ?_)
      · replace hf := (if_neg hc).symm.trans hf
        refine lv_iconst (v := (0 : Int32)) hx hb d_m480_51 (by decide) ?_
        obtain rfl := Option.some.inj hf
        subst hQ
        subst hAe
        exact W.zret (v := (0 : Int32)) hx hb hr (by decide) (fun t ht hW => ⟨⟨(0 : Int32), (), rfl, rfl, by rw [ht]; exact hP, hD⟩, hS.F ht⟩) hS.2.2 d_m480_52
      · replace hf := (if_pos hc).symm.trans hf
        refine lv_aload_n hx hb d_m480_33 rfl (lv_at hl 0 rfl) ?_
        obtain ⟨z2, hz2, hf⟩ := ob_bind hf
        refine g_calli (wc := (w_Draft_hasTwins cI cB cS cT a_drf a_drf_s a_drf_z a_drf_c drf_size drf_s drf_z)) (w1 := (w_Draft_hasTwins cI cB cS cT a_drf a_drf_s a_drf_z a_drf_c drf_size drf_s z2.2)) (w2 := (w_Draft_isTable cI cB cS cT a_drf a_drf_c a_drf_s a_drf_z drf_size drf_c drf_s z2.2)) [0, 2, 3] [some 0, none, some 1, some 2] hP hD hS hA rfl rfl rfl rfl (va_runV (As := []) (rest := []) ⟨hx, hb, hml, hown, hts⟩ (c_Draft_hasTwins l dC dI cI cB cS cT N a_drf a_drf_s a_drf_z a_drf_c drf_size drf_s drf_z H.size z2 hz2) ⟨(callB_of 0 hts (gi tw_484 rfl) rfl rfl rfl (hts _ (List.mem_cons_of_mem _ tw_7)) (hts _ (List.mem_cons_of_mem _ tw_481)) (by decide +kernel) ⟨Nat.le_of_ble_eq_true rfl, Nat.le_of_ble_eq_true rfl⟩), hts _ (List.mem_cons_of_mem _ tw_483), hts _ (List.mem_cons_of_mem _ ts_m484)⟩ ⟨g_blind, va_recv hK hP (ci := 6) (q0 := 0) rfl rfl, g_at hKN (g_pm hP [0, 2, 3] rfl) (hD.sub [0, 2, 3] (by decide) rfl)⟩ rfl rfl hl.1 rfl (lv_room (Nat.le_of_ble_eq_true rfl)) d_m480_34 ⟨Nat.zero_le _, Nat.zero_le _⟩) (fun H locs hP hD hS => ?_)
        refine W.eq (g2 := F0 m 37 ls [.int z2.1]) rfl ?_
        refine lv_if_ne (tgt := 51) hx hb d_m480_37 (by decide) (fun hc => ?_) (fun hc => ?_)
        · replace hf := (if_neg hc).symm.trans hf
          refine lv_iconst (v := (0 : Int32)) hx hb d_m480_51 (by decide) ?_
          obtain rfl := Option.some.inj hf
          subst hQ
          subst hAe
          exact W.zret (v := (0 : Int32)) hx hb hr (by decide) (fun t ht hW => ⟨⟨(0 : Int32), (), rfl, rfl, by rw [ht]; exact hP, hD⟩, hS.F ht⟩) hS.2.2 d_m480_52
        · replace hf := (if_pos hc).symm.trans hf
          refine lv_aload_n hx hb d_m480_40 rfl (lv_at hl 0 rfl) ?_
          obtain ⟨z3, hz3, hf⟩ := ob_bind hf
          refine vp_callSi (g_run (va_runV (As := []) (rest := []) ⟨hx, hb, hml, hown, hts⟩ (c_Draft_wordsFit l dC dI cI cB cS cT N a_drf a_drf_c a_drf_s a_drf_z drf_size drf_c z3 hz3) ⟨(callB_of 0 hts (gi tw_491 rfl) rfl rfl rfl (hts _ (List.mem_cons_of_mem _ tw_7)) (hts _ (List.mem_cons_of_mem _ tw_488)) (by decide +kernel) ⟨Nat.le_of_ble_eq_true rfl, Nat.le_of_ble_eq_true rfl⟩), hts _ (List.mem_cons_of_mem _ tw_490), hts _ (List.mem_cons_of_mem _ ts_m491)⟩ ⟨gp_blind, va_recv hK hP (ci := 6) (q0 := 0) rfl rfl, gp_at hKN (g_pm hP [0, 1] rfl)⟩ rfl rfl hl.1 rfl (lv_room (Nat.le_of_ble_eq_true rfl)) d_m480_41 ⟨Nat.zero_le _, Nat.zero_le _⟩)) (fun r hrz3 => ?_)
          have hrz3 := hrz3.symm
          subst hrz3
          refine W.eq (g2 := F0 m 44 ls [.int z3]) rfl ?_
          refine lv_if_eq (tgt := 51) hx hb d_m480_44 (by decide) (fun hc => ?_) (fun hc => ?_)
          · replace hf := (if_pos hc).symm.trans hf
            refine lv_iconst (v := (0 : Int32)) hx hb d_m480_51 (by decide) ?_
            obtain rfl := Option.some.inj hf
            subst hQ
            subst hAe
            exact W.zret (v := (0 : Int32)) hx hb hr (by decide) (fun t ht hW => ⟨⟨(0 : Int32), (), rfl, rfl, by rw [ht]; exact hP, hD⟩, hS.F ht⟩) hS.2.2 d_m480_52
          · replace hf := (if_neg hc).symm.trans hf
            refine lv_iconst (v := (1 : Int32)) hx hb d_m480_47 (by decide) ?_
            refine lv_goto (tgt := 52) hx hb d_m480_48 (by decide) ?_
            obtain rfl := Option.some.inj hf
            subst hQ
            subst hAe
            exact W.zret (v := (1 : Int32)) hx hb hr (by decide) (fun t ht hW => ⟨⟨(1 : Int32), (), rfl, rfl, by rw [ht]; exact hP, hD⟩, hS.F ht⟩) hS.2.2 d_m480_52
  exact hgo _ _ hP hS

def f_Table_hasLonger (p0 : Int32) (p1 : Int32) (tab_end : Int32) : Option (Int32) :=
  if tab_end ≤ (p0 <<< (((16 : Int32) - p1) &&& 31)) then
    some (0 : Int32)
  else
    some (1 : Int32)
abbrev w_Table_hasLonger (cI cB cS cT : ClassId) (a_tab : Nat) (a_tab_w : Nat) (a_tab_s : Nat) (a_tab_f : Nat) (a_tab_x : Nat) (tab_end : Int32) (tab_size : Int32) : va_W := [(a_tab, .inr (10, [.ref a_tab_w, .ref a_tab_s, .ref a_tab_f, .ref a_tab_x, .int tab_end, .int tab_size]))]
def rm_Table_hasLonger : Room := { frames := 0, cells := 0, slots := 0, locals := 0 }
set_option maxHeartbeats 1000000 in
set_option maxRecDepth 100000 in
theorem c_Table_hasLonger (l : Launch) (dC : Nat → ClassId) (dI : Nat → Nat → Nat) (cI cB cS cT : ClassId) (a_tab : Nat) (a_tab_w : Nat) (a_tab_s : Nat) (a_tab_f : Nat) (a_tab_x : Nat) (tab_end : Int32) (tab_size : Int32) (p0 : Int32) (p1 : Int32) (z : Int32) (hf : f_Table_hasLonger p0 p1 tab_end = some z) : Met l y_m702 ws_m702 rm_Table_hasLonger (gPreP (dC, dI) [.ref a_tab, .int p0, .int p1] (gT cI cB cS cT) (w_Table_hasLonger cI cB cS cT a_tab a_tab_w a_tab_s a_tab_f a_tab_x tab_end tab_size)) (vp_Si (fun r => r = z)) 0 0 (fun _ => False) := by
  refine Met.ofW (cc := prog_12_method_3_code) (maxL := 3) (ret := (some .boolean)) (by decide) rfl ?_
  intro p e s m args below meth c s₁ B hml hv
  obtain ⟨hargs, hP, hKN⟩ := hv
  have hK := hKN.1
  have hx := B.exec
  have hb := B.bytes
  have hr := B.returns
  have hts := atoms_spec (ws := ws_m702) B.pre
  have hown : s.vm.findClass "ScanCoder$Table" = some m.cls := findClass_of_methodNamed B.named
  have hlocks := B.notSynchronized
  have k0 := hts _ (List.mem_cons_of_mem _ tw_256)
  have n0 : ∀ w ∈ u_ws "ScanCoder$Table" T_10 6, w ∈ ws_m702 := fun w h => List.mem_cons_of_mem _ (in_10 w h)
  have hl := lv_entry ([.ref a_tab, .int p0, .int p1]) (n := 3) (Nat.le_of_ble_eq_true rfl)
  have hfr : entryFrame m args 3 = F0 m 0 ((lg_sl ([.ref a_tab, .int p0, .int p1]) ++ List.replicate (3 - (lg_sl ([.ref a_tab, .int p0, .int p1])).length) Slot.unset).toArray) [] := by rw [hargs]; exact lg_entry_eq _ _ _
  rw [hfr]
  generalize (lg_sl ([.ref a_tab, .int p0, .int p1]) ++ List.replicate (3 - (lg_sl ([.ref a_tab, .int p0, .int p1])).length) Slot.unset).toArray = ls at hl ⊢
  have hl : lv_has ls 3 [(0, .ref a_tab), (1, .int p0), (2, .int p1)] := hl
  refine gen_Q (fun Q hQ => ?_)
  clear hfr
  unfold f_Table_hasLonger at hf
  refine lv_iload_n hx hb d_m702_0 rfl (lv_at hl 1 rfl) ?_
  refine lv_bipush (v := (16 : Int32)) hx hb d_m702_1 (by decide) ?_
  refine lv_iload_n hx hb d_m702_3 rfl (lv_at hl 2 rfl) ?_
  refine lv_isub hx hb d_m702_4 ?_
  refine lv_ishl hx hb d_m702_5 ?_
  refine lv_aload_n hx hb d_m702_6 rfl (lv_at hl 0 rfl) ?_
  refine va_get (D := (dC, dI)) (ci := 10) (v := .int tab_end) (C := "ScanCoder$Table") (T := T_10) (N := 6) hx hb hts n0 hown hK hP 0 rfl rfl 4 (by decide) k0 (fun _ h9 => h9) rfl d_m702_7 ?_
  refine lv_icmp_ge (tgt := 17) hx hb d_m702_10 (by decide) (fun hc => ?_) (fun hc => ?_)
  · replace hf := (if_pos hc).symm.trans hf
    refine lv_iconst (v := (0 : Int32)) hx hb d_m702_17 (by decide) ?_
    obtain rfl := Option.some.inj hf
    subst hQ
    exact W.zret (v := (0 : Int32)) hx hb hr (by decide) (fun t ht hW => ⟨(0 : Int32), rfl, rfl, ht⟩) (fun q h => by cases h) d_m702_18
  · replace hf := (if_neg hc).symm.trans hf
    refine lv_iconst (v := (1 : Int32)) hx hb d_m702_13 (by decide) ?_
    refine lv_goto (tgt := 18) hx hb d_m702_14 (by decide) ?_
    obtain rfl := Option.some.inj hf
    subst hQ
    exact W.zret (v := (1 : Int32)) hx hb hr (by decide) (fun t ht hW => ⟨(1 : Int32), rfl, rfl, ht⟩) (fun q h => by cases h) d_m702_18

def f_Table_symbolOf (p0 : Int32) (p1 : Int32) (tab_s : Nat → Int32) (tab_f : Nat → Int32) (tab_x : Nat → Int32) : Option (Int32) :=
  if p1 < (1 : Int32) then
    some (-1 : Int32)
  else
    if (16 : Int32) < p1 then
      some (-1 : Int32)
    else
      if p1 < 0 ∨ 17 ≤ p1.toNatClampNeg then none else
      if (tab_f p1.toNatClampNeg) ≤ p0 then
        if p1 < 0 ∨ 18 ≤ p1.toNatClampNeg then none else
        if p1 < 0 ∨ 17 ≤ p1.toNatClampNeg then none else
        if (p1 + (1 : Int32)) < 0 ∨ 18 ≤ (p1 + (1 : Int32)).toNatClampNeg then none else
        if (tab_x (p1 + (1 : Int32)).toNatClampNeg) ≤ (((tab_x p1.toNatClampNeg) + p0) - (tab_f p1.toNatClampNeg)) then
          some (-1 : Int32)
        else
          if (((tab_x p1.toNatClampNeg) + p0) - (tab_f p1.toNatClampNeg)) < 0 ∨ 256 ≤ (((tab_x p1.toNatClampNeg) + p0) - (tab_f p1.toNatClampNeg)).toNatClampNeg then none else
          some (tab_s (((tab_x p1.toNatClampNeg) + p0) - (tab_f p1.toNatClampNeg)).toNatClampNeg)
      else
        some (-1 : Int32)
abbrev w_Table_symbolOf (cI cB cS cT : ClassId) (a_tab : Nat) (a_tab_s : Nat) (a_tab_f : Nat) (a_tab_x : Nat) (a_tab_w : Nat) (tab_end : Int32) (tab_size : Int32) (tab_s : Nat → Int32) (tab_f : Nat → Int32) (tab_x : Nat → Int32) : va_W := [(a_tab, .inr (10, [.ref a_tab_w, .ref a_tab_s, .ref a_tab_f, .ref a_tab_x, .int tab_end, .int tab_size])), (a_tab_s, .inl (cI, 256, .inl tab_s)), (a_tab_f, .inl (cI, 17, .inl tab_f)), (a_tab_x, .inl (cI, 18, .inl tab_x))]
def rm_Table_symbolOf : Room := { frames := 0, cells := 0, slots := 0, locals := 0 }
set_option maxHeartbeats 1000000 in
set_option maxRecDepth 100000 in
theorem c_Table_symbolOf (l : Launch) (dC : Nat → ClassId) (dI : Nat → Nat → Nat) (cI cB cS cT : ClassId) (a_tab : Nat) (a_tab_s : Nat) (a_tab_f : Nat) (a_tab_x : Nat) (a_tab_w : Nat) (tab_end : Int32) (tab_size : Int32) (tab_s : Nat → Int32) (tab_f : Nat → Int32) (tab_x : Nat → Int32) (p0 : Int32) (p1 : Int32) (z : Int32) (hf : f_Table_symbolOf p0 p1 tab_s tab_f tab_x = some z) : Met l y_m714 ws_m714 rm_Table_symbolOf (gPreP (dC, dI) [.ref a_tab, .int p0, .int p1] (gT cI cB cS cT) (w_Table_symbolOf cI cB cS cT a_tab a_tab_s a_tab_f a_tab_x a_tab_w tab_end tab_size tab_s tab_f tab_x)) (vp_Si (fun r => r = z)) 0 0 (fun _ => False) := by
  refine Met.ofW (cc := prog_12_method_4_code) (maxL := 4) (ret := (some .int)) (by decide) rfl ?_
  intro p e s m args below meth c s₁ B hml hv
  obtain ⟨hargs, hP, hKN⟩ := hv
  have hK := hKN.1
  have hx := B.exec
  have hb := B.bytes
  have hr := B.returns
  have hts := atoms_spec (ws := ws_m714) B.pre
  have hown : s.vm.findClass "ScanCoder$Table" = some m.cls := findClass_of_methodNamed B.named
  have hlocks := B.notSynchronized
  have k0 := hts _ (List.mem_cons_of_mem _ tw_254)
  have k1 := hts _ (List.mem_cons_of_mem _ tw_255)
  have k2 := hts _ (List.mem_cons_of_mem _ tw_253)
  have n0 : ∀ w ∈ u_ws "ScanCoder$Table" T_10 6, w ∈ ws_m714 := fun w h => List.mem_cons_of_mem _ (in_10 w h)
  have hl := lv_entry ([.ref a_tab, .int p0, .int p1]) (n := 4) (Nat.le_of_ble_eq_true rfl)
  have hfr : entryFrame m args 4 = F0 m 0 ((lg_sl ([.ref a_tab, .int p0, .int p1]) ++ List.replicate (4 - (lg_sl ([.ref a_tab, .int p0, .int p1])).length) Slot.unset).toArray) [] := by rw [hargs]; exact lg_entry_eq _ _ _
  rw [hfr]
  generalize (lg_sl ([.ref a_tab, .int p0, .int p1]) ++ List.replicate (4 - (lg_sl ([.ref a_tab, .int p0, .int p1])).length) Slot.unset).toArray = ls at hl ⊢
  have hl : lv_has ls 4 [(0, .ref a_tab), (1, .int p0), (2, .int p1)] := hl
  refine gen_Q (fun Q hQ => ?_)
  clear hfr
  unfold f_Table_symbolOf at hf
  refine lv_iload_n hx hb d_m714_0 rfl (lv_at hl 2 rfl) ?_
  refine lv_iconst (v := (1 : Int32)) hx hb d_m714_1 (by decide) ?_
  refine lv_icmp_lt (tgt := 21) hx hb d_m714_2 (by decide) (fun hc => ?_) (fun hc => ?_)
  · replace hf := (if_pos hc).symm.trans hf
    refine lv_iconst (v := (-1 : Int32)) hx hb d_m714_21 (by decide) ?_
    obtain rfl := Option.some.inj hf
    subst hQ
    exact W.iret (v := (-1 : Int32)) hx hb hr (fun t ht hW => ⟨(-1 : Int32), rfl, rfl, ht⟩) (fun q h => by cases h) d_m714_22
  · replace hf := (if_neg hc).symm.trans hf
    refine lv_iload_n hx hb d_m714_5 rfl (lv_at hl 2 rfl) ?_
    refine lv_bipush (v := (16 : Int32)) hx hb d_m714_6 (by decide) ?_
    refine lv_icmp_gt (tgt := 21) hx hb d_m714_8 (by decide) (fun hc => ?_) (fun hc => ?_)
    · replace hf := (if_pos hc).symm.trans hf
      refine lv_iconst (v := (-1 : Int32)) hx hb d_m714_21 (by decide) ?_
      obtain rfl := Option.some.inj hf
      subst hQ
      exact W.iret (v := (-1 : Int32)) hx hb hr (fun t ht hW => ⟨(-1 : Int32), rfl, rfl, ht⟩) (fun q h => by cases h) d_m714_22
    · replace hf := (if_neg hc).symm.trans hf
      refine lv_iload_n hx hb d_m714_11 rfl (lv_at hl 1 rfl) ?_
      refine lv_aload_n hx hb d_m714_12 rfl (lv_at hl 0 rfl) ?_
      refine va_get (D := (dC, dI)) (ci := 10) (v := .ref a_tab_f) (C := "ScanCoder$Table") (T := T_10) (N := 6) hx hb hts n0 hown hK hP 0 rfl rfl 2 (by decide) k0 (fun _ h9 => h9) rfl d_m714_13 ?_
      refine lv_iload_n hx hb d_m714_16 rfl (lv_at hl 2 rfl) ?_
      obtain ⟨hi, hf⟩ := ob_if hf
      refine va_iald hx hb hK hP 2 0 rfl rfl hi d_m714_17 ?_
      refine lv_icmp_ge (tgt := 23) hx hb d_m714_18 (by decide) (fun hc => ?_) (fun hc => ?_)
      · replace hf := (if_pos hc).symm.trans hf
        refine lv_aload_n hx hb d_m714_23 rfl (lv_at hl 0 rfl) ?_
        refine va_get (D := (dC, dI)) (ci := 10) (v := .ref a_tab_x) (C := "ScanCoder$Table") (T := T_10) (N := 6) hx hb hts n0 hown hK hP 0 rfl rfl 3 (by decide) k1 (fun _ h9 => h9) rfl d_m714_24 ?_
        refine lv_iload_n hx hb d_m714_27 rfl (lv_at hl 2 rfl) ?_
        obtain ⟨hi, hf⟩ := ob_if hf
        refine va_iald hx hb hK hP 3 0 rfl rfl hi d_m714_28 ?_
        refine lv_iload_n hx hb d_m714_29 rfl (lv_at hl 1 rfl) ?_
        refine lv_iadd hx hb d_m714_30 ?_
        refine lv_aload_n hx hb d_m714_31 rfl (lv_at hl 0 rfl) ?_
        refine va_get (D := (dC, dI)) (ci := 10) (v := .ref a_tab_f) (C := "ScanCoder$Table") (T := T_10) (N := 6) hx hb hts n0 hown hK hP 0 rfl rfl 2 (by decide) k0 (fun _ h9 => h9) rfl d_m714_32 ?_
        refine lv_iload_n hx hb d_m714_35 rfl (lv_at hl 2 rfl) ?_
        obtain ⟨hi, hf⟩ := ob_if hf
        refine va_iald hx hb hK hP 2 0 rfl rfl hi d_m714_36 ?_
        refine lv_isub hx hb d_m714_37 ?_
        refine lv_istore_n (lv' := [(3, .int (((tab_x p1.toNatClampNeg) + p0) - (tab_f p1.toNatClampNeg))), (0, .ref a_tab), (1, .int p0), (2, .int p1)]) hx hb d_m714_38 rfl hl (by decide) rfl (fun ls hl => ?_)
        refine lv_iload_n hx hb d_m714_39 rfl (lv_at hl 0 rfl) ?_
        refine lv_aload_n hx hb d_m714_40 rfl (lv_at hl 1 rfl) ?_
        refine va_get (D := (dC, dI)) (ci := 10) (v := .ref a_tab_x) (C := "ScanCoder$Table") (T := T_10) (N := 6) hx hb hts n0 hown hK hP 0 rfl rfl 3 (by decide) k1 (fun _ h9 => h9) rfl d_m714_41 ?_
        refine lv_iload_n hx hb d_m714_44 rfl (lv_at hl 3 rfl) ?_
        refine lv_iconst (v := (1 : Int32)) hx hb d_m714_45 (by decide) ?_
        refine lv_iadd hx hb d_m714_46 ?_
        obtain ⟨hi, hf⟩ := ob_if hf
        refine va_iald hx hb hK hP 3 0 rfl rfl hi d_m714_47 ?_
        refine lv_icmp_ge (tgt := 60) hx hb d_m714_48 (by decide) (fun hc => ?_) (fun hc => ?_)
        · replace hf := (if_pos hc).symm.trans hf
          refine lv_iconst (v := (-1 : Int32)) hx hb d_m714_60 (by decide) ?_
          obtain rfl := Option.some.inj hf
          subst hQ
          exact W.iret (v := (-1 : Int32)) hx hb hr (fun t ht hW => ⟨(-1 : Int32), rfl, rfl, ht⟩) (fun q h => by cases h) d_m714_61
        · replace hf := (if_neg hc).symm.trans hf
          refine lv_aload_n hx hb d_m714_51 rfl (lv_at hl 1 rfl) ?_
          refine va_get (D := (dC, dI)) (ci := 10) (v := .ref a_tab_s) (C := "ScanCoder$Table") (T := T_10) (N := 6) hx hb hts n0 hown hK hP 0 rfl rfl 1 (by decide) k2 (fun _ h9 => h9) rfl d_m714_52 ?_
          refine lv_iload_n hx hb d_m714_55 rfl (lv_at hl 0 rfl) ?_
          obtain ⟨hi, hf⟩ := ob_if hf
          refine va_iald hx hb hK hP 1 0 rfl rfl hi d_m714_56 ?_
          refine lv_goto (tgt := 61) hx hb d_m714_57 (by decide) ?_
          obtain rfl := Option.some.inj hf
          subst hQ
          exact W.iret (v := tab_s (((tab_x p1.toNatClampNeg) + p0) - (tab_f p1.toNatClampNeg)).toNatClampNeg) hx hb hr (fun t ht hW => ⟨tab_s (((tab_x p1.toNatClampNeg) + p0) - (tab_f p1.toNatClampNeg)).toNatClampNeg, rfl, rfl, ht⟩) (fun q h => by cases h) d_m714_61
      · replace hf := (if_neg hc).symm.trans hf
        refine lv_iconst (v := (-1 : Int32)) hx hb d_m714_21 (by decide) ?_
        obtain rfl := Option.some.inj hf
        subst hQ
        exact W.iret (v := (-1 : Int32)) hx hb hr (fun t ht hW => ⟨(-1 : Int32), rfl, rfl, ht⟩) (fun q h => by cases h) d_m714_22
def f_Table_become_L70b (v4_40 : Int32) (drf_c : Nat → Int32) (tab_size_40 : Int32) (tab_s_40 : Nat → Int32) (N : Nat) (rec : (Int32 × Int32 × Int32 × (Nat → Int32)) → Option (Int32 × Int32 × (Nat → Int32))) (v2_70 : Int32) (v3_70 : Int32) (v5_70 : Int32) (tab_w_70 : Nat → Int32) : Option (Int32 × Int32 × (Nat → Int32)) :=
  if v4_40 < 0 ∨ 17 ≤ v4_40.toNatClampNeg then none else
  if (drf_c v4_40.toNatClampNeg) ≤ v5_70 then
    some (v2_70, v3_70, tab_w_70)
  else
    if tab_size_40 ≤ v3_70 then
      some (v2_70, v3_70, tab_w_70)
    else
      if v3_70 < 0 ∨ 256 ≤ v3_70.toNatClampNeg then none else
      if (tab_s_40 v3_70.toNatClampNeg) < 0 ∨ 256 ≤ (tab_s_40 v3_70.toNatClampNeg).toNatClampNeg then none else
      rec (v2_70 + (1 : Int32), v3_70 + (1 : Int32), v5_70 + (1 : Int32), upd tab_w_70 (tab_s_40 v3_70.toNatClampNeg).toNatClampNeg (((1 : Int32) <<< (v4_40 &&& 31)) ||| v2_70))
def f_Table_become_L70 (v4_40 : Int32) (drf_c : Nat → Int32) (tab_size_40 : Int32) (tab_s_40 : Nat → Int32) (N : Nat) (k : Nat) : (Int32 × Int32 × Int32 × (Nat → Int32)) → Option (Int32 × Int32 × (Nat → Int32)) := it (fun rec a => f_Table_become_L70b v4_40 drf_c tab_size_40 tab_s_40 N rec a.1 a.2.1 a.2.2.1 a.2.2.2) k
def f_Table_become_J40_119 (N : Nat) (rec : (Int32 × Int32 × Int32 × (Nat → Int32) × (Nat → Int32) × (Nat → Int32)) → Option (Int32 × Int32 × (Nat → Int32) × (Nat → Int32) × (Nat → Int32))) (v2_j119 : Int32) (v3_j119 : Int32) (v4_40 : Int32) (tab_w_j119 : Nat → Int32) (tab_f_j119 : Nat → Int32) (tab_x_j119 : Nat → Int32) : Option (Int32 × Int32 × (Nat → Int32) × (Nat → Int32) × (Nat → Int32)) :=
  rec (v2_j119, v3_j119, v4_40 + (1 : Int32), tab_w_j119, tab_f_j119, tab_x_j119)
def f_Table_become_L40b (drf_c : Nat → Int32) (tab_size_40 : Int32) (tab_s_40 : Nat → Int32) (N : Nat) (rec : (Int32 × Int32 × Int32 × (Nat → Int32) × (Nat → Int32) × (Nat → Int32)) → Option (Int32 × Int32 × (Nat → Int32) × (Nat → Int32) × (Nat → Int32))) (v2_40 : Int32) (v3_40 : Int32) (v4_40 : Int32) (tab_w_40 : Nat → Int32) (tab_f_40 : Nat → Int32) (tab_x_40 : Nat → Int32) : Option (Int32 × Int32 × (Nat → Int32) × (Nat → Int32) × (Nat → Int32)) :=
  if (16 : Int32) < v4_40 then
    some (v2_40, v3_40, tab_w_40, tab_f_40, tab_x_40)
  else
    if v4_40 < 0 ∨ 17 ≤ v4_40.toNatClampNeg then none else
    if v4_40 < 0 ∨ 18 ≤ v4_40.toNatClampNeg then none else
    (f_Table_become_L70 v4_40 drf_c tab_size_40 tab_s_40 N N ((2 : Int32) * v2_40, v3_40, (0 : Int32), tab_w_40)).bind fun z2 =>
      f_Table_become_J40_119 N rec z2.1 z2.2.1 v4_40 z2.2.2 (upd tab_f_40 v4_40.toNatClampNeg ((2 : Int32) * v2_40)) (upd tab_x_40 v4_40.toNatClampNeg v3_40)
def f_Table_become_L40 (drf_c : Nat → Int32) (tab_size_40 : Int32) (tab_s_40 : Nat → Int32) (N : Nat) (k : Nat) : (Int32 × Int32 × Int32 × (Nat → Int32) × (Nat → Int32) × (Nat → Int32)) → Option (Int32 × Int32 × (Nat → Int32) × (Nat → Int32) × (Nat → Int32)) := it (fun rec a => f_Table_become_L40b drf_c tab_size_40 tab_s_40 N rec a.1 a.2.1 a.2.2.1 a.2.2.2.1 a.2.2.2.2.1 a.2.2.2.2.2) k
def f_Table_become (N : Nat) (drf_size : Int32) (drf_c : Nat → Int32) (drf_s : Nat → Int32) (tab_w : Nat → Int32) (tab_s : Nat → Int32) (tab_f : Nat → Int32) (tab_x : Nat → Int32) : Option (Int32 × Int32 × (Nat → Int32) × (Nat → Int32) × (Nat → Int32) × (Nat → Int32)) :=
  (f_Arrays_fillI N (0 : Int32) 256 tab_w).bind fun z1 =>
  if (0 : Int32) < 0 then none else if (0 : Int32) < 0 then none else if drf_size < 0 then none else if 256 < (0 : Int32).toNatClampNeg + drf_size.toNatClampNeg then none else if 256 < (0 : Int32).toNatClampNeg + drf_size.toNatClampNeg then none else 
  (f_Table_become_L40 drf_c drf_size (va_cpy drf_s tab_s (0 : Int32).toNatClampNeg (0 : Int32).toNatClampNeg drf_size.toNatClampNeg) N N ((0 : Int32), (0 : Int32), (1 : Int32), z1, tab_f, tab_x)).bind fun z3 =>
    some (z3.1, drf_size, z3.2.2.1, va_cpy drf_s tab_s (0 : Int32).toNatClampNeg (0 : Int32).toNatClampNeg drf_size.toNatClampNeg, z3.2.2.2.1, upd z3.2.2.2.2 (17 : Int32).toNatClampNeg z3.2.1)
abbrev w_Table_become (cI cB cS cT : ClassId) (a_drf : Nat) (a_drf_c : Nat) (a_drf_s : Nat) (a_tab : Nat) (a_tab_w : Nat) (a_tab_s : Nat) (a_tab_f : Nat) (a_tab_x : Nat) (a_drf_z : Nat) (drf_size : Int32) (drf_c : Nat → Int32) (drf_s : Nat → Int32) (tab_end : Int32) (tab_size : Int32) (tab_w : Nat → Int32) (tab_s : Nat → Int32) (tab_f : Nat → Int32) (tab_x : Nat → Int32) : va_W := [(a_drf, .inr (6, [.ref a_drf_c, .ref a_drf_s, .ref a_drf_z, .int drf_size])), (a_drf_c, .inl (cI, 17, .inl drf_c)), (a_drf_s, .inl (cI, 256, .inl drf_s)), (a_tab, .inr (10, [.ref a_tab_w, .ref a_tab_s, .ref a_tab_f, .ref a_tab_x, .int tab_end, .int tab_size])), (a_tab_w, .inl (cI, 256, .inl tab_w)), (a_tab_s, .inl (cI, 256, .inl tab_s)), (a_tab_f, .inl (cI, 17, .inl tab_f)), (a_tab_x, .inl (cI, 18, .inl tab_x))]
def rm_Table_become : Room := { frames := 1, cells := 0, slots := 0, locals := 32 }
set_option maxHeartbeats 1000000 in
set_option maxRecDepth 100000 in
theorem c_Table_become (l : Launch) (dC : Nat → ClassId) (dI : Nat → Nat → Nat) (cI cB cS cT : ClassId) (N : Nat) (a_drf : Nat) (a_drf_c : Nat) (a_drf_s : Nat) (a_tab : Nat) (a_tab_w : Nat) (a_tab_s : Nat) (a_tab_f : Nat) (a_tab_x : Nat) (a_drf_z : Nat) (drf_size : Int32) (drf_c : Nat → Int32) (drf_s : Nat → Int32) (tab_end : Int32) (tab_size : Int32) (tab_w : Nat → Int32) (tab_s : Nat → Int32) (tab_f : Nat → Int32) (tab_x : Nat → Int32) (sz : Nat) (z : Int32 × Int32 × (Nat → Int32) × (Nat → Int32) × (Nat → Int32) × (Nat → Int32)) (hf : f_Table_become N drf_size drf_c drf_s tab_w tab_s tab_f tab_x = some z) : Met l y_m495 ws_m495 rm_Table_become (gPre (dC, dI) [.ref a_tab, .ref a_drf] (gT cI cB cS cT) (w_Table_become cI cB cS cT a_drf a_drf_c a_drf_s a_tab a_tab_w a_tab_s a_tab_f a_tab_x a_drf_z drf_size drf_c drf_s tab_end tab_size tab_w tab_s tab_f tab_x) sz) (gQv (dC, dI) (gT cI cB cS cT) (w_Table_become cI cB cS cT a_drf a_drf_c a_drf_s a_tab a_tab_w a_tab_s a_tab_f a_tab_x a_drf_z drf_size drf_c drf_s tab_end tab_size tab_w tab_s tab_f tab_x) (w_Table_become cI cB cS cT a_drf a_drf_c a_drf_s a_tab a_tab_w a_tab_s a_tab_f a_tab_x a_drf_z drf_size drf_c drf_s z.1 z.2.1 z.2.2.1 z.2.2.2.1 z.2.2.2.2.1 z.2.2.2.2.2) sz) 0 0 (va_A (w_Table_become cI cB cS cT a_drf a_drf_c a_drf_s a_tab a_tab_w a_tab_s a_tab_f a_tab_x a_drf_z drf_size drf_c drf_s tab_end tab_size tab_w tab_s tab_f tab_x) sz) := by
  refine Met.ofW (cc := prog_12_method_2_code) (maxL := 6) (ret := none) (by decide) rfl ?_
  intro p e s m args below meth c s₁ B hml hv
  obtain ⟨hargs, hsz, hP, hKN, hD0⟩ := hv
  have hK := hKN.1
  have hx := B.exec
  have hb := B.bytes
  have hr := B.returns
  have hts := atoms_spec (ws := ws_m495) B.pre
  have hown : s.vm.findClass "ScanCoder$Table" = some m.cls := findClass_of_methodNamed B.named
  have hlocks := B.notSynchronized
  have k0 := hts _ (List.mem_cons_of_mem _ tw_251)
  have k1 := hts _ (List.mem_cons_of_mem _ tw_232)
  have k2 := hts _ (List.mem_cons_of_mem _ tw_257)
  have k3 := hts _ (List.mem_cons_of_mem _ tw_230)
  have k4 := hts _ (List.mem_cons_of_mem _ tw_253)
  have k5 := hts _ (List.mem_cons_of_mem _ tw_497)
  have k6 := hts _ (List.mem_cons_of_mem _ tw_499)
  have k7 := hts _ (List.mem_cons_of_mem _ tw_498)
  have k8 := hts _ (List.mem_cons_of_mem _ tw_17)
  have k9 := hts _ (List.mem_cons_of_mem _ tw_254)
  have k10 := hts _ (List.mem_cons_of_mem _ tw_255)
  have k11 := hts _ (List.mem_cons_of_mem _ tw_228)
  have k12 := hts _ (List.mem_cons_of_mem _ tw_256)
  have n0 : ∀ w ∈ u_ws "ScanCoder$Table" T_10 6, w ∈ ws_m495 := fun w h => List.mem_cons_of_mem _ (in_10 w h)
  have n1 : ∀ w ∈ u_ws "ScanCoder$Draft" T_6 4, w ∈ ws_m495 := fun w h => List.mem_cons_of_mem _ (in_6 w h)
  subst hsz
  have hD := hD0.self (sz := s.heap.size)
  obtain ⟨A, hAe⟩ : ∃ A : Nat → Prop, va_A (w_Table_become cI cB cS cT a_drf a_drf_c a_drf_s a_tab a_tab_w a_tab_s a_tab_f a_tab_x a_drf_z drf_size drf_c drf_s tab_end tab_size tab_w tab_s tab_f tab_x) s.heap.size = A := ⟨_, rfl⟩
  rw [hAe] at hD
  have hA : ∀ q : Nat, s.heap.size ≤ q → A q := fun q h => by rw [← hAe]; exact Or.inr h
  have hS : va_S A s.heap s.heap [] := va_S.rf
  have hl := lv_entry ([.ref a_tab, .ref a_drf]) (n := 6) (Nat.le_of_ble_eq_true rfl)
  have hfr : entryFrame m args 6 = F0 m 0 ((lg_sl ([.ref a_tab, .ref a_drf]) ++ List.replicate (6 - (lg_sl ([.ref a_tab, .ref a_drf])).length) Slot.unset).toArray) [] := by rw [hargs]; exact lg_entry_eq _ _ _
  rw [hfr]
  generalize (lg_sl ([.ref a_tab, .ref a_drf]) ++ List.replicate (6 - (lg_sl ([.ref a_tab, .ref a_drf])).length) Slot.unset).toArray = ls at hl ⊢
  have hl : lv_has ls 6 [(0, .ref a_tab), (1, .ref a_drf)] := hl
  refine gen_Q (fun Q hQ => ?_)
  clear hfr
  have L70 : ∀ (tab_f_70 : Nat → Int32) (tab_x_70 : Nat → Int32) (v4_40 : Int32) (tab_size_40 : Int32) (tab_s_40 : Nat → Int32) (z : Int32 × Int32 × (Nat → Int32)), (GW (dC, dI) A p l e (headSpec ws_m495 rm_Table_become).room s m args below meth c 0 0 Q 6 119 (w_Table_become cI cB cS cT a_drf a_drf_c a_drf_s a_tab a_tab_w a_tab_s a_tab_f a_tab_x a_drf_z drf_size drf_c drf_s tab_end tab_size_40 z.2.2 tab_s_40 tab_f_70 tab_x_70) [(0, .ref a_tab), (1, .ref a_drf), (2, .int z.1), (3, .int z.2.1), (4, .int v4_40)] []) → ∀ (k : Nat) (v2_70 : Int32) (v3_70 : Int32) (v5_70 : Int32) (tab_w_70 : Nat → Int32), f_Table_become_L70 v4_40 drf_c tab_size_40 tab_s_40 N k (v2_70, v3_70, v5_70, tab_w_70) = some z → GW (dC, dI) A p l e (headSpec ws_m495 rm_Table_become).room s m args below meth c 0 0 Q 6 70 (w_Table_become cI cB cS cT a_drf a_drf_c a_drf_s a_tab a_tab_w a_tab_s a_tab_f a_tab_x a_drf_z drf_size drf_c drf_s tab_end tab_size_40 tab_w_70 tab_s_40 tab_f_70 tab_x_70) [(0, .ref a_tab), (1, .ref a_drf), (2, .int v2_70), (3, .int v3_70), (4, .int v4_40), (5, .int v5_70)] [] := by
    intro tab_f_70 tab_x_70 v4_40 tab_size_40 tab_s_40 z hE0 k
    induction k with
    | zero =>
      intro v2_70 v3_70 v5_70 tab_w_70 hf
      exact (it_zero hf).elim
    | succ k ih =>
      intro v2_70 v3_70 v5_70 tab_w_70 hf H locs ls hP hD hS hl
      have hf : f_Table_become_L70b v4_40 drf_c tab_size_40 tab_s_40 N (f_Table_become_L70 v4_40 drf_c tab_size_40 tab_s_40 N k) v2_70 v3_70 v5_70 tab_w_70 = some z := hf
      unfold f_Table_become_L70b at hf
      refine lv_iload hx hb d_m495_70 (lv_at hl 5 rfl) ?_
      refine lv_aload_n hx hb d_m495_72 rfl (lv_at hl 1 rfl) ?_
      refine va_get (D := (dC, dI)) (ci := 6) (v := .ref a_drf_c) (C := "ScanCoder$Draft") (T := T_6) (N := 4) hx hb hts n1 hown hK hP 0 rfl rfl 0 (by decide) k11 (fun _ h9 => h9) rfl d_m495_73 ?_
      refine lv_iload hx hb d_m495_76 (lv_at hl 4 rfl) ?_
      obtain ⟨hi, hf⟩ := ob_if hf
      refine va_iald hx hb hK hP 1 0 rfl rfl hi d_m495_78 ?_
      refine lv_icmp_ge (tgt := 119) hx hb d_m495_79 (by decide) (fun hc => ?_) (fun hc => ?_)
      · replace hf := (if_pos hc).symm.trans hf
        obtain rfl := Option.some.inj hf
        exact hE0  H locs ls hP hD hS (lv_sub hl [0, 1, 2, 3, 4] rfl)
      · replace hf := (if_neg hc).symm.trans hf
        refine lv_iload_n hx hb d_m495_82 rfl (lv_at hl 3 rfl) ?_
        refine lv_aload_n hx hb d_m495_83 rfl (lv_at hl 0 rfl) ?_
        refine va_get (D := (dC, dI)) (ci := 10) (v := .int tab_size_40) (C := "ScanCoder$Table") (T := T_10) (N := 6) hx hb hts n0 hown hK hP 3 rfl rfl 5 (by decide) k2 (fun _ h9 => h9) rfl d_m495_84 ?_
        refine lv_icmp_ge (tgt := 119) hx hb d_m495_87 (by decide) (fun hc => ?_) (fun hc => ?_)
        · replace hf := (if_pos hc).symm.trans hf
          obtain rfl := Option.some.inj hf
          exact hE0  H locs ls hP hD hS (lv_sub hl [0, 1, 2, 3, 4] rfl)
        · replace hf := (if_neg hc).symm.trans hf
          refine lv_aload_n hx hb d_m495_90 rfl (lv_at hl 0 rfl) ?_
          refine va_get (D := (dC, dI)) (ci := 10) (v := .ref a_tab_w) (C := "ScanCoder$Table") (T := T_10) (N := 6) hx hb hts n0 hown hK hP 3 rfl rfl 0 (by decide) k0 (fun _ h9 => h9) rfl d_m495_91 ?_
          refine lv_aload_n hx hb d_m495_94 rfl (lv_at hl 0 rfl) ?_
          refine va_get (D := (dC, dI)) (ci := 10) (v := .ref a_tab_s) (C := "ScanCoder$Table") (T := T_10) (N := 6) hx hb hts n0 hown hK hP 3 rfl rfl 1 (by decide) k4 (fun _ h9 => h9) rfl d_m495_95 ?_
          refine lv_iload_n hx hb d_m495_98 rfl (lv_at hl 3 rfl) ?_
          obtain ⟨hi, hf⟩ := ob_if hf
          refine va_iald hx hb hK hP 5 0 rfl rfl hi d_m495_99 ?_
          refine lv_iconst (v := (1 : Int32)) hx hb d_m495_100 (by decide) ?_
          refine lv_iload hx hb d_m495_101 (lv_at hl 4 rfl) ?_
          refine lv_ishl hx hb d_m495_103 ?_
          refine lv_iload_n hx hb d_m495_104 rfl (lv_at hl 2 rfl) ?_
          refine lv_ior hx hb d_m495_105 ?_
          obtain ⟨hi, hf⟩ := ob_if hf
          refine va_iast hx hb hK hP hD hS 4 0 rfl rfl hi d_m495_106 (fun H locs hP hD hS => ?_)
          have hP : va_P (dC, dI) vwCl (w_Table_become cI cB cS cT a_drf a_drf_c a_drf_s a_tab a_tab_w a_tab_s a_tab_f a_tab_x a_drf_z drf_size drf_c drf_s tab_end tab_size_40 (upd tab_w_70 (tab_s_40 v3_70.toNatClampNeg).toNatClampNeg (((1 : Int32) <<< (v4_40 &&& 31)) ||| v2_70)) tab_s_40 tab_f_70 tab_x_70) H := hP
          have hD : va_D A (w_Table_become cI cB cS cT a_drf a_drf_c a_drf_s a_tab a_tab_w a_tab_s a_tab_f a_tab_x a_drf_z drf_size drf_c drf_s tab_end tab_size_40 (upd tab_w_70 (tab_s_40 v3_70.toNatClampNeg).toNatClampNeg (((1 : Int32) <<< (v4_40 &&& 31)) ||| v2_70)) tab_s_40 tab_f_70 tab_x_70) := hD
          refine lv_iinc (v := v2_70 + (1 : Int32)) (lv' := [(2, .int (v2_70 + (1 : Int32))), (0, .ref a_tab), (1, .ref a_drf), (3, .int v3_70), (4, .int v4_40), (5, .int v5_70)]) hx hb d_m495_107 hl (k := 2) rfl rfl (by decide) rfl (fun ls hl => ?_)
          refine lv_iinc (v := v3_70 + (1 : Int32)) (lv' := [(3, .int (v3_70 + (1 : Int32))), (2, .int (v2_70 + (1 : Int32))), (0, .ref a_tab), (1, .ref a_drf), (4, .int v4_40), (5, .int v5_70)]) hx hb d_m495_110 hl (k := 3) rfl rfl (by decide) rfl (fun ls hl => ?_)
          refine lv_iinc (v := v5_70 + (1 : Int32)) (lv' := [(5, .int (v5_70 + (1 : Int32))), (3, .int (v3_70 + (1 : Int32))), (2, .int (v2_70 + (1 : Int32))), (0, .ref a_tab), (1, .ref a_drf), (4, .int v4_40)]) hx hb d_m495_113 hl (k := 5) rfl rfl (by decide) rfl (fun ls hl => ?_)
          refine lv_goto (tgt := 70) hx hb d_m495_116 (by decide) ?_
          exact ih (v2_70 + (1 : Int32)) (v3_70 + (1 : Int32)) (v5_70 + (1 : Int32)) (upd tab_w_70 (tab_s_40 v3_70.toNatClampNeg).toNatClampNeg (((1 : Int32) <<< (v4_40 &&& 31)) ||| v2_70)) hf H locs ls hP hD hS (lv_sub hl [3, 4, 2, 1, 5, 0] rfl)
  have L40 : ∀ (tab_size_40 : Int32) (tab_s_40 : Nat → Int32) (z : Int32 × Int32 × (Nat → Int32) × (Nat → Int32) × (Nat → Int32)), (GW (dC, dI) A p l e (headSpec ws_m495 rm_Table_become).room s m args below meth c 0 0 Q 6 125 (w_Table_become cI cB cS cT a_drf a_drf_c a_drf_s a_tab a_tab_w a_tab_s a_tab_f a_tab_x a_drf_z drf_size drf_c drf_s tab_end tab_size_40 z.2.2.1 tab_s_40 z.2.2.2.1 z.2.2.2.2) [(0, .ref a_tab), (2, .int z.1), (3, .int z.2.1)] []) → ∀ (k : Nat) (v2_40 : Int32) (v3_40 : Int32) (v4_40 : Int32) (tab_w_40 : Nat → Int32) (tab_f_40 : Nat → Int32) (tab_x_40 : Nat → Int32), f_Table_become_L40 drf_c tab_size_40 tab_s_40 N k (v2_40, v3_40, v4_40, tab_w_40, tab_f_40, tab_x_40) = some z → GW (dC, dI) A p l e (headSpec ws_m495 rm_Table_become).room s m args below meth c 0 0 Q 6 40 (w_Table_become cI cB cS cT a_drf a_drf_c a_drf_s a_tab a_tab_w a_tab_s a_tab_f a_tab_x a_drf_z drf_size drf_c drf_s tab_end tab_size_40 tab_w_40 tab_s_40 tab_f_40 tab_x_40) [(0, .ref a_tab), (1, .ref a_drf), (2, .int v2_40), (3, .int v3_40), (4, .int v4_40)] [] := by
    intro tab_size_40 tab_s_40 z hE0 k
    induction k with
    | zero =>
      intro v2_40 v3_40 v4_40 tab_w_40 tab_f_40 tab_x_40 hf
      exact (it_zero hf).elim
    | succ k ih =>
      intro v2_40 v3_40 v4_40 tab_w_40 tab_f_40 tab_x_40 hf H locs ls hP hD hS hl
      have J40_119 : ∀ (v2_j119 : Int32) (v3_j119 : Int32) (tab_w_j119 : Nat → Int32) (tab_f_j119 : Nat → Int32) (tab_x_j119 : Nat → Int32), f_Table_become_J40_119 N (f_Table_become_L40 drf_c tab_size_40 tab_s_40 N k) v2_j119 v3_j119 v4_40 tab_w_j119 tab_f_j119 tab_x_j119 = some z → GW (dC, dI) A p l e (headSpec ws_m495 rm_Table_become).room s m args below meth c 0 0 Q 6 119 (w_Table_become cI cB cS cT a_drf a_drf_c a_drf_s a_tab a_tab_w a_tab_s a_tab_f a_tab_x a_drf_z drf_size drf_c drf_s tab_end tab_size_40 tab_w_j119 tab_s_40 tab_f_j119 tab_x_j119) [(0, .ref a_tab), (1, .ref a_drf), (2, .int v2_j119), (3, .int v3_j119), (4, .int v4_40)] [] := by
        intro v2_j119 v3_j119 tab_w_j119 tab_f_j119 tab_x_j119 hf H locs ls hP hD hS hl
        unfold f_Table_become_J40_119 at hf
        refine lv_iinc (v := v4_40 + (1 : Int32)) (lv' := [(4, .int (v4_40 + (1 : Int32))), (0, .ref a_tab), (1, .ref a_drf), (2, .int v2_j119), (3, .int v3_j119)]) hx hb d_m495_119 hl (k := 4) rfl rfl (by decide) rfl (fun ls hl => ?_)
        refine lv_goto (tgt := 40) hx hb d_m495_122 (by decide) ?_
        exact ih v2_j119 v3_j119 (v4_40 + (1 : Int32)) tab_w_j119 tab_f_j119 tab_x_j119 hf H locs ls hP hD hS (lv_sub hl [1, 2, 3, 4, 0] rfl)
      have hf : f_Table_become_L40b drf_c tab_size_40 tab_s_40 N (f_Table_become_L40 drf_c tab_size_40 tab_s_40 N k) v2_40 v3_40 v4_40 tab_w_40 tab_f_40 tab_x_40 = some z := hf
      unfold f_Table_become_L40b at hf
      refine lv_iload hx hb d_m495_40 (lv_at hl 4 rfl) ?_
      refine lv_bipush (v := (16 : Int32)) hx hb d_m495_42 (by decide) ?_
      refine lv_icmp_gt (tgt := 125) hx hb d_m495_44 (by decide) (fun hc => ?_) (fun hc => ?_)
      · replace hf := (if_pos hc).symm.trans hf
        obtain rfl := Option.some.inj hf
        exact hE0  H locs ls hP hD hS (lv_sub hl [0, 2, 3] rfl)
      · replace hf := (if_neg hc).symm.trans hf
        refine lv_iconst (v := (2 : Int32)) hx hb d_m495_47 (by decide) ?_
        refine lv_iload_n hx hb d_m495_48 rfl (lv_at hl 2 rfl) ?_
        refine lv_imul hx hb d_m495_49 ?_
        refine lv_istore_n (lv' := [(2, .int ((2 : Int32) * v2_40)), (0, .ref a_tab), (1, .ref a_drf), (3, .int v3_40), (4, .int v4_40)]) hx hb d_m495_50 rfl hl (by decide) rfl (fun ls hl => ?_)
        refine lv_aload_n hx hb d_m495_51 rfl (lv_at hl 1 rfl) ?_
        refine va_get (D := (dC, dI)) (ci := 10) (v := .ref a_tab_f) (C := "ScanCoder$Table") (T := T_10) (N := 6) hx hb hts n0 hown hK hP 3 rfl rfl 2 (by decide) k9 (fun _ h9 => h9) rfl d_m495_52 ?_
        refine lv_iload hx hb d_m495_55 (lv_at hl 4 rfl) ?_
        refine lv_iload_n hx hb d_m495_57 rfl (lv_at hl 0 rfl) ?_
        obtain ⟨hi, hf⟩ := ob_if hf
        refine va_iast hx hb hK hP hD hS 6 0 rfl rfl hi d_m495_58 (fun H locs hP hD hS => ?_)
        have hP : va_P (dC, dI) vwCl (w_Table_become cI cB cS cT a_drf a_drf_c a_drf_s a_tab a_tab_w a_tab_s a_tab_f a_tab_x a_drf_z drf_size drf_c drf_s tab_end tab_size_40 tab_w_40 tab_s_40 (upd tab_f_40 v4_40.toNatClampNeg ((2 : Int32) * v2_40)) tab_x_40) H := hP
        have hD : va_D A (w_Table_become cI cB cS cT a_drf a_drf_c a_drf_s a_tab a_tab_w a_tab_s a_tab_f a_tab_x a_drf_z drf_size drf_c drf_s tab_end tab_size_40 tab_w_40 tab_s_40 (upd tab_f_40 v4_40.toNatClampNeg ((2 : Int32) * v2_40)) tab_x_40) := hD
        refine lv_aload_n hx hb d_m495_59 rfl (lv_at hl 1 rfl) ?_
        refine va_get (D := (dC, dI)) (ci := 10) (v := .ref a_tab_x) (C := "ScanCoder$Table") (T := T_10) (N := 6) hx hb hts n0 hown hK hP 3 rfl rfl 3 (by decide) k10 (fun _ h9 => h9) rfl d_m495_60 ?_
        refine lv_iload hx hb d_m495_63 (lv_at hl 4 rfl) ?_
        refine lv_iload_n hx hb d_m495_65 rfl (lv_at hl 3 rfl) ?_
        obtain ⟨hi, hf⟩ := ob_if hf
        refine va_iast hx hb hK hP hD hS 7 0 rfl rfl hi d_m495_66 (fun H locs hP hD hS => ?_)
        have hP : va_P (dC, dI) vwCl (w_Table_become cI cB cS cT a_drf a_drf_c a_drf_s a_tab a_tab_w a_tab_s a_tab_f a_tab_x a_drf_z drf_size drf_c drf_s tab_end tab_size_40 tab_w_40 tab_s_40 (upd tab_f_40 v4_40.toNatClampNeg ((2 : Int32) * v2_40)) (upd tab_x_40 v4_40.toNatClampNeg v3_40)) H := hP
        have hD : va_D A (w_Table_become cI cB cS cT a_drf a_drf_c a_drf_s a_tab a_tab_w a_tab_s a_tab_f a_tab_x a_drf_z drf_size drf_c drf_s tab_end tab_size_40 tab_w_40 tab_s_40 (upd tab_f_40 v4_40.toNatClampNeg ((2 : Int32) * v2_40)) (upd tab_x_40 v4_40.toNatClampNeg v3_40)) := hD
        refine lv_iconst (v := (0 : Int32)) hx hb d_m495_67 (by decide) ?_
        refine lv_istore (lv' := [(5, .int (0 : Int32)), (2, .int ((2 : Int32) * v2_40)), (0, .ref a_tab), (1, .ref a_drf), (3, .int v3_40), (4, .int v4_40)]) hx hb d_m495_68 hl (by decide) rfl (fun ls hl => ?_)
        obtain ⟨z2, hz2, hf⟩ := ob_bind hf
        refine L70 (upd tab_f_40 v4_40.toNatClampNeg ((2 : Int32) * v2_40)) (upd tab_x_40 v4_40.toNatClampNeg v3_40) v4_40 tab_size_40 tab_s_40 z2 ?_ N ((2 : Int32) * v2_40) v3_40 (0 : Int32) tab_w_40 hz2 H locs ls hP hD hS (lv_sub hl [2, 3, 1, 4, 5, 0] rfl)
        · intro H locs ls hP hD hS hl
          exact J40_119 z2.1 z2.2.1 z2.2.2 (upd tab_f_40 v4_40.toNatClampNeg ((2 : Int32) * v2_40)) (upd tab_x_40 v4_40.toNatClampNeg v3_40) hf H locs ls hP hD hS hl
  have hgo : ∀ (H : Heap) (locs : List Loc), va_P (dC, dI) vwCl (w_Table_become cI cB cS cT a_drf a_drf_c a_drf_s a_tab a_tab_w a_tab_s a_tab_f a_tab_x a_drf_z drf_size drf_c drf_s tab_end tab_size tab_w tab_s tab_f tab_x) H → va_S A s.heap H locs → W p l e (headSpec ws_m495 rm_Table_become).room s m args below meth c H locs 0 0 Q (F0 m 0 ls []) := by
    intro H locs hP hS
    unfold f_Table_become at hf
    refine lv_aload_n hx hb d_m495_0 rfl (lv_at hl 0 rfl) ?_
    refine va_get (D := (dC, dI)) (ci := 10) (v := .ref a_tab_w) (C := "ScanCoder$Table") (T := T_10) (N := 6) hx hb hts n0 hown hK hP 3 rfl rfl 0 (by decide) k0 (fun _ h9 => h9) rfl d_m495_1 ?_
    refine lv_iconst (v := (0 : Int32)) hx hb d_m495_4 (by decide) ?_
    obtain ⟨z1, hz1, hf⟩ := ob_bind hf
    refine g_callv (wc := (w_Arrays_fillI cI cB cS cT a_tab_w 256 tab_w)) (w1 := (w_Arrays_fillI cI cB cS cT a_tab_w 256 z1)) (w2 := (w_Table_become cI cB cS cT a_drf a_drf_c a_drf_s a_tab a_tab_w a_tab_s a_tab_f a_tab_x a_drf_z drf_size drf_c drf_s tab_end tab_size z1 tab_s tab_f tab_x)) [4] [none, none, none, none, some 0, none, none, none] hP hD hS hA rfl rfl rfl rfl (va_runS (As := [.ref a_tab_w, .int (0 : Int32)]) (rest := []) ⟨hx, hb, hml, hown, hts⟩ (c_Arrays_fillI l dC dI cI cB cS cT N a_tab_w 256 tab_w (0 : Int32) H.size z1 hz1) ⟨(callB_of 2 hts (gi tw_122 rfl) rfl rfl rfl (hts _ (List.mem_cons_of_mem _ tw_4)) (hts _ (List.mem_cons_of_mem _ tw_496)) (by decide +kernel) ⟨Nat.le_of_ble_eq_true rfl, Nat.le_of_ble_eq_true rfl⟩), hts _ (List.mem_cons_of_mem _ tw_121)⟩ ⟨g_blind, g_at hKN (g_pm hP [4] rfl) (hD.sub [4] (by decide) rfl)⟩ rfl rfl hl.1 rfl (lv_room (Nat.le_of_ble_eq_true rfl)) d_m495_5 ⟨Nat.zero_le _, Nat.zero_le _⟩) (fun H locs hP hD hS => ?_)
    refine W.eq (g2 := F0 m 8 ls []) rfl ?_
    refine lv_aload_n hx hb d_m495_8 rfl (lv_at hl 0 rfl) ?_
    refine lv_aload_n hx hb d_m495_9 rfl (lv_at hl 1 rfl) ?_
    refine va_get (D := (dC, dI)) (ci := 6) (v := .int drf_size) (C := "ScanCoder$Draft") (T := T_6) (N := 4) hx hb hts n1 hown hK hP 0 rfl rfl 3 (by decide) k1 (fun _ h9 => h9) rfl d_m495_10 ?_
    refine va_put (D := (dC, dI)) (ci := 10) (v := .int drf_size) (ty := .int) (C := "ScanCoder$Table") (T := T_10) (N := 6) hx hb hts n0 ty_10 tyok_10 nm_10 hown hK hP hD hS 3 rfl rfl 5 (by decide) k2 (fun _ h9 => h9) rfl (by decide +kernel) rfl rfl (Nat.le_of_ble_eq_true rfl) d_m495_13 (fun H locs hP hD hS => ?_)
    have hP : va_P (dC, dI) vwCl (w_Table_become cI cB cS cT a_drf a_drf_c a_drf_s a_tab a_tab_w a_tab_s a_tab_f a_tab_x a_drf_z drf_size drf_c drf_s tab_end drf_size z1 tab_s tab_f tab_x) H := hP
    have hD : va_D A (w_Table_become cI cB cS cT a_drf a_drf_c a_drf_s a_tab a_tab_w a_tab_s a_tab_f a_tab_x a_drf_z drf_size drf_c drf_s tab_end drf_size z1 tab_s tab_f tab_x) := hD
    refine lv_aload_n hx hb d_m495_16 rfl (lv_at hl 1 rfl) ?_
    refine va_get (D := (dC, dI)) (ci := 6) (v := .ref a_drf_s) (C := "ScanCoder$Draft") (T := T_6) (N := 4) hx hb hts n1 hown hK hP 0 rfl rfl 1 (by decide) k3 (fun _ h9 => h9) rfl d_m495_17 ?_
    refine lv_iconst (v := (0 : Int32)) hx hb d_m495_20 (by decide) ?_
    refine lv_aload_n hx hb d_m495_21 rfl (lv_at hl 0 rfl) ?_
    refine va_get (D := (dC, dI)) (ci := 10) (v := .ref a_tab_s) (C := "ScanCoder$Table") (T := T_10) (N := 6) hx hb hts n0 hown hK hP 3 rfl rfl 1 (by decide) k4 (fun _ h9 => h9) rfl d_m495_22 ?_
    refine lv_iconst (v := (0 : Int32)) hx hb d_m495_25 (by decide) ?_
    refine lv_aload_n hx hb d_m495_26 rfl (lv_at hl 0 rfl) ?_
    refine va_get (D := (dC, dI)) (ci := 10) (v := .int drf_size) (C := "ScanCoder$Table") (T := T_10) (N := 6) hx hb hts n0 hown hK hP 3 rfl rfl 5 (by decide) k2 (fun _ h9 => h9) rfl d_m495_27 ?_
    obtain ⟨hc0, hf⟩ := ob_if hf
    obtain ⟨hc1, hf⟩ := ob_if hf
    obtain ⟨hc2, hf⟩ := ob_if hf
    obtain ⟨hc3, hf⟩ := ob_if hf
    obtain ⟨hc4, hf⟩ := ob_if hf
    refine va_copyi hx hb (by rw [hml]; exact hl.1.symm) hown k5 k6 k7 k8 hK hP hD hS 2 5 0 0 rfl rfl rfl rfl rfl hc0 hc1 hc2 (Nat.le_of_not_lt hc3) (Nat.le_of_not_lt hc4) (fun _ _ => rfl) (Nat.le_of_ble_eq_true rfl) (Nat.le_of_ble_eq_true rfl) d_m495_30 (fun H locs hP hD hS => ?_)
    have hP : va_P (dC, dI) vwCl (w_Table_become cI cB cS cT a_drf a_drf_c a_drf_s a_tab a_tab_w a_tab_s a_tab_f a_tab_x a_drf_z drf_size drf_c drf_s tab_end drf_size z1 (va_cpy drf_s tab_s (0 : Int32).toNatClampNeg (0 : Int32).toNatClampNeg drf_size.toNatClampNeg) tab_f tab_x) H := hP
    have hD : va_D A (w_Table_become cI cB cS cT a_drf a_drf_c a_drf_s a_tab a_tab_w a_tab_s a_tab_f a_tab_x a_drf_z drf_size drf_c drf_s tab_end drf_size z1 (va_cpy drf_s tab_s (0 : Int32).toNatClampNeg (0 : Int32).toNatClampNeg drf_size.toNatClampNeg) tab_f tab_x) := hD
    refine W.eq (g2 := F0 m 33 ls []) rfl ?_
    refine lv_iconst (v := (0 : Int32)) hx hb d_m495_33 (by decide) ?_
    refine lv_istore_n (lv' := [(2, .int (0 : Int32)), (0, .ref a_tab), (1, .ref a_drf)]) hx hb d_m495_34 rfl hl (by decide) rfl (fun ls hl => ?_)
    refine lv_iconst (v := (0 : Int32)) hx hb d_m495_35 (by decide) ?_
    refine lv_istore_n (lv' := [(3, .int (0 : Int32)), (2, .int (0 : Int32)), (0, .ref a_tab), (1, .ref a_drf)]) hx hb d_m495_36 rfl hl (by decide) rfl (fun ls hl => ?_)
    refine lv_iconst (v := (1 : Int32)) hx hb d_m495_37 (by decide) ?_
    refine lv_istore (lv' := [(4, .int (1 : Int32)), (3, .int (0 : Int32)), (2, .int (0 : Int32)), (0, .ref a_tab), (1, .ref a_drf)]) hx hb d_m495_38 hl (by decide) rfl (fun ls hl => ?_)
    obtain ⟨z3, hz3, hf⟩ := ob_bind hf
    refine L40 drf_size (va_cpy drf_s tab_s (0 : Int32).toNatClampNeg (0 : Int32).toNatClampNeg drf_size.toNatClampNeg) z3 ?_ N (0 : Int32) (0 : Int32) (1 : Int32) z1 tab_f tab_x hz3 H locs ls hP hD hS (lv_sub hl [3, 4, 2, 1, 0] rfl)
    · intro H locs ls hP hD hS hl
      refine lv_aload_n hx hb d_m495_125 rfl (lv_at hl 0 rfl) ?_
      refine va_get (D := (dC, dI)) (ci := 10) (v := .ref a_tab_x) (C := "ScanCoder$Table") (T := T_10) (N := 6) hx hb hts n0 hown hK hP 3 rfl rfl 3 (by decide) k10 (fun _ h9 => h9) rfl d_m495_126 ?_
      refine lv_bipush (v := (17 : Int32)) hx hb d_m495_129 (by decide) ?_
      refine lv_iload_n hx hb d_m495_131 rfl (lv_at hl 2 rfl) ?_
      refine va_iast hx hb hK hP hD hS 7 0 rfl rfl (by unfold vp_in; decide) d_m495_132 (fun H locs hP hD hS => ?_)
      have hP : va_P (dC, dI) vwCl (w_Table_become cI cB cS cT a_drf a_drf_c a_drf_s a_tab a_tab_w a_tab_s a_tab_f a_tab_x a_drf_z drf_size drf_c drf_s tab_end drf_size z3.2.2.1 (va_cpy drf_s tab_s (0 : Int32).toNatClampNeg (0 : Int32).toNatClampNeg drf_size.toNatClampNeg) z3.2.2.2.1 (upd z3.2.2.2.2 (17 : Int32).toNatClampNeg z3.2.1)) H := hP
      have hD : va_D A (w_Table_become cI cB cS cT a_drf a_drf_c a_drf_s a_tab a_tab_w a_tab_s a_tab_f a_tab_x a_drf_z drf_size drf_c drf_s tab_end drf_size z3.2.2.1 (va_cpy drf_s tab_s (0 : Int32).toNatClampNeg (0 : Int32).toNatClampNeg drf_size.toNatClampNeg) z3.2.2.2.1 (upd z3.2.2.2.2 (17 : Int32).toNatClampNeg z3.2.1)) := hD
      refine lv_aload_n hx hb d_m495_133 rfl (lv_at hl 0 rfl) ?_
      refine lv_iload_n hx hb d_m495_134 rfl (lv_at hl 1 rfl) ?_
      refine va_put (D := (dC, dI)) (ci := 10) (v := .int z3.1) (ty := .int) (C := "ScanCoder$Table") (T := T_10) (N := 6) hx hb hts n0 ty_10 tyok_10 nm_10 hown hK hP hD hS 3 rfl rfl 4 (by decide) k12 (fun _ h9 => h9) rfl (by decide +kernel) rfl rfl (Nat.le_of_ble_eq_true rfl) d_m495_135 (fun H locs hP hD hS => ?_)
      have hP : va_P (dC, dI) vwCl (w_Table_become cI cB cS cT a_drf a_drf_c a_drf_s a_tab a_tab_w a_tab_s a_tab_f a_tab_x a_drf_z drf_size drf_c drf_s z3.1 drf_size z3.2.2.1 (va_cpy drf_s tab_s (0 : Int32).toNatClampNeg (0 : Int32).toNatClampNeg drf_size.toNatClampNeg) z3.2.2.2.1 (upd z3.2.2.2.2 (17 : Int32).toNatClampNeg z3.2.1)) H := hP
      have hD : va_D A (w_Table_become cI cB cS cT a_drf a_drf_c a_drf_s a_tab a_tab_w a_tab_s a_tab_f a_tab_x a_drf_z drf_size drf_c drf_s z3.1 drf_size z3.2.2.1 (va_cpy drf_s tab_s (0 : Int32).toNatClampNeg (0 : Int32).toNatClampNeg drf_size.toNatClampNeg) z3.2.2.2.1 (upd z3.2.2.2.2 (17 : Int32).toNatClampNeg z3.2.1)) := hD
      obtain rfl := Option.some.inj hf
      subst hQ
      subst hAe
      exact W.vret hx hb hr (fun t ht hW => ⟨⟨(), rfl, trivial, by rw [ht]; exact hP, hD⟩, hS.F ht⟩) hS.2.2 d_m495_138
  exact hgo _ _ hP hS
