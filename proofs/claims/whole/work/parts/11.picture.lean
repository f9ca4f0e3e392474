def f_Picture_canBe_J27 (p1 : Int32) (v2_j27 : Int32) (s0_j27 : Int32) : Option (Int32) :=
  if p1 < v2_j27 then
    some (0 : Int32)
  else
    if s0_j27 < p1 then
      some (0 : Int32)
    else
      some (1 : Int32)
def f_Picture_canBe_J13 (p0 : Int32) (p1 : Int32) (s0_j13 : Int32) : Option (Int32) :=
  if p0 = 0 then
    f_Picture_canBe_J27 p1 s0_j13 (1023 : Int32)
  else
    f_Picture_canBe_J27 p1 s0_j13 (1023 : Int32)
def f_Picture_canBe (p0 : Int32) (p1 : Int32) : Option (Int32) :=
  if p0 = 0 then
    f_Picture_canBe_J13 p0 p1 (-1024 : Int32)
  else
    f_Picture_canBe_J13 p0 p1 (-1023 : Int32)
abbrev w_Picture_canBe (cI cB cS cT : ClassId)  : va_W := []
def rm_Picture_canBe : Room := { frames := 0, cells := 0, slots := 0, locals := 0 }
set_option maxHeartbeats 1000000 in
set_option maxRecDepth 100000 in
theorem c_Picture_canBe (l : Launch) (dC : Nat → ClassId) (dI : Nat → Nat → Nat) (cI cB cS cT : ClassId) (p0 : Int32) (p1 : Int32) (z : Int32) (hf : f_Picture_canBe p0 p1 = some z) : Met l y_m529 ws_m529 rm_Picture_canBe (gPreP (dC, dI) [.int p0, .int p1] (gT cI cB cS cT) (w_Picture_canBe cI cB cS cT)) (vp_Si (fun r => r = z)) 0 0 (fun _ => False) := by
  refine Met.ofW (cc := prog_9_method_3_code) (maxL := 4) (ret := (some .boolean)) (by decide) rfl ?_
  intro p e s m args below meth c s₁ B hml hv
  obtain ⟨hargs, hP, hKN⟩ := hv
  have hK := hKN.1
  have hx := B.exec
  have hb := B.bytes
  have hr := B.returns
  have hts := atoms_spec (ws := ws_m529) B.pre
  have hown : s.vm.findClass "ScanCoder$Picture" = some m.cls := findClass_of_methodNamed B.named
  have hlocks := B.notSynchronized
  have hl := lv_entry ([.int p0, .int p1]) (n := 4) (Nat.le_of_ble_eq_true rfl)
  have hfr : entryFrame m args 4 = F0 m 0 ((lg_sl ([.int p0, .int p1]) ++ List.replicate (4 - (lg_sl ([.int p0, .int p1])).length) Slot.unset).toArray) [] := by rw [hargs]; exact lg_entry_eq _ _ _
  rw [hfr]
  generalize (lg_sl ([.int p0, .int p1]) ++ List.replicate (4 - (lg_sl ([.int p0, .int p1])).length) Slot.unset).toArray = ls at hl ⊢
  have hl : lv_has ls 4 [(0, .int p0), (1, .int p1)] := hl
  refine gen_Q (fun Q hQ => ?_)
  clear hfr
  have J27 : ∀ (v2_j27 : Int32) (s0_j27 : Int32), f_Picture_canBe_J27 p1 v2_j27 s0_j27 = some z → GP p l e (headSpec ws_m529 rm_Picture_canBe).room s m args below meth c Q 4 27 [(1, .int p1), (2, .int v2_j27)] [.int s0_j27] := by
    intro v2_j27 s0_j27 hf ls hl
    unfold f_Picture_canBe_J27 at hf
    refine lv_istore_n (lv' := [(3, .int s0_j27), (1, .int p1), (2, .int v2_j27)]) hx hb d_m529_27 rfl hl (by decide) rfl (fun ls hl => ?_)
    refine lv_iload_n hx hb d_m529_28 rfl (lv_at hl 1 rfl) ?_
    refine lv_iload_n hx hb d_m529_29 rfl (lv_at hl 2 rfl) ?_
    refine lv_icmp_lt (tgt := 42) hx hb d_m529_30 (by decide) (fun hc => ?_) (fun hc => ?_)
    · replace hf := (if_pos hc).symm.trans hf
      refine lv_iconst (v := (0 : Int32)) hx hb d_m529_42 (by decide) ?_
      obtain rfl := Option.some.inj hf
      subst hQ
      exact W.zret (v := (0 : Int32)) hx hb hr (by decide) (fun t ht hW => ⟨(0 : Int32), rfl, rfl, ht⟩) (fun q h => by cases h) d_m529_43
    · replace hf := (if_neg hc).symm.trans hf
      refine lv_iload_n hx hb d_m529_33 rfl (lv_at hl 1 rfl) ?_
      refine lv_iload_n hx hb d_m529_34 rfl (lv_at hl 0 rfl) ?_
      refine lv_icmp_gt (tgt := 42) hx hb d_m529_35 (by decide) (fun hc => ?_) (fun hc => ?_)
      · replace hf := (if_pos hc).symm.trans hf
        refine lv_iconst (v := (0 : Int32)) hx hb d_m529_42 (by decide) ?_
        obtain rfl := Option.some.inj hf
        subst hQ
        exact W.zret (v := (0 : Int32)) hx hb hr (by decide) (fun t ht hW => ⟨(0 : Int32), rfl, rfl, ht⟩) (fun q h => by cases h) d_m529_43
      · replace hf := (if_neg hc).symm.trans hf
        refine lv_iconst (v := (1 : Int32)) hx hb d_m529_38 (by decide) ?_
        refine lv_goto (tgt := 43) hx hb d_m529_39 (by decide) ?_
        obtain rfl := Option.some.inj hf
        subst hQ
        exact W.zret (v := (1 : Int32)) hx hb hr (by decide) (fun t ht hW => ⟨(1 : Int32), rfl, rfl, ht⟩) (fun q h => by cases h) d_m529_43
  have J13 : ∀ (s0_j13 : Int32), f_Picture_canBe_J13 p0 p1 s0_j13 = some z → GP p l e (headSpec ws_m529 rm_Picture_canBe).room s m args below meth c Q 4 13 [(0, .int p0), (1, .int p1)] [.int s0_j13] := by
    intro s0_j13 hf ls hl
    unfold f_Picture_canBe_J13 at hf
    refine lv_istore_n (lv' := [(2, .int s0_j13), (0, .int p0), (1, .int p1)]) hx hb d_m529_13 rfl hl (by decide) rfl (fun ls hl => ?_)
    refine lv_iload_n hx hb d_m529_14 rfl (lv_at hl 1 rfl) ?_
    refine lv_if_ne (tgt := 24) hx hb d_m529_15 (by decide) (fun hc => ?_) (fun hc => ?_)
    · replace hf := (if_neg hc).symm.trans hf
      refine lv_sipush (v := (1023 : Int32)) hx hb d_m529_24 (by decide) ?_
      exact J27 s0_j13 (1023 : Int32) hf ls (lv_sub hl [2, 0] rfl)
    · replace hf := (if_pos hc).symm.trans hf
      refine lv_sipush (v := (1023 : Int32)) hx hb d_m529_18 (by decide) ?_
      refine lv_goto (tgt := 27) hx hb d_m529_21 (by decide) ?_
      exact J27 s0_j13 (1023 : Int32) hf ls (lv_sub hl [2, 0] rfl)
  unfold f_Picture_canBe at hf
  refine lv_iload_n hx hb d_m529_0 rfl (lv_at hl 0 rfl) ?_
  refine lv_if_ne (tgt := 10) hx hb d_m529_1 (by decide) (fun hc => ?_) (fun hc => ?_)
  · replace hf := (if_neg hc).symm.trans hf
    refine lv_sipush (v := (-1023 : Int32)) hx hb d_m529_10 (by decide) ?_
    exact J13 (-1023 : Int32) hf ls hl
  · replace hf := (if_pos hc).symm.trans hf
    refine lv_sipush (v := (-1024 : Int32)) hx hb d_m529_4 (by decide) ?_
    refine lv_goto (tgt := 13) hx hb d_m529_7 (by decide) ?_
    exact J13 (-1024 : Int32) hf ls hl

def f_Picture_factor (p0 : Int32) (p1 : Int32) : Option (Int32) :=
  some ((1 : Int32) + ((p1 >>> (((2 : Int32) * p0) &&& 31)) &&& (1 : Int32)))
abbrev w_Picture_factor (cI cB cS cT : ClassId)  : va_W := []
def rm_Picture_factor : Room := { frames := 0, cells := 0, slots := 0, locals := 0 }
set_option maxHeartbeats 1000000 in
set_option maxRecDepth 100000 in
theorem c_Picture_factor (l : Launch) (dC : Nat → ClassId) (dI : Nat → Nat → Nat) (cI cB cS cT : ClassId) (p0 : Int32) (p1 : Int32) (z : Int32) (hf : f_Picture_factor p0 p1 = some z) : Met l y_m41 ws_m41 rm_Picture_factor (gPreP (dC, dI) [.int p0, .int p1] (gT cI cB cS cT) (w_Picture_factor cI cB cS cT)) (vp_Si (fun r => r = z)) 0 0 (fun _ => False) := by
  refine Met.ofW (cc := prog_9_method_4_code) (maxL := 2) (ret := (some .int)) (by decide) rfl ?_
  intro p e s m args below meth c s₁ B hml hv
  obtain ⟨hargs, hP, hKN⟩ := hv
  have hK := hKN.1
  have hx := B.exec
  have hb := B.bytes
  have hr := B.returns
  have hts := atoms_spec (ws := ws_m41) B.pre
  have hown : s.vm.findClass "ScanCoder$Picture" = some m.cls := findClass_of_methodNamed B.named
  have hlocks := B.notSynchronized
  have hl := lv_entry ([.int p0, .int p1]) (n := 2) (Nat.le_of_ble_eq_true rfl)
  have hfr : entryFrame m args 2 = F0 m 0 ((lg_sl ([.int p0, .int p1]) ++ List.replicate (2 - (lg_sl ([.int p0, .int p1])).length) Slot.unset).toArray) [] := by rw [hargs]; exact lg_entry_eq _ _ _
  rw [hfr]
  generalize (lg_sl ([.int p0, .int p1]) ++ List.replicate (2 - (lg_sl ([.int p0, .int p1])).length) Slot.unset).toArray = ls at hl ⊢
  have hl : lv_has ls 2 [(0, .int p0), (1, .int p1)] := hl
  refine gen_Q (fun Q hQ => ?_)
  clear hfr
  unfold f_Picture_factor at hf
  refine lv_iconst (v := (1 : Int32)) hx hb d_m41_0 (by decide) ?_
  refine lv_iload_n hx hb d_m41_1 rfl (lv_at hl 1 rfl) ?_
  refine lv_iconst (v := (2 : Int32)) hx hb d_m41_2 (by decide) ?_
  refine lv_iload_n hx hb d_m41_3 rfl (lv_at hl 0 rfl) ?_
  refine lv_imul hx hb d_m41_4 ?_
  refine lv_ishr hx hb d_m41_5 ?_
  refine lv_iconst (v := (1 : Int32)) hx hb d_m41_6 (by decide) ?_
  refine lv_iand hx hb d_m41_7 ?_
  refine lv_iadd hx hb d_m41_8 ?_
  obtain rfl := Option.some.inj hf
  subst hQ
  exact W.iret (v := (1 : Int32) + ((p1 >>> (((2 : Int32) * p0) &&& 31)) &&& (1 : Int32))) hx hb hr (fun t ht hW => ⟨(1 : Int32) + ((p1 >>> (((2 : Int32) * p0) &&& 31)) &&& (1 : Int32)), rfl, rfl, ht⟩) (fun q h => by cases h) d_m41_9
def f_Picture_greatest_L4b (p0 : Int32) (p1 : Int32) (N : Nat) (rec : (Int32 × Int32) → Option (Int32)) (v2_4 : Int32) (v3_4 : Int32) : Option (Int32) :=
  if p0 ≤ v3_4 then
    some v2_4
  else
    (f_Picture_factor v3_4 p1).bind fun z1 =>
    rec ((if v2_4 < z1 then z1 else v2_4), v3_4 + (1 : Int32))
def f_Picture_greatest_L4 (p0 : Int32) (p1 : Int32) (N : Nat) (k : Nat) : (Int32 × Int32) → Option (Int32) := it (fun rec a => f_Picture_greatest_L4b p0 p1 N rec a.1 a.2) k
def f_Picture_greatest (N : Nat) (p0 : Int32) (p1 : Int32) : Option (Int32) :=
  (f_Picture_greatest_L4 p0 p1 N N ((1 : Int32), (0 : Int32))).bind fun z2 =>
    some z2
abbrev w_Picture_greatest (cI cB cS cT : ClassId)  : va_W := []
def rm_Picture_greatest : Room := { frames := 1, cells := 0, slots := 0, locals := 21 }
set_option maxHeartbeats 1000000 in
set_option maxRecDepth 100000 in
theorem c_Picture_greatest (l : Launch) (dC : Nat → ClassId) (dI : Nat → Nat → Nat) (cI cB cS cT : ClassId) (N : Nat) (p0 : Int32) (p1 : Int32) (z : Int32) (hf : f_Picture_greatest N p0 p1 = some z) : Met l y_m38 ws_m38 rm_Picture_greatest (gPreP (dC, dI) [.int p0, .int p1] (gT cI cB cS cT) (w_Picture_greatest cI cB cS cT)) (vp_Si (fun r => r = z)) 0 0 (fun _ => False) := by
  refine Met.ofW (cc := prog_9_method_5_code) (maxL := 4) (ret := (some .int)) (by decide) rfl ?_
  intro p e s m args below meth c s₁ B hml hv
  obtain ⟨hargs, hP, hKN⟩ := hv
  have hK := hKN.1
  have hx := B.exec
  have hb := B.bytes
  have hr := B.returns
  have hts := atoms_spec (ws := ws_m38) B.pre
  have hown : s.vm.findClass "ScanCoder$Picture" = some m.cls := findClass_of_methodNamed B.named
  have hlocks := B.notSynchronized
  have k0 := hts _ (List.mem_cons_of_mem _ tw_42)
  have k1 := hts _ (List.mem_cons_of_mem _ tw_43)
  have k2 := hts _ (List.mem_cons_of_mem _ tw_3)
  have k3 := hts _ (List.mem_cons_of_mem _ tw_44)
  have hl := lv_entry ([.int p0, .int p1]) (n := 4) (Nat.le_of_ble_eq_true rfl)
  have hfr : entryFrame m args 4 = F0 m 0 ((lg_sl ([.int p0, .int p1]) ++ List.replicate (4 - (lg_sl ([.int p0, .int p1])).length) Slot.unset).toArray) [] := by rw [hargs]; exact lg_entry_eq _ _ _
  rw [hfr]
  generalize (lg_sl ([.int p0, .int p1]) ++ List.replicate (4 - (lg_sl ([.int p0, .int p1])).length) Slot.unset).toArray = ls at hl ⊢
  have hl : lv_has ls 4 [(0, .int p0), (1, .int p1)] := hl
  refine gen_Q (fun Q hQ => ?_)
  clear hfr
  have L4 : ∀  (z : Int32), (GP p l e (headSpec ws_m38 rm_Picture_greatest).room s m args below meth c Q 4 25 [(2, .int z)] []) → ∀ (k : Nat) (v2_4 : Int32) (v3_4 : Int32), f_Picture_greatest_L4 p0 p1 N k (v2_4, v3_4) = some z → GP p l e (headSpec ws_m38 rm_Picture_greatest).room s m args below meth c Q 4 4 [(0, .int p0), (1, .int p1), (2, .int v2_4), (3, .int v3_4)] [] := by
    intro  z hE0 k
    induction k with
    | zero =>
      intro v2_4 v3_4 hf
      exact (it_zero hf).elim
    | succ k ih =>
      intro v2_4 v3_4 hf ls hl
      have hf : f_Picture_greatest_L4b p0 p1 N (f_Picture_greatest_L4 p0 p1 N k) v2_4 v3_4 = some z := hf
      unfold f_Picture_greatest_L4b at hf
      refine lv_iload_n hx hb d_m38_4 rfl (lv_at hl 3 rfl) ?_
      refine lv_iload_n hx hb d_m38_5 rfl (lv_at hl 0 rfl) ?_
      refine lv_icmp_ge (tgt := 25) hx hb d_m38_6 (by decide) (fun hc => ?_) (fun hc => ?_)
      · replace hf := (if_pos hc).symm.trans hf
        obtain rfl := Option.some.inj hf
        exact hE0  ls (lv_sub hl [2] rfl)
      · replace hf := (if_neg hc).symm.trans hf
        refine lv_iload_n hx hb d_m38_9 rfl (lv_at hl 2 rfl) ?_
        refine lv_iload_n hx hb d_m38_10 rfl (lv_at hl 3 rfl) ?_
        refine lv_iload_n hx hb d_m38_11 rfl (lv_at hl 1 rfl) ?_
        obtain ⟨z1, hz1, hf⟩ := ob_bind hf
        refine vp_callSi (g_run (va_runS (As := [.int v3_4, .int p1]) (rest := [.int v2_4]) ⟨hx, hb, hml, hown, hts⟩ (c_Picture_factor l dC dI cI cB cS cT v3_4 p1 z1 hz1) ⟨(callB_of 2 hts (gi tw_41 rfl) rfl rfl rfl (hts _ (List.mem_cons_of_mem _ tw_2)) (hts _ (List.mem_cons_of_mem _ tw_39)) (by decide +kernel) ⟨Nat.le_of_ble_eq_true rfl, Nat.le_of_ble_eq_true rfl⟩), hts _ (List.mem_cons_of_mem _ tw_40)⟩ ⟨gp_blind, gp_at hKN (g_pm hP [] rfl)⟩ rfl rfl hl.1 rfl (lv_room (Nat.le_of_ble_eq_true rfl)) d_m38_12 ⟨Nat.zero_le _, Nat.zero_le _⟩)) (fun r hrz1 => ?_)
        have hrz1 := hrz1.symm
        subst hrz1
        refine W.eq (g2 := F0 m 15 ls [.int z1, .int v2_4]) rfl ?_
        refine va_mmax hx hb (by rw [hml]; exact hl.1.symm) hown k0 k1 k2 k3 (Nat.le_of_ble_eq_true rfl) (Nat.le_of_ble_eq_true rfl) (Nat.zero_le _) (Nat.zero_le _) d_m38_15 ?_
        refine lv_istore_n (lv' := [(2, .int (if v2_4 < z1 then z1 else v2_4)), (0, .int p0), (1, .int p1), (3, .int v3_4)]) hx hb d_m38_18 rfl hl (by decide) rfl (fun ls hl => ?_)
        refine lv_iinc (v := v3_4 + (1 : Int32)) (lv' := [(3, .int (v3_4 + (1 : Int32))), (2, .int (if v2_4 < z1 then z1 else v2_4)), (0, .int p0), (1, .int p1)]) hx hb d_m38_19 hl (k := 3) rfl rfl (by decide) rfl (fun ls hl => ?_)
        refine lv_goto (tgt := 4) hx hb d_m38_22 (by decide) ?_
        exact ih (if v2_4 < z1 then z1 else v2_4) (v3_4 + (1 : Int32)) hf ls (lv_sub hl [2, 3, 1, 0] rfl)
  unfold f_Picture_greatest at hf
  refine lv_iconst (v := (1 : Int32)) hx hb d_m38_0 (by decide) ?_
  refine lv_istore_n (lv' := [(2, .int (1 : Int32)), (0, .int p0), (1, .int p1)]) hx hb d_m38_1 rfl hl (by decide) rfl (fun ls hl => ?_)
  refine lv_iconst (v := (0 : Int32)) hx hb d_m38_2 (by decide) ?_
  refine lv_istore_n (lv' := [(3, .int (0 : Int32)), (2, .int (1 : Int32)), (0, .int p0), (1, .int p1)]) hx hb d_m38_3 rfl hl (by decide) rfl (fun ls hl => ?_)
  obtain ⟨z2, hz2, hf⟩ := ob_bind hf
  refine L4  z2 ?_ N (1 : Int32) (0 : Int32) hz2 ls (lv_sub hl [2, 3, 1, 0] rfl)
  · intro ls hl
    refine lv_iload_n hx hb d_m38_25 rfl (lv_at hl 0 rfl) ?_
    obtain rfl := Option.some.inj hf
    subst hQ
    exact W.iret (v := z2) hx hb hr (fun t ht hW => ⟨z2, rfl, rfl, ht⟩) (fun q h => by cases h) d_m38_26

def f_Picture_divideUp (p0 : Int32) (p1 : Int32) : Option (Int32) :=
  if (1 : Int32) ≤ p1 then
    if p1 = 0 then none else some (((p0 + p1) - (1 : Int32)) / p1)
  else
    some (0 : Int32)
abbrev w_Picture_divideUp (cI cB cS cT : ClassId)  : va_W := []
def rm_Picture_divideUp : Room := { frames := 0, cells := 0, slots := 0, locals := 0 }
set_option maxHeartbeats 1000000 in
set_option maxRecDepth 100000 in
theorem c_Picture_divideUp (l : Launch) (dC : Nat → ClassId) (dI : Nat → Nat → Nat) (cI cB cS cT : ClassId) (p0 : Int32) (p1 : Int32) (z : Int32) (hf : f_Picture_divideUp p0 p1 = some z) : Met l y_m47 ws_m47 rm_Picture_divideUp (gPreP (dC, dI) [.int p0, .int p1] (gT cI cB cS cT) (w_Picture_divideUp cI cB cS cT)) (vp_Si (fun r => r = z)) 0 0 (fun _ => False) := by
  refine Met.ofW (cc := prog_9_method_6_code) (maxL := 2) (ret := (some .int)) (by decide) rfl ?_
  intro p e s m args below meth c s₁ B hml hv
  obtain ⟨hargs, hP, hKN⟩ := hv
  have hK := hKN.1
  have hx := B.exec
  have hb := B.bytes
  have hr := B.returns
  have hts := atoms_spec (ws := ws_m47) B.pre
  have hown : s.vm.findClass "ScanCoder$Picture" = some m.cls := findClass_of_methodNamed B.named
  have hlocks := B.notSynchronized
  have hl := lv_entry ([.int p0, .int p1]) (n := 2) (Nat.le_of_ble_eq_true rfl)
  have hfr : entryFrame m args 2 = F0 m 0 ((lg_sl ([.int p0, .int p1]) ++ List.replicate (2 - (lg_sl ([.int p0, .int p1])).length) Slot.unset).toArray) [] := by rw [hargs]; exact lg_entry_eq _ _ _
  rw [hfr]
  generalize (lg_sl ([.int p0, .int p1]) ++ List.replicate (2 - (lg_sl ([.int p0, .int p1])).length) Slot.unset).toArray = ls at hl ⊢
  have hl : lv_has ls 2 [(0, .int p0), (1, .int p1)] := hl
  refine gen_Q (fun Q hQ => ?_)
  clear hfr
  unfold f_Picture_divideUp at hf
  refine lv_iload_n hx hb d_m47_0 rfl (lv_at hl 1 rfl) ?_
  refine lv_iconst (v := (1 : Int32)) hx hb d_m47_1 (by decide) ?_
  refine lv_icmp_ge (tgt := 9) hx hb d_m47_2 (by decide) (fun hc => ?_) (fun hc => ?_)
  · replace hf := (if_pos hc).symm.trans hf
    refine lv_iload_n hx hb d_m47_9 rfl (lv_at hl 0 rfl) ?_
    refine lv_iload_n hx hb d_m47_10 rfl (lv_at hl 1 rfl) ?_
    refine lv_iadd hx hb d_m47_11 ?_
    refine lv_iconst (v := (1 : Int32)) hx hb d_m47_12 (by decide) ?_
    refine lv_isub hx hb d_m47_13 ?_
    refine lv_iload_n hx hb d_m47_14 rfl (lv_at hl 1 rfl) ?_
    obtain ⟨hi, hf⟩ := ob_if hf
    refine lv_idiv hx hb d_m47_15 hi ?_
    obtain rfl := Option.some.inj hf
    subst hQ
    exact W.iret (v := ((p0 + p1) - (1 : Int32)) / p1) hx hb hr (fun t ht hW => ⟨((p0 + p1) - (1 : Int32)) / p1, rfl, rfl, ht⟩) (fun q h => by cases h) d_m47_16
  · replace hf := (if_neg hc).symm.trans hf
    refine lv_iconst (v := (0 : Int32)) hx hb d_m47_5 (by decide) ?_
    refine lv_goto (tgt := 16) hx hb d_m47_6 (by decide) ?_
    obtain rfl := Option.some.inj hf
    subst hQ
    exact W.iret (v := (0 : Int32)) hx hb hr (fun t ht hW => ⟨(0 : Int32), rfl, rfl, ht⟩) (fun q h => by cases h) d_m47_16
def f_Picture_fits_L79b (p2 : Int32) (p3 : Int32) (v4_79 : Int32) (N : Nat) (rec : (Int32 × Int32) → Option (Int32)) (v5_79 : Int32) (v6_79 : Int32) : Option (Int32) :=
  if p2 ≤ v6_79 then
    some v5_79
  else
    (f_Picture_factor v6_79 p3).bind fun z5 =>
    (f_Picture_factor v6_79 (p3 >>> ((1 : Int32) &&& 31))).bind fun z6 =>
    rec (v5_79 + ((v4_79 * z5) * z6), v6_79 + (1 : Int32))
def f_Picture_fits_L79 (p2 : Int32) (p3 : Int32) (v4_79 : Int32) (N : Nat) (k : Nat) : (Int32 × Int32) → Option (Int32) := it (fun rec a => f_Picture_fits_L79b p2 p3 v4_79 N rec a.1 a.2) k
def f_Picture_fits (N : Nat) (p0 : Int32) (p1 : Int32) (p2 : Int32) (p3 : Int32) : Option (Int32) :=
  if p0 < (1 : Int32) then
    some (0 : Int32)
  else
    if (64 : Int32) < p0 then
      some (0 : Int32)
    else
      if p1 < (1 : Int32) then
        some (0 : Int32)
      else
        if p1 ≤ (64 : Int32) then
          if p2 < (1 : Int32) then
            some (0 : Int32)
          else
            if (4 : Int32) < p2 then
              some (0 : Int32)
            else
              if ((p3.toUInt32 >>> (((2 : Int32) * p2).toUInt32 &&& Int32.toUInt32 31)).toInt32) = 0 then
                (f_Picture_greatest N p2 p3).bind fun z1 =>
                (f_Picture_divideUp p0 ((8 : Int32) * z1)).bind fun z2 =>
                (f_Picture_greatest N p2 (p3 >>> ((1 : Int32) &&& 31))).bind fun z3 =>
                (f_Picture_divideUp p1 ((8 : Int32) * z3)).bind fun z4 =>
                (f_Picture_fits_L79 p2 p3 (z2 * z4) N N ((0 : Int32), (0 : Int32))).bind fun z7 =>
                  if (192 : Int32) < z7 then
                  some (0 : Int32)
                else
                  some (1 : Int32)
              else
                some (0 : Int32)
        else
          some (0 : Int32)
abbrev w_Picture_fits (cI cB cS cT : ClassId)  : va_W := []
def rm_Picture_fits : Room := { frames := 2, cells := 0, slots := 0, locals := 44 }
set_option maxHeartbeats 1000000 in
set_option maxRecDepth 100000 in
theorem c_Picture_fits (l : Launch) (dC : Nat → ClassId) (dI : Nat → Nat → Nat) (cI cB cS cT : ClassId) (N : Nat) (p0 : Int32) (p1 : Int32) (p2 : Int32) (p3 : Int32) (z : Int32) (hf : f_Picture_fits N p0 p1 p2 p3 = some z) : Met l y_m453 ws_m453 rm_Picture_fits (gPreP (dC, dI) [.int p0, .int p1, .int p2, .int p3] (gT cI cB cS cT) (w_Picture_fits cI cB cS cT)) (vp_Si (fun r => r = z)) 0 0 (fun _ => False) := by
  refine Met.ofW (cc := prog_9_method_2_code) (maxL := 7) (ret := (some .boolean)) (by decide) rfl ?_
  intro p e s m args below meth c s₁ B hml hv
  obtain ⟨hargs, hP, hKN⟩ := hv
  have hK := hKN.1
  have hx := B.exec
  have hb := B.bytes
  have hr := B.returns
  have hts := atoms_spec (ws := ws_m453) B.pre
  have hown : s.vm.findClass "ScanCoder$Picture" = some m.cls := findClass_of_methodNamed B.named
  have hlocks := B.notSynchronized
  have hl := lv_entry ([.int p0, .int p1, .int p2, .int p3]) (n := 7) (Nat.le_of_ble_eq_true rfl)
  have hfr : entryFrame m args 7 = F0 m 0 ((lg_sl ([.int p0, .int p1, .int p2, .int p3]) ++ List.replicate (7 - (lg_sl ([.int p0, .int p1, .int p2, .int p3])).length) Slot.unset).toArray) [] := by rw [hargs]; exact lg_entry_eq _ _ _
  rw [hfr]
  generalize (lg_sl ([.int p0, .int p1, .int p2, .int p3]) ++ List.replicate (7 - (lg_sl ([.int p0, .int p1, .int p2, .int p3])).length) Slot.unset).toArray = ls at hl ⊢
  have hl : lv_has ls 7 [(0, .int p0), (1, .int p1), (2, .int p2), (3, .int p3)] := hl
  refine gen_Q (fun Q hQ => ?_)
  clear hfr
  have L79 : ∀ (v4_79 : Int32) (z : Int32), (GP p l e (headSpec ws_m453 rm_Picture_fits).room s m args below meth c Q 7 114 [(5, .int z)] []) → ∀ (k : Nat) (v5_79 : Int32) (v6_79 : Int32), f_Picture_fits_L79 p2 p3 v4_79 N k (v5_79, v6_79) = some z → GP p l e (headSpec ws_m453 rm_Picture_fits).room s m args below meth c Q 7 79 [(2, .int p2), (3, .int p3), (4, .int v4_79), (5, .int v5_79), (6, .int v6_79)] [] := by
    intro v4_79 z hE0 k
    induction k with
    | zero =>
      intro v5_79 v6_79 hf
      exact (it_zero hf).elim
    | succ k ih =>
      intro v5_79 v6_79 hf ls hl
      have hf : f_Picture_fits_L79b p2 p3 v4_79 N (f_Picture_fits_L79 p2 p3 v4_79 N k) v5_79 v6_79 = some z := hf
      unfold f_Picture_fits_L79b at hf
      refine lv_iload hx hb d_m453_79 (lv_at hl 4 rfl) ?_
      refine lv_iload_n hx hb d_m453_81 rfl (lv_at hl 0 rfl) ?_
      refine lv_icmp_ge (tgt := 114) hx hb d_m453_82 (by decide) (fun hc => ?_) (fun hc => ?_)
      · replace hf := (if_pos hc).symm.trans hf
        obtain rfl := Option.some.inj hf
        exact hE0  ls (lv_sub hl [3] rfl)
      · replace hf := (if_neg hc).symm.trans hf
        refine lv_iload hx hb d_m453_85 (lv_at hl 3 rfl) ?_
        refine lv_iload hx hb d_m453_87 (lv_at hl 2 rfl) ?_
        refine lv_iload hx hb d_m453_89 (lv_at hl 4 rfl) ?_
        refine lv_iload_n hx hb d_m453_91 rfl (lv_at hl 1 rfl) ?_
        obtain ⟨z5, hz5, hf⟩ := ob_bind hf
        refine vp_callSi (g_run (va_runS (As := [.int v6_79, .int p3]) (rest := [.int v4_79, .int v5_79]) ⟨hx, hb, hml, hown, hts⟩ (c_Picture_factor l dC dI cI cB cS cT v6_79 p3 z5 hz5) ⟨(callB_of 2 hts (gi tw_41 rfl) rfl rfl rfl (hts _ (List.mem_cons_of_mem _ tw_2)) (hts _ (List.mem_cons_of_mem _ tw_39)) (by decide +kernel) ⟨Nat.le_of_ble_eq_true rfl, Nat.le_of_ble_eq_true rfl⟩), hts _ (List.mem_cons_of_mem _ tw_40)⟩ ⟨gp_blind, gp_at hKN (g_pm hP [] rfl)⟩ rfl rfl hl.1 rfl (lv_room (Nat.le_of_ble_eq_true rfl)) d_m453_92 ⟨Nat.zero_le _, Nat.zero_le _⟩)) (fun r hrz5 => ?_)
        have hrz5 := hrz5.symm
        subst hrz5
        refine W.eq (g2 := F0 m 95 ls [.int z5, .int v4_79, .int v5_79]) rfl ?_
        refine lv_imul hx hb d_m453_95 ?_
        refine lv_iload hx hb d_m453_96 (lv_at hl 4 rfl) ?_
        refine lv_iload_n hx hb d_m453_98 rfl (lv_at hl 1 rfl) ?_
        refine lv_iconst (v := (1 : Int32)) hx hb d_m453_99 (by decide) ?_
        refine lv_ishr hx hb d_m453_100 ?_
        obtain ⟨z6, hz6, hf⟩ := ob_bind hf
        refine vp_callSi (g_run (va_runS (As := [.int v6_79, .int (p3 >>> ((1 : Int32) &&& 31))]) (rest := [.int (v4_79 * z5), .int v5_79]) ⟨hx, hb, hml, hown, hts⟩ (c_Picture_factor l dC dI cI cB cS cT v6_79 (p3 >>> ((1 : Int32) &&& 31)) z6 hz6) ⟨(callB_of 2 hts (gi tw_41 rfl) rfl rfl rfl (hts _ (List.mem_cons_of_mem _ tw_2)) (hts _ (List.mem_cons_of_mem _ tw_39)) (by decide +kernel) ⟨Nat.le_of_ble_eq_true rfl, Nat.le_of_ble_eq_true rfl⟩), hts _ (List.mem_cons_of_mem _ tw_40)⟩ ⟨gp_blind, gp_at hKN (g_pm hP [] rfl)⟩ rfl rfl hl.1 rfl (lv_room (Nat.le_of_ble_eq_true rfl)) d_m453_101 ⟨Nat.zero_le _, Nat.zero_le _⟩)) (fun r hrz6 => ?_)
        have hrz6 := hrz6.symm
        subst hrz6
        refine W.eq (g2 := F0 m 104 ls [.int z6, .int (v4_79 * z5), .int v5_79]) rfl ?_
        refine lv_imul hx hb d_m453_104 ?_
        refine lv_iadd hx hb d_m453_105 ?_
        refine lv_istore (lv' := [(5, .int (v5_79 + ((v4_79 * z5) * z6))), (2, .int p2), (3, .int p3), (4, .int v4_79), (6, .int v6_79)]) hx hb d_m453_106 hl (by decide) rfl (fun ls hl => ?_)
        refine lv_iinc (v := v6_79 + (1 : Int32)) (lv' := [(6, .int (v6_79 + (1 : Int32))), (5, .int (v5_79 + ((v4_79 * z5) * z6))), (2, .int p2), (3, .int p3), (4, .int v4_79)]) hx hb d_m453_108 hl (k := 4) rfl rfl (by decide) rfl (fun ls hl => ?_)
        refine lv_goto (tgt := 79) hx hb d_m453_111 (by decide) ?_
        exact ih (v5_79 + ((v4_79 * z5) * z6)) (v6_79 + (1 : Int32)) hf ls (lv_sub hl [2, 3, 4, 1, 0] rfl)
  unfold f_Picture_fits at hf
  refine lv_iload_n hx hb d_m453_0 rfl (lv_at hl 0 rfl) ?_
  refine lv_iconst (v := (1 : Int32)) hx hb d_m453_1 (by decide) ?_
  refine lv_icmp_lt (tgt := 22) hx hb d_m453_2 (by decide) (fun hc => ?_) (fun hc => ?_)
  · replace hf := (if_pos hc).symm.trans hf
    refine lv_iconst (v := (0 : Int32)) hx hb d_m453_22 (by decide) ?_
    obtain rfl := Option.some.inj hf
    subst hQ
    exact W.zret (v := (0 : Int32)) hx hb hr (by decide) (fun t ht hW => ⟨(0 : Int32), rfl, rfl, ht⟩) (fun q h => by cases h) d_m453_23
  · replace hf := (if_neg hc).symm.trans hf
    refine lv_iload_n hx hb d_m453_5 rfl (lv_at hl 0 rfl) ?_
    refine lv_bipush (v := (64 : Int32)) hx hb d_m453_6 (by decide) ?_
    refine lv_icmp_gt (tgt := 22) hx hb d_m453_8 (by decide) (fun hc => ?_) (fun hc => ?_)
    · replace hf := (if_pos hc).symm.trans hf
      refine lv_iconst (v := (0 : Int32)) hx hb d_m453_22 (by decide) ?_
      obtain rfl := Option.some.inj hf
      subst hQ
      exact W.zret (v := (0 : Int32)) hx hb hr (by decide) (fun t ht hW => ⟨(0 : Int32), rfl, rfl, ht⟩) (fun q h => by cases h) d_m453_23
    · replace hf := (if_neg hc).symm.trans hf
      refine lv_iload_n hx hb d_m453_11 rfl (lv_at hl 1 rfl) ?_
      refine lv_iconst (v := (1 : Int32)) hx hb d_m453_12 (by decide) ?_
      refine lv_icmp_lt (tgt := 22) hx hb d_m453_13 (by decide) (fun hc => ?_) (fun hc => ?_)
      · replace hf := (if_pos hc).symm.trans hf
        refine lv_iconst (v := (0 : Int32)) hx hb d_m453_22 (by decide) ?_
        obtain rfl := Option.some.inj hf
        subst hQ
        exact W.zret (v := (0 : Int32)) hx hb hr (by decide) (fun t ht hW => ⟨(0 : Int32), rfl, rfl, ht⟩) (fun q h => by cases h) d_m453_23
      · replace hf := (if_neg hc).symm.trans hf
        refine lv_iload_n hx hb d_m453_16 rfl (lv_at hl 1 rfl) ?_
        refine lv_bipush (v := (64 : Int32)) hx hb d_m453_17 (by decide) ?_
        refine lv_icmp_le (tgt := 24) hx hb d_m453_19 (by decide) (fun hc => ?_) (fun hc => ?_)
        · replace hf := (if_pos hc).symm.trans hf
          refine lv_iload_n hx hb d_m453_24 rfl (lv_at hl 2 rfl) ?_
          refine lv_iconst (v := (1 : Int32)) hx hb d_m453_25 (by decide) ?_
          refine lv_icmp_lt (tgt := 42) hx hb d_m453_26 (by decide) (fun hc => ?_) (fun hc => ?_)
          · replace hf := (if_pos hc).symm.trans hf
            refine lv_iconst (v := (0 : Int32)) hx hb d_m453_42 (by decide) ?_
            obtain rfl := Option.some.inj hf
            subst hQ
            exact W.zret (v := (0 : Int32)) hx hb hr (by decide) (fun t ht hW => ⟨(0 : Int32), rfl, rfl, ht⟩) (fun q h => by cases h) d_m453_43
          · replace hf := (if_neg hc).symm.trans hf
            refine lv_iload_n hx hb d_m453_29 rfl (lv_at hl 2 rfl) ?_
            refine lv_iconst (v := (4 : Int32)) hx hb d_m453_30 (by decide) ?_
            refine lv_icmp_gt (tgt := 42) hx hb d_m453_31 (by decide) (fun hc => ?_) (fun hc => ?_)
            · replace hf := (if_pos hc).symm.trans hf
              refine lv_iconst (v := (0 : Int32)) hx hb d_m453_42 (by decide) ?_
              obtain rfl := Option.some.inj hf
              subst hQ
              exact W.zret (v := (0 : Int32)) hx hb hr (by decide) (fun t ht hW => ⟨(0 : Int32), rfl, rfl, ht⟩) (fun q h => by cases h) d_m453_43
            · replace hf := (if_neg hc).symm.trans hf
              refine lv_iload_n hx hb d_m453_34 rfl (lv_at hl 3 rfl) ?_
              refine lv_iconst (v := (2 : Int32)) hx hb d_m453_35 (by decide) ?_
              refine lv_iload_n hx hb d_m453_36 rfl (lv_at hl 2 rfl) ?_
              refine lv_imul hx hb d_m453_37 ?_
              refine lv_iushr hx hb d_m453_38 rfl ?_
              refine lv_if_eq (tgt := 44) hx hb d_m453_39 (by decide) (fun hc => ?_) (fun hc => ?_)
              · replace hf := (if_pos hc).symm.trans hf
                refine lv_iload_n hx hb d_m453_44 rfl (lv_at hl 0 rfl) ?_
                refine lv_bipush (v := (8 : Int32)) hx hb d_m453_45 (by decide) ?_
                refine lv_iload_n hx hb d_m453_47 rfl (lv_at hl 2 rfl) ?_
                refine lv_iload_n hx hb d_m453_48 rfl (lv_at hl 3 rfl) ?_
                obtain ⟨z1, hz1, hf⟩ := ob_bind hf
                refine vp_callSi (g_run (va_runS (As := [.int p2, .int p3]) (rest := [.int (8 : Int32), .int p0]) ⟨hx, hb, hml, hown, hts⟩ (c_Picture_greatest l dC dI cI cB cS cT N p2 p3 z1 hz1) ⟨(callB_of 2 hts (gi tw_38 rfl) rfl rfl rfl (hts _ (List.mem_cons_of_mem _ tw_2)) (hts _ (List.mem_cons_of_mem _ tw_36)) (by decide +kernel) ⟨Nat.le_of_ble_eq_true rfl, Nat.le_of_ble_eq_true rfl⟩), hts _ (List.mem_cons_of_mem _ tw_37)⟩ ⟨gp_blind, gp_at hKN (g_pm hP [] rfl)⟩ rfl rfl hl.1 rfl (lv_room (Nat.le_of_ble_eq_true rfl)) d_m453_49 ⟨Nat.zero_le _, Nat.zero_le _⟩)) (fun r hrz1 => ?_)
                have hrz1 := hrz1.symm
                subst hrz1
                refine W.eq (g2 := F0 m 52 ls [.int z1, .int (8 : Int32), .int p0]) rfl ?_
                refine lv_imul hx hb d_m453_52 ?_
                obtain ⟨z2, hz2, hf⟩ := ob_bind hf
                refine vp_callSi (g_run (va_runS (As := [.int p0, .int ((8 : Int32) * z1)]) (rest := []) ⟨hx, hb, hml, hown, hts⟩ (c_Picture_divideUp l dC dI cI cB cS cT p0 ((8 : Int32) * z1) z2 hz2) ⟨(callB_of 2 hts (gi tw_47 rfl) rfl rfl rfl (hts _ (List.mem_cons_of_mem _ tw_2)) (hts _ (List.mem_cons_of_mem _ tw_45)) (by decide +kernel) ⟨Nat.le_of_ble_eq_true rfl, Nat.le_of_ble_eq_true rfl⟩), hts _ (List.mem_cons_of_mem _ tw_46)⟩ ⟨gp_blind, gp_at hKN (g_pm hP [] rfl)⟩ rfl rfl hl.1 rfl (lv_room (Nat.le_of_ble_eq_true rfl)) d_m453_53 ⟨Nat.zero_le _, Nat.zero_le _⟩)) (fun r hrz2 => ?_)
                have hrz2 := hrz2.symm
                subst hrz2
                refine W.eq (g2 := F0 m 56 ls [.int z2]) rfl ?_
                refine lv_iload_n hx hb d_m453_56 rfl (lv_at hl 1 rfl) ?_
                refine lv_bipush (v := (8 : Int32)) hx hb d_m453_57 (by decide) ?_
                refine lv_iload_n hx hb d_m453_59 rfl (lv_at hl 2 rfl) ?_
                refine lv_iload_n hx hb d_m453_60 rfl (lv_at hl 3 rfl) ?_
                refine lv_iconst (v := (1 : Int32)) hx hb d_m453_61 (by decide) ?_
                refine lv_ishr hx hb d_m453_62 ?_
                obtain ⟨z3, hz3, hf⟩ := ob_bind hf
                refine vp_callSi (g_run (va_runS (As := [.int p2, .int (p3 >>> ((1 : Int32) &&& 31))]) (rest := [.int (8 : Int32), .int p1, .int z2]) ⟨hx, hb, hml, hown, hts⟩ (c_Picture_greatest l dC dI cI cB cS cT N p2 (p3 >>> ((1 : Int32) &&& 31)) z3 hz3) ⟨(callB_of 2 hts (gi tw_38 rfl) rfl rfl rfl (hts _ (List.mem_cons_of_mem _ tw_2)) (hts _ (List.mem_cons_of_mem _ tw_36)) (by decide +kernel) ⟨Nat.le_of_ble_eq_true rfl, Nat.le_of_ble_eq_true rfl⟩), hts _ (List.mem_cons_of_mem _ tw_37)⟩ ⟨gp_blind, gp_at hKN (g_pm hP [] rfl)⟩ rfl rfl hl.1 rfl (lv_room (Nat.le_of_ble_eq_true rfl)) d_m453_63 ⟨Nat.zero_le _, Nat.zero_le _⟩)) (fun r hrz3 => ?_)
                have hrz3 := hrz3.symm
                subst hrz3
                refine W.eq (g2 := F0 m 66 ls [.int z3, .int (8 : Int32), .int p1, .int z2]) rfl ?_
                refine lv_imul hx hb d_m453_66 ?_
                obtain ⟨z4, hz4, hf⟩ := ob_bind hf
                refine vp_callSi (g_run (va_runS (As := [.int p1, .int ((8 : Int32) * z3)]) (rest := [.int z2]) ⟨hx, hb, hml, hown, hts⟩ (c_Picture_divideUp l dC dI cI cB cS cT p1 ((8 : Int32) * z3) z4 hz4) ⟨(callB_of 2 hts (gi tw_47 rfl) rfl rfl rfl (hts _ (List.mem_cons_of_mem _ tw_2)) (hts _ (List.mem_cons_of_mem _ tw_45)) (by decide +kernel) ⟨Nat.le_of_ble_eq_true rfl, Nat.le_of_ble_eq_true rfl⟩), hts _ (List.mem_cons_of_mem _ tw_46)⟩ ⟨gp_blind, gp_at hKN (g_pm hP [] rfl)⟩ rfl rfl hl.1 rfl (lv_room (Nat.le_of_ble_eq_true rfl)) d_m453_67 ⟨Nat.zero_le _, Nat.zero_le _⟩)) (fun r hrz4 => ?_)
                have hrz4 := hrz4.symm
                subst hrz4
                refine W.eq (g2 := F0 m 70 ls [.int z4, .int z2]) rfl ?_
                refine lv_imul hx hb d_m453_70 ?_
                refine lv_istore (lv' := [(4, .int (z2 * z4)), (0, .int p0), (1, .int p1), (2, .int p2), (3, .int p3)]) hx hb d_m453_71 hl (by decide) rfl (fun ls hl => ?_)
                refine lv_iconst (v := (0 : Int32)) hx hb d_m453_73 (by decide) ?_
                refine lv_istore (lv' := [(5, .int (0 : Int32)), (4, .int (z2 * z4)), (0, .int p0), (1, .int p1), (2, .int p2), (3, .int p3)]) hx hb d_m453_74 hl (by decide) rfl (fun ls hl => ?_)
                refine lv_iconst (v := (0 : Int32)) hx hb d_m453_76 (by decide) ?_
                refine lv_istore (lv' := [(6, .int (0 : Int32)), (5, .int (0 : Int32)), (4, .int (z2 * z4)), (0, .int p0), (1, .int p1), (2, .int p2), (3, .int p3)]) hx hb d_m453_77 hl (by decide) rfl (fun ls hl => ?_)
                obtain ⟨z7, hz7, hf⟩ := ob_bind hf
                refine L79 (z2 * z4) z7 ?_ N (0 : Int32) (0 : Int32) hz7 ls (lv_sub hl [5, 6, 2, 1, 0] rfl)
                · intro ls hl
                  refine lv_iload hx hb d_m453_114 (lv_at hl 0 rfl) ?_
                  refine lv_sipush (v := (192 : Int32)) hx hb d_m453_116 (by decide) ?_
                  refine lv_icmp_gt (tgt := 126) hx hb d_m453_119 (by decide) (fun hc => ?_) (fun hc => ?_)
                  · replace hf := (if_pos hc).symm.trans hf
                    refine lv_iconst (v := (0 : Int32)) hx hb d_m453_126 (by decide) ?_
                    obtain rfl := Option.some.inj hf
                    subst hQ
                    exact W.zret (v := (0 : Int32)) hx hb hr (by decide) (fun t ht hW => ⟨(0 : Int32), rfl, rfl, ht⟩) (fun q h => by cases h) d_m453_127
                  · replace hf := (if_neg hc).symm.trans hf
                    refine lv_iconst (v := (1 : Int32)) hx hb d_m453_122 (by decide) ?_
                    refine lv_goto (tgt := 127) hx hb d_m453_123 (by decide) ?_
                    obtain rfl := Option.some.inj hf
                    subst hQ
                    exact W.zret (v := (1 : Int32)) hx hb hr (by decide) (fun t ht hW => ⟨(1 : Int32), rfl, rfl, ht⟩) (fun q h => by cases h) d_m453_127
              · replace hf := (if_neg hc).symm.trans hf
                refine lv_iconst (v := (0 : Int32)) hx hb d_m453_42 (by decide) ?_
                obtain rfl := Option.some.inj hf
                subst hQ
                exact W.zret (v := (0 : Int32)) hx hb hr (by decide) (fun t ht hW => ⟨(0 : Int32), rfl, rfl, ht⟩) (fun q h => by cases h) d_m453_43
        · replace hf := (if_neg hc).symm.trans hf
          refine lv_iconst (v := (0 : Int32)) hx hb d_m453_22 (by decide) ?_
          obtain rfl := Option.some.inj hf
          subst hQ
          exact W.zret (v := (0 : Int32)) hx hb hr (by decide) (fun t ht hW => ⟨(0 : Int32), rfl, rfl, ht⟩) (fun q h => by cases h) d_m453_23

def f_Picture_placeOf (p0 : Int32) (p1 : Int32) (p2 : Int32) (pic_many : Int32) (pic_ac : Nat → Int32) (pic_dn : Nat → Int32) (pic_st : Nat → Int32) : Option (Int32) :=
  if p0 < 0 then
    some (-1 : Int32)
  else
    if pic_many ≤ p0 then
      some (-1 : Int32)
    else
      if p2 < 0 then
        some (-1 : Int32)
      else
        if p2 < (64 : Int32) then
          if p1 < 0 then
            some (-1 : Int32)
          else
            if p0 < 0 ∨ 4 ≤ p0.toNatClampNeg then none else
            if p0 < 0 ∨ 4 ≤ p0.toNatClampNeg then none else
            if p1 < ((pic_ac p0.toNatClampNeg) * (pic_dn p0.toNatClampNeg)) then
              if p0 < 0 ∨ 4 ≤ p0.toNatClampNeg then none else
              some ((((pic_st p0.toNatClampNeg) + p1) * (64 : Int32)) + p2)
            else
              some (-1 : Int32)
        else
          some (-1 : Int32)
abbrev w_Picture_placeOf (cI cB cS cT : ClassId) (a_pic : Nat) (a_pic_ac : Nat) (a_pic_dn : Nat) (a_pic_st : Nat) (a_pic_h : Nat) (a_pic_v : Nat) (a_pic_oa : Nat) (a_pic_od : Nat) (a_pic_co : Nat) (pic_many : Int32) (pic_unitsAcross : Int32) (pic_unitsDown : Int32) (pic_blocks : Int32) (pic_ac : Nat → Int32) (pic_dn : Nat → Int32) (pic_st : Nat → Int32) : va_W := [(a_pic, .inr (8, [.ref a_pic_h, .ref a_pic_v, .ref a_pic_ac, .ref a_pic_dn, .ref a_pic_oa, .ref a_pic_od, .ref a_pic_st, .int pic_many, .int pic_unitsAcross, .int pic_unitsDown, .int pic_blocks, .ref a_pic_co])), (a_pic_ac, .inl (cI, 4, .inl pic_ac)), (a_pic_dn, .inl (cI, 4, .inl pic_dn)), (a_pic_st, .inl (cI, 4, .inl pic_st))]
def rm_Picture_placeOf : Room := { frames := 0, cells := 0, slots := 0, locals := 0 }
set_option maxHeartbeats 1000000 in
set_option maxRecDepth 100000 in
theorem c_Picture_placeOf (l : Launch) (dC : Nat → ClassId) (dI : Nat → Nat → Nat) (cI cB cS cT : ClassId) (a_pic : Nat) (a_pic_ac : Nat) (a_pic_dn : Nat) (a_pic_st : Nat) (a_pic_h : Nat) (a_pic_v : Nat) (a_pic_oa : Nat) (a_pic_od : Nat) (a_pic_co : Nat) (pic_many : Int32) (pic_unitsAcross : Int32) (pic_unitsDown : Int32) (pic_blocks : Int32) (pic_ac : Nat → Int32) (pic_dn : Nat → Int32) (pic_st : Nat → Int32) (p0 : Int32) (p1 : Int32) (p2 : Int32) (z : Int32) (hf : f_Picture_placeOf p0 p1 p2 pic_many pic_ac pic_dn pic_st = some z) : Met l y_m148 ws_m148 rm_Picture_placeOf (gPreP (dC, dI) [.ref a_pic, .int p0, .int p1, .int p2] (gT cI cB cS cT) (w_Picture_placeOf cI cB cS cT a_pic a_pic_ac a_pic_dn a_pic_st a_pic_h a_pic_v a_pic_oa a_pic_od a_pic_co pic_many pic_unitsAcross pic_unitsDown pic_blocks pic_ac pic_dn pic_st)) (vp_Si (fun r => r = z)) 0 0 (fun _ => False) := by
  refine Met.ofW (cc := prog_9_method_9_code) (maxL := 4) (ret := (some .int)) (by decide) rfl ?_
  intro p e s m args below meth c s₁ B hml hv
  obtain ⟨hargs, hP, hKN⟩ := hv
  have hK := hKN.1
  have hx := B.exec
  have hb := B.bytes
  have hr := B.returns
  have hts := atoms_spec (ws := ws_m148) B.pre
  have hown : s.vm.findClass "ScanCoder$Picture" = some m.cls := findClass_of_methodNamed B.named
  have hlocks := B.notSynchronized
  have k0 := hts _ (List.mem_cons_of_mem _ tw_72)
  have k1 := hts _ (List.mem_cons_of_mem _ tw_62)
  have k2 := hts _ (List.mem_cons_of_mem _ tw_64)
  have k3 := hts _ (List.mem_cons_of_mem _ tw_69)
  have n0 : ∀ w ∈ u_ws "ScanCoder$Picture" T_8 12, w ∈ ws_m148 := fun w h => List.mem_cons_of_mem _ (in_8 w h)
  have hl := lv_entry ([.ref a_pic, .int p0, .int p1, .int p2]) (n := 4) (Nat.le_of_ble_eq_true rfl)
  have hfr : entryFrame m args 4 = F0 m 0 ((lg_sl ([.ref a_pic, .int p0, .int p1, .int p2]) ++ List.replicate (4 - (lg_sl ([.ref a_pic, .int p0, .int p1, .int p2])).length) Slot.unset).toArray) [] := by rw [hargs]; exact lg_entry_eq _ _ _
  rw [hfr]
  generalize (lg_sl ([.ref a_pic, .int p0, .int p1, .int p2]) ++ List.replicate (4 - (lg_sl ([.ref a_pic, .int p0, .int p1, .int p2])).length) Slot.unset).toArray = ls at hl ⊢
  have hl : lv_has ls 4 [(0, .ref a_pic), (1, .int p0), (2, .int p1), (3, .int p2)] := hl
  refine gen_Q (fun Q hQ => ?_)
  clear hfr
  unfold f_Picture_placeOf at hf
  refine lv_iload_n hx hb d_m148_0 rfl (lv_at hl 1 rfl) ?_
  refine lv_if_lt (tgt := 22) hx hb d_m148_1 (by decide) (fun hc => ?_) (fun hc => ?_)
  · replace hf := (if_pos hc).symm.trans hf
    refine lv_iconst (v := (-1 : Int32)) hx hb d_m148_22 (by decide) ?_
    obtain rfl := Option.some.inj hf
    subst hQ
    exact W.iret (v := (-1 : Int32)) hx hb hr (fun t ht hW => ⟨(-1 : Int32), rfl, rfl, ht⟩) (fun q h => by cases h) d_m148_23
  · replace hf := (if_neg hc).symm.trans hf
    refine lv_iload_n hx hb d_m148_4 rfl (lv_at hl 1 rfl) ?_
    refine lv_aload_n hx hb d_m148_5 rfl (lv_at hl 0 rfl) ?_
    refine va_get (D := (dC, dI)) (ci := 8) (v := .int pic_many) (C := "ScanCoder$Picture") (T := T_8) (N := 12) hx hb hts n0 hown hK hP 0 rfl rfl 7 (by decide) k0 (fun _ h9 => h9) rfl d_m148_6 ?_
    refine lv_icmp_ge (tgt := 22) hx hb d_m148_9 (by decide) (fun hc => ?_) (fun hc => ?_)
    · replace hf := (if_pos hc).symm.trans hf
      refine lv_iconst (v := (-1 : Int32)) hx hb d_m148_22 (by decide) ?_
      obtain rfl := Option.some.inj hf
      subst hQ
      exact W.iret (v := (-1 : Int32)) hx hb hr (fun t ht hW => ⟨(-1 : Int32), rfl, rfl, ht⟩) (fun q h => by cases h) d_m148_23
    · replace hf := (if_neg hc).symm.trans hf
      refine lv_iload_n hx hb d_m148_12 rfl (lv_at hl 3 rfl) ?_
      refine lv_if_lt (tgt := 22) hx hb d_m148_13 (by decide) (fun hc => ?_) (fun hc => ?_)
      · replace hf := (if_pos hc).symm.trans hf
        refine lv_iconst (v := (-1 : Int32)) hx hb d_m148_22 (by decide) ?_
        obtain rfl := Option.some.inj hf
        subst hQ
        exact W.iret (v := (-1 : Int32)) hx hb hr (fun t ht hW => ⟨(-1 : Int32), rfl, rfl, ht⟩) (fun q h => by cases h) d_m148_23
      · replace hf := (if_neg hc).symm.trans hf
        refine lv_iload_n hx hb d_m148_16 rfl (lv_at hl 3 rfl) ?_
        refine lv_bipush (v := (64 : Int32)) hx hb d_m148_17 (by decide) ?_
        refine lv_icmp_lt (tgt := 24) hx hb d_m148_19 (by decide) (fun hc => ?_) (fun hc => ?_)
        · replace hf := (if_pos hc).symm.trans hf
          refine lv_iload_n hx hb d_m148_24 rfl (lv_at hl 2 rfl) ?_
          refine lv_if_lt (tgt := 45) hx hb d_m148_25 (by decide) (fun hc => ?_) (fun hc => ?_)
          · replace hf := (if_pos hc).symm.trans hf
            refine lv_iconst (v := (-1 : Int32)) hx hb d_m148_45 (by decide) ?_
            obtain rfl := Option.some.inj hf
            subst hQ
            exact W.iret (v := (-1 : Int32)) hx hb hr (fun t ht hW => ⟨(-1 : Int32), rfl, rfl, ht⟩) (fun q h => by cases h) d_m148_46
          · replace hf := (if_neg hc).symm.trans hf
            refine lv_iload_n hx hb d_m148_28 rfl (lv_at hl 2 rfl) ?_
            refine lv_aload_n hx hb d_m148_29 rfl (lv_at hl 0 rfl) ?_
            refine va_get (D := (dC, dI)) (ci := 8) (v := .ref a_pic_ac) (C := "ScanCoder$Picture") (T := T_8) (N := 12) hx hb hts n0 hown hK hP 0 rfl rfl 2 (by decide) k1 (fun _ h9 => h9) rfl d_m148_30 ?_
            refine lv_iload_n hx hb d_m148_33 rfl (lv_at hl 1 rfl) ?_
            obtain ⟨hi, hf⟩ := ob_if hf
            refine va_iald hx hb hK hP 1 0 rfl rfl hi d_m148_34 ?_
            refine lv_aload_n hx hb d_m148_35 rfl (lv_at hl 0 rfl) ?_
            refine va_get (D := (dC, dI)) (ci := 8) (v := .ref a_pic_dn) (C := "ScanCoder$Picture") (T := T_8) (N := 12) hx hb hts n0 hown hK hP 0 rfl rfl 3 (by decide) k2 (fun _ h9 => h9) rfl d_m148_36 ?_
            refine lv_iload_n hx hb d_m148_39 rfl (lv_at hl 1 rfl) ?_
            obtain ⟨hi, hf⟩ := ob_if hf
            refine va_iald hx hb hK hP 2 0 rfl rfl hi d_m148_40 ?_
            refine lv_imul hx hb d_m148_41 ?_
            refine lv_icmp_lt (tgt := 47) hx hb d_m148_42 (by decide) (fun hc => ?_) (fun hc => ?_)
            · replace hf := (if_pos hc).symm.trans hf
              refine lv_aload_n hx hb d_m148_47 rfl (lv_at hl 0 rfl) ?_
              refine va_get (D := (dC, dI)) (ci := 8) (v := .ref a_pic_st) (C := "ScanCoder$Picture") (T := T_8) (N := 12) hx hb hts n0 hown hK hP 0 rfl rfl 6 (by decide) k3 (fun _ h9 => h9) rfl d_m148_48 ?_
              refine lv_iload_n hx hb d_m148_51 rfl (lv_at hl 1 rfl) ?_
              obtain ⟨hi, hf⟩ := ob_if hf
              refine va_iald hx hb hK hP 3 0 rfl rfl hi d_m148_52 ?_
              refine lv_iload_n hx hb d_m148_53 rfl (lv_at hl 2 rfl) ?_
              refine lv_iadd hx hb d_m148_54 ?_
              refine lv_bipush (v := (64 : Int32)) hx hb d_m148_55 (by decide) ?_
              refine lv_imul hx hb d_m148_57 ?_
              refine lv_iload_n hx hb d_m148_58 rfl (lv_at hl 3 rfl) ?_
              refine lv_iadd hx hb d_m148_59 ?_
              obtain rfl := Option.some.inj hf
              subst hQ
              exact W.iret (v := (((pic_st p0.toNatClampNeg) + p1) * (64 : Int32)) + p2) hx hb hr (fun t ht hW => ⟨(((pic_st p0.toNatClampNeg) + p1) * (64 : Int32)) + p2, rfl, rfl, ht⟩) (fun q h => by cases h) d_m148_60
            · replace hf := (if_neg hc).symm.trans hf
              refine lv_iconst (v := (-1 : Int32)) hx hb d_m148_45 (by decide) ?_
              obtain rfl := Option.some.inj hf
              subst hQ
              exact W.iret (v := (-1 : Int32)) hx hb hr (fun t ht hW => ⟨(-1 : Int32), rfl, rfl, ht⟩) (fun q h => by cases h) d_m148_46
        · replace hf := (if_neg hc).symm.trans hf
          refine lv_iconst (v := (-1 : Int32)) hx hb d_m148_22 (by decide) ?_
          obtain rfl := Option.some.inj hf
          subst hQ
          exact W.iret (v := (-1 : Int32)) hx hb hr (fun t ht hW => ⟨(-1 : Int32), rfl, rfl, ht⟩) (fun q h => by cases h) d_m148_23
def f_Picture_countOthersThanZero_J4_27 (N : Nat) (rec : (Int32 × Int32) → Option (Int32)) (v1_j27 : Int32) (v2_4 : Int32) : Option (Int32) :=
  rec (v1_j27, v2_4 + (1 : Int32))
def f_Picture_countOthersThanZero_L4b (pic_blocks : Int32) (n_pic_co : Nat) (pic_co : Nat → Int32) (N : Nat) (rec : (Int32 × Int32) → Option (Int32)) (v1_4 : Int32) (v2_4 : Int32) : Option (Int32) :=
  if (pic_blocks * (64 : Int32)) ≤ v2_4 then
    some v1_4
  else
    if v2_4 < 0 ∨ n_pic_co ≤ v2_4.toNatClampNeg then none else
    if (pic_co v2_4.toNatClampNeg) = 0 then
      f_Picture_countOthersThanZero_J4_27 N rec v1_4 v2_4
    else
      f_Picture_countOthersThanZero_J4_27 N rec (v1_4 + (1 : Int32)) v2_4
def f_Picture_countOthersThanZero_L4 (pic_blocks : Int32) (n_pic_co : Nat) (pic_co : Nat → Int32) (N : Nat) (k : Nat) : (Int32 × Int32) → Option (Int32) := it (fun rec a => f_Picture_countOthersThanZero_L4b pic_blocks n_pic_co pic_co N rec a.1 a.2) k
def f_Picture_countOthersThanZero (N : Nat) (pic_blocks : Int32) (n_pic_co : Nat) (pic_co : Nat → Int32) : Option (Int32) :=
  (f_Picture_countOthersThanZero_L4 pic_blocks n_pic_co pic_co N N ((0 : Int32), (0 : Int32))).bind fun z1 =>
    some z1
abbrev w_Picture_countOthersThanZero (cI cB cS cT : ClassId) (a_pic : Nat) (a_pic_co : Nat) (a_pic_h : Nat) (a_pic_v : Nat) (a_pic_ac : Nat) (a_pic_dn : Nat) (a_pic_oa : Nat) (a_pic_od : Nat) (a_pic_st : Nat) (pic_many : Int32) (pic_unitsAcross : Int32) (pic_unitsDown : Int32) (pic_blocks : Int32) (n_pic_co : Nat) (pic_co : Nat → Int32) : va_W := [(a_pic, .inr (8, [.ref a_pic_h, .ref a_pic_v, .ref a_pic_ac, .ref a_pic_dn, .ref a_pic_oa, .ref a_pic_od, .ref a_pic_st, .int pic_many, .int pic_unitsAcross, .int pic_unitsDown, .int pic_blocks, .ref a_pic_co])), (a_pic_co, .inl (cS, n_pic_co, .inl pic_co))]
def rm_Picture_countOthersThanZero : Room := { frames := 0, cells := 0, slots := 0, locals := 0 }
set_option maxHeartbeats 1000000 in
set_option maxRecDepth 100000 in
theorem c_Picture_countOthersThanZero (l : Launch) (dC : Nat → ClassId) (dI : Nat → Nat → Nat) (cI cB cS cT : ClassId) (N : Nat) (a_pic : Nat) (a_pic_co : Nat) (a_pic_h : Nat) (a_pic_v : Nat) (a_pic_ac : Nat) (a_pic_dn : Nat) (a_pic_oa : Nat) (a_pic_od : Nat) (a_pic_st : Nat) (pic_many : Int32) (pic_unitsAcross : Int32) (pic_unitsDown : Int32) (pic_blocks : Int32) (n_pic_co : Nat) (pic_co : Nat → Int32) (z : Int32) (hf : f_Picture_countOthersThanZero N pic_blocks n_pic_co pic_co = some z) : Met l y_m808 ws_m808 rm_Picture_countOthersThanZero (gPreP (dC, dI) [.ref a_pic] (gT cI cB cS cT) (w_Picture_countOthersThanZero cI cB cS cT a_pic a_pic_co a_pic_h a_pic_v a_pic_ac a_pic_dn a_pic_oa a_pic_od a_pic_st pic_many pic_unitsAcross pic_unitsDown pic_blocks n_pic_co pic_co)) (vp_Si (fun r => r = z)) 0 0 (fun _ => False) := by
  refine Met.ofW (cc := prog_9_method_10_code) (maxL := 3) (ret := (some .int)) (by decide) rfl ?_
  intro p e s m args below meth c s₁ B hml hv
  obtain ⟨hargs, hP, hKN⟩ := hv
  have hK := hKN.1
  have hx := B.exec
  have hb := B.bytes
  have hr := B.returns
  have hts := atoms_spec (ws := ws_m808) B.pre
  have hown : s.vm.findClass "ScanCoder$Picture" = some m.cls := findClass_of_methodNamed B.named
  have hlocks := B.notSynchronized
  have k0 := hts _ (List.mem_cons_of_mem _ tw_77)
  have k1 := hts _ (List.mem_cons_of_mem _ tw_79)
  have n0 : ∀ w ∈ u_ws "ScanCoder$Picture" T_8 12, w ∈ ws_m808 := fun w h => List.mem_cons_of_mem _ (in_8 w h)
  have hl := lv_entry ([.ref a_pic]) (n := 3) (Nat.le_of_ble_eq_true rfl)
  have hfr : entryFrame m args 3 = F0 m 0 ((lg_sl ([.ref a_pic]) ++ List.replicate (3 - (lg_sl ([.ref a_pic])).length) Slot.unset).toArray) [] := by rw [hargs]; exact lg_entry_eq _ _ _
  rw [hfr]
  generalize (lg_sl ([.ref a_pic]) ++ List.replicate (3 - (lg_sl ([.ref a_pic])).length) Slot.unset).toArray = ls at hl ⊢
  have hl : lv_has ls 3 [(0, .ref a_pic)] := hl
  refine gen_Q (fun Q hQ => ?_)
  clear hfr
  have L4 : ∀  (z : Int32), (GP p l e (headSpec ws_m808 rm_Picture_countOthersThanZero).room s m args below meth c Q 3 33 [(1, .int z)] []) → ∀ (k : Nat) (v1_4 : Int32) (v2_4 : Int32), f_Picture_countOthersThanZero_L4 pic_blocks n_pic_co pic_co N k (v1_4, v2_4) = some z → GP p l e (headSpec ws_m808 rm_Picture_countOthersThanZero).room s m args below meth c Q 3 4 [(0, .ref a_pic), (1, .int v1_4), (2, .int v2_4)] [] := by
    intro  z hE0 k
    induction k with
    | zero =>
      intro v1_4 v2_4 hf
      exact (it_zero hf).elim
    | succ k ih =>
      intro v1_4 v2_4 hf ls hl
      have J4_27 : ∀ (v1_j27 : Int32), f_Picture_countOthersThanZero_J4_27 N (f_Picture_countOthersThanZero_L4 pic_blocks n_pic_co pic_co N k) v1_j27 v2_4 = some z → GP p l e (headSpec ws_m808 rm_Picture_countOthersThanZero).room s m args below meth c Q 3 27 [(0, .ref a_pic), (1, .int v1_j27), (2, .int v2_4)] [] := by
        intro v1_j27 hf ls hl
        unfold f_Picture_countOthersThanZero_J4_27 at hf
        refine lv_iinc (v := v2_4 + (1 : Int32)) (lv' := [(2, .int (v2_4 + (1 : Int32))), (0, .ref a_pic), (1, .int v1_j27)]) hx hb d_m808_27 hl (k := 2) rfl rfl (by decide) rfl (fun ls hl => ?_)
        refine lv_goto (tgt := 4) hx hb d_m808_30 (by decide) ?_
        exact ih v1_j27 (v2_4 + (1 : Int32)) hf ls (lv_sub hl [1, 2, 0] rfl)
      have hf : f_Picture_countOthersThanZero_L4b pic_blocks n_pic_co pic_co N (f_Picture_countOthersThanZero_L4 pic_blocks n_pic_co pic_co N k) v1_4 v2_4 = some z := hf
      unfold f_Picture_countOthersThanZero_L4b at hf
      refine lv_iload_n hx hb d_m808_4 rfl (lv_at hl 2 rfl) ?_
      refine lv_aload_n hx hb d_m808_5 rfl (lv_at hl 0 rfl) ?_
      refine va_get (D := (dC, dI)) (ci := 8) (v := .int pic_blocks) (C := "ScanCoder$Picture") (T := T_8) (N := 12) hx hb hts n0 hown hK hP 0 rfl rfl 10 (by decide) k0 (fun _ h9 => h9) rfl d_m808_6 ?_
      refine lv_bipush (v := (64 : Int32)) hx hb d_m808_9 (by decide) ?_
      refine lv_imul hx hb d_m808_11 ?_
      refine lv_icmp_ge (tgt := 33) hx hb d_m808_12 (by decide) (fun hc => ?_) (fun hc => ?_)
      · replace hf := (if_pos hc).symm.trans hf
        obtain rfl := Option.some.inj hf
        exact hE0  ls (lv_sub hl [1] rfl)
      · replace hf := (if_neg hc).symm.trans hf
        refine lv_aload_n hx hb d_m808_15 rfl (lv_at hl 0 rfl) ?_
        refine va_get (D := (dC, dI)) (ci := 8) (v := .ref a_pic_co) (C := "ScanCoder$Picture") (T := T_8) (N := 12) hx hb hts n0 hown hK hP 0 rfl rfl 11 (by decide) k1 (fun _ h9 => h9) rfl d_m808_16 ?_
        refine lv_iload_n hx hb d_m808_19 rfl (lv_at hl 2 rfl) ?_
        obtain ⟨hi, hf⟩ := ob_if hf
        refine va_sald hx hb hK hP 1 2 rfl rfl hi d_m808_20 ?_
        refine lv_if_eq (tgt := 27) hx hb d_m808_21 (by decide) (fun hc => ?_) (fun hc => ?_)
        · replace hf := (if_pos hc).symm.trans hf
          exact J4_27 v1_4 hf ls hl
        · replace hf := (if_neg hc).symm.trans hf
          refine lv_iinc (v := v1_4 + (1 : Int32)) (lv' := [(1, .int (v1_4 + (1 : Int32))), (0, .ref a_pic), (2, .int v2_4)]) hx hb d_m808_24 hl (k := 1) rfl rfl (by decide) rfl (fun ls hl => ?_)
          exact J4_27 (v1_4 + (1 : Int32)) hf ls (lv_sub hl [1, 0, 2] rfl)
  unfold f_Picture_countOthersThanZero at hf
  refine lv_iconst (v := (0 : Int32)) hx hb d_m808_0 (by decide) ?_
  refine lv_istore_n (lv' := [(1, .int (0 : Int32)), (0, .ref a_pic)]) hx hb d_m808_1 rfl hl (by decide) rfl (fun ls hl => ?_)
  refine lv_iconst (v := (0 : Int32)) hx hb d_m808_2 (by decide) ?_
  refine lv_istore_n (lv' := [(2, .int (0 : Int32)), (1, .int (0 : Int32)), (0, .ref a_pic)]) hx hb d_m808_3 rfl hl (by decide) rfl (fun ls hl => ?_)
  obtain ⟨z1, hz1, hf⟩ := ob_bind hf
  refine L4  z1 ?_ N (0 : Int32) (0 : Int32) hz1 ls (lv_sub hl [2, 1, 0] rfl)
  · intro ls hl
    refine lv_iload_n hx hb d_m808_33 rfl (lv_at hl 0 rfl) ?_
    obtain rfl := Option.some.inj hf
    subst hQ
    exact W.iret (v := z1) hx hb hr (fun t ht hW => ⟨z1, rfl, rfl, ht⟩) (fun q h => by cases h) d_m808_34

def f_Picture_measure (p0 : Int32) (p1 : Int32) (pic_many : Int32) (pic_ac : Nat → Int32) (pic_dn : Nat → Int32) (pic_oa : Nat → Int32) (pic_od : Nat → Int32) : Option (Int32) :=
  if p0 < 0 then
    some (-1 : Int32)
  else
    if p0 < pic_many then
      if p1 = (0 : Int32) then
        if p0 < 0 ∨ 4 ≤ p0.toNatClampNeg then none else
        some (pic_ac p0.toNatClampNeg)
      else if p1 = (1 : Int32) then
        if p0 < 0 ∨ 4 ≤ p0.toNatClampNeg then none else
        some (pic_dn p0.toNatClampNeg)
      else if p1 = (2 : Int32) then
        if p0 < 0 ∨ 4 ≤ p0.toNatClampNeg then none else
        some (pic_oa p0.toNatClampNeg)
      else if p1 = (3 : Int32) then
        if p0 < 0 ∨ 4 ≤ p0.toNatClampNeg then none else
        some (pic_od p0.toNatClampNeg)
      else 
        some (-1 : Int32)
    else
      some (-1 : Int32)
abbrev w_Picture_measure (cI cB cS cT : ClassId) (a_pic : Nat) (a_pic_ac : Nat) (a_pic_dn : Nat) (a_pic_oa : Nat) (a_pic_od : Nat) (a_pic_h : Nat) (a_pic_v : Nat) (a_pic_st : Nat) (a_pic_co : Nat) (pic_many : Int32) (pic_unitsAcross : Int32) (pic_unitsDown : Int32) (pic_blocks : Int32) (pic_ac : Nat → Int32) (pic_dn : Nat → Int32) (pic_oa : Nat → Int32) (pic_od : Nat → Int32) : va_W := [(a_pic, .inr (8, [.ref a_pic_h, .ref a_pic_v, .ref a_pic_ac, .ref a_pic_dn, .ref a_pic_oa, .ref a_pic_od, .ref a_pic_st, .int pic_many, .int pic_unitsAcross, .int pic_unitsDown, .int pic_blocks, .ref a_pic_co])), (a_pic_ac, .inl (cI, 4, .inl pic_ac)), (a_pic_dn, .inl (cI, 4, .inl pic_dn)), (a_pic_oa, .inl (cI, 4, .inl pic_oa)), (a_pic_od, .inl (cI, 4, .inl pic_od))]
def rm_Picture_measure : Room := { frames := 0, cells := 0, slots := 0, locals := 0 }
set_option maxHeartbeats 1000000 in
set_option maxRecDepth 100000 in
theorem c_Picture_measure (l : Launch) (dC : Nat → ClassId) (dI : Nat → Nat → Nat) (cI cB cS cT : ClassId) (a_pic : Nat) (a_pic_ac : Nat) (a_pic_dn : Nat) (a_pic_oa : Nat) (a_pic_od : Nat) (a_pic_h : Nat) (a_pic_v : Nat) (a_pic_st : Nat) (a_pic_co : Nat) (pic_many : Int32) (pic_unitsAcross : Int32) (pic_unitsDown : Int32) (pic_blocks : Int32) (pic_ac : Nat → Int32) (pic_dn : Nat → Int32) (pic_oa : Nat → Int32) (pic_od : Nat → Int32) (p0 : Int32) (p1 : Int32) (z : Int32) (hf : f_Picture_measure p0 p1 pic_many pic_ac pic_dn pic_oa pic_od = some z) : Met l y_m816 ws_m816 rm_Picture_measure (gPreP (dC, dI) [.ref a_pic, .int p0, .int p1] (gT cI cB cS cT) (w_Picture_measure cI cB cS cT a_pic a_pic_ac a_pic_dn a_pic_oa a_pic_od a_pic_h a_pic_v a_pic_st a_pic_co pic_many pic_unitsAcross pic_unitsDown pic_blocks pic_ac pic_dn pic_oa pic_od)) (vp_Si (fun r => r = z)) 0 0 (fun _ => False) := by
  refine Met.ofW (cc := prog_9_method_11_code) (maxL := 3) (ret := (some .int)) (by decide) rfl ?_
  intro p e s m args below meth c s₁ B hml hv
  obtain ⟨hargs, hP, hKN⟩ := hv
  have hK := hKN.1
  have hx := B.exec
  have hb := B.bytes
  have hr := B.returns
  have hts := atoms_spec (ws := ws_m816) B.pre
  have hown : s.vm.findClass "ScanCoder$Picture" = some m.cls := findClass_of_methodNamed B.named
  have hlocks := B.notSynchronized
  have k0 := hts _ (List.mem_cons_of_mem _ tw_72)
  have k1 := hts _ (List.mem_cons_of_mem _ tw_62)
  have k2 := hts _ (List.mem_cons_of_mem _ tw_64)
  have k3 := hts _ (List.mem_cons_of_mem _ tw_65)
  have k4 := hts _ (List.mem_cons_of_mem _ tw_67)
  have n0 : ∀ w ∈ u_ws "ScanCoder$Picture" T_8 12, w ∈ ws_m816 := fun w h => List.mem_cons_of_mem _ (in_8 w h)
  have hl := lv_entry ([.ref a_pic, .int p0, .int p1]) (n := 3) (Nat.le_of_ble_eq_true rfl)
  have hfr : entryFrame m args 3 = F0 m 0 ((lg_sl ([.ref a_pic, .int p0, .int p1]) ++ List.replicate (3 - (lg_sl ([.ref a_pic, .int p0, .int p1])).length) Slot.unset).toArray) [] := by rw [hargs]; exact lg_entry_eq _ _ _
  rw [hfr]
  generalize (lg_sl ([.ref a_pic, .int p0, .int p1]) ++ List.replicate (3 - (lg_sl ([.ref a_pic, .int p0, .int p1])).length) Slot.unset).toArray = ls at hl ⊢
  have hl : lv_has ls 3 [(0, .ref a_pic), (1, .int p0), (2, .int p1)] := hl
  refine gen_Q (fun Q hQ => ?_)
  clear hfr
  unfold f_Picture_measure at hf
  refine lv_iload_n hx hb d_m816_0 rfl (lv_at hl 1 rfl) ?_
  refine lv_if_lt (tgt := 12) hx hb d_m816_1 (by decide) (fun hc => ?_) (fun hc => ?_)
  · replace hf := (if_pos hc).symm.trans hf
    refine lv_iconst (v := (-1 : Int32)) hx hb d_m816_12 (by decide) ?_
    obtain rfl := Option.some.inj hf
    subst hQ
    exact W.iret (v := (-1 : Int32)) hx hb hr (fun t ht hW => ⟨(-1 : Int32), rfl, rfl, ht⟩) (fun q h => by cases h) d_m816_13
  · replace hf := (if_neg hc).symm.trans hf
    refine lv_iload_n hx hb d_m816_4 rfl (lv_at hl 1 rfl) ?_
    refine lv_aload_n hx hb d_m816_5 rfl (lv_at hl 0 rfl) ?_
    refine va_get (D := (dC, dI)) (ci := 8) (v := .int pic_many) (C := "ScanCoder$Picture") (T := T_8) (N := 12) hx hb hts n0 hown hK hP 0 rfl rfl 7 (by decide) k0 (fun _ h9 => h9) rfl d_m816_6 ?_
    refine lv_icmp_lt (tgt := 14) hx hb d_m816_9 (by decide) (fun hc => ?_) (fun hc => ?_)
    · replace hf := (if_pos hc).symm.trans hf
      refine lv_iload_n hx hb d_m816_14 rfl (lv_at hl 2 rfl) ?_
      rcases Classical.em (p1 = (0 : Int32)) with hc0 | hc0
      · replace hf := (if_pos hc0).symm.trans hf
        refine lv_tableIn (tgt := 44) hx hb d_m816_15 (by rw [hc0]; decide) (by rw [hc0]; decide) (by rw [hc0]; rfl) (by decide) ?_
        refine lv_aload_n hx hb d_m816_44 rfl (lv_at hl 0 rfl) ?_
        refine va_get (D := (dC, dI)) (ci := 8) (v := .ref a_pic_ac) (C := "ScanCoder$Picture") (T := T_8) (N := 12) hx hb hts n0 hown hK hP 0 rfl rfl 2 (by decide) k1 (fun _ h9 => h9) rfl d_m816_45 ?_
        refine lv_iload_n hx hb d_m816_48 rfl (lv_at hl 1 rfl) ?_
        obtain ⟨hi, hf⟩ := ob_if hf
        refine va_iald hx hb hK hP 1 0 rfl rfl hi d_m816_49 ?_
        obtain rfl := Option.some.inj hf
        subst hQ
        exact W.iret (v := pic_ac p0.toNatClampNeg) hx hb hr (fun t ht hW => ⟨pic_ac p0.toNatClampNeg, rfl, rfl, ht⟩) (fun q h => by cases h) d_m816_50
      · replace hf := (if_neg hc0).symm.trans hf
        rcases Classical.em (p1 = (1 : Int32)) with hc1 | hc1
        · replace hf := (if_pos hc1).symm.trans hf
          refine lv_tableIn (tgt := 51) hx hb d_m816_15 (by rw [hc1]; decide) (by rw [hc1]; decide) (by rw [hc1]; rfl) (by decide) ?_
          refine lv_aload_n hx hb d_m816_51 rfl (lv_at hl 0 rfl) ?_
          refine va_get (D := (dC, dI)) (ci := 8) (v := .ref a_pic_dn) (C := "ScanCoder$Picture") (T := T_8) (N := 12) hx hb hts n0 hown hK hP 0 rfl rfl 3 (by decide) k2 (fun _ h9 => h9) rfl d_m816_52 ?_
          refine lv_iload_n hx hb d_m816_55 rfl (lv_at hl 1 rfl) ?_
          obtain ⟨hi, hf⟩ := ob_if hf
          refine va_iald hx hb hK hP 2 0 rfl rfl hi d_m816_56 ?_
          obtain rfl := Option.some.inj hf
          subst hQ
          exact W.iret (v := pic_dn p0.toNatClampNeg) hx hb hr (fun t ht hW => ⟨pic_dn p0.toNatClampNeg, rfl, rfl, ht⟩) (fun q h => by cases h) d_m816_57
        · replace hf := (if_neg hc1).symm.trans hf
          rcases Classical.em (p1 = (2 : Int32)) with hc2 | hc2
          · replace hf := (if_pos hc2).symm.trans hf
            refine lv_tableIn (tgt := 58) hx hb d_m816_15 (by rw [hc2]; decide) (by rw [hc2]; decide) (by rw [hc2]; rfl) (by decide) ?_
            refine lv_aload_n hx hb d_m816_58 rfl (lv_at hl 0 rfl) ?_
            refine va_get (D := (dC, dI)) (ci := 8) (v := .ref a_pic_oa) (C := "ScanCoder$Picture") (T := T_8) (N := 12) hx hb hts n0 hown hK hP 0 rfl rfl 4 (by decide) k3 (fun _ h9 => h9) rfl d_m816_59 ?_
            refine lv_iload_n hx hb d_m816_62 rfl (lv_at hl 1 rfl) ?_
            obtain ⟨hi, hf⟩ := ob_if hf
            refine va_iald hx hb hK hP 3 0 rfl rfl hi d_m816_63 ?_
            obtain rfl := Option.some.inj hf
            subst hQ
            exact W.iret (v := pic_oa p0.toNatClampNeg) hx hb hr (fun t ht hW => ⟨pic_oa p0.toNatClampNeg, rfl, rfl, ht⟩) (fun q h => by cases h) d_m816_64
          · replace hf := (if_neg hc2).symm.trans hf
            rcases Classical.em (p1 = (3 : Int32)) with hc3 | hc3
            · replace hf := (if_pos hc3).symm.trans hf
              refine lv_tableIn (tgt := 65) hx hb d_m816_15 (by rw [hc3]; decide) (by rw [hc3]; decide) (by rw [hc3]; rfl) (by decide) ?_
              refine lv_aload_n hx hb d_m816_65 rfl (lv_at hl 0 rfl) ?_
              refine va_get (D := (dC, dI)) (ci := 8) (v := .ref a_pic_od) (C := "ScanCoder$Picture") (T := T_8) (N := 12) hx hb hts n0 hown hK hP 0 rfl rfl 5 (by decide) k4 (fun _ h9 => h9) rfl d_m816_66 ?_
              refine lv_iload_n hx hb d_m816_69 rfl (lv_at hl 1 rfl) ?_
              obtain ⟨hi, hf⟩ := ob_if hf
              refine va_iald hx hb hK hP 4 0 rfl rfl hi d_m816_70 ?_
              obtain rfl := Option.some.inj hf
              subst hQ
              exact W.iret (v := pic_od p0.toNatClampNeg) hx hb hr (fun t ht hW => ⟨pic_od p0.toNatClampNeg, rfl, rfl, ht⟩) (fun q h => by cases h) d_m816_71
            · replace hf := (if_neg hc3).symm.trans hf
              have hn0 : p1.toInt ≠ 0 := fun h => hc0 (Int32.toInt_inj.mp (by rw [h]; decide))
              have hn1 : p1.toInt ≠ 1 := fun h => hc1 (Int32.toInt_inj.mp (by rw [h]; decide))
              have hn2 : p1.toInt ≠ 2 := fun h => hc2 (Int32.toInt_inj.mp (by rw [h]; decide))
              have hn3 : p1.toInt ≠ 3 := fun h => hc3 (Int32.toInt_inj.mp (by rw [h]; decide))
              refine lv_tableOut (tgt := 72) hx hb d_m816_15 (by omega) (by decide) ?_
              refine lv_iconst (v := (-1 : Int32)) hx hb d_m816_72 (by decide) ?_
              obtain rfl := Option.some.inj hf
              subst hQ
              exact W.iret (v := (-1 : Int32)) hx hb hr (fun t ht hW => ⟨(-1 : Int32), rfl, rfl, ht⟩) (fun q h => by cases h) d_m816_73
    · replace hf := (if_neg hc).symm.trans hf
      refine lv_iconst (v := (-1 : Int32)) hx hb d_m816_12 (by decide) ?_
      obtain rfl := Option.some.inj hf
      subst hQ
      exact W.iret (v := (-1 : Int32)) hx hb hr (fun t ht hW => ⟨(-1 : Int32), rfl, rfl, ht⟩) (fun q h => by cases h) d_m816_13

def f_Picture_clear (ms : Nat) (N : Nat) (pic_blocks : Int32) (n_pic_co : Nat) (pic_co : Nat → Int32) : Option (Nat × (Nat → Int32)) :=
  if (pic_blocks * (64 : Int32)) ≤ (Int32.ofNat n_pic_co) then
    (f_Arrays_fillS N (0 : Int32) n_pic_co pic_co).bind fun z1 =>
    some (n_pic_co, z1)
  else
    (some (if (pic_blocks * (64 : Int32)) < (if (12288 : Int32) < ((2 : Int32) * (Int32.ofNat n_pic_co)) then (12288 : Int32) else ((2 : Int32) * (Int32.ofNat n_pic_co))) then (if (12288 : Int32) < ((2 : Int32) * (Int32.ofNat n_pic_co)) then (12288 : Int32) else ((2 : Int32) * (Int32.ofNat n_pic_co))) else (pic_blocks * (64 : Int32)))).bind fun nn2 =>
    if nn2 < 0 ∨ ms < nn2.toNatClampNeg ∨ 65536 < nn2.toNatClampNeg then none else
    some (nn2.toNatClampNeg, fun _ => 0)
abbrev w_Picture_clear (cI cB cS cT : ClassId) (a_pic : Nat) (a_pic_co : Nat) (a_pic_h : Nat) (a_pic_v : Nat) (a_pic_ac : Nat) (a_pic_dn : Nat) (a_pic_oa : Nat) (a_pic_od : Nat) (a_pic_st : Nat) (pic_many : Int32) (pic_unitsAcross : Int32) (pic_unitsDown : Int32) (pic_blocks : Int32) (n_pic_co : Nat) (pic_co : Nat → Int32) : va_W := [(a_pic, .inr (8, [.ref a_pic_h, .ref a_pic_v, .ref a_pic_ac, .ref a_pic_dn, .ref a_pic_oa, .ref a_pic_od, .ref a_pic_st, .int pic_many, .int pic_unitsAcross, .int pic_unitsDown, .int pic_blocks, .ref a_pic_co])), (a_pic_co, .inl (cS, n_pic_co, .inl pic_co))]
def rm_Picture_clear (ms : Nat) : Room := { frames := 1, cells := 1, slots := ms, locals := 23 }
set_option maxHeartbeats 1000000 in
set_option maxRecDepth 100000 in
theorem c_Picture_clear (l : Launch) (dC : Nat → ClassId) (dI : Nat → Nat → Nat) (cI cB cS cT : ClassId) (ms : Nat) (N : Nat) (a_pic : Nat) (a_pic_co : Nat) (a_pic_h : Nat) (a_pic_v : Nat) (a_pic_ac : Nat) (a_pic_dn : Nat) (a_pic_oa : Nat) (a_pic_od : Nat) (a_pic_st : Nat) (pic_many : Int32) (pic_unitsAcross : Int32) (pic_unitsDown : Int32) (pic_blocks : Int32) (n_pic_co : Nat) (pic_co : Nat → Int32) (sz : Nat) (z : Nat × (Nat → Int32)) (hf : f_Picture_clear ms N pic_blocks n_pic_co pic_co = some z) : Met l y_m51 ws_m51 (rm_Picture_clear ms) (gPre (dC, dI) [.ref a_pic] (gT cI cB cS cT) (w_Picture_clear cI cB cS cT a_pic a_pic_co a_pic_h a_pic_v a_pic_ac a_pic_dn a_pic_oa a_pic_od a_pic_st pic_many pic_unitsAcross pic_unitsDown pic_blocks n_pic_co pic_co) sz) (gQvA (dC, dI) (gT cI cB cS cT) (U := Nat) (w_Picture_clear cI cB cS cT a_pic a_pic_co a_pic_h a_pic_v a_pic_ac a_pic_dn a_pic_oa a_pic_od a_pic_st pic_many pic_unitsAcross pic_unitsDown pic_blocks n_pic_co pic_co) (fun u => (w_Picture_clear cI cB cS cT a_pic u a_pic_h a_pic_v a_pic_ac a_pic_dn a_pic_oa a_pic_od a_pic_st pic_many pic_unitsAcross pic_unitsDown pic_blocks z.1 z.2)) sz) 1 ms (va_A (w_Picture_clear cI cB cS cT a_pic a_pic_co a_pic_h a_pic_v a_pic_ac a_pic_dn a_pic_oa a_pic_od a_pic_st pic_many pic_unitsAcross pic_unitsDown pic_blocks n_pic_co pic_co) sz) := by
  refine Met.ofW (cc := prog_9_method_8_code) (maxL := 3) (ret := none) (by decide) rfl ?_
  intro p e s m args below meth c s₁ B hml hv
  obtain ⟨hargs, hsz, hP, hKN, hD0⟩ := hv
  have hK := hKN.1
  have hx := B.exec
  have hb := B.bytes
  have hr := B.returns
  have hts := atoms_spec (ws := ws_m51) B.pre
  have hown : s.vm.findClass "ScanCoder$Picture" = some m.cls := findClass_of_methodNamed B.named
  have hlocks := B.notSynchronized
  have k0 := hts _ (List.mem_cons_of_mem _ tw_77)
  have k1 := hts _ (List.mem_cons_of_mem _ tw_79)
  have k2 := hts _ (List.mem_cons_of_mem _ tw_52)
  have k3 := hts _ (List.mem_cons_of_mem _ tw_53)
  have k4 := hts _ (List.mem_cons_of_mem _ tw_3)
  have k5 := hts _ (List.mem_cons_of_mem _ tw_54)
  have k6 := hts _ (List.mem_cons_of_mem _ tw_42)
  have k7 := hts _ (List.mem_cons_of_mem _ tw_43)
  have k8 := hts _ (List.mem_cons_of_mem _ tw_44)
  have k9 := hts _ (List.mem_cons_of_mem _ tw_109)
  have n0 : ∀ w ∈ u_ws "ScanCoder$Picture" T_8 12, w ∈ ws_m51 := fun w h => List.mem_cons_of_mem _ (in_8 w h)
  subst hsz
  have hD := hD0.self (sz := s.heap.size)
  obtain ⟨A, hAe⟩ : ∃ A : Nat → Prop, va_A (w_Picture_clear cI cB cS cT a_pic a_pic_co a_pic_h a_pic_v a_pic_ac a_pic_dn a_pic_oa a_pic_od a_pic_st pic_many pic_unitsAcross pic_unitsDown pic_blocks n_pic_co pic_co) s.heap.size = A := ⟨_, rfl⟩
  rw [hAe] at hD
  have hA : ∀ q : Nat, s.heap.size ≤ q → A q := fun q h => by rw [← hAe]; exact Or.inr h
  have hS : va_S A s.heap s.heap [] := va_S.rf
  have hl := lv_entry ([.ref a_pic]) (n := 3) (Nat.le_of_ble_eq_true rfl)
  have hfr : entryFrame m args 3 = F0 m 0 ((lg_sl ([.ref a_pic]) ++ List.replicate (3 - (lg_sl ([.ref a_pic])).length) Slot.unset).toArray) [] := by rw [hargs]; exact lg_entry_eq _ _ _
  rw [hfr]
  generalize (lg_sl ([.ref a_pic]) ++ List.replicate (3 - (lg_sl ([.ref a_pic])).length) Slot.unset).toArray = ls at hl ⊢
  have hl : lv_has ls 3 [(0, .ref a_pic)] := hl
  refine gen_Q (fun Q hQ => ?_)
  clear hfr
  have hgo : ∀ (H : Heap) (locs : List Loc), va_P (dC, dI) vwCl (w_Picture_clear cI cB cS cT a_pic a_pic_co a_pic_h a_pic_v a_pic_ac a_pic_dn a_pic_oa a_pic_od a_pic_st pic_many pic_unitsAcross pic_unitsDown pic_blocks n_pic_co pic_co) H → va_S A s.heap H locs → W p l e (headSpec ws_m51 (rm_Picture_clear ms)).room s m args below meth c H locs 0 0 Q (F0 m 0 ls []) := by
    intro H locs hP hS
    unfold f_Picture_clear at hf
    refine lv_aload_n hx hb d_m51_0 rfl (lv_at hl 0 rfl) ?_
    refine va_get (D := (dC, dI)) (ci := 8) (v := .int pic_blocks) (C := "ScanCoder$Picture") (T := T_8) (N := 12) hx hb hts n0 hown hK hP 0 rfl rfl 10 (by decide) k0 (fun _ h9 => h9) rfl d_m51_1 ?_
    refine lv_bipush (v := (64 : Int32)) hx hb d_m51_4 (by decide) ?_
    refine lv_imul hx hb d_m51_6 ?_
    refine lv_istore_n (lv' := [(1, .int (pic_blocks * (64 : Int32))), (0, .ref a_pic)]) hx hb d_m51_7 rfl hl (by decide) rfl (fun ls hl => ?_)
    refine lv_iload_n hx hb d_m51_8 rfl (lv_at hl 0 rfl) ?_
    refine lv_aload_n hx hb d_m51_9 rfl (lv_at hl 1 rfl) ?_
    refine va_get (D := (dC, dI)) (ci := 8) (v := .ref a_pic_co) (C := "ScanCoder$Picture") (T := T_8) (N := 12) hx hb hts n0 hown hK hP 0 rfl rfl 11 (by decide) k1 (fun _ h9 => h9) rfl d_m51_10 ?_
    refine va_alen (v := Int32.ofNat n_pic_co) hx hb hK hP 1 2 rfl rfl rfl d_m51_13 ?_
    refine lv_icmp_le (tgt := 45) hx hb d_m51_14 (by decide) (fun hc => ?_) (fun hc => ?_)
    · replace hf := (if_pos hc).symm.trans hf
      refine lv_aload_n hx hb d_m51_45 rfl (lv_at hl 1 rfl) ?_
      refine va_get (D := (dC, dI)) (ci := 8) (v := .ref a_pic_co) (C := "ScanCoder$Picture") (T := T_8) (N := 12) hx hb hts n0 hown hK hP 0 rfl rfl 11 (by decide) k1 (fun _ h9 => h9) rfl d_m51_46 ?_
      refine lv_iconst (v := (0 : Int32)) hx hb d_m51_49 (by decide) ?_
      obtain ⟨z1, hz1, hf⟩ := ob_bind hf
      refine g_callv (wc := (w_Arrays_fillS cI cB cS cT a_pic_co n_pic_co pic_co)) (w1 := (w_Arrays_fillS cI cB cS cT a_pic_co n_pic_co z1)) (w2 := (w_Picture_clear cI cB cS cT a_pic a_pic_co a_pic_h a_pic_v a_pic_ac a_pic_dn a_pic_oa a_pic_od a_pic_st pic_many pic_unitsAcross pic_unitsDown pic_blocks n_pic_co z1)) [1] [none, some 0] hP hD hS hA rfl rfl rfl rfl (va_runS (As := [.ref a_pic_co, .int (0 : Int32)]) (rest := []) ⟨hx, hb, hml, hown, hts⟩ (c_Arrays_fillS l dC dI cI cB cS cT N a_pic_co n_pic_co pic_co (0 : Int32) H.size z1 hz1) ⟨(callB_of 2 hts (gi tw_57 rfl) rfl rfl rfl (hts _ (List.mem_cons_of_mem _ tw_4)) (hts _ (List.mem_cons_of_mem _ tw_55)) (by decide +kernel) ⟨Nat.le_of_ble_eq_true rfl, Nat.le_of_ble_eq_true rfl⟩), hts _ (List.mem_cons_of_mem _ tw_56)⟩ ⟨g_blind, g_at hKN (g_pm hP [1] rfl) (hD.sub [1] (by decide) rfl)⟩ rfl rfl hl.1 rfl (lv_room (Nat.le_of_ble_eq_true rfl)) d_m51_50 ⟨Nat.zero_le _, Nat.zero_le _⟩) (fun H locs hP hD hS => ?_)
      refine W.eq (g2 := F0 m 53 ls []) rfl ?_
      refine W.widen (k := 1) (n := ms) (Nat.zero_le _) (Nat.zero_le _) ?_
      obtain rfl := Option.some.inj hf
      subst hQ
      subst hAe
      exact W.vret hx hb hr (fun t ht hW => ⟨⟨a_pic_co, rfl, trivial, by rw [ht]; exact hP, hD⟩, hS.F ht⟩) hS.2.2 d_m51_53
    · replace hf := (if_neg hc).symm.trans hf
      refine lv_iconst (v := (2 : Int32)) hx hb d_m51_17 (by decide) ?_
      refine lv_aload_n hx hb d_m51_18 rfl (lv_at hl 1 rfl) ?_
      refine va_get (D := (dC, dI)) (ci := 8) (v := .ref a_pic_co) (C := "ScanCoder$Picture") (T := T_8) (N := 12) hx hb hts n0 hown hK hP 0 rfl rfl 11 (by decide) k1 (fun _ h9 => h9) rfl d_m51_19 ?_
      refine va_alen (v := Int32.ofNat n_pic_co) hx hb hK hP 1 2 rfl rfl rfl d_m51_22 ?_
      refine lv_imul hx hb d_m51_23 ?_
      refine lv_sipush (v := (12288 : Int32)) hx hb d_m51_24 (by decide) ?_
      refine va_mmin hx hb (by rw [hml]; exact hl.1.symm) hown k2 k3 k4 k5 (Nat.le_of_ble_eq_true rfl) (Nat.le_of_ble_eq_true rfl) (Nat.zero_le _) (Nat.zero_le _) d_m51_27 ?_
      refine lv_istore_n (lv' := [(2, .int (if (12288 : Int32) < ((2 : Int32) * (Int32.ofNat n_pic_co)) then (12288 : Int32) else ((2 : Int32) * (Int32.ofNat n_pic_co)))), (1, .int (pic_blocks * (64 : Int32))), (0, .ref a_pic)]) hx hb d_m51_30 rfl hl (by decide) rfl (fun ls hl => ?_)
      refine lv_aload_n hx hb d_m51_31 rfl (lv_at hl 2 rfl) ?_
      refine lv_iload_n hx hb d_m51_32 rfl (lv_at hl 1 rfl) ?_
      refine lv_iload_n hx hb d_m51_33 rfl (lv_at hl 0 rfl) ?_
      refine va_mmax hx hb (by rw [hml]; exact hl.1.symm) hown k6 k7 k4 k8 (Nat.le_of_ble_eq_true rfl) (Nat.le_of_ble_eq_true rfl) (Nat.zero_le _) (Nat.zero_le _) d_m51_34 ?_
      obtain ⟨nn2, hnn, hf⟩ := ob_bind hf
      have hnn := Option.some.inj hnn
      refine lv_topi (fun yy hy => ?_)
      have hyy : nn2 = yy := hnn.symm.trans hy.symm
      subst hyy
      obtain ⟨hi, hf⟩ := ob_if hf
      refine va_newa (atype := .short) (ty := .short) (a0 := (nn2.toNatClampNeg, .inl (fun _ => 0))) (N' := nn2.toNatClampNeg) hx hb k9 rfl hK hP hD hS hA (fun _ => rfl) (fun h => hi (Or.inl h)) rfl (g_nb (fun h => hi (Or.inr (Or.inr h)))) (Nat.le_of_ble_eq_true rfl) (by rw [Nat.zero_add]; exact Nat.le_of_not_lt (fun h => hi (Or.inr (Or.inl h)))) d_m51_37 (fun q37 cA H hK1 hP hD hS => ?_)
      have hcA := g_cA (t0 := 2) hK rfl hK1
      subst hcA
      clear hK1
      refine W.widen (k := 1) (n := ms) (Nat.le_of_ble_eq_true rfl) (by rw [Nat.zero_add]; exact Nat.le_of_not_lt (fun h => hi (Or.inr (Or.inl h)))) ?_
      have hP : va_P (dC, dI) vwCl [(a_pic, .inr (8, [.ref a_pic_h, .ref a_pic_v, .ref a_pic_ac, .ref a_pic_dn, .ref a_pic_oa, .ref a_pic_od, .ref a_pic_st, .int pic_many, .int pic_unitsAcross, .int pic_unitsDown, .int pic_blocks, .ref a_pic_co])), (a_pic_co, .inl (cS, n_pic_co, .inl pic_co)), (q37, .inl (cS, nn2.toNatClampNeg, .inl (fun _ => 0)))] H := hP
      have hD : va_D A [(a_pic, .inr (8, [.ref a_pic_h, .ref a_pic_v, .ref a_pic_ac, .ref a_pic_dn, .ref a_pic_oa, .ref a_pic_od, .ref a_pic_st, .int pic_many, .int pic_unitsAcross, .int pic_unitsDown, .int pic_blocks, .ref a_pic_co])), (a_pic_co, .inl (cS, n_pic_co, .inl pic_co)), (q37, .inl (cS, nn2.toNatClampNeg, .inl (fun _ => 0)))] := hD
      refine va_put (D := (dC, dI)) (ci := 8) (v := .ref q37) (ty := (.array .short)) (C := "ScanCoder$Picture") (T := T_8) (N := 12) hx hb hts n0 ty_8 tyok_8 nm_8 hown hK hP hD hS 0 rfl rfl 11 (by decide) k1 (fun _ h9 => h9) rfl (by decide +kernel) rfl rfl (Nat.le_of_ble_eq_true rfl) d_m51_39 (fun H locs hP hD hS => ?_)
      have hP : va_P (dC, dI) vwCl (w_Picture_clear cI cB cS cT a_pic q37 a_pic_h a_pic_v a_pic_ac a_pic_dn a_pic_oa a_pic_od a_pic_st pic_many pic_unitsAcross pic_unitsDown pic_blocks nn2.toNatClampNeg (fun _ => 0)) H := g_pm hP [0, 2] rfl
      have hD : va_D A (w_Picture_clear cI cB cS cT a_pic q37 a_pic_h a_pic_v a_pic_ac a_pic_dn a_pic_oa a_pic_od a_pic_st pic_many pic_unitsAcross pic_unitsDown pic_blocks nn2.toNatClampNeg (fun _ => 0)) := hD.sub [0, 2] (by decide) rfl
      refine lv_goto (tgt := 53) hx hb d_m51_42 (by decide) ?_
      obtain rfl := Option.some.inj hf
      subst hQ
      subst hAe
      exact W.vret hx hb hr (fun t ht hW => ⟨⟨q37, rfl, trivial, by rw [ht]; exact hP, hD⟩, hS.F ht⟩) hS.2.2 d_m51_53
  exact hgo _ _ hP hS
def f_Picture_become_L57b (pic_many_57 : Int32) (p3 : Int32) (p0 : Int32) (v5_57 : Int32) (p1 : Int32) (v6_57 : Int32) (pic_unitsAcross_57 : Int32) (pic_unitsDown_57 : Int32) (N : Nat) (rec : (Int32 × Int32 × (Nat → Int32) × (Nat → Int32) × (Nat → Int32) × (Nat → Int32) × (Nat → Int32) × (Nat → Int32) × (Nat → Int32)) → Option (Int32 × (Nat → Int32) × (Nat → Int32) × (Nat → Int32) × (Nat → Int32) × (Nat → Int32) × (Nat → Int32) × (Nat → Int32))) (v7_57 : Int32) (pic_blocks_57 : Int32) (pic_h_57 : Nat → Int32) (pic_v_57 : Nat → Int32) (pic_ac_57 : Nat → Int32) (pic_dn_57 : Nat → Int32) (pic_oa_57 : Nat → Int32) (pic_od_57 : Nat → Int32) (pic_st_57 : Nat → Int32) : Option (Int32 × (Nat → Int32) × (Nat → Int32) × (Nat → Int32) × (Nat → Int32) × (Nat → Int32) × (Nat → Int32) × (Nat → Int32)) :=
  if pic_many_57 ≤ v7_57 then
    some (pic_blocks_57, pic_h_57, pic_v_57, pic_ac_57, pic_dn_57, pic_oa_57, pic_od_57, pic_st_57)
  else
    (f_Picture_factor v7_57 p3).bind fun z5 =>
    if v7_57 < 0 ∨ 4 ≤ v7_57.toNatClampNeg then none else
    (f_Picture_factor v7_57 (p3 >>> ((1 : Int32) &&& 31))).bind fun z6 =>
    if v7_57 < 0 ∨ 4 ≤ v7_57.toNatClampNeg then none else
    if v7_57 < 0 ∨ 4 ≤ v7_57.toNatClampNeg then none else
    if v7_57 < 0 ∨ 4 ≤ v7_57.toNatClampNeg then none else
    if v7_57 < 0 ∨ 4 ≤ v7_57.toNatClampNeg then none else
    if v7_57 < 0 ∨ 4 ≤ v7_57.toNatClampNeg then none else
    if v7_57 < 0 ∨ 4 ≤ v7_57.toNatClampNeg then none else
    (f_Picture_divideUp (p0 * ((upd pic_h_57 v7_57.toNatClampNeg z5) v7_57.toNatClampNeg)) v5_57).bind fun z7 =>
    (f_Picture_divideUp z7 (8 : Int32)).bind fun z8 =>
    if v7_57 < 0 ∨ 4 ≤ v7_57.toNatClampNeg then none else
    if v7_57 < 0 ∨ 4 ≤ v7_57.toNatClampNeg then none else
    (f_Picture_divideUp (p1 * ((upd pic_v_57 v7_57.toNatClampNeg z6) v7_57.toNatClampNeg)) v6_57).bind fun z9 =>
    (f_Picture_divideUp z9 (8 : Int32)).bind fun z10 =>
    if v7_57 < 0 ∨ 4 ≤ v7_57.toNatClampNeg then none else
    if v7_57 < 0 ∨ 4 ≤ v7_57.toNatClampNeg then none else
    if v7_57 < 0 ∨ 4 ≤ v7_57.toNatClampNeg then none else
    if v7_57 < 0 ∨ 4 ≤ v7_57.toNatClampNeg then none else
    rec (v7_57 + (1 : Int32), pic_blocks_57 + (((upd pic_ac_57 v7_57.toNatClampNeg (((upd pic_h_57 v7_57.toNatClampNeg z5) v7_57.toNatClampNeg) * pic_unitsAcross_57)) v7_57.toNatClampNeg) * ((upd pic_dn_57 v7_57.toNatClampNeg (((upd pic_v_57 v7_57.toNatClampNeg z6) v7_57.toNatClampNeg) * pic_unitsDown_57)) v7_57.toNatClampNeg)), upd pic_h_57 v7_57.toNatClampNeg z5, upd pic_v_57 v7_57.toNatClampNeg z6, upd pic_ac_57 v7_57.toNatClampNeg (((upd pic_h_57 v7_57.toNatClampNeg z5) v7_57.toNatClampNeg) * pic_unitsAcross_57), upd pic_dn_57 v7_57.toNatClampNeg (((upd pic_v_57 v7_57.toNatClampNeg z6) v7_57.toNatClampNeg) * pic_unitsDown_57), upd pic_oa_57 v7_57.toNatClampNeg z8, upd pic_od_57 v7_57.toNatClampNeg z10, upd pic_st_57 v7_57.toNatClampNeg pic_blocks_57)
def f_Picture_become_L57 (pic_many_57 : Int32) (p3 : Int32) (p0 : Int32) (v5_57 : Int32) (p1 : Int32) (v6_57 : Int32) (pic_unitsAcross_57 : Int32) (pic_unitsDown_57 : Int32) (N : Nat) (k : Nat) : (Int32 × Int32 × (Nat → Int32) × (Nat → Int32) × (Nat → Int32) × (Nat → Int32) × (Nat → Int32) × (Nat → Int32) × (Nat → Int32)) → Option (Int32 × (Nat → Int32) × (Nat → Int32) × (Nat → Int32) × (Nat → Int32) × (Nat → Int32) × (Nat → Int32) × (Nat → Int32)) := it (fun rec a => f_Picture_become_L57b pic_many_57 p3 p0 v5_57 p1 v6_57 pic_unitsAcross_57 pic_unitsDown_57 N rec a.1 a.2.1 a.2.2.1 a.2.2.2.1 a.2.2.2.2.1 a.2.2.2.2.2.1 a.2.2.2.2.2.2.1 a.2.2.2.2.2.2.2.1 a.2.2.2.2.2.2.2.2) k
def f_Picture_become (ms : Nat) (N : Nat) (p0 : Int32) (p1 : Int32) (p2 : Int32) (p3 : Int32) (pic_h : Nat → Int32) (pic_v : Nat → Int32) (pic_ac : Nat → Int32) (pic_dn : Nat → Int32) (pic_oa : Nat → Int32) (pic_od : Nat → Int32) (pic_st : Nat → Int32) (n_pic_co : Nat) (pic_co : Nat → Int32) : Option (Int32 × Int32 × Int32 × Int32 × (Nat → Int32) × (Nat → Int32) × (Nat → Int32) × (Nat → Int32) × (Nat → Int32) × (Nat → Int32) × (Nat → Int32) × Nat × (Nat → Int32)) :=
  (f_Picture_greatest N p2 p3).bind fun z1 =>
  (f_Picture_greatest N p2 (p3 >>> ((1 : Int32) &&& 31))).bind fun z2 =>
  (f_Picture_divideUp p0 ((8 : Int32) * z1)).bind fun z3 =>
  (f_Picture_divideUp p1 ((8 : Int32) * z2)).bind fun z4 =>
  (f_Picture_become_L57 p2 p3 p0 z1 p1 z2 z3 z4 N N ((0 : Int32), (0 : Int32), pic_h, pic_v, pic_ac, pic_dn, pic_oa, pic_od, pic_st)).bind fun z11 =>
    (f_Picture_clear ms N z11.1 n_pic_co pic_co).bind fun z12 =>
  some (p2, z3, z4, z11.1, z11.2.1, z11.2.2.1, z11.2.2.2.1, z11.2.2.2.2.1, z11.2.2.2.2.2.1, z11.2.2.2.2.2.2.1, z11.2.2.2.2.2.2.2, z12.1, z12.2)
abbrev w_Picture_become (cI cB cS cT : ClassId) (a_pic : Nat) (a_pic_h : Nat) (a_pic_v : Nat) (a_pic_ac : Nat) (a_pic_dn : Nat) (a_pic_oa : Nat) (a_pic_od : Nat) (a_pic_st : Nat) (a_pic_co : Nat) (pic_many : Int32) (pic_unitsAcross : Int32) (pic_unitsDown : Int32) (pic_blocks : Int32) (pic_h : Nat → Int32) (pic_v : Nat → Int32) (pic_ac : Nat → Int32) (pic_dn : Nat → Int32) (pic_oa : Nat → Int32) (pic_od : Nat → Int32) (pic_st : Nat → Int32) (n_pic_co : Nat) (pic_co : Nat → Int32) : va_W := [(a_pic, .inr (8, [.ref a_pic_h, .ref a_pic_v, .ref a_pic_ac, .ref a_pic_dn, .ref a_pic_oa, .ref a_pic_od, .ref a_pic_st, .int pic_many, .int pic_unitsAcross, .int pic_unitsDown, .int pic_blocks, .ref a_pic_co])), (a_pic_h, .inl (cI, 4, .inl pic_h)), (a_pic_v, .inl (cI, 4, .inl pic_v)), (a_pic_ac, .inl (cI, 4, .inl pic_ac)), (a_pic_dn, .inl (cI, 4, .inl pic_dn)), (a_pic_oa, .inl (cI, 4, .inl pic_oa)), (a_pic_od, .inl (cI, 4, .inl pic_od)), (a_pic_st, .inl (cI, 4, .inl pic_st)), (a_pic_co, .inl (cS, n_pic_co, .inl pic_co))]
def rm_Picture_become (ms : Nat) : Room := { frames := 2, cells := 1, slots := ms, locals := 45 }
set_option maxHeartbeats 1000000 in
set_option maxRecDepth 100000 in
theorem c_Picture_become (l : Launch) (dC : Nat → ClassId) (dI : Nat → Nat → Nat) (cI cB cS cT : ClassId) (ms : Nat) (N : Nat) (a_pic : Nat) (a_pic_h : Nat) (a_pic_v : Nat) (a_pic_ac : Nat) (a_pic_dn : Nat) (a_pic_oa : Nat) (a_pic_od : Nat) (a_pic_st : Nat) (a_pic_co : Nat) (pic_many : Int32) (pic_unitsAcross : Int32) (pic_unitsDown : Int32) (pic_blocks : Int32) (pic_h : Nat → Int32) (pic_v : Nat → Int32) (pic_ac : Nat → Int32) (pic_dn : Nat → Int32) (pic_oa : Nat → Int32) (pic_od : Nat → Int32) (pic_st : Nat → Int32) (n_pic_co : Nat) (pic_co : Nat → Int32) (p0 : Int32) (p1 : Int32) (p2 : Int32) (p3 : Int32) (sz : Nat) (z : Int32 × Int32 × Int32 × Int32 × (Nat → Int32) × (Nat → Int32) × (Nat → Int32) × (Nat → Int32) × (Nat → Int32) × (Nat → Int32) × (Nat → Int32) × Nat × (Nat → Int32)) (hf : f_Picture_become ms N p0 p1 p2 p3 pic_h pic_v pic_ac pic_dn pic_oa pic_od pic_st n_pic_co pic_co = some z) : Met l y_m35 ws_m35 (rm_Picture_become ms) (gPre (dC, dI) [.ref a_pic, .int p0, .int p1, .int p2, .int p3] (gT cI cB cS cT) (w_Picture_become cI cB cS cT a_pic a_pic_h a_pic_v a_pic_ac a_pic_dn a_pic_oa a_pic_od a_pic_st a_pic_co pic_many pic_unitsAcross pic_unitsDown pic_blocks pic_h pic_v pic_ac pic_dn pic_oa pic_od pic_st n_pic_co pic_co) sz) (gQvA (dC, dI) (gT cI cB cS cT) (U := Nat) (w_Picture_become cI cB cS cT a_pic a_pic_h a_pic_v a_pic_ac a_pic_dn a_pic_oa a_pic_od a_pic_st a_pic_co pic_many pic_unitsAcross pic_unitsDown pic_blocks pic_h pic_v pic_ac pic_dn pic_oa pic_od pic_st n_pic_co pic_co) (fun u => (w_Picture_become cI cB cS cT a_pic a_pic_h a_pic_v a_pic_ac a_pic_dn a_pic_oa a_pic_od a_pic_st u z.1 z.2.1 z.2.2.1 z.2.2.2.1 z.2.2.2.2.1 z.2.2.2.2.2.1 z.2.2.2.2.2.2.1 z.2.2.2.2.2.2.2.1 z.2.2.2.2.2.2.2.2.1 z.2.2.2.2.2.2.2.2.2.1 z.2.2.2.2.2.2.2.2.2.2.1 z.2.2.2.2.2.2.2.2.2.2.2.1 z.2.2.2.2.2.2.2.2.2.2.2.2)) sz) 1 ms (va_A (w_Picture_become cI cB cS cT a_pic a_pic_h a_pic_v a_pic_ac a_pic_dn a_pic_oa a_pic_od a_pic_st a_pic_co pic_many pic_unitsAcross pic_unitsDown pic_blocks pic_h pic_v pic_ac pic_dn pic_oa pic_od pic_st n_pic_co pic_co) sz) := by
  refine Met.ofW (cc := prog_9_method_7_code) (maxL := 8) (ret := none) (by decide) rfl ?_
  intro p e s m args below meth c s₁ B hml hv
  obtain ⟨hargs, hsz, hP, hKN, hD0⟩ := hv
  have hK := hKN.1
  have hx := B.exec
  have hb := B.bytes
  have hr := B.returns
  have hts := atoms_spec (ws := ws_m35) B.pre
  have hown : s.vm.findClass "ScanCoder$Picture" = some m.cls := findClass_of_methodNamed B.named
  have hlocks := B.notSynchronized
  have k0 := hts _ (List.mem_cons_of_mem _ tw_72)
  have k1 := hts _ (List.mem_cons_of_mem _ tw_73)
  have k2 := hts _ (List.mem_cons_of_mem _ tw_75)
  have k3 := hts _ (List.mem_cons_of_mem _ tw_77)
  have k4 := hts _ (List.mem_cons_of_mem _ tw_58)
  have k5 := hts _ (List.mem_cons_of_mem _ tw_60)
  have k6 := hts _ (List.mem_cons_of_mem _ tw_62)
  have k7 := hts _ (List.mem_cons_of_mem _ tw_64)
  have k8 := hts _ (List.mem_cons_of_mem _ tw_65)
  have k9 := hts _ (List.mem_cons_of_mem _ tw_67)
  have k10 := hts _ (List.mem_cons_of_mem _ tw_69)
  have n0 : ∀ w ∈ u_ws "ScanCoder$Picture" T_8 12, w ∈ ws_m35 := fun w h => List.mem_cons_of_mem _ (in_8 w h)
  subst hsz
  have hD := hD0.self (sz := s.heap.size)
  obtain ⟨A, hAe⟩ : ∃ A : Nat → Prop, va_A (w_Picture_become cI cB cS cT a_pic a_pic_h a_pic_v a_pic_ac a_pic_dn a_pic_oa a_pic_od a_pic_st a_pic_co pic_many pic_unitsAcross pic_unitsDown pic_blocks pic_h pic_v pic_ac pic_dn pic_oa pic_od pic_st n_pic_co pic_co) s.heap.size = A := ⟨_, rfl⟩
  rw [hAe] at hD
  have hA : ∀ q : Nat, s.heap.size ≤ q → A q := fun q h => by rw [← hAe]; exact Or.inr h
  have hS : va_S A s.heap s.heap [] := va_S.rf
  have hl := lv_entry ([.ref a_pic, .int p0, .int p1, .int p2, .int p3]) (n := 8) (Nat.le_of_ble_eq_true rfl)
  have hfr : entryFrame m args 8 = F0 m 0 ((lg_sl ([.ref a_pic, .int p0, .int p1, .int p2, .int p3]) ++ List.replicate (8 - (lg_sl ([.ref a_pic, .int p0, .int p1, .int p2, .int p3])).length) Slot.unset).toArray) [] := by rw [hargs]; exact lg_entry_eq _ _ _
  rw [hfr]
  generalize (lg_sl ([.ref a_pic, .int p0, .int p1, .int p2, .int p3]) ++ List.replicate (8 - (lg_sl ([.ref a_pic, .int p0, .int p1, .int p2, .int p3])).length) Slot.unset).toArray = ls at hl ⊢
  have hl : lv_has ls 8 [(0, .ref a_pic), (1, .int p0), (2, .int p1), (3, .int p2), (4, .int p3)] := hl
  refine gen_Q (fun Q hQ => ?_)
  clear hfr
  have L57 : ∀ (v5_57 : Int32) (v6_57 : Int32) (pic_many_57 : Int32) (pic_unitsAcross_57 : Int32) (pic_unitsDown_57 : Int32) (z : Int32 × (Nat → Int32) × (Nat → Int32) × (Nat → Int32) × (Nat → Int32) × (Nat → Int32) × (Nat → Int32) × (Nat → Int32)), (GW (dC, dI) A p l e (headSpec ws_m35 (rm_Picture_become ms)).room s m args below meth c 0 0 Q 8 227 (w_Picture_become cI cB cS cT a_pic a_pic_h a_pic_v a_pic_ac a_pic_dn a_pic_oa a_pic_od a_pic_st a_pic_co pic_many_57 pic_unitsAcross_57 pic_unitsDown_57 z.1 z.2.1 z.2.2.1 z.2.2.2.1 z.2.2.2.2.1 z.2.2.2.2.2.1 z.2.2.2.2.2.2.1 z.2.2.2.2.2.2.2 n_pic_co pic_co) [(0, .ref a_pic)] []) → ∀ (k : Nat) (v7_57 : Int32) (pic_blocks_57 : Int32) (pic_h_57 : Nat → Int32) (pic_v_57 : Nat → Int32) (pic_ac_57 : Nat → Int32) (pic_dn_57 : Nat → Int32) (pic_oa_57 : Nat → Int32) (pic_od_57 : Nat → Int32) (pic_st_57 : Nat → Int32), f_Picture_become_L57 pic_many_57 p3 p0 v5_57 p1 v6_57 pic_unitsAcross_57 pic_unitsDown_57 N k (v7_57, pic_blocks_57, pic_h_57, pic_v_57, pic_ac_57, pic_dn_57, pic_oa_57, pic_od_57, pic_st_57) = some z → GW (dC, dI) A p l e (headSpec ws_m35 (rm_Picture_become ms)).room s m args below meth c 0 0 Q 8 57 (w_Picture_become cI cB cS cT a_pic a_pic_h a_pic_v a_pic_ac a_pic_dn a_pic_oa a_pic_od a_pic_st a_pic_co pic_many_57 pic_unitsAcross_57 pic_unitsDown_57 pic_blocks_57 pic_h_57 pic_v_57 pic_ac_57 pic_dn_57 pic_oa_57 pic_od_57 pic_st_57 n_pic_co pic_co) [(0, .ref a_pic), (1, .int p0), (2, .int p1), (4, .int p3), (5, .int v5_57), (6, .int v6_57), (7, .int v7_57)] [] := by
    intro v5_57 v6_57 pic_many_57 pic_unitsAcross_57 pic_unitsDown_57 z hE0 k
    induction k with
    | zero =>
      intro v7_57 pic_blocks_57 pic_h_57 pic_v_57 pic_ac_57 pic_dn_57 pic_oa_57 pic_od_57 pic_st_57 hf
      exact (it_zero hf).elim
    | succ k ih =>
      intro v7_57 pic_blocks_57 pic_h_57 pic_v_57 pic_ac_57 pic_dn_57 pic_oa_57 pic_od_57 pic_st_57 hf H locs ls hP hD hS hl
      have hf : f_Picture_become_L57b pic_many_57 p3 p0 v5_57 p1 v6_57 pic_unitsAcross_57 pic_unitsDown_57 N (f_Picture_become_L57 pic_many_57 p3 p0 v5_57 p1 v6_57 pic_unitsAcross_57 pic_unitsDown_57 N k) v7_57 pic_blocks_57 pic_h_57 pic_v_57 pic_ac_57 pic_dn_57 pic_oa_57 pic_od_57 pic_st_57 = some z := hf
      unfold f_Picture_become_L57b at hf
      refine lv_iload hx hb d_m35_57 (lv_at hl 6 rfl) ?_
      refine lv_aload_n hx hb d_m35_59 rfl (lv_at hl 0 rfl) ?_
      refine va_get (D := (dC, dI)) (ci := 8) (v := .int pic_many_57) (C := "ScanCoder$Picture") (T := T_8) (N := 12) hx hb hts n0 hown hK hP 0 rfl rfl 7 (by decide) k0 (fun _ h9 => h9) rfl d_m35_60 ?_
      refine lv_icmp_ge (tgt := 227) hx hb d_m35_63 (by decide) (fun hc => ?_) (fun hc => ?_)
      · replace hf := (if_pos hc).symm.trans hf
        obtain rfl := Option.some.inj hf
        exact hE0  H locs ls hP hD hS (lv_sub hl [0] rfl)
      · replace hf := (if_neg hc).symm.trans hf
        refine lv_aload_n hx hb d_m35_66 rfl (lv_at hl 0 rfl) ?_
        refine va_get (D := (dC, dI)) (ci := 8) (v := .ref a_pic_h) (C := "ScanCoder$Picture") (T := T_8) (N := 12) hx hb hts n0 hown hK hP 0 rfl rfl 0 (by decide) k4 (fun _ h9 => h9) rfl d_m35_67 ?_
        refine lv_iload hx hb d_m35_70 (lv_at hl 6 rfl) ?_
        refine lv_iload hx hb d_m35_72 (lv_at hl 6 rfl) ?_
        refine lv_iload hx hb d_m35_74 (lv_at hl 3 rfl) ?_
        obtain ⟨z5, hz5, hf⟩ := ob_bind hf
        refine vp_callSi (g_run (va_runS (As := [.int v7_57, .int p3]) (rest := [.int v7_57, .ref a_pic_h]) ⟨hx, hb, hml, hown, hts⟩ (c_Picture_factor l dC dI cI cB cS cT v7_57 p3 z5 hz5) ⟨(callB_of 2 hts (gi tw_41 rfl) rfl rfl rfl (hts _ (List.mem_cons_of_mem _ tw_2)) (hts _ (List.mem_cons_of_mem _ tw_39)) (by decide +kernel) ⟨Nat.le_of_ble_eq_true rfl, Nat.le_of_ble_eq_true rfl⟩), hts _ (List.mem_cons_of_mem _ tw_40)⟩ ⟨gp_blind, gp_at hKN (g_pm hP [] rfl)⟩ rfl rfl hl.1 rfl (lv_room (Nat.le_of_ble_eq_true rfl)) d_m35_76 ⟨Nat.zero_le _, Nat.zero_le _⟩)) (fun r hrz5 => ?_)
        have hrz5 := hrz5.symm
        subst hrz5
        refine W.eq (g2 := F0 m 79 ls [.int z5, .int v7_57, .ref a_pic_h]) rfl ?_
        obtain ⟨hi, hf⟩ := ob_if hf
        refine va_iast hx hb hK hP hD hS 1 0 rfl rfl hi d_m35_79 (fun H locs hP hD hS => ?_)
        have hP : va_P (dC, dI) vwCl (w_Picture_become cI cB cS cT a_pic a_pic_h a_pic_v a_pic_ac a_pic_dn a_pic_oa a_pic_od a_pic_st a_pic_co pic_many_57 pic_unitsAcross_57 pic_unitsDown_57 pic_blocks_57 (upd pic_h_57 v7_57.toNatClampNeg z5) pic_v_57 pic_ac_57 pic_dn_57 pic_oa_57 pic_od_57 pic_st_57 n_pic_co pic_co) H := hP
        have hD : va_D A (w_Picture_become cI cB cS cT a_pic a_pic_h a_pic_v a_pic_ac a_pic_dn a_pic_oa a_pic_od a_pic_st a_pic_co pic_many_57 pic_unitsAcross_57 pic_unitsDown_57 pic_blocks_57 (upd pic_h_57 v7_57.toNatClampNeg z5) pic_v_57 pic_ac_57 pic_dn_57 pic_oa_57 pic_od_57 pic_st_57 n_pic_co pic_co) := hD
        refine lv_aload_n hx hb d_m35_80 rfl (lv_at hl 0 rfl) ?_
        refine va_get (D := (dC, dI)) (ci := 8) (v := .ref a_pic_v) (C := "ScanCoder$Picture") (T := T_8) (N := 12) hx hb hts n0 hown hK hP 0 rfl rfl 1 (by decide) k5 (fun _ h9 => h9) rfl d_m35_81 ?_
        refine lv_iload hx hb d_m35_84 (lv_at hl 6 rfl) ?_
        refine lv_iload hx hb d_m35_86 (lv_at hl 6 rfl) ?_
        refine lv_iload hx hb d_m35_88 (lv_at hl 3 rfl) ?_
        refine lv_iconst (v := (1 : Int32)) hx hb d_m35_90 (by decide) ?_
        refine lv_ishr hx hb d_m35_91 ?_
        obtain ⟨z6, hz6, hf⟩ := ob_bind hf
        refine vp_callSi (g_run (va_runS (As := [.int v7_57, .int (p3 >>> ((1 : Int32) &&& 31))]) (rest := [.int v7_57, .ref a_pic_v]) ⟨hx, hb, hml, hown, hts⟩ (c_Picture_factor l dC dI cI cB cS cT v7_57 (p3 >>> ((1 : Int32) &&& 31)) z6 hz6) ⟨(callB_of 2 hts (gi tw_41 rfl) rfl rfl rfl (hts _ (List.mem_cons_of_mem _ tw_2)) (hts _ (List.mem_cons_of_mem _ tw_39)) (by decide +kernel) ⟨Nat.le_of_ble_eq_true rfl, Nat.le_of_ble_eq_true rfl⟩), hts _ (List.mem_cons_of_mem _ tw_40)⟩ ⟨gp_blind, gp_at hKN (g_pm hP [] rfl)⟩ rfl rfl hl.1 rfl (lv_room (Nat.le_of_ble_eq_true rfl)) d_m35_92 ⟨Nat.zero_le _, Nat.zero_le _⟩)) (fun r hrz6 => ?_)
        have hrz6 := hrz6.symm
        subst hrz6
        refine W.eq (g2 := F0 m 95 ls [.int z6, .int v7_57, .ref a_pic_v]) rfl ?_
        obtain ⟨hi, hf⟩ := ob_if hf
        refine va_iast hx hb hK hP hD hS 2 0 rfl rfl hi d_m35_95 (fun H locs hP hD hS => ?_)
        have hP : va_P (dC, dI) vwCl (w_Picture_become cI cB cS cT a_pic a_pic_h a_pic_v a_pic_ac a_pic_dn a_pic_oa a_pic_od a_pic_st a_pic_co pic_many_57 pic_unitsAcross_57 pic_unitsDown_57 pic_blocks_57 (upd pic_h_57 v7_57.toNatClampNeg z5) (upd pic_v_57 v7_57.toNatClampNeg z6) pic_ac_57 pic_dn_57 pic_oa_57 pic_od_57 pic_st_57 n_pic_co pic_co) H := hP
        have hD : va_D A (w_Picture_become cI cB cS cT a_pic a_pic_h a_pic_v a_pic_ac a_pic_dn a_pic_oa a_pic_od a_pic_st a_pic_co pic_many_57 pic_unitsAcross_57 pic_unitsDown_57 pic_blocks_57 (upd pic_h_57 v7_57.toNatClampNeg z5) (upd pic_v_57 v7_57.toNatClampNeg z6) pic_ac_57 pic_dn_57 pic_oa_57 pic_od_57 pic_st_57 n_pic_co pic_co) := hD
        refine lv_aload_n hx hb d_m35_96 rfl (lv_at hl 0 rfl) ?_
        refine va_get (D := (dC, dI)) (ci := 8) (v := .ref a_pic_ac) (C := "ScanCoder$Picture") (T := T_8) (N := 12) hx hb hts n0 hown hK hP 0 rfl rfl 2 (by decide) k6 (fun _ h9 => h9) rfl d_m35_97 ?_
        refine lv_iload hx hb d_m35_100 (lv_at hl 6 rfl) ?_
        refine lv_aload_n hx hb d_m35_102 rfl (lv_at hl 0 rfl) ?_
        refine va_get (D := (dC, dI)) (ci := 8) (v := .ref a_pic_h) (C := "ScanCoder$Picture") (T := T_8) (N := 12) hx hb hts n0 hown hK hP 0 rfl rfl 0 (by decide) k4 (fun _ h9 => h9) rfl d_m35_103 ?_
        refine lv_iload hx hb d_m35_106 (lv_at hl 6 rfl) ?_
        obtain ⟨hi, hf⟩ := ob_if hf
        refine va_iald hx hb hK hP 1 0 rfl rfl hi d_m35_108 ?_
        refine lv_aload_n hx hb d_m35_109 rfl (lv_at hl 0 rfl) ?_
        refine va_get (D := (dC, dI)) (ci := 8) (v := .int pic_unitsAcross_57) (C := "ScanCoder$Picture") (T := T_8) (N := 12) hx hb hts n0 hown hK hP 0 rfl rfl 8 (by decide) k1 (fun _ h9 => h9) rfl d_m35_110 ?_
        refine lv_imul hx hb d_m35_113 ?_
        obtain ⟨hi, hf⟩ := ob_if hf
        refine va_iast hx hb hK hP hD hS 3 0 rfl rfl hi d_m35_114 (fun H locs hP hD hS => ?_)
        have hP : va_P (dC, dI) vwCl (w_Picture_become cI cB cS cT a_pic a_pic_h a_pic_v a_pic_ac a_pic_dn a_pic_oa a_pic_od a_pic_st a_pic_co pic_many_57 pic_unitsAcross_57 pic_unitsDown_57 pic_blocks_57 (upd pic_h_57 v7_57.toNatClampNeg z5) (upd pic_v_57 v7_57.toNatClampNeg z6) (upd pic_ac_57 v7_57.toNatClampNeg (((upd pic_h_57 v7_57.toNatClampNeg z5) v7_57.toNatClampNeg) * pic_unitsAcross_57)) pic_dn_57 pic_oa_57 pic_od_57 pic_st_57 n_pic_co pic_co) H := hP
        have hD : va_D A (w_Picture_become cI cB cS cT a_pic a_pic_h a_pic_v a_pic_ac a_pic_dn a_pic_oa a_pic_od a_pic_st a_pic_co pic_many_57 pic_unitsAcross_57 pic_unitsDown_57 pic_blocks_57 (upd pic_h_57 v7_57.toNatClampNeg z5) (upd pic_v_57 v7_57.toNatClampNeg z6) (upd pic_ac_57 v7_57.toNatClampNeg (((upd pic_h_57 v7_57.toNatClampNeg z5) v7_57.toNatClampNeg) * pic_unitsAcross_57)) pic_dn_57 pic_oa_57 pic_od_57 pic_st_57 n_pic_co pic_co) := hD
        refine lv_aload_n hx hb d_m35_115 rfl (lv_at hl 0 rfl) ?_
        refine va_get (D := (dC, dI)) (ci := 8) (v := .ref a_pic_dn) (C := "ScanCoder$Picture") (T := T_8) (N := 12) hx hb hts n0 hown hK hP 0 rfl rfl 3 (by decide) k7 (fun _ h9 => h9) rfl d_m35_116 ?_
        refine lv_iload hx hb d_m35_119 (lv_at hl 6 rfl) ?_
        refine lv_aload_n hx hb d_m35_121 rfl (lv_at hl 0 rfl) ?_
        refine va_get (D := (dC, dI)) (ci := 8) (v := .ref a_pic_v) (C := "ScanCoder$Picture") (T := T_8) (N := 12) hx hb hts n0 hown hK hP 0 rfl rfl 1 (by decide) k5 (fun _ h9 => h9) rfl d_m35_122 ?_
        refine lv_iload hx hb d_m35_125 (lv_at hl 6 rfl) ?_
        obtain ⟨hi, hf⟩ := ob_if hf
        refine va_iald hx hb hK hP 2 0 rfl rfl hi d_m35_127 ?_
        refine lv_aload_n hx hb d_m35_128 rfl (lv_at hl 0 rfl) ?_
        refine va_get (D := (dC, dI)) (ci := 8) (v := .int pic_unitsDown_57) (C := "ScanCoder$Picture") (T := T_8) (N := 12) hx hb hts n0 hown hK hP 0 rfl rfl 9 (by decide) k2 (fun _ h9 => h9) rfl d_m35_129 ?_
        refine lv_imul hx hb d_m35_132 ?_
        obtain ⟨hi, hf⟩ := ob_if hf
        refine va_iast hx hb hK hP hD hS 4 0 rfl rfl hi d_m35_133 (fun H locs hP hD hS => ?_)
        have hP : va_P (dC, dI) vwCl (w_Picture_become cI cB cS cT a_pic a_pic_h a_pic_v a_pic_ac a_pic_dn a_pic_oa a_pic_od a_pic_st a_pic_co pic_many_57 pic_unitsAcross_57 pic_unitsDown_57 pic_blocks_57 (upd pic_h_57 v7_57.toNatClampNeg z5) (upd pic_v_57 v7_57.toNatClampNeg z6) (upd pic_ac_57 v7_57.toNatClampNeg (((upd pic_h_57 v7_57.toNatClampNeg z5) v7_57.toNatClampNeg) * pic_unitsAcross_57)) (upd pic_dn_57 v7_57.toNatClampNeg (((upd pic_v_57 v7_57.toNatClampNeg z6) v7_57.toNatClampNeg) * pic_unitsDown_57)) pic_oa_57 pic_od_57 pic_st_57 n_pic_co pic_co) H := hP
        have hD : va_D A (w_Picture_become cI cB cS cT a_pic a_pic_h a_pic_v a_pic_ac a_pic_dn a_pic_oa a_pic_od a_pic_st a_pic_co pic_many_57 pic_unitsAcross_57 pic_unitsDown_57 pic_blocks_57 (upd pic_h_57 v7_57.toNatClampNeg z5) (upd pic_v_57 v7_57.toNatClampNeg z6) (upd pic_ac_57 v7_57.toNatClampNeg (((upd pic_h_57 v7_57.toNatClampNeg z5) v7_57.toNatClampNeg) * pic_unitsAcross_57)) (upd pic_dn_57 v7_57.toNatClampNeg (((upd pic_v_57 v7_57.toNatClampNeg z6) v7_57.toNatClampNeg) * pic_unitsDown_57)) pic_oa_57 pic_od_57 pic_st_57 n_pic_co pic_co) := hD
        refine lv_aload_n hx hb d_m35_134 rfl (lv_at hl 0 rfl) ?_
        refine va_get (D := (dC, dI)) (ci := 8) (v := .ref a_pic_oa) (C := "ScanCoder$Picture") (T := T_8) (N := 12) hx hb hts n0 hown hK hP 0 rfl rfl 4 (by decide) k8 (fun _ h9 => h9) rfl d_m35_135 ?_
        refine lv_iload hx hb d_m35_138 (lv_at hl 6 rfl) ?_
        refine lv_iload_n hx hb d_m35_140 rfl (lv_at hl 1 rfl) ?_
        refine lv_aload_n hx hb d_m35_141 rfl (lv_at hl 0 rfl) ?_
        refine va_get (D := (dC, dI)) (ci := 8) (v := .ref a_pic_h) (C := "ScanCoder$Picture") (T := T_8) (N := 12) hx hb hts n0 hown hK hP 0 rfl rfl 0 (by decide) k4 (fun _ h9 => h9) rfl d_m35_142 ?_
        refine lv_iload hx hb d_m35_145 (lv_at hl 6 rfl) ?_
        obtain ⟨hi, hf⟩ := ob_if hf
        refine va_iald hx hb hK hP 1 0 rfl rfl hi d_m35_147 ?_
        refine lv_imul hx hb d_m35_148 ?_
        refine lv_iload hx hb d_m35_149 (lv_at hl 4 rfl) ?_
        obtain ⟨z7, hz7, hf⟩ := ob_bind hf
        refine vp_callSi (g_run (va_runS (As := [.int (p0 * ((upd pic_h_57 v7_57.toNatClampNeg z5) v7_57.toNatClampNeg)), .int v5_57]) (rest := [.int v7_57, .ref a_pic_oa]) ⟨hx, hb, hml, hown, hts⟩ (c_Picture_divideUp l dC dI cI cB cS cT (p0 * ((upd pic_h_57 v7_57.toNatClampNeg z5) v7_57.toNatClampNeg)) v5_57 z7 hz7) ⟨(callB_of 2 hts (gi tw_47 rfl) rfl rfl rfl (hts _ (List.mem_cons_of_mem _ tw_2)) (hts _ (List.mem_cons_of_mem _ tw_45)) (by decide +kernel) ⟨Nat.le_of_ble_eq_true rfl, Nat.le_of_ble_eq_true rfl⟩), hts _ (List.mem_cons_of_mem _ tw_46)⟩ ⟨gp_blind, gp_at hKN (g_pm hP [] rfl)⟩ rfl rfl hl.1 rfl (lv_room (Nat.le_of_ble_eq_true rfl)) d_m35_151 ⟨Nat.zero_le _, Nat.zero_le _⟩)) (fun r hrz7 => ?_)
        have hrz7 := hrz7.symm
        subst hrz7
        refine W.eq (g2 := F0 m 154 ls [.int z7, .int v7_57, .ref a_pic_oa]) rfl ?_
        refine lv_bipush (v := (8 : Int32)) hx hb d_m35_154 (by decide) ?_
        obtain ⟨z8, hz8, hf⟩ := ob_bind hf
        refine vp_callSi (g_run (va_runS (As := [.int z7, .int (8 : Int32)]) (rest := [.int v7_57, .ref a_pic_oa]) ⟨hx, hb, hml, hown, hts⟩ (c_Picture_divideUp l dC dI cI cB cS cT z7 (8 : Int32) z8 hz8) ⟨(callB_of 2 hts (gi tw_47 rfl) rfl rfl rfl (hts _ (List.mem_cons_of_mem _ tw_2)) (hts _ (List.mem_cons_of_mem _ tw_45)) (by decide +kernel) ⟨Nat.le_of_ble_eq_true rfl, Nat.le_of_ble_eq_true rfl⟩), hts _ (List.mem_cons_of_mem _ tw_46)⟩ ⟨gp_blind, gp_at hKN (g_pm hP [] rfl)⟩ rfl rfl hl.1 rfl (lv_room (Nat.le_of_ble_eq_true rfl)) d_m35_156 ⟨Nat.zero_le _, Nat.zero_le _⟩)) (fun r hrz8 => ?_)
        have hrz8 := hrz8.symm
        subst hrz8
        refine W.eq (g2 := F0 m 159 ls [.int z8, .int v7_57, .ref a_pic_oa]) rfl ?_
        obtain ⟨hi, hf⟩ := ob_if hf
        refine va_iast hx hb hK hP hD hS 5 0 rfl rfl hi d_m35_159 (fun H locs hP hD hS => ?_)
        have hP : va_P (dC, dI) vwCl (w_Picture_become cI cB cS cT a_pic a_pic_h a_pic_v a_pic_ac a_pic_dn a_pic_oa a_pic_od a_pic_st a_pic_co pic_many_57 pic_unitsAcross_57 pic_unitsDown_57 pic_blocks_57 (upd pic_h_57 v7_57.toNatClampNeg z5) (upd pic_v_57 v7_57.toNatClampNeg z6) (upd pic_ac_57 v7_57.toNatClampNeg (((upd pic_h_57 v7_57.toNatClampNeg z5) v7_57.toNatClampNeg) * pic_unitsAcross_57)) (upd pic_dn_57 v7_57.toNatClampNeg (((upd pic_v_57 v7_57.toNatClampNeg z6) v7_57.toNatClampNeg) * pic_unitsDown_57)) (upd pic_oa_57 v7_57.toNatClampNeg z8) pic_od_57 pic_st_57 n_pic_co pic_co) H := hP
        have hD : va_D A (w_Picture_become cI cB cS cT a_pic a_pic_h a_pic_v a_pic_ac a_pic_dn a_pic_oa a_pic_od a_pic_st a_pic_co pic_many_57 pic_unitsAcross_57 pic_unitsDown_57 pic_blocks_57 (upd pic_h_57 v7_57.toNatClampNeg z5) (upd pic_v_57 v7_57.toNatClampNeg z6) (upd pic_ac_57 v7_57.toNatClampNeg (((upd pic_h_57 v7_57.toNatClampNeg z5) v7_57.toNatClampNeg) * pic_unitsAcross_57)) (upd pic_dn_57 v7_57.toNatClampNeg (((upd pic_v_57 v7_57.toNatClampNeg z6) v7_57.toNatClampNeg) * pic_unitsDown_57)) (upd pic_oa_57 v7_57.toNatClampNeg z8) pic_od_57 pic_st_57 n_pic_co pic_co) := hD
        refine lv_aload_n hx hb d_m35_160 rfl (lv_at hl 0 rfl) ?_
        refine va_get (D := (dC, dI)) (ci := 8) (v := .ref a_pic_od) (C := "ScanCoder$Picture") (T := T_8) (N := 12) hx hb hts n0 hown hK hP 0 rfl rfl 5 (by decide) k9 (fun _ h9 => h9) rfl d_m35_161 ?_
        refine lv_iload hx hb d_m35_164 (lv_at hl 6 rfl) ?_
        refine lv_iload_n hx hb d_m35_166 rfl (lv_at hl 2 rfl) ?_
        refine lv_aload_n hx hb d_m35_167 rfl (lv_at hl 0 rfl) ?_
        refine va_get (D := (dC, dI)) (ci := 8) (v := .ref a_pic_v) (C := "ScanCoder$Picture") (T := T_8) (N := 12) hx hb hts n0 hown hK hP 0 rfl rfl 1 (by decide) k5 (fun _ h9 => h9) rfl d_m35_168 ?_
        refine lv_iload hx hb d_m35_171 (lv_at hl 6 rfl) ?_
        obtain ⟨hi, hf⟩ := ob_if hf
        refine va_iald hx hb hK hP 2 0 rfl rfl hi d_m35_173 ?_
        refine lv_imul hx hb d_m35_174 ?_
        refine lv_iload hx hb d_m35_175 (lv_at hl 5 rfl) ?_
        obtain ⟨z9, hz9, hf⟩ := ob_bind hf
        refine vp_callSi (g_run (va_runS (As := [.int (p1 * ((upd pic_v_57 v7_57.toNatClampNeg z6) v7_57.toNatClampNeg)), .int v6_57]) (rest := [.int v7_57, .ref a_pic_od]) ⟨hx, hb, hml, hown, hts⟩ (c_Picture_divideUp l dC dI cI cB cS cT (p1 * ((upd pic_v_57 v7_57.toNatClampNeg z6) v7_57.toNatClampNeg)) v6_57 z9 hz9) ⟨(callB_of 2 hts (gi tw_47 rfl) rfl rfl rfl (hts _ (List.mem_cons_of_mem _ tw_2)) (hts _ (List.mem_cons_of_mem _ tw_45)) (by decide +kernel) ⟨Nat.le_of_ble_eq_true rfl, Nat.le_of_ble_eq_true rfl⟩), hts _ (List.mem_cons_of_mem _ tw_46)⟩ ⟨gp_blind, gp_at hKN (g_pm hP [] rfl)⟩ rfl rfl hl.1 rfl (lv_room (Nat.le_of_ble_eq_true rfl)) d_m35_177 ⟨Nat.zero_le _, Nat.zero_le _⟩)) (fun r hrz9 => ?_)
        have hrz9 := hrz9.symm
        subst hrz9
        refine W.eq (g2 := F0 m 180 ls [.int z9, .int v7_57, .ref a_pic_od]) rfl ?_
        refine lv_bipush (v := (8 : Int32)) hx hb d_m35_180 (by decide) ?_
        obtain ⟨z10, hz10, hf⟩ := ob_bind hf
        refine vp_callSi (g_run (va_runS (As := [.int z9, .int (8 : Int32)]) (rest := [.int v7_57, .ref a_pic_od]) ⟨hx, hb, hml, hown, hts⟩ (c_Picture_divideUp l dC dI cI cB cS cT z9 (8 : Int32) z10 hz10) ⟨(callB_of 2 hts (gi tw_47 rfl) rfl rfl rfl (hts _ (List.mem_cons_of_mem _ tw_2)) (hts _ (List.mem_cons_of_mem _ tw_45)) (by decide +kernel) ⟨Nat.le_of_ble_eq_true rfl, Nat.le_of_ble_eq_true rfl⟩), hts _ (List.mem_cons_of_mem _ tw_46)⟩ ⟨gp_blind, gp_at hKN (g_pm hP [] rfl)⟩ rfl rfl hl.1 rfl (lv_room (Nat.le_of_ble_eq_true rfl)) d_m35_182 ⟨Nat.zero_le _, Nat.zero_le _⟩)) (fun r hrz10 => ?_)
        have hrz10 := hrz10.symm
        subst hrz10
        refine W.eq (g2 := F0 m 185 ls [.int z10, .int v7_57, .ref a_pic_od]) rfl ?_
        obtain ⟨hi, hf⟩ := ob_if hf
        refine va_iast hx hb hK hP hD hS 6 0 rfl rfl hi d_m35_185 (fun H locs hP hD hS => ?_)
        have hP : va_P (dC, dI) vwCl (w_Picture_become cI cB cS cT a_pic a_pic_h a_pic_v a_pic_ac a_pic_dn a_pic_oa a_pic_od a_pic_st a_pic_co pic_many_57 pic_unitsAcross_57 pic_unitsDown_57 pic_blocks_57 (upd pic_h_57 v7_57.toNatClampNeg z5) (upd pic_v_57 v7_57.toNatClampNeg z6) (upd pic_ac_57 v7_57.toNatClampNeg (((upd pic_h_57 v7_57.toNatClampNeg z5) v7_57.toNatClampNeg) * pic_unitsAcross_57)) (upd pic_dn_57 v7_57.toNatClampNeg (((upd pic_v_57 v7_57.toNatClampNeg z6) v7_57.toNatClampNeg) * pic_unitsDown_57)) (upd pic_oa_57 v7_57.toNatClampNeg z8) (upd pic_od_57 v7_57.toNatClampNeg z10) pic_st_57 n_pic_co pic_co) H := hP
        have hD : va_D A (w_Picture_become cI cB cS cT a_pic a_pic_h a_pic_v a_pic_ac a_pic_dn a_pic_oa a_pic_od a_pic_st a_pic_co pic_many_57 pic_unitsAcross_57 pic_unitsDown_57 pic_blocks_57 (upd pic_h_57 v7_57.toNatClampNeg z5) (upd pic_v_57 v7_57.toNatClampNeg z6) (upd pic_ac_57 v7_57.toNatClampNeg (((upd pic_h_57 v7_57.toNatClampNeg z5) v7_57.toNatClampNeg) * pic_unitsAcross_57)) (upd pic_dn_57 v7_57.toNatClampNeg (((upd pic_v_57 v7_57.toNatClampNeg z6) v7_57.toNatClampNeg) * pic_unitsDown_57)) (upd pic_oa_57 v7_57.toNatClampNeg z8) (upd pic_od_57 v7_57.toNatClampNeg z10) pic_st_57 n_pic_co pic_co) := hD
        refine lv_aload_n hx hb d_m35_186 rfl (lv_at hl 0 rfl) ?_
        refine va_get (D := (dC, dI)) (ci := 8) (v := .ref a_pic_st) (C := "ScanCoder$Picture") (T := T_8) (N := 12) hx hb hts n0 hown hK hP 0 rfl rfl 6 (by decide) k10 (fun _ h9 => h9) rfl d_m35_187 ?_
        refine lv_iload hx hb d_m35_190 (lv_at hl 6 rfl) ?_
        refine lv_aload_n hx hb d_m35_192 rfl (lv_at hl 0 rfl) ?_
        refine va_get (D := (dC, dI)) (ci := 8) (v := .int pic_blocks_57) (C := "ScanCoder$Picture") (T := T_8) (N := 12) hx hb hts n0 hown hK hP 0 rfl rfl 10 (by decide) k3 (fun _ h9 => h9) rfl d_m35_193 ?_
        obtain ⟨hi, hf⟩ := ob_if hf
        refine va_iast hx hb hK hP hD hS 7 0 rfl rfl hi d_m35_196 (fun H locs hP hD hS => ?_)
        have hP : va_P (dC, dI) vwCl (w_Picture_become cI cB cS cT a_pic a_pic_h a_pic_v a_pic_ac a_pic_dn a_pic_oa a_pic_od a_pic_st a_pic_co pic_many_57 pic_unitsAcross_57 pic_unitsDown_57 pic_blocks_57 (upd pic_h_57 v7_57.toNatClampNeg z5) (upd pic_v_57 v7_57.toNatClampNeg z6) (upd pic_ac_57 v7_57.toNatClampNeg (((upd pic_h_57 v7_57.toNatClampNeg z5) v7_57.toNatClampNeg) * pic_unitsAcross_57)) (upd pic_dn_57 v7_57.toNatClampNeg (((upd pic_v_57 v7_57.toNatClampNeg z6) v7_57.toNatClampNeg) * pic_unitsDown_57)) (upd pic_oa_57 v7_57.toNatClampNeg z8) (upd pic_od_57 v7_57.toNatClampNeg z10) (upd pic_st_57 v7_57.toNatClampNeg pic_blocks_57) n_pic_co pic_co) H := hP
        have hD : va_D A (w_Picture_become cI cB cS cT a_pic a_pic_h a_pic_v a_pic_ac a_pic_dn a_pic_oa a_pic_od a_pic_st a_pic_co pic_many_57 pic_unitsAcross_57 pic_unitsDown_57 pic_blocks_57 (upd pic_h_57 v7_57.toNatClampNeg z5) (upd pic_v_57 v7_57.toNatClampNeg z6) (upd pic_ac_57 v7_57.toNatClampNeg (((upd pic_h_57 v7_57.toNatClampNeg z5) v7_57.toNatClampNeg) * pic_unitsAcross_57)) (upd pic_dn_57 v7_57.toNatClampNeg (((upd pic_v_57 v7_57.toNatClampNeg z6) v7_57.toNatClampNeg) * pic_unitsDown_57)) (upd pic_oa_57 v7_57.toNatClampNeg z8) (upd pic_od_57 v7_57.toNatClampNeg z10) (upd pic_st_57 v7_57.toNatClampNeg pic_blocks_57) n_pic_co pic_co) := hD
        refine lv_aload_n hx hb d_m35_197 rfl (lv_at hl 0 rfl) ?_
        refine lv_dup hx hb d_m35_198 rfl ?_
        refine va_get (D := (dC, dI)) (ci := 8) (v := .int pic_blocks_57) (C := "ScanCoder$Picture") (T := T_8) (N := 12) hx hb hts n0 hown hK hP 0 rfl rfl 10 (by decide) k3 (fun _ h9 => h9) rfl d_m35_199 ?_
        refine lv_aload_n hx hb d_m35_202 rfl (lv_at hl 0 rfl) ?_
        refine va_get (D := (dC, dI)) (ci := 8) (v := .ref a_pic_ac) (C := "ScanCoder$Picture") (T := T_8) (N := 12) hx hb hts n0 hown hK hP 0 rfl rfl 2 (by decide) k6 (fun _ h9 => h9) rfl d_m35_203 ?_
        refine lv_iload hx hb d_m35_206 (lv_at hl 6 rfl) ?_
        obtain ⟨hi, hf⟩ := ob_if hf
        refine va_iald hx hb hK hP 3 0 rfl rfl hi d_m35_208 ?_
        refine lv_aload_n hx hb d_m35_209 rfl (lv_at hl 0 rfl) ?_
        refine va_get (D := (dC, dI)) (ci := 8) (v := .ref a_pic_dn) (C := "ScanCoder$Picture") (T := T_8) (N := 12) hx hb hts n0 hown hK hP 0 rfl rfl 3 (by decide) k7 (fun _ h9 => h9) rfl d_m35_210 ?_
        refine lv_iload hx hb d_m35_213 (lv_at hl 6 rfl) ?_
        obtain ⟨hi, hf⟩ := ob_if hf
        refine va_iald hx hb hK hP 4 0 rfl rfl hi d_m35_215 ?_
        refine lv_imul hx hb d_m35_216 ?_
        refine lv_iadd hx hb d_m35_217 ?_
        refine va_put (D := (dC, dI)) (ci := 8) (v := .int (pic_blocks_57 + (((upd pic_ac_57 v7_57.toNatClampNeg (((upd pic_h_57 v7_57.toNatClampNeg z5) v7_57.toNatClampNeg) * pic_unitsAcross_57)) v7_57.toNatClampNeg) * ((upd pic_dn_57 v7_57.toNatClampNeg (((upd pic_v_57 v7_57.toNatClampNeg z6) v7_57.toNatClampNeg) * pic_unitsDown_57)) v7_57.toNatClampNeg)))) (ty := .int) (C := "ScanCoder$Picture") (T := T_8) (N := 12) hx hb hts n0 ty_8 tyok_8 nm_8 hown hK hP hD hS 0 rfl rfl 10 (by decide) k3 (fun _ h9 => h9) rfl (by decide +kernel) rfl rfl (Nat.le_of_ble_eq_true rfl) d_m35_218 (fun H locs hP hD hS => ?_)
        have hP : va_P (dC, dI) vwCl (w_Picture_become cI cB cS cT a_pic a_pic_h a_pic_v a_pic_ac a_pic_dn a_pic_oa a_pic_od a_pic_st a_pic_co pic_many_57 pic_unitsAcross_57 pic_unitsDown_57 (pic_blocks_57 + (((upd pic_ac_57 v7_57.toNatClampNeg (((upd pic_h_57 v7_57.toNatClampNeg z5) v7_57.toNatClampNeg) * pic_unitsAcross_57)) v7_57.toNatClampNeg) * ((upd pic_dn_57 v7_57.toNatClampNeg (((upd pic_v_57 v7_57.toNatClampNeg z6) v7_57.toNatClampNeg) * pic_unitsDown_57)) v7_57.toNatClampNeg))) (upd pic_h_57 v7_57.toNatClampNeg z5) (upd pic_v_57 v7_57.toNatClampNeg z6) (upd pic_ac_57 v7_57.toNatClampNeg (((upd pic_h_57 v7_57.toNatClampNeg z5) v7_57.toNatClampNeg) * pic_unitsAcross_57)) (upd pic_dn_57 v7_57.toNatClampNeg (((upd pic_v_57 v7_57.toNatClampNeg z6) v7_57.toNatClampNeg) * pic_unitsDown_57)) (upd pic_oa_57 v7_57.toNatClampNeg z8) (upd pic_od_57 v7_57.toNatClampNeg z10) (upd pic_st_57 v7_57.toNatClampNeg pic_blocks_57) n_pic_co pic_co) H := hP
        have hD : va_D A (w_Picture_become cI cB cS cT a_pic a_pic_h a_pic_v a_pic_ac a_pic_dn a_pic_oa a_pic_od a_pic_st a_pic_co pic_many_57 pic_unitsAcross_57 pic_unitsDown_57 (pic_blocks_57 + (((upd pic_ac_57 v7_57.toNatClampNeg (((upd pic_h_57 v7_57.toNatClampNeg z5) v7_57.toNatClampNeg) * pic_unitsAcross_57)) v7_57.toNatClampNeg) * ((upd pic_dn_57 v7_57.toNatClampNeg (((upd pic_v_57 v7_57.toNatClampNeg z6) v7_57.toNatClampNeg) * pic_unitsDown_57)) v7_57.toNatClampNeg))) (upd pic_h_57 v7_57.toNatClampNeg z5) (upd pic_v_57 v7_57.toNatClampNeg z6) (upd pic_ac_57 v7_57.toNatClampNeg (((upd pic_h_57 v7_57.toNatClampNeg z5) v7_57.toNatClampNeg) * pic_unitsAcross_57)) (upd pic_dn_57 v7_57.toNatClampNeg (((upd pic_v_57 v7_57.toNatClampNeg z6) v7_57.toNatClampNeg) * pic_unitsDown_57)) (upd pic_oa_57 v7_57.toNatClampNeg z8) (upd pic_od_57 v7_57.toNatClampNeg z10) (upd pic_st_57 v7_57.toNatClampNeg pic_blocks_57) n_pic_co pic_co) := hD
        refine lv_iinc (v := v7_57 + (1 : Int32)) (lv' := [(7, .int (v7_57 + (1 : Int32))), (0, .ref a_pic), (1, .int p0), (2, .int p1), (4, .int p3), (5, .int v5_57), (6, .int v6_57)]) hx hb d_m35_221 hl (k := 6) rfl rfl (by decide) rfl (fun ls hl => ?_)
        refine lv_goto (tgt := 57) hx hb d_m35_224 (by decide) ?_
        exact ih (v7_57 + (1 : Int32)) (pic_blocks_57 + (((upd pic_ac_57 v7_57.toNatClampNeg (((upd pic_h_57 v7_57.toNatClampNeg z5) v7_57.toNatClampNeg) * pic_unitsAcross_57)) v7_57.toNatClampNeg) * ((upd pic_dn_57 v7_57.toNatClampNeg (((upd pic_v_57 v7_57.toNatClampNeg z6) v7_57.toNatClampNeg) * pic_unitsDown_57)) v7_57.toNatClampNeg))) (upd pic_h_57 v7_57.toNatClampNeg z5) (upd pic_v_57 v7_57.toNatClampNeg z6) (upd pic_ac_57 v7_57.toNatClampNeg (((upd pic_h_57 v7_57.toNatClampNeg z5) v7_57.toNatClampNeg) * pic_unitsAcross_57)) (upd pic_dn_57 v7_57.toNatClampNeg (((upd pic_v_57 v7_57.toNatClampNeg z6) v7_57.toNatClampNeg) * pic_unitsDown_57)) (upd pic_oa_57 v7_57.toNatClampNeg z8) (upd pic_od_57 v7_57.toNatClampNeg z10) (upd pic_st_57 v7_57.toNatClampNeg pic_blocks_57) hf H locs ls hP hD hS (lv_sub hl [1, 2, 3, 4, 5, 6, 0] rfl)
  have hgo : ∀ (H : Heap) (locs : List Loc), va_P (dC, dI) vwCl (w_Picture_become cI cB cS cT a_pic a_pic_h a_pic_v a_pic_ac a_pic_dn a_pic_oa a_pic_od a_pic_st a_pic_co pic_many pic_unitsAcross pic_unitsDown pic_blocks pic_h pic_v pic_ac pic_dn pic_oa pic_od pic_st n_pic_co pic_co) H → va_S A s.heap H locs → W p l e (headSpec ws_m35 (rm_Picture_become ms)).room s m args below meth c H locs 0 0 Q (F0 m 0 ls []) := by
    intro H locs hP hS
    unfold f_Picture_become at hf
    refine lv_iload_n hx hb d_m35_0 rfl (lv_at hl 3 rfl) ?_
    refine lv_iload hx hb d_m35_1 (lv_at hl 4 rfl) ?_
    obtain ⟨z1, hz1, hf⟩ := ob_bind hf
    refine vp_callSi (g_run (va_runS (As := [.int p2, .int p3]) (rest := []) ⟨hx, hb, hml, hown, hts⟩ (c_Picture_greatest l dC dI cI cB cS cT N p2 p3 z1 hz1) ⟨(callB_of 2 hts (gi tw_38 rfl) rfl rfl rfl (hts _ (List.mem_cons_of_mem _ tw_2)) (hts _ (List.mem_cons_of_mem _ tw_36)) (by decide +kernel) ⟨Nat.le_of_ble_eq_true rfl, Nat.le_of_ble_eq_true rfl⟩), hts _ (List.mem_cons_of_mem _ tw_37)⟩ ⟨gp_blind, gp_at hKN (g_pm hP [] rfl)⟩ rfl rfl hl.1 rfl (lv_room (Nat.le_of_ble_eq_true rfl)) d_m35_3 ⟨Nat.zero_le _, Nat.zero_le _⟩)) (fun r hrz1 => ?_)
    have hrz1 := hrz1.symm
    subst hrz1
    refine W.eq (g2 := F0 m 6 ls [.int z1]) rfl ?_
    refine lv_istore (lv' := [(5, .int z1), (0, .ref a_pic), (1, .int p0), (2, .int p1), (3, .int p2), (4, .int p3)]) hx hb d_m35_6 hl (by decide) rfl (fun ls hl => ?_)
    refine lv_iload_n hx hb d_m35_8 rfl (lv_at hl 4 rfl) ?_
    refine lv_iload hx hb d_m35_9 (lv_at hl 5 rfl) ?_
    refine lv_iconst (v := (1 : Int32)) hx hb d_m35_11 (by decide) ?_
    refine lv_ishr hx hb d_m35_12 ?_
    obtain ⟨z2, hz2, hf⟩ := ob_bind hf
    refine vp_callSi (g_run (va_runS (As := [.int p2, .int (p3 >>> ((1 : Int32) &&& 31))]) (rest := []) ⟨hx, hb, hml, hown, hts⟩ (c_Picture_greatest l dC dI cI cB cS cT N p2 (p3 >>> ((1 : Int32) &&& 31)) z2 hz2) ⟨(callB_of 2 hts (gi tw_38 rfl) rfl rfl rfl (hts _ (List.mem_cons_of_mem _ tw_2)) (hts _ (List.mem_cons_of_mem _ tw_36)) (by decide +kernel) ⟨Nat.le_of_ble_eq_true rfl, Nat.le_of_ble_eq_true rfl⟩), hts _ (List.mem_cons_of_mem _ tw_37)⟩ ⟨gp_blind, gp_at hKN (g_pm hP [] rfl)⟩ rfl rfl hl.1 rfl (lv_room (Nat.le_of_ble_eq_true rfl)) d_m35_13 ⟨Nat.zero_le _, Nat.zero_le _⟩)) (fun r hrz2 => ?_)
    have hrz2 := hrz2.symm
    subst hrz2
    refine W.eq (g2 := F0 m 16 ls [.int z2]) rfl ?_
    refine lv_istore (lv' := [(6, .int z2), (5, .int z1), (0, .ref a_pic), (1, .int p0), (2, .int p1), (3, .int p2), (4, .int p3)]) hx hb d_m35_16 hl (by decide) rfl (fun ls hl => ?_)
    refine lv_aload_n hx hb d_m35_18 rfl (lv_at hl 2 rfl) ?_
    refine lv_iload_n hx hb d_m35_19 rfl (lv_at hl 5 rfl) ?_
    refine va_put (D := (dC, dI)) (ci := 8) (v := .int p2) (ty := .int) (C := "ScanCoder$Picture") (T := T_8) (N := 12) hx hb hts n0 ty_8 tyok_8 nm_8 hown hK hP hD hS 0 rfl rfl 7 (by decide) k0 (fun _ h9 => h9) rfl (by decide +kernel) rfl rfl (Nat.le_of_ble_eq_true rfl) d_m35_20 (fun H locs hP hD hS => ?_)
    have hP : va_P (dC, dI) vwCl (w_Picture_become cI cB cS cT a_pic a_pic_h a_pic_v a_pic_ac a_pic_dn a_pic_oa a_pic_od a_pic_st a_pic_co p2 pic_unitsAcross pic_unitsDown pic_blocks pic_h pic_v pic_ac pic_dn pic_oa pic_od pic_st n_pic_co pic_co) H := hP
    have hD : va_D A (w_Picture_become cI cB cS cT a_pic a_pic_h a_pic_v a_pic_ac a_pic_dn a_pic_oa a_pic_od a_pic_st a_pic_co p2 pic_unitsAcross pic_unitsDown pic_blocks pic_h pic_v pic_ac pic_dn pic_oa pic_od pic_st n_pic_co pic_co) := hD
    refine lv_aload_n hx hb d_m35_23 rfl (lv_at hl 2 rfl) ?_
    refine lv_iload_n hx hb d_m35_24 rfl (lv_at hl 3 rfl) ?_
    refine lv_bipush (v := (8 : Int32)) hx hb d_m35_25 (by decide) ?_
    refine lv_iload hx hb d_m35_27 (lv_at hl 1 rfl) ?_
    refine lv_imul hx hb d_m35_29 ?_
    obtain ⟨z3, hz3, hf⟩ := ob_bind hf
    refine vp_callSi (g_run (va_runS (As := [.int p0, .int ((8 : Int32) * z1)]) (rest := [.ref a_pic]) ⟨hx, hb, hml, hown, hts⟩ (c_Picture_divideUp l dC dI cI cB cS cT p0 ((8 : Int32) * z1) z3 hz3) ⟨(callB_of 2 hts (gi tw_47 rfl) rfl rfl rfl (hts _ (List.mem_cons_of_mem _ tw_2)) (hts _ (List.mem_cons_of_mem _ tw_45)) (by decide +kernel) ⟨Nat.le_of_ble_eq_true rfl, Nat.le_of_ble_eq_true rfl⟩), hts _ (List.mem_cons_of_mem _ tw_46)⟩ ⟨gp_blind, gp_at hKN (g_pm hP [] rfl)⟩ rfl rfl hl.1 rfl (lv_room (Nat.le_of_ble_eq_true rfl)) d_m35_30 ⟨Nat.zero_le _, Nat.zero_le _⟩)) (fun r hrz3 => ?_)
    have hrz3 := hrz3.symm
    subst hrz3
    refine W.eq (g2 := F0 m 33 ls [.int z3, .ref a_pic]) rfl ?_
    refine va_put (D := (dC, dI)) (ci := 8) (v := .int z3) (ty := .int) (C := "ScanCoder$Picture") (T := T_8) (N := 12) hx hb hts n0 ty_8 tyok_8 nm_8 hown hK hP hD hS 0 rfl rfl 8 (by decide) k1 (fun _ h9 => h9) rfl (by decide +kernel) rfl rfl (Nat.le_of_ble_eq_true rfl) d_m35_33 (fun H locs hP hD hS => ?_)
    have hP : va_P (dC, dI) vwCl (w_Picture_become cI cB cS cT a_pic a_pic_h a_pic_v a_pic_ac a_pic_dn a_pic_oa a_pic_od a_pic_st a_pic_co p2 z3 pic_unitsDown pic_blocks pic_h pic_v pic_ac pic_dn pic_oa pic_od pic_st n_pic_co pic_co) H := hP
    have hD : va_D A (w_Picture_become cI cB cS cT a_pic a_pic_h a_pic_v a_pic_ac a_pic_dn a_pic_oa a_pic_od a_pic_st a_pic_co p2 z3 pic_unitsDown pic_blocks pic_h pic_v pic_ac pic_dn pic_oa pic_od pic_st n_pic_co pic_co) := hD
    refine lv_aload_n hx hb d_m35_36 rfl (lv_at hl 2 rfl) ?_
    refine lv_iload_n hx hb d_m35_37 rfl (lv_at hl 4 rfl) ?_
    refine lv_bipush (v := (8 : Int32)) hx hb d_m35_38 (by decide) ?_
    refine lv_iload hx hb d_m35_40 (lv_at hl 0 rfl) ?_
    refine lv_imul hx hb d_m35_42 ?_
    obtain ⟨z4, hz4, hf⟩ := ob_bind hf
    refine vp_callSi (g_run (va_runS (As := [.int p1, .int ((8 : Int32) * z2)]) (rest := [.ref a_pic]) ⟨hx, hb, hml, hown, hts⟩ (c_Picture_divideUp l dC dI cI cB cS cT p1 ((8 : Int32) * z2) z4 hz4) ⟨(callB_of 2 hts (gi tw_47 rfl) rfl rfl rfl (hts _ (List.mem_cons_of_mem _ tw_2)) (hts _ (List.mem_cons_of_mem _ tw_45)) (by decide +kernel) ⟨Nat.le_of_ble_eq_true rfl, Nat.le_of_ble_eq_true rfl⟩), hts _ (List.mem_cons_of_mem _ tw_46)⟩ ⟨gp_blind, gp_at hKN (g_pm hP [] rfl)⟩ rfl rfl hl.1 rfl (lv_room (Nat.le_of_ble_eq_true rfl)) d_m35_43 ⟨Nat.zero_le _, Nat.zero_le _⟩)) (fun r hrz4 => ?_)
    have hrz4 := hrz4.symm
    subst hrz4
    refine W.eq (g2 := F0 m 46 ls [.int z4, .ref a_pic]) rfl ?_
    refine va_put (D := (dC, dI)) (ci := 8) (v := .int z4) (ty := .int) (C := "ScanCoder$Picture") (T := T_8) (N := 12) hx hb hts n0 ty_8 tyok_8 nm_8 hown hK hP hD hS 0 rfl rfl 9 (by decide) k2 (fun _ h9 => h9) rfl (by decide +kernel) rfl rfl (Nat.le_of_ble_eq_true rfl) d_m35_46 (fun H locs hP hD hS => ?_)
    have hP : va_P (dC, dI) vwCl (w_Picture_become cI cB cS cT a_pic a_pic_h a_pic_v a_pic_ac a_pic_dn a_pic_oa a_pic_od a_pic_st a_pic_co p2 z3 z4 pic_blocks pic_h pic_v pic_ac pic_dn pic_oa pic_od pic_st n_pic_co pic_co) H := hP
    have hD : va_D A (w_Picture_become cI cB cS cT a_pic a_pic_h a_pic_v a_pic_ac a_pic_dn a_pic_oa a_pic_od a_pic_st a_pic_co p2 z3 z4 pic_blocks pic_h pic_v pic_ac pic_dn pic_oa pic_od pic_st n_pic_co pic_co) := hD
    refine lv_aload_n hx hb d_m35_49 rfl (lv_at hl 2 rfl) ?_
    refine lv_iconst (v := (0 : Int32)) hx hb d_m35_50 (by decide) ?_
    refine va_put (D := (dC, dI)) (ci := 8) (v := .int (0 : Int32)) (ty := .int) (C := "ScanCoder$Picture") (T := T_8) (N := 12) hx hb hts n0 ty_8 tyok_8 nm_8 hown hK hP hD hS 0 rfl rfl 10 (by decide) k3 (fun _ h9 => h9) rfl (by decide +kernel) rfl rfl (Nat.le_of_ble_eq_true rfl) d_m35_51 (fun H locs hP hD hS => ?_)
    have hP : va_P (dC, dI) vwCl (w_Picture_become cI cB cS cT a_pic a_pic_h a_pic_v a_pic_ac a_pic_dn a_pic_oa a_pic_od a_pic_st a_pic_co p2 z3 z4 (0 : Int32) pic_h pic_v pic_ac pic_dn pic_oa pic_od pic_st n_pic_co pic_co) H := hP
    have hD : va_D A (w_Picture_become cI cB cS cT a_pic a_pic_h a_pic_v a_pic_ac a_pic_dn a_pic_oa a_pic_od a_pic_st a_pic_co p2 z3 z4 (0 : Int32) pic_h pic_v pic_ac pic_dn pic_oa pic_od pic_st n_pic_co pic_co) := hD
    refine lv_iconst (v := (0 : Int32)) hx hb d_m35_54 (by decide) ?_
    refine lv_istore (lv' := [(7, .int (0 : Int32)), (6, .int z2), (5, .int z1), (0, .ref a_pic), (1, .int p0), (2, .int p1), (3, .int p2), (4, .int p3)]) hx hb d_m35_55 hl (by decide) rfl (fun ls hl => ?_)
    obtain ⟨z11, hz11, hf⟩ := ob_bind hf
    refine L57 z1 z2 p2 z3 z4 z11 ?_ N (0 : Int32) (0 : Int32) pic_h pic_v pic_ac pic_dn pic_oa pic_od pic_st hz11 H locs ls hP hD hS (lv_sub hl [3, 4, 5, 7, 2, 1, 0] rfl)
    · intro H locs ls hP hD hS hl
      refine lv_aload_n hx hb d_m35_227 rfl (lv_at hl 0 rfl) ?_
      obtain ⟨z12, hz12, hf⟩ := ob_bind hf
      refine g_callAv (U := Nat) (wc := (w_Picture_clear cI cB cS cT a_pic a_pic_co a_pic_h a_pic_v a_pic_ac a_pic_dn a_pic_oa a_pic_od a_pic_st p2 z3 z4 z11.1 n_pic_co pic_co)) (w1 := fun u12 => (w_Picture_clear cI cB cS cT a_pic u12 a_pic_h a_pic_v a_pic_ac a_pic_dn a_pic_oa a_pic_od a_pic_st p2 z3 z4 z11.1 z12.1 z12.2)) (w2 := fun u12 => (w_Picture_become cI cB cS cT a_pic a_pic_h a_pic_v a_pic_ac a_pic_dn a_pic_oa a_pic_od a_pic_st u12 p2 z3 z4 z11.1 z11.2.1 z11.2.2.1 z11.2.2.2.1 z11.2.2.2.2.1 z11.2.2.2.2.2.1 z11.2.2.2.2.2.2.1 z11.2.2.2.2.2.2.2 z12.1 z12.2)) [0, 8] [some 0, none, none, none, none, none, none, none, some 1] hP hD hS hA rfl (fun _ => rfl) rfl rfl (va_runV (As := []) (rest := []) ⟨hx, hb, hml, hown, hts⟩ (c_Picture_clear l dC dI cI cB cS cT ms N a_pic a_pic_co a_pic_h a_pic_v a_pic_ac a_pic_dn a_pic_oa a_pic_od a_pic_st p2 z3 z4 z11.1 n_pic_co pic_co H.size z12 hz12) ⟨(callB_of 0 hts (gi tw_51 rfl) rfl rfl rfl (hts _ (List.mem_cons_of_mem _ tw_2)) (hts _ (List.mem_cons_of_mem _ tw_48)) (by decide +kernel) ⟨Nat.le_of_ble_eq_true rfl, Nat.le_of_ble_eq_true rfl⟩), hts _ (List.mem_cons_of_mem _ tw_50), hts _ (List.mem_cons_of_mem _ ts_m51)⟩ ⟨g_blind, va_recv hK hP (ci := 8) (q0 := 0) rfl rfl, g_at hKN (g_pm hP [0, 8] rfl) (hD.sub [0, 8] (by decide) rfl)⟩ rfl rfl hl.1 rfl (lv_room (Nat.le_of_ble_eq_true rfl)) d_m35_228 ⟨Nat.le_of_ble_eq_true rfl, Nat.le_of_eq (Nat.zero_add _)⟩) (fun u12 H locs hP hD hS => ?_)
      refine W.widen (k := 1) (n := ms) (Nat.le_of_ble_eq_true rfl) (Nat.le_of_eq (Nat.zero_add _)) ?_
      have hP : va_P (dC, dI) vwCl (w_Picture_become cI cB cS cT a_pic a_pic_h a_pic_v a_pic_ac a_pic_dn a_pic_oa a_pic_od a_pic_st u12 p2 z3 z4 z11.1 z11.2.1 z11.2.2.1 z11.2.2.2.1 z11.2.2.2.2.1 z11.2.2.2.2.2.1 z11.2.2.2.2.2.2.1 z11.2.2.2.2.2.2.2 z12.1 z12.2) H := hP
      have hD : va_D A (w_Picture_become cI cB cS cT a_pic a_pic_h a_pic_v a_pic_ac a_pic_dn a_pic_oa a_pic_od a_pic_st u12 p2 z3 z4 z11.1 z11.2.1 z11.2.2.1 z11.2.2.2.1 z11.2.2.2.2.1 z11.2.2.2.2.2.1 z11.2.2.2.2.2.2.1 z11.2.2.2.2.2.2.2 z12.1 z12.2) := hD
      refine W.eq (g2 := F0 m 231 ls []) rfl ?_
      obtain rfl := Option.some.inj hf
      subst hQ
      subst hAe
      exact W.vret hx hb hr (fun t ht hW => ⟨⟨u12, rfl, trivial, by rw [ht]; exact hP, hD⟩, hS.F ht⟩) hS.2.2 d_m35_231
  exact hgo _ _ hP hS
