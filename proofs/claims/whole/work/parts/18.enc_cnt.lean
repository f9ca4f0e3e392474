
def f_Encoder_forget_cnt (N : Nat) (enc_p : Nat → Int32) : Option (Int32 × Int32 × (Nat → Int32)) :=
  (f_Arrays_fillI N (0 : Int32) 4 enc_p).bind fun z1 =>
  some ((0 : Int32), (0 : Int32), z1)
abbrev w_Encoder_forget_cnt (cI cB cS cT : ClassId) (a_enc : Nat) (a_enc_p : Nat) (a_pic : Nat) (a_crs : Nat) (a_enc_r : Nat) (a_cnt : Nat) (enc_run : Int32) (enc_held : Int32) (enc_runTable : Int32) (enc_p : Nat → Int32) : va_W := [(a_enc, .inr (7, [.ref a_pic, .ref a_crs, .ref a_enc_p, .ref a_enc_r, .ref a_cnt, .int enc_run, .int enc_held, .int enc_runTable])), (a_enc_p, .inl (cI, 4, .inl enc_p))]
def rm_Encoder_forget_cnt : Room := { frames := 1, cells := 0, slots := 0, locals := 23 }
set_option maxHeartbeats 1000000 in
set_option maxRecDepth 100000 in
theorem c_Encoder_forget_cnt (l : Launch) (dC : Nat → ClassId) (dI : Nat → Nat → Nat) (cI cB cS cT : ClassId) (N : Nat) (a_enc : Nat) (a_enc_p : Nat) (a_pic : Nat) (a_crs : Nat) (a_enc_r : Nat) (a_cnt : Nat) (enc_run : Int32) (enc_held : Int32) (enc_runTable : Int32) (enc_p : Nat → Int32) (sz : Nat) (z : Int32 × Int32 × (Nat → Int32)) (hf : f_Encoder_forget_cnt N enc_p = some z) : Met l y_m549 ws_m549 rm_Encoder_forget_cnt (gPre (dC, dI) [.ref a_enc] (gT cI cB cS cT) (w_Encoder_forget_cnt cI cB cS cT a_enc a_enc_p a_pic a_crs a_enc_r a_cnt enc_run enc_held enc_runTable enc_p) sz) (gQv (dC, dI) (gT cI cB cS cT) (w_Encoder_forget_cnt cI cB cS cT a_enc a_enc_p a_pic a_crs a_enc_r a_cnt enc_run enc_held enc_runTable enc_p) (w_Encoder_forget_cnt cI cB cS cT a_enc a_enc_p a_pic a_crs a_enc_r a_cnt z.1 z.2.1 enc_runTable z.2.2) sz) 0 0 (va_A (w_Encoder_forget_cnt cI cB cS cT a_enc a_enc_p a_pic a_crs a_enc_r a_cnt enc_run enc_held enc_runTable enc_p) sz) := by
  refine Met.ofW (cc := prog_8_method_3_code) (maxL := 1) (ret := none) (by decide) rfl ?_
  intro p e s m args below meth c s₁ B hml hv
  obtain ⟨hargs, hsz, hP, hKN, hD0⟩ := hv
  have hK := hKN.1
  have hx := B.exec
  have hb := B.bytes
  have hr := B.returns
  have hts := atoms_spec (ws := ws_m549) B.pre
  have hown : s.vm.findClass "ScanCoder$Encoder" = some m.cls := findClass_of_methodNamed B.named
  have hlocks := B.notSynchronized
  have k0 := hts _ (List.mem_cons_of_mem _ tw_345)
  have k1 := hts _ (List.mem_cons_of_mem _ tw_348)
  have k2 := hts _ (List.mem_cons_of_mem _ tw_349)
  have n0 : ∀ w ∈ u_ws "ScanCoder$Encoder" T_7 8, w ∈ ws_m549 := fun w h => List.mem_cons_of_mem _ (in_7 w h)
  subst hsz
  have hD := hD0.self (sz := s.heap.size)
  obtain ⟨A, hAe⟩ : ∃ A : Nat → Prop, va_A (w_Encoder_forget_cnt cI cB cS cT a_enc a_enc_p a_pic a_crs a_enc_r a_cnt enc_run enc_held enc_runTable enc_p) s.heap.size = A := ⟨_, rfl⟩
  rw [hAe] at hD
  have hA : ∀ q : Nat, s.heap.size ≤ q → A q := fun q h => by rw [← hAe]; exact Or.inr h
  have hS : va_S A s.heap s.heap [] := va_S.rf
  have hl := lv_entry ([.ref a_enc]) (n := 1) (Nat.le_of_ble_eq_true rfl)
  have hfr : entryFrame m args 1 = F0 m 0 ((lg_sl ([.ref a_enc]) ++ List.replicate (1 - (lg_sl ([.ref a_enc])).length) Slot.unset).toArray) [] := by rw [hargs]; exact lg_entry_eq _ _ _
  rw [hfr]
  generalize (lg_sl ([.ref a_enc]) ++ List.replicate (1 - (lg_sl ([.ref a_enc])).length) Slot.unset).toArray = ls at hl ⊢
  have hl : lv_has ls 1 [(0, .ref a_enc)] := hl
  refine gen_Q (fun Q hQ => ?_)
  clear hfr
  have hgo : ∀ (H : Heap) (locs : List Loc), va_P (dC, dI) vwCl (w_Encoder_forget_cnt cI cB cS cT a_enc a_enc_p a_pic a_crs a_enc_r a_cnt enc_run enc_held enc_runTable enc_p) H → va_S A s.heap H locs → W p l e (headSpec ws_m549 rm_Encoder_forget_cnt).room s m args below meth c H locs 0 0 Q (F0 m 0 ls []) := by
    intro H locs hP hS
    unfold f_Encoder_forget_cnt at hf
    refine lv_aload_n hx hb d_m549_0 rfl (lv_at hl 0 rfl) ?_
    refine va_get (D := (dC, dI)) (ci := 7) (v := .ref a_enc_p) (C := "ScanCoder$Encoder") (T := T_7) (N := 8) hx hb hts n0 hown hK hP 0 rfl rfl 2 (by decide) k0 (fun _ h9 => h9) rfl d_m549_1 ?_
    refine lv_iconst (v := (0 : Int32)) hx hb d_m549_4 (by decide) ?_
    obtain ⟨z1, hz1, hf⟩ := ob_bind hf
    refine g_callv (wc := (w_Arrays_fillI cI cB cS cT a_enc_p 4 enc_p)) (w1 := (w_Arrays_fillI cI cB cS cT a_enc_p 4 z1)) (w2 := (w_Encoder_forget_cnt cI cB cS cT a_enc a_enc_p a_pic a_crs a_enc_r a_cnt enc_run enc_held enc_runTable z1)) [1] [none, some 0] hP hD hS hA rfl rfl rfl rfl (va_runS (As := [.ref a_enc_p, .int (0 : Int32)]) (rest := []) ⟨hx, hb, hml, hown, hts⟩ (c_Arrays_fillI l dC dI cI cB cS cT N a_enc_p 4 enc_p (0 : Int32) H.size z1 hz1) ⟨(callB_of 2 hts (gi tw_122 rfl) rfl rfl rfl (hts _ (List.mem_cons_of_mem _ tw_4)) (hts _ (List.mem_cons_of_mem _ tw_550)) (by decide +kernel) ⟨Nat.le_of_ble_eq_true rfl, Nat.le_of_ble_eq_true rfl⟩), hts _ (List.mem_cons_of_mem _ tw_121)⟩ ⟨g_blind, g_at hKN (g_pm hP [1] rfl) (hD.sub [1] (by decide) rfl)⟩ rfl rfl hl.1 rfl (lv_room (Nat.le_of_ble_eq_true rfl)) d_m549_5 ⟨Nat.zero_le _, Nat.zero_le _⟩) (fun H locs hP hD hS => ?_)
    refine W.eq (g2 := F0 m 8 ls []) rfl ?_
    refine lv_aload_n hx hb d_m549_8 rfl (lv_at hl 0 rfl) ?_
    refine lv_iconst (v := (0 : Int32)) hx hb d_m549_9 (by decide) ?_
    refine va_put (D := (dC, dI)) (ci := 7) (v := .int (0 : Int32)) (ty := .int) (C := "ScanCoder$Encoder") (T := T_7) (N := 8) hx hb hts n0 ty_7 tyok_7 nm_7 hown hK hP hD hS 0 rfl rfl 5 (by decide) k1 (fun _ h9 => h9) rfl (by decide +kernel) rfl rfl (Nat.le_of_ble_eq_true rfl) d_m549_10 (fun H locs hP hD hS => ?_)
    have hP : va_P (dC, dI) vwCl (w_Encoder_forget_cnt cI cB cS cT a_enc a_enc_p a_pic a_crs a_enc_r a_cnt (0 : Int32) enc_held enc_runTable z1) H := hP
    have hD : va_D A (w_Encoder_forget_cnt cI cB cS cT a_enc a_enc_p a_pic a_crs a_enc_r a_cnt (0 : Int32) enc_held enc_runTable z1) := hD
    refine lv_aload_n hx hb d_m549_13 rfl (lv_at hl 0 rfl) ?_
    refine lv_iconst (v := (0 : Int32)) hx hb d_m549_14 (by decide) ?_
    refine va_put (D := (dC, dI)) (ci := 7) (v := .int (0 : Int32)) (ty := .int) (C := "ScanCoder$Encoder") (T := T_7) (N := 8) hx hb hts n0 ty_7 tyok_7 nm_7 hown hK hP hD hS 0 rfl rfl 6 (by decide) k2 (fun _ h9 => h9) rfl (by decide +kernel) rfl rfl (Nat.le_of_ble_eq_true rfl) d_m549_15 (fun H locs hP hD hS => ?_)
    have hP : va_P (dC, dI) vwCl (w_Encoder_forget_cnt cI cB cS cT a_enc a_enc_p a_pic a_crs a_enc_r a_cnt (0 : Int32) (0 : Int32) enc_runTable z1) H := hP
    have hD : va_D A (w_Encoder_forget_cnt cI cB cS cT a_enc a_enc_p a_pic a_crs a_enc_r a_cnt (0 : Int32) (0 : Int32) enc_runTable z1) := hD
    obtain rfl := Option.some.inj hf
    subst hQ
    subst hAe
    exact W.vret hx hb hr (fun t ht hW => ⟨⟨(), rfl, trivial, by rw [ht]; exact hP, hD⟩, hS.F ht⟩) hS.2.2 d_m549_18
  exact hgo _ _ hP hS
def f_Encoder_sendRun_cnt_L48b (enc_held : Int32) (N : Nat) (rec : Int32 → Option (Unit)) (v2_48 : Int32) : Option (Unit) :=
  if enc_held ≤ v2_48 then
    some ()
  else
    if v2_48 < 0 ∨ 964 ≤ v2_48.toNatClampNeg then none else
    (f_Counter_putBits ).bind fun z4 =>
    rec (v2_48 + (1 : Int32))
def f_Encoder_sendRun_cnt_L48 (enc_held : Int32) (N : Nat) (k : Nat) : Int32 → Option (Unit) := it (fun rec a => f_Encoder_sendRun_cnt_L48b enc_held N rec a) k
def f_Encoder_sendRun_cnt (N : Nat) (cnt_total : Int32) (cnt_t : Nat → Int32) (enc_run : Int32) (enc_held : Int32) (enc_runTable : Int32) : Option (Int32 × (Nat → Int32) × Int32 × Int32) :=
  if enc_run = 0 then
    some (cnt_total, cnt_t, enc_run, enc_held)
  else
    (f_SC_sizeOf N enc_run).bind fun z1 =>
    (f_Counter_putWord enc_runTable ((16 : Int32) * (z1 - (1 : Int32))) cnt_total cnt_t).bind fun z2 =>
    (f_Counter_putBits ).bind fun z3 =>
    (f_Encoder_sendRun_cnt_L48 enc_held N N (0 : Int32)).bind fun z5 =>
      some (z2.1, z2.2, (0 : Int32), (0 : Int32))
abbrev w_Encoder_sendRun_cnt (cI cB cS cT : ClassId) (a_cnt : Nat) (a_cnt_t : Nat) (a_enc : Nat) (a_enc_r : Nat) (a_pic : Nat) (a_crs : Nat) (a_enc_p : Nat) (cnt_total : Int32) (cnt_t : Nat → Int32) (enc_run : Int32) (enc_held : Int32) (enc_runTable : Int32) (enc_r : Nat → Int32) : va_W := [(a_cnt, .inr (3, [.ref a_cnt_t, .int cnt_total])), (a_cnt_t, .inl (cI, 2048, .inl cnt_t)), (a_enc, .inr (7, [.ref a_pic, .ref a_crs, .ref a_enc_p, .ref a_enc_r, .ref a_cnt, .int enc_run, .int enc_held, .int enc_runTable])), (a_enc_r, .inl (cB, 964, .inl enc_r))]
def rm_Encoder_sendRun_cnt : Room := { frames := 2, cells := 0, slots := 0, locals := 43 }
set_option maxHeartbeats 1000000 in
set_option maxRecDepth 100000 in
theorem c_Encoder_sendRun_cnt (l : Launch) (dC : Nat → ClassId) (dI : Nat → Nat → Nat) (cI cB cS cT : ClassId) (N : Nat) (a_cnt : Nat) (a_cnt_t : Nat) (a_enc : Nat) (a_enc_r : Nat) (a_pic : Nat) (a_crs : Nat) (a_enc_p : Nat) (cnt_total : Int32) (cnt_t : Nat → Int32) (enc_run : Int32) (enc_held : Int32) (enc_runTable : Int32) (enc_r : Nat → Int32) (sz : Nat) (z : Int32 × (Nat → Int32) × Int32 × Int32) (hf : f_Encoder_sendRun_cnt N cnt_total cnt_t enc_run enc_held enc_runTable = some z) : Met l y_m562 ws_m562 rm_Encoder_sendRun_cnt (gPre (dC, dI) [.ref a_enc] (gT cI cB cS cT) (w_Encoder_sendRun_cnt cI cB cS cT a_cnt a_cnt_t a_enc a_enc_r a_pic a_crs a_enc_p cnt_total cnt_t enc_run enc_held enc_runTable enc_r) sz) (gQv (dC, dI) (gT cI cB cS cT) (w_Encoder_sendRun_cnt cI cB cS cT a_cnt a_cnt_t a_enc a_enc_r a_pic a_crs a_enc_p cnt_total cnt_t enc_run enc_held enc_runTable enc_r) (w_Encoder_sendRun_cnt cI cB cS cT a_cnt a_cnt_t a_enc a_enc_r a_pic a_crs a_enc_p z.1 z.2.1 z.2.2.1 z.2.2.2 enc_runTable enc_r) sz) 0 0 (va_A (w_Encoder_sendRun_cnt cI cB cS cT a_cnt a_cnt_t a_enc a_enc_r a_pic a_crs a_enc_p cnt_total cnt_t enc_run enc_held enc_runTable enc_r) sz) := by
  refine Met.ofW (cc := prog_8_method_10_code) (maxL := 3) (ret := none) (by decide) rfl ?_
  intro p e s m args below meth c s₁ B hml hv
  obtain ⟨hargs, hsz, hP, hKN, hD0⟩ := hv
  have hK := hKN.1
  have hx := B.exec
  have hb := B.bytes
  have hr := B.returns
  have hts := atoms_spec (ws := ws_m562) B.pre
  have hown : s.vm.findClass "ScanCoder$Encoder" = some m.cls := findClass_of_methodNamed B.named
  have hlocks := B.notSynchronized
  have k0 := hts _ (List.mem_cons_of_mem _ tw_348)
  have k1 := hts _ (List.mem_cons_of_mem _ tw_347)
  have k2 := hts _ (List.mem_cons_of_mem _ tw_350)
  have k3 := hts _ (List.mem_cons_of_mem _ tw_349)
  have k4 := hts _ (List.mem_cons_of_mem _ tw_346)
  have n0 : ∀ w ∈ u_ws "ScanCoder$Encoder" T_7 8, w ∈ ws_m562 := fun w h => List.mem_cons_of_mem _ (in_7 w h)
  subst hsz
  have hD := hD0.self (sz := s.heap.size)
  obtain ⟨A, hAe⟩ : ∃ A : Nat → Prop, va_A (w_Encoder_sendRun_cnt cI cB cS cT a_cnt a_cnt_t a_enc a_enc_r a_pic a_crs a_enc_p cnt_total cnt_t enc_run enc_held enc_runTable enc_r) s.heap.size = A := ⟨_, rfl⟩
  rw [hAe] at hD
  have hA : ∀ q : Nat, s.heap.size ≤ q → A q := fun q h => by rw [← hAe]; exact Or.inr h
  have hS : va_S A s.heap s.heap [] := va_S.rf
  have hl := lv_entry ([.ref a_enc]) (n := 3) (Nat.le_of_ble_eq_true rfl)
  have hfr : entryFrame m args 3 = F0 m 0 ((lg_sl ([.ref a_enc]) ++ List.replicate (3 - (lg_sl ([.ref a_enc])).length) Slot.unset).toArray) [] := by rw [hargs]; exact lg_entry_eq _ _ _
  rw [hfr]
  generalize (lg_sl ([.ref a_enc]) ++ List.replicate (3 - (lg_sl ([.ref a_enc])).length) Slot.unset).toArray = ls at hl ⊢
  have hl : lv_has ls 3 [(0, .ref a_enc)] := hl
  refine gen_Q (fun Q hQ => ?_)
  clear hfr
  have L48 : ∀ (cnt_total_48 : Int32) (cnt_t_48 : Nat → Int32) (z : Unit), (GW (dC, dI) A p l e (headSpec ws_m562 rm_Encoder_sendRun_cnt).room s m args below meth c 0 0 Q 3 77 (w_Encoder_sendRun_cnt cI cB cS cT a_cnt a_cnt_t a_enc a_enc_r a_pic a_crs a_enc_p cnt_total_48 cnt_t_48 enc_run enc_held enc_runTable enc_r) [(0, .ref a_enc)] []) → ∀ (k : Nat) (v2_48 : Int32), f_Encoder_sendRun_cnt_L48 enc_held N k v2_48 = some z → GW (dC, dI) A p l e (headSpec ws_m562 rm_Encoder_sendRun_cnt).room s m args below meth c 0 0 Q 3 48 (w_Encoder_sendRun_cnt cI cB cS cT a_cnt a_cnt_t a_enc a_enc_r a_pic a_crs a_enc_p cnt_total_48 cnt_t_48 enc_run enc_held enc_runTable enc_r) [(0, .ref a_enc), (2, .int v2_48)] [] := by
    intro cnt_total_48 cnt_t_48 z hE0 k
    induction k with
    | zero =>
      intro v2_48 hf
      exact (it_zero hf).elim
    | succ k ih =>
      intro v2_48 hf H locs ls hP hD hS hl
      have hf : f_Encoder_sendRun_cnt_L48b enc_held N (f_Encoder_sendRun_cnt_L48 enc_held N k) v2_48 = some z := hf
      unfold f_Encoder_sendRun_cnt_L48b at hf
      refine lv_iload_n hx hb d_m562_48 rfl (lv_at hl 1 rfl) ?_
      refine lv_aload_n hx hb d_m562_49 rfl (lv_at hl 0 rfl) ?_
      refine va_get (D := (dC, dI)) (ci := 7) (v := .int enc_held) (C := "ScanCoder$Encoder") (T := T_7) (N := 8) hx hb hts n0 hown hK hP 2 rfl rfl 6 (by decide) k3 (fun _ h9 => h9) rfl d_m562_50 ?_
      refine lv_icmp_ge (tgt := 77) hx hb d_m562_53 (by decide) (fun hc => ?_) (fun hc => ?_)
      · replace hf := (if_pos hc).symm.trans hf
        obtain rfl := Option.some.inj hf
        exact hE0  H locs ls hP hD hS (lv_sub hl [0] rfl)
      · replace hf := (if_neg hc).symm.trans hf
        refine lv_aload_n hx hb d_m562_56 rfl (lv_at hl 0 rfl) ?_
        refine va_get (D := (dC, dI)) (ci := 7) (v := .ref a_cnt) (C := "ScanCoder$Encoder") (T := T_7) (N := 8) hx hb hts n0 hown hK hP 2 rfl rfl 4 (by decide) k1 (fun _ h9 => h9) rfl d_m562_57 ?_
        refine lv_aload_n hx hb d_m562_60 rfl (lv_at hl 0 rfl) ?_
        refine va_get (D := (dC, dI)) (ci := 7) (v := .ref a_enc_r) (C := "ScanCoder$Encoder") (T := T_7) (N := 8) hx hb hts n0 hown hK hP 2 rfl rfl 3 (by decide) k4 (fun _ h9 => h9) rfl d_m562_61 ?_
        refine lv_iload_n hx hb d_m562_64 rfl (lv_at hl 1 rfl) ?_
        obtain ⟨hi, hf⟩ := ob_if hf
        refine va_bald hx hb hK hP 3 1 rfl rfl hi d_m562_65 ?_
        refine lv_i2l hx hb d_m562_66 rfl ?_
        refine lv_iconst (v := (1 : Int32)) hx hb d_m562_67 (by decide) ?_
        obtain ⟨z4, hz4, hf⟩ := ob_bind hf
        refine va_csv (g_run (va_runU (As := [.long ((enc_r v2_48.toNatClampNeg).toInt64), .int (1 : Int32)]) (rest := []) ⟨hx, hb, hml, hown, hts⟩ (c_Counter_putBits l dC dI cI cB cS cT a_cnt a_cnt_t cnt_total_48 ((enc_r v2_48.toNatClampNeg).toInt64) (1 : Int32) z4 hz4) (va_cwA (x := ({ cls := "ScanCoder$Sink", name := "putBits", desc := "(JI)V" } : Jvm.MethodName)) (owner := "ScanCoder$Sink") 2 hts (gu (tw_587) (tw_589) (tw_591) (tw_592) (tw_11) (gi tw_593 rfl)) rfl rfl rfl (gn_588 hKN.2) (by decide +kernel) ⟨Nat.le_of_ble_eq_true rfl, Nat.le_of_ble_eq_true rfl⟩) ⟨gp_blind, va_recv hK hP (ci := 3) (q0 := 0) rfl rfl, gp_at hKN (g_pm hP [0] rfl)⟩ rfl rfl hl.1 rfl (lv_room (Nat.le_of_ble_eq_true rfl)) d_m562_68 ⟨Nat.zero_le _, Nat.zero_le _⟩)) (fun _ => ?_)
        refine W.eq (g2 := F0 m 71 ls []) rfl ?_
        refine lv_iinc (v := v2_48 + (1 : Int32)) (lv' := [(2, .int (v2_48 + (1 : Int32))), (0, .ref a_enc)]) hx hb d_m562_71 hl (k := 1) rfl rfl (by decide) rfl (fun ls hl => ?_)
        refine lv_goto (tgt := 48) hx hb d_m562_74 (by decide) ?_
        exact ih (v2_48 + (1 : Int32)) hf H locs ls hP hD hS (lv_sub hl [1, 0] rfl)
  have hgo : ∀ (H : Heap) (locs : List Loc), va_P (dC, dI) vwCl (w_Encoder_sendRun_cnt cI cB cS cT a_cnt a_cnt_t a_enc a_enc_r a_pic a_crs a_enc_p cnt_total cnt_t enc_run enc_held enc_runTable enc_r) H → va_S A s.heap H locs → W p l e (headSpec ws_m562 rm_Encoder_sendRun_cnt).room s m args below meth c H locs 0 0 Q (F0 m 0 ls []) := by
    intro H locs hP hS
    unfold f_Encoder_sendRun_cnt at hf
    refine lv_aload_n hx hb d_m562_0 rfl (lv_at hl 0 rfl) ?_
    refine va_get (D := (dC, dI)) (ci := 7) (v := .int enc_run) (C := "ScanCoder$Encoder") (T := T_7) (N := 8) hx hb hts n0 hown hK hP 2 rfl rfl 5 (by decide) k0 (fun _ h9 => h9) rfl d_m562_1 ?_
    refine lv_if_ne (tgt := 8) hx hb d_m562_4 (by decide) (fun hc => ?_) (fun hc => ?_)
    · replace hf := (if_neg hc).symm.trans hf
      refine lv_aload_n hx hb d_m562_8 rfl (lv_at hl 0 rfl) ?_
      refine va_get (D := (dC, dI)) (ci := 7) (v := .int enc_run) (C := "ScanCoder$Encoder") (T := T_7) (N := 8) hx hb hts n0 hown hK hP 2 rfl rfl 5 (by decide) k0 (fun _ h9 => h9) rfl d_m562_9 ?_
      obtain ⟨z1, hz1, hf⟩ := ob_bind hf
      refine vp_callSi (g_run (va_runSN (As := [.int enc_run]) (rest := []) ⟨hx, hb, hml, hown, hts⟩ (c_SC_sizeOf l dC dI cI cB cS cT N enc_run z1 hz1) ⟨(va_cnB 1 hts (gi tw_565 rfl) rfl rfl rfl (gn_563 hKN.2) (hts _ (List.mem_cons_of_mem _ tw_1)) (by decide +kernel) ⟨Nat.le_of_ble_eq_true rfl, Nat.le_of_ble_eq_true rfl⟩), hts _ (List.mem_cons_of_mem _ tw_564), trivial⟩ ⟨gp_blind, gp_at hKN (g_pm hP [] rfl)⟩ rfl rfl hl.1 rfl (lv_room (Nat.le_of_ble_eq_true rfl)) d_m562_12 ⟨Nat.zero_le _, Nat.zero_le _⟩)) (fun r hrz1 => ?_)
      have hrz1 := hrz1.symm
      subst hrz1
      refine W.eq (g2 := F0 m 15 ls [.int z1]) rfl ?_
      refine lv_iconst (v := (1 : Int32)) hx hb d_m562_15 (by decide) ?_
      refine lv_isub hx hb d_m562_16 ?_
      refine lv_istore_n (lv' := [(1, .int (z1 - (1 : Int32))), (0, .ref a_enc)]) hx hb d_m562_17 rfl hl (by decide) rfl (fun ls hl => ?_)
      refine lv_aload_n hx hb d_m562_18 rfl (lv_at hl 1 rfl) ?_
      refine va_get (D := (dC, dI)) (ci := 7) (v := .ref a_cnt) (C := "ScanCoder$Encoder") (T := T_7) (N := 8) hx hb hts n0 hown hK hP 2 rfl rfl 4 (by decide) k1 (fun _ h9 => h9) rfl d_m562_19 ?_
      refine lv_aload_n hx hb d_m562_22 rfl (lv_at hl 1 rfl) ?_
      refine va_get (D := (dC, dI)) (ci := 7) (v := .int enc_runTable) (C := "ScanCoder$Encoder") (T := T_7) (N := 8) hx hb hts n0 hown hK hP 2 rfl rfl 7 (by decide) k2 (fun _ h9 => h9) rfl d_m562_23 ?_
      refine lv_bipush (v := (16 : Int32)) hx hb d_m562_26 (by decide) ?_
      refine lv_iload_n hx hb d_m562_28 rfl (lv_at hl 0 rfl) ?_
      refine lv_imul hx hb d_m562_29 ?_
      obtain ⟨z2, hz2, hf⟩ := ob_bind hf
      refine g_callv (wc := (w_Counter_putWord cI cB cS cT a_cnt a_cnt_t cnt_total cnt_t)) (w1 := (w_Counter_putWord cI cB cS cT a_cnt a_cnt_t z2.1 z2.2)) (w2 := (w_Encoder_sendRun_cnt cI cB cS cT a_cnt a_cnt_t a_enc a_enc_r a_pic a_crs a_enc_p z2.1 z2.2 enc_run enc_held enc_runTable enc_r)) [0, 1] [some 0, some 1, none, none] hP hD hS hA rfl rfl rfl rfl (va_runU (As := [.int enc_runTable, .int ((16 : Int32) * (z1 - (1 : Int32)))]) (rest := []) ⟨hx, hb, hml, hown, hts⟩ (c_Counter_putWord l dC dI cI cB cS cT a_cnt a_cnt_t cnt_total cnt_t enc_runTable ((16 : Int32) * (z1 - (1 : Int32))) H.size z2 hz2) (va_cwA (x := ({ cls := "ScanCoder$Sink", name := "putWord", desc := "(II)V" } : Jvm.MethodName)) (owner := "ScanCoder$Sink") 2 hts (gu (tw_569) (tw_571) (tw_584) (tw_585) (tw_11) (gi tw_586 rfl)) rfl rfl rfl (gn_570 hKN.2) (by decide +kernel) ⟨Nat.le_of_ble_eq_true rfl, Nat.le_of_ble_eq_true rfl⟩) ⟨g_blind, va_recv hK hP (ci := 3) (q0 := 0) rfl rfl, g_at hKN (g_pm hP [0, 1] rfl) (hD.sub [0, 1] (by decide) rfl)⟩ rfl rfl hl.1 rfl (lv_room (Nat.le_of_ble_eq_true rfl)) d_m562_30 ⟨Nat.zero_le _, Nat.zero_le _⟩) (fun H locs hP hD hS => ?_)
      refine W.eq (g2 := F0 m 33 ls []) rfl ?_
      refine lv_aload_n hx hb d_m562_33 rfl (lv_at hl 1 rfl) ?_
      refine va_get (D := (dC, dI)) (ci := 7) (v := .ref a_cnt) (C := "ScanCoder$Encoder") (T := T_7) (N := 8) hx hb hts n0 hown hK hP 2 rfl rfl 4 (by decide) k1 (fun _ h9 => h9) rfl d_m562_34 ?_
      refine lv_aload_n hx hb d_m562_37 rfl (lv_at hl 1 rfl) ?_
      refine va_get (D := (dC, dI)) (ci := 7) (v := .int enc_run) (C := "ScanCoder$Encoder") (T := T_7) (N := 8) hx hb hts n0 hown hK hP 2 rfl rfl 5 (by decide) k0 (fun _ h9 => h9) rfl d_m562_38 ?_
      refine lv_i2l hx hb d_m562_41 rfl ?_
      refine lv_iload_n hx hb d_m562_42 rfl (lv_at hl 0 rfl) ?_
      obtain ⟨z3, hz3, hf⟩ := ob_bind hf
      refine va_csv (g_run (va_runU (As := [.long enc_run.toInt64, .int (z1 - (1 : Int32))]) (rest := []) ⟨hx, hb, hml, hown, hts⟩ (c_Counter_putBits l dC dI cI cB cS cT a_cnt a_cnt_t z2.1 enc_run.toInt64 (z1 - (1 : Int32)) z3 hz3) (va_cwA (x := ({ cls := "ScanCoder$Sink", name := "putBits", desc := "(JI)V" } : Jvm.MethodName)) (owner := "ScanCoder$Sink") 2 hts (gu (tw_587) (tw_589) (tw_591) (tw_592) (tw_11) (gi tw_593 rfl)) rfl rfl rfl (gn_588 hKN.2) (by decide +kernel) ⟨Nat.le_of_ble_eq_true rfl, Nat.le_of_ble_eq_true rfl⟩) ⟨gp_blind, va_recv hK hP (ci := 3) (q0 := 0) rfl rfl, gp_at hKN (g_pm hP [0] rfl)⟩ rfl rfl hl.1 rfl (lv_room (Nat.le_of_ble_eq_true rfl)) d_m562_43 ⟨Nat.zero_le _, Nat.zero_le _⟩)) (fun _ => ?_)
      refine W.eq (g2 := F0 m 46 ls []) rfl ?_
      refine lv_iconst (v := (0 : Int32)) hx hb d_m562_46 (by decide) ?_
      refine lv_istore_n (lv' := [(2, .int (0 : Int32)), (1, .int (z1 - (1 : Int32))), (0, .ref a_enc)]) hx hb d_m562_47 rfl hl (by decide) rfl (fun ls hl => ?_)
      obtain ⟨z5, hz5, hf⟩ := ob_bind hf
      refine L48 z2.1 z2.2 z5 ?_ N (0 : Int32) hz5 H locs ls hP hD hS (lv_sub hl [2, 0] rfl)
      · intro H locs ls hP hD hS hl
        refine lv_aload_n hx hb d_m562_77 rfl (lv_at hl 0 rfl) ?_
        refine lv_iconst (v := (0 : Int32)) hx hb d_m562_78 (by decide) ?_
        refine va_put (D := (dC, dI)) (ci := 7) (v := .int (0 : Int32)) (ty := .int) (C := "ScanCoder$Encoder") (T := T_7) (N := 8) hx hb hts n0 ty_7 tyok_7 nm_7 hown hK hP hD hS 2 rfl rfl 5 (by decide) k0 (fun _ h9 => h9) rfl (by decide +kernel) rfl rfl (Nat.le_of_ble_eq_true rfl) d_m562_79 (fun H locs hP hD hS => ?_)
        have hP : va_P (dC, dI) vwCl (w_Encoder_sendRun_cnt cI cB cS cT a_cnt a_cnt_t a_enc a_enc_r a_pic a_crs a_enc_p z2.1 z2.2 (0 : Int32) enc_held enc_runTable enc_r) H := hP
        have hD : va_D A (w_Encoder_sendRun_cnt cI cB cS cT a_cnt a_cnt_t a_enc a_enc_r a_pic a_crs a_enc_p z2.1 z2.2 (0 : Int32) enc_held enc_runTable enc_r) := hD
        refine lv_aload_n hx hb d_m562_82 rfl (lv_at hl 0 rfl) ?_
        refine lv_iconst (v := (0 : Int32)) hx hb d_m562_83 (by decide) ?_
        refine va_put (D := (dC, dI)) (ci := 7) (v := .int (0 : Int32)) (ty := .int) (C := "ScanCoder$Encoder") (T := T_7) (N := 8) hx hb hts n0 ty_7 tyok_7 nm_7 hown hK hP hD hS 2 rfl rfl 6 (by decide) k3 (fun _ h9 => h9) rfl (by decide +kernel) rfl rfl (Nat.le_of_ble_eq_true rfl) d_m562_84 (fun H locs hP hD hS => ?_)
        have hP : va_P (dC, dI) vwCl (w_Encoder_sendRun_cnt cI cB cS cT a_cnt a_cnt_t a_enc a_enc_r a_pic a_crs a_enc_p z2.1 z2.2 (0 : Int32) (0 : Int32) enc_runTable enc_r) H := hP
        have hD : va_D A (w_Encoder_sendRun_cnt cI cB cS cT a_cnt a_cnt_t a_enc a_enc_r a_pic a_crs a_enc_p z2.1 z2.2 (0 : Int32) (0 : Int32) enc_runTable enc_r) := hD
        obtain rfl := Option.some.inj hf
        subst hQ
        subst hAe
        exact W.vret hx hb hr (fun t ht hW => ⟨⟨(), rfl, trivial, by rw [ht]; exact hP, hD⟩, hS.F ht⟩) hS.2.2 d_m562_87
    · replace hf := (if_pos hc).symm.trans hf
      obtain rfl := Option.some.inj hf
      subst hQ
      subst hAe
      exact W.vret hx hb hr (fun t ht hW => ⟨⟨(), rfl, trivial, by rw [ht]; exact hP, hD⟩, hS.F ht⟩) hS.2.2 d_m562_7
  exact hgo _ _ hP hS
def f_Encoder_lengthenRun_cnt_L15b (p0 : Int64) (N : Nat) (rec : (Int32 × Int32 × (Nat → Int32)) → Option (Int32 × (Nat → Int32))) (v4_15 : Int32) (enc_held_15 : Int32) (enc_r_15 : Nat → Int32) : Option (Int32 × (Nat → Int32)) :=
  if v4_15 < 0 then
    some (enc_held_15, enc_r_15)
  else
    if (964 : Int32) ≤ enc_held_15 then
      some (enc_held_15, enc_r_15)
    else
      if enc_held_15 < 0 ∨ 964 ≤ enc_held_15.toNatClampNeg then none else
      rec (v4_15 + (-1 : Int32), enc_held_15 + (1 : Int32), upd enc_r_15 enc_held_15.toNatClampNeg (vp_nar .byte (((((p0.toUInt64 >>> (v4_15.toInt64.toUInt64 &&& Int64.toUInt64 63)).toInt64) &&& (1 : Int64)).toInt32).toInt8.toInt32)))
def f_Encoder_lengthenRun_cnt_L15 (p0 : Int64) (N : Nat) (k : Nat) : (Int32 × Int32 × (Nat → Int32)) → Option (Int32 × (Nat → Int32)) := it (fun rec a => f_Encoder_lengthenRun_cnt_L15b p0 N rec a.1 a.2.1 a.2.2) k
def f_Encoder_lengthenRun_cnt (N : Nat) (p0 : Int64) (p1 : Int32) (enc_run : Int32) (enc_held : Int32) (enc_r : Nat → Int32) : Option (Int32 × Int32 × (Nat → Int32)) :=
  (f_Encoder_lengthenRun_cnt_L15 p0 N N (p1 - (1 : Int32), enc_held, enc_r)).bind fun z1 =>
    some (enc_run + (1 : Int32), z1.1, z1.2)
abbrev w_Encoder_lengthenRun_cnt (cI cB cS cT : ClassId) (a_enc : Nat) (a_enc_r : Nat) (a_pic : Nat) (a_crs : Nat) (a_enc_p : Nat) (a_cnt : Nat) (enc_run : Int32) (enc_held : Int32) (enc_runTable : Int32) (enc_r : Nat → Int32) : va_W := [(a_enc, .inr (7, [.ref a_pic, .ref a_crs, .ref a_enc_p, .ref a_enc_r, .ref a_cnt, .int enc_run, .int enc_held, .int enc_runTable])), (a_enc_r, .inl (cB, 964, .inl enc_r))]
def rm_Encoder_lengthenRun_cnt : Room := { frames := 0, cells := 0, slots := 0, locals := 0 }
set_option maxHeartbeats 1000000 in
set_option maxRecDepth 100000 in
theorem c_Encoder_lengthenRun_cnt (l : Launch) (dC : Nat → ClassId) (dI : Nat → Nat → Nat) (cI cB cS cT : ClassId) (N : Nat) (a_enc : Nat) (a_enc_r : Nat) (a_pic : Nat) (a_crs : Nat) (a_enc_p : Nat) (a_cnt : Nat) (enc_run : Int32) (enc_held : Int32) (enc_runTable : Int32) (enc_r : Nat → Int32) (p0 : Int64) (p1 : Int32) (sz : Nat) (z : Int32 × Int32 × (Nat → Int32)) (hf : f_Encoder_lengthenRun_cnt N p0 p1 enc_run enc_held enc_r = some z) : Met l y_m629 ws_m629 rm_Encoder_lengthenRun_cnt (gPre (dC, dI) [.ref a_enc, .long p0, .int p1] (gT cI cB cS cT) (w_Encoder_lengthenRun_cnt cI cB cS cT a_enc a_enc_r a_pic a_crs a_enc_p a_cnt enc_run enc_held enc_runTable enc_r) sz) (gQv (dC, dI) (gT cI cB cS cT) (w_Encoder_lengthenRun_cnt cI cB cS cT a_enc a_enc_r a_pic a_crs a_enc_p a_cnt enc_run enc_held enc_runTable enc_r) (w_Encoder_lengthenRun_cnt cI cB cS cT a_enc a_enc_r a_pic a_crs a_enc_p a_cnt z.1 z.2.1 enc_runTable z.2.2) sz) 0 0 (va_A (w_Encoder_lengthenRun_cnt cI cB cS cT a_enc a_enc_r a_pic a_crs a_enc_p a_cnt enc_run enc_held enc_runTable enc_r) sz) := by
  refine Met.ofW (cc := prog_8_method_9_code) (maxL := 5) (ret := none) (by decide) rfl ?_
  intro p e s m args below meth c s₁ B hml hv
  obtain ⟨hargs, hsz, hP, hKN, hD0⟩ := hv
  have hK := hKN.1
  have hx := B.exec
  have hb := B.bytes
  have hr := B.returns
  have hts := atoms_spec (ws := ws_m629) B.pre
  have hown : s.vm.findClass "ScanCoder$Encoder" = some m.cls := findClass_of_methodNamed B.named
  have hlocks := B.notSynchronized
  have k0 := hts _ (List.mem_cons_of_mem _ tw_348)
  have k1 := hts _ (List.mem_cons_of_mem _ tw_349)
  have k2 := hts _ (List.mem_cons_of_mem _ tw_346)
  have n0 : ∀ w ∈ u_ws "ScanCoder$Encoder" T_7 8, w ∈ ws_m629 := fun w h => List.mem_cons_of_mem _ (in_7 w h)
  subst hsz
  have hD := hD0.self (sz := s.heap.size)
  obtain ⟨A, hAe⟩ : ∃ A : Nat → Prop, va_A (w_Encoder_lengthenRun_cnt cI cB cS cT a_enc a_enc_r a_pic a_crs a_enc_p a_cnt enc_run enc_held enc_runTable enc_r) s.heap.size = A := ⟨_, rfl⟩
  rw [hAe] at hD
  have hA : ∀ q : Nat, s.heap.size ≤ q → A q := fun q h => by rw [← hAe]; exact Or.inr h
  have hS : va_S A s.heap s.heap [] := va_S.rf
  have hl := lv_entry ([.ref a_enc, .long p0, .int p1]) (n := 5) (Nat.le_of_ble_eq_true rfl)
  have hfr : entryFrame m args 5 = F0 m 0 ((lg_sl ([.ref a_enc, .long p0, .int p1]) ++ List.replicate (5 - (lg_sl ([.ref a_enc, .long p0, .int p1])).length) Slot.unset).toArray) [] := by rw [hargs]; exact lg_entry_eq _ _ _
  rw [hfr]
  generalize (lg_sl ([.ref a_enc, .long p0, .int p1]) ++ List.replicate (5 - (lg_sl ([.ref a_enc, .long p0, .int p1])).length) Slot.unset).toArray = ls at hl ⊢
  have hl : lv_has ls 5 [(0, .ref a_enc), (1, .long p0), (3, .int p1)] := hl
  refine gen_Q (fun Q hQ => ?_)
  clear hfr
  have L15 : ∀ (enc_run_15 : Int32) (z : Int32 × (Nat → Int32)), (GW (dC, dI) A p l e (headSpec ws_m629 rm_Encoder_lengthenRun_cnt).room s m args below meth c 0 0 Q 5 65 (w_Encoder_lengthenRun_cnt cI cB cS cT a_enc a_enc_r a_pic a_crs a_enc_p a_cnt enc_run_15 z.1 enc_runTable z.2) [] []) → ∀ (k : Nat) (v4_15 : Int32) (enc_held_15 : Int32) (enc_r_15 : Nat → Int32), f_Encoder_lengthenRun_cnt_L15 p0 N k (v4_15, enc_held_15, enc_r_15) = some z → GW (dC, dI) A p l e (headSpec ws_m629 rm_Encoder_lengthenRun_cnt).room s m args below meth c 0 0 Q 5 15 (w_Encoder_lengthenRun_cnt cI cB cS cT a_enc a_enc_r a_pic a_crs a_enc_p a_cnt enc_run_15 enc_held_15 enc_runTable enc_r_15) [(0, .ref a_enc), (1, .long p0), (4, .int v4_15)] [] := by
    intro enc_run_15 z hE0 k
    induction k with
    | zero =>
      intro v4_15 enc_held_15 enc_r_15 hf
      exact (it_zero hf).elim
    | succ k ih =>
      intro v4_15 enc_held_15 enc_r_15 hf H locs ls hP hD hS hl
      have hf : f_Encoder_lengthenRun_cnt_L15b p0 N (f_Encoder_lengthenRun_cnt_L15 p0 N k) v4_15 enc_held_15 enc_r_15 = some z := hf
      unfold f_Encoder_lengthenRun_cnt_L15b at hf
      refine lv_iload hx hb d_m629_15 (lv_at hl 2 rfl) ?_
      refine lv_if_lt (tgt := 65) hx hb d_m629_17 (by decide) (fun hc => ?_) (fun hc => ?_)
      · replace hf := (if_pos hc).symm.trans hf
        obtain rfl := Option.some.inj hf
        exact hE0  H locs ls hP hD hS (lv_sub hl [] rfl)
      · replace hf := (if_neg hc).symm.trans hf
        refine lv_aload_n hx hb d_m629_20 rfl (lv_at hl 0 rfl) ?_
        refine va_get (D := (dC, dI)) (ci := 7) (v := .int enc_held_15) (C := "ScanCoder$Encoder") (T := T_7) (N := 8) hx hb hts n0 hown hK hP 0 rfl rfl 6 (by decide) k1 (fun _ h9 => h9) rfl d_m629_21 ?_
        refine lv_aload_n hx hb d_m629_24 rfl (lv_at hl 0 rfl) ?_
        refine va_get (D := (dC, dI)) (ci := 7) (v := .ref a_enc_r) (C := "ScanCoder$Encoder") (T := T_7) (N := 8) hx hb hts n0 hown hK hP 0 rfl rfl 3 (by decide) k2 (fun _ h9 => h9) rfl d_m629_25 ?_
        refine va_alen (v := (964 : Int32)) hx hb hK hP 1 1 rfl rfl rfl d_m629_28 ?_
        refine lv_icmp_ge (tgt := 65) hx hb d_m629_29 (by decide) (fun hc => ?_) (fun hc => ?_)
        · replace hf := (if_pos hc).symm.trans hf
          obtain rfl := Option.some.inj hf
          exact hE0  H locs ls hP hD hS (lv_sub hl [] rfl)
        · replace hf := (if_neg hc).symm.trans hf
          refine lv_aload_n hx hb d_m629_32 rfl (lv_at hl 0 rfl) ?_
          refine va_get (D := (dC, dI)) (ci := 7) (v := .ref a_enc_r) (C := "ScanCoder$Encoder") (T := T_7) (N := 8) hx hb hts n0 hown hK hP 0 rfl rfl 3 (by decide) k2 (fun _ h9 => h9) rfl d_m629_33 ?_
          refine lv_aload_n hx hb d_m629_36 rfl (lv_at hl 0 rfl) ?_
          refine va_get (D := (dC, dI)) (ci := 7) (v := .int enc_held_15) (C := "ScanCoder$Encoder") (T := T_7) (N := 8) hx hb hts n0 hown hK hP 0 rfl rfl 6 (by decide) k1 (fun _ h9 => h9) rfl d_m629_37 ?_
          refine lv_lload_n hx hb d_m629_40 rfl (lv_at hl 1 rfl) ?_
          refine lv_iload hx hb d_m629_41 (lv_at hl 2 rfl) ?_
          refine lv_lushr hx hb d_m629_43 rfl ?_
          refine lv_lconst (v := (1 : Int64)) hx hb d_m629_44 (by decide) ?_
          refine lv_land hx hb d_m629_45 ?_
          refine lv_l2i hx hb d_m629_46 rfl ?_
          refine lv_i2b hx hb d_m629_47 rfl ?_
          obtain ⟨hi, hf⟩ := ob_if hf
          refine va_bast hx hb hK hP hD hS 1 1 rfl rfl hi d_m629_48 (fun H locs hP hD hS => ?_)
          have hP : va_P (dC, dI) vwCl (w_Encoder_lengthenRun_cnt cI cB cS cT a_enc a_enc_r a_pic a_crs a_enc_p a_cnt enc_run_15 enc_held_15 enc_runTable (upd enc_r_15 enc_held_15.toNatClampNeg (vp_nar .byte (((((p0.toUInt64 >>> (v4_15.toInt64.toUInt64 &&& Int64.toUInt64 63)).toInt64) &&& (1 : Int64)).toInt32).toInt8.toInt32)))) H := hP
          have hD : va_D A (w_Encoder_lengthenRun_cnt cI cB cS cT a_enc a_enc_r a_pic a_crs a_enc_p a_cnt enc_run_15 enc_held_15 enc_runTable (upd enc_r_15 enc_held_15.toNatClampNeg (vp_nar .byte (((((p0.toUInt64 >>> (v4_15.toInt64.toUInt64 &&& Int64.toUInt64 63)).toInt64) &&& (1 : Int64)).toInt32).toInt8.toInt32)))) := hD
          refine lv_aload_n hx hb d_m629_49 rfl (lv_at hl 0 rfl) ?_
          refine lv_dup hx hb d_m629_50 rfl ?_
          refine va_get (D := (dC, dI)) (ci := 7) (v := .int enc_held_15) (C := "ScanCoder$Encoder") (T := T_7) (N := 8) hx hb hts n0 hown hK hP 0 rfl rfl 6 (by decide) k1 (fun _ h9 => h9) rfl d_m629_51 ?_
          refine lv_iconst (v := (1 : Int32)) hx hb d_m629_54 (by decide) ?_
          refine lv_iadd hx hb d_m629_55 ?_
          refine va_put (D := (dC, dI)) (ci := 7) (v := .int (enc_held_15 + (1 : Int32))) (ty := .int) (C := "ScanCoder$Encoder") (T := T_7) (N := 8) hx hb hts n0 ty_7 tyok_7 nm_7 hown hK hP hD hS 0 rfl rfl 6 (by decide) k1 (fun _ h9 => h9) rfl (by decide +kernel) rfl rfl (Nat.le_of_ble_eq_true rfl) d_m629_56 (fun H locs hP hD hS => ?_)
          have hP : va_P (dC, dI) vwCl (w_Encoder_lengthenRun_cnt cI cB cS cT a_enc a_enc_r a_pic a_crs a_enc_p a_cnt enc_run_15 (enc_held_15 + (1 : Int32)) enc_runTable (upd enc_r_15 enc_held_15.toNatClampNeg (vp_nar .byte (((((p0.toUInt64 >>> (v4_15.toInt64.toUInt64 &&& Int64.toUInt64 63)).toInt64) &&& (1 : Int64)).toInt32).toInt8.toInt32)))) H := hP
          have hD : va_D A (w_Encoder_lengthenRun_cnt cI cB cS cT a_enc a_enc_r a_pic a_crs a_enc_p a_cnt enc_run_15 (enc_held_15 + (1 : Int32)) enc_runTable (upd enc_r_15 enc_held_15.toNatClampNeg (vp_nar .byte (((((p0.toUInt64 >>> (v4_15.toInt64.toUInt64 &&& Int64.toUInt64 63)).toInt64) &&& (1 : Int64)).toInt32).toInt8.toInt32)))) := hD
          refine lv_iinc (v := v4_15 + (-1 : Int32)) (lv' := [(4, .int (v4_15 + (-1 : Int32))), (0, .ref a_enc), (1, .long p0)]) hx hb d_m629_59 hl (k := 2) rfl rfl (by decide) rfl (fun ls hl => ?_)
          refine lv_goto (tgt := 15) hx hb d_m629_62 (by decide) ?_
          exact ih (v4_15 + (-1 : Int32)) (enc_held_15 + (1 : Int32)) (upd enc_r_15 enc_held_15.toNatClampNeg (vp_nar .byte (((((p0.toUInt64 >>> (v4_15.toInt64.toUInt64 &&& Int64.toUInt64 63)).toInt64) &&& (1 : Int64)).toInt32).toInt8.toInt32))) hf H locs ls hP hD hS (lv_sub hl [1, 2, 0] rfl)
  have hgo : ∀ (H : Heap) (locs : List Loc), va_P (dC, dI) vwCl (w_Encoder_lengthenRun_cnt cI cB cS cT a_enc a_enc_r a_pic a_crs a_enc_p a_cnt enc_run enc_held enc_runTable enc_r) H → va_S A s.heap H locs → W p l e (headSpec ws_m629 rm_Encoder_lengthenRun_cnt).room s m args below meth c H locs 0 0 Q (F0 m 0 ls []) := by
    intro H locs hP hS
    unfold f_Encoder_lengthenRun_cnt at hf
    refine lv_aload_n hx hb d_m629_0 rfl (lv_at hl 0 rfl) ?_
    refine lv_dup hx hb d_m629_1 rfl ?_
    refine va_get (D := (dC, dI)) (ci := 7) (v := .int enc_run) (C := "ScanCoder$Encoder") (T := T_7) (N := 8) hx hb hts n0 hown hK hP 0 rfl rfl 5 (by decide) k0 (fun _ h9 => h9) rfl d_m629_2 ?_
    refine lv_iconst (v := (1 : Int32)) hx hb d_m629_5 (by decide) ?_
    refine lv_iadd hx hb d_m629_6 ?_
    refine va_put (D := (dC, dI)) (ci := 7) (v := .int (enc_run + (1 : Int32))) (ty := .int) (C := "ScanCoder$Encoder") (T := T_7) (N := 8) hx hb hts n0 ty_7 tyok_7 nm_7 hown hK hP hD hS 0 rfl rfl 5 (by decide) k0 (fun _ h9 => h9) rfl (by decide +kernel) rfl rfl (Nat.le_of_ble_eq_true rfl) d_m629_7 (fun H locs hP hD hS => ?_)
    have hP : va_P (dC, dI) vwCl (w_Encoder_lengthenRun_cnt cI cB cS cT a_enc a_enc_r a_pic a_crs a_enc_p a_cnt (enc_run + (1 : Int32)) enc_held enc_runTable enc_r) H := hP
    have hD : va_D A (w_Encoder_lengthenRun_cnt cI cB cS cT a_enc a_enc_r a_pic a_crs a_enc_p a_cnt (enc_run + (1 : Int32)) enc_held enc_runTable enc_r) := hD
    refine lv_iload_n hx hb d_m629_10 rfl (lv_at hl 2 rfl) ?_
    refine lv_iconst (v := (1 : Int32)) hx hb d_m629_11 (by decide) ?_
    refine lv_isub hx hb d_m629_12 ?_
    refine lv_istore (lv' := [(4, .int (p1 - (1 : Int32))), (0, .ref a_enc), (1, .long p0), (3, .int p1)]) hx hb d_m629_13 hl (by decide) rfl (fun ls hl => ?_)
    obtain ⟨z1, hz1, hf⟩ := ob_bind hf
    refine L15 (enc_run + (1 : Int32)) z1 ?_ N (p1 - (1 : Int32)) enc_held enc_r hz1 H locs ls hP hD hS (lv_sub hl [1, 2, 0] rfl)
    · intro H locs ls hP hD hS hl
      obtain rfl := Option.some.inj hf
      subst hQ
      subst hAe
      exact W.vret hx hb hr (fun t ht hW => ⟨⟨(), rfl, trivial, by rw [ht]; exact hP, hD⟩, hS.F ht⟩) hS.2.2 d_m629_65
  exact hgo _ _ hP hS
def f_Encoder_lastNewOne_cnt_L8b (crs_first : Int32) (p0 : Int32) (n_pic_co : Nat) (pic_co : Nat → Int32) (crs_bits : Int32) (N : Nat) (rec : Int32 → Option (Nat × Int32)) (v2_8 : Int32) : Option (Nat × Int32) :=
  if v2_8 < crs_first then
    some (1, v2_8)
  else
    if (p0 + v2_8) < 0 ∨ n_pic_co ≤ (p0 + v2_8).toNatClampNeg then none else
    if ((if 0 ≤ (pic_co (p0 + v2_8).toNatClampNeg) then (pic_co (p0 + v2_8).toNatClampNeg) else 0 - (pic_co (p0 + v2_8).toNatClampNeg)) >>> (crs_bits &&& 31)) = (1 : Int32) then
      some (0, v2_8)
    else
      rec (v2_8 + (-1 : Int32))
def f_Encoder_lastNewOne_cnt_L8 (crs_first : Int32) (p0 : Int32) (n_pic_co : Nat) (pic_co : Nat → Int32) (crs_bits : Int32) (N : Nat) (k : Nat) : Int32 → Option (Nat × Int32) := it (fun rec a => f_Encoder_lastNewOne_cnt_L8b crs_first p0 n_pic_co pic_co crs_bits N rec a) k
def f_Encoder_lastNewOne_cnt (N : Nat) (p0 : Int32) (n_pic_co : Nat) (pic_co : Nat → Int32) (crs_first : Int32) (crs_last : Int32) (crs_bits : Int32) : Option (Int32) :=
  (f_Encoder_lastNewOne_cnt_L8 crs_first p0 n_pic_co pic_co crs_bits N N crs_last).bind fun z1 =>
    if z1.1 = 0 then some z1.2 else some (-1 : Int32)
abbrev w_Encoder_lastNewOne_cnt (cI cB cS cT : ClassId) (a_pic : Nat) (a_pic_co : Nat) (a_crs : Nat) (a_enc : Nat) (a_pic_h : Nat) (a_pic_v : Nat) (a_pic_ac : Nat) (a_pic_dn : Nat) (a_pic_oa : Nat) (a_pic_od : Nat) (a_pic_st : Nat) (a_crs_ow : Nat) (a_crs_pl : Nat) (a_crs_dt : Nat) (a_crs_ot : Nat) (a_enc_p : Nat) (a_enc_r : Nat) (a_cnt : Nat) (pic_many : Int32) (pic_unitsAcross : Int32) (pic_unitsDown : Int32) (pic_blocks : Int32) (n_pic_co : Nat) (pic_co : Nat → Int32) (crs_kind : Int32) (crs_first : Int32) (crs_last : Int32) (crs_bits : Int32) (crs_interval : Int32) (crs_units : Int32) (crs_blocksOfUnit : Int32) (crs_laid : Int32) (enc_run : Int32) (enc_held : Int32) (enc_runTable : Int32) : va_W := [(a_pic, .inr (8, [.ref a_pic_h, .ref a_pic_v, .ref a_pic_ac, .ref a_pic_dn, .ref a_pic_oa, .ref a_pic_od, .ref a_pic_st, .int pic_many, .int pic_unitsAcross, .int pic_unitsDown, .int pic_blocks, .ref a_pic_co])), (a_pic_co, .inl (cS, n_pic_co, .inl pic_co)), (a_crs, .inr (4, [.ref a_pic, .ref a_crs_ow, .ref a_crs_pl, .ref a_crs_dt, .ref a_crs_ot, .int crs_kind, .int crs_first, .int crs_last, .int crs_bits, .int crs_interval, .int crs_units, .int crs_blocksOfUnit, .int crs_laid])), (a_enc, .inr (7, [.ref a_pic, .ref a_crs, .ref a_enc_p, .ref a_enc_r, .ref a_cnt, .int enc_run, .int enc_held, .int enc_runTable]))]
def rm_Encoder_lastNewOne_cnt : Room := { frames := 1, cells := 0, slots := 0, locals := 21 }
set_option maxHeartbeats 1000000 in
set_option maxRecDepth 100000 in
theorem c_Encoder_lastNewOne_cnt (l : Launch) (dC : Nat → ClassId) (dI : Nat → Nat → Nat) (cI cB cS cT : ClassId) (N : Nat) (a_pic : Nat) (a_pic_co : Nat) (a_crs : Nat) (a_enc : Nat) (a_pic_h : Nat) (a_pic_v : Nat) (a_pic_ac : Nat) (a_pic_dn : Nat) (a_pic_oa : Nat) (a_pic_od : Nat) (a_pic_st : Nat) (a_crs_ow : Nat) (a_crs_pl : Nat) (a_crs_dt : Nat) (a_crs_ot : Nat) (a_enc_p : Nat) (a_enc_r : Nat) (a_cnt : Nat) (pic_many : Int32) (pic_unitsAcross : Int32) (pic_unitsDown : Int32) (pic_blocks : Int32) (n_pic_co : Nat) (pic_co : Nat → Int32) (crs_kind : Int32) (crs_first : Int32) (crs_last : Int32) (crs_bits : Int32) (crs_interval : Int32) (crs_units : Int32) (crs_blocksOfUnit : Int32) (crs_laid : Int32) (enc_run : Int32) (enc_held : Int32) (enc_runTable : Int32) (p0 : Int32) (z : Int32) (hf : f_Encoder_lastNewOne_cnt N p0 n_pic_co pic_co crs_first crs_last crs_bits = some z) : Met l y_m637 ws_m637 rm_Encoder_lastNewOne_cnt (gPreP (dC, dI) [.ref a_enc, .int p0] (gT cI cB cS cT) (w_Encoder_lastNewOne_cnt cI cB cS cT a_pic a_pic_co a_crs a_enc a_pic_h a_pic_v a_pic_ac a_pic_dn a_pic_oa a_pic_od a_pic_st a_crs_ow a_crs_pl a_crs_dt a_crs_ot a_enc_p a_enc_r a_cnt pic_many pic_unitsAcross pic_unitsDown pic_blocks n_pic_co pic_co crs_kind crs_first crs_last crs_bits crs_interval crs_units crs_blocksOfUnit crs_laid enc_run enc_held enc_runTable)) (vp_Si (fun r => r = z)) 0 0 (fun _ => False) := by
  refine Met.ofW (cc := prog_8_method_8_code) (maxL := 3) (ret := (some .int)) (by decide) rfl ?_
  intro p e s m args below meth c s₁ B hml hv
  obtain ⟨hargs, hP, hKN⟩ := hv
  have hK := hKN.1
  have hx := B.exec
  have hb := B.bytes
  have hr := B.returns
  have hts := atoms_spec (ws := ws_m637) B.pre
  have hown : s.vm.findClass "ScanCoder$Encoder" = some m.cls := findClass_of_methodNamed B.named
  have hlocks := B.notSynchronized
  have k0 := hts _ (List.mem_cons_of_mem _ tw_344)
  have k1 := hts _ (List.mem_cons_of_mem _ tw_179)
  have k2 := hts _ (List.mem_cons_of_mem _ tw_175)
  have k3 := hts _ (List.mem_cons_of_mem _ tw_343)
  have k4 := hts _ (List.mem_cons_of_mem _ tw_80)
  have k5 := hts _ (List.mem_cons_of_mem _ tw_625)
  have k6 := hts _ (List.mem_cons_of_mem _ tw_567)
  have k7 := hts _ (List.mem_cons_of_mem _ tw_3)
  have k8 := hts _ (List.mem_cons_of_mem _ tw_568)
  have k9 := hts _ (List.mem_cons_of_mem _ tw_181)
  have n0 : ∀ w ∈ u_ws "ScanCoder$Encoder" T_7 8, w ∈ ws_m637 := fun w h => List.mem_cons_of_mem _ (in_7 w h)
  have n1 : ∀ w ∈ u_ws "ScanCoder$Course" T_4 13, w ∈ ws_m637 := fun w h => List.mem_cons_of_mem _ (in_4 w h)
  have n2 : ∀ w ∈ u_ws "ScanCoder$Picture" T_8 12, w ∈ ws_m637 := fun w h => List.mem_cons_of_mem _ (in_8 w h)
  have hl := lv_entry ([.ref a_enc, .int p0]) (n := 3) (Nat.le_of_ble_eq_true rfl)
  have hfr : entryFrame m args 3 = F0 m 0 ((lg_sl ([.ref a_enc, .int p0]) ++ List.replicate (3 - (lg_sl ([.ref a_enc, .int p0])).length) Slot.unset).toArray) [] := by rw [hargs]; exact lg_entry_eq _ _ _
  rw [hfr]
  generalize (lg_sl ([.ref a_enc, .int p0]) ++ List.replicate (3 - (lg_sl ([.ref a_enc, .int p0])).length) Slot.unset).toArray = ls at hl ⊢
  have hl : lv_has ls 3 [(0, .ref a_enc), (1, .int p0)] := hl
  refine gen_Q (fun Q hQ => ?_)
  clear hfr
  have L8 : ∀  (z : Nat × Int32), (z.1 = 0 → GP p l e (headSpec ws_m637 rm_Encoder_lastNewOne_cnt).room s m args below meth c Q 3 45 [(2, .int z.2)] []) → (z.1 = 1 → GP p l e (headSpec ws_m637 rm_Encoder_lastNewOne_cnt).room s m args below meth c Q 3 53 [] []) → ∀ (k : Nat) (v2_8 : Int32), f_Encoder_lastNewOne_cnt_L8 crs_first p0 n_pic_co pic_co crs_bits N k v2_8 = some z → GP p l e (headSpec ws_m637 rm_Encoder_lastNewOne_cnt).room s m args below meth c Q 3 8 [(0, .ref a_enc), (1, .int p0), (2, .int v2_8)] [] := by
    intro  z hE0 hE1 k
    induction k with
    | zero =>
      intro v2_8 hf
      exact (it_zero hf).elim
    | succ k ih =>
      intro v2_8 hf ls hl
      have hf : f_Encoder_lastNewOne_cnt_L8b crs_first p0 n_pic_co pic_co crs_bits N (f_Encoder_lastNewOne_cnt_L8 crs_first p0 n_pic_co pic_co crs_bits N k) v2_8 = some z := hf
      unfold f_Encoder_lastNewOne_cnt_L8b at hf
      refine lv_iload_n hx hb d_m637_8 rfl (lv_at hl 2 rfl) ?_
      refine lv_aload_n hx hb d_m637_9 rfl (lv_at hl 0 rfl) ?_
      refine va_get (D := (dC, dI)) (ci := 7) (v := .ref a_crs) (C := "ScanCoder$Encoder") (T := T_7) (N := 8) hx hb hts n0 hown hK hP 3 rfl rfl 1 (by decide) k0 (fun _ h9 => h9) rfl d_m637_10 ?_
      refine va_get (D := (dC, dI)) (ci := 4) (v := .int crs_first) (C := "ScanCoder$Course") (T := T_4) (N := 13) hx hb hts n1 hown hK hP 2 rfl rfl 6 (by decide) k2 (fun _ h9 => h9) rfl d_m637_13 ?_
      refine lv_icmp_lt (tgt := 53) hx hb d_m637_16 (by decide) (fun hc => ?_) (fun hc => ?_)
      · replace hf := (if_pos hc).symm.trans hf
        obtain rfl := Option.some.inj hf
        exact hE1 rfl  ls (lv_sub hl [] rfl)
      · replace hf := (if_neg hc).symm.trans hf
        refine lv_aload_n hx hb d_m637_19 rfl (lv_at hl 0 rfl) ?_
        refine va_get (D := (dC, dI)) (ci := 7) (v := .ref a_pic) (C := "ScanCoder$Encoder") (T := T_7) (N := 8) hx hb hts n0 hown hK hP 3 rfl rfl 0 (by decide) k3 (fun _ h9 => h9) rfl d_m637_20 ?_
        refine va_get (D := (dC, dI)) (ci := 8) (v := .ref a_pic_co) (C := "ScanCoder$Picture") (T := T_8) (N := 12) hx hb hts n2 hown hK hP 0 rfl rfl 11 (by decide) k4 (fun _ h9 => h9) rfl d_m637_23 ?_
        refine lv_iload_n hx hb d_m637_26 rfl (lv_at hl 1 rfl) ?_
        refine lv_iload_n hx hb d_m637_27 rfl (lv_at hl 2 rfl) ?_
        refine lv_iadd hx hb d_m637_28 ?_
        obtain ⟨hi, hf⟩ := ob_if hf
        refine va_sald hx hb hK hP 1 2 rfl rfl hi d_m637_29 ?_
        refine va_mabs hx hb (by rw [hml]; exact hl.1.symm) hown k5 k6 k7 k8 (Nat.le_of_ble_eq_true rfl) (Nat.le_of_ble_eq_true rfl) (Nat.zero_le _) (Nat.zero_le _) d_m637_30 ?_
        refine lv_aload_n hx hb d_m637_33 rfl (lv_at hl 0 rfl) ?_
        refine va_get (D := (dC, dI)) (ci := 7) (v := .ref a_crs) (C := "ScanCoder$Encoder") (T := T_7) (N := 8) hx hb hts n0 hown hK hP 3 rfl rfl 1 (by decide) k0 (fun _ h9 => h9) rfl d_m637_34 ?_
        refine va_get (D := (dC, dI)) (ci := 4) (v := .int crs_bits) (C := "ScanCoder$Course") (T := T_4) (N := 13) hx hb hts n1 hown hK hP 2 rfl rfl 8 (by decide) k9 (fun _ h9 => h9) rfl d_m637_37 ?_
        refine lv_ishr hx hb d_m637_40 ?_
        refine lv_iconst (v := (1 : Int32)) hx hb d_m637_41 (by decide) ?_
        refine lv_icmp_ne (tgt := 47) hx hb d_m637_42 (by decide) (fun hc => ?_) (fun hc => ?_)
        · replace hf := (if_neg hc).symm.trans hf
          refine lv_iinc (v := v2_8 + (-1 : Int32)) (lv' := [(2, .int (v2_8 + (-1 : Int32))), (0, .ref a_enc), (1, .int p0)]) hx hb d_m637_47 hl (k := 2) rfl rfl (by decide) rfl (fun ls hl => ?_)
          refine lv_goto (tgt := 8) hx hb d_m637_50 (by decide) ?_
          exact ih (v2_8 + (-1 : Int32)) hf ls (lv_sub hl [1, 2, 0] rfl)
        · replace hf := (if_pos hc).symm.trans hf
          obtain rfl := Option.some.inj hf
          exact hE0 rfl  ls (lv_sub hl [2] rfl)
  unfold f_Encoder_lastNewOne_cnt at hf
  refine lv_aload_n hx hb d_m637_0 rfl (lv_at hl 0 rfl) ?_
  refine va_get (D := (dC, dI)) (ci := 7) (v := .ref a_crs) (C := "ScanCoder$Encoder") (T := T_7) (N := 8) hx hb hts n0 hown hK hP 3 rfl rfl 1 (by decide) k0 (fun _ h9 => h9) rfl d_m637_1 ?_
  refine va_get (D := (dC, dI)) (ci := 4) (v := .int crs_last) (C := "ScanCoder$Course") (T := T_4) (N := 13) hx hb hts n1 hown hK hP 2 rfl rfl 7 (by decide) k1 (fun _ h9 => h9) rfl d_m637_4 ?_
  refine lv_istore_n (lv' := [(2, .int crs_last), (0, .ref a_enc), (1, .int p0)]) hx hb d_m637_7 rfl hl (by decide) rfl (fun ls hl => ?_)
  obtain ⟨z1, hz1, hf⟩ := ob_bind hf
  refine L8  z1 ?_ ?_ N crs_last hz1 ls (lv_sub hl [1, 2, 0] rfl)
  · intro hz ls hl
    replace hf := (if_pos hz).symm.trans hf
    refine lv_iload_n hx hb d_m637_45 rfl (lv_at hl 0 rfl) ?_
    obtain rfl := Option.some.inj hf
    subst hQ
    exact W.iret (v := z1.2) hx hb hr (fun t ht hW => ⟨z1.2, rfl, rfl, ht⟩) (fun q h => by cases h) d_m637_46
  · intro hz ls hl
    replace hf := (if_neg (by rw [hz]; decide)).symm.trans hf
    refine lv_iconst (v := (-1 : Int32)) hx hb d_m637_53 (by decide) ?_
    obtain rfl := Option.some.inj hf
    subst hQ
    exact W.iret (v := (-1 : Int32)) hx hb hr (fun t ht hW => ⟨(-1 : Int32), rfl, rfl, ht⟩) (fun q h => by cases h) d_m637_54

def f_Encoder_endPart_cnt (N : Nat) (cnt_total : Int32) (cnt_t : Nat → Int32) (enc_run : Int32) (enc_held : Int32) (enc_runTable : Int32) : Option (Int32 × (Nat → Int32) × Int32 × Int32) :=
  (f_Encoder_sendRun_cnt N cnt_total cnt_t enc_run enc_held enc_runTable).bind fun z1 =>
  (f_Counter_endByte ).bind fun z2 =>
  some (z1.1, z1.2.1, z1.2.2.1, z1.2.2.2)
abbrev w_Encoder_endPart_cnt (cI cB cS cT : ClassId) (a_cnt : Nat) (a_cnt_t : Nat) (a_enc : Nat) (a_enc_r : Nat) (a_pic : Nat) (a_crs : Nat) (a_enc_p : Nat) (cnt_total : Int32) (cnt_t : Nat → Int32) (enc_run : Int32) (enc_held : Int32) (enc_runTable : Int32) (enc_r : Nat → Int32) : va_W := [(a_cnt, .inr (3, [.ref a_cnt_t, .int cnt_total])), (a_cnt_t, .inl (cI, 2048, .inl cnt_t)), (a_enc, .inr (7, [.ref a_pic, .ref a_crs, .ref a_enc_p, .ref a_enc_r, .ref a_cnt, .int enc_run, .int enc_held, .int enc_runTable])), (a_enc_r, .inl (cB, 964, .inl enc_r))]
def rm_Encoder_endPart_cnt : Room := { frames := 3, cells := 0, slots := 0, locals := 65 }
set_option maxHeartbeats 1000000 in
set_option maxRecDepth 100000 in
theorem c_Encoder_endPart_cnt (l : Launch) (dC : Nat → ClassId) (dI : Nat → Nat → Nat) (cI cB cS cT : ClassId) (N : Nat) (a_cnt : Nat) (a_cnt_t : Nat) (a_enc : Nat) (a_enc_r : Nat) (a_pic : Nat) (a_crs : Nat) (a_enc_p : Nat) (cnt_total : Int32) (cnt_t : Nat → Int32) (enc_run : Int32) (enc_held : Int32) (enc_runTable : Int32) (enc_r : Nat → Int32) (sz : Nat) (z : Int32 × (Nat → Int32) × Int32 × Int32) (hf : f_Encoder_endPart_cnt N cnt_total cnt_t enc_run enc_held enc_runTable = some z) : Met l y_m558 ws_m558 rm_Encoder_endPart_cnt (gPre (dC, dI) [.ref a_enc] (gT cI cB cS cT) (w_Encoder_endPart_cnt cI cB cS cT a_cnt a_cnt_t a_enc a_enc_r a_pic a_crs a_enc_p cnt_total cnt_t enc_run enc_held enc_runTable enc_r) sz) (gQv (dC, dI) (gT cI cB cS cT) (w_Encoder_endPart_cnt cI cB cS cT a_cnt a_cnt_t a_enc a_enc_r a_pic a_crs a_enc_p cnt_total cnt_t enc_run enc_held enc_runTable enc_r) (w_Encoder_endPart_cnt cI cB cS cT a_cnt a_cnt_t a_enc a_enc_r a_pic a_crs a_enc_p z.1 z.2.1 z.2.2.1 z.2.2.2 enc_runTable enc_r) sz) 0 0 (va_A (w_Encoder_endPart_cnt cI cB cS cT a_cnt a_cnt_t a_enc a_enc_r a_pic a_crs a_enc_p cnt_total cnt_t enc_run enc_held enc_runTable enc_r) sz) := by
  refine Met.ofW (cc := prog_8_method_4_code) (maxL := 1) (ret := none) (by decide) rfl ?_
  intro p e s m args below meth c s₁ B hml hv
  obtain ⟨hargs, hsz, hP, hKN, hD0⟩ := hv
  have hK := hKN.1
  have hx := B.exec
  have hb := B.bytes
  have hr := B.returns
  have hts := atoms_spec (ws := ws_m558) B.pre
  have hown : s.vm.findClass "ScanCoder$Encoder" = some m.cls := findClass_of_methodNamed B.named
  have hlocks := B.notSynchronized
  have k0 := hts _ (List.mem_cons_of_mem _ tw_347)
  have n0 : ∀ w ∈ u_ws "ScanCoder$Encoder" T_7 8, w ∈ ws_m558 := fun w h => List.mem_cons_of_mem _ (in_7 w h)
  subst hsz
  have hD := hD0.self (sz := s.heap.size)
  obtain ⟨A, hAe⟩ : ∃ A : Nat → Prop, va_A (w_Encoder_endPart_cnt cI cB cS cT a_cnt a_cnt_t a_enc a_enc_r a_pic a_crs a_enc_p cnt_total cnt_t enc_run enc_held enc_runTable enc_r) s.heap.size = A := ⟨_, rfl⟩
  rw [hAe] at hD
  have hA : ∀ q : Nat, s.heap.size ≤ q → A q := fun q h => by rw [← hAe]; exact Or.inr h
  have hS : va_S A s.heap s.heap [] := va_S.rf
  have hl := lv_entry ([.ref a_enc]) (n := 1) (Nat.le_of_ble_eq_true rfl)
  have hfr : entryFrame m args 1 = F0 m 0 ((lg_sl ([.ref a_enc]) ++ List.replicate (1 - (lg_sl ([.ref a_enc])).length) Slot.unset).toArray) [] := by rw [hargs]; exact lg_entry_eq _ _ _
  rw [hfr]
  generalize (lg_sl ([.ref a_enc]) ++ List.replicate (1 - (lg_sl ([.ref a_enc])).length) Slot.unset).toArray = ls at hl ⊢
  have hl : lv_has ls 1 [(0, .ref a_enc)] := hl
  refine gen_Q (fun Q hQ => ?_)
  clear hfr
  have hgo : ∀ (H : Heap) (locs : List Loc), va_P (dC, dI) vwCl (w_Encoder_endPart_cnt cI cB cS cT a_cnt a_cnt_t a_enc a_enc_r a_pic a_crs a_enc_p cnt_total cnt_t enc_run enc_held enc_runTable enc_r) H → va_S A s.heap H locs → W p l e (headSpec ws_m558 rm_Encoder_endPart_cnt).room s m args below meth c H locs 0 0 Q (F0 m 0 ls []) := by
    intro H locs hP hS
    unfold f_Encoder_endPart_cnt at hf
    refine lv_aload_n hx hb d_m558_0 rfl (lv_at hl 0 rfl) ?_
    obtain ⟨z1, hz1, hf⟩ := ob_bind hf
    refine g_callv (wc := (w_Encoder_sendRun_cnt cI cB cS cT a_cnt a_cnt_t a_enc a_enc_r a_pic a_crs a_enc_p cnt_total cnt_t enc_run enc_held enc_runTable enc_r)) (w1 := (w_Encoder_sendRun_cnt cI cB cS cT a_cnt a_cnt_t a_enc a_enc_r a_pic a_crs a_enc_p z1.1 z1.2.1 z1.2.2.1 z1.2.2.2 enc_runTable enc_r)) (w2 := (w_Encoder_endPart_cnt cI cB cS cT a_cnt a_cnt_t a_enc a_enc_r a_pic a_crs a_enc_p z1.1 z1.2.1 z1.2.2.1 z1.2.2.2 enc_runTable enc_r)) [0, 1, 2, 3] [some 0, some 1, some 2, some 3] hP hD hS hA rfl rfl rfl rfl (va_runV (As := []) (rest := []) ⟨hx, hb, hml, hown, hts⟩ (c_Encoder_sendRun_cnt l dC dI cI cB cS cT N a_cnt a_cnt_t a_enc a_enc_r a_pic a_crs a_enc_p cnt_total cnt_t enc_run enc_held enc_runTable enc_r H.size z1 hz1) ⟨(callB_of 0 hts (gi tw_562 rfl) rfl rfl rfl (hts _ (List.mem_cons_of_mem _ tw_13)) (hts _ (List.mem_cons_of_mem _ tw_559)) (by decide +kernel) ⟨Nat.le_of_ble_eq_true rfl, Nat.le_of_ble_eq_true rfl⟩), hts _ (List.mem_cons_of_mem _ tw_561), hts _ (List.mem_cons_of_mem _ ts_m562)⟩ ⟨g_blind, va_recv hK hP (ci := 7) (q0 := 2) rfl rfl, g_at hKN (g_pm hP [0, 1, 2, 3] rfl) (hD.sub [0, 1, 2, 3] (by decide) rfl)⟩ rfl rfl hl.1 rfl (lv_room (Nat.le_of_ble_eq_true rfl)) d_m558_1 ⟨Nat.zero_le _, Nat.zero_le _⟩) (fun H locs hP hD hS => ?_)
    refine W.eq (g2 := F0 m 4 ls []) rfl ?_
    refine lv_aload_n hx hb d_m558_4 rfl (lv_at hl 0 rfl) ?_
    refine va_get (D := (dC, dI)) (ci := 7) (v := .ref a_cnt) (C := "ScanCoder$Encoder") (T := T_7) (N := 8) hx hb hts n0 hown hK hP 2 rfl rfl 4 (by decide) k0 (fun _ h9 => h9) rfl d_m558_5 ?_
    obtain ⟨z2, hz2, hf⟩ := ob_bind hf
    refine va_csv (g_run (va_runU (As := []) (rest := []) ⟨hx, hb, hml, hown, hts⟩ (c_Counter_endByte l dC dI cI cB cS cT a_cnt a_cnt_t z1.1 z2 hz2) (va_cwA (x := ({ cls := "ScanCoder$Sink", name := "endByte", desc := "()V" } : Jvm.MethodName)) (owner := "ScanCoder$Sink") 0 hts (gu (tw_594) (tw_596) (tw_601) (tw_602) (tw_11) (gi tw_603 rfl)) rfl rfl rfl (gn_595 hKN.2) (by decide +kernel) ⟨Nat.le_of_ble_eq_true rfl, Nat.le_of_ble_eq_true rfl⟩) ⟨gp_blind, va_recv hK hP (ci := 3) (q0 := 0) rfl rfl, gp_at hKN (g_pm hP [0] rfl)⟩ rfl rfl hl.1 rfl (lv_room (Nat.le_of_ble_eq_true rfl)) d_m558_8 ⟨Nat.zero_le _, Nat.zero_le _⟩)) (fun _ => ?_)
    refine W.eq (g2 := F0 m 11 ls []) rfl ?_
    obtain rfl := Option.some.inj hf
    subst hQ
    subst hAe
    exact W.vret hx hb hr (fun t ht hW => ⟨⟨(), rfl, trivial, by rw [ht]; exact hP, hD⟩, hS.F ht⟩) hS.2.2 d_m558_11
  exact hgo _ _ hP hS
def f_Encoder_sendDirect_cnt_J80 (N : Nat) (cnt_total_j80 : Int32) (cnt_t_j80 : Nat → Int32) (enc_p_j80 : Nat → Int32) : Option (Int32 × (Nat → Int32) × (Nat → Int32)) :=
  (f_Counter_putBits ).bind fun z3 =>
  some (cnt_total_j80, cnt_t_j80, enc_p_j80)
def f_Encoder_sendDirect_cnt (N : Nat) (p0 : Int32) (p1 : Int32) (n_pic_co : Nat) (pic_co : Nat → Int32) (crs_bits : Int32) (crs_dt : Nat → Int32) (cnt_total : Int32) (cnt_t : Nat → Int32) (enc_p : Nat → Int32) : Option (Int32 × (Nat → Int32) × (Nat → Int32)) :=
  if p1 < 0 ∨ n_pic_co ≤ p1.toNatClampNeg then none else
  if p0 < 0 ∨ 4 ≤ p0.toNatClampNeg then none else
  if p0 < 0 ∨ 4 ≤ p0.toNatClampNeg then none else
  (f_SC_sizeOf N (((pic_co p1.toNatClampNeg) >>> (crs_bits &&& 31)) - (enc_p p0.toNatClampNeg))).bind fun z1 =>
  if p0 < 0 ∨ 4 ≤ p0.toNatClampNeg then none else
  (f_Counter_putWord (crs_dt p0.toNatClampNeg) z1 cnt_total cnt_t).bind fun z2 =>
  if (((pic_co p1.toNatClampNeg) >>> (crs_bits &&& 31)) - (enc_p p0.toNatClampNeg)) ≤ 0 then
    f_Encoder_sendDirect_cnt_J80 N z2.1 z2.2 (upd enc_p p0.toNatClampNeg ((pic_co p1.toNatClampNeg) >>> (crs_bits &&& 31)))
  else
    f_Encoder_sendDirect_cnt_J80 N z2.1 z2.2 (upd enc_p p0.toNatClampNeg ((pic_co p1.toNatClampNeg) >>> (crs_bits &&& 31)))
abbrev w_Encoder_sendDirect_cnt (cI cB cS cT : ClassId) (a_pic : Nat) (a_pic_co : Nat) (a_crs : Nat) (a_crs_dt : Nat) (a_cnt : Nat) (a_cnt_t : Nat) (a_enc : Nat) (a_enc_p : Nat) (a_pic_h : Nat) (a_pic_v : Nat) (a_pic_ac : Nat) (a_pic_dn : Nat) (a_pic_oa : Nat) (a_pic_od : Nat) (a_pic_st : Nat) (a_crs_ow : Nat) (a_crs_pl : Nat) (a_crs_ot : Nat) (a_enc_r : Nat) (pic_many : Int32) (pic_unitsAcross : Int32) (pic_unitsDown : Int32) (pic_blocks : Int32) (n_pic_co : Nat) (pic_co : Nat → Int32) (crs_kind : Int32) (crs_first : Int32) (crs_last : Int32) (crs_bits : Int32) (crs_interval : Int32) (crs_units : Int32) (crs_blocksOfUnit : Int32) (crs_laid : Int32) (crs_dt : Nat → Int32) (cnt_total : Int32) (cnt_t : Nat → Int32) (enc_run : Int32) (enc_held : Int32) (enc_runTable : Int32) (enc_p : Nat → Int32) : va_W := [(a_pic, .inr (8, [.ref a_pic_h, .ref a_pic_v, .ref a_pic_ac, .ref a_pic_dn, .ref a_pic_oa, .ref a_pic_od, .ref a_pic_st, .int pic_many, .int pic_unitsAcross, .int pic_unitsDown, .int pic_blocks, .ref a_pic_co])), (a_pic_co, .inl (cS, n_pic_co, .inl pic_co)), (a_crs, .inr (4, [.ref a_pic, .ref a_crs_ow, .ref a_crs_pl, .ref a_crs_dt, .ref a_crs_ot, .int crs_kind, .int crs_first, .int crs_last, .int crs_bits, .int crs_interval, .int crs_units, .int crs_blocksOfUnit, .int crs_laid])), (a_crs_dt, .inl (cI, 4, .inl crs_dt)), (a_cnt, .inr (3, [.ref a_cnt_t, .int cnt_total])), (a_cnt_t, .inl (cI, 2048, .inl cnt_t)), (a_enc, .inr (7, [.ref a_pic, .ref a_crs, .ref a_enc_p, .ref a_enc_r, .ref a_cnt, .int enc_run, .int enc_held, .int enc_runTable])), (a_enc_p, .inl (cI, 4, .inl enc_p))]
def rm_Encoder_sendDirect_cnt : Room := { frames := 2, cells := 0, slots := 0, locals := 43 }
set_option maxHeartbeats 1000000 in
set_option maxRecDepth 100000 in
theorem c_Encoder_sendDirect_cnt (l : Launch) (dC : Nat → ClassId) (dI : Nat → Nat → Nat) (cI cB cS cT : ClassId) (N : Nat) (a_pic : Nat) (a_pic_co : Nat) (a_crs : Nat) (a_crs_dt : Nat) (a_cnt : Nat) (a_cnt_t : Nat) (a_enc : Nat) (a_enc_p : Nat) (a_pic_h : Nat) (a_pic_v : Nat) (a_pic_ac : Nat) (a_pic_dn : Nat) (a_pic_oa : Nat) (a_pic_od : Nat) (a_pic_st : Nat) (a_crs_ow : Nat) (a_crs_pl : Nat) (a_crs_ot : Nat) (a_enc_r : Nat) (pic_many : Int32) (pic_unitsAcross : Int32) (pic_unitsDown : Int32) (pic_blocks : Int32) (n_pic_co : Nat) (pic_co : Nat → Int32) (crs_kind : Int32) (crs_first : Int32) (crs_last : Int32) (crs_bits : Int32) (crs_interval : Int32) (crs_units : Int32) (crs_blocksOfUnit : Int32) (crs_laid : Int32) (crs_dt : Nat → Int32) (cnt_total : Int32) (cnt_t : Nat → Int32) (enc_run : Int32) (enc_held : Int32) (enc_runTable : Int32) (enc_p : Nat → Int32) (p0 : Int32) (p1 : Int32) (sz : Nat) (z : Int32 × (Nat → Int32) × (Nat → Int32)) (hf : f_Encoder_sendDirect_cnt N p0 p1 n_pic_co pic_co crs_bits crs_dt cnt_total cnt_t enc_p = some z) : Met l y_m620 ws_m620 rm_Encoder_sendDirect_cnt (gPre (dC, dI) [.ref a_enc, .int p0, .int p1] (gT cI cB cS cT) (w_Encoder_sendDirect_cnt cI cB cS cT a_pic a_pic_co a_crs a_crs_dt a_cnt a_cnt_t a_enc a_enc_p a_pic_h a_pic_v a_pic_ac a_pic_dn a_pic_oa a_pic_od a_pic_st a_crs_ow a_crs_pl a_crs_ot a_enc_r pic_many pic_unitsAcross pic_unitsDown pic_blocks n_pic_co pic_co crs_kind crs_first crs_last crs_bits crs_interval crs_units crs_blocksOfUnit crs_laid crs_dt cnt_total cnt_t enc_run enc_held enc_runTable enc_p) sz) (gQv (dC, dI) (gT cI cB cS cT) (w_Encoder_sendDirect_cnt cI cB cS cT a_pic a_pic_co a_crs a_crs_dt a_cnt a_cnt_t a_enc a_enc_p a_pic_h a_pic_v a_pic_ac a_pic_dn a_pic_oa a_pic_od a_pic_st a_crs_ow a_crs_pl a_crs_ot a_enc_r pic_many pic_unitsAcross pic_unitsDown pic_blocks n_pic_co pic_co crs_kind crs_first crs_last crs_bits crs_interval crs_units crs_blocksOfUnit crs_laid crs_dt cnt_total cnt_t enc_run enc_held enc_runTable enc_p) (w_Encoder_sendDirect_cnt cI cB cS cT a_pic a_pic_co a_crs a_crs_dt a_cnt a_cnt_t a_enc a_enc_p a_pic_h a_pic_v a_pic_ac a_pic_dn a_pic_oa a_pic_od a_pic_st a_crs_ow a_crs_pl a_crs_ot a_enc_r pic_many pic_unitsAcross pic_unitsDown pic_blocks n_pic_co pic_co crs_kind crs_first crs_last crs_bits crs_interval crs_units crs_blocksOfUnit crs_laid crs_dt z.1 z.2.1 enc_run enc_held enc_runTable z.2.2) sz) 0 0 (va_A (w_Encoder_sendDirect_cnt cI cB cS cT a_pic a_pic_co a_crs a_crs_dt a_cnt a_cnt_t a_enc a_enc_p a_pic_h a_pic_v a_pic_ac a_pic_dn a_pic_oa a_pic_od a_pic_st a_crs_ow a_crs_pl a_crs_ot a_enc_r pic_many pic_unitsAcross pic_unitsDown pic_blocks n_pic_co pic_co crs_kind crs_first crs_last crs_bits crs_interval crs_units crs_blocksOfUnit crs_laid crs_dt cnt_total cnt_t enc_run enc_held enc_runTable enc_p) sz) := by
  refine Met.ofW (cc := prog_8_method_5_code) (maxL := 6) (ret := none) (by decide) rfl ?_
  intro p e s m args below meth c s₁ B hml hv
  obtain ⟨hargs, hsz, hP, hKN, hD0⟩ := hv
  have hK := hKN.1
  have hx := B.exec
  have hb := B.bytes
  have hr := B.returns
  have hts := atoms_spec (ws := ws_m620) B.pre
  have hown : s.vm.findClass "ScanCoder$Encoder" = some m.cls := findClass_of_methodNamed B.named
  have hlocks := B.notSynchronized
  have k0 := hts _ (List.mem_cons_of_mem _ tw_343)
  have k1 := hts _ (List.mem_cons_of_mem _ tw_80)
  have k2 := hts _ (List.mem_cons_of_mem _ tw_344)
  have k3 := hts _ (List.mem_cons_of_mem _ tw_181)
  have k4 := hts _ (List.mem_cons_of_mem _ tw_345)
  have k5 := hts _ (List.mem_cons_of_mem _ tw_347)
  have k6 := hts _ (List.mem_cons_of_mem _ tw_165)
  have n0 : ∀ w ∈ u_ws "ScanCoder$Encoder" T_7 8, w ∈ ws_m620 := fun w h => List.mem_cons_of_mem _ (in_7 w h)
  have n1 : ∀ w ∈ u_ws "ScanCoder$Picture" T_8 12, w ∈ ws_m620 := fun w h => List.mem_cons_of_mem _ (in_8 w h)
  have n2 : ∀ w ∈ u_ws "ScanCoder$Course" T_4 13, w ∈ ws_m620 := fun w h => List.mem_cons_of_mem _ (in_4 w h)
  subst hsz
  have hD := hD0.self (sz := s.heap.size)
  obtain ⟨A, hAe⟩ : ∃ A : Nat → Prop, va_A (w_Encoder_sendDirect_cnt cI cB cS cT a_pic a_pic_co a_crs a_crs_dt a_cnt a_cnt_t a_enc a_enc_p a_pic_h a_pic_v a_pic_ac a_pic_dn a_pic_oa a_pic_od a_pic_st a_crs_ow a_crs_pl a_crs_ot a_enc_r pic_many pic_unitsAcross pic_unitsDown pic_blocks n_pic_co pic_co crs_kind crs_first crs_last crs_bits crs_interval crs_units crs_blocksOfUnit crs_laid crs_dt cnt_total cnt_t enc_run enc_held enc_runTable enc_p) s.heap.size = A := ⟨_, rfl⟩
  rw [hAe] at hD
  have hA : ∀ q : Nat, s.heap.size ≤ q → A q := fun q h => by rw [← hAe]; exact Or.inr h
  have hS : va_S A s.heap s.heap [] := va_S.rf
  have hl := lv_entry ([.ref a_enc, .int p0, .int p1]) (n := 6) (Nat.le_of_ble_eq_true rfl)
  have hfr : entryFrame m args 6 = F0 m 0 ((lg_sl ([.ref a_enc, .int p0, .int p1]) ++ List.replicate (6 - (lg_sl ([.ref a_enc, .int p0, .int p1])).length) Slot.unset).toArray) [] := by rw [hargs]; exact lg_entry_eq _ _ _
  rw [hfr]
  generalize (lg_sl ([.ref a_enc, .int p0, .int p1]) ++ List.replicate (6 - (lg_sl ([.ref a_enc, .int p0, .int p1])).length) Slot.unset).toArray = ls at hl ⊢
  have hl : lv_has ls 6 [(0, .ref a_enc), (1, .int p0), (2, .int p1)] := hl
  refine gen_Q (fun Q hQ => ?_)
  clear hfr
  have J80 : ∀ (v5_j80 : Int32) (cnt_total_j80 : Int32) (cnt_t_j80 : Nat → Int32) (enc_p_j80 : Nat → Int32) (s1_j80 : Int64), f_Encoder_sendDirect_cnt_J80 N cnt_total_j80 cnt_t_j80 enc_p_j80 = some z → GW (dC, dI) A p l e (headSpec ws_m620 rm_Encoder_sendDirect_cnt).room s m args below meth c 0 0 Q 6 80 (w_Encoder_sendDirect_cnt cI cB cS cT a_pic a_pic_co a_crs a_crs_dt a_cnt a_cnt_t a_enc a_enc_p a_pic_h a_pic_v a_pic_ac a_pic_dn a_pic_oa a_pic_od a_pic_st a_crs_ow a_crs_pl a_crs_ot a_enc_r pic_many pic_unitsAcross pic_unitsDown pic_blocks n_pic_co pic_co crs_kind crs_first crs_last crs_bits crs_interval crs_units crs_blocksOfUnit crs_laid crs_dt cnt_total_j80 cnt_t_j80 enc_run enc_held enc_runTable enc_p_j80) [(5, .int v5_j80)] [.long s1_j80, .ref a_cnt] := by
    intro v5_j80 cnt_total_j80 cnt_t_j80 enc_p_j80 s1_j80 hf H locs ls hP hD hS hl
    unfold f_Encoder_sendDirect_cnt_J80 at hf
    refine lv_iload hx hb d_m620_80 (lv_at hl 0 rfl) ?_
    obtain ⟨z3, hz3, hf⟩ := ob_bind hf
    refine va_csv (g_run (va_runU (As := [.long s1_j80, .int v5_j80]) (rest := []) ⟨hx, hb, hml, hown, hts⟩ (c_Counter_putBits l dC dI cI cB cS cT a_cnt a_cnt_t cnt_total_j80 s1_j80 v5_j80 z3 hz3) (va_cwA (x := ({ cls := "ScanCoder$Sink", name := "putBits", desc := "(JI)V" } : Jvm.MethodName)) (owner := "ScanCoder$Sink") 2 hts (gu (tw_587) (tw_589) (tw_591) (tw_592) (tw_11) (gi tw_593 rfl)) rfl rfl rfl (gn_588 hKN.2) (by decide +kernel) ⟨Nat.le_of_ble_eq_true rfl, Nat.le_of_ble_eq_true rfl⟩) ⟨gp_blind, va_recv hK hP (ci := 3) (q0 := 4) rfl rfl, gp_at hKN (g_pm hP [4] rfl)⟩ rfl rfl hl.1 rfl (lv_room (Nat.le_of_ble_eq_true rfl)) d_m620_82 ⟨Nat.zero_le _, Nat.zero_le _⟩)) (fun _ => ?_)
    refine W.eq (g2 := F0 m 85 ls []) rfl ?_
    obtain rfl := Option.some.inj hf
    subst hQ
    subst hAe
    exact W.vret hx hb hr (fun t ht hW => ⟨⟨(), rfl, trivial, by rw [ht]; exact hP, hD⟩, hS.F ht⟩) hS.2.2 d_m620_85
  have hgo : ∀ (H : Heap) (locs : List Loc), va_P (dC, dI) vwCl (w_Encoder_sendDirect_cnt cI cB cS cT a_pic a_pic_co a_crs a_crs_dt a_cnt a_cnt_t a_enc a_enc_p a_pic_h a_pic_v a_pic_ac a_pic_dn a_pic_oa a_pic_od a_pic_st a_crs_ow a_crs_pl a_crs_ot a_enc_r pic_many pic_unitsAcross pic_unitsDown pic_blocks n_pic_co pic_co crs_kind crs_first crs_last crs_bits crs_interval crs_units crs_blocksOfUnit crs_laid crs_dt cnt_total cnt_t enc_run enc_held enc_runTable enc_p) H → va_S A s.heap H locs → W p l e (headSpec ws_m620 rm_Encoder_sendDirect_cnt).room s m args below meth c H locs 0 0 Q (F0 m 0 ls []) := by
    intro H locs hP hS
    unfold f_Encoder_sendDirect_cnt at hf
    refine lv_aload_n hx hb d_m620_0 rfl (lv_at hl 0 rfl) ?_
    refine va_get (D := (dC, dI)) (ci := 7) (v := .ref a_pic) (C := "ScanCoder$Encoder") (T := T_7) (N := 8) hx hb hts n0 hown hK hP 6 rfl rfl 0 (by decide) k0 (fun _ h9 => h9) rfl d_m620_1 ?_
    refine va_get (D := (dC, dI)) (ci := 8) (v := .ref a_pic_co) (C := "ScanCoder$Picture") (T := T_8) (N := 12) hx hb hts n1 hown hK hP 0 rfl rfl 11 (by decide) k1 (fun _ h9 => h9) rfl d_m620_4 ?_
    refine lv_iload_n hx hb d_m620_7 rfl (lv_at hl 2 rfl) ?_
    obtain ⟨hi, hf⟩ := ob_if hf
    refine va_sald hx hb hK hP 1 2 rfl rfl hi d_m620_8 ?_
    refine lv_aload_n hx hb d_m620_9 rfl (lv_at hl 0 rfl) ?_
    refine va_get (D := (dC, dI)) (ci := 7) (v := .ref a_crs) (C := "ScanCoder$Encoder") (T := T_7) (N := 8) hx hb hts n0 hown hK hP 6 rfl rfl 1 (by decide) k2 (fun _ h9 => h9) rfl d_m620_10 ?_
    refine va_get (D := (dC, dI)) (ci := 4) (v := .int crs_bits) (C := "ScanCoder$Course") (T := T_4) (N := 13) hx hb hts n2 hown hK hP 2 rfl rfl 8 (by decide) k3 (fun _ h9 => h9) rfl d_m620_13 ?_
    refine lv_ishr hx hb d_m620_16 ?_
    refine lv_istore_n (lv' := [(3, .int ((pic_co p1.toNatClampNeg) >>> (crs_bits &&& 31))), (0, .ref a_enc), (1, .int p0), (2, .int p1)]) hx hb d_m620_17 rfl hl (by decide) rfl (fun ls hl => ?_)
    refine lv_iload_n hx hb d_m620_18 rfl (lv_at hl 0 rfl) ?_
    refine lv_aload_n hx hb d_m620_19 rfl (lv_at hl 1 rfl) ?_
    refine va_get (D := (dC, dI)) (ci := 7) (v := .ref a_enc_p) (C := "ScanCoder$Encoder") (T := T_7) (N := 8) hx hb hts n0 hown hK hP 6 rfl rfl 2 (by decide) k4 (fun _ h9 => h9) rfl d_m620_20 ?_
    refine lv_iload_n hx hb d_m620_23 rfl (lv_at hl 2 rfl) ?_
    obtain ⟨hi, hf⟩ := ob_if hf
    refine va_iald hx hb hK hP 7 0 rfl rfl hi d_m620_24 ?_
    refine lv_isub hx hb d_m620_25 ?_
    refine lv_istore (lv' := [(4, .int (((pic_co p1.toNatClampNeg) >>> (crs_bits &&& 31)) - (enc_p p0.toNatClampNeg))), (3, .int ((pic_co p1.toNatClampNeg) >>> (crs_bits &&& 31))), (0, .ref a_enc), (1, .int p0), (2, .int p1)]) hx hb d_m620_26 hl (by decide) rfl (fun ls hl => ?_)
    refine lv_aload_n hx hb d_m620_28 rfl (lv_at hl 2 rfl) ?_
    refine va_get (D := (dC, dI)) (ci := 7) (v := .ref a_enc_p) (C := "ScanCoder$Encoder") (T := T_7) (N := 8) hx hb hts n0 hown hK hP 6 rfl rfl 2 (by decide) k4 (fun _ h9 => h9) rfl d_m620_29 ?_
    refine lv_iload_n hx hb d_m620_32 rfl (lv_at hl 3 rfl) ?_
    refine lv_iload_n hx hb d_m620_33 rfl (lv_at hl 1 rfl) ?_
    obtain ⟨hi, hf⟩ := ob_if hf
    refine va_iast hx hb hK hP hD hS 7 0 rfl rfl hi d_m620_34 (fun H locs hP hD hS => ?_)
    have hP : va_P (dC, dI) vwCl (w_Encoder_sendDirect_cnt cI cB cS cT a_pic a_pic_co a_crs a_crs_dt a_cnt a_cnt_t a_enc a_enc_p a_pic_h a_pic_v a_pic_ac a_pic_dn a_pic_oa a_pic_od a_pic_st a_crs_ow a_crs_pl a_crs_ot a_enc_r pic_many pic_unitsAcross pic_unitsDown pic_blocks n_pic_co pic_co crs_kind crs_first crs_last crs_bits crs_interval crs_units crs_blocksOfUnit crs_laid crs_dt cnt_total cnt_t enc_run enc_held enc_runTable (upd enc_p p0.toNatClampNeg ((pic_co p1.toNatClampNeg) >>> (crs_bits &&& 31)))) H := hP
    have hD : va_D A (w_Encoder_sendDirect_cnt cI cB cS cT a_pic a_pic_co a_crs a_crs_dt a_cnt a_cnt_t a_enc a_enc_p a_pic_h a_pic_v a_pic_ac a_pic_dn a_pic_oa a_pic_od a_pic_st a_crs_ow a_crs_pl a_crs_ot a_enc_r pic_many pic_unitsAcross pic_unitsDown pic_blocks n_pic_co pic_co crs_kind crs_first crs_last crs_bits crs_interval crs_units crs_blocksOfUnit crs_laid crs_dt cnt_total cnt_t enc_run enc_held enc_runTable (upd enc_p p0.toNatClampNeg ((pic_co p1.toNatClampNeg) >>> (crs_bits &&& 31)))) := hD
    refine lv_iload hx hb d_m620_35 (lv_at hl 0 rfl) ?_
    obtain ⟨z1, hz1, hf⟩ := ob_bind hf
    refine vp_callSi (g_run (va_runSN (As := [.int (((pic_co p1.toNatClampNeg) >>> (crs_bits &&& 31)) - (enc_p p0.toNatClampNeg))]) (rest := []) ⟨hx, hb, hml, hown, hts⟩ (c_SC_sizeOf l dC dI cI cB cS cT N (((pic_co p1.toNatClampNeg) >>> (crs_bits &&& 31)) - (enc_p p0.toNatClampNeg)) z1 hz1) ⟨(va_cnB 1 hts (gi tw_565 rfl) rfl rfl rfl (gn_563 hKN.2) (hts _ (List.mem_cons_of_mem _ tw_1)) (by decide +kernel) ⟨Nat.le_of_ble_eq_true rfl, Nat.le_of_ble_eq_true rfl⟩), hts _ (List.mem_cons_of_mem _ tw_564), trivial⟩ ⟨gp_blind, gp_at hKN (g_pm hP [] rfl)⟩ rfl rfl hl.1 rfl (lv_room (Nat.le_of_ble_eq_true rfl)) d_m620_37 ⟨Nat.zero_le _, Nat.zero_le _⟩)) (fun r hrz1 => ?_)
    have hrz1 := hrz1.symm
    subst hrz1
    refine W.eq (g2 := F0 m 40 ls [.int z1]) rfl ?_
    refine lv_istore (lv' := [(5, .int z1), (4, .int (((pic_co p1.toNatClampNeg) >>> (crs_bits &&& 31)) - (enc_p p0.toNatClampNeg))), (3, .int ((pic_co p1.toNatClampNeg) >>> (crs_bits &&& 31))), (0, .ref a_enc), (1, .int p0), (2, .int p1)]) hx hb d_m620_40 hl (by decide) rfl (fun ls hl => ?_)
    refine lv_aload_n hx hb d_m620_42 rfl (lv_at hl 3 rfl) ?_
    refine va_get (D := (dC, dI)) (ci := 7) (v := .ref a_cnt) (C := "ScanCoder$Encoder") (T := T_7) (N := 8) hx hb hts n0 hown hK hP 6 rfl rfl 4 (by decide) k5 (fun _ h9 => h9) rfl d_m620_43 ?_
    refine lv_aload_n hx hb d_m620_46 rfl (lv_at hl 3 rfl) ?_
    refine va_get (D := (dC, dI)) (ci := 7) (v := .ref a_crs) (C := "ScanCoder$Encoder") (T := T_7) (N := 8) hx hb hts n0 hown hK hP 6 rfl rfl 1 (by decide) k2 (fun _ h9 => h9) rfl d_m620_47 ?_
    refine va_get (D := (dC, dI)) (ci := 4) (v := .ref a_crs_dt) (C := "ScanCoder$Course") (T := T_4) (N := 13) hx hb hts n2 hown hK hP 2 rfl rfl 3 (by decide) k6 (fun _ h9 => h9) rfl d_m620_50 ?_
    refine lv_iload_n hx hb d_m620_53 rfl (lv_at hl 4 rfl) ?_
    obtain ⟨hi, hf⟩ := ob_if hf
    refine va_iald hx hb hK hP 3 0 rfl rfl hi d_m620_54 ?_
    refine lv_iload hx hb d_m620_55 (lv_at hl 0 rfl) ?_
    obtain ⟨z2, hz2, hf⟩ := ob_bind hf
    refine g_callv (wc := (w_Counter_putWord cI cB cS cT a_cnt a_cnt_t cnt_total cnt_t)) (w1 := (w_Counter_putWord cI cB cS cT a_cnt a_cnt_t z2.1 z2.2)) (w2 := (w_Encoder_sendDirect_cnt cI cB cS cT a_pic a_pic_co a_crs a_crs_dt a_cnt a_cnt_t a_enc a_enc_p a_pic_h a_pic_v a_pic_ac a_pic_dn a_pic_oa a_pic_od a_pic_st a_crs_ow a_crs_pl a_crs_ot a_enc_r pic_many pic_unitsAcross pic_unitsDown pic_blocks n_pic_co pic_co crs_kind crs_first crs_last crs_bits crs_interval crs_units crs_blocksOfUnit crs_laid crs_dt z2.1 z2.2 enc_run enc_held enc_runTable (upd enc_p p0.toNatClampNeg ((pic_co p1.toNatClampNeg) >>> (crs_bits &&& 31))))) [4, 5] [none, none, none, none, some 0, some 1, none, none] hP hD hS hA rfl rfl rfl rfl (va_runU (As := [.int (crs_dt p0.toNatClampNeg), .int z1]) (rest := []) ⟨hx, hb, hml, hown, hts⟩ (c_Counter_putWord l dC dI cI cB cS cT a_cnt a_cnt_t cnt_total cnt_t (crs_dt p0.toNatClampNeg) z1 H.size z2 hz2) (va_cwA (x := ({ cls := "ScanCoder$Sink", name := "putWord", desc := "(II)V" } : Jvm.MethodName)) (owner := "ScanCoder$Sink") 2 hts (gu (tw_569) (tw_571) (tw_584) (tw_585) (tw_11) (gi tw_586 rfl)) rfl rfl rfl (gn_570 hKN.2) (by decide +kernel) ⟨Nat.le_of_ble_eq_true rfl, Nat.le_of_ble_eq_true rfl⟩) ⟨g_blind, va_recv hK hP (ci := 3) (q0 := 4) rfl rfl, g_at hKN (g_pm hP [4, 5] rfl) (hD.sub [4, 5] (by decide) rfl)⟩ rfl rfl hl.1 rfl (lv_room (Nat.le_of_ble_eq_true rfl)) d_m620_57 ⟨Nat.zero_le _, Nat.zero_le _⟩) (fun H locs hP hD hS => ?_)
    refine W.eq (g2 := F0 m 60 ls []) rfl ?_
    refine lv_aload_n hx hb d_m620_60 rfl (lv_at hl 3 rfl) ?_
    refine va_get (D := (dC, dI)) (ci := 7) (v := .ref a_cnt) (C := "ScanCoder$Encoder") (T := T_7) (N := 8) hx hb hts n0 hown hK hP 6 rfl rfl 4 (by decide) k5 (fun _ h9 => h9) rfl d_m620_61 ?_
    refine lv_iload hx hb d_m620_64 (lv_at hl 1 rfl) ?_
    refine lv_if_le (tgt := 75) hx hb d_m620_66 (by decide) (fun hc => ?_) (fun hc => ?_)
    · replace hf := (if_pos hc).symm.trans hf
      refine lv_iload hx hb d_m620_75 (lv_at hl 1 rfl) ?_
      refine lv_iconst (v := (1 : Int32)) hx hb d_m620_77 (by decide) ?_
      refine lv_isub hx hb d_m620_78 ?_
      refine lv_i2l hx hb d_m620_79 rfl ?_
      exact J80 z1 z2.1 z2.2 (upd enc_p p0.toNatClampNeg ((pic_co p1.toNatClampNeg) >>> (crs_bits &&& 31))) (((((pic_co p1.toNatClampNeg) >>> (crs_bits &&& 31)) - (enc_p p0.toNatClampNeg)) - (1 : Int32)).toInt64) hf H locs ls hP hD hS (lv_sub hl [0] rfl)
    · replace hf := (if_neg hc).symm.trans hf
      refine lv_iload hx hb d_m620_69 (lv_at hl 1 rfl) ?_
      refine lv_i2l hx hb d_m620_71 rfl ?_
      refine lv_goto (tgt := 80) hx hb d_m620_72 (by decide) ?_
      exact J80 z1 z2.1 z2.2 (upd enc_p p0.toNatClampNeg ((pic_co p1.toNatClampNeg) >>> (crs_bits &&& 31))) ((((pic_co p1.toNatClampNeg) >>> (crs_bits &&& 31)) - (enc_p p0.toNatClampNeg)).toInt64) hf H locs ls hP hD hS (lv_sub hl [0] rfl)
  exact hgo _ _ hP hS
def f_Encoder_sendOthers_cnt_L61b (enc_runTable : Int32) (N : Nat) (rec : (Int32 × Int32 × (Nat → Int32)) → Option (Int32 × Int32 × (Nat → Int32))) (v3_61 : Int32) (cnt_total_61 : Int32) (cnt_t_61 : Nat → Int32) : Option (Int32 × Int32 × (Nat → Int32)) :=
  if v3_61 ≤ (15 : Int32) then
    some (v3_61, cnt_total_61, cnt_t_61)
  else
    (f_Counter_putWord enc_runTable (240 : Int32) cnt_total_61 cnt_t_61).bind fun z2 =>
    rec (v3_61 + (-16 : Int32), z2.1, z2.2)
def f_Encoder_sendOthers_cnt_L61 (enc_runTable : Int32) (N : Nat) (k : Nat) : (Int32 × Int32 × (Nat → Int32)) → Option (Int32 × Int32 × (Nat → Int32)) := it (fun rec a => f_Encoder_sendOthers_cnt_L61b enc_runTable N rec a.1 a.2.1 a.2.2) k
def f_Encoder_sendOthers_cnt_J5_140 (N : Nat) (rec : (Int32 × Int32 × Int32 × (Nat → Int32) × Int32 × Int32) → Option (Int32 × Int32 × (Nat → Int32) × Int32 × Int32)) (v3_j140 : Int32) (v4_5 : Int32) (cnt_total_j140 : Int32) (cnt_t_j140 : Nat → Int32) (enc_run_j140 : Int32) (enc_held_j140 : Int32) : Option (Int32 × Int32 × (Nat → Int32) × Int32 × Int32) :=
  rec (v3_j140, v4_5 + (1 : Int32), cnt_total_j140, cnt_t_j140, enc_run_j140, enc_held_j140)
def f_Encoder_sendOthers_cnt_J5_133 (N : Nat) (rec : (Int32 × Int32 × Int32 × (Nat → Int32) × Int32 × Int32) → Option (Int32 × Int32 × (Nat → Int32) × Int32 × Int32)) (v4_5 : Int32) (cnt_total_j133 : Int32) (cnt_t_j133 : Nat → Int32) (enc_run_j133 : Int32) (enc_held_j133 : Int32) : Option (Int32 × Int32 × (Nat → Int32) × Int32 × Int32) :=
  (f_Counter_putBits ).bind fun z6 =>
  f_Encoder_sendOthers_cnt_J5_140 N rec (0 : Int32) v4_5 cnt_total_j133 cnt_t_j133 enc_run_j133 enc_held_j133
def f_Encoder_sendOthers_cnt_L5b (crs_last : Int32) (p0 : Int32) (n_pic_co : Nat) (pic_co : Nat → Int32) (crs_bits : Int32) (enc_runTable : Int32) (N : Nat) (rec : (Int32 × Int32 × Int32 × (Nat → Int32) × Int32 × Int32) → Option (Int32 × Int32 × (Nat → Int32) × Int32 × Int32)) (v3_5 : Int32) (v4_5 : Int32) (cnt_total_5 : Int32) (cnt_t_5 : Nat → Int32) (enc_run_5 : Int32) (enc_held_5 : Int32) : Option (Int32 × Int32 × (Nat → Int32) × Int32 × Int32) :=
  if crs_last < v4_5 then
    some (v3_5, cnt_total_5, cnt_t_5, enc_run_5, enc_held_5)
  else
    if (p0 + v4_5) < 0 ∨ n_pic_co ≤ (p0 + v4_5).toNatClampNeg then none else
    if ((if 0 ≤ (pic_co (p0 + v4_5).toNatClampNeg) then (pic_co (p0 + v4_5).toNatClampNeg) else 0 - (pic_co (p0 + v4_5).toNatClampNeg)) >>> (crs_bits &&& 31)) = 0 then
      f_Encoder_sendOthers_cnt_J5_140 N rec (v3_5 + (1 : Int32)) v4_5 cnt_total_5 cnt_t_5 enc_run_5 enc_held_5
    else
      (f_Encoder_sendRun_cnt N cnt_total_5 cnt_t_5 enc_run_5 enc_held_5 enc_runTable).bind fun z1 =>
      (f_Encoder_sendOthers_cnt_L61 enc_runTable N N (v3_5, z1.1, z1.2.1)).bind fun z3 =>
        (f_SC_sizeOf N ((if 0 ≤ (pic_co (p0 + v4_5).toNatClampNeg) then (pic_co (p0 + v4_5).toNatClampNeg) else 0 - (pic_co (p0 + v4_5).toNatClampNeg)) >>> (crs_bits &&& 31))).bind fun z4 =>
      (f_Counter_putWord enc_runTable (((16 : Int32) * z3.1) + z4) z3.2.1 z3.2.2).bind fun z5 =>
      if (pic_co (p0 + v4_5).toNatClampNeg) ≤ 0 then
        f_Encoder_sendOthers_cnt_J5_133 N rec v4_5 z5.1 z5.2 z1.2.2.1 z1.2.2.2
      else
        f_Encoder_sendOthers_cnt_J5_133 N rec v4_5 z5.1 z5.2 z1.2.2.1 z1.2.2.2
def f_Encoder_sendOthers_cnt_L5 (crs_last : Int32) (p0 : Int32) (n_pic_co : Nat) (pic_co : Nat → Int32) (crs_bits : Int32) (enc_runTable : Int32) (N : Nat) (k : Nat) : (Int32 × Int32 × Int32 × (Nat → Int32) × Int32 × Int32) → Option (Int32 × Int32 × (Nat → Int32) × Int32 × Int32) := it (fun rec a => f_Encoder_sendOthers_cnt_L5b crs_last p0 n_pic_co pic_co crs_bits enc_runTable N rec a.1 a.2.1 a.2.2.1 a.2.2.2.1 a.2.2.2.2.1 a.2.2.2.2.2) k
def f_Encoder_sendOthers_cnt_J175 (N : Nat) (v3_j175 : Int32) (cnt_total_j175 : Int32) (cnt_t_j175 : Nat → Int32) (enc_run_j175 : Int32) (enc_held_j175 : Int32) (enc_r : Nat → Int32) : Option (Int32 × (Nat → Int32) × Int32 × Int32 × (Nat → Int32)) :=
  if v3_j175 ≤ 0 then
    some (cnt_total_j175, cnt_t_j175, enc_run_j175, enc_held_j175, enc_r)
  else
    (f_Encoder_lengthenRun_cnt N (0 : Int64) (0 : Int32) enc_run_j175 enc_held_j175 enc_r).bind fun z8 =>
    some (cnt_total_j175, cnt_t_j175, z8.1, z8.2.1, z8.2.2)
def f_Encoder_sendOthers_cnt (N : Nat) (p0 : Int32) (p1 : Int32) (n_pic_co : Nat) (pic_co : Nat → Int32) (crs_kind : Int32) (crs_last : Int32) (crs_bits : Int32) (cnt_total : Int32) (cnt_t : Nat → Int32) (enc_run : Int32) (enc_held : Int32) (enc_runTable : Int32) (enc_r : Nat → Int32) : Option (Int32 × (Nat → Int32) × Int32 × Int32 × (Nat → Int32)) :=
  (f_Encoder_sendOthers_cnt_L5 crs_last p0 n_pic_co pic_co crs_bits enc_runTable N N ((0 : Int32), p1, cnt_total, cnt_t, enc_run, enc_held)).bind fun z7 =>
    if z7.1 ≤ 0 then
    f_Encoder_sendOthers_cnt_J175 N z7.1 z7.2.1 z7.2.2.1 z7.2.2.2.1 z7.2.2.2.2 enc_r
  else
    if crs_kind = 0 then
      (f_Counter_putWord enc_runTable (0 : Int32) z7.2.1 z7.2.2.1).bind fun z9 =>
      some (z9.1, z9.2, z7.2.2.2.1, z7.2.2.2.2, enc_r)
    else
      f_Encoder_sendOthers_cnt_J175 N z7.1 z7.2.1 z7.2.2.1 z7.2.2.2.1 z7.2.2.2.2 enc_r
abbrev w_Encoder_sendOthers_cnt (cI cB cS cT : ClassId) (a_pic : Nat) (a_pic_co : Nat) (a_crs : Nat) (a_cnt : Nat) (a_cnt_t : Nat) (a_enc : Nat) (a_enc_r : Nat) (a_pic_h : Nat) (a_pic_v : Nat) (a_pic_ac : Nat) (a_pic_dn : Nat) (a_pic_oa : Nat) (a_pic_od : Nat) (a_pic_st : Nat) (a_crs_ow : Nat) (a_crs_pl : Nat) (a_crs_dt : Nat) (a_crs_ot : Nat) (a_enc_p : Nat) (pic_many : Int32) (pic_unitsAcross : Int32) (pic_unitsDown : Int32) (pic_blocks : Int32) (n_pic_co : Nat) (pic_co : Nat → Int32) (crs_kind : Int32) (crs_first : Int32) (crs_last : Int32) (crs_bits : Int32) (crs_interval : Int32) (crs_units : Int32) (crs_blocksOfUnit : Int32) (crs_laid : Int32) (cnt_total : Int32) (cnt_t : Nat → Int32) (enc_run : Int32) (enc_held : Int32) (enc_runTable : Int32) (enc_r : Nat → Int32) : va_W := [(a_pic, .inr (8, [.ref a_pic_h, .ref a_pic_v, .ref a_pic_ac, .ref a_pic_dn, .ref a_pic_oa, .ref a_pic_od, .ref a_pic_st, .int pic_many, .int pic_unitsAcross, .int pic_unitsDown, .int pic_blocks, .ref a_pic_co])), (a_pic_co, .inl (cS, n_pic_co, .inl pic_co)), (a_crs, .inr (4, [.ref a_pic, .ref a_crs_ow, .ref a_crs_pl, .ref a_crs_dt, .ref a_crs_ot, .int crs_kind, .int crs_first, .int crs_last, .int crs_bits, .int crs_interval, .int crs_units, .int crs_blocksOfUnit, .int crs_laid])), (a_cnt, .inr (3, [.ref a_cnt_t, .int cnt_total])), (a_cnt_t, .inl (cI, 2048, .inl cnt_t)), (a_enc, .inr (7, [.ref a_pic, .ref a_crs, .ref a_enc_p, .ref a_enc_r, .ref a_cnt, .int enc_run, .int enc_held, .int enc_runTable])), (a_enc_r, .inl (cB, 964, .inl enc_r))]
def rm_Encoder_sendOthers_cnt : Room := { frames := 3, cells := 0, slots := 0, locals := 65 }
set_option maxHeartbeats 1000000 in
set_option maxRecDepth 100000 in
theorem c_Encoder_sendOthers_cnt (l : Launch) (dC : Nat → ClassId) (dI : Nat → Nat → Nat) (cI cB cS cT : ClassId) (N : Nat) (a_pic : Nat) (a_pic_co : Nat) (a_crs : Nat) (a_cnt : Nat) (a_cnt_t : Nat) (a_enc : Nat) (a_enc_r : Nat) (a_pic_h : Nat) (a_pic_v : Nat) (a_pic_ac : Nat) (a_pic_dn : Nat) (a_pic_oa : Nat) (a_pic_od : Nat) (a_pic_st : Nat) (a_crs_ow : Nat) (a_crs_pl : Nat) (a_crs_dt : Nat) (a_crs_ot : Nat) (a_enc_p : Nat) (pic_many : Int32) (pic_unitsAcross : Int32) (pic_unitsDown : Int32) (pic_blocks : Int32) (n_pic_co : Nat) (pic_co : Nat → Int32) (crs_kind : Int32) (crs_first : Int32) (crs_last : Int32) (crs_bits : Int32) (crs_interval : Int32) (crs_units : Int32) (crs_blocksOfUnit : Int32) (crs_laid : Int32) (cnt_total : Int32) (cnt_t : Nat → Int32) (enc_run : Int32) (enc_held : Int32) (enc_runTable : Int32) (enc_r : Nat → Int32) (p0 : Int32) (p1 : Int32) (sz : Nat) (z : Int32 × (Nat → Int32) × Int32 × Int32 × (Nat → Int32)) (hf : f_Encoder_sendOthers_cnt N p0 p1 n_pic_co pic_co crs_kind crs_last crs_bits cnt_total cnt_t enc_run enc_held enc_runTable enc_r = some z) : Met l y_m624 ws_m624 rm_Encoder_sendOthers_cnt (gPre (dC, dI) [.ref a_enc, .int p0, .int p1] (gT cI cB cS cT) (w_Encoder_sendOthers_cnt cI cB cS cT a_pic a_pic_co a_crs a_cnt a_cnt_t a_enc a_enc_r a_pic_h a_pic_v a_pic_ac a_pic_dn a_pic_oa a_pic_od a_pic_st a_crs_ow a_crs_pl a_crs_dt a_crs_ot a_enc_p pic_many pic_unitsAcross pic_unitsDown pic_blocks n_pic_co pic_co crs_kind crs_first crs_last crs_bits crs_interval crs_units crs_blocksOfUnit crs_laid cnt_total cnt_t enc_run enc_held enc_runTable enc_r) sz) (gQv (dC, dI) (gT cI cB cS cT) (w_Encoder_sendOthers_cnt cI cB cS cT a_pic a_pic_co a_crs a_cnt a_cnt_t a_enc a_enc_r a_pic_h a_pic_v a_pic_ac a_pic_dn a_pic_oa a_pic_od a_pic_st a_crs_ow a_crs_pl a_crs_dt a_crs_ot a_enc_p pic_many pic_unitsAcross pic_unitsDown pic_blocks n_pic_co pic_co crs_kind crs_first crs_last crs_bits crs_interval crs_units crs_blocksOfUnit crs_laid cnt_total cnt_t enc_run enc_held enc_runTable enc_r) (w_Encoder_sendOthers_cnt cI cB cS cT a_pic a_pic_co a_crs a_cnt a_cnt_t a_enc a_enc_r a_pic_h a_pic_v a_pic_ac a_pic_dn a_pic_oa a_pic_od a_pic_st a_crs_ow a_crs_pl a_crs_dt a_crs_ot a_enc_p pic_many pic_unitsAcross pic_unitsDown pic_blocks n_pic_co pic_co crs_kind crs_first crs_last crs_bits crs_interval crs_units crs_blocksOfUnit crs_laid z.1 z.2.1 z.2.2.1 z.2.2.2.1 enc_runTable z.2.2.2.2) sz) 0 0 (va_A (w_Encoder_sendOthers_cnt cI cB cS cT a_pic a_pic_co a_crs a_cnt a_cnt_t a_enc a_enc_r a_pic_h a_pic_v a_pic_ac a_pic_dn a_pic_oa a_pic_od a_pic_st a_crs_ow a_crs_pl a_crs_dt a_crs_ot a_enc_p pic_many pic_unitsAcross pic_unitsDown pic_blocks n_pic_co pic_co crs_kind crs_first crs_last crs_bits crs_interval crs_units crs_blocksOfUnit crs_laid cnt_total cnt_t enc_run enc_held enc_runTable enc_r) sz) := by
  refine Met.ofW (cc := prog_8_method_6_code) (maxL := 8) (ret := none) (by decide) rfl ?_
  intro p e s m args below meth c s₁ B hml hv
  obtain ⟨hargs, hsz, hP, hKN, hD0⟩ := hv
  have hK := hKN.1
  have hx := B.exec
  have hb := B.bytes
  have hr := B.returns
  have hts := atoms_spec (ws := ws_m624) B.pre
  have hown : s.vm.findClass "ScanCoder$Encoder" = some m.cls := findClass_of_methodNamed B.named
  have hlocks := B.notSynchronized
  have k0 := hts _ (List.mem_cons_of_mem _ tw_344)
  have k1 := hts _ (List.mem_cons_of_mem _ tw_179)
  have k2 := hts _ (List.mem_cons_of_mem _ tw_343)
  have k3 := hts _ (List.mem_cons_of_mem _ tw_80)
  have k4 := hts _ (List.mem_cons_of_mem _ tw_625)
  have k5 := hts _ (List.mem_cons_of_mem _ tw_567)
  have k6 := hts _ (List.mem_cons_of_mem _ tw_3)
  have k7 := hts _ (List.mem_cons_of_mem _ tw_568)
  have k8 := hts _ (List.mem_cons_of_mem _ tw_181)
  have k9 := hts _ (List.mem_cons_of_mem _ tw_347)
  have k10 := hts _ (List.mem_cons_of_mem _ tw_350)
  have k11 := hts _ (List.mem_cons_of_mem _ tw_172)
  have n0 : ∀ w ∈ u_ws "ScanCoder$Encoder" T_7 8, w ∈ ws_m624 := fun w h => List.mem_cons_of_mem _ (in_7 w h)
  have n1 : ∀ w ∈ u_ws "ScanCoder$Course" T_4 13, w ∈ ws_m624 := fun w h => List.mem_cons_of_mem _ (in_4 w h)
  have n2 : ∀ w ∈ u_ws "ScanCoder$Picture" T_8 12, w ∈ ws_m624 := fun w h => List.mem_cons_of_mem _ (in_8 w h)
  subst hsz
  have hD := hD0.self (sz := s.heap.size)
  obtain ⟨A, hAe⟩ : ∃ A : Nat → Prop, va_A (w_Encoder_sendOthers_cnt cI cB cS cT a_pic a_pic_co a_crs a_cnt a_cnt_t a_enc a_enc_r a_pic_h a_pic_v a_pic_ac a_pic_dn a_pic_oa a_pic_od a_pic_st a_crs_ow a_crs_pl a_crs_dt a_crs_ot a_enc_p pic_many pic_unitsAcross pic_unitsDown pic_blocks n_pic_co pic_co crs_kind crs_first crs_last crs_bits crs_interval crs_units crs_blocksOfUnit crs_laid cnt_total cnt_t enc_run enc_held enc_runTable enc_r) s.heap.size = A := ⟨_, rfl⟩
  rw [hAe] at hD
  have hA : ∀ q : Nat, s.heap.size ≤ q → A q := fun q h => by rw [← hAe]; exact Or.inr h
  have hS : va_S A s.heap s.heap [] := va_S.rf
  have hl := lv_entry ([.ref a_enc, .int p0, .int p1]) (n := 8) (Nat.le_of_ble_eq_true rfl)
  have hfr : entryFrame m args 8 = F0 m 0 ((lg_sl ([.ref a_enc, .int p0, .int p1]) ++ List.replicate (8 - (lg_sl ([.ref a_enc, .int p0, .int p1])).length) Slot.unset).toArray) [] := by rw [hargs]; exact lg_entry_eq _ _ _
  rw [hfr]
  generalize (lg_sl ([.ref a_enc, .int p0, .int p1]) ++ List.replicate (8 - (lg_sl ([.ref a_enc, .int p0, .int p1])).length) Slot.unset).toArray = ls at hl ⊢
  have hl : lv_has ls 8 [(0, .ref a_enc), (1, .int p0), (2, .int p1)] := hl
  refine gen_Q (fun Q hQ => ?_)
  clear hfr
  have L61 : ∀ (v5_61 : Int32) (v6_61 : Int32) (enc_run_61 : Int32) (enc_held_61 : Int32) (v4_5 : Int32) (z : Int32 × Int32 × (Nat → Int32)), (GW (dC, dI) A p l e (headSpec ws_m624 rm_Encoder_sendOthers_cnt).room s m args below meth c 0 0 Q 8 87 (w_Encoder_sendOthers_cnt cI cB cS cT a_pic a_pic_co a_crs a_cnt a_cnt_t a_enc a_enc_r a_pic_h a_pic_v a_pic_ac a_pic_dn a_pic_oa a_pic_od a_pic_st a_crs_ow a_crs_pl a_crs_dt a_crs_ot a_enc_p pic_many pic_unitsAcross pic_unitsDown pic_blocks n_pic_co pic_co crs_kind crs_first crs_last crs_bits crs_interval crs_units crs_blocksOfUnit crs_laid z.2.1 z.2.2 enc_run_61 enc_held_61 enc_runTable enc_r) [(0, .ref a_enc), (1, .int p0), (3, .int z.1), (4, .int v4_5), (5, .int v5_61), (6, .int v6_61)] []) → ∀ (k : Nat) (v3_61 : Int32) (cnt_total_61 : Int32) (cnt_t_61 : Nat → Int32), f_Encoder_sendOthers_cnt_L61 enc_runTable N k (v3_61, cnt_total_61, cnt_t_61) = some z → GW (dC, dI) A p l e (headSpec ws_m624 rm_Encoder_sendOthers_cnt).room s m args below meth c 0 0 Q 8 61 (w_Encoder_sendOthers_cnt cI cB cS cT a_pic a_pic_co a_crs a_cnt a_cnt_t a_enc a_enc_r a_pic_h a_pic_v a_pic_ac a_pic_dn a_pic_oa a_pic_od a_pic_st a_crs_ow a_crs_pl a_crs_dt a_crs_ot a_enc_p pic_many pic_unitsAcross pic_unitsDown pic_blocks n_pic_co pic_co crs_kind crs_first crs_last crs_bits crs_interval crs_units crs_blocksOfUnit crs_laid cnt_total_61 cnt_t_61 enc_run_61 enc_held_61 enc_runTable enc_r) [(0, .ref a_enc), (1, .int p0), (3, .int v3_61), (4, .int v4_5), (5, .int v5_61), (6, .int v6_61)] [] := by
    intro v5_61 v6_61 enc_run_61 enc_held_61 v4_5 z hE0 k
    induction k with
    | zero =>
      intro v3_61 cnt_total_61 cnt_t_61 hf
      exact (it_zero hf).elim
    | succ k ih =>
      intro v3_61 cnt_total_61 cnt_t_61 hf H locs ls hP hD hS hl
      have hf : f_Encoder_sendOthers_cnt_L61b enc_runTable N (f_Encoder_sendOthers_cnt_L61 enc_runTable N k) v3_61 cnt_total_61 cnt_t_61 = some z := hf
      unfold f_Encoder_sendOthers_cnt_L61b at hf
      refine lv_iload_n hx hb d_m624_61 rfl (lv_at hl 2 rfl) ?_
      refine lv_bipush (v := (15 : Int32)) hx hb d_m624_62 (by decide) ?_
      refine lv_icmp_le (tgt := 87) hx hb d_m624_64 (by decide) (fun hc => ?_) (fun hc => ?_)
      · replace hf := (if_pos hc).symm.trans hf
        obtain rfl := Option.some.inj hf
        exact hE0  H locs ls hP hD hS hl
      · replace hf := (if_neg hc).symm.trans hf
        refine lv_aload_n hx hb d_m624_67 rfl (lv_at hl 0 rfl) ?_
        refine va_get (D := (dC, dI)) (ci := 7) (v := .ref a_cnt) (C := "ScanCoder$Encoder") (T := T_7) (N := 8) hx hb hts n0 hown hK hP 5 rfl rfl 4 (by decide) k9 (fun _ h9 => h9) rfl d_m624_68 ?_
        refine lv_aload_n hx hb d_m624_71 rfl (lv_at hl 0 rfl) ?_
        refine va_get (D := (dC, dI)) (ci := 7) (v := .int enc_runTable) (C := "ScanCoder$Encoder") (T := T_7) (N := 8) hx hb hts n0 hown hK hP 5 rfl rfl 7 (by decide) k10 (fun _ h9 => h9) rfl d_m624_72 ?_
        refine lv_sipush (v := (240 : Int32)) hx hb d_m624_75 (by decide) ?_
        obtain ⟨z2, hz2, hf⟩ := ob_bind hf
        refine g_callv (wc := (w_Counter_putWord cI cB cS cT a_cnt a_cnt_t cnt_total_61 cnt_t_61)) (w1 := (w_Counter_putWord cI cB cS cT a_cnt a_cnt_t z2.1 z2.2)) (w2 := (w_Encoder_sendOthers_cnt cI cB cS cT a_pic a_pic_co a_crs a_cnt a_cnt_t a_enc a_enc_r a_pic_h a_pic_v a_pic_ac a_pic_dn a_pic_oa a_pic_od a_pic_st a_crs_ow a_crs_pl a_crs_dt a_crs_ot a_enc_p pic_many pic_unitsAcross pic_unitsDown pic_blocks n_pic_co pic_co crs_kind crs_first crs_last crs_bits crs_interval crs_units crs_blocksOfUnit crs_laid z2.1 z2.2 enc_run_61 enc_held_61 enc_runTable enc_r)) [3, 4] [none, none, none, some 0, some 1, none, none] hP hD hS hA rfl rfl rfl rfl (va_runU (As := [.int enc_runTable, .int (240 : Int32)]) (rest := []) ⟨hx, hb, hml, hown, hts⟩ (c_Counter_putWord l dC dI cI cB cS cT a_cnt a_cnt_t cnt_total_61 cnt_t_61 enc_runTable (240 : Int32) H.size z2 hz2) (va_cwA (x := ({ cls := "ScanCoder$Sink", name := "putWord", desc := "(II)V" } : Jvm.MethodName)) (owner := "ScanCoder$Sink") 2 hts (gu (tw_569) (tw_571) (tw_584) (tw_585) (tw_11) (gi tw_586 rfl)) rfl rfl rfl (gn_570 hKN.2) (by decide +kernel) ⟨Nat.le_of_ble_eq_true rfl, Nat.le_of_ble_eq_true rfl⟩) ⟨g_blind, va_recv hK hP (ci := 3) (q0 := 3) rfl rfl, g_at hKN (g_pm hP [3, 4] rfl) (hD.sub [3, 4] (by decide) rfl)⟩ rfl rfl hl.1 rfl (lv_room (Nat.le_of_ble_eq_true rfl)) d_m624_78 ⟨Nat.zero_le _, Nat.zero_le _⟩) (fun H locs hP hD hS => ?_)
        refine W.eq (g2 := F0 m 81 ls []) rfl ?_
        refine lv_iinc (v := v3_61 + (-16 : Int32)) (lv' := [(3, .int (v3_61 + (-16 : Int32))), (0, .ref a_enc), (1, .int p0), (4, .int v4_5), (5, .int v5_61), (6, .int v6_61)]) hx hb d_m624_81 hl (k := 2) rfl rfl (by decide) rfl (fun ls hl => ?_)
        refine lv_goto (tgt := 61) hx hb d_m624_84 (by decide) ?_
        exact ih (v3_61 + (-16 : Int32)) z2.1 z2.2 hf H locs ls hP hD hS (lv_sub hl [1, 2, 0, 3, 4, 5] rfl)
  have L5 : ∀  (z : Int32 × Int32 × (Nat → Int32) × Int32 × Int32), (GW (dC, dI) A p l e (headSpec ws_m624 rm_Encoder_sendOthers_cnt).room s m args below meth c 0 0 Q 8 146 (w_Encoder_sendOthers_cnt cI cB cS cT a_pic a_pic_co a_crs a_cnt a_cnt_t a_enc a_enc_r a_pic_h a_pic_v a_pic_ac a_pic_dn a_pic_oa a_pic_od a_pic_st a_crs_ow a_crs_pl a_crs_dt a_crs_ot a_enc_p pic_many pic_unitsAcross pic_unitsDown pic_blocks n_pic_co pic_co crs_kind crs_first crs_last crs_bits crs_interval crs_units crs_blocksOfUnit crs_laid z.2.1 z.2.2.1 z.2.2.2.1 z.2.2.2.2 enc_runTable enc_r) [(0, .ref a_enc), (3, .int z.1)] []) → ∀ (k : Nat) (v3_5 : Int32) (v4_5 : Int32) (cnt_total_5 : Int32) (cnt_t_5 : Nat → Int32) (enc_run_5 : Int32) (enc_held_5 : Int32), f_Encoder_sendOthers_cnt_L5 crs_last p0 n_pic_co pic_co crs_bits enc_runTable N k (v3_5, v4_5, cnt_total_5, cnt_t_5, enc_run_5, enc_held_5) = some z → GW (dC, dI) A p l e (headSpec ws_m624 rm_Encoder_sendOthers_cnt).room s m args below meth c 0 0 Q 8 5 (w_Encoder_sendOthers_cnt cI cB cS cT a_pic a_pic_co a_crs a_cnt a_cnt_t a_enc a_enc_r a_pic_h a_pic_v a_pic_ac a_pic_dn a_pic_oa a_pic_od a_pic_st a_crs_ow a_crs_pl a_crs_dt a_crs_ot a_enc_p pic_many pic_unitsAcross pic_unitsDown pic_blocks n_pic_co pic_co crs_kind crs_first crs_last crs_bits crs_interval crs_units crs_blocksOfUnit crs_laid cnt_total_5 cnt_t_5 enc_run_5 enc_held_5 enc_runTable enc_r) [(0, .ref a_enc), (1, .int p0), (3, .int v3_5), (4, .int v4_5)] [] := by
    intro  z hE0 k
    induction k with
    | zero =>
      intro v3_5 v4_5 cnt_total_5 cnt_t_5 enc_run_5 enc_held_5 hf
      exact (it_zero hf).elim
    | succ k ih =>
      intro v3_5 v4_5 cnt_total_5 cnt_t_5 enc_run_5 enc_held_5 hf H locs ls hP hD hS hl
      have J5_140 : ∀ (v3_j140 : Int32) (cnt_total_j140 : Int32) (cnt_t_j140 : Nat → Int32) (enc_run_j140 : Int32) (enc_held_j140 : Int32), f_Encoder_sendOthers_cnt_J5_140 N (f_Encoder_sendOthers_cnt_L5 crs_last p0 n_pic_co pic_co crs_bits enc_runTable N k) v3_j140 v4_5 cnt_total_j140 cnt_t_j140 enc_run_j140 enc_held_j140 = some z → GW (dC, dI) A p l e (headSpec ws_m624 rm_Encoder_sendOthers_cnt).room s m args below meth c 0 0 Q 8 140 (w_Encoder_sendOthers_cnt cI cB cS cT a_pic a_pic_co a_crs a_cnt a_cnt_t a_enc a_enc_r a_pic_h a_pic_v a_pic_ac a_pic_dn a_pic_oa a_pic_od a_pic_st a_crs_ow a_crs_pl a_crs_dt a_crs_ot a_enc_p pic_many pic_unitsAcross pic_unitsDown pic_blocks n_pic_co pic_co crs_kind crs_first crs_last crs_bits crs_interval crs_units crs_blocksOfUnit crs_laid cnt_total_j140 cnt_t_j140 enc_run_j140 enc_held_j140 enc_runTable enc_r) [(0, .ref a_enc), (1, .int p0), (3, .int v3_j140), (4, .int v4_5)] [] := by
        intro v3_j140 cnt_total_j140 cnt_t_j140 enc_run_j140 enc_held_j140 hf H locs ls hP hD hS hl
        unfold f_Encoder_sendOthers_cnt_J5_140 at hf
        refine lv_iinc (v := v4_5 + (1 : Int32)) (lv' := [(4, .int (v4_5 + (1 : Int32))), (0, .ref a_enc), (1, .int p0), (3, .int v3_j140)]) hx hb d_m624_140 hl (k := 3) rfl rfl (by decide) rfl (fun ls hl => ?_)
        refine lv_goto (tgt := 5) hx hb d_m624_143 (by decide) ?_
        exact ih v3_j140 (v4_5 + (1 : Int32)) cnt_total_j140 cnt_t_j140 enc_run_j140 enc_held_j140 hf H locs ls hP hD hS (lv_sub hl [1, 2, 3, 0] rfl)
      have J5_133 : ∀ (v7_j133 : Int32) (cnt_total_j133 : Int32) (cnt_t_j133 : Nat → Int32) (enc_run_j133 : Int32) (enc_held_j133 : Int32) (s1_j133 : Int64), f_Encoder_sendOthers_cnt_J5_133 N (f_Encoder_sendOthers_cnt_L5 crs_last p0 n_pic_co pic_co crs_bits enc_runTable N k) v4_5 cnt_total_j133 cnt_t_j133 enc_run_j133 enc_held_j133 = some z → GW (dC, dI) A p l e (headSpec ws_m624 rm_Encoder_sendOthers_cnt).room s m args below meth c 0 0 Q 8 133 (w_Encoder_sendOthers_cnt cI cB cS cT a_pic a_pic_co a_crs a_cnt a_cnt_t a_enc a_enc_r a_pic_h a_pic_v a_pic_ac a_pic_dn a_pic_oa a_pic_od a_pic_st a_crs_ow a_crs_pl a_crs_dt a_crs_ot a_enc_p pic_many pic_unitsAcross pic_unitsDown pic_blocks n_pic_co pic_co crs_kind crs_first crs_last crs_bits crs_interval crs_units crs_blocksOfUnit crs_laid cnt_total_j133 cnt_t_j133 enc_run_j133 enc_held_j133 enc_runTable enc_r) [(0, .ref a_enc), (1, .int p0), (4, .int v4_5), (7, .int v7_j133)] [.long s1_j133, .ref a_cnt] := by
        intro v7_j133 cnt_total_j133 cnt_t_j133 enc_run_j133 enc_held_j133 s1_j133 hf H locs ls hP hD hS hl
        unfold f_Encoder_sendOthers_cnt_J5_133 at hf
        refine lv_iload hx hb d_m624_133 (lv_at hl 3 rfl) ?_
        obtain ⟨z6, hz6, hf⟩ := ob_bind hf
        refine va_csv (g_run (va_runU (As := [.long s1_j133, .int v7_j133]) (rest := []) ⟨hx, hb, hml, hown, hts⟩ (c_Counter_putBits l dC dI cI cB cS cT a_cnt a_cnt_t cnt_total_j133 s1_j133 v7_j133 z6 hz6) (va_cwA (x := ({ cls := "ScanCoder$Sink", name := "putBits", desc := "(JI)V" } : Jvm.MethodName)) (owner := "ScanCoder$Sink") 2 hts (gu (tw_587) (tw_589) (tw_591) (tw_592) (tw_11) (gi tw_593 rfl)) rfl rfl rfl (gn_588 hKN.2) (by decide +kernel) ⟨Nat.le_of_ble_eq_true rfl, Nat.le_of_ble_eq_true rfl⟩) ⟨gp_blind, va_recv hK hP (ci := 3) (q0 := 3) rfl rfl, gp_at hKN (g_pm hP [3] rfl)⟩ rfl rfl hl.1 rfl (lv_room (Nat.le_of_ble_eq_true rfl)) d_m624_135 ⟨Nat.zero_le _, Nat.zero_le _⟩)) (fun _ => ?_)
        refine W.eq (g2 := F0 m 138 ls []) rfl ?_
        refine lv_iconst (v := (0 : Int32)) hx hb d_m624_138 (by decide) ?_
        refine lv_istore_n (lv' := [(3, .int (0 : Int32)), (0, .ref a_enc), (1, .int p0), (4, .int v4_5), (7, .int v7_j133)]) hx hb d_m624_139 rfl hl (by decide) rfl (fun ls hl => ?_)
        exact J5_140 (0 : Int32) cnt_total_j133 cnt_t_j133 enc_run_j133 enc_held_j133 hf H locs ls hP hD hS (lv_sub hl [1, 2, 0, 3] rfl)
      have hf : f_Encoder_sendOthers_cnt_L5b crs_last p0 n_pic_co pic_co crs_bits enc_runTable N (f_Encoder_sendOthers_cnt_L5 crs_last p0 n_pic_co pic_co crs_bits enc_runTable N k) v3_5 v4_5 cnt_total_5 cnt_t_5 enc_run_5 enc_held_5 = some z := hf
      unfold f_Encoder_sendOthers_cnt_L5b at hf
      refine lv_iload hx hb d_m624_5 (lv_at hl 3 rfl) ?_
      refine lv_aload_n hx hb d_m624_7 rfl (lv_at hl 0 rfl) ?_
      refine va_get (D := (dC, dI)) (ci := 7) (v := .ref a_crs) (C := "ScanCoder$Encoder") (T := T_7) (N := 8) hx hb hts n0 hown hK hP 5 rfl rfl 1 (by decide) k0 (fun _ h9 => h9) rfl d_m624_8 ?_
      refine va_get (D := (dC, dI)) (ci := 4) (v := .int crs_last) (C := "ScanCoder$Course") (T := T_4) (N := 13) hx hb hts n1 hown hK hP 2 rfl rfl 7 (by decide) k1 (fun _ h9 => h9) rfl d_m624_11 ?_
      refine lv_icmp_gt (tgt := 146) hx hb d_m624_14 (by decide) (fun hc => ?_) (fun hc => ?_)
      · replace hf := (if_pos hc).symm.trans hf
        obtain rfl := Option.some.inj hf
        exact hE0  H locs ls hP hD hS (lv_sub hl [0, 2] rfl)
      · replace hf := (if_neg hc).symm.trans hf
        refine lv_aload_n hx hb d_m624_17 rfl (lv_at hl 0 rfl) ?_
        refine va_get (D := (dC, dI)) (ci := 7) (v := .ref a_pic) (C := "ScanCoder$Encoder") (T := T_7) (N := 8) hx hb hts n0 hown hK hP 5 rfl rfl 0 (by decide) k2 (fun _ h9 => h9) rfl d_m624_18 ?_
        refine va_get (D := (dC, dI)) (ci := 8) (v := .ref a_pic_co) (C := "ScanCoder$Picture") (T := T_8) (N := 12) hx hb hts n2 hown hK hP 0 rfl rfl 11 (by decide) k3 (fun _ h9 => h9) rfl d_m624_21 ?_
        refine lv_iload_n hx hb d_m624_24 rfl (lv_at hl 1 rfl) ?_
        refine lv_iload hx hb d_m624_25 (lv_at hl 3 rfl) ?_
        refine lv_iadd hx hb d_m624_27 ?_
        obtain ⟨hi, hf⟩ := ob_if hf
        refine va_sald hx hb hK hP 1 2 rfl rfl hi d_m624_28 ?_
        refine lv_istore (lv' := [(5, .int (pic_co (p0 + v4_5).toNatClampNeg)), (0, .ref a_enc), (1, .int p0), (3, .int v3_5), (4, .int v4_5)]) hx hb d_m624_29 hl (by decide) rfl (fun ls hl => ?_)
        refine lv_iload hx hb d_m624_31 (lv_at hl 0 rfl) ?_
        refine va_mabs hx hb (by rw [hml]; exact hl.1.symm) hown k4 k5 k6 k7 (Nat.le_of_ble_eq_true rfl) (Nat.le_of_ble_eq_true rfl) (Nat.zero_le _) (Nat.zero_le _) d_m624_33 ?_
        refine lv_aload_n hx hb d_m624_36 rfl (lv_at hl 1 rfl) ?_
        refine va_get (D := (dC, dI)) (ci := 7) (v := .ref a_crs) (C := "ScanCoder$Encoder") (T := T_7) (N := 8) hx hb hts n0 hown hK hP 5 rfl rfl 1 (by decide) k0 (fun _ h9 => h9) rfl d_m624_37 ?_
        refine va_get (D := (dC, dI)) (ci := 4) (v := .int crs_bits) (C := "ScanCoder$Course") (T := T_4) (N := 13) hx hb hts n1 hown hK hP 2 rfl rfl 8 (by decide) k8 (fun _ h9 => h9) rfl d_m624_40 ?_
        refine lv_ishr hx hb d_m624_43 ?_
        refine lv_istore (lv' := [(6, .int ((if 0 ≤ (pic_co (p0 + v4_5).toNatClampNeg) then (pic_co (p0 + v4_5).toNatClampNeg) else 0 - (pic_co (p0 + v4_5).toNatClampNeg)) >>> (crs_bits &&& 31))), (5, .int (pic_co (p0 + v4_5).toNatClampNeg)), (0, .ref a_enc), (1, .int p0), (3, .int v3_5), (4, .int v4_5)]) hx hb d_m624_44 hl (by decide) rfl (fun ls hl => ?_)
        refine lv_iload hx hb d_m624_46 (lv_at hl 0 rfl) ?_
        refine lv_if_ne (tgt := 57) hx hb d_m624_48 (by decide) (fun hc => ?_) (fun hc => ?_)
        · replace hf := (if_neg hc).symm.trans hf
          refine lv_aload_n hx hb d_m624_57 rfl (lv_at hl 2 rfl) ?_
          obtain ⟨z1, hz1, hf⟩ := ob_bind hf
          refine g_callv (wc := (w_Encoder_sendRun_cnt cI cB cS cT a_cnt a_cnt_t a_enc a_enc_r a_pic a_crs a_enc_p cnt_total_5 cnt_t_5 enc_run_5 enc_held_5 enc_runTable enc_r)) (w1 := (w_Encoder_sendRun_cnt cI cB cS cT a_cnt a_cnt_t a_enc a_enc_r a_pic a_crs a_enc_p z1.1 z1.2.1 z1.2.2.1 z1.2.2.2 enc_runTable enc_r)) (w2 := (w_Encoder_sendOthers_cnt cI cB cS cT a_pic a_pic_co a_crs a_cnt a_cnt_t a_enc a_enc_r a_pic_h a_pic_v a_pic_ac a_pic_dn a_pic_oa a_pic_od a_pic_st a_crs_ow a_crs_pl a_crs_dt a_crs_ot a_enc_p pic_many pic_unitsAcross pic_unitsDown pic_blocks n_pic_co pic_co crs_kind crs_first crs_last crs_bits crs_interval crs_units crs_blocksOfUnit crs_laid z1.1 z1.2.1 z1.2.2.1 z1.2.2.2 enc_runTable enc_r)) [3, 4, 5, 6] [none, none, none, some 0, some 1, some 2, some 3] hP hD hS hA rfl rfl rfl rfl (va_runV (As := []) (rest := []) ⟨hx, hb, hml, hown, hts⟩ (c_Encoder_sendRun_cnt l dC dI cI cB cS cT N a_cnt a_cnt_t a_enc a_enc_r a_pic a_crs a_enc_p cnt_total_5 cnt_t_5 enc_run_5 enc_held_5 enc_runTable enc_r H.size z1 hz1) ⟨(callB_of 0 hts (gi tw_562 rfl) rfl rfl rfl (hts _ (List.mem_cons_of_mem _ tw_13)) (hts _ (List.mem_cons_of_mem _ tw_559)) (by decide +kernel) ⟨Nat.le_of_ble_eq_true rfl, Nat.le_of_ble_eq_true rfl⟩), hts _ (List.mem_cons_of_mem _ tw_561), hts _ (List.mem_cons_of_mem _ ts_m562)⟩ ⟨g_blind, va_recv hK hP (ci := 7) (q0 := 5) rfl rfl, g_at hKN (g_pm hP [3, 4, 5, 6] rfl) (hD.sub [3, 4, 5, 6] (by decide) rfl)⟩ rfl rfl hl.1 rfl (lv_room (Nat.le_of_ble_eq_true rfl)) d_m624_58 ⟨Nat.zero_le _, Nat.zero_le _⟩) (fun H locs hP hD hS => ?_)
          refine W.eq (g2 := F0 m 61 ls []) rfl ?_
          obtain ⟨z3, hz3, hf⟩ := ob_bind hf
          refine L61 (pic_co (p0 + v4_5).toNatClampNeg) ((if 0 ≤ (pic_co (p0 + v4_5).toNatClampNeg) then (pic_co (p0 + v4_5).toNatClampNeg) else 0 - (pic_co (p0 + v4_5).toNatClampNeg)) >>> (crs_bits &&& 31)) z1.2.2.1 z1.2.2.2 v4_5 z3 ?_ N v3_5 z1.1 z1.2.1 hz3 H locs ls hP hD hS (lv_sub hl [2, 3, 4, 5, 1, 0] rfl)
          · intro H locs ls hP hD hS hl
            refine lv_iload hx hb d_m624_87 (lv_at hl 5 rfl) ?_
            obtain ⟨z4, hz4, hf⟩ := ob_bind hf
            refine vp_callSi (g_run (va_runSN (As := [.int ((if 0 ≤ (pic_co (p0 + v4_5).toNatClampNeg) then (pic_co (p0 + v4_5).toNatClampNeg) else 0 - (pic_co (p0 + v4_5).toNatClampNeg)) >>> (crs_bits &&& 31))]) (rest := []) ⟨hx, hb, hml, hown, hts⟩ (c_SC_sizeOf l dC dI cI cB cS cT N ((if 0 ≤ (pic_co (p0 + v4_5).toNatClampNeg) then (pic_co (p0 + v4_5).toNatClampNeg) else 0 - (pic_co (p0 + v4_5).toNatClampNeg)) >>> (crs_bits &&& 31)) z4 hz4) ⟨(va_cnB 1 hts (gi tw_565 rfl) rfl rfl rfl (gn_563 hKN.2) (hts _ (List.mem_cons_of_mem _ tw_1)) (by decide +kernel) ⟨Nat.le_of_ble_eq_true rfl, Nat.le_of_ble_eq_true rfl⟩), hts _ (List.mem_cons_of_mem _ tw_564), trivial⟩ ⟨gp_blind, gp_at hKN (g_pm hP [] rfl)⟩ rfl rfl hl.1 rfl (lv_room (Nat.le_of_ble_eq_true rfl)) d_m624_89 ⟨Nat.zero_le _, Nat.zero_le _⟩)) (fun r hrz4 => ?_)
            have hrz4 := hrz4.symm
            subst hrz4
            refine W.eq (g2 := F0 m 92 ls [.int z4]) rfl ?_
            refine lv_istore (lv' := [(7, .int z4), (0, .ref a_enc), (1, .int p0), (3, .int z3.1), (4, .int v4_5), (5, .int (pic_co (p0 + v4_5).toNatClampNeg)), (6, .int ((if 0 ≤ (pic_co (p0 + v4_5).toNatClampNeg) then (pic_co (p0 + v4_5).toNatClampNeg) else 0 - (pic_co (p0 + v4_5).toNatClampNeg)) >>> (crs_bits &&& 31)))]) hx hb d_m624_92 hl (by decide) rfl (fun ls hl => ?_)
            refine lv_aload_n hx hb d_m624_94 rfl (lv_at hl 1 rfl) ?_
            refine va_get (D := (dC, dI)) (ci := 7) (v := .ref a_cnt) (C := "ScanCoder$Encoder") (T := T_7) (N := 8) hx hb hts n0 hown hK hP 5 rfl rfl 4 (by decide) k9 (fun _ h9 => h9) rfl d_m624_95 ?_
            refine lv_aload_n hx hb d_m624_98 rfl (lv_at hl 1 rfl) ?_
            refine va_get (D := (dC, dI)) (ci := 7) (v := .int enc_runTable) (C := "ScanCoder$Encoder") (T := T_7) (N := 8) hx hb hts n0 hown hK hP 5 rfl rfl 7 (by decide) k10 (fun _ h9 => h9) rfl d_m624_99 ?_
            refine lv_bipush (v := (16 : Int32)) hx hb d_m624_102 (by decide) ?_
            refine lv_iload_n hx hb d_m624_104 rfl (lv_at hl 3 rfl) ?_
            refine lv_imul hx hb d_m624_105 ?_
            refine lv_iload hx hb d_m624_106 (lv_at hl 0 rfl) ?_
            refine lv_iadd hx hb d_m624_108 ?_
            obtain ⟨z5, hz5, hf⟩ := ob_bind hf
            refine g_callv (wc := (w_Counter_putWord cI cB cS cT a_cnt a_cnt_t z3.2.1 z3.2.2)) (w1 := (w_Counter_putWord cI cB cS cT a_cnt a_cnt_t z5.1 z5.2)) (w2 := (w_Encoder_sendOthers_cnt cI cB cS cT a_pic a_pic_co a_crs a_cnt a_cnt_t a_enc a_enc_r a_pic_h a_pic_v a_pic_ac a_pic_dn a_pic_oa a_pic_od a_pic_st a_crs_ow a_crs_pl a_crs_dt a_crs_ot a_enc_p pic_many pic_unitsAcross pic_unitsDown pic_blocks n_pic_co pic_co crs_kind crs_first crs_last crs_bits crs_interval crs_units crs_blocksOfUnit crs_laid z5.1 z5.2 z1.2.2.1 z1.2.2.2 enc_runTable enc_r)) [3, 4] [none, none, none, some 0, some 1, none, none] hP hD hS hA rfl rfl rfl rfl (va_runU (As := [.int enc_runTable, .int (((16 : Int32) * z3.1) + z4)]) (rest := []) ⟨hx, hb, hml, hown, hts⟩ (c_Counter_putWord l dC dI cI cB cS cT a_cnt a_cnt_t z3.2.1 z3.2.2 enc_runTable (((16 : Int32) * z3.1) + z4) H.size z5 hz5) (va_cwA (x := ({ cls := "ScanCoder$Sink", name := "putWord", desc := "(II)V" } : Jvm.MethodName)) (owner := "ScanCoder$Sink") 2 hts (gu (tw_569) (tw_571) (tw_584) (tw_585) (tw_11) (gi tw_586 rfl)) rfl rfl rfl (gn_570 hKN.2) (by decide +kernel) ⟨Nat.le_of_ble_eq_true rfl, Nat.le_of_ble_eq_true rfl⟩) ⟨g_blind, va_recv hK hP (ci := 3) (q0 := 3) rfl rfl, g_at hKN (g_pm hP [3, 4] rfl) (hD.sub [3, 4] (by decide) rfl)⟩ rfl rfl hl.1 rfl (lv_room (Nat.le_of_ble_eq_true rfl)) d_m624_109 ⟨Nat.zero_le _, Nat.zero_le _⟩) (fun H locs hP hD hS => ?_)
            refine W.eq (g2 := F0 m 112 ls []) rfl ?_
            refine lv_aload_n hx hb d_m624_112 rfl (lv_at hl 1 rfl) ?_
            refine va_get (D := (dC, dI)) (ci := 7) (v := .ref a_cnt) (C := "ScanCoder$Encoder") (T := T_7) (N := 8) hx hb hts n0 hown hK hP 5 rfl rfl 4 (by decide) k9 (fun _ h9 => h9) rfl d_m624_113 ?_
            refine lv_iload hx hb d_m624_116 (lv_at hl 5 rfl) ?_
            refine lv_if_le (tgt := 127) hx hb d_m624_118 (by decide) (fun hc => ?_) (fun hc => ?_)
            · replace hf := (if_pos hc).symm.trans hf
              refine lv_iload hx hb d_m624_127 (lv_at hl 6 rfl) ?_
              refine lv_ineg hx hb d_m624_129 ?_
              refine lv_iconst (v := (1 : Int32)) hx hb d_m624_130 (by decide) ?_
              refine lv_isub hx hb d_m624_131 ?_
              refine lv_i2l hx hb d_m624_132 rfl ?_
              exact J5_133 z4 z5.1 z5.2 z1.2.2.1 z1.2.2.2 (((-((if 0 ≤ (pic_co (p0 + v4_5).toNatClampNeg) then (pic_co (p0 + v4_5).toNatClampNeg) else 0 - (pic_co (p0 + v4_5).toNatClampNeg)) >>> (crs_bits &&& 31))) - (1 : Int32)).toInt64) hf H locs ls hP hD hS (lv_sub hl [1, 2, 4, 0] rfl)
            · replace hf := (if_neg hc).symm.trans hf
              refine lv_iload hx hb d_m624_121 (lv_at hl 6 rfl) ?_
              refine lv_i2l hx hb d_m624_123 rfl ?_
              refine lv_goto (tgt := 133) hx hb d_m624_124 (by decide) ?_
              exact J5_133 z4 z5.1 z5.2 z1.2.2.1 z1.2.2.2 (((if 0 ≤ (pic_co (p0 + v4_5).toNatClampNeg) then (pic_co (p0 + v4_5).toNatClampNeg) else 0 - (pic_co (p0 + v4_5).toNatClampNeg)) >>> (crs_bits &&& 31)).toInt64) hf H locs ls hP hD hS (lv_sub hl [1, 2, 4, 0] rfl)
        · replace hf := (if_pos hc).symm.trans hf
          refine lv_iinc (v := v3_5 + (1 : Int32)) (lv' := [(3, .int (v3_5 + (1 : Int32))), (6, .int ((if 0 ≤ (pic_co (p0 + v4_5).toNatClampNeg) then (pic_co (p0 + v4_5).toNatClampNeg) else 0 - (pic_co (p0 + v4_5).toNatClampNeg)) >>> (crs_bits &&& 31))), (5, .int (pic_co (p0 + v4_5).toNatClampNeg)), (0, .ref a_enc), (1, .int p0), (4, .int v4_5)]) hx hb d_m624_51 hl (k := 4) rfl rfl (by decide) rfl (fun ls hl => ?_)
          refine lv_goto (tgt := 140) hx hb d_m624_54 (by decide) ?_
          exact J5_140 (v3_5 + (1 : Int32)) cnt_total_5 cnt_t_5 enc_run_5 enc_held_5 hf H locs ls hP hD hS (lv_sub hl [3, 4, 0, 5] rfl)
  have J175 : ∀ (v3_j175 : Int32) (cnt_total_j175 : Int32) (cnt_t_j175 : Nat → Int32) (enc_run_j175 : Int32) (enc_held_j175 : Int32), f_Encoder_sendOthers_cnt_J175 N v3_j175 cnt_total_j175 cnt_t_j175 enc_run_j175 enc_held_j175 enc_r = some z → GW (dC, dI) A p l e (headSpec ws_m624 rm_Encoder_sendOthers_cnt).room s m args below meth c 0 0 Q 8 175 (w_Encoder_sendOthers_cnt cI cB cS cT a_pic a_pic_co a_crs a_cnt a_cnt_t a_enc a_enc_r a_pic_h a_pic_v a_pic_ac a_pic_dn a_pic_oa a_pic_od a_pic_st a_crs_ow a_crs_pl a_crs_dt a_crs_ot a_enc_p pic_many pic_unitsAcross pic_unitsDown pic_blocks n_pic_co pic_co crs_kind crs_first crs_last crs_bits crs_interval crs_units crs_blocksOfUnit crs_laid cnt_total_j175 cnt_t_j175 enc_run_j175 enc_held_j175 enc_runTable enc_r) [(0, .ref a_enc), (3, .int v3_j175)] [] := by
    intro v3_j175 cnt_total_j175 cnt_t_j175 enc_run_j175 enc_held_j175 hf H locs ls hP hD hS hl
    unfold f_Encoder_sendOthers_cnt_J175 at hf
    refine lv_iload_n hx hb d_m624_175 rfl (lv_at hl 1 rfl) ?_
    refine lv_if_le (tgt := 185) hx hb d_m624_176 (by decide) (fun hc => ?_) (fun hc => ?_)
    · replace hf := (if_pos hc).symm.trans hf
      obtain rfl := Option.some.inj hf
      subst hQ
      subst hAe
      exact W.vret hx hb hr (fun t ht hW => ⟨⟨(), rfl, trivial, by rw [ht]; exact hP, hD⟩, hS.F ht⟩) hS.2.2 d_m624_185
    · replace hf := (if_neg hc).symm.trans hf
      refine lv_aload_n hx hb d_m624_179 rfl (lv_at hl 0 rfl) ?_
      refine lv_lconst (v := (0 : Int64)) hx hb d_m624_180 (by decide) ?_
      refine lv_iconst (v := (0 : Int32)) hx hb d_m624_181 (by decide) ?_
      obtain ⟨z8, hz8, hf⟩ := ob_bind hf
      refine g_callv (wc := (w_Encoder_lengthenRun_cnt cI cB cS cT a_enc a_enc_r a_pic a_crs a_enc_p a_cnt enc_run_j175 enc_held_j175 enc_runTable enc_r)) (w1 := (w_Encoder_lengthenRun_cnt cI cB cS cT a_enc a_enc_r a_pic a_crs a_enc_p a_cnt z8.1 z8.2.1 enc_runTable z8.2.2)) (w2 := (w_Encoder_sendOthers_cnt cI cB cS cT a_pic a_pic_co a_crs a_cnt a_cnt_t a_enc a_enc_r a_pic_h a_pic_v a_pic_ac a_pic_dn a_pic_oa a_pic_od a_pic_st a_crs_ow a_crs_pl a_crs_dt a_crs_ot a_enc_p pic_many pic_unitsAcross pic_unitsDown pic_blocks n_pic_co pic_co crs_kind crs_first crs_last crs_bits crs_interval crs_units crs_blocksOfUnit crs_laid cnt_total_j175 cnt_t_j175 z8.1 z8.2.1 enc_runTable z8.2.2)) [5, 6] [none, none, none, none, none, some 0, some 1] hP hD hS hA rfl rfl rfl rfl (va_runV (As := [.long (0 : Int64), .int (0 : Int32)]) (rest := []) ⟨hx, hb, hml, hown, hts⟩ (c_Encoder_lengthenRun_cnt l dC dI cI cB cS cT N a_enc a_enc_r a_pic a_crs a_enc_p a_cnt enc_run_j175 enc_held_j175 enc_runTable enc_r (0 : Int64) (0 : Int32) H.size z8 hz8) ⟨(callB_of 2 hts (gi tw_629 rfl) rfl rfl rfl (hts _ (List.mem_cons_of_mem _ tw_13)) (hts _ (List.mem_cons_of_mem _ tw_626)) (by decide +kernel) ⟨Nat.le_of_ble_eq_true rfl, Nat.le_of_ble_eq_true rfl⟩), hts _ (List.mem_cons_of_mem _ tw_628), hts _ (List.mem_cons_of_mem _ ts_m629)⟩ ⟨g_blind, va_recv hK hP (ci := 7) (q0 := 5) rfl rfl, g_at hKN (g_pm hP [5, 6] rfl) (hD.sub [5, 6] (by decide) rfl)⟩ rfl rfl hl.1 rfl (lv_room (Nat.le_of_ble_eq_true rfl)) d_m624_182 ⟨Nat.zero_le _, Nat.zero_le _⟩) (fun H locs hP hD hS => ?_)
      refine W.eq (g2 := F0 m 185 ls []) rfl ?_
      obtain rfl := Option.some.inj hf
      subst hQ
      subst hAe
      exact W.vret hx hb hr (fun t ht hW => ⟨⟨(), rfl, trivial, by rw [ht]; exact hP, hD⟩, hS.F ht⟩) hS.2.2 d_m624_185
  have hgo : ∀ (H : Heap) (locs : List Loc), va_P (dC, dI) vwCl (w_Encoder_sendOthers_cnt cI cB cS cT a_pic a_pic_co a_crs a_cnt a_cnt_t a_enc a_enc_r a_pic_h a_pic_v a_pic_ac a_pic_dn a_pic_oa a_pic_od a_pic_st a_crs_ow a_crs_pl a_crs_dt a_crs_ot a_enc_p pic_many pic_unitsAcross pic_unitsDown pic_blocks n_pic_co pic_co crs_kind crs_first crs_last crs_bits crs_interval crs_units crs_blocksOfUnit crs_laid cnt_total cnt_t enc_run enc_held enc_runTable enc_r) H → va_S A s.heap H locs → W p l e (headSpec ws_m624 rm_Encoder_sendOthers_cnt).room s m args below meth c H locs 0 0 Q (F0 m 0 ls []) := by
    intro H locs hP hS
    unfold f_Encoder_sendOthers_cnt at hf
    refine lv_iconst (v := (0 : Int32)) hx hb d_m624_0 (by decide) ?_
    refine lv_istore_n (lv' := [(3, .int (0 : Int32)), (0, .ref a_enc), (1, .int p0), (2, .int p1)]) hx hb d_m624_1 rfl hl (by decide) rfl (fun ls hl => ?_)
    refine lv_iload_n hx hb d_m624_2 rfl (lv_at hl 3 rfl) ?_
    refine lv_istore (lv' := [(4, .int p1), (3, .int (0 : Int32)), (0, .ref a_enc), (1, .int p0), (2, .int p1)]) hx hb d_m624_3 hl (by decide) rfl (fun ls hl => ?_)
    obtain ⟨z7, hz7, hf⟩ := ob_bind hf
    refine L5  z7 ?_ N (0 : Int32) p1 cnt_total cnt_t enc_run enc_held hz7 H locs ls hP hD hS (lv_sub hl [2, 3, 1, 0] rfl)
    · intro H locs ls hP hD hS hl
      refine lv_iload_n hx hb d_m624_146 rfl (lv_at hl 1 rfl) ?_
      refine lv_if_le (tgt := 175) hx hb d_m624_147 (by decide) (fun hc => ?_) (fun hc => ?_)
      · replace hf := (if_pos hc).symm.trans hf
        exact J175 z7.1 z7.2.1 z7.2.2.1 z7.2.2.2.1 z7.2.2.2.2 hf H locs ls hP hD hS hl
      · replace hf := (if_neg hc).symm.trans hf
        refine lv_aload_n hx hb d_m624_150 rfl (lv_at hl 0 rfl) ?_
        refine va_get (D := (dC, dI)) (ci := 7) (v := .ref a_crs) (C := "ScanCoder$Encoder") (T := T_7) (N := 8) hx hb hts n0 hown hK hP 5 rfl rfl 1 (by decide) k0 (fun _ h9 => h9) rfl d_m624_151 ?_
        refine va_get (D := (dC, dI)) (ci := 4) (v := .int crs_kind) (C := "ScanCoder$Course") (T := T_4) (N := 13) hx hb hts n1 hown hK hP 2 rfl rfl 5 (by decide) k11 (fun _ h9 => h9) rfl d_m624_154 ?_
        refine lv_if_ne (tgt := 175) hx hb d_m624_157 (by decide) (fun hc => ?_) (fun hc => ?_)
        · replace hf := (if_neg hc).symm.trans hf
          exact J175 z7.1 z7.2.1 z7.2.2.1 z7.2.2.2.1 z7.2.2.2.2 hf H locs ls hP hD hS hl
        · replace hf := (if_pos hc).symm.trans hf
          refine lv_aload_n hx hb d_m624_160 rfl (lv_at hl 0 rfl) ?_
          refine va_get (D := (dC, dI)) (ci := 7) (v := .ref a_cnt) (C := "ScanCoder$Encoder") (T := T_7) (N := 8) hx hb hts n0 hown hK hP 5 rfl rfl 4 (by decide) k9 (fun _ h9 => h9) rfl d_m624_161 ?_
          refine lv_aload_n hx hb d_m624_164 rfl (lv_at hl 0 rfl) ?_
          refine va_get (D := (dC, dI)) (ci := 7) (v := .int enc_runTable) (C := "ScanCoder$Encoder") (T := T_7) (N := 8) hx hb hts n0 hown hK hP 5 rfl rfl 7 (by decide) k10 (fun _ h9 => h9) rfl d_m624_165 ?_
          refine lv_iconst (v := (0 : Int32)) hx hb d_m624_168 (by decide) ?_
          obtain ⟨z9, hz9, hf⟩ := ob_bind hf
          refine g_callv (wc := (w_Counter_putWord cI cB cS cT a_cnt a_cnt_t z7.2.1 z7.2.2.1)) (w1 := (w_Counter_putWord cI cB cS cT a_cnt a_cnt_t z9.1 z9.2)) (w2 := (w_Encoder_sendOthers_cnt cI cB cS cT a_pic a_pic_co a_crs a_cnt a_cnt_t a_enc a_enc_r a_pic_h a_pic_v a_pic_ac a_pic_dn a_pic_oa a_pic_od a_pic_st a_crs_ow a_crs_pl a_crs_dt a_crs_ot a_enc_p pic_many pic_unitsAcross pic_unitsDown pic_blocks n_pic_co pic_co crs_kind crs_first crs_last crs_bits crs_interval crs_units crs_blocksOfUnit crs_laid z9.1 z9.2 z7.2.2.2.1 z7.2.2.2.2 enc_runTable enc_r)) [3, 4] [none, none, none, some 0, some 1, none, none] hP hD hS hA rfl rfl rfl rfl (va_runU (As := [.int enc_runTable, .int (0 : Int32)]) (rest := []) ⟨hx, hb, hml, hown, hts⟩ (c_Counter_putWord l dC dI cI cB cS cT a_cnt a_cnt_t z7.2.1 z7.2.2.1 enc_runTable (0 : Int32) H.size z9 hz9) (va_cwA (x := ({ cls := "ScanCoder$Sink", name := "putWord", desc := "(II)V" } : Jvm.MethodName)) (owner := "ScanCoder$Sink") 2 hts (gu (tw_569) (tw_571) (tw_584) (tw_585) (tw_11) (gi tw_586 rfl)) rfl rfl rfl (gn_570 hKN.2) (by decide +kernel) ⟨Nat.le_of_ble_eq_true rfl, Nat.le_of_ble_eq_true rfl⟩) ⟨g_blind, va_recv hK hP (ci := 3) (q0 := 3) rfl rfl, g_at hKN (g_pm hP [3, 4] rfl) (hD.sub [3, 4] (by decide) rfl)⟩ rfl rfl hl.1 rfl (lv_room (Nat.le_of_ble_eq_true rfl)) d_m624_169 ⟨Nat.zero_le _, Nat.zero_le _⟩) (fun H locs hP hD hS => ?_)
          refine W.eq (g2 := F0 m 172 ls []) rfl ?_
          refine lv_goto (tgt := 185) hx hb d_m624_172 (by decide) ?_
          obtain rfl := Option.some.inj hf
          subst hQ
          subst hAe
          exact W.vret hx hb hr (fun t ht hW => ⟨⟨(), rfl, trivial, by rw [ht]; exact hP, hD⟩, hS.F ht⟩) hS.2.2 d_m624_185
  exact hgo _ _ hP hS
def f_Encoder_refineOthers_cnt_L75b (v2_23 : Int32) (v7_23 : Int32) (enc_runTable : Int32) (N : Nat) (rec : (Int32 × Int32 × Int32 × (Nat → Int32) × Int32 × Int32) → Option (Int32 × Int32 × Int32 × (Nat → Int32) × Int32 × Int32)) (v3_75 : Int32) (v6_75 : Int32) (cnt_total_75 : Int32) (cnt_t_75 : Nat → Int32) (enc_run_75 : Int32) (enc_held_75 : Int32) : Option (Int32 × Int32 × Int32 × (Nat → Int32) × Int32 × Int32) :=
  if v3_75 ≤ (15 : Int32) then
    some (v3_75, v6_75, cnt_total_75, cnt_t_75, enc_run_75, enc_held_75)
  else
    if v2_23 < v7_23 then
      some (v3_75, v6_75, cnt_total_75, cnt_t_75, enc_run_75, enc_held_75)
    else
      (f_Encoder_sendRun_cnt N cnt_total_75 cnt_t_75 enc_run_75 enc_held_75 enc_runTable).bind fun z2 =>
      (f_Counter_putWord enc_runTable (240 : Int32) z2.1 z2.2.1).bind fun z3 =>
      (f_Counter_putBits ).bind fun z4 =>
      rec (v3_75 + (-16 : Int32), (0 : Int32), z3.1, z3.2, z2.2.2.1, z2.2.2.2)
def f_Encoder_refineOthers_cnt_L75 (v2_23 : Int32) (v7_23 : Int32) (enc_runTable : Int32) (N : Nat) (k : Nat) : (Int32 × Int32 × Int32 × (Nat → Int32) × Int32 × Int32) → Option (Int32 × Int32 × Int32 × (Nat → Int32) × Int32 × Int32) := it (fun rec a => f_Encoder_refineOthers_cnt_L75b v2_23 v7_23 enc_runTable N rec a.1 a.2.1 a.2.2.1 a.2.2.2.1 a.2.2.2.2.1 a.2.2.2.2.2) k
def f_Encoder_refineOthers_cnt_J23_204 (N : Nat) (rec : (Int32 × Int64 × Int32 × Int32 × Int32 × (Nat → Int32) × Int32 × Int32) → Option (Int32 × Int64 × Int32 × Int32 × (Nat → Int32) × Int32 × Int32)) (v3_j204 : Int32) (v4_j204 : Int64) (v6_j204 : Int32) (v7_23 : Int32) (cnt_total_j204 : Int32) (cnt_t_j204 : Nat → Int32) (enc_run_j204 : Int32) (enc_held_j204 : Int32) : Option (Int32 × Int64 × Int32 × Int32 × (Nat → Int32) × Int32 × Int32) :=
  rec (v3_j204, v4_j204, v6_j204, v7_23 + (1 : Int32), cnt_total_j204, cnt_t_j204, enc_run_j204, enc_held_j204)
def f_Encoder_refineOthers_cnt_J23_184 (N : Nat) (rec : (Int32 × Int64 × Int32 × Int32 × Int32 × (Nat → Int32) × Int32 × Int32) → Option (Int32 × Int64 × Int32 × Int32 × (Nat → Int32) × Int32 × Int32)) (v4_23 : Int64) (v7_23 : Int32) (cnt_total_j184 : Int32) (cnt_t_j184 : Nat → Int32) (enc_run_j184 : Int32) (enc_held_j184 : Int32) : Option (Int32 × Int64 × Int32 × Int32 × (Nat → Int32) × Int32 × Int32) :=
  (f_Counter_putBits ).bind fun z8 =>
  (f_Counter_putBits ).bind fun z9 =>
  f_Encoder_refineOthers_cnt_J23_204 N rec (0 : Int32) v4_23 (0 : Int32) v7_23 cnt_total_j184 cnt_t_j184 enc_run_j184 enc_held_j184
def f_Encoder_refineOthers_cnt_J23_125 (N : Nat) (rec : (Int32 × Int64 × Int32 × Int32 × Int32 × (Nat → Int32) × Int32 × Int32) → Option (Int32 × Int64 × Int32 × Int32 × (Nat → Int32) × Int32 × Int32)) (v9_j125 : Int32) (cnt_total_j125 : Int32) (cnt_t_j125 : Nat → Int32) (enc_run_j125 : Int32) (enc_held_j125 : Int32) (enc_runTable : Int32) (v3_j125 : Int32) (v8_j125 : Int32) (v4_23 : Int64) (v7_23 : Int32) (v6_j125 : Int32) : Option (Int32 × Int64 × Int32 × Int32 × (Nat → Int32) × Int32 × Int32) :=
  if v9_j125 ≤ (1 : Int32) then
    (f_Encoder_sendRun_cnt N cnt_total_j125 cnt_t_j125 enc_run_j125 enc_held_j125 enc_runTable).bind fun z6 =>
    (f_Counter_putWord enc_runTable (((16 : Int32) * v3_j125) + (1 : Int32)) z6.1 z6.2.1).bind fun z7 =>
    if 0 ≤ v8_j125 then
      f_Encoder_refineOthers_cnt_J23_184 N rec v4_23 v7_23 z7.1 z7.2 z6.2.2.1 z6.2.2.2
    else
      f_Encoder_refineOthers_cnt_J23_184 N rec v4_23 v7_23 z7.1 z7.2 z6.2.2.1 z6.2.2.2
  else
    f_Encoder_refineOthers_cnt_J23_204 N rec v3_j125 ((v4_23 <<< ((1 : Int32).toInt64 &&& 63)) ||| ((v9_j125 &&& (1 : Int32)).toInt64)) (v6_j125 + (1 : Int32)) v7_23 cnt_total_j125 cnt_t_j125 enc_run_j125 enc_held_j125
def f_Encoder_refineOthers_cnt_L23b (crs_last : Int32) (p0 : Int32) (n_pic_co : Nat) (pic_co : Nat → Int32) (crs_bits : Int32) (v2_23 : Int32) (enc_runTable : Int32) (N : Nat) (rec : (Int32 × Int64 × Int32 × Int32 × Int32 × (Nat → Int32) × Int32 × Int32) → Option (Int32 × Int64 × Int32 × Int32 × (Nat → Int32) × Int32 × Int32)) (v3_23 : Int32) (v4_23 : Int64) (v6_23 : Int32) (v7_23 : Int32) (cnt_total_23 : Int32) (cnt_t_23 : Nat → Int32) (enc_run_23 : Int32) (enc_held_23 : Int32) : Option (Int32 × Int64 × Int32 × Int32 × (Nat → Int32) × Int32 × Int32) :=
  if crs_last < v7_23 then
    some (v3_23, v4_23, v6_23, cnt_total_23, cnt_t_23, enc_run_23, enc_held_23)
  else
    if (p0 + v7_23) < 0 ∨ n_pic_co ≤ (p0 + v7_23).toNatClampNeg then none else
    if ((if 0 ≤ (pic_co (p0 + v7_23).toNatClampNeg) then (pic_co (p0 + v7_23).toNatClampNeg) else 0 - (pic_co (p0 + v7_23).toNatClampNeg)) >>> (crs_bits &&& 31)) = 0 then
      f_Encoder_refineOthers_cnt_J23_204 N rec (v3_23 + (1 : Int32)) v4_23 v6_23 v7_23 cnt_total_23 cnt_t_23 enc_run_23 enc_held_23
    else
      (f_Encoder_refineOthers_cnt_L75 v2_23 v7_23 enc_runTable N N (v3_23, v6_23, cnt_total_23, cnt_t_23, enc_run_23, enc_held_23)).bind fun z5 =>
        f_Encoder_refineOthers_cnt_J23_125 N rec ((if 0 ≤ (pic_co (p0 + v7_23).toNatClampNeg) then (pic_co (p0 + v7_23).toNatClampNeg) else 0 - (pic_co (p0 + v7_23).toNatClampNeg)) >>> (crs_bits &&& 31)) z5.2.2.1 z5.2.2.2.1 z5.2.2.2.2.1 z5.2.2.2.2.2 enc_runTable z5.1 (pic_co (p0 + v7_23).toNatClampNeg) v4_23 v7_23 z5.2.1
def f_Encoder_refineOthers_cnt_L23 (crs_last : Int32) (p0 : Int32) (n_pic_co : Nat) (pic_co : Nat → Int32) (crs_bits : Int32) (v2_23 : Int32) (enc_runTable : Int32) (N : Nat) (k : Nat) : (Int32 × Int64 × Int32 × Int32 × Int32 × (Nat → Int32) × Int32 × Int32) → Option (Int32 × Int64 × Int32 × Int32 × (Nat → Int32) × Int32 × Int32) := it (fun rec a => f_Encoder_refineOthers_cnt_L23b crs_last p0 n_pic_co pic_co crs_bits v2_23 enc_runTable N rec a.1 a.2.1 a.2.2.1 a.2.2.2.1 a.2.2.2.2.1 a.2.2.2.2.2.1 a.2.2.2.2.2.2.1 a.2.2.2.2.2.2.2) k
def f_Encoder_refineOthers_cnt_J219 (N : Nat) (v4_j219 : Int64) (v6_j219 : Int32) (enc_run_j219 : Int32) (enc_held_j219 : Int32) (enc_r : Nat → Int32) (cnt_total_j219 : Int32) (cnt_t_j219 : Nat → Int32) : Option (Int32 × (Nat → Int32) × Int32 × Int32 × (Nat → Int32)) :=
  (f_Encoder_lengthenRun_cnt N v4_j219 v6_j219 enc_run_j219 enc_held_j219 enc_r).bind fun z11 =>
  some (cnt_total_j219, cnt_t_j219, z11.1, z11.2.1, z11.2.2)
def f_Encoder_refineOthers_cnt (N : Nat) (p0 : Int32) (n_pic_co : Nat) (pic_co : Nat → Int32) (crs_first : Int32) (crs_last : Int32) (crs_bits : Int32) (cnt_total : Int32) (cnt_t : Nat → Int32) (enc_run : Int32) (enc_held : Int32) (enc_runTable : Int32) (enc_r : Nat → Int32) : Option (Int32 × (Nat → Int32) × Int32 × Int32 × (Nat → Int32)) :=
  (f_Encoder_lastNewOne_cnt N p0 n_pic_co pic_co crs_first crs_last crs_bits).bind fun z1 =>
  (f_Encoder_refineOthers_cnt_L23 crs_last p0 n_pic_co pic_co crs_bits z1 enc_runTable N N ((0 : Int32), (0 : Int64), (0 : Int32), crs_first, cnt_total, cnt_t, enc_run, enc_held)).bind fun z10 =>
    if 0 < z10.1 then
    f_Encoder_refineOthers_cnt_J219 N z10.2.1 z10.2.2.1 z10.2.2.2.2.2.1 z10.2.2.2.2.2.2 enc_r z10.2.2.2.1 z10.2.2.2.2.1
  else
    if z10.2.2.1 ≤ 0 then
      some (z10.2.2.2.1, z10.2.2.2.2.1, z10.2.2.2.2.2.1, z10.2.2.2.2.2.2, enc_r)
    else
      f_Encoder_refineOthers_cnt_J219 N z10.2.1 z10.2.2.1 z10.2.2.2.2.2.1 z10.2.2.2.2.2.2 enc_r z10.2.2.2.1 z10.2.2.2.2.1
abbrev w_Encoder_refineOthers_cnt (cI cB cS cT : ClassId) (a_pic : Nat) (a_pic_co : Nat) (a_crs : Nat) (a_cnt : Nat) (a_cnt_t : Nat) (a_enc : Nat) (a_enc_r : Nat) (a_pic_h : Nat) (a_pic_v : Nat) (a_pic_ac : Nat) (a_pic_dn : Nat) (a_pic_oa : Nat) (a_pic_od : Nat) (a_pic_st : Nat) (a_crs_ow : Nat) (a_crs_pl : Nat) (a_crs_dt : Nat) (a_crs_ot : Nat) (a_enc_p : Nat) (pic_many : Int32) (pic_unitsAcross : Int32) (pic_unitsDown : Int32) (pic_blocks : Int32) (n_pic_co : Nat) (pic_co : Nat → Int32) (crs_kind : Int32) (crs_first : Int32) (crs_last : Int32) (crs_bits : Int32) (crs_interval : Int32) (crs_units : Int32) (crs_blocksOfUnit : Int32) (crs_laid : Int32) (cnt_total : Int32) (cnt_t : Nat → Int32) (enc_run : Int32) (enc_held : Int32) (enc_runTable : Int32) (enc_r : Nat → Int32) : va_W := [(a_pic, .inr (8, [.ref a_pic_h, .ref a_pic_v, .ref a_pic_ac, .ref a_pic_dn, .ref a_pic_oa, .ref a_pic_od, .ref a_pic_st, .int pic_many, .int pic_unitsAcross, .int pic_unitsDown, .int pic_blocks, .ref a_pic_co])), (a_pic_co, .inl (cS, n_pic_co, .inl pic_co)), (a_crs, .inr (4, [.ref a_pic, .ref a_crs_ow, .ref a_crs_pl, .ref a_crs_dt, .ref a_crs_ot, .int crs_kind, .int crs_first, .int crs_last, .int crs_bits, .int crs_interval, .int crs_units, .int crs_blocksOfUnit, .int crs_laid])), (a_cnt, .inr (3, [.ref a_cnt_t, .int cnt_total])), (a_cnt_t, .inl (cI, 2048, .inl cnt_t)), (a_enc, .inr (7, [.ref a_pic, .ref a_crs, .ref a_enc_p, .ref a_enc_r, .ref a_cnt, .int enc_run, .int enc_held, .int enc_runTable])), (a_enc_r, .inl (cB, 964, .inl enc_r))]
def rm_Encoder_refineOthers_cnt : Room := { frames := 3, cells := 0, slots := 0, locals := 65 }
set_option maxHeartbeats 1000000 in
set_option maxRecDepth 100000 in
theorem c_Encoder_refineOthers_cnt (l : Launch) (dC : Nat → ClassId) (dI : Nat → Nat → Nat) (cI cB cS cT : ClassId) (N : Nat) (a_pic : Nat) (a_pic_co : Nat) (a_crs : Nat) (a_cnt : Nat) (a_cnt_t : Nat) (a_enc : Nat) (a_enc_r : Nat) (a_pic_h : Nat) (a_pic_v : Nat) (a_pic_ac : Nat) (a_pic_dn : Nat) (a_pic_oa : Nat) (a_pic_od : Nat) (a_pic_st : Nat) (a_crs_ow : Nat) (a_crs_pl : Nat) (a_crs_dt : Nat) (a_crs_ot : Nat) (a_enc_p : Nat) (pic_many : Int32) (pic_unitsAcross : Int32) (pic_unitsDown : Int32) (pic_blocks : Int32) (n_pic_co : Nat) (pic_co : Nat → Int32) (crs_kind : Int32) (crs_first : Int32) (crs_last : Int32) (crs_bits : Int32) (crs_interval : Int32) (crs_units : Int32) (crs_blocksOfUnit : Int32) (crs_laid : Int32) (cnt_total : Int32) (cnt_t : Nat → Int32) (enc_run : Int32) (enc_held : Int32) (enc_runTable : Int32) (enc_r : Nat → Int32) (p0 : Int32) (sz : Nat) (z : Int32 × (Nat → Int32) × Int32 × Int32 × (Nat → Int32)) (hf : f_Encoder_refineOthers_cnt N p0 n_pic_co pic_co crs_first crs_last crs_bits cnt_total cnt_t enc_run enc_held enc_runTable enc_r = some z) : Met l y_m633 ws_m633 rm_Encoder_refineOthers_cnt (gPre (dC, dI) [.ref a_enc, .int p0] (gT cI cB cS cT) (w_Encoder_refineOthers_cnt cI cB cS cT a_pic a_pic_co a_crs a_cnt a_cnt_t a_enc a_enc_r a_pic_h a_pic_v a_pic_ac a_pic_dn a_pic_oa a_pic_od a_pic_st a_crs_ow a_crs_pl a_crs_dt a_crs_ot a_enc_p pic_many pic_unitsAcross pic_unitsDown pic_blocks n_pic_co pic_co crs_kind crs_first crs_last crs_bits crs_interval crs_units crs_blocksOfUnit crs_laid cnt_total cnt_t enc_run enc_held enc_runTable enc_r) sz) (gQv (dC, dI) (gT cI cB cS cT) (w_Encoder_refineOthers_cnt cI cB cS cT a_pic a_pic_co a_crs a_cnt a_cnt_t a_enc a_enc_r a_pic_h a_pic_v a_pic_ac a_pic_dn a_pic_oa a_pic_od a_pic_st a_crs_ow a_crs_pl a_crs_dt a_crs_ot a_enc_p pic_many pic_unitsAcross pic_unitsDown pic_blocks n_pic_co pic_co crs_kind crs_first crs_last crs_bits crs_interval crs_units crs_blocksOfUnit crs_laid cnt_total cnt_t enc_run enc_held enc_runTable enc_r) (w_Encoder_refineOthers_cnt cI cB cS cT a_pic a_pic_co a_crs a_cnt a_cnt_t a_enc a_enc_r a_pic_h a_pic_v a_pic_ac a_pic_dn a_pic_oa a_pic_od a_pic_st a_crs_ow a_crs_pl a_crs_dt a_crs_ot a_enc_p pic_many pic_unitsAcross pic_unitsDown pic_blocks n_pic_co pic_co crs_kind crs_first crs_last crs_bits crs_interval crs_units crs_blocksOfUnit crs_laid z.1 z.2.1 z.2.2.1 z.2.2.2.1 enc_runTable z.2.2.2.2) sz) 0 0 (va_A (w_Encoder_refineOthers_cnt cI cB cS cT a_pic a_pic_co a_crs a_cnt a_cnt_t a_enc a_enc_r a_pic_h a_pic_v a_pic_ac a_pic_dn a_pic_oa a_pic_od a_pic_st a_crs_ow a_crs_pl a_crs_dt a_crs_ot a_enc_p pic_many pic_unitsAcross pic_unitsDown pic_blocks n_pic_co pic_co crs_kind crs_first crs_last crs_bits crs_interval crs_units crs_blocksOfUnit crs_laid cnt_total cnt_t enc_run enc_held enc_runTable enc_r) sz) := by
  refine Met.ofW (cc := prog_8_method_7_code) (maxL := 10) (ret := none) (by decide) rfl ?_
  intro p e s m args below meth c s₁ B hml hv
  obtain ⟨hargs, hsz, hP, hKN, hD0⟩ := hv
  have hK := hKN.1
  have hx := B.exec
  have hb := B.bytes
  have hr := B.returns
  have hts := atoms_spec (ws := ws_m633) B.pre
  have hown : s.vm.findClass "ScanCoder$Encoder" = some m.cls := findClass_of_methodNamed B.named
  have hlocks := B.notSynchronized
  have k0 := hts _ (List.mem_cons_of_mem _ tw_344)
  have k1 := hts _ (List.mem_cons_of_mem _ tw_175)
  have k2 := hts _ (List.mem_cons_of_mem _ tw_179)
  have k3 := hts _ (List.mem_cons_of_mem _ tw_343)
  have k4 := hts _ (List.mem_cons_of_mem _ tw_80)
  have k5 := hts _ (List.mem_cons_of_mem _ tw_625)
  have k6 := hts _ (List.mem_cons_of_mem _ tw_567)
  have k7 := hts _ (List.mem_cons_of_mem _ tw_3)
  have k8 := hts _ (List.mem_cons_of_mem _ tw_568)
  have k9 := hts _ (List.mem_cons_of_mem _ tw_181)
  have k10 := hts _ (List.mem_cons_of_mem _ tw_347)
  have k11 := hts _ (List.mem_cons_of_mem _ tw_350)
  have n0 : ∀ w ∈ u_ws "ScanCoder$Encoder" T_7 8, w ∈ ws_m633 := fun w h => List.mem_cons_of_mem _ (in_7 w h)
  have n1 : ∀ w ∈ u_ws "ScanCoder$Course" T_4 13, w ∈ ws_m633 := fun w h => List.mem_cons_of_mem _ (in_4 w h)
  have n2 : ∀ w ∈ u_ws "ScanCoder$Picture" T_8 12, w ∈ ws_m633 := fun w h => List.mem_cons_of_mem _ (in_8 w h)
  subst hsz
  have hD := hD0.self (sz := s.heap.size)
  obtain ⟨A, hAe⟩ : ∃ A : Nat → Prop, va_A (w_Encoder_refineOthers_cnt cI cB cS cT a_pic a_pic_co a_crs a_cnt a_cnt_t a_enc a_enc_r a_pic_h a_pic_v a_pic_ac a_pic_dn a_pic_oa a_pic_od a_pic_st a_crs_ow a_crs_pl a_crs_dt a_crs_ot a_enc_p pic_many pic_unitsAcross pic_unitsDown pic_blocks n_pic_co pic_co crs_kind crs_first crs_last crs_bits crs_interval crs_units crs_blocksOfUnit crs_laid cnt_total cnt_t enc_run enc_held enc_runTable enc_r) s.heap.size = A := ⟨_, rfl⟩
  rw [hAe] at hD
  have hA : ∀ q : Nat, s.heap.size ≤ q → A q := fun q h => by rw [← hAe]; exact Or.inr h
  have hS : va_S A s.heap s.heap [] := va_S.rf
  have hl := lv_entry ([.ref a_enc, .int p0]) (n := 10) (Nat.le_of_ble_eq_true rfl)
  have hfr : entryFrame m args 10 = F0 m 0 ((lg_sl ([.ref a_enc, .int p0]) ++ List.replicate (10 - (lg_sl ([.ref a_enc, .int p0])).length) Slot.unset).toArray) [] := by rw [hargs]; exact lg_entry_eq _ _ _
  rw [hfr]
  generalize (lg_sl ([.ref a_enc, .int p0]) ++ List.replicate (10 - (lg_sl ([.ref a_enc, .int p0])).length) Slot.unset).toArray = ls at hl ⊢
  have hl : lv_has ls 10 [(0, .ref a_enc), (1, .int p0)] := hl
  refine gen_Q (fun Q hQ => ?_)
  clear hfr
  have L75 : ∀ (v8_75 : Int32) (v9_75 : Int32) (v2_23 : Int32) (v7_23 : Int32) (v4_23 : Int64) (z : Int32 × Int32 × Int32 × (Nat → Int32) × Int32 × Int32), (GW (dC, dI) A p l e (headSpec ws_m633 rm_Encoder_refineOthers_cnt).room s m args below meth c 0 0 Q 10 125 (w_Encoder_refineOthers_cnt cI cB cS cT a_pic a_pic_co a_crs a_cnt a_cnt_t a_enc a_enc_r a_pic_h a_pic_v a_pic_ac a_pic_dn a_pic_oa a_pic_od a_pic_st a_crs_ow a_crs_pl a_crs_dt a_crs_ot a_enc_p pic_many pic_unitsAcross pic_unitsDown pic_blocks n_pic_co pic_co crs_kind crs_first crs_last crs_bits crs_interval crs_units crs_blocksOfUnit crs_laid z.2.2.1 z.2.2.2.1 z.2.2.2.2.1 z.2.2.2.2.2 enc_runTable enc_r) [(0, .ref a_enc), (1, .int p0), (2, .int v2_23), (3, .int z.1), (4, .long v4_23), (6, .int z.2.1), (7, .int v7_23), (8, .int v8_75), (9, .int v9_75)] []) → ∀ (k : Nat) (v3_75 : Int32) (v6_75 : Int32) (cnt_total_75 : Int32) (cnt_t_75 : Nat → Int32) (enc_run_75 : Int32) (enc_held_75 : Int32), f_Encoder_refineOthers_cnt_L75 v2_23 v7_23 enc_runTable N k (v3_75, v6_75, cnt_total_75, cnt_t_75, enc_run_75, enc_held_75) = some z → GW (dC, dI) A p l e (headSpec ws_m633 rm_Encoder_refineOthers_cnt).room s m args below meth c 0 0 Q 10 75 (w_Encoder_refineOthers_cnt cI cB cS cT a_pic a_pic_co a_crs a_cnt a_cnt_t a_enc a_enc_r a_pic_h a_pic_v a_pic_ac a_pic_dn a_pic_oa a_pic_od a_pic_st a_crs_ow a_crs_pl a_crs_dt a_crs_ot a_enc_p pic_many pic_unitsAcross pic_unitsDown pic_blocks n_pic_co pic_co crs_kind crs_first crs_last crs_bits crs_interval crs_units crs_blocksOfUnit crs_laid cnt_total_75 cnt_t_75 enc_run_75 enc_held_75 enc_runTable enc_r) [(0, .ref a_enc), (1, .int p0), (2, .int v2_23), (3, .int v3_75), (4, .long v4_23), (6, .int v6_75), (7, .int v7_23), (8, .int v8_75), (9, .int v9_75)] [] := by
    intro v8_75 v9_75 v2_23 v7_23 v4_23 z hE0 k
    induction k with
    | zero =>
      intro v3_75 v6_75 cnt_total_75 cnt_t_75 enc_run_75 enc_held_75 hf
      exact (it_zero hf).elim
    | succ k ih =>
      intro v3_75 v6_75 cnt_total_75 cnt_t_75 enc_run_75 enc_held_75 hf H locs ls hP hD hS hl
      have hf : f_Encoder_refineOthers_cnt_L75b v2_23 v7_23 enc_runTable N (f_Encoder_refineOthers_cnt_L75 v2_23 v7_23 enc_runTable N k) v3_75 v6_75 cnt_total_75 cnt_t_75 enc_run_75 enc_held_75 = some z := hf
      unfold f_Encoder_refineOthers_cnt_L75b at hf
      refine lv_iload_n hx hb d_m633_75 rfl (lv_at hl 3 rfl) ?_
      refine lv_bipush (v := (15 : Int32)) hx hb d_m633_76 (by decide) ?_
      refine lv_icmp_le (tgt := 125) hx hb d_m633_78 (by decide) (fun hc => ?_) (fun hc => ?_)
      · replace hf := (if_pos hc).symm.trans hf
        obtain rfl := Option.some.inj hf
        exact hE0  H locs ls hP hD hS hl
      · replace hf := (if_neg hc).symm.trans hf
        refine lv_iload hx hb d_m633_81 (lv_at hl 6 rfl) ?_
        refine lv_iload_n hx hb d_m633_83 rfl (lv_at hl 2 rfl) ?_
        refine lv_icmp_gt (tgt := 125) hx hb d_m633_84 (by decide) (fun hc => ?_) (fun hc => ?_)
        · replace hf := (if_pos hc).symm.trans hf
          obtain rfl := Option.some.inj hf
          exact hE0  H locs ls hP hD hS hl
        · replace hf := (if_neg hc).symm.trans hf
          refine lv_aload_n hx hb d_m633_87 rfl (lv_at hl 0 rfl) ?_
          obtain ⟨z2, hz2, hf⟩ := ob_bind hf
          refine g_callv (wc := (w_Encoder_sendRun_cnt cI cB cS cT a_cnt a_cnt_t a_enc a_enc_r a_pic a_crs a_enc_p cnt_total_75 cnt_t_75 enc_run_75 enc_held_75 enc_runTable enc_r)) (w1 := (w_Encoder_sendRun_cnt cI cB cS cT a_cnt a_cnt_t a_enc a_enc_r a_pic a_crs a_enc_p z2.1 z2.2.1 z2.2.2.1 z2.2.2.2 enc_runTable enc_r)) (w2 := (w_Encoder_refineOthers_cnt cI cB cS cT a_pic a_pic_co a_crs a_cnt a_cnt_t a_enc a_enc_r a_pic_h a_pic_v a_pic_ac a_pic_dn a_pic_oa a_pic_od a_pic_st a_crs_ow a_crs_pl a_crs_dt a_crs_ot a_enc_p pic_many pic_unitsAcross pic_unitsDown pic_blocks n_pic_co pic_co crs_kind crs_first crs_last crs_bits crs_interval crs_units crs_blocksOfUnit crs_laid z2.1 z2.2.1 z2.2.2.1 z2.2.2.2 enc_runTable enc_r)) [3, 4, 5, 6] [none, none, none, some 0, some 1, some 2, some 3] hP hD hS hA rfl rfl rfl rfl (va_runV (As := []) (rest := []) ⟨hx, hb, hml, hown, hts⟩ (c_Encoder_sendRun_cnt l dC dI cI cB cS cT N a_cnt a_cnt_t a_enc a_enc_r a_pic a_crs a_enc_p cnt_total_75 cnt_t_75 enc_run_75 enc_held_75 enc_runTable enc_r H.size z2 hz2) ⟨(callB_of 0 hts (gi tw_562 rfl) rfl rfl rfl (hts _ (List.mem_cons_of_mem _ tw_13)) (hts _ (List.mem_cons_of_mem _ tw_559)) (by decide +kernel) ⟨Nat.le_of_ble_eq_true rfl, Nat.le_of_ble_eq_true rfl⟩), hts _ (List.mem_cons_of_mem _ tw_561), hts _ (List.mem_cons_of_mem _ ts_m562)⟩ ⟨g_blind, va_recv hK hP (ci := 7) (q0 := 5) rfl rfl, g_at hKN (g_pm hP [3, 4, 5, 6] rfl) (hD.sub [3, 4, 5, 6] (by decide) rfl)⟩ rfl rfl hl.1 rfl (lv_room (Nat.le_of_ble_eq_true rfl)) d_m633_88 ⟨Nat.zero_le _, Nat.zero_le _⟩) (fun H locs hP hD hS => ?_)
          refine W.eq (g2 := F0 m 91 ls []) rfl ?_
          refine lv_aload_n hx hb d_m633_91 rfl (lv_at hl 0 rfl) ?_
          refine va_get (D := (dC, dI)) (ci := 7) (v := .ref a_cnt) (C := "ScanCoder$Encoder") (T := T_7) (N := 8) hx hb hts n0 hown hK hP 5 rfl rfl 4 (by decide) k10 (fun _ h9 => h9) rfl d_m633_92 ?_
          refine lv_aload_n hx hb d_m633_95 rfl (lv_at hl 0 rfl) ?_
          refine va_get (D := (dC, dI)) (ci := 7) (v := .int enc_runTable) (C := "ScanCoder$Encoder") (T := T_7) (N := 8) hx hb hts n0 hown hK hP 5 rfl rfl 7 (by decide) k11 (fun _ h9 => h9) rfl d_m633_96 ?_
          refine lv_sipush (v := (240 : Int32)) hx hb d_m633_99 (by decide) ?_
          obtain ⟨z3, hz3, hf⟩ := ob_bind hf
          refine g_callv (wc := (w_Counter_putWord cI cB cS cT a_cnt a_cnt_t z2.1 z2.2.1)) (w1 := (w_Counter_putWord cI cB cS cT a_cnt a_cnt_t z3.1 z3.2)) (w2 := (w_Encoder_refineOthers_cnt cI cB cS cT a_pic a_pic_co a_crs a_cnt a_cnt_t a_enc a_enc_r a_pic_h a_pic_v a_pic_ac a_pic_dn a_pic_oa a_pic_od a_pic_st a_crs_ow a_crs_pl a_crs_dt a_crs_ot a_enc_p pic_many pic_unitsAcross pic_unitsDown pic_blocks n_pic_co pic_co crs_kind crs_first crs_last crs_bits crs_interval crs_units crs_blocksOfUnit crs_laid z3.1 z3.2 z2.2.2.1 z2.2.2.2 enc_runTable enc_r)) [3, 4] [none, none, none, some 0, some 1, none, none] hP hD hS hA rfl rfl rfl rfl (va_runU (As := [.int enc_runTable, .int (240 : Int32)]) (rest := []) ⟨hx, hb, hml, hown, hts⟩ (c_Counter_putWord l dC dI cI cB cS cT a_cnt a_cnt_t z2.1 z2.2.1 enc_runTable (240 : Int32) H.size z3 hz3) (va_cwA (x := ({ cls := "ScanCoder$Sink", name := "putWord", desc := "(II)V" } : Jvm.MethodName)) (owner := "ScanCoder$Sink") 2 hts (gu (tw_569) (tw_571) (tw_584) (tw_585) (tw_11) (gi tw_586 rfl)) rfl rfl rfl (gn_570 hKN.2) (by decide +kernel) ⟨Nat.le_of_ble_eq_true rfl, Nat.le_of_ble_eq_true rfl⟩) ⟨g_blind, va_recv hK hP (ci := 3) (q0 := 3) rfl rfl, g_at hKN (g_pm hP [3, 4] rfl) (hD.sub [3, 4] (by decide) rfl)⟩ rfl rfl hl.1 rfl (lv_room (Nat.le_of_ble_eq_true rfl)) d_m633_102 ⟨Nat.zero_le _, Nat.zero_le _⟩) (fun H locs hP hD hS => ?_)
          refine W.eq (g2 := F0 m 105 ls []) rfl ?_
          refine lv_aload_n hx hb d_m633_105 rfl (lv_at hl 0 rfl) ?_
          refine va_get (D := (dC, dI)) (ci := 7) (v := .ref a_cnt) (C := "ScanCoder$Encoder") (T := T_7) (N := 8) hx hb hts n0 hown hK hP 5 rfl rfl 4 (by decide) k10 (fun _ h9 => h9) rfl d_m633_106 ?_
          refine lv_lload hx hb d_m633_109 (lv_at hl 4 rfl) ?_
          refine lv_iload hx hb d_m633_111 (lv_at hl 5 rfl) ?_
          obtain ⟨z4, hz4, hf⟩ := ob_bind hf
          refine va_csv (g_run (va_runU (As := [.long v4_23, .int v6_75]) (rest := []) ⟨hx, hb, hml, hown, hts⟩ (c_Counter_putBits l dC dI cI cB cS cT a_cnt a_cnt_t z3.1 v4_23 v6_75 z4 hz4) (va_cwA (x := ({ cls := "ScanCoder$Sink", name := "putBits", desc := "(JI)V" } : Jvm.MethodName)) (owner := "ScanCoder$Sink") 2 hts (gu (tw_587) (tw_589) (tw_591) (tw_592) (tw_11) (gi tw_593 rfl)) rfl rfl rfl (gn_588 hKN.2) (by decide +kernel) ⟨Nat.le_of_ble_eq_true rfl, Nat.le_of_ble_eq_true rfl⟩) ⟨gp_blind, va_recv hK hP (ci := 3) (q0 := 3) rfl rfl, gp_at hKN (g_pm hP [3] rfl)⟩ rfl rfl hl.1 rfl (lv_room (Nat.le_of_ble_eq_true rfl)) d_m633_113 ⟨Nat.zero_le _, Nat.zero_le _⟩)) (fun _ => ?_)
          refine W.eq (g2 := F0 m 116 ls []) rfl ?_
          refine lv_iconst (v := (0 : Int32)) hx hb d_m633_116 (by decide) ?_
          refine lv_istore (lv' := [(6, .int (0 : Int32)), (0, .ref a_enc), (1, .int p0), (2, .int v2_23), (3, .int v3_75), (4, .long v4_23), (7, .int v7_23), (8, .int v8_75), (9, .int v9_75)]) hx hb d_m633_117 hl (by decide) rfl (fun ls hl => ?_)
          refine lv_iinc (v := v3_75 + (-16 : Int32)) (lv' := [(3, .int (v3_75 + (-16 : Int32))), (6, .int (0 : Int32)), (0, .ref a_enc), (1, .int p0), (2, .int v2_23), (4, .long v4_23), (7, .int v7_23), (8, .int v8_75), (9, .int v9_75)]) hx hb d_m633_119 hl (k := 4) rfl rfl (by decide) rfl (fun ls hl => ?_)
          refine lv_goto (tgt := 75) hx hb d_m633_122 (by decide) ?_
          exact ih (v3_75 + (-16 : Int32)) (0 : Int32) z3.1 z3.2 z2.2.2.1 z2.2.2.2 hf H locs ls hP hD hS (lv_sub hl [2, 3, 4, 0, 5, 1, 6, 7, 8] rfl)
  have L23 : ∀ (v2_23 : Int32) (z : Int32 × Int64 × Int32 × Int32 × (Nat → Int32) × Int32 × Int32), (GW (dC, dI) A p l e (headSpec ws_m633 rm_Encoder_refineOthers_cnt).room s m args below meth c 0 0 Q 10 210 (w_Encoder_refineOthers_cnt cI cB cS cT a_pic a_pic_co a_crs a_cnt a_cnt_t a_enc a_enc_r a_pic_h a_pic_v a_pic_ac a_pic_dn a_pic_oa a_pic_od a_pic_st a_crs_ow a_crs_pl a_crs_dt a_crs_ot a_enc_p pic_many pic_unitsAcross pic_unitsDown pic_blocks n_pic_co pic_co crs_kind crs_first crs_last crs_bits crs_interval crs_units crs_blocksOfUnit crs_laid z.2.2.2.1 z.2.2.2.2.1 z.2.2.2.2.2.1 z.2.2.2.2.2.2 enc_runTable enc_r) [(0, .ref a_enc), (3, .int z.1), (4, .long z.2.1), (6, .int z.2.2.1)] []) → ∀ (k : Nat) (v3_23 : Int32) (v4_23 : Int64) (v6_23 : Int32) (v7_23 : Int32) (cnt_total_23 : Int32) (cnt_t_23 : Nat → Int32) (enc_run_23 : Int32) (enc_held_23 : Int32), f_Encoder_refineOthers_cnt_L23 crs_last p0 n_pic_co pic_co crs_bits v2_23 enc_runTable N k (v3_23, v4_23, v6_23, v7_23, cnt_total_23, cnt_t_23, enc_run_23, enc_held_23) = some z → GW (dC, dI) A p l e (headSpec ws_m633 rm_Encoder_refineOthers_cnt).room s m args below meth c 0 0 Q 10 23 (w_Encoder_refineOthers_cnt cI cB cS cT a_pic a_pic_co a_crs a_cnt a_cnt_t a_enc a_enc_r a_pic_h a_pic_v a_pic_ac a_pic_dn a_pic_oa a_pic_od a_pic_st a_crs_ow a_crs_pl a_crs_dt a_crs_ot a_enc_p pic_many pic_unitsAcross pic_unitsDown pic_blocks n_pic_co pic_co crs_kind crs_first crs_last crs_bits crs_interval crs_units crs_blocksOfUnit crs_laid cnt_total_23 cnt_t_23 enc_run_23 enc_held_23 enc_runTable enc_r) [(0, .ref a_enc), (1, .int p0), (2, .int v2_23), (3, .int v3_23), (4, .long v4_23), (6, .int v6_23), (7, .int v7_23)] [] := by
    intro v2_23 z hE0 k
    induction k with
    | zero =>
      intro v3_23 v4_23 v6_23 v7_23 cnt_total_23 cnt_t_23 enc_run_23 enc_held_23 hf
      exact (it_zero hf).elim
    | succ k ih =>
      intro v3_23 v4_23 v6_23 v7_23 cnt_total_23 cnt_t_23 enc_run_23 enc_held_23 hf H locs ls hP hD hS hl
      have J23_204 : ∀ (v3_j204 : Int32) (v4_j204 : Int64) (v6_j204 : Int32) (cnt_total_j204 : Int32) (cnt_t_j204 : Nat → Int32) (enc_run_j204 : Int32) (enc_held_j204 : Int32), f_Encoder_refineOthers_cnt_J23_204 N (f_Encoder_refineOthers_cnt_L23 crs_last p0 n_pic_co pic_co crs_bits v2_23 enc_runTable N k) v3_j204 v4_j204 v6_j204 v7_23 cnt_total_j204 cnt_t_j204 enc_run_j204 enc_held_j204 = some z → GW (dC, dI) A p l e (headSpec ws_m633 rm_Encoder_refineOthers_cnt).room s m args below meth c 0 0 Q 10 204 (w_Encoder_refineOthers_cnt cI cB cS cT a_pic a_pic_co a_crs a_cnt a_cnt_t a_enc a_enc_r a_pic_h a_pic_v a_pic_ac a_pic_dn a_pic_oa a_pic_od a_pic_st a_crs_ow a_crs_pl a_crs_dt a_crs_ot a_enc_p pic_many pic_unitsAcross pic_unitsDown pic_blocks n_pic_co pic_co crs_kind crs_first crs_last crs_bits crs_interval crs_units crs_blocksOfUnit crs_laid cnt_total_j204 cnt_t_j204 enc_run_j204 enc_held_j204 enc_runTable enc_r) [(0, .ref a_enc), (1, .int p0), (2, .int v2_23), (3, .int v3_j204), (4, .long v4_j204), (6, .int v6_j204), (7, .int v7_23)] [] := by
        intro v3_j204 v4_j204 v6_j204 cnt_total_j204 cnt_t_j204 enc_run_j204 enc_held_j204 hf H locs ls hP hD hS hl
        unfold f_Encoder_refineOthers_cnt_J23_204 at hf
        refine lv_iinc (v := v7_23 + (1 : Int32)) (lv' := [(7, .int (v7_23 + (1 : Int32))), (0, .ref a_enc), (1, .int p0), (2, .int v2_23), (3, .int v3_j204), (4, .long v4_j204), (6, .int v6_j204)]) hx hb d_m633_204 hl (k := 6) rfl rfl (by decide) rfl (fun ls hl => ?_)
        refine lv_goto (tgt := 23) hx hb d_m633_207 (by decide) ?_
        exact ih v3_j204 v4_j204 v6_j204 (v7_23 + (1 : Int32)) cnt_total_j204 cnt_t_j204 enc_run_j204 enc_held_j204 hf H locs ls hP hD hS (lv_sub hl [1, 2, 3, 4, 5, 6, 0] rfl)
      have J23_184 : ∀ (v6_j184 : Int32) (cnt_total_j184 : Int32) (cnt_t_j184 : Nat → Int32) (enc_run_j184 : Int32) (enc_held_j184 : Int32) (s1_j184 : Int64), f_Encoder_refineOthers_cnt_J23_184 N (f_Encoder_refineOthers_cnt_L23 crs_last p0 n_pic_co pic_co crs_bits v2_23 enc_runTable N k) v4_23 v7_23 cnt_total_j184 cnt_t_j184 enc_run_j184 enc_held_j184 = some z → GW (dC, dI) A p l e (headSpec ws_m633 rm_Encoder_refineOthers_cnt).room s m args below meth c 0 0 Q 10 184 (w_Encoder_refineOthers_cnt cI cB cS cT a_pic a_pic_co a_crs a_cnt a_cnt_t a_enc a_enc_r a_pic_h a_pic_v a_pic_ac a_pic_dn a_pic_oa a_pic_od a_pic_st a_crs_ow a_crs_pl a_crs_dt a_crs_ot a_enc_p pic_many pic_unitsAcross pic_unitsDown pic_blocks n_pic_co pic_co crs_kind crs_first crs_last crs_bits crs_interval crs_units crs_blocksOfUnit crs_laid cnt_total_j184 cnt_t_j184 enc_run_j184 enc_held_j184 enc_runTable enc_r) [(0, .ref a_enc), (1, .int p0), (2, .int v2_23), (4, .long v4_23), (6, .int v6_j184), (7, .int v7_23)] [.long s1_j184, .ref a_cnt] := by
        intro v6_j184 cnt_total_j184 cnt_t_j184 enc_run_j184 enc_held_j184 s1_j184 hf H locs ls hP hD hS hl
        unfold f_Encoder_refineOthers_cnt_J23_184 at hf
        refine lv_iconst (v := (1 : Int32)) hx hb d_m633_184 (by decide) ?_
        obtain ⟨z8, hz8, hf⟩ := ob_bind hf
        refine va_csv (g_run (va_runU (As := [.long s1_j184, .int (1 : Int32)]) (rest := []) ⟨hx, hb, hml, hown, hts⟩ (c_Counter_putBits l dC dI cI cB cS cT a_cnt a_cnt_t cnt_total_j184 s1_j184 (1 : Int32) z8 hz8) (va_cwA (x := ({ cls := "ScanCoder$Sink", name := "putBits", desc := "(JI)V" } : Jvm.MethodName)) (owner := "ScanCoder$Sink") 2 hts (gu (tw_587) (tw_589) (tw_591) (tw_592) (tw_11) (gi tw_593 rfl)) rfl rfl rfl (gn_588 hKN.2) (by decide +kernel) ⟨Nat.le_of_ble_eq_true rfl, Nat.le_of_ble_eq_true rfl⟩) ⟨gp_blind, va_recv hK hP (ci := 3) (q0 := 3) rfl rfl, gp_at hKN (g_pm hP [3] rfl)⟩ rfl rfl hl.1 rfl (lv_room (Nat.le_of_ble_eq_true rfl)) d_m633_185 ⟨Nat.zero_le _, Nat.zero_le _⟩)) (fun _ => ?_)
        refine W.eq (g2 := F0 m 188 ls []) rfl ?_
        refine lv_aload_n hx hb d_m633_188 rfl (lv_at hl 0 rfl) ?_
        refine va_get (D := (dC, dI)) (ci := 7) (v := .ref a_cnt) (C := "ScanCoder$Encoder") (T := T_7) (N := 8) hx hb hts n0 hown hK hP 5 rfl rfl 4 (by decide) k10 (fun _ h9 => h9) rfl d_m633_189 ?_
        refine lv_lload hx hb d_m633_192 (lv_at hl 3 rfl) ?_
        refine lv_iload hx hb d_m633_194 (lv_at hl 4 rfl) ?_
        obtain ⟨z9, hz9, hf⟩ := ob_bind hf
        refine va_csv (g_run (va_runU (As := [.long v4_23, .int v6_j184]) (rest := []) ⟨hx, hb, hml, hown, hts⟩ (c_Counter_putBits l dC dI cI cB cS cT a_cnt a_cnt_t cnt_total_j184 v4_23 v6_j184 z9 hz9) (va_cwA (x := ({ cls := "ScanCoder$Sink", name := "putBits", desc := "(JI)V" } : Jvm.MethodName)) (owner := "ScanCoder$Sink") 2 hts (gu (tw_587) (tw_589) (tw_591) (tw_592) (tw_11) (gi tw_593 rfl)) rfl rfl rfl (gn_588 hKN.2) (by decide +kernel) ⟨Nat.le_of_ble_eq_true rfl, Nat.le_of_ble_eq_true rfl⟩) ⟨gp_blind, va_recv hK hP (ci := 3) (q0 := 3) rfl rfl, gp_at hKN (g_pm hP [3] rfl)⟩ rfl rfl hl.1 rfl (lv_room (Nat.le_of_ble_eq_true rfl)) d_m633_196 ⟨Nat.zero_le _, Nat.zero_le _⟩)) (fun _ => ?_)
        refine W.eq (g2 := F0 m 199 ls []) rfl ?_
        refine lv_iconst (v := (0 : Int32)) hx hb d_m633_199 (by decide) ?_
        refine lv_istore (lv' := [(6, .int (0 : Int32)), (0, .ref a_enc), (1, .int p0), (2, .int v2_23), (4, .long v4_23), (7, .int v7_23)]) hx hb d_m633_200 hl (by decide) rfl (fun ls hl => ?_)
        refine lv_iconst (v := (0 : Int32)) hx hb d_m633_202 (by decide) ?_
        refine lv_istore_n (lv' := [(3, .int (0 : Int32)), (6, .int (0 : Int32)), (0, .ref a_enc), (1, .int p0), (2, .int v2_23), (4, .long v4_23), (7, .int v7_23)]) hx hb d_m633_203 rfl hl (by decide) rfl (fun ls hl => ?_)
        exact J23_204 (0 : Int32) v4_23 (0 : Int32) cnt_total_j184 cnt_t_j184 enc_run_j184 enc_held_j184 hf H locs ls hP hD hS (lv_sub hl [2, 3, 4, 0, 5, 1, 6] rfl)
      have J23_125 : ∀ (v3_j125 : Int32) (v6_j125 : Int32) (v8_j125 : Int32) (v9_j125 : Int32) (cnt_total_j125 : Int32) (cnt_t_j125 : Nat → Int32) (enc_run_j125 : Int32) (enc_held_j125 : Int32), f_Encoder_refineOthers_cnt_J23_125 N (f_Encoder_refineOthers_cnt_L23 crs_last p0 n_pic_co pic_co crs_bits v2_23 enc_runTable N k) v9_j125 cnt_total_j125 cnt_t_j125 enc_run_j125 enc_held_j125 enc_runTable v3_j125 v8_j125 v4_23 v7_23 v6_j125 = some z → GW (dC, dI) A p l e (headSpec ws_m633 rm_Encoder_refineOthers_cnt).room s m args below meth c 0 0 Q 10 125 (w_Encoder_refineOthers_cnt cI cB cS cT a_pic a_pic_co a_crs a_cnt a_cnt_t a_enc a_enc_r a_pic_h a_pic_v a_pic_ac a_pic_dn a_pic_oa a_pic_od a_pic_st a_crs_ow a_crs_pl a_crs_dt a_crs_ot a_enc_p pic_many pic_unitsAcross pic_unitsDown pic_blocks n_pic_co pic_co crs_kind crs_first crs_last crs_bits crs_interval crs_units crs_blocksOfUnit crs_laid cnt_total_j125 cnt_t_j125 enc_run_j125 enc_held_j125 enc_runTable enc_r) [(0, .ref a_enc), (1, .int p0), (2, .int v2_23), (3, .int v3_j125), (4, .long v4_23), (6, .int v6_j125), (7, .int v7_23), (8, .int v8_j125), (9, .int v9_j125)] [] := by
        intro v3_j125 v6_j125 v8_j125 v9_j125 cnt_total_j125 cnt_t_j125 enc_run_j125 enc_held_j125 hf H locs ls hP hD hS hl
        unfold f_Encoder_refineOthers_cnt_J23_125 at hf
        refine lv_iload hx hb d_m633_125 (lv_at hl 8 rfl) ?_
        refine lv_iconst (v := (1 : Int32)) hx hb d_m633_127 (by decide) ?_
        refine lv_icmp_le (tgt := 149) hx hb d_m633_128 (by decide) (fun hc => ?_) (fun hc => ?_)
        · replace hf := (if_pos hc).symm.trans hf
          refine lv_aload_n hx hb d_m633_149 rfl (lv_at hl 0 rfl) ?_
          obtain ⟨z6, hz6, hf⟩ := ob_bind hf
          refine g_callv (wc := (w_Encoder_sendRun_cnt cI cB cS cT a_cnt a_cnt_t a_enc a_enc_r a_pic a_crs a_enc_p cnt_total_j125 cnt_t_j125 enc_run_j125 enc_held_j125 enc_runTable enc_r)) (w1 := (w_Encoder_sendRun_cnt cI cB cS cT a_cnt a_cnt_t a_enc a_enc_r a_pic a_crs a_enc_p z6.1 z6.2.1 z6.2.2.1 z6.2.2.2 enc_runTable enc_r)) (w2 := (w_Encoder_refineOthers_cnt cI cB cS cT a_pic a_pic_co a_crs a_cnt a_cnt_t a_enc a_enc_r a_pic_h a_pic_v a_pic_ac a_pic_dn a_pic_oa a_pic_od a_pic_st a_crs_ow a_crs_pl a_crs_dt a_crs_ot a_enc_p pic_many pic_unitsAcross pic_unitsDown pic_blocks n_pic_co pic_co crs_kind crs_first crs_last crs_bits crs_interval crs_units crs_blocksOfUnit crs_laid z6.1 z6.2.1 z6.2.2.1 z6.2.2.2 enc_runTable enc_r)) [3, 4, 5, 6] [none, none, none, some 0, some 1, some 2, some 3] hP hD hS hA rfl rfl rfl rfl (va_runV (As := []) (rest := []) ⟨hx, hb, hml, hown, hts⟩ (c_Encoder_sendRun_cnt l dC dI cI cB cS cT N a_cnt a_cnt_t a_enc a_enc_r a_pic a_crs a_enc_p cnt_total_j125 cnt_t_j125 enc_run_j125 enc_held_j125 enc_runTable enc_r H.size z6 hz6) ⟨(callB_of 0 hts (gi tw_562 rfl) rfl rfl rfl (hts _ (List.mem_cons_of_mem _ tw_13)) (hts _ (List.mem_cons_of_mem _ tw_559)) (by decide +kernel) ⟨Nat.le_of_ble_eq_true rfl, Nat.le_of_ble_eq_true rfl⟩), hts _ (List.mem_cons_of_mem _ tw_561), hts _ (List.mem_cons_of_mem _ ts_m562)⟩ ⟨g_blind, va_recv hK hP (ci := 7) (q0 := 5) rfl rfl, g_at hKN (g_pm hP [3, 4, 5, 6] rfl) (hD.sub [3, 4, 5, 6] (by decide) rfl)⟩ rfl rfl hl.1 rfl (lv_room (Nat.le_of_ble_eq_true rfl)) d_m633_150 ⟨Nat.zero_le _, Nat.zero_le _⟩) (fun H locs hP hD hS => ?_)
          refine W.eq (g2 := F0 m 153 ls []) rfl ?_
          refine lv_aload_n hx hb d_m633_153 rfl (lv_at hl 0 rfl) ?_
          refine va_get (D := (dC, dI)) (ci := 7) (v := .ref a_cnt) (C := "ScanCoder$Encoder") (T := T_7) (N := 8) hx hb hts n0 hown hK hP 5 rfl rfl 4 (by decide) k10 (fun _ h9 => h9) rfl d_m633_154 ?_
          refine lv_aload_n hx hb d_m633_157 rfl (lv_at hl 0 rfl) ?_
          refine va_get (D := (dC, dI)) (ci := 7) (v := .int enc_runTable) (C := "ScanCoder$Encoder") (T := T_7) (N := 8) hx hb hts n0 hown hK hP 5 rfl rfl 7 (by decide) k11 (fun _ h9 => h9) rfl d_m633_158 ?_
          refine lv_bipush (v := (16 : Int32)) hx hb d_m633_161 (by decide) ?_
          refine lv_iload_n hx hb d_m633_163 rfl (lv_at hl 3 rfl) ?_
          refine lv_imul hx hb d_m633_164 ?_
          refine lv_iconst (v := (1 : Int32)) hx hb d_m633_165 (by decide) ?_
          refine lv_iadd hx hb d_m633_166 ?_
          obtain ⟨z7, hz7, hf⟩ := ob_bind hf
          refine g_callv (wc := (w_Counter_putWord cI cB cS cT a_cnt a_cnt_t z6.1 z6.2.1)) (w1 := (w_Counter_putWord cI cB cS cT a_cnt a_cnt_t z7.1 z7.2)) (w2 := (w_Encoder_refineOthers_cnt cI cB cS cT a_pic a_pic_co a_crs a_cnt a_cnt_t a_enc a_enc_r a_pic_h a_pic_v a_pic_ac a_pic_dn a_pic_oa a_pic_od a_pic_st a_crs_ow a_crs_pl a_crs_dt a_crs_ot a_enc_p pic_many pic_unitsAcross pic_unitsDown pic_blocks n_pic_co pic_co crs_kind crs_first crs_last crs_bits crs_interval crs_units crs_blocksOfUnit crs_laid z7.1 z7.2 z6.2.2.1 z6.2.2.2 enc_runTable enc_r)) [3, 4] [none, none, none, some 0, some 1, none, none] hP hD hS hA rfl rfl rfl rfl (va_runU (As := [.int enc_runTable, .int (((16 : Int32) * v3_j125) + (1 : Int32))]) (rest := []) ⟨hx, hb, hml, hown, hts⟩ (c_Counter_putWord l dC dI cI cB cS cT a_cnt a_cnt_t z6.1 z6.2.1 enc_runTable (((16 : Int32) * v3_j125) + (1 : Int32)) H.size z7 hz7) (va_cwA (x := ({ cls := "ScanCoder$Sink", name := "putWord", desc := "(II)V" } : Jvm.MethodName)) (owner := "ScanCoder$Sink") 2 hts (gu (tw_569) (tw_571) (tw_584) (tw_585) (tw_11) (gi tw_586 rfl)) rfl rfl rfl (gn_570 hKN.2) (by decide +kernel) ⟨Nat.le_of_ble_eq_true rfl, Nat.le_of_ble_eq_true rfl⟩) ⟨g_blind, va_recv hK hP (ci := 3) (q0 := 3) rfl rfl, g_at hKN (g_pm hP [3, 4] rfl) (hD.sub [3, 4] (by decide) rfl)⟩ rfl rfl hl.1 rfl (lv_room (Nat.le_of_ble_eq_true rfl)) d_m633_167 ⟨Nat.zero_le _, Nat.zero_le _⟩) (fun H locs hP hD hS => ?_)
          refine W.eq (g2 := F0 m 170 ls []) rfl ?_
          refine lv_aload_n hx hb d_m633_170 rfl (lv_at hl 0 rfl) ?_
          refine va_get (D := (dC, dI)) (ci := 7) (v := .ref a_cnt) (C := "ScanCoder$Encoder") (T := T_7) (N := 8) hx hb hts n0 hown hK hP 5 rfl rfl 4 (by decide) k10 (fun _ h9 => h9) rfl d_m633_171 ?_
          refine lv_iload hx hb d_m633_174 (lv_at hl 7 rfl) ?_
          refine lv_if_ge (tgt := 183) hx hb d_m633_176 (by decide) (fun hc => ?_) (fun hc => ?_)
          · replace hf := (if_pos hc).symm.trans hf
            refine lv_lconst (v := (1 : Int64)) hx hb d_m633_183 (by decide) ?_
            exact J23_184 v6_j125 z7.1 z7.2 z6.2.2.1 z6.2.2.2 (1 : Int64) hf H locs ls hP hD hS (lv_sub hl [0, 1, 2, 4, 5, 6] rfl)
          · replace hf := (if_neg hc).symm.trans hf
            refine lv_lconst (v := (0 : Int64)) hx hb d_m633_179 (by decide) ?_
            refine lv_goto (tgt := 184) hx hb d_m633_180 (by decide) ?_
            exact J23_184 v6_j125 z7.1 z7.2 z6.2.2.1 z6.2.2.2 (0 : Int64) hf H locs ls hP hD hS (lv_sub hl [0, 1, 2, 4, 5, 6] rfl)
        · replace hf := (if_neg hc).symm.trans hf
          refine lv_lload hx hb d_m633_131 (lv_at hl 4 rfl) ?_
          refine lv_iconst (v := (1 : Int32)) hx hb d_m633_133 (by decide) ?_
          refine lv_lshl hx hb d_m633_134 rfl ?_
          refine lv_iload hx hb d_m633_135 (lv_at hl 8 rfl) ?_
          refine lv_iconst (v := (1 : Int32)) hx hb d_m633_137 (by decide) ?_
          refine lv_iand hx hb d_m633_138 ?_
          refine lv_i2l hx hb d_m633_139 rfl ?_
          refine lv_lor hx hb d_m633_140 ?_
          refine lv_lstore (lv' := [(4, .long ((v4_23 <<< ((1 : Int32).toInt64 &&& 63)) ||| ((v9_j125 &&& (1 : Int32)).toInt64))), (0, .ref a_enc), (1, .int p0), (2, .int v2_23), (3, .int v3_j125), (6, .int v6_j125), (7, .int v7_23), (8, .int v8_j125), (9, .int v9_j125)]) hx hb d_m633_141 hl (by decide) rfl (fun ls hl => ?_)
          refine lv_iinc (v := v6_j125 + (1 : Int32)) (lv' := [(6, .int (v6_j125 + (1 : Int32))), (4, .long ((v4_23 <<< ((1 : Int32).toInt64 &&& 63)) ||| ((v9_j125 &&& (1 : Int32)).toInt64))), (0, .ref a_enc), (1, .int p0), (2, .int v2_23), (3, .int v3_j125), (7, .int v7_23), (8, .int v8_j125), (9, .int v9_j125)]) hx hb d_m633_143 hl (k := 5) rfl rfl (by decide) rfl (fun ls hl => ?_)
          refine lv_goto (tgt := 204) hx hb d_m633_146 (by decide) ?_
          exact J23_204 v3_j125 ((v4_23 <<< ((1 : Int32).toInt64 &&& 63)) ||| ((v9_j125 &&& (1 : Int32)).toInt64)) (v6_j125 + (1 : Int32)) cnt_total_j125 cnt_t_j125 enc_run_j125 enc_held_j125 hf H locs ls hP hD hS (lv_sub hl [2, 3, 4, 5, 1, 0, 6] rfl)
      have hf : f_Encoder_refineOthers_cnt_L23b crs_last p0 n_pic_co pic_co crs_bits v2_23 enc_runTable N (f_Encoder_refineOthers_cnt_L23 crs_last p0 n_pic_co pic_co crs_bits v2_23 enc_runTable N k) v3_23 v4_23 v6_23 v7_23 cnt_total_23 cnt_t_23 enc_run_23 enc_held_23 = some z := hf
      unfold f_Encoder_refineOthers_cnt_L23b at hf
      refine lv_iload hx hb d_m633_23 (lv_at hl 6 rfl) ?_
      refine lv_aload_n hx hb d_m633_25 rfl (lv_at hl 0 rfl) ?_
      refine va_get (D := (dC, dI)) (ci := 7) (v := .ref a_crs) (C := "ScanCoder$Encoder") (T := T_7) (N := 8) hx hb hts n0 hown hK hP 5 rfl rfl 1 (by decide) k0 (fun _ h9 => h9) rfl d_m633_26 ?_
      refine va_get (D := (dC, dI)) (ci := 4) (v := .int crs_last) (C := "ScanCoder$Course") (T := T_4) (N := 13) hx hb hts n1 hown hK hP 2 rfl rfl 7 (by decide) k2 (fun _ h9 => h9) rfl d_m633_29 ?_
      refine lv_icmp_gt (tgt := 210) hx hb d_m633_32 (by decide) (fun hc => ?_) (fun hc => ?_)
      · replace hf := (if_pos hc).symm.trans hf
        obtain rfl := Option.some.inj hf
        exact hE0  H locs ls hP hD hS (lv_sub hl [0, 3, 4, 5] rfl)
      · replace hf := (if_neg hc).symm.trans hf
        refine lv_aload_n hx hb d_m633_35 rfl (lv_at hl 0 rfl) ?_
        refine va_get (D := (dC, dI)) (ci := 7) (v := .ref a_pic) (C := "ScanCoder$Encoder") (T := T_7) (N := 8) hx hb hts n0 hown hK hP 5 rfl rfl 0 (by decide) k3 (fun _ h9 => h9) rfl d_m633_36 ?_
        refine va_get (D := (dC, dI)) (ci := 8) (v := .ref a_pic_co) (C := "ScanCoder$Picture") (T := T_8) (N := 12) hx hb hts n2 hown hK hP 0 rfl rfl 11 (by decide) k4 (fun _ h9 => h9) rfl d_m633_39 ?_
        refine lv_iload_n hx hb d_m633_42 rfl (lv_at hl 1 rfl) ?_
        refine lv_iload hx hb d_m633_43 (lv_at hl 6 rfl) ?_
        refine lv_iadd hx hb d_m633_45 ?_
        obtain ⟨hi, hf⟩ := ob_if hf
        refine va_sald hx hb hK hP 1 2 rfl rfl hi d_m633_46 ?_
        refine lv_istore (lv' := [(8, .int (pic_co (p0 + v7_23).toNatClampNeg)), (0, .ref a_enc), (1, .int p0), (2, .int v2_23), (3, .int v3_23), (4, .long v4_23), (6, .int v6_23), (7, .int v7_23)]) hx hb d_m633_47 hl (by decide) rfl (fun ls hl => ?_)
        refine lv_iload hx hb d_m633_49 (lv_at hl 0 rfl) ?_
        refine va_mabs hx hb (by rw [hml]; exact hl.1.symm) hown k5 k6 k7 k8 (Nat.le_of_ble_eq_true rfl) (Nat.le_of_ble_eq_true rfl) (Nat.zero_le _) (Nat.zero_le _) d_m633_51 ?_
        refine lv_aload_n hx hb d_m633_54 rfl (lv_at hl 1 rfl) ?_
        refine va_get (D := (dC, dI)) (ci := 7) (v := .ref a_crs) (C := "ScanCoder$Encoder") (T := T_7) (N := 8) hx hb hts n0 hown hK hP 5 rfl rfl 1 (by decide) k0 (fun _ h9 => h9) rfl d_m633_55 ?_
        refine va_get (D := (dC, dI)) (ci := 4) (v := .int crs_bits) (C := "ScanCoder$Course") (T := T_4) (N := 13) hx hb hts n1 hown hK hP 2 rfl rfl 8 (by decide) k9 (fun _ h9 => h9) rfl d_m633_58 ?_
        refine lv_ishr hx hb d_m633_61 ?_
        refine lv_istore (lv' := [(9, .int ((if 0 ≤ (pic_co (p0 + v7_23).toNatClampNeg) then (pic_co (p0 + v7_23).toNatClampNeg) else 0 - (pic_co (p0 + v7_23).toNatClampNeg)) >>> (crs_bits &&& 31))), (8, .int (pic_co (p0 + v7_23).toNatClampNeg)), (0, .ref a_enc), (1, .int p0), (2, .int v2_23), (3, .int v3_23), (4, .long v4_23), (6, .int v6_23), (7, .int v7_23)]) hx hb d_m633_62 hl (by decide) rfl (fun ls hl => ?_)
        refine lv_iload hx hb d_m633_64 (lv_at hl 0 rfl) ?_
        refine lv_if_ne (tgt := 75) hx hb d_m633_66 (by decide) (fun hc => ?_) (fun hc => ?_)
        · replace hf := (if_neg hc).symm.trans hf
          obtain ⟨z5, hz5, hf⟩ := ob_bind hf
          refine L75 (pic_co (p0 + v7_23).toNatClampNeg) ((if 0 ≤ (pic_co (p0 + v7_23).toNatClampNeg) then (pic_co (p0 + v7_23).toNatClampNeg) else 0 - (pic_co (p0 + v7_23).toNatClampNeg)) >>> (crs_bits &&& 31)) v2_23 v7_23 v4_23 z5 ?_ N v3_23 v6_23 cnt_total_23 cnt_t_23 enc_run_23 enc_held_23 hz5 H locs ls hP hD hS (lv_sub hl [2, 3, 4, 5, 6, 7, 8, 1, 0] rfl)
          · intro H locs ls hP hD hS hl
            exact J23_125 z5.1 z5.2.1 (pic_co (p0 + v7_23).toNatClampNeg) ((if 0 ≤ (pic_co (p0 + v7_23).toNatClampNeg) then (pic_co (p0 + v7_23).toNatClampNeg) else 0 - (pic_co (p0 + v7_23).toNatClampNeg)) >>> (crs_bits &&& 31)) z5.2.2.1 z5.2.2.2.1 z5.2.2.2.2.1 z5.2.2.2.2.2 hf H locs ls hP hD hS hl
        · replace hf := (if_pos hc).symm.trans hf
          refine lv_iinc (v := v3_23 + (1 : Int32)) (lv' := [(3, .int (v3_23 + (1 : Int32))), (9, .int ((if 0 ≤ (pic_co (p0 + v7_23).toNatClampNeg) then (pic_co (p0 + v7_23).toNatClampNeg) else 0 - (pic_co (p0 + v7_23).toNatClampNeg)) >>> (crs_bits &&& 31))), (8, .int (pic_co (p0 + v7_23).toNatClampNeg)), (0, .ref a_enc), (1, .int p0), (2, .int v2_23), (4, .long v4_23), (6, .int v6_23), (7, .int v7_23)]) hx hb d_m633_69 hl (k := 5) rfl rfl (by decide) rfl (fun ls hl => ?_)
          refine lv_goto (tgt := 204) hx hb d_m633_72 (by decide) ?_
          exact J23_204 (v3_23 + (1 : Int32)) v4_23 v6_23 cnt_total_23 cnt_t_23 enc_run_23 enc_held_23 hf H locs ls hP hD hS (lv_sub hl [3, 4, 5, 0, 6, 7, 8] rfl)
  have J219 : ∀ (v4_j219 : Int64) (v6_j219 : Int32) (cnt_total_j219 : Int32) (cnt_t_j219 : Nat → Int32) (enc_run_j219 : Int32) (enc_held_j219 : Int32), f_Encoder_refineOthers_cnt_J219 N v4_j219 v6_j219 enc_run_j219 enc_held_j219 enc_r cnt_total_j219 cnt_t_j219 = some z → GW (dC, dI) A p l e (headSpec ws_m633 rm_Encoder_refineOthers_cnt).room s m args below meth c 0 0 Q 10 219 (w_Encoder_refineOthers_cnt cI cB cS cT a_pic a_pic_co a_crs a_cnt a_cnt_t a_enc a_enc_r a_pic_h a_pic_v a_pic_ac a_pic_dn a_pic_oa a_pic_od a_pic_st a_crs_ow a_crs_pl a_crs_dt a_crs_ot a_enc_p pic_many pic_unitsAcross pic_unitsDown pic_blocks n_pic_co pic_co crs_kind crs_first crs_last crs_bits crs_interval crs_units crs_blocksOfUnit crs_laid cnt_total_j219 cnt_t_j219 enc_run_j219 enc_held_j219 enc_runTable enc_r) [(0, .ref a_enc), (4, .long v4_j219), (6, .int v6_j219)] [] := by
    intro v4_j219 v6_j219 cnt_total_j219 cnt_t_j219 enc_run_j219 enc_held_j219 hf H locs ls hP hD hS hl
    unfold f_Encoder_refineOthers_cnt_J219 at hf
    refine lv_aload_n hx hb d_m633_219 rfl (lv_at hl 0 rfl) ?_
    refine lv_lload hx hb d_m633_220 (lv_at hl 1 rfl) ?_
    refine lv_iload hx hb d_m633_222 (lv_at hl 2 rfl) ?_
    obtain ⟨z11, hz11, hf⟩ := ob_bind hf
    refine g_callv (wc := (w_Encoder_lengthenRun_cnt cI cB cS cT a_enc a_enc_r a_pic a_crs a_enc_p a_cnt enc_run_j219 enc_held_j219 enc_runTable enc_r)) (w1 := (w_Encoder_lengthenRun_cnt cI cB cS cT a_enc a_enc_r a_pic a_crs a_enc_p a_cnt z11.1 z11.2.1 enc_runTable z11.2.2)) (w2 := (w_Encoder_refineOthers_cnt cI cB cS cT a_pic a_pic_co a_crs a_cnt a_cnt_t a_enc a_enc_r a_pic_h a_pic_v a_pic_ac a_pic_dn a_pic_oa a_pic_od a_pic_st a_crs_ow a_crs_pl a_crs_dt a_crs_ot a_enc_p pic_many pic_unitsAcross pic_unitsDown pic_blocks n_pic_co pic_co crs_kind crs_first crs_last crs_bits crs_interval crs_units crs_blocksOfUnit crs_laid cnt_total_j219 cnt_t_j219 z11.1 z11.2.1 enc_runTable z11.2.2)) [5, 6] [none, none, none, none, none, some 0, some 1] hP hD hS hA rfl rfl rfl rfl (va_runV (As := [.long v4_j219, .int v6_j219]) (rest := []) ⟨hx, hb, hml, hown, hts⟩ (c_Encoder_lengthenRun_cnt l dC dI cI cB cS cT N a_enc a_enc_r a_pic a_crs a_enc_p a_cnt enc_run_j219 enc_held_j219 enc_runTable enc_r v4_j219 v6_j219 H.size z11 hz11) ⟨(callB_of 2 hts (gi tw_629 rfl) rfl rfl rfl (hts _ (List.mem_cons_of_mem _ tw_13)) (hts _ (List.mem_cons_of_mem _ tw_626)) (by decide +kernel) ⟨Nat.le_of_ble_eq_true rfl, Nat.le_of_ble_eq_true rfl⟩), hts _ (List.mem_cons_of_mem _ tw_628), hts _ (List.mem_cons_of_mem _ ts_m629)⟩ ⟨g_blind, va_recv hK hP (ci := 7) (q0 := 5) rfl rfl, g_at hKN (g_pm hP [5, 6] rfl) (hD.sub [5, 6] (by decide) rfl)⟩ rfl rfl hl.1 rfl (lv_room (Nat.le_of_ble_eq_true rfl)) d_m633_224 ⟨Nat.zero_le _, Nat.zero_le _⟩) (fun H locs hP hD hS => ?_)
    refine W.eq (g2 := F0 m 227 ls []) rfl ?_
    obtain rfl := Option.some.inj hf
    subst hQ
    subst hAe
    exact W.vret hx hb hr (fun t ht hW => ⟨⟨(), rfl, trivial, by rw [ht]; exact hP, hD⟩, hS.F ht⟩) hS.2.2 d_m633_227
  have hgo : ∀ (H : Heap) (locs : List Loc), va_P (dC, dI) vwCl (w_Encoder_refineOthers_cnt cI cB cS cT a_pic a_pic_co a_crs a_cnt a_cnt_t a_enc a_enc_r a_pic_h a_pic_v a_pic_ac a_pic_dn a_pic_oa a_pic_od a_pic_st a_crs_ow a_crs_pl a_crs_dt a_crs_ot a_enc_p pic_many pic_unitsAcross pic_unitsDown pic_blocks n_pic_co pic_co crs_kind crs_first crs_last crs_bits crs_interval crs_units crs_blocksOfUnit crs_laid cnt_total cnt_t enc_run enc_held enc_runTable enc_r) H → va_S A s.heap H locs → W p l e (headSpec ws_m633 rm_Encoder_refineOthers_cnt).room s m args below meth c H locs 0 0 Q (F0 m 0 ls []) := by
    intro H locs hP hS
    unfold f_Encoder_refineOthers_cnt at hf
    refine lv_aload_n hx hb d_m633_0 rfl (lv_at hl 0 rfl) ?_
    refine lv_iload_n hx hb d_m633_1 rfl (lv_at hl 1 rfl) ?_
    obtain ⟨z1, hz1, hf⟩ := ob_bind hf
    refine vp_callSi (g_run (va_runV (As := [.int p0]) (rest := []) ⟨hx, hb, hml, hown, hts⟩ (c_Encoder_lastNewOne_cnt l dC dI cI cB cS cT N a_pic a_pic_co a_crs a_enc a_pic_h a_pic_v a_pic_ac a_pic_dn a_pic_oa a_pic_od a_pic_st a_crs_ow a_crs_pl a_crs_dt a_crs_ot a_enc_p a_enc_r a_cnt pic_many pic_unitsAcross pic_unitsDown pic_blocks n_pic_co pic_co crs_kind crs_first crs_last crs_bits crs_interval crs_units crs_blocksOfUnit crs_laid enc_run enc_held enc_runTable p0 z1 hz1) ⟨(callB_of 1 hts (gi tw_637 rfl) rfl rfl rfl (hts _ (List.mem_cons_of_mem _ tw_13)) (hts _ (List.mem_cons_of_mem _ tw_634)) (by decide +kernel) ⟨Nat.le_of_ble_eq_true rfl, Nat.le_of_ble_eq_true rfl⟩), hts _ (List.mem_cons_of_mem _ tw_636), hts _ (List.mem_cons_of_mem _ ts_m637)⟩ ⟨gp_blind, va_recv hK hP (ci := 7) (q0 := 5) rfl rfl, gp_at hKN (g_pm hP [0, 1, 2, 5] rfl)⟩ rfl rfl hl.1 rfl (lv_room (Nat.le_of_ble_eq_true rfl)) d_m633_2 ⟨Nat.zero_le _, Nat.zero_le _⟩)) (fun r hrz1 => ?_)
    have hrz1 := hrz1.symm
    subst hrz1
    refine W.eq (g2 := F0 m 5 ls [.int z1]) rfl ?_
    refine lv_istore_n (lv' := [(2, .int z1), (0, .ref a_enc), (1, .int p0)]) hx hb d_m633_5 rfl hl (by decide) rfl (fun ls hl => ?_)
    refine lv_iconst (v := (0 : Int32)) hx hb d_m633_6 (by decide) ?_
    refine lv_istore_n (lv' := [(3, .int (0 : Int32)), (2, .int z1), (0, .ref a_enc), (1, .int p0)]) hx hb d_m633_7 rfl hl (by decide) rfl (fun ls hl => ?_)
    refine lv_lconst (v := (0 : Int64)) hx hb d_m633_8 (by decide) ?_
    refine lv_lstore (lv' := [(4, .long (0 : Int64)), (3, .int (0 : Int32)), (2, .int z1), (0, .ref a_enc), (1, .int p0)]) hx hb d_m633_9 hl (by decide) rfl (fun ls hl => ?_)
    refine lv_iconst (v := (0 : Int32)) hx hb d_m633_11 (by decide) ?_
    refine lv_istore (lv' := [(6, .int (0 : Int32)), (4, .long (0 : Int64)), (3, .int (0 : Int32)), (2, .int z1), (0, .ref a_enc), (1, .int p0)]) hx hb d_m633_12 hl (by decide) rfl (fun ls hl => ?_)
    refine lv_aload_n hx hb d_m633_14 rfl (lv_at hl 4 rfl) ?_
    refine va_get (D := (dC, dI)) (ci := 7) (v := .ref a_crs) (C := "ScanCoder$Encoder") (T := T_7) (N := 8) hx hb hts n0 hown hK hP 5 rfl rfl 1 (by decide) k0 (fun _ h9 => h9) rfl d_m633_15 ?_
    refine va_get (D := (dC, dI)) (ci := 4) (v := .int crs_first) (C := "ScanCoder$Course") (T := T_4) (N := 13) hx hb hts n1 hown hK hP 2 rfl rfl 6 (by decide) k1 (fun _ h9 => h9) rfl d_m633_18 ?_
    refine lv_istore (lv' := [(7, .int crs_first), (6, .int (0 : Int32)), (4, .long (0 : Int64)), (3, .int (0 : Int32)), (2, .int z1), (0, .ref a_enc), (1, .int p0)]) hx hb d_m633_21 hl (by decide) rfl (fun ls hl => ?_)
    obtain ⟨z10, hz10, hf⟩ := ob_bind hf
    refine L23 z1 z10 ?_ N (0 : Int32) (0 : Int64) (0 : Int32) crs_first cnt_total cnt_t enc_run enc_held hz10 H locs ls hP hD hS (lv_sub hl [5, 6, 4, 3, 2, 1, 0] rfl)
    · intro H locs ls hP hD hS hl
      refine lv_iload_n hx hb d_m633_210 rfl (lv_at hl 1 rfl) ?_
      refine lv_if_gt (tgt := 219) hx hb d_m633_211 (by decide) (fun hc => ?_) (fun hc => ?_)
      · replace hf := (if_pos hc).symm.trans hf
        exact J219 z10.2.1 z10.2.2.1 z10.2.2.2.1 z10.2.2.2.2.1 z10.2.2.2.2.2.1 z10.2.2.2.2.2.2 hf H locs ls hP hD hS (lv_sub hl [0, 2, 3] rfl)
      · replace hf := (if_neg hc).symm.trans hf
        refine lv_iload hx hb d_m633_214 (lv_at hl 3 rfl) ?_
        refine lv_if_le (tgt := 227) hx hb d_m633_216 (by decide) (fun hc => ?_) (fun hc => ?_)
        · replace hf := (if_pos hc).symm.trans hf
          obtain rfl := Option.some.inj hf
          subst hQ
          subst hAe
          exact W.vret hx hb hr (fun t ht hW => ⟨⟨(), rfl, trivial, by rw [ht]; exact hP, hD⟩, hS.F ht⟩) hS.2.2 d_m633_227
        · replace hf := (if_neg hc).symm.trans hf
          exact J219 z10.2.1 z10.2.2.1 z10.2.2.2.1 z10.2.2.2.2.1 z10.2.2.2.2.2.1 z10.2.2.2.2.2.2 hf H locs ls hP hD hS (lv_sub hl [0, 2, 3] rfl)
  exact hgo _ _ hP hS
def f_Encoder_encode_cnt_J69_265 (N : Nat) (rec : (Int32 × Int32 × (Nat → Int32) × Int32 × Int32 × Int32 × (Nat → Int32) × (Nat → Int32)) → Option (Int32 × (Nat → Int32) × Int32 × Int32 × Int32 × (Nat → Int32) × (Nat → Int32))) (v4_69 : Int32) (cnt_total_j265 : Int32) (cnt_t_j265 : Nat → Int32) (enc_run_j265 : Int32) (enc_held_j265 : Int32) (enc_runTable_j265 : Int32) (enc_p_j265 : Nat → Int32) (enc_r_j265 : Nat → Int32) : Option (Int32 × (Nat → Int32) × Int32 × Int32 × Int32 × (Nat → Int32) × (Nat → Int32)) :=
  rec (v4_69 + (1 : Int32), cnt_total_j265, cnt_t_j265, enc_run_j265, enc_held_j265, enc_runTable_j265, enc_p_j265, enc_r_j265)
def f_Encoder_encode_cnt_J69_261 (N : Nat) (rec : (Int32 × Int32 × (Nat → Int32) × Int32 × Int32 × Int32 × (Nat → Int32) × (Nat → Int32)) → Option (Int32 × (Nat → Int32) × Int32 × Int32 × Int32 × (Nat → Int32) × (Nat → Int32))) (cnt_total_j261 : Int32) (cnt_t_j261 : Nat → Int32) (enc_run_j261 : Int32) (enc_held_j261 : Int32) (enc_runTable_j261 : Int32) (v4_69 : Int32) (enc_p_j261 : Nat → Int32) (enc_r_j261 : Nat → Int32) : Option (Int32 × (Nat → Int32) × Int32 × Int32 × Int32 × (Nat → Int32) × (Nat → Int32)) :=
  (f_Encoder_sendRun_cnt N cnt_total_j261 cnt_t_j261 enc_run_j261 enc_held_j261 enc_runTable_j261).bind fun z5 =>
  f_Encoder_encode_cnt_J69_265 N rec v4_69 z5.1 z5.2.1 z5.2.2.1 z5.2.2.2 enc_runTable_j261 enc_p_j261 enc_r_j261
def f_Encoder_encode_cnt_J69_241 (N : Nat) (rec : (Int32 × Int32 × (Nat → Int32) × Int32 × Int32 × Int32 × (Nat → Int32) × (Nat → Int32)) → Option (Int32 × (Nat → Int32) × Int32 × Int32 × Int32 × (Nat → Int32) × (Nat → Int32))) (enc_run_j241 : Int32) (cnt_total_j241 : Int32) (cnt_t_j241 : Nat → Int32) (enc_held_j241 : Int32) (enc_runTable_j241 : Int32) (v4_69 : Int32) (enc_p_j241 : Nat → Int32) (enc_r_j241 : Nat → Int32) : Option (Int32 × (Nat → Int32) × Int32 × Int32 × Int32 × (Nat → Int32) × (Nat → Int32)) :=
  if enc_run_j241 = (32767 : Int32) then
    f_Encoder_encode_cnt_J69_261 N rec cnt_total_j241 cnt_t_j241 enc_run_j241 enc_held_j241 enc_runTable_j241 v4_69 enc_p_j241 enc_r_j241
  else
    if enc_held_j241 ≤ (900 : Int32) then
      f_Encoder_encode_cnt_J69_265 N rec v4_69 cnt_total_j241 cnt_t_j241 enc_run_j241 enc_held_j241 enc_runTable_j241 enc_p_j241 enc_r_j241
    else
      f_Encoder_encode_cnt_J69_261 N rec cnt_total_j241 cnt_t_j241 enc_run_j241 enc_held_j241 enc_runTable_j241 v4_69 enc_p_j241 enc_r_j241
def f_Encoder_encode_cnt_L69b (v3_69 : Int32) (crs_blocksOfUnit : Int32) (crs_ow : Nat → Int32) (crs_kind : Int32) (crs_pl : Nat → Int32) (n_pic_co : Nat) (pic_co : Nat → Int32) (crs_bits : Int32) (crs_dt : Nat → Int32) (crs_last : Int32) (crs_ot : Nat → Int32) (crs_first : Int32) (N : Nat) (rec : (Int32 × Int32 × (Nat → Int32) × Int32 × Int32 × Int32 × (Nat → Int32) × (Nat → Int32)) → Option (Int32 × (Nat → Int32) × Int32 × Int32 × Int32 × (Nat → Int32) × (Nat → Int32))) (v4_69 : Int32) (cnt_total_69 : Int32) (cnt_t_69 : Nat → Int32) (enc_run_69 : Int32) (enc_held_69 : Int32) (enc_runTable_69 : Int32) (enc_p_69 : Nat → Int32) (enc_r_69 : Nat → Int32) : Option (Int32 × (Nat → Int32) × Int32 × Int32 × Int32 × (Nat → Int32) × (Nat → Int32)) :=
  if (v3_69 + crs_blocksOfUnit) ≤ v4_69 then
    some (cnt_total_69, cnt_t_69, enc_run_69, enc_held_69, enc_runTable_69, enc_p_69, enc_r_69)
  else
    if v4_69 < 0 ∨ 192 ≤ v4_69.toNatClampNeg then none else
    if v4_69 < 0 ∨ 192 ≤ v4_69.toNatClampNeg then none else
    if (crs_ow v4_69.toNatClampNeg) < 0 ∨ 4 ≤ (crs_ow v4_69.toNatClampNeg).toNatClampNeg then none else
    if crs_kind = (0 : Int32) then
      (f_Encoder_sendDirect_cnt N (crs_ow v4_69.toNatClampNeg) (crs_pl v4_69.toNatClampNeg) n_pic_co pic_co crs_bits crs_dt cnt_total_69 cnt_t_69 enc_p_69).bind fun z3 =>
      (f_Encoder_sendOthers_cnt N (crs_pl v4_69.toNatClampNeg) (1 : Int32) n_pic_co pic_co crs_kind crs_last crs_bits z3.1 z3.2.1 enc_run_69 enc_held_69 (crs_ot (crs_ow v4_69.toNatClampNeg).toNatClampNeg) enc_r_69).bind fun z4 =>
      f_Encoder_encode_cnt_J69_241 N rec z4.2.2.1 z4.1 z4.2.1 z4.2.2.2.1 (crs_ot (crs_ow v4_69.toNatClampNeg).toNatClampNeg) v4_69 z3.2.2 z4.2.2.2.2
    else if crs_kind = (1 : Int32) then
      (f_Encoder_sendDirect_cnt N (crs_ow v4_69.toNatClampNeg) (crs_pl v4_69.toNatClampNeg) n_pic_co pic_co crs_bits crs_dt cnt_total_69 cnt_t_69 enc_p_69).bind fun z6 =>
      f_Encoder_encode_cnt_J69_241 N rec enc_run_69 z6.1 z6.2.1 enc_held_69 (crs_ot (crs_ow v4_69.toNatClampNeg).toNatClampNeg) v4_69 z6.2.2 enc_r_69
    else if crs_kind = (2 : Int32) then
      if (crs_pl v4_69.toNatClampNeg) < 0 ∨ n_pic_co ≤ (crs_pl v4_69.toNatClampNeg).toNatClampNeg then none else
      (f_Counter_putBits ).bind fun z7 =>
      f_Encoder_encode_cnt_J69_241 N rec enc_run_69 cnt_total_69 cnt_t_69 enc_held_69 (crs_ot (crs_ow v4_69.toNatClampNeg).toNatClampNeg) v4_69 enc_p_69 enc_r_69
    else if crs_kind = (3 : Int32) then
      (f_Encoder_sendOthers_cnt N (crs_pl v4_69.toNatClampNeg) crs_first n_pic_co pic_co crs_kind crs_last crs_bits cnt_total_69 cnt_t_69 enc_run_69 enc_held_69 (crs_ot (crs_ow v4_69.toNatClampNeg).toNatClampNeg) enc_r_69).bind fun z8 =>
      f_Encoder_encode_cnt_J69_241 N rec z8.2.2.1 z8.1 z8.2.1 z8.2.2.2.1 (crs_ot (crs_ow v4_69.toNatClampNeg).toNatClampNeg) v4_69 enc_p_69 z8.2.2.2.2
    else 
      (f_Encoder_refineOthers_cnt N (crs_pl v4_69.toNatClampNeg) n_pic_co pic_co crs_first crs_last crs_bits cnt_total_69 cnt_t_69 enc_run_69 enc_held_69 (crs_ot (crs_ow v4_69.toNatClampNeg).toNatClampNeg) enc_r_69).bind fun z9 =>
    f_Encoder_encode_cnt_J69_241 N rec z9.2.2.1 z9.1 z9.2.1 z9.2.2.2.1 (crs_ot (crs_ow v4_69.toNatClampNeg).toNatClampNeg) v4_69 enc_p_69 z9.2.2.2.2
def f_Encoder_encode_cnt_L69 (v3_69 : Int32) (crs_blocksOfUnit : Int32) (crs_ow : Nat → Int32) (crs_kind : Int32) (crs_pl : Nat → Int32) (n_pic_co : Nat) (pic_co : Nat → Int32) (crs_bits : Int32) (crs_dt : Nat → Int32) (crs_last : Int32) (crs_ot : Nat → Int32) (crs_first : Int32) (N : Nat) (k : Nat) : (Int32 × Int32 × (Nat → Int32) × Int32 × Int32 × Int32 × (Nat → Int32) × (Nat → Int32)) → Option (Int32 × (Nat → Int32) × Int32 × Int32 × Int32 × (Nat → Int32) × (Nat → Int32)) := it (fun rec a => f_Encoder_encode_cnt_L69b v3_69 crs_blocksOfUnit crs_ow crs_kind crs_pl n_pic_co pic_co crs_bits crs_dt crs_last crs_ot crs_first N rec a.1 a.2.1 a.2.2.1 a.2.2.2.1 a.2.2.2.2.1 a.2.2.2.2.2.1 a.2.2.2.2.2.2.1 a.2.2.2.2.2.2.2) k
def f_Encoder_encode_cnt_J11_56 (N : Nat) (rec : (Int32 × Int32 × (Nat → Int32) × Int32 × Int32 × Int32 × (Nat → Int32) × (Nat → Int32)) → Option (Int32 × (Nat → Int32) × Int32 × Int32 × Int32 × (Nat → Int32) × (Nat → Int32))) (v2_11 : Int32) (crs_blocksOfUnit : Int32) (crs_ow : Nat → Int32) (crs_kind : Int32) (crs_pl : Nat → Int32) (n_pic_co : Nat) (pic_co : Nat → Int32) (crs_bits : Int32) (crs_dt : Nat → Int32) (crs_last : Int32) (crs_ot : Nat → Int32) (crs_first : Int32) (cnt_total_j56 : Int32) (cnt_t_j56 : Nat → Int32) (enc_run_j56 : Int32) (enc_held_j56 : Int32) (enc_runTable_11 : Int32) (enc_p_j56 : Nat → Int32) (enc_r_11 : Nat → Int32) : Option (Int32 × (Nat → Int32) × Int32 × Int32 × Int32 × (Nat → Int32) × (Nat → Int32)) :=
  (f_Encoder_encode_cnt_L69 (v2_11 * crs_blocksOfUnit) crs_blocksOfUnit crs_ow crs_kind crs_pl n_pic_co pic_co crs_bits crs_dt crs_last crs_ot crs_first N N (v2_11 * crs_blocksOfUnit, cnt_total_j56, cnt_t_j56, enc_run_j56, enc_held_j56, enc_runTable_11, enc_p_j56, enc_r_11)).bind fun z10 =>
    rec (v2_11 + (1 : Int32), z10.1, z10.2.1, z10.2.2.1, z10.2.2.2.1, z10.2.2.2.2.1, z10.2.2.2.2.2.1, z10.2.2.2.2.2.2)
def f_Encoder_encode_cnt_L11b (crs_units : Int32) (crs_interval : Int32) (crs_blocksOfUnit : Int32) (crs_ow : Nat → Int32) (crs_kind : Int32) (crs_pl : Nat → Int32) (n_pic_co : Nat) (pic_co : Nat → Int32) (crs_bits : Int32) (crs_dt : Nat → Int32) (crs_last : Int32) (crs_ot : Nat → Int32) (crs_first : Int32) (N : Nat) (rec : (Int32 × Int32 × (Nat → Int32) × Int32 × Int32 × Int32 × (Nat → Int32) × (Nat → Int32)) → Option (Int32 × (Nat → Int32) × Int32 × Int32 × Int32 × (Nat → Int32) × (Nat → Int32))) (v2_11 : Int32) (cnt_total_11 : Int32) (cnt_t_11 : Nat → Int32) (enc_run_11 : Int32) (enc_held_11 : Int32) (enc_runTable_11 : Int32) (enc_p_11 : Nat → Int32) (enc_r_11 : Nat → Int32) : Option (Int32 × (Nat → Int32) × Int32 × Int32 × Int32 × (Nat → Int32) × (Nat → Int32)) :=
  if crs_units ≤ v2_11 then
    some (cnt_total_11, cnt_t_11, enc_run_11, enc_held_11, enc_runTable_11, enc_p_11, enc_r_11)
  else
    (f_Course_restartsAhead v2_11 crs_interval).bind fun z2 =>
    if z2 = 0 then
      f_Encoder_encode_cnt_J11_56 N rec v2_11 crs_blocksOfUnit crs_ow crs_kind crs_pl n_pic_co pic_co crs_bits crs_dt crs_last crs_ot crs_first cnt_total_11 cnt_t_11 enc_run_11 enc_held_11 enc_runTable_11 enc_p_11 enc_r_11
    else
      (f_Encoder_endPart_cnt N cnt_total_11 cnt_t_11 enc_run_11 enc_held_11 enc_runTable_11).bind fun z11 =>
      (f_Course_restartAhead v2_11 crs_interval).bind fun z12 =>
      (f_Counter_putRestart ).bind fun z13 =>
      (f_Encoder_forget_cnt N enc_p_11).bind fun z14 =>
      f_Encoder_encode_cnt_J11_56 N rec v2_11 crs_blocksOfUnit crs_ow crs_kind crs_pl n_pic_co pic_co crs_bits crs_dt crs_last crs_ot crs_first z11.1 z11.2.1 z14.1 z14.2.1 enc_runTable_11 z14.2.2 enc_r_11
def f_Encoder_encode_cnt_L11 (crs_units : Int32) (crs_interval : Int32) (crs_blocksOfUnit : Int32) (crs_ow : Nat → Int32) (crs_kind : Int32) (crs_pl : Nat → Int32) (n_pic_co : Nat) (pic_co : Nat → Int32) (crs_bits : Int32) (crs_dt : Nat → Int32) (crs_last : Int32) (crs_ot : Nat → Int32) (crs_first : Int32) (N : Nat) (k : Nat) : (Int32 × Int32 × (Nat → Int32) × Int32 × Int32 × Int32 × (Nat → Int32) × (Nat → Int32)) → Option (Int32 × (Nat → Int32) × Int32 × Int32 × Int32 × (Nat → Int32) × (Nat → Int32)) := it (fun rec a => f_Encoder_encode_cnt_L11b crs_units crs_interval crs_blocksOfUnit crs_ow crs_kind crs_pl n_pic_co pic_co crs_bits crs_dt crs_last crs_ot crs_first N rec a.1 a.2.1 a.2.2.1 a.2.2.2.1 a.2.2.2.2.1 a.2.2.2.2.2.1 a.2.2.2.2.2.2.1 a.2.2.2.2.2.2.2) k
def f_Encoder_encode_cnt (N : Nat) (n_pic_co : Nat) (pic_co : Nat → Int32) (crs_kind : Int32) (crs_first : Int32) (crs_last : Int32) (crs_bits : Int32) (crs_interval : Int32) (crs_units : Int32) (crs_blocksOfUnit : Int32) (crs_ow : Nat → Int32) (crs_pl : Nat → Int32) (crs_dt : Nat → Int32) (crs_ot : Nat → Int32) (cnt_total : Int32) (cnt_t : Nat → Int32) (enc_runTable : Int32) (enc_p : Nat → Int32) (enc_r : Nat → Int32) : Option (Int32 × (Nat → Int32) × Int32 × Int32 × Int32 × (Nat → Int32) × (Nat → Int32)) :=
  (f_Encoder_forget_cnt N enc_p).bind fun z1 =>
  (f_Encoder_encode_cnt_L11 crs_units crs_interval crs_blocksOfUnit crs_ow crs_kind crs_pl n_pic_co pic_co crs_bits crs_dt crs_last crs_ot crs_first N N ((0 : Int32), cnt_total, cnt_t, z1.1, z1.2.1, enc_runTable, z1.2.2, enc_r)).bind fun z15 =>
    (f_Encoder_endPart_cnt N z15.1 z15.2.1 z15.2.2.1 z15.2.2.2.1 z15.2.2.2.2.1).bind fun z16 =>
  some (z16.1, z16.2.1, z16.2.2.1, z16.2.2.2, z15.2.2.2.2.1, z15.2.2.2.2.2.1, z15.2.2.2.2.2.2)
abbrev w_Encoder_encode_cnt (cI cB cS cT : ClassId) (a_pic : Nat) (a_pic_co : Nat) (a_crs : Nat) (a_crs_ow : Nat) (a_crs_pl : Nat) (a_crs_dt : Nat) (a_crs_ot : Nat) (a_cnt : Nat) (a_cnt_t : Nat) (a_enc : Nat) (a_enc_p : Nat) (a_enc_r : Nat) (a_pic_h : Nat) (a_pic_v : Nat) (a_pic_ac : Nat) (a_pic_dn : Nat) (a_pic_oa : Nat) (a_pic_od : Nat) (a_pic_st : Nat) (a_enc_sink : Nat) (pic_many : Int32) (pic_unitsAcross : Int32) (pic_unitsDown : Int32) (pic_blocks : Int32) (n_pic_co : Nat) (pic_co : Nat → Int32) (crs_kind : Int32) (crs_first : Int32) (crs_last : Int32) (crs_bits : Int32) (crs_interval : Int32) (crs_units : Int32) (crs_blocksOfUnit : Int32) (crs_laid : Int32) (crs_ow : Nat → Int32) (crs_pl : Nat → Int32) (crs_dt : Nat → Int32) (crs_ot : Nat → Int32) (cnt_total : Int32) (cnt_t : Nat → Int32) (enc_run : Int32) (enc_held : Int32) (enc_runTable : Int32) (enc_p : Nat → Int32) (enc_r : Nat → Int32) : va_W := [(a_pic, .inr (8, [.ref a_pic_h, .ref a_pic_v, .ref a_pic_ac, .ref a_pic_dn, .ref a_pic_oa, .ref a_pic_od, .ref a_pic_st, .int pic_many, .int pic_unitsAcross, .int pic_unitsDown, .int pic_blocks, .ref a_pic_co])), (a_pic_co, .inl (cS, n_pic_co, .inl pic_co)), (a_crs, .inr (4, [.ref a_pic, .ref a_crs_ow, .ref a_crs_pl, .ref a_crs_dt, .ref a_crs_ot, .int crs_kind, .int crs_first, .int crs_last, .int crs_bits, .int crs_interval, .int crs_units, .int crs_blocksOfUnit, .int crs_laid])), (a_crs_ow, .inl (cI, 192, .inl crs_ow)), (a_crs_pl, .inl (cI, 192, .inl crs_pl)), (a_crs_dt, .inl (cI, 4, .inl crs_dt)), (a_crs_ot, .inl (cI, 4, .inl crs_ot)), (a_cnt, .inr (3, [.ref a_cnt_t, .int cnt_total])), (a_cnt_t, .inl (cI, 2048, .inl cnt_t)), (a_enc, .inr (7, [.ref a_pic, .ref a_crs, .ref a_enc_p, .ref a_enc_r, .ref a_enc_sink, .int enc_run, .int enc_held, .int enc_runTable])), (a_enc_p, .inl (cI, 4, .inl enc_p)), (a_enc_r, .inl (cB, 964, .inl enc_r))]
def rm_Encoder_encode_cnt : Room := { frames := 4, cells := 0, slots := 0, locals := 94 }
set_option maxHeartbeats 1000000 in
set_option maxRecDepth 100000 in
theorem c_Encoder_encode_cnt (l : Launch) (dC : Nat → ClassId) (dI : Nat → Nat → Nat) (cI cB cS cT : ClassId) (N : Nat) (a_pic : Nat) (a_pic_co : Nat) (a_crs : Nat) (a_crs_ow : Nat) (a_crs_pl : Nat) (a_crs_dt : Nat) (a_crs_ot : Nat) (a_cnt : Nat) (a_cnt_t : Nat) (a_enc : Nat) (a_enc_p : Nat) (a_enc_r : Nat) (a_pic_h : Nat) (a_pic_v : Nat) (a_pic_ac : Nat) (a_pic_dn : Nat) (a_pic_oa : Nat) (a_pic_od : Nat) (a_pic_st : Nat) (a_enc_sink : Nat) (pic_many : Int32) (pic_unitsAcross : Int32) (pic_unitsDown : Int32) (pic_blocks : Int32) (n_pic_co : Nat) (pic_co : Nat → Int32) (crs_kind : Int32) (crs_first : Int32) (crs_last : Int32) (crs_bits : Int32) (crs_interval : Int32) (crs_units : Int32) (crs_blocksOfUnit : Int32) (crs_laid : Int32) (crs_ow : Nat → Int32) (crs_pl : Nat → Int32) (crs_dt : Nat → Int32) (crs_ot : Nat → Int32) (cnt_total : Int32) (cnt_t : Nat → Int32) (enc_run : Int32) (enc_held : Int32) (enc_runTable : Int32) (enc_p : Nat → Int32) (enc_r : Nat → Int32) (sz : Nat) (z : Int32 × (Nat → Int32) × Int32 × Int32 × Int32 × (Nat → Int32) × (Nat → Int32)) (hf : f_Encoder_encode_cnt N n_pic_co pic_co crs_kind crs_first crs_last crs_bits crs_interval crs_units crs_blocksOfUnit crs_ow crs_pl crs_dt crs_ot cnt_total cnt_t enc_runTable enc_p enc_r = some z) : Met l y_m545 ws_m545 rm_Encoder_encode_cnt (gPre (dC, dI) [.ref a_enc, .ref a_cnt] (gT cI cB cS cT) (w_Encoder_encode_cnt cI cB cS cT a_pic a_pic_co a_crs a_crs_ow a_crs_pl a_crs_dt a_crs_ot a_cnt a_cnt_t a_enc a_enc_p a_enc_r a_pic_h a_pic_v a_pic_ac a_pic_dn a_pic_oa a_pic_od a_pic_st a_enc_sink pic_many pic_unitsAcross pic_unitsDown pic_blocks n_pic_co pic_co crs_kind crs_first crs_last crs_bits crs_interval crs_units crs_blocksOfUnit crs_laid crs_ow crs_pl crs_dt crs_ot cnt_total cnt_t enc_run enc_held enc_runTable enc_p enc_r) sz) (gQv (dC, dI) (gT cI cB cS cT) (w_Encoder_encode_cnt cI cB cS cT a_pic a_pic_co a_crs a_crs_ow a_crs_pl a_crs_dt a_crs_ot a_cnt a_cnt_t a_enc a_enc_p a_enc_r a_pic_h a_pic_v a_pic_ac a_pic_dn a_pic_oa a_pic_od a_pic_st a_enc_sink pic_many pic_unitsAcross pic_unitsDown pic_blocks n_pic_co pic_co crs_kind crs_first crs_last crs_bits crs_interval crs_units crs_blocksOfUnit crs_laid crs_ow crs_pl crs_dt crs_ot cnt_total cnt_t enc_run enc_held enc_runTable enc_p enc_r) (w_Encoder_encode_cnt cI cB cS cT a_pic a_pic_co a_crs a_crs_ow a_crs_pl a_crs_dt a_crs_ot a_cnt a_cnt_t a_enc a_enc_p a_enc_r a_pic_h a_pic_v a_pic_ac a_pic_dn a_pic_oa a_pic_od a_pic_st a_cnt pic_many pic_unitsAcross pic_unitsDown pic_blocks n_pic_co pic_co crs_kind crs_first crs_last crs_bits crs_interval crs_units crs_blocksOfUnit crs_laid crs_ow crs_pl crs_dt crs_ot z.1 z.2.1 z.2.2.1 z.2.2.2.1 z.2.2.2.2.1 z.2.2.2.2.2.1 z.2.2.2.2.2.2) sz) 0 0 (va_A (w_Encoder_encode_cnt cI cB cS cT a_pic a_pic_co a_crs a_crs_ow a_crs_pl a_crs_dt a_crs_ot a_cnt a_cnt_t a_enc a_enc_p a_enc_r a_pic_h a_pic_v a_pic_ac a_pic_dn a_pic_oa a_pic_od a_pic_st a_enc_sink pic_many pic_unitsAcross pic_unitsDown pic_blocks n_pic_co pic_co crs_kind crs_first crs_last crs_bits crs_interval crs_units crs_blocksOfUnit crs_laid crs_ow crs_pl crs_dt crs_ot cnt_total cnt_t enc_run enc_held enc_runTable enc_p enc_r) sz) := by
  refine Met.ofW (cc := prog_8_method_2_code) (maxL := 7) (ret := none) (by decide) rfl ?_
  intro p e s m args below meth c s₁ B hml hv
  obtain ⟨hargs, hsz, hP, hKN, hD0⟩ := hv
  have hK := hKN.1
  have hx := B.exec
  have hb := B.bytes
  have hr := B.returns
  have hts := atoms_spec (ws := ws_m545) B.pre
  have hown : s.vm.findClass "ScanCoder$Encoder" = some m.cls := findClass_of_methodNamed B.named
  have hlocks := B.notSynchronized
  have k0 := hts _ (List.mem_cons_of_mem _ tw_347)
  have k1 := hts _ (List.mem_cons_of_mem _ tw_344)
  have k2 := hts _ (List.mem_cons_of_mem _ tw_186)
  have k3 := hts _ (List.mem_cons_of_mem _ tw_190)
  have k4 := hts _ (List.mem_cons_of_mem _ tw_159)
  have k5 := hts _ (List.mem_cons_of_mem _ tw_162)
  have k6 := hts _ (List.mem_cons_of_mem _ tw_169)
  have k7 := hts _ (List.mem_cons_of_mem _ tw_350)
  have k8 := hts _ (List.mem_cons_of_mem _ tw_172)
  have k9 := hts _ (List.mem_cons_of_mem _ tw_348)
  have k10 := hts _ (List.mem_cons_of_mem _ tw_349)
  have k11 := hts _ (List.mem_cons_of_mem _ tw_343)
  have k12 := hts _ (List.mem_cons_of_mem _ tw_80)
  have k13 := hts _ (List.mem_cons_of_mem _ tw_181)
  have k14 := hts _ (List.mem_cons_of_mem _ tw_175)
  have n0 : ∀ w ∈ u_ws "ScanCoder$Encoder" T_7 8, w ∈ ws_m545 := fun w h => List.mem_cons_of_mem _ (in_7 w h)
  have n1 : ∀ w ∈ u_ws "ScanCoder$Course" T_4 13, w ∈ ws_m545 := fun w h => List.mem_cons_of_mem _ (in_4 w h)
  have n2 : ∀ w ∈ u_ws "ScanCoder$Picture" T_8 12, w ∈ ws_m545 := fun w h => List.mem_cons_of_mem _ (in_8 w h)
  subst hsz
  have hD := hD0.self (sz := s.heap.size)
  obtain ⟨A, hAe⟩ : ∃ A : Nat → Prop, va_A (w_Encoder_encode_cnt cI cB cS cT a_pic a_pic_co a_crs a_crs_ow a_crs_pl a_crs_dt a_crs_ot a_cnt a_cnt_t a_enc a_enc_p a_enc_r a_pic_h a_pic_v a_pic_ac a_pic_dn a_pic_oa a_pic_od a_pic_st a_enc_sink pic_many pic_unitsAcross pic_unitsDown pic_blocks n_pic_co pic_co crs_kind crs_first crs_last crs_bits crs_interval crs_units crs_blocksOfUnit crs_laid crs_ow crs_pl crs_dt crs_ot cnt_total cnt_t enc_run enc_held enc_runTable enc_p enc_r) s.heap.size = A := ⟨_, rfl⟩
  rw [hAe] at hD
  have hA : ∀ q : Nat, s.heap.size ≤ q → A q := fun q h => by rw [← hAe]; exact Or.inr h
  have hS : va_S A s.heap s.heap [] := va_S.rf
  have hl := lv_entry ([.ref a_enc, .ref a_cnt]) (n := 7) (Nat.le_of_ble_eq_true rfl)
  have hfr : entryFrame m args 7 = F0 m 0 ((lg_sl ([.ref a_enc, .ref a_cnt]) ++ List.replicate (7 - (lg_sl ([.ref a_enc, .ref a_cnt])).length) Slot.unset).toArray) [] := by rw [hargs]; exact lg_entry_eq _ _ _
  rw [hfr]
  generalize (lg_sl ([.ref a_enc, .ref a_cnt]) ++ List.replicate (7 - (lg_sl ([.ref a_enc, .ref a_cnt])).length) Slot.unset).toArray = ls at hl ⊢
  have hl : lv_has ls 7 [(0, .ref a_enc), (1, .ref a_cnt)] := hl
  refine gen_Q (fun Q hQ => ?_)
  clear hfr
  have L69 : ∀ (v3_69 : Int32) (v2_11 : Int32) (z : Int32 × (Nat → Int32) × Int32 × Int32 × Int32 × (Nat → Int32) × (Nat → Int32)), (GW (dC, dI) A p l e (headSpec ws_m545 rm_Encoder_encode_cnt).room s m args below meth c 0 0 Q 7 271 (w_Encoder_encode_cnt cI cB cS cT a_pic a_pic_co a_crs a_crs_ow a_crs_pl a_crs_dt a_crs_ot a_cnt a_cnt_t a_enc a_enc_p a_enc_r a_pic_h a_pic_v a_pic_ac a_pic_dn a_pic_oa a_pic_od a_pic_st a_cnt pic_many pic_unitsAcross pic_unitsDown pic_blocks n_pic_co pic_co crs_kind crs_first crs_last crs_bits crs_interval crs_units crs_blocksOfUnit crs_laid crs_ow crs_pl crs_dt crs_ot z.1 z.2.1 z.2.2.1 z.2.2.2.1 z.2.2.2.2.1 z.2.2.2.2.2.1 z.2.2.2.2.2.2) [(0, .ref a_enc), (2, .int v2_11)] []) → ∀ (k : Nat) (v4_69 : Int32) (cnt_total_69 : Int32) (cnt_t_69 : Nat → Int32) (enc_run_69 : Int32) (enc_held_69 : Int32) (enc_runTable_69 : Int32) (enc_p_69 : Nat → Int32) (enc_r_69 : Nat → Int32), f_Encoder_encode_cnt_L69 v3_69 crs_blocksOfUnit crs_ow crs_kind crs_pl n_pic_co pic_co crs_bits crs_dt crs_last crs_ot crs_first N k (v4_69, cnt_total_69, cnt_t_69, enc_run_69, enc_held_69, enc_runTable_69, enc_p_69, enc_r_69) = some z → GW (dC, dI) A p l e (headSpec ws_m545 rm_Encoder_encode_cnt).room s m args below meth c 0 0 Q 7 69 (w_Encoder_encode_cnt cI cB cS cT a_pic a_pic_co a_crs a_crs_ow a_crs_pl a_crs_dt a_crs_ot a_cnt a_cnt_t a_enc a_enc_p a_enc_r a_pic_h a_pic_v a_pic_ac a_pic_dn a_pic_oa a_pic_od a_pic_st a_cnt pic_many pic_unitsAcross pic_unitsDown pic_blocks n_pic_co pic_co crs_kind crs_first crs_last crs_bits crs_interval crs_units crs_blocksOfUnit crs_laid crs_ow crs_pl crs_dt crs_ot cnt_total_69 cnt_t_69 enc_run_69 enc_held_69 enc_runTable_69 enc_p_69 enc_r_69) [(0, .ref a_enc), (2, .int v2_11), (3, .int v3_69), (4, .int v4_69)] [] := by
    intro v3_69 v2_11 z hE0 k
    induction k with
    | zero =>
      intro v4_69 cnt_total_69 cnt_t_69 enc_run_69 enc_held_69 enc_runTable_69 enc_p_69 enc_r_69 hf
      exact (it_zero hf).elim
    | succ k ih =>
      intro v4_69 cnt_total_69 cnt_t_69 enc_run_69 enc_held_69 enc_runTable_69 enc_p_69 enc_r_69 hf H locs ls hP hD hS hl
      have J69_265 : ∀ (cnt_total_j265 : Int32) (cnt_t_j265 : Nat → Int32) (enc_run_j265 : Int32) (enc_held_j265 : Int32) (enc_runTable_j265 : Int32) (enc_p_j265 : Nat → Int32) (enc_r_j265 : Nat → Int32), f_Encoder_encode_cnt_J69_265 N (f_Encoder_encode_cnt_L69 v3_69 crs_blocksOfUnit crs_ow crs_kind crs_pl n_pic_co pic_co crs_bits crs_dt crs_last crs_ot crs_first N k) v4_69 cnt_total_j265 cnt_t_j265 enc_run_j265 enc_held_j265 enc_runTable_j265 enc_p_j265 enc_r_j265 = some z → GW (dC, dI) A p l e (headSpec ws_m545 rm_Encoder_encode_cnt).room s m args below meth c 0 0 Q 7 265 (w_Encoder_encode_cnt cI cB cS cT a_pic a_pic_co a_crs a_crs_ow a_crs_pl a_crs_dt a_crs_ot a_cnt a_cnt_t a_enc a_enc_p a_enc_r a_pic_h a_pic_v a_pic_ac a_pic_dn a_pic_oa a_pic_od a_pic_st a_cnt pic_many pic_unitsAcross pic_unitsDown pic_blocks n_pic_co pic_co crs_kind crs_first crs_last crs_bits crs_interval crs_units crs_blocksOfUnit crs_laid crs_ow crs_pl crs_dt crs_ot cnt_total_j265 cnt_t_j265 enc_run_j265 enc_held_j265 enc_runTable_j265 enc_p_j265 enc_r_j265) [(0, .ref a_enc), (2, .int v2_11), (3, .int v3_69), (4, .int v4_69)] [] := by
        intro cnt_total_j265 cnt_t_j265 enc_run_j265 enc_held_j265 enc_runTable_j265 enc_p_j265 enc_r_j265 hf H locs ls hP hD hS hl
        unfold f_Encoder_encode_cnt_J69_265 at hf
        refine lv_iinc (v := v4_69 + (1 : Int32)) (lv' := [(4, .int (v4_69 + (1 : Int32))), (0, .ref a_enc), (2, .int v2_11), (3, .int v3_69)]) hx hb d_m545_265 hl (k := 3) rfl rfl (by decide) rfl (fun ls hl => ?_)
        refine lv_goto (tgt := 69) hx hb d_m545_268 (by decide) ?_
        exact ih (v4_69 + (1 : Int32)) cnt_total_j265 cnt_t_j265 enc_run_j265 enc_held_j265 enc_runTable_j265 enc_p_j265 enc_r_j265 hf H locs ls hP hD hS (lv_sub hl [1, 2, 3, 0] rfl)
      have J69_261 : ∀ (cnt_total_j261 : Int32) (cnt_t_j261 : Nat → Int32) (enc_run_j261 : Int32) (enc_held_j261 : Int32) (enc_runTable_j261 : Int32) (enc_p_j261 : Nat → Int32) (enc_r_j261 : Nat → Int32), f_Encoder_encode_cnt_J69_261 N (f_Encoder_encode_cnt_L69 v3_69 crs_blocksOfUnit crs_ow crs_kind crs_pl n_pic_co pic_co crs_bits crs_dt crs_last crs_ot crs_first N k) cnt_total_j261 cnt_t_j261 enc_run_j261 enc_held_j261 enc_runTable_j261 v4_69 enc_p_j261 enc_r_j261 = some z → GW (dC, dI) A p l e (headSpec ws_m545 rm_Encoder_encode_cnt).room s m args below meth c 0 0 Q 7 261 (w_Encoder_encode_cnt cI cB cS cT a_pic a_pic_co a_crs a_crs_ow a_crs_pl a_crs_dt a_crs_ot a_cnt a_cnt_t a_enc a_enc_p a_enc_r a_pic_h a_pic_v a_pic_ac a_pic_dn a_pic_oa a_pic_od a_pic_st a_cnt pic_many pic_unitsAcross pic_unitsDown pic_blocks n_pic_co pic_co crs_kind crs_first crs_last crs_bits crs_interval crs_units crs_blocksOfUnit crs_laid crs_ow crs_pl crs_dt crs_ot cnt_total_j261 cnt_t_j261 enc_run_j261 enc_held_j261 enc_runTable_j261 enc_p_j261 enc_r_j261) [(0, .ref a_enc), (2, .int v2_11), (3, .int v3_69), (4, .int v4_69)] [] := by
        intro cnt_total_j261 cnt_t_j261 enc_run_j261 enc_held_j261 enc_runTable_j261 enc_p_j261 enc_r_j261 hf H locs ls hP hD hS hl
        unfold f_Encoder_encode_cnt_J69_261 at hf
        refine lv_aload_n hx hb d_m545_261 rfl (lv_at hl 0 rfl) ?_
        obtain ⟨z5, hz5, hf⟩ := ob_bind hf
        refine g_callv (wc := (w_Encoder_sendRun_cnt cI cB cS cT a_cnt a_cnt_t a_enc a_enc_r a_pic a_crs a_enc_p cnt_total_j261 cnt_t_j261 enc_run_j261 enc_held_j261 enc_runTable_j261 enc_r_j261)) (w1 := (w_Encoder_sendRun_cnt cI cB cS cT a_cnt a_cnt_t a_enc a_enc_r a_pic a_crs a_enc_p z5.1 z5.2.1 z5.2.2.1 z5.2.2.2 enc_runTable_j261 enc_r_j261)) (w2 := (w_Encoder_encode_cnt cI cB cS cT a_pic a_pic_co a_crs a_crs_ow a_crs_pl a_crs_dt a_crs_ot a_cnt a_cnt_t a_enc a_enc_p a_enc_r a_pic_h a_pic_v a_pic_ac a_pic_dn a_pic_oa a_pic_od a_pic_st a_cnt pic_many pic_unitsAcross pic_unitsDown pic_blocks n_pic_co pic_co crs_kind crs_first crs_last crs_bits crs_interval crs_units crs_blocksOfUnit crs_laid crs_ow crs_pl crs_dt crs_ot z5.1 z5.2.1 z5.2.2.1 z5.2.2.2 enc_runTable_j261 enc_p_j261 enc_r_j261)) [7, 8, 9, 11] [none, none, none, none, none, none, none, some 0, some 1, some 2, none, some 3] hP hD hS hA rfl rfl rfl rfl (va_runV (As := []) (rest := []) ⟨hx, hb, hml, hown, hts⟩ (c_Encoder_sendRun_cnt l dC dI cI cB cS cT N a_cnt a_cnt_t a_enc a_enc_r a_pic a_crs a_enc_p cnt_total_j261 cnt_t_j261 enc_run_j261 enc_held_j261 enc_runTable_j261 enc_r_j261 H.size z5 hz5) ⟨(callB_of 0 hts (gi tw_562 rfl) rfl rfl rfl (hts _ (List.mem_cons_of_mem _ tw_13)) (hts _ (List.mem_cons_of_mem _ tw_559)) (by decide +kernel) ⟨Nat.le_of_ble_eq_true rfl, Nat.le_of_ble_eq_true rfl⟩), hts _ (List.mem_cons_of_mem _ tw_561), hts _ (List.mem_cons_of_mem _ ts_m562)⟩ ⟨g_blind, va_recv hK hP (ci := 7) (q0 := 9) rfl rfl, g_at hKN (g_pm hP [7, 8, 9, 11] rfl) (hD.sub [7, 8, 9, 11] (by decide) rfl)⟩ rfl rfl hl.1 rfl (lv_room (Nat.le_of_ble_eq_true rfl)) d_m545_262 ⟨Nat.zero_le _, Nat.zero_le _⟩) (fun H locs hP hD hS => ?_)
        refine W.eq (g2 := F0 m 265 ls []) rfl ?_
        exact J69_265 z5.1 z5.2.1 z5.2.2.1 z5.2.2.2 enc_runTable_j261 enc_p_j261 enc_r_j261 hf H locs ls hP hD hS hl
      have J69_241 : ∀ (cnt_total_j241 : Int32) (cnt_t_j241 : Nat → Int32) (enc_run_j241 : Int32) (enc_held_j241 : Int32) (enc_runTable_j241 : Int32) (enc_p_j241 : Nat → Int32) (enc_r_j241 : Nat → Int32), f_Encoder_encode_cnt_J69_241 N (f_Encoder_encode_cnt_L69 v3_69 crs_blocksOfUnit crs_ow crs_kind crs_pl n_pic_co pic_co crs_bits crs_dt crs_last crs_ot crs_first N k) enc_run_j241 cnt_total_j241 cnt_t_j241 enc_held_j241 enc_runTable_j241 v4_69 enc_p_j241 enc_r_j241 = some z → GW (dC, dI) A p l e (headSpec ws_m545 rm_Encoder_encode_cnt).room s m args below meth c 0 0 Q 7 241 (w_Encoder_encode_cnt cI cB cS cT a_pic a_pic_co a_crs a_crs_ow a_crs_pl a_crs_dt a_crs_ot a_cnt a_cnt_t a_enc a_enc_p a_enc_r a_pic_h a_pic_v a_pic_ac a_pic_dn a_pic_oa a_pic_od a_pic_st a_cnt pic_many pic_unitsAcross pic_unitsDown pic_blocks n_pic_co pic_co crs_kind crs_first crs_last crs_bits crs_interval crs_units crs_blocksOfUnit crs_laid crs_ow crs_pl crs_dt crs_ot cnt_total_j241 cnt_t_j241 enc_run_j241 enc_held_j241 enc_runTable_j241 enc_p_j241 enc_r_j241) [(0, .ref a_enc), (2, .int v2_11), (3, .int v3_69), (4, .int v4_69)] [] := by
        intro cnt_total_j241 cnt_t_j241 enc_run_j241 enc_held_j241 enc_runTable_j241 enc_p_j241 enc_r_j241 hf H locs ls hP hD hS hl
        unfold f_Encoder_encode_cnt_J69_241 at hf
        refine lv_aload_n hx hb d_m545_241 rfl (lv_at hl 0 rfl) ?_
        refine va_get (D := (dC, dI)) (ci := 7) (v := .int enc_run_j241) (C := "ScanCoder$Encoder") (T := T_7) (N := 8) hx hb hts n0 hown hK hP 9 rfl rfl 5 (by decide) k9 (fun _ h9 => h9) rfl d_m545_242 ?_
        refine lv_sipush (v := (32767 : Int32)) hx hb d_m545_245 (by decide) ?_
        refine lv_icmp_eq (tgt := 261) hx hb d_m545_248 (by decide) (fun hc => ?_) (fun hc => ?_)
        · replace hf := (if_pos hc).symm.trans hf
          exact J69_261 cnt_total_j241 cnt_t_j241 enc_run_j241 enc_held_j241 enc_runTable_j241 enc_p_j241 enc_r_j241 hf H locs ls hP hD hS hl
        · replace hf := (if_neg hc).symm.trans hf
          refine lv_aload_n hx hb d_m545_251 rfl (lv_at hl 0 rfl) ?_
          refine va_get (D := (dC, dI)) (ci := 7) (v := .int enc_held_j241) (C := "ScanCoder$Encoder") (T := T_7) (N := 8) hx hb hts n0 hown hK hP 9 rfl rfl 6 (by decide) k10 (fun _ h9 => h9) rfl d_m545_252 ?_
          refine lv_sipush (v := (900 : Int32)) hx hb d_m545_255 (by decide) ?_
          refine lv_icmp_le (tgt := 265) hx hb d_m545_258 (by decide) (fun hc => ?_) (fun hc => ?_)
          · replace hf := (if_pos hc).symm.trans hf
            exact J69_265 cnt_total_j241 cnt_t_j241 enc_run_j241 enc_held_j241 enc_runTable_j241 enc_p_j241 enc_r_j241 hf H locs ls hP hD hS hl
          · replace hf := (if_neg hc).symm.trans hf
            exact J69_261 cnt_total_j241 cnt_t_j241 enc_run_j241 enc_held_j241 enc_runTable_j241 enc_p_j241 enc_r_j241 hf H locs ls hP hD hS hl
      have hf : f_Encoder_encode_cnt_L69b v3_69 crs_blocksOfUnit crs_ow crs_kind crs_pl n_pic_co pic_co crs_bits crs_dt crs_last crs_ot crs_first N (f_Encoder_encode_cnt_L69 v3_69 crs_blocksOfUnit crs_ow crs_kind crs_pl n_pic_co pic_co crs_bits crs_dt crs_last crs_ot crs_first N k) v4_69 cnt_total_69 cnt_t_69 enc_run_69 enc_held_69 enc_runTable_69 enc_p_69 enc_r_69 = some z := hf
      unfold f_Encoder_encode_cnt_L69b at hf
      refine lv_iload hx hb d_m545_69 (lv_at hl 3 rfl) ?_
      refine lv_iload_n hx hb d_m545_71 rfl (lv_at hl 2 rfl) ?_
      refine lv_aload_n hx hb d_m545_72 rfl (lv_at hl 0 rfl) ?_
      refine va_get (D := (dC, dI)) (ci := 7) (v := .ref a_crs) (C := "ScanCoder$Encoder") (T := T_7) (N := 8) hx hb hts n0 hown hK hP 9 rfl rfl 1 (by decide) k1 (fun _ h9 => h9) rfl d_m545_73 ?_
      refine va_get (D := (dC, dI)) (ci := 4) (v := .int crs_blocksOfUnit) (C := "ScanCoder$Course") (T := T_4) (N := 13) hx hb hts n1 hown hK hP 2 rfl rfl 11 (by decide) k3 (fun _ h9 => h9) rfl d_m545_76 ?_
      refine lv_iadd hx hb d_m545_79 ?_
      refine lv_icmp_ge (tgt := 271) hx hb d_m545_80 (by decide) (fun hc => ?_) (fun hc => ?_)
      · replace hf := (if_pos hc).symm.trans hf
        obtain rfl := Option.some.inj hf
        exact hE0  H locs ls hP hD hS (lv_sub hl [0, 1] rfl)
      · replace hf := (if_neg hc).symm.trans hf
        refine lv_aload_n hx hb d_m545_83 rfl (lv_at hl 0 rfl) ?_
        refine va_get (D := (dC, dI)) (ci := 7) (v := .ref a_crs) (C := "ScanCoder$Encoder") (T := T_7) (N := 8) hx hb hts n0 hown hK hP 9 rfl rfl 1 (by decide) k1 (fun _ h9 => h9) rfl d_m545_84 ?_
        refine va_get (D := (dC, dI)) (ci := 4) (v := .ref a_crs_ow) (C := "ScanCoder$Course") (T := T_4) (N := 13) hx hb hts n1 hown hK hP 2 rfl rfl 1 (by decide) k4 (fun _ h9 => h9) rfl d_m545_87 ?_
        refine lv_iload hx hb d_m545_90 (lv_at hl 3 rfl) ?_
        obtain ⟨hi, hf⟩ := ob_if hf
        refine va_iald hx hb hK hP 3 0 rfl rfl hi d_m545_92 ?_
        refine lv_istore (lv' := [(5, .int (crs_ow v4_69.toNatClampNeg)), (0, .ref a_enc), (2, .int v2_11), (3, .int v3_69), (4, .int v4_69)]) hx hb d_m545_93 hl (by decide) rfl (fun ls hl => ?_)
        refine lv_aload_n hx hb d_m545_95 rfl (lv_at hl 1 rfl) ?_
        refine va_get (D := (dC, dI)) (ci := 7) (v := .ref a_crs) (C := "ScanCoder$Encoder") (T := T_7) (N := 8) hx hb hts n0 hown hK hP 9 rfl rfl 1 (by decide) k1 (fun _ h9 => h9) rfl d_m545_96 ?_
        refine va_get (D := (dC, dI)) (ci := 4) (v := .ref a_crs_pl) (C := "ScanCoder$Course") (T := T_4) (N := 13) hx hb hts n1 hown hK hP 2 rfl rfl 2 (by decide) k5 (fun _ h9 => h9) rfl d_m545_99 ?_
        refine lv_iload hx hb d_m545_102 (lv_at hl 4 rfl) ?_
        obtain ⟨hi, hf⟩ := ob_if hf
        refine va_iald hx hb hK hP 4 0 rfl rfl hi d_m545_104 ?_
        refine lv_istore (lv' := [(6, .int (crs_pl v4_69.toNatClampNeg)), (5, .int (crs_ow v4_69.toNatClampNeg)), (0, .ref a_enc), (2, .int v2_11), (3, .int v3_69), (4, .int v4_69)]) hx hb d_m545_105 hl (by decide) rfl (fun ls hl => ?_)
        refine lv_aload_n hx hb d_m545_107 rfl (lv_at hl 2 rfl) ?_
        refine lv_aload_n hx hb d_m545_108 rfl (lv_at hl 2 rfl) ?_
        refine va_get (D := (dC, dI)) (ci := 7) (v := .ref a_crs) (C := "ScanCoder$Encoder") (T := T_7) (N := 8) hx hb hts n0 hown hK hP 9 rfl rfl 1 (by decide) k1 (fun _ h9 => h9) rfl d_m545_109 ?_
        refine va_get (D := (dC, dI)) (ci := 4) (v := .ref a_crs_ot) (C := "ScanCoder$Course") (T := T_4) (N := 13) hx hb hts n1 hown hK hP 2 rfl rfl 4 (by decide) k6 (fun _ h9 => h9) rfl d_m545_112 ?_
        refine lv_iload hx hb d_m545_115 (lv_at hl 1 rfl) ?_
        obtain ⟨hi, hf⟩ := ob_if hf
        refine va_iald hx hb hK hP 6 0 rfl rfl hi d_m545_117 ?_
        refine va_put (D := (dC, dI)) (ci := 7) (v := .int (crs_ot (crs_ow v4_69.toNatClampNeg).toNatClampNeg)) (ty := .int) (C := "ScanCoder$Encoder") (T := T_7) (N := 8) hx hb hts n0 ty_7 tyok_7 nm_7 hown hK hP hD hS 9 rfl rfl 7 (by decide) k7 (fun _ h9 => h9) rfl (by decide +kernel) rfl rfl (Nat.le_of_ble_eq_true rfl) d_m545_118 (fun H locs hP hD hS => ?_)
        have hP : va_P (dC, dI) vwCl (w_Encoder_encode_cnt cI cB cS cT a_pic a_pic_co a_crs a_crs_ow a_crs_pl a_crs_dt a_crs_ot a_cnt a_cnt_t a_enc a_enc_p a_enc_r a_pic_h a_pic_v a_pic_ac a_pic_dn a_pic_oa a_pic_od a_pic_st a_cnt pic_many pic_unitsAcross pic_unitsDown pic_blocks n_pic_co pic_co crs_kind crs_first crs_last crs_bits crs_interval crs_units crs_blocksOfUnit crs_laid crs_ow crs_pl crs_dt crs_ot cnt_total_69 cnt_t_69 enc_run_69 enc_held_69 (crs_ot (crs_ow v4_69.toNatClampNeg).toNatClampNeg) enc_p_69 enc_r_69) H := hP
        have hD : va_D A (w_Encoder_encode_cnt cI cB cS cT a_pic a_pic_co a_crs a_crs_ow a_crs_pl a_crs_dt a_crs_ot a_cnt a_cnt_t a_enc a_enc_p a_enc_r a_pic_h a_pic_v a_pic_ac a_pic_dn a_pic_oa a_pic_od a_pic_st a_cnt pic_many pic_unitsAcross pic_unitsDown pic_blocks n_pic_co pic_co crs_kind crs_first crs_last crs_bits crs_interval crs_units crs_blocksOfUnit crs_laid crs_ow crs_pl crs_dt crs_ot cnt_total_69 cnt_t_69 enc_run_69 enc_held_69 (crs_ot (crs_ow v4_69.toNatClampNeg).toNatClampNeg) enc_p_69 enc_r_69) := hD
        refine lv_aload_n hx hb d_m545_121 rfl (lv_at hl 2 rfl) ?_
        refine va_get (D := (dC, dI)) (ci := 7) (v := .ref a_crs) (C := "ScanCoder$Encoder") (T := T_7) (N := 8) hx hb hts n0 hown hK hP 9 rfl rfl 1 (by decide) k1 (fun _ h9 => h9) rfl d_m545_122 ?_
        refine va_get (D := (dC, dI)) (ci := 4) (v := .int crs_kind) (C := "ScanCoder$Course") (T := T_4) (N := 13) hx hb hts n1 hown hK hP 2 rfl rfl 5 (by decide) k8 (fun _ h9 => h9) rfl d_m545_125 ?_
        rcases Classical.em (crs_kind = (0 : Int32)) with hc0 | hc0
        · replace hf := (if_pos hc0).symm.trans hf
          refine lv_tableIn (tgt := 160) hx hb d_m545_128 (by rw [hc0]; decide) (by rw [hc0]; decide) (by rw [hc0]; rfl) (by decide) ?_
          refine lv_aload_n hx hb d_m545_160 rfl (lv_at hl 2 rfl) ?_
          refine lv_iload hx hb d_m545_161 (lv_at hl 1 rfl) ?_
          refine lv_iload hx hb d_m545_163 (lv_at hl 0 rfl) ?_
          obtain ⟨z3, hz3, hf⟩ := ob_bind hf
          refine g_callv (wc := (w_Encoder_sendDirect_cnt cI cB cS cT a_pic a_pic_co a_crs a_crs_dt a_cnt a_cnt_t a_enc a_enc_p a_pic_h a_pic_v a_pic_ac a_pic_dn a_pic_oa a_pic_od a_pic_st a_crs_ow a_crs_pl a_crs_ot a_enc_r pic_many pic_unitsAcross pic_unitsDown pic_blocks n_pic_co pic_co crs_kind crs_first crs_last crs_bits crs_interval crs_units crs_blocksOfUnit crs_laid crs_dt cnt_total_69 cnt_t_69 enc_run_69 enc_held_69 (crs_ot (crs_ow v4_69.toNatClampNeg).toNatClampNeg) enc_p_69)) (w1 := (w_Encoder_sendDirect_cnt cI cB cS cT a_pic a_pic_co a_crs a_crs_dt a_cnt a_cnt_t a_enc a_enc_p a_pic_h a_pic_v a_pic_ac a_pic_dn a_pic_oa a_pic_od a_pic_st a_crs_ow a_crs_pl a_crs_ot a_enc_r pic_many pic_unitsAcross pic_unitsDown pic_blocks n_pic_co pic_co crs_kind crs_first crs_last crs_bits crs_interval crs_units crs_blocksOfUnit crs_laid crs_dt z3.1 z3.2.1 enc_run_69 enc_held_69 (crs_ot (crs_ow v4_69.toNatClampNeg).toNatClampNeg) z3.2.2)) (w2 := (w_Encoder_encode_cnt cI cB cS cT a_pic a_pic_co a_crs a_crs_ow a_crs_pl a_crs_dt a_crs_ot a_cnt a_cnt_t a_enc a_enc_p a_enc_r a_pic_h a_pic_v a_pic_ac a_pic_dn a_pic_oa a_pic_od a_pic_st a_cnt pic_many pic_unitsAcross pic_unitsDown pic_blocks n_pic_co pic_co crs_kind crs_first crs_last crs_bits crs_interval crs_units crs_blocksOfUnit crs_laid crs_ow crs_pl crs_dt crs_ot z3.1 z3.2.1 enc_run_69 enc_held_69 (crs_ot (crs_ow v4_69.toNatClampNeg).toNatClampNeg) z3.2.2 enc_r_69)) [0, 1, 2, 5, 7, 8, 9, 10] [some 0, some 1, some 2, none, none, some 3, none, some 4, some 5, some 6, some 7, none] hP hD hS hA rfl rfl rfl rfl (va_runV (As := [.int (crs_ow v4_69.toNatClampNeg), .int (crs_pl v4_69.toNatClampNeg)]) (rest := []) ⟨hx, hb, hml, hown, hts⟩ (c_Encoder_sendDirect_cnt l dC dI cI cB cS cT N a_pic a_pic_co a_crs a_crs_dt a_cnt a_cnt_t a_enc a_enc_p a_pic_h a_pic_v a_pic_ac a_pic_dn a_pic_oa a_pic_od a_pic_st a_crs_ow a_crs_pl a_crs_ot a_enc_r pic_many pic_unitsAcross pic_unitsDown pic_blocks n_pic_co pic_co crs_kind crs_first crs_last crs_bits crs_interval crs_units crs_blocksOfUnit crs_laid crs_dt cnt_total_69 cnt_t_69 enc_run_69 enc_held_69 (crs_ot (crs_ow v4_69.toNatClampNeg).toNatClampNeg) enc_p_69 (crs_ow v4_69.toNatClampNeg) (crs_pl v4_69.toNatClampNeg) H.size z3 hz3) ⟨(callB_of 2 hts (gi tw_620 rfl) rfl rfl rfl (hts _ (List.mem_cons_of_mem _ tw_13)) (hts _ (List.mem_cons_of_mem _ tw_617)) (by decide +kernel) ⟨Nat.le_of_ble_eq_true rfl, Nat.le_of_ble_eq_true rfl⟩), hts _ (List.mem_cons_of_mem _ tw_619), hts _ (List.mem_cons_of_mem _ ts_m620)⟩ ⟨g_blind, va_recv hK hP (ci := 7) (q0 := 9) rfl rfl, g_at hKN (g_pm hP [0, 1, 2, 5, 7, 8, 9, 10] rfl) (hD.sub [0, 1, 2, 5, 7, 8, 9, 10] (by decide) rfl)⟩ rfl rfl hl.1 rfl (lv_room (Nat.le_of_ble_eq_true rfl)) d_m545_165 ⟨Nat.zero_le _, Nat.zero_le _⟩) (fun H locs hP hD hS => ?_)
          refine W.eq (g2 := F0 m 168 ls []) rfl ?_
          refine lv_aload_n hx hb d_m545_168 rfl (lv_at hl 2 rfl) ?_
          refine lv_iload hx hb d_m545_169 (lv_at hl 0 rfl) ?_
          refine lv_iconst (v := (1 : Int32)) hx hb d_m545_171 (by decide) ?_
          obtain ⟨z4, hz4, hf⟩ := ob_bind hf
          refine g_callv (wc := (w_Encoder_sendOthers_cnt cI cB cS cT a_pic a_pic_co a_crs a_cnt a_cnt_t a_enc a_enc_r a_pic_h a_pic_v a_pic_ac a_pic_dn a_pic_oa a_pic_od a_pic_st a_crs_ow a_crs_pl a_crs_dt a_crs_ot a_enc_p pic_many pic_unitsAcross pic_unitsDown pic_blocks n_pic_co pic_co crs_kind crs_first crs_last crs_bits crs_interval crs_units crs_blocksOfUnit crs_laid z3.1 z3.2.1 enc_run_69 enc_held_69 (crs_ot (crs_ow v4_69.toNatClampNeg).toNatClampNeg) enc_r_69)) (w1 := (w_Encoder_sendOthers_cnt cI cB cS cT a_pic a_pic_co a_crs a_cnt a_cnt_t a_enc a_enc_r a_pic_h a_pic_v a_pic_ac a_pic_dn a_pic_oa a_pic_od a_pic_st a_crs_ow a_crs_pl a_crs_dt a_crs_ot a_enc_p pic_many pic_unitsAcross pic_unitsDown pic_blocks n_pic_co pic_co crs_kind crs_first crs_last crs_bits crs_interval crs_units crs_blocksOfUnit crs_laid z4.1 z4.2.1 z4.2.2.1 z4.2.2.2.1 (crs_ot (crs_ow v4_69.toNatClampNeg).toNatClampNeg) z4.2.2.2.2)) (w2 := (w_Encoder_encode_cnt cI cB cS cT a_pic a_pic_co a_crs a_crs_ow a_crs_pl a_crs_dt a_crs_ot a_cnt a_cnt_t a_enc a_enc_p a_enc_r a_pic_h a_pic_v a_pic_ac a_pic_dn a_pic_oa a_pic_od a_pic_st a_cnt pic_many pic_unitsAcross pic_unitsDown pic_blocks n_pic_co pic_co crs_kind crs_first crs_last crs_bits crs_interval crs_units crs_blocksOfUnit crs_laid crs_ow crs_pl crs_dt crs_ot z4.1 z4.2.1 z4.2.2.1 z4.2.2.2.1 (crs_ot (crs_ow v4_69.toNatClampNeg).toNatClampNeg) z3.2.2 z4.2.2.2.2)) [0, 1, 2, 7, 8, 9, 11] [some 0, some 1, some 2, none, none, none, none, some 3, some 4, some 5, none, some 6] hP hD hS hA rfl rfl rfl rfl (va_runV (As := [.int (crs_pl v4_69.toNatClampNeg), .int (1 : Int32)]) (rest := []) ⟨hx, hb, hml, hown, hts⟩ (c_Encoder_sendOthers_cnt l dC dI cI cB cS cT N a_pic a_pic_co a_crs a_cnt a_cnt_t a_enc a_enc_r a_pic_h a_pic_v a_pic_ac a_pic_dn a_pic_oa a_pic_od a_pic_st a_crs_ow a_crs_pl a_crs_dt a_crs_ot a_enc_p pic_many pic_unitsAcross pic_unitsDown pic_blocks n_pic_co pic_co crs_kind crs_first crs_last crs_bits crs_interval crs_units crs_blocksOfUnit crs_laid z3.1 z3.2.1 enc_run_69 enc_held_69 (crs_ot (crs_ow v4_69.toNatClampNeg).toNatClampNeg) enc_r_69 (crs_pl v4_69.toNatClampNeg) (1 : Int32) H.size z4 hz4) ⟨(callB_of 2 hts (gi tw_624 rfl) rfl rfl rfl (hts _ (List.mem_cons_of_mem _ tw_13)) (hts _ (List.mem_cons_of_mem _ tw_621)) (by decide +kernel) ⟨Nat.le_of_ble_eq_true rfl, Nat.le_of_ble_eq_true rfl⟩), hts _ (List.mem_cons_of_mem _ tw_623), hts _ (List.mem_cons_of_mem _ ts_m624)⟩ ⟨g_blind, va_recv hK hP (ci := 7) (q0 := 9) rfl rfl, g_at hKN (g_pm hP [0, 1, 2, 7, 8, 9, 11] rfl) (hD.sub [0, 1, 2, 7, 8, 9, 11] (by decide) rfl)⟩ rfl rfl hl.1 rfl (lv_room (Nat.le_of_ble_eq_true rfl)) d_m545_172 ⟨Nat.zero_le _, Nat.zero_le _⟩) (fun H locs hP hD hS => ?_)
          refine W.eq (g2 := F0 m 175 ls []) rfl ?_
          refine lv_goto (tgt := 241) hx hb d_m545_175 (by decide) ?_
          exact J69_241 z4.1 z4.2.1 z4.2.2.1 z4.2.2.2.1 (crs_ot (crs_ow v4_69.toNatClampNeg).toNatClampNeg) z3.2.2 z4.2.2.2.2 hf H locs ls hP hD hS (lv_sub hl [2, 3, 4, 5] rfl)
        · replace hf := (if_neg hc0).symm.trans hf
          rcases Classical.em (crs_kind = (1 : Int32)) with hc1 | hc1
          · replace hf := (if_pos hc1).symm.trans hf
            refine lv_tableIn (tgt := 178) hx hb d_m545_128 (by rw [hc1]; decide) (by rw [hc1]; decide) (by rw [hc1]; rfl) (by decide) ?_
            refine lv_aload_n hx hb d_m545_178 rfl (lv_at hl 2 rfl) ?_
            refine lv_iload hx hb d_m545_179 (lv_at hl 1 rfl) ?_
            refine lv_iload hx hb d_m545_181 (lv_at hl 0 rfl) ?_
            obtain ⟨z6, hz6, hf⟩ := ob_bind hf
            refine g_callv (wc := (w_Encoder_sendDirect_cnt cI cB cS cT a_pic a_pic_co a_crs a_crs_dt a_cnt a_cnt_t a_enc a_enc_p a_pic_h a_pic_v a_pic_ac a_pic_dn a_pic_oa a_pic_od a_pic_st a_crs_ow a_crs_pl a_crs_ot a_enc_r pic_many pic_unitsAcross pic_unitsDown pic_blocks n_pic_co pic_co crs_kind crs_first crs_last crs_bits crs_interval crs_units crs_blocksOfUnit crs_laid crs_dt cnt_total_69 cnt_t_69 enc_run_69 enc_held_69 (crs_ot (crs_ow v4_69.toNatClampNeg).toNatClampNeg) enc_p_69)) (w1 := (w_Encoder_sendDirect_cnt cI cB cS cT a_pic a_pic_co a_crs a_crs_dt a_cnt a_cnt_t a_enc a_enc_p a_pic_h a_pic_v a_pic_ac a_pic_dn a_pic_oa a_pic_od a_pic_st a_crs_ow a_crs_pl a_crs_ot a_enc_r pic_many pic_unitsAcross pic_unitsDown pic_blocks n_pic_co pic_co crs_kind crs_first crs_last crs_bits crs_interval crs_units crs_blocksOfUnit crs_laid crs_dt z6.1 z6.2.1 enc_run_69 enc_held_69 (crs_ot (crs_ow v4_69.toNatClampNeg).toNatClampNeg) z6.2.2)) (w2 := (w_Encoder_encode_cnt cI cB cS cT a_pic a_pic_co a_crs a_crs_ow a_crs_pl a_crs_dt a_crs_ot a_cnt a_cnt_t a_enc a_enc_p a_enc_r a_pic_h a_pic_v a_pic_ac a_pic_dn a_pic_oa a_pic_od a_pic_st a_cnt pic_many pic_unitsAcross pic_unitsDown pic_blocks n_pic_co pic_co crs_kind crs_first crs_last crs_bits crs_interval crs_units crs_blocksOfUnit crs_laid crs_ow crs_pl crs_dt crs_ot z6.1 z6.2.1 enc_run_69 enc_held_69 (crs_ot (crs_ow v4_69.toNatClampNeg).toNatClampNeg) z6.2.2 enc_r_69)) [0, 1, 2, 5, 7, 8, 9, 10] [some 0, some 1, some 2, none, none, some 3, none, some 4, some 5, some 6, some 7, none] hP hD hS hA rfl rfl rfl rfl (va_runV (As := [.int (crs_ow v4_69.toNatClampNeg), .int (crs_pl v4_69.toNatClampNeg)]) (rest := []) ⟨hx, hb, hml, hown, hts⟩ (c_Encoder_sendDirect_cnt l dC dI cI cB cS cT N a_pic a_pic_co a_crs a_crs_dt a_cnt a_cnt_t a_enc a_enc_p a_pic_h a_pic_v a_pic_ac a_pic_dn a_pic_oa a_pic_od a_pic_st a_crs_ow a_crs_pl a_crs_ot a_enc_r pic_many pic_unitsAcross pic_unitsDown pic_blocks n_pic_co pic_co crs_kind crs_first crs_last crs_bits crs_interval crs_units crs_blocksOfUnit crs_laid crs_dt cnt_total_69 cnt_t_69 enc_run_69 enc_held_69 (crs_ot (crs_ow v4_69.toNatClampNeg).toNatClampNeg) enc_p_69 (crs_ow v4_69.toNatClampNeg) (crs_pl v4_69.toNatClampNeg) H.size z6 hz6) ⟨(callB_of 2 hts (gi tw_620 rfl) rfl rfl rfl (hts _ (List.mem_cons_of_mem _ tw_13)) (hts _ (List.mem_cons_of_mem _ tw_617)) (by decide +kernel) ⟨Nat.le_of_ble_eq_true rfl, Nat.le_of_ble_eq_true rfl⟩), hts _ (List.mem_cons_of_mem _ tw_619), hts _ (List.mem_cons_of_mem _ ts_m620)⟩ ⟨g_blind, va_recv hK hP (ci := 7) (q0 := 9) rfl rfl, g_at hKN (g_pm hP [0, 1, 2, 5, 7, 8, 9, 10] rfl) (hD.sub [0, 1, 2, 5, 7, 8, 9, 10] (by decide) rfl)⟩ rfl rfl hl.1 rfl (lv_room (Nat.le_of_ble_eq_true rfl)) d_m545_183 ⟨Nat.zero_le _, Nat.zero_le _⟩) (fun H locs hP hD hS => ?_)
            refine W.eq (g2 := F0 m 186 ls []) rfl ?_
            refine lv_goto (tgt := 241) hx hb d_m545_186 (by decide) ?_
            exact J69_241 z6.1 z6.2.1 enc_run_69 enc_held_69 (crs_ot (crs_ow v4_69.toNatClampNeg).toNatClampNeg) z6.2.2 enc_r_69 hf H locs ls hP hD hS (lv_sub hl [2, 3, 4, 5] rfl)
          · replace hf := (if_neg hc1).symm.trans hf
            rcases Classical.em (crs_kind = (2 : Int32)) with hc2 | hc2
            · replace hf := (if_pos hc2).symm.trans hf
              refine lv_tableIn (tgt := 189) hx hb d_m545_128 (by rw [hc2]; decide) (by rw [hc2]; decide) (by rw [hc2]; rfl) (by decide) ?_
              refine lv_aload_n hx hb d_m545_189 rfl (lv_at hl 2 rfl) ?_
              refine va_get (D := (dC, dI)) (ci := 7) (v := .ref a_cnt) (C := "ScanCoder$Encoder") (T := T_7) (N := 8) hx hb hts n0 hown hK hP 9 rfl rfl 4 (by decide) k0 (fun _ h9 => h9) rfl d_m545_190 ?_
              refine lv_aload_n hx hb d_m545_193 rfl (lv_at hl 2 rfl) ?_
              refine va_get (D := (dC, dI)) (ci := 7) (v := .ref a_pic) (C := "ScanCoder$Encoder") (T := T_7) (N := 8) hx hb hts n0 hown hK hP 9 rfl rfl 0 (by decide) k11 (fun _ h9 => h9) rfl d_m545_194 ?_
              refine va_get (D := (dC, dI)) (ci := 8) (v := .ref a_pic_co) (C := "ScanCoder$Picture") (T := T_8) (N := 12) hx hb hts n2 hown hK hP 0 rfl rfl 11 (by decide) k12 (fun _ h9 => h9) rfl d_m545_197 ?_
              refine lv_iload hx hb d_m545_200 (lv_at hl 0 rfl) ?_
              obtain ⟨hi, hf⟩ := ob_if hf
              refine va_sald hx hb hK hP 1 2 rfl rfl hi d_m545_202 ?_
              refine lv_aload_n hx hb d_m545_203 rfl (lv_at hl 2 rfl) ?_
              refine va_get (D := (dC, dI)) (ci := 7) (v := .ref a_crs) (C := "ScanCoder$Encoder") (T := T_7) (N := 8) hx hb hts n0 hown hK hP 9 rfl rfl 1 (by decide) k1 (fun _ h9 => h9) rfl d_m545_204 ?_
              refine va_get (D := (dC, dI)) (ci := 4) (v := .int crs_bits) (C := "ScanCoder$Course") (T := T_4) (N := 13) hx hb hts n1 hown hK hP 2 rfl rfl 8 (by decide) k13 (fun _ h9 => h9) rfl d_m545_207 ?_
              refine lv_ishr hx hb d_m545_210 ?_
              refine lv_i2l hx hb d_m545_211 rfl ?_
              refine lv_iconst (v := (1 : Int32)) hx hb d_m545_212 (by decide) ?_
              obtain ⟨z7, hz7, hf⟩ := ob_bind hf
              refine va_csv (g_run (va_runU (As := [.long (((pic_co (crs_pl v4_69.toNatClampNeg).toNatClampNeg) >>> (crs_bits &&& 31)).toInt64), .int (1 : Int32)]) (rest := []) ⟨hx, hb, hml, hown, hts⟩ (c_Counter_putBits l dC dI cI cB cS cT a_cnt a_cnt_t cnt_total_69 (((pic_co (crs_pl v4_69.toNatClampNeg).toNatClampNeg) >>> (crs_bits &&& 31)).toInt64) (1 : Int32) z7 hz7) (va_cwA (x := ({ cls := "ScanCoder$Sink", name := "putBits", desc := "(JI)V" } : Jvm.MethodName)) (owner := "ScanCoder$Sink") 2 hts (gu (tw_587) (tw_589) (tw_591) (tw_592) (tw_11) (gi tw_593 rfl)) rfl rfl rfl (gn_588 hKN.2) (by decide +kernel) ⟨Nat.le_of_ble_eq_true rfl, Nat.le_of_ble_eq_true rfl⟩) ⟨gp_blind, va_recv hK hP (ci := 3) (q0 := 7) rfl rfl, gp_at hKN (g_pm hP [7] rfl)⟩ rfl rfl hl.1 rfl (lv_room (Nat.le_of_ble_eq_true rfl)) d_m545_213 ⟨Nat.zero_le _, Nat.zero_le _⟩)) (fun _ => ?_)
              refine W.eq (g2 := F0 m 216 ls []) rfl ?_
              refine lv_goto (tgt := 241) hx hb d_m545_216 (by decide) ?_
              exact J69_241 cnt_total_69 cnt_t_69 enc_run_69 enc_held_69 (crs_ot (crs_ow v4_69.toNatClampNeg).toNatClampNeg) enc_p_69 enc_r_69 hf H locs ls hP hD hS (lv_sub hl [2, 3, 4, 5] rfl)
            · replace hf := (if_neg hc2).symm.trans hf
              rcases Classical.em (crs_kind = (3 : Int32)) with hc3 | hc3
              · replace hf := (if_pos hc3).symm.trans hf
                refine lv_tableIn (tgt := 219) hx hb d_m545_128 (by rw [hc3]; decide) (by rw [hc3]; decide) (by rw [hc3]; rfl) (by decide) ?_
                refine lv_aload_n hx hb d_m545_219 rfl (lv_at hl 2 rfl) ?_
                refine lv_iload hx hb d_m545_220 (lv_at hl 0 rfl) ?_
                refine lv_aload_n hx hb d_m545_222 rfl (lv_at hl 2 rfl) ?_
                refine va_get (D := (dC, dI)) (ci := 7) (v := .ref a_crs) (C := "ScanCoder$Encoder") (T := T_7) (N := 8) hx hb hts n0 hown hK hP 9 rfl rfl 1 (by decide) k1 (fun _ h9 => h9) rfl d_m545_223 ?_
                refine va_get (D := (dC, dI)) (ci := 4) (v := .int crs_first) (C := "ScanCoder$Course") (T := T_4) (N := 13) hx hb hts n1 hown hK hP 2 rfl rfl 6 (by decide) k14 (fun _ h9 => h9) rfl d_m545_226 ?_
                obtain ⟨z8, hz8, hf⟩ := ob_bind hf
                refine g_callv (wc := (w_Encoder_sendOthers_cnt cI cB cS cT a_pic a_pic_co a_crs a_cnt a_cnt_t a_enc a_enc_r a_pic_h a_pic_v a_pic_ac a_pic_dn a_pic_oa a_pic_od a_pic_st a_crs_ow a_crs_pl a_crs_dt a_crs_ot a_enc_p pic_many pic_unitsAcross pic_unitsDown pic_blocks n_pic_co pic_co crs_kind crs_first crs_last crs_bits crs_interval crs_units crs_blocksOfUnit crs_laid cnt_total_69 cnt_t_69 enc_run_69 enc_held_69 (crs_ot (crs_ow v4_69.toNatClampNeg).toNatClampNeg) enc_r_69)) (w1 := (w_Encoder_sendOthers_cnt cI cB cS cT a_pic a_pic_co a_crs a_cnt a_cnt_t a_enc a_enc_r a_pic_h a_pic_v a_pic_ac a_pic_dn a_pic_oa a_pic_od a_pic_st a_crs_ow a_crs_pl a_crs_dt a_crs_ot a_enc_p pic_many pic_unitsAcross pic_unitsDown pic_blocks n_pic_co pic_co crs_kind crs_first crs_last crs_bits crs_interval crs_units crs_blocksOfUnit crs_laid z8.1 z8.2.1 z8.2.2.1 z8.2.2.2.1 (crs_ot (crs_ow v4_69.toNatClampNeg).toNatClampNeg) z8.2.2.2.2)) (w2 := (w_Encoder_encode_cnt cI cB cS cT a_pic a_pic_co a_crs a_crs_ow a_crs_pl a_crs_dt a_crs_ot a_cnt a_cnt_t a_enc a_enc_p a_enc_r a_pic_h a_pic_v a_pic_ac a_pic_dn a_pic_oa a_pic_od a_pic_st a_cnt pic_many pic_unitsAcross pic_unitsDown pic_blocks n_pic_co pic_co crs_kind crs_first crs_last crs_bits crs_interval crs_units crs_blocksOfUnit crs_laid crs_ow crs_pl crs_dt crs_ot z8.1 z8.2.1 z8.2.2.1 z8.2.2.2.1 (crs_ot (crs_ow v4_69.toNatClampNeg).toNatClampNeg) enc_p_69 z8.2.2.2.2)) [0, 1, 2, 7, 8, 9, 11] [some 0, some 1, some 2, none, none, none, none, some 3, some 4, some 5, none, some 6] hP hD hS hA rfl rfl rfl rfl (va_runV (As := [.int (crs_pl v4_69.toNatClampNeg), .int crs_first]) (rest := []) ⟨hx, hb, hml, hown, hts⟩ (c_Encoder_sendOthers_cnt l dC dI cI cB cS cT N a_pic a_pic_co a_crs a_cnt a_cnt_t a_enc a_enc_r a_pic_h a_pic_v a_pic_ac a_pic_dn a_pic_oa a_pic_od a_pic_st a_crs_ow a_crs_pl a_crs_dt a_crs_ot a_enc_p pic_many pic_unitsAcross pic_unitsDown pic_blocks n_pic_co pic_co crs_kind crs_first crs_last crs_bits crs_interval crs_units crs_blocksOfUnit crs_laid cnt_total_69 cnt_t_69 enc_run_69 enc_held_69 (crs_ot (crs_ow v4_69.toNatClampNeg).toNatClampNeg) enc_r_69 (crs_pl v4_69.toNatClampNeg) crs_first H.size z8 hz8) ⟨(callB_of 2 hts (gi tw_624 rfl) rfl rfl rfl (hts _ (List.mem_cons_of_mem _ tw_13)) (hts _ (List.mem_cons_of_mem _ tw_621)) (by decide +kernel) ⟨Nat.le_of_ble_eq_true rfl, Nat.le_of_ble_eq_true rfl⟩), hts _ (List.mem_cons_of_mem _ tw_623), hts _ (List.mem_cons_of_mem _ ts_m624)⟩ ⟨g_blind, va_recv hK hP (ci := 7) (q0 := 9) rfl rfl, g_at hKN (g_pm hP [0, 1, 2, 7, 8, 9, 11] rfl) (hD.sub [0, 1, 2, 7, 8, 9, 11] (by decide) rfl)⟩ rfl rfl hl.1 rfl (lv_room (Nat.le_of_ble_eq_true rfl)) d_m545_229 ⟨Nat.zero_le _, Nat.zero_le _⟩) (fun H locs hP hD hS => ?_)
                refine W.eq (g2 := F0 m 232 ls []) rfl ?_
                refine lv_goto (tgt := 241) hx hb d_m545_232 (by decide) ?_
                exact J69_241 z8.1 z8.2.1 z8.2.2.1 z8.2.2.2.1 (crs_ot (crs_ow v4_69.toNatClampNeg).toNatClampNeg) enc_p_69 z8.2.2.2.2 hf H locs ls hP hD hS (lv_sub hl [2, 3, 4, 5] rfl)
              · replace hf := (if_neg hc3).symm.trans hf
                have hn0 : crs_kind.toInt ≠ 0 := fun h => hc0 (Int32.toInt_inj.mp (by rw [h]; decide))
                have hn1 : crs_kind.toInt ≠ 1 := fun h => hc1 (Int32.toInt_inj.mp (by rw [h]; decide))
                have hn2 : crs_kind.toInt ≠ 2 := fun h => hc2 (Int32.toInt_inj.mp (by rw [h]; decide))
                have hn3 : crs_kind.toInt ≠ 3 := fun h => hc3 (Int32.toInt_inj.mp (by rw [h]; decide))
                refine lv_tableOut (tgt := 235) hx hb d_m545_128 (by omega) (by decide) ?_
                refine lv_aload_n hx hb d_m545_235 rfl (lv_at hl 2 rfl) ?_
                refine lv_iload hx hb d_m545_236 (lv_at hl 0 rfl) ?_
                obtain ⟨z9, hz9, hf⟩ := ob_bind hf
                refine g_callv (wc := (w_Encoder_refineOthers_cnt cI cB cS cT a_pic a_pic_co a_crs a_cnt a_cnt_t a_enc a_enc_r a_pic_h a_pic_v a_pic_ac a_pic_dn a_pic_oa a_pic_od a_pic_st a_crs_ow a_crs_pl a_crs_dt a_crs_ot a_enc_p pic_many pic_unitsAcross pic_unitsDown pic_blocks n_pic_co pic_co crs_kind crs_first crs_last crs_bits crs_interval crs_units crs_blocksOfUnit crs_laid cnt_total_69 cnt_t_69 enc_run_69 enc_held_69 (crs_ot (crs_ow v4_69.toNatClampNeg).toNatClampNeg) enc_r_69)) (w1 := (w_Encoder_refineOthers_cnt cI cB cS cT a_pic a_pic_co a_crs a_cnt a_cnt_t a_enc a_enc_r a_pic_h a_pic_v a_pic_ac a_pic_dn a_pic_oa a_pic_od a_pic_st a_crs_ow a_crs_pl a_crs_dt a_crs_ot a_enc_p pic_many pic_unitsAcross pic_unitsDown pic_blocks n_pic_co pic_co crs_kind crs_first crs_last crs_bits crs_interval crs_units crs_blocksOfUnit crs_laid z9.1 z9.2.1 z9.2.2.1 z9.2.2.2.1 (crs_ot (crs_ow v4_69.toNatClampNeg).toNatClampNeg) z9.2.2.2.2)) (w2 := (w_Encoder_encode_cnt cI cB cS cT a_pic a_pic_co a_crs a_crs_ow a_crs_pl a_crs_dt a_crs_ot a_cnt a_cnt_t a_enc a_enc_p a_enc_r a_pic_h a_pic_v a_pic_ac a_pic_dn a_pic_oa a_pic_od a_pic_st a_cnt pic_many pic_unitsAcross pic_unitsDown pic_blocks n_pic_co pic_co crs_kind crs_first crs_last crs_bits crs_interval crs_units crs_blocksOfUnit crs_laid crs_ow crs_pl crs_dt crs_ot z9.1 z9.2.1 z9.2.2.1 z9.2.2.2.1 (crs_ot (crs_ow v4_69.toNatClampNeg).toNatClampNeg) enc_p_69 z9.2.2.2.2)) [0, 1, 2, 7, 8, 9, 11] [some 0, some 1, some 2, none, none, none, none, some 3, some 4, some 5, none, some 6] hP hD hS hA rfl rfl rfl rfl (va_runV (As := [.int (crs_pl v4_69.toNatClampNeg)]) (rest := []) ⟨hx, hb, hml, hown, hts⟩ (c_Encoder_refineOthers_cnt l dC dI cI cB cS cT N a_pic a_pic_co a_crs a_cnt a_cnt_t a_enc a_enc_r a_pic_h a_pic_v a_pic_ac a_pic_dn a_pic_oa a_pic_od a_pic_st a_crs_ow a_crs_pl a_crs_dt a_crs_ot a_enc_p pic_many pic_unitsAcross pic_unitsDown pic_blocks n_pic_co pic_co crs_kind crs_first crs_last crs_bits crs_interval crs_units crs_blocksOfUnit crs_laid cnt_total_69 cnt_t_69 enc_run_69 enc_held_69 (crs_ot (crs_ow v4_69.toNatClampNeg).toNatClampNeg) enc_r_69 (crs_pl v4_69.toNatClampNeg) H.size z9 hz9) ⟨(callB_of 1 hts (gi tw_633 rfl) rfl rfl rfl (hts _ (List.mem_cons_of_mem _ tw_13)) (hts _ (List.mem_cons_of_mem _ tw_630)) (by decide +kernel) ⟨Nat.le_of_ble_eq_true rfl, Nat.le_of_ble_eq_true rfl⟩), hts _ (List.mem_cons_of_mem _ tw_632), hts _ (List.mem_cons_of_mem _ ts_m633)⟩ ⟨g_blind, va_recv hK hP (ci := 7) (q0 := 9) rfl rfl, g_at hKN (g_pm hP [0, 1, 2, 7, 8, 9, 11] rfl) (hD.sub [0, 1, 2, 7, 8, 9, 11] (by decide) rfl)⟩ rfl rfl hl.1 rfl (lv_room (Nat.le_of_ble_eq_true rfl)) d_m545_238 ⟨Nat.zero_le _, Nat.zero_le _⟩) (fun H locs hP hD hS => ?_)
                refine W.eq (g2 := F0 m 241 ls []) rfl ?_
                exact J69_241 z9.1 z9.2.1 z9.2.2.1 z9.2.2.2.1 (crs_ot (crs_ow v4_69.toNatClampNeg).toNatClampNeg) enc_p_69 z9.2.2.2.2 hf H locs ls hP hD hS (lv_sub hl [2, 3, 4, 5] rfl)
  have L11 : ∀  (z : Int32 × (Nat → Int32) × Int32 × Int32 × Int32 × (Nat → Int32) × (Nat → Int32)), (GW (dC, dI) A p l e (headSpec ws_m545 rm_Encoder_encode_cnt).room s m args below meth c 0 0 Q 7 277 (w_Encoder_encode_cnt cI cB cS cT a_pic a_pic_co a_crs a_crs_ow a_crs_pl a_crs_dt a_crs_ot a_cnt a_cnt_t a_enc a_enc_p a_enc_r a_pic_h a_pic_v a_pic_ac a_pic_dn a_pic_oa a_pic_od a_pic_st a_cnt pic_many pic_unitsAcross pic_unitsDown pic_blocks n_pic_co pic_co crs_kind crs_first crs_last crs_bits crs_interval crs_units crs_blocksOfUnit crs_laid crs_ow crs_pl crs_dt crs_ot z.1 z.2.1 z.2.2.1 z.2.2.2.1 z.2.2.2.2.1 z.2.2.2.2.2.1 z.2.2.2.2.2.2) [(0, .ref a_enc)] []) → ∀ (k : Nat) (v2_11 : Int32) (cnt_total_11 : Int32) (cnt_t_11 : Nat → Int32) (enc_run_11 : Int32) (enc_held_11 : Int32) (enc_runTable_11 : Int32) (enc_p_11 : Nat → Int32) (enc_r_11 : Nat → Int32), f_Encoder_encode_cnt_L11 crs_units crs_interval crs_blocksOfUnit crs_ow crs_kind crs_pl n_pic_co pic_co crs_bits crs_dt crs_last crs_ot crs_first N k (v2_11, cnt_total_11, cnt_t_11, enc_run_11, enc_held_11, enc_runTable_11, enc_p_11, enc_r_11) = some z → GW (dC, dI) A p l e (headSpec ws_m545 rm_Encoder_encode_cnt).room s m args below meth c 0 0 Q 7 11 (w_Encoder_encode_cnt cI cB cS cT a_pic a_pic_co a_crs a_crs_ow a_crs_pl a_crs_dt a_crs_ot a_cnt a_cnt_t a_enc a_enc_p a_enc_r a_pic_h a_pic_v a_pic_ac a_pic_dn a_pic_oa a_pic_od a_pic_st a_cnt pic_many pic_unitsAcross pic_unitsDown pic_blocks n_pic_co pic_co crs_kind crs_first crs_last crs_bits crs_interval crs_units crs_blocksOfUnit crs_laid crs_ow crs_pl crs_dt crs_ot cnt_total_11 cnt_t_11 enc_run_11 enc_held_11 enc_runTable_11 enc_p_11 enc_r_11) [(0, .ref a_enc), (2, .int v2_11)] [] := by
    intro  z hE0 k
    induction k with
    | zero =>
      intro v2_11 cnt_total_11 cnt_t_11 enc_run_11 enc_held_11 enc_runTable_11 enc_p_11 enc_r_11 hf
      exact (it_zero hf).elim
    | succ k ih =>
      intro v2_11 cnt_total_11 cnt_t_11 enc_run_11 enc_held_11 enc_runTable_11 enc_p_11 enc_r_11 hf H locs ls hP hD hS hl
      have J11_56 : ∀ (cnt_total_j56 : Int32) (cnt_t_j56 : Nat → Int32) (enc_run_j56 : Int32) (enc_held_j56 : Int32) (enc_p_j56 : Nat → Int32), f_Encoder_encode_cnt_J11_56 N (f_Encoder_encode_cnt_L11 crs_units crs_interval crs_blocksOfUnit crs_ow crs_kind crs_pl n_pic_co pic_co crs_bits crs_dt crs_last crs_ot crs_first N k) v2_11 crs_blocksOfUnit crs_ow crs_kind crs_pl n_pic_co pic_co crs_bits crs_dt crs_last crs_ot crs_first cnt_total_j56 cnt_t_j56 enc_run_j56 enc_held_j56 enc_runTable_11 enc_p_j56 enc_r_11 = some z → GW (dC, dI) A p l e (headSpec ws_m545 rm_Encoder_encode_cnt).room s m args below meth c 0 0 Q 7 56 (w_Encoder_encode_cnt cI cB cS cT a_pic a_pic_co a_crs a_crs_ow a_crs_pl a_crs_dt a_crs_ot a_cnt a_cnt_t a_enc a_enc_p a_enc_r a_pic_h a_pic_v a_pic_ac a_pic_dn a_pic_oa a_pic_od a_pic_st a_cnt pic_many pic_unitsAcross pic_unitsDown pic_blocks n_pic_co pic_co crs_kind crs_first crs_last crs_bits crs_interval crs_units crs_blocksOfUnit crs_laid crs_ow crs_pl crs_dt crs_ot cnt_total_j56 cnt_t_j56 enc_run_j56 enc_held_j56 enc_runTable_11 enc_p_j56 enc_r_11) [(0, .ref a_enc), (2, .int v2_11)] [] := by
        intro cnt_total_j56 cnt_t_j56 enc_run_j56 enc_held_j56 enc_p_j56 hf H locs ls hP hD hS hl
        unfold f_Encoder_encode_cnt_J11_56 at hf
        refine lv_iload_n hx hb d_m545_56 rfl (lv_at hl 1 rfl) ?_
        refine lv_aload_n hx hb d_m545_57 rfl (lv_at hl 0 rfl) ?_
        refine va_get (D := (dC, dI)) (ci := 7) (v := .ref a_crs) (C := "ScanCoder$Encoder") (T := T_7) (N := 8) hx hb hts n0 hown hK hP 9 rfl rfl 1 (by decide) k1 (fun _ h9 => h9) rfl d_m545_58 ?_
        refine va_get (D := (dC, dI)) (ci := 4) (v := .int crs_blocksOfUnit) (C := "ScanCoder$Course") (T := T_4) (N := 13) hx hb hts n1 hown hK hP 2 rfl rfl 11 (by decide) k3 (fun _ h9 => h9) rfl d_m545_61 ?_
        refine lv_imul hx hb d_m545_64 ?_
        refine lv_istore_n (lv' := [(3, .int (v2_11 * crs_blocksOfUnit)), (0, .ref a_enc), (2, .int v2_11)]) hx hb d_m545_65 rfl hl (by decide) rfl (fun ls hl => ?_)
        refine lv_iload_n hx hb d_m545_66 rfl (lv_at hl 0 rfl) ?_
        refine lv_istore (lv' := [(4, .int (v2_11 * crs_blocksOfUnit)), (3, .int (v2_11 * crs_blocksOfUnit)), (0, .ref a_enc), (2, .int v2_11)]) hx hb d_m545_67 hl (by decide) rfl (fun ls hl => ?_)
        obtain ⟨z10, hz10, hf⟩ := ob_bind hf
        refine L69 (v2_11 * crs_blocksOfUnit) v2_11 z10 ?_ N (v2_11 * crs_blocksOfUnit) cnt_total_j56 cnt_t_j56 enc_run_j56 enc_held_j56 enc_runTable_11 enc_p_j56 enc_r_11 hz10 H locs ls hP hD hS (lv_sub hl [2, 3, 1, 0] rfl)
        · intro H locs ls hP hD hS hl
          refine lv_iinc (v := v2_11 + (1 : Int32)) (lv' := [(2, .int (v2_11 + (1 : Int32))), (0, .ref a_enc)]) hx hb d_m545_271 hl (k := 1) rfl rfl (by decide) rfl (fun ls hl => ?_)
          refine lv_goto (tgt := 11) hx hb d_m545_274 (by decide) ?_
          exact ih (v2_11 + (1 : Int32)) z10.1 z10.2.1 z10.2.2.1 z10.2.2.2.1 z10.2.2.2.2.1 z10.2.2.2.2.2.1 z10.2.2.2.2.2.2 hf H locs ls hP hD hS (lv_sub hl [1, 0] rfl)
      have hf : f_Encoder_encode_cnt_L11b crs_units crs_interval crs_blocksOfUnit crs_ow crs_kind crs_pl n_pic_co pic_co crs_bits crs_dt crs_last crs_ot crs_first N (f_Encoder_encode_cnt_L11 crs_units crs_interval crs_blocksOfUnit crs_ow crs_kind crs_pl n_pic_co pic_co crs_bits crs_dt crs_last crs_ot crs_first N k) v2_11 cnt_total_11 cnt_t_11 enc_run_11 enc_held_11 enc_runTable_11 enc_p_11 enc_r_11 = some z := hf
      unfold f_Encoder_encode_cnt_L11b at hf
      refine lv_iload_n hx hb d_m545_11 rfl (lv_at hl 1 rfl) ?_
      refine lv_aload_n hx hb d_m545_12 rfl (lv_at hl 0 rfl) ?_
      refine va_get (D := (dC, dI)) (ci := 7) (v := .ref a_crs) (C := "ScanCoder$Encoder") (T := T_7) (N := 8) hx hb hts n0 hown hK hP 9 rfl rfl 1 (by decide) k1 (fun _ h9 => h9) rfl d_m545_13 ?_
      refine va_get (D := (dC, dI)) (ci := 4) (v := .int crs_units) (C := "ScanCoder$Course") (T := T_4) (N := 13) hx hb hts n1 hown hK hP 2 rfl rfl 10 (by decide) k2 (fun _ h9 => h9) rfl d_m545_16 ?_
      refine lv_icmp_ge (tgt := 277) hx hb d_m545_19 (by decide) (fun hc => ?_) (fun hc => ?_)
      · replace hf := (if_pos hc).symm.trans hf
        obtain rfl := Option.some.inj hf
        exact hE0  H locs ls hP hD hS (lv_sub hl [0] rfl)
      · replace hf := (if_neg hc).symm.trans hf
        refine lv_aload_n hx hb d_m545_22 rfl (lv_at hl 0 rfl) ?_
        refine va_get (D := (dC, dI)) (ci := 7) (v := .ref a_crs) (C := "ScanCoder$Encoder") (T := T_7) (N := 8) hx hb hts n0 hown hK hP 9 rfl rfl 1 (by decide) k1 (fun _ h9 => h9) rfl d_m545_23 ?_
        refine lv_iload_n hx hb d_m545_26 rfl (lv_at hl 1 rfl) ?_
        obtain ⟨z2, hz2, hf⟩ := ob_bind hf
        refine vp_callSi (g_run (va_runV (As := [.int v2_11]) (rest := []) ⟨hx, hb, hml, hown, hts⟩ (c_Course_restartsAhead l dC dI cI cB cS cT a_crs a_pic a_crs_ow a_crs_pl a_crs_dt a_crs_ot crs_kind crs_first crs_last crs_bits crs_interval crs_units crs_blocksOfUnit crs_laid v2_11 z2 hz2) ⟨(callB_of 1 hts (gi tw_554 rfl) rfl rfl rfl (hts _ (List.mem_cons_of_mem _ tw_5)) (hts _ (List.mem_cons_of_mem _ tw_551)) (by decide +kernel) ⟨Nat.le_of_ble_eq_true rfl, Nat.le_of_ble_eq_true rfl⟩), hts _ (List.mem_cons_of_mem _ tw_552), hts _ (List.mem_cons_of_mem _ tw_553)⟩ ⟨gp_blind, va_recv hK hP (ci := 4) (q0 := 2) rfl rfl, gp_at hKN (g_pm hP [2] rfl)⟩ rfl rfl hl.1 rfl (lv_room (Nat.le_of_ble_eq_true rfl)) d_m545_27 ⟨Nat.zero_le _, Nat.zero_le _⟩)) (fun r hrz2 => ?_)
        have hrz2 := hrz2.symm
        subst hrz2
        refine W.eq (g2 := F0 m 30 ls [.int z2]) rfl ?_
        refine lv_if_eq (tgt := 56) hx hb d_m545_30 (by decide) (fun hc => ?_) (fun hc => ?_)
        · replace hf := (if_pos hc).symm.trans hf
          exact J11_56 cnt_total_11 cnt_t_11 enc_run_11 enc_held_11 enc_p_11 hf H locs ls hP hD hS hl
        · replace hf := (if_neg hc).symm.trans hf
          refine lv_aload_n hx hb d_m545_33 rfl (lv_at hl 0 rfl) ?_
          obtain ⟨z11, hz11, hf⟩ := ob_bind hf
          refine g_callv (wc := (w_Encoder_endPart_cnt cI cB cS cT a_cnt a_cnt_t a_enc a_enc_r a_pic a_crs a_enc_p cnt_total_11 cnt_t_11 enc_run_11 enc_held_11 enc_runTable_11 enc_r_11)) (w1 := (w_Encoder_endPart_cnt cI cB cS cT a_cnt a_cnt_t a_enc a_enc_r a_pic a_crs a_enc_p z11.1 z11.2.1 z11.2.2.1 z11.2.2.2 enc_runTable_11 enc_r_11)) (w2 := (w_Encoder_encode_cnt cI cB cS cT a_pic a_pic_co a_crs a_crs_ow a_crs_pl a_crs_dt a_crs_ot a_cnt a_cnt_t a_enc a_enc_p a_enc_r a_pic_h a_pic_v a_pic_ac a_pic_dn a_pic_oa a_pic_od a_pic_st a_cnt pic_many pic_unitsAcross pic_unitsDown pic_blocks n_pic_co pic_co crs_kind crs_first crs_last crs_bits crs_interval crs_units crs_blocksOfUnit crs_laid crs_ow crs_pl crs_dt crs_ot z11.1 z11.2.1 z11.2.2.1 z11.2.2.2 enc_runTable_11 enc_p_11 enc_r_11)) [7, 8, 9, 11] [none, none, none, none, none, none, none, some 0, some 1, some 2, none, some 3] hP hD hS hA rfl rfl rfl rfl (va_runV (As := []) (rest := []) ⟨hx, hb, hml, hown, hts⟩ (c_Encoder_endPart_cnt l dC dI cI cB cS cT N a_cnt a_cnt_t a_enc a_enc_r a_pic a_crs a_enc_p cnt_total_11 cnt_t_11 enc_run_11 enc_held_11 enc_runTable_11 enc_r_11 H.size z11 hz11) ⟨(callB_of 0 hts (gi tw_558 rfl) rfl rfl rfl (hts _ (List.mem_cons_of_mem _ tw_13)) (hts _ (List.mem_cons_of_mem _ tw_555)) (by decide +kernel) ⟨Nat.le_of_ble_eq_true rfl, Nat.le_of_ble_eq_true rfl⟩), hts _ (List.mem_cons_of_mem _ tw_557), hts _ (List.mem_cons_of_mem _ ts_m558)⟩ ⟨g_blind, va_recv hK hP (ci := 7) (q0 := 9) rfl rfl, g_at hKN (g_pm hP [7, 8, 9, 11] rfl) (hD.sub [7, 8, 9, 11] (by decide) rfl)⟩ rfl rfl hl.1 rfl (lv_room (Nat.le_of_ble_eq_true rfl)) d_m545_34 ⟨Nat.zero_le _, Nat.zero_le _⟩) (fun H locs hP hD hS => ?_)
          refine W.eq (g2 := F0 m 37 ls []) rfl ?_
          refine lv_aload_n hx hb d_m545_37 rfl (lv_at hl 0 rfl) ?_
          refine va_get (D := (dC, dI)) (ci := 7) (v := .ref a_cnt) (C := "ScanCoder$Encoder") (T := T_7) (N := 8) hx hb hts n0 hown hK hP 9 rfl rfl 4 (by decide) k0 (fun _ h9 => h9) rfl d_m545_38 ?_
          refine lv_aload_n hx hb d_m545_41 rfl (lv_at hl 0 rfl) ?_
          refine va_get (D := (dC, dI)) (ci := 7) (v := .ref a_crs) (C := "ScanCoder$Encoder") (T := T_7) (N := 8) hx hb hts n0 hown hK hP 9 rfl rfl 1 (by decide) k1 (fun _ h9 => h9) rfl d_m545_42 ?_
          refine lv_iload_n hx hb d_m545_45 rfl (lv_at hl 1 rfl) ?_
          obtain ⟨z12, hz12, hf⟩ := ob_bind hf
          refine vp_callSi (g_run (va_runV (As := [.int v2_11]) (rest := [.ref a_cnt]) ⟨hx, hb, hml, hown, hts⟩ (c_Course_restartAhead l dC dI cI cB cS cT a_crs a_pic a_crs_ow a_crs_pl a_crs_dt a_crs_ot crs_kind crs_first crs_last crs_bits crs_interval crs_units crs_blocksOfUnit crs_laid v2_11 z12 hz12) ⟨(callB_of 1 hts (gi tw_607 rfl) rfl rfl rfl (hts _ (List.mem_cons_of_mem _ tw_5)) (hts _ (List.mem_cons_of_mem _ tw_604)) (by decide +kernel) ⟨Nat.le_of_ble_eq_true rfl, Nat.le_of_ble_eq_true rfl⟩), hts _ (List.mem_cons_of_mem _ tw_605), hts _ (List.mem_cons_of_mem _ tw_606)⟩ ⟨gp_blind, va_recv hK hP (ci := 4) (q0 := 2) rfl rfl, gp_at hKN (g_pm hP [2] rfl)⟩ rfl rfl hl.1 rfl (lv_room (Nat.le_of_ble_eq_true rfl)) d_m545_46 ⟨Nat.zero_le _, Nat.zero_le _⟩)) (fun r hrz12 => ?_)
          have hrz12 := hrz12.symm
          subst hrz12
          refine W.eq (g2 := F0 m 49 ls [.int z12, .ref a_cnt]) rfl ?_
          obtain ⟨z13, hz13, hf⟩ := ob_bind hf
          refine va_csv (g_run (va_runU (As := [.int z12]) (rest := []) ⟨hx, hb, hml, hown, hts⟩ (c_Counter_putRestart l dC dI cI cB cS cT a_cnt a_cnt_t z11.1 z12 z13 hz13) (va_cwA (x := ({ cls := "ScanCoder$Sink", name := "putRestart", desc := "(I)V" } : Jvm.MethodName)) (owner := "ScanCoder$Sink") 1 hts (gu (tw_608) (tw_610) (tw_614) (tw_615) (tw_11) (gi tw_616 rfl)) rfl rfl rfl (gn_609 hKN.2) (by decide +kernel) ⟨Nat.le_of_ble_eq_true rfl, Nat.le_of_ble_eq_true rfl⟩) ⟨gp_blind, va_recv hK hP (ci := 3) (q0 := 7) rfl rfl, gp_at hKN (g_pm hP [7] rfl)⟩ rfl rfl hl.1 rfl (lv_room (Nat.le_of_ble_eq_true rfl)) d_m545_49 ⟨Nat.zero_le _, Nat.zero_le _⟩)) (fun _ => ?_)
          refine W.eq (g2 := F0 m 52 ls []) rfl ?_
          refine lv_aload_n hx hb d_m545_52 rfl (lv_at hl 0 rfl) ?_
          obtain ⟨z14, hz14, hf⟩ := ob_bind hf
          refine g_callv (wc := (w_Encoder_forget_cnt cI cB cS cT a_enc a_enc_p a_pic a_crs a_enc_r a_cnt z11.2.2.1 z11.2.2.2 enc_runTable_11 enc_p_11)) (w1 := (w_Encoder_forget_cnt cI cB cS cT a_enc a_enc_p a_pic a_crs a_enc_r a_cnt z14.1 z14.2.1 enc_runTable_11 z14.2.2)) (w2 := (w_Encoder_encode_cnt cI cB cS cT a_pic a_pic_co a_crs a_crs_ow a_crs_pl a_crs_dt a_crs_ot a_cnt a_cnt_t a_enc a_enc_p a_enc_r a_pic_h a_pic_v a_pic_ac a_pic_dn a_pic_oa a_pic_od a_pic_st a_cnt pic_many pic_unitsAcross pic_unitsDown pic_blocks n_pic_co pic_co crs_kind crs_first crs_last crs_bits crs_interval crs_units crs_blocksOfUnit crs_laid crs_ow crs_pl crs_dt crs_ot z11.1 z11.2.1 z14.1 z14.2.1 enc_runTable_11 z14.2.2 enc_r_11)) [9, 10] [none, none, none, none, none, none, none, none, none, some 0, some 1, none] hP hD hS hA rfl rfl rfl rfl (va_runV (As := []) (rest := []) ⟨hx, hb, hml, hown, hts⟩ (c_Encoder_forget_cnt l dC dI cI cB cS cT N a_enc a_enc_p a_pic a_crs a_enc_r a_cnt z11.2.2.1 z11.2.2.2 enc_runTable_11 enc_p_11 H.size z14 hz14) ⟨(callB_of 0 hts (gi tw_549 rfl) rfl rfl rfl (hts _ (List.mem_cons_of_mem _ tw_13)) (hts _ (List.mem_cons_of_mem _ tw_546)) (by decide +kernel) ⟨Nat.le_of_ble_eq_true rfl, Nat.le_of_ble_eq_true rfl⟩), hts _ (List.mem_cons_of_mem _ tw_548), hts _ (List.mem_cons_of_mem _ ts_m549)⟩ ⟨g_blind, va_recv hK hP (ci := 7) (q0 := 9) rfl rfl, g_at hKN (g_pm hP [9, 10] rfl) (hD.sub [9, 10] (by decide) rfl)⟩ rfl rfl hl.1 rfl (lv_room (Nat.le_of_ble_eq_true rfl)) d_m545_53 ⟨Nat.zero_le _, Nat.zero_le _⟩) (fun H locs hP hD hS => ?_)
          refine W.eq (g2 := F0 m 56 ls []) rfl ?_
          exact J11_56 z11.1 z11.2.1 z14.1 z14.2.1 z14.2.2 hf H locs ls hP hD hS hl
  have hgo : ∀ (H : Heap) (locs : List Loc), va_P (dC, dI) vwCl (w_Encoder_encode_cnt cI cB cS cT a_pic a_pic_co a_crs a_crs_ow a_crs_pl a_crs_dt a_crs_ot a_cnt a_cnt_t a_enc a_enc_p a_enc_r a_pic_h a_pic_v a_pic_ac a_pic_dn a_pic_oa a_pic_od a_pic_st a_enc_sink pic_many pic_unitsAcross pic_unitsDown pic_blocks n_pic_co pic_co crs_kind crs_first crs_last crs_bits crs_interval crs_units crs_blocksOfUnit crs_laid crs_ow crs_pl crs_dt crs_ot cnt_total cnt_t enc_run enc_held enc_runTable enc_p enc_r) H → va_S A s.heap H locs → W p l e (headSpec ws_m545 rm_Encoder_encode_cnt).room s m args below meth c H locs 0 0 Q (F0 m 0 ls []) := by
    intro H locs hP hS
    unfold f_Encoder_encode_cnt at hf
    refine lv_aload_n hx hb d_m545_0 rfl (lv_at hl 0 rfl) ?_
    refine lv_aload_n hx hb d_m545_1 rfl (lv_at hl 1 rfl) ?_
    refine va_put (D := (dC, dI)) (ci := 7) (v := .ref a_cnt) (ty := (.object "ScanCoder$Sink")) (C := "ScanCoder$Encoder") (T := T_7) (N := 8) hx hb hts n0 ty_7 tyok_7 nm_7 hown hK hP hD hS 9 rfl rfl 4 (by decide) k0 (fun _ h9 => h9) rfl (by decide +kernel) rfl rfl (Nat.le_of_ble_eq_true rfl) d_m545_2 (fun H locs hP hD hS => ?_)
    have hP : va_P (dC, dI) vwCl (w_Encoder_encode_cnt cI cB cS cT a_pic a_pic_co a_crs a_crs_ow a_crs_pl a_crs_dt a_crs_ot a_cnt a_cnt_t a_enc a_enc_p a_enc_r a_pic_h a_pic_v a_pic_ac a_pic_dn a_pic_oa a_pic_od a_pic_st a_cnt pic_many pic_unitsAcross pic_unitsDown pic_blocks n_pic_co pic_co crs_kind crs_first crs_last crs_bits crs_interval crs_units crs_blocksOfUnit crs_laid crs_ow crs_pl crs_dt crs_ot cnt_total cnt_t enc_run enc_held enc_runTable enc_p enc_r) H := hP
    have hD : va_D A (w_Encoder_encode_cnt cI cB cS cT a_pic a_pic_co a_crs a_crs_ow a_crs_pl a_crs_dt a_crs_ot a_cnt a_cnt_t a_enc a_enc_p a_enc_r a_pic_h a_pic_v a_pic_ac a_pic_dn a_pic_oa a_pic_od a_pic_st a_cnt pic_many pic_unitsAcross pic_unitsDown pic_blocks n_pic_co pic_co crs_kind crs_first crs_last crs_bits crs_interval crs_units crs_blocksOfUnit crs_laid crs_ow crs_pl crs_dt crs_ot cnt_total cnt_t enc_run enc_held enc_runTable enc_p enc_r) := hD
    refine lv_aload_n hx hb d_m545_5 rfl (lv_at hl 0 rfl) ?_
    obtain ⟨z1, hz1, hf⟩ := ob_bind hf
    refine g_callv (wc := (w_Encoder_forget_cnt cI cB cS cT a_enc a_enc_p a_pic a_crs a_enc_r a_cnt enc_run enc_held enc_runTable enc_p)) (w1 := (w_Encoder_forget_cnt cI cB cS cT a_enc a_enc_p a_pic a_crs a_enc_r a_cnt z1.1 z1.2.1 enc_runTable z1.2.2)) (w2 := (w_Encoder_encode_cnt cI cB cS cT a_pic a_pic_co a_crs a_crs_ow a_crs_pl a_crs_dt a_crs_ot a_cnt a_cnt_t a_enc a_enc_p a_enc_r a_pic_h a_pic_v a_pic_ac a_pic_dn a_pic_oa a_pic_od a_pic_st a_cnt pic_many pic_unitsAcross pic_unitsDown pic_blocks n_pic_co pic_co crs_kind crs_first crs_last crs_bits crs_interval crs_units crs_blocksOfUnit crs_laid crs_ow crs_pl crs_dt crs_ot cnt_total cnt_t z1.1 z1.2.1 enc_runTable z1.2.2 enc_r)) [9, 10] [none, none, none, none, none, none, none, none, none, some 0, some 1, none] hP hD hS hA rfl rfl rfl rfl (va_runV (As := []) (rest := []) ⟨hx, hb, hml, hown, hts⟩ (c_Encoder_forget_cnt l dC dI cI cB cS cT N a_enc a_enc_p a_pic a_crs a_enc_r a_cnt enc_run enc_held enc_runTable enc_p H.size z1 hz1) ⟨(callB_of 0 hts (gi tw_549 rfl) rfl rfl rfl (hts _ (List.mem_cons_of_mem _ tw_13)) (hts _ (List.mem_cons_of_mem _ tw_546)) (by decide +kernel) ⟨Nat.le_of_ble_eq_true rfl, Nat.le_of_ble_eq_true rfl⟩), hts _ (List.mem_cons_of_mem _ tw_548), hts _ (List.mem_cons_of_mem _ ts_m549)⟩ ⟨g_blind, va_recv hK hP (ci := 7) (q0 := 9) rfl rfl, g_at hKN (g_pm hP [9, 10] rfl) (hD.sub [9, 10] (by decide) rfl)⟩ rfl rfl hl.1 rfl (lv_room (Nat.le_of_ble_eq_true rfl)) d_m545_6 ⟨Nat.zero_le _, Nat.zero_le _⟩) (fun H locs hP hD hS => ?_)
    refine W.eq (g2 := F0 m 9 ls []) rfl ?_
    refine lv_iconst (v := (0 : Int32)) hx hb d_m545_9 (by decide) ?_
    refine lv_istore_n (lv' := [(2, .int (0 : Int32)), (0, .ref a_enc), (1, .ref a_cnt)]) hx hb d_m545_10 rfl hl (by decide) rfl (fun ls hl => ?_)
    obtain ⟨z15, hz15, hf⟩ := ob_bind hf
    refine L11  z15 ?_ N (0 : Int32) cnt_total cnt_t z1.1 z1.2.1 enc_runTable z1.2.2 enc_r hz15 H locs ls hP hD hS (lv_sub hl [1, 0] rfl)
    · intro H locs ls hP hD hS hl
      refine lv_aload_n hx hb d_m545_277 rfl (lv_at hl 0 rfl) ?_
      obtain ⟨z16, hz16, hf⟩ := ob_bind hf
      refine g_callv (wc := (w_Encoder_endPart_cnt cI cB cS cT a_cnt a_cnt_t a_enc a_enc_r a_pic a_crs a_enc_p z15.1 z15.2.1 z15.2.2.1 z15.2.2.2.1 z15.2.2.2.2.1 z15.2.2.2.2.2.2)) (w1 := (w_Encoder_endPart_cnt cI cB cS cT a_cnt a_cnt_t a_enc a_enc_r a_pic a_crs a_enc_p z16.1 z16.2.1 z16.2.2.1 z16.2.2.2 z15.2.2.2.2.1 z15.2.2.2.2.2.2)) (w2 := (w_Encoder_encode_cnt cI cB cS cT a_pic a_pic_co a_crs a_crs_ow a_crs_pl a_crs_dt a_crs_ot a_cnt a_cnt_t a_enc a_enc_p a_enc_r a_pic_h a_pic_v a_pic_ac a_pic_dn a_pic_oa a_pic_od a_pic_st a_cnt pic_many pic_unitsAcross pic_unitsDown pic_blocks n_pic_co pic_co crs_kind crs_first crs_last crs_bits crs_interval crs_units crs_blocksOfUnit crs_laid crs_ow crs_pl crs_dt crs_ot z16.1 z16.2.1 z16.2.2.1 z16.2.2.2 z15.2.2.2.2.1 z15.2.2.2.2.2.1 z15.2.2.2.2.2.2)) [7, 8, 9, 11] [none, none, none, none, none, none, none, some 0, some 1, some 2, none, some 3] hP hD hS hA rfl rfl rfl rfl (va_runV (As := []) (rest := []) ⟨hx, hb, hml, hown, hts⟩ (c_Encoder_endPart_cnt l dC dI cI cB cS cT N a_cnt a_cnt_t a_enc a_enc_r a_pic a_crs a_enc_p z15.1 z15.2.1 z15.2.2.1 z15.2.2.2.1 z15.2.2.2.2.1 z15.2.2.2.2.2.2 H.size z16 hz16) ⟨(callB_of 0 hts (gi tw_558 rfl) rfl rfl rfl (hts _ (List.mem_cons_of_mem _ tw_13)) (hts _ (List.mem_cons_of_mem _ tw_555)) (by decide +kernel) ⟨Nat.le_of_ble_eq_true rfl, Nat.le_of_ble_eq_true rfl⟩), hts _ (List.mem_cons_of_mem _ tw_557), hts _ (List.mem_cons_of_mem _ ts_m558)⟩ ⟨g_blind, va_recv hK hP (ci := 7) (q0 := 9) rfl rfl, g_at hKN (g_pm hP [7, 8, 9, 11] rfl) (hD.sub [7, 8, 9, 11] (by decide) rfl)⟩ rfl rfl hl.1 rfl (lv_room (Nat.le_of_ble_eq_true rfl)) d_m545_278 ⟨Nat.zero_le _, Nat.zero_le _⟩) (fun H locs hP hD hS => ?_)
      refine W.eq (g2 := F0 m 281 ls []) rfl ?_
      obtain rfl := Option.some.inj hf
      subst hQ
      subst hAe
      exact W.vret hx hb hr (fun t ht hW => ⟨⟨(), rfl, trivial, by rw [ht]; exact hP, hD⟩, hS.F ht⟩) hS.2.2 d_m545_281
  exact hgo _ _ hP hS
