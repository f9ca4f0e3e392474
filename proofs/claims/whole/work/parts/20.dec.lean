
def f_Decoder_forget (N : Nat) (dec_p : Nat → Int32) : Option (Int32 × (Nat → Int32)) :=
  (f_Arrays_fillI N (0 : Int32) 4 dec_p).bind fun z1 =>
  some ((0 : Int32), z1)
abbrev w_Decoder_forget (cI cB cS cT : ClassId) (a_dec : Nat) (a_dec_p : Nat) (a_pic : Nat) (a_crs : Nat) (a_tbs : Nat) (a_rd : Nat) (dec_keeps : Int32) (dec_run : Int32) (dec_p : Nat → Int32) : va_W := [(a_dec, .inr (5, [.ref a_pic, .ref a_crs, .ref a_tbs, .ref a_rd, .ref a_dec_p, .int dec_keeps, .int dec_run])), (a_dec_p, .inl (cI, 4, .inl dec_p))]
def rm_Decoder_forget : Room := { frames := 1, cells := 0, slots := 0, locals := 23 }
set_option maxHeartbeats 1000000 in
set_option maxRecDepth 100000 in
theorem c_Decoder_forget (l : Launch) (dC : Nat → ClassId) (dI : Nat → Nat → Nat) (cI cB cS cT : ClassId) (N : Nat) (a_dec : Nat) (a_dec_p : Nat) (a_pic : Nat) (a_crs : Nat) (a_tbs : Nat) (a_rd : Nat) (dec_keeps : Int32) (dec_run : Int32) (dec_p : Nat → Int32) (sz : Nat) (z : Int32 × (Nat → Int32)) (hf : f_Decoder_forget N dec_p = some z) : Met l y_m671 ws_m671 rm_Decoder_forget (gPre (dC, dI) [.ref a_dec] (gT cI cB cS cT) (w_Decoder_forget cI cB cS cT a_dec a_dec_p a_pic a_crs a_tbs a_rd dec_keeps dec_run dec_p) sz) (gQv (dC, dI) (gT cI cB cS cT) (w_Decoder_forget cI cB cS cT a_dec a_dec_p a_pic a_crs a_tbs a_rd dec_keeps dec_run dec_p) (w_Decoder_forget cI cB cS cT a_dec a_dec_p a_pic a_crs a_tbs a_rd dec_keeps z.1 z.2) sz) 0 0 (va_A (w_Decoder_forget cI cB cS cT a_dec a_dec_p a_pic a_crs a_tbs a_rd dec_keeps dec_run dec_p) sz) := by
  refine Met.ofW (cc := prog_6_method_3_code) (maxL := 1) (ret := none) (by decide) rfl ?_
  intro p e s m args below meth c s₁ B hml hv
  obtain ⟨hargs, hsz, hP, hKN, hD0⟩ := hv
  have hK := hKN.1
  have hx := B.exec
  have hb := B.bytes
  have hr := B.returns
  have hts := atoms_spec (ws := ws_m671) B.pre
  have hown : s.vm.findClass "ScanCoder$Decoder" = some m.cls := findClass_of_methodNamed B.named
  have hlocks := B.notSynchronized
  have k0 := hts _ (List.mem_cons_of_mem _ tw_401)
  have k1 := hts _ (List.mem_cons_of_mem _ tw_403)
  have n0 : ∀ w ∈ u_ws "ScanCoder$Decoder" T_5 7, w ∈ ws_m671 := fun w h => List.mem_cons_of_mem _ (in_5 w h)
  subst hsz
  have hD := hD0.self (sz := s.heap.size)
  obtain ⟨A, hAe⟩ : ∃ A : Nat → Prop, va_A (w_Decoder_forget cI cB cS cT a_dec a_dec_p a_pic a_crs a_tbs a_rd dec_keeps dec_run dec_p) s.heap.size = A := ⟨_, rfl⟩
  rw [hAe] at hD
  have hA : ∀ q : Nat, s.heap.size ≤ q → A q := fun q h => by rw [← hAe]; exact Or.inr h
  have hS : va_S A s.heap s.heap [] := va_S.rf
  have hl := lv_entry ([.ref a_dec]) (n := 1) (Nat.le_of_ble_eq_true rfl)
  have hfr : entryFrame m args 1 = F0 m 0 ((lg_sl ([.ref a_dec]) ++ List.replicate (1 - (lg_sl ([.ref a_dec])).length) Slot.unset).toArray) [] := by rw [hargs]; exact lg_entry_eq _ _ _
  rw [hfr]
  generalize (lg_sl ([.ref a_dec]) ++ List.replicate (1 - (lg_sl ([.ref a_dec])).length) Slot.unset).toArray = ls at hl ⊢
  have hl : lv_has ls 1 [(0, .ref a_dec)] := hl
  refine gen_Q (fun Q hQ => ?_)
  clear hfr
  have hgo : ∀ (H : Heap) (locs : List Loc), va_P (dC, dI) vwCl (w_Decoder_forget cI cB cS cT a_dec a_dec_p a_pic a_crs a_tbs a_rd dec_keeps dec_run dec_p) H → va_S A s.heap H locs → W p l e (headSpec ws_m671 rm_Decoder_forget).room s m args below meth c H locs 0 0 Q (F0 m 0 ls []) := by
    intro H locs hP hS
    unfold f_Decoder_forget at hf
    refine lv_aload_n hx hb d_m671_0 rfl (lv_at hl 0 rfl) ?_
    refine va_get (D := (dC, dI)) (ci := 5) (v := .ref a_dec_p) (C := "ScanCoder$Decoder") (T := T_5) (N := 7) hx hb hts n0 hown hK hP 0 rfl rfl 4 (by decide) k0 (fun _ h9 => h9) rfl d_m671_1 ?_
    refine lv_iconst (v := (0 : Int32)) hx hb d_m671_4 (by decide) ?_
    obtain ⟨z1, hz1, hf⟩ := ob_bind hf
    refine g_callv (wc := (w_Arrays_fillI cI cB cS cT a_dec_p 4 dec_p)) (w1 := (w_Arrays_fillI cI cB cS cT a_dec_p 4 z1)) (w2 := (w_Decoder_forget cI cB cS cT a_dec a_dec_p a_pic a_crs a_tbs a_rd dec_keeps dec_run z1)) [1] [none, some 0] hP hD hS hA rfl rfl rfl rfl (va_runS (As := [.ref a_dec_p, .int (0 : Int32)]) (rest := []) ⟨hx, hb, hml, hown, hts⟩ (c_Arrays_fillI l dC dI cI cB cS cT N a_dec_p 4 dec_p (0 : Int32) H.size z1 hz1) ⟨(callB_of 2 hts (gi tw_122 rfl) rfl rfl rfl (hts _ (List.mem_cons_of_mem _ tw_4)) (hts _ (List.mem_cons_of_mem _ tw_672)) (by decide +kernel) ⟨Nat.le_of_ble_eq_true rfl, Nat.le_of_ble_eq_true rfl⟩), hts _ (List.mem_cons_of_mem _ tw_121)⟩ ⟨g_blind, g_at hKN (g_pm hP [1] rfl) (hD.sub [1] (by decide) rfl)⟩ rfl rfl hl.1 rfl (lv_room (Nat.le_of_ble_eq_true rfl)) d_m671_5 ⟨Nat.zero_le _, Nat.zero_le _⟩) (fun H locs hP hD hS => ?_)
    refine W.eq (g2 := F0 m 8 ls []) rfl ?_
    refine lv_aload_n hx hb d_m671_8 rfl (lv_at hl 0 rfl) ?_
    refine lv_iconst (v := (0 : Int32)) hx hb d_m671_9 (by decide) ?_
    refine va_put (D := (dC, dI)) (ci := 5) (v := .int (0 : Int32)) (ty := .int) (C := "ScanCoder$Decoder") (T := T_5) (N := 7) hx hb hts n0 ty_5 tyok_5 nm_5 hown hK hP hD hS 0 rfl rfl 6 (by decide) k1 (fun _ h9 => h9) rfl (by decide +kernel) rfl rfl (Nat.le_of_ble_eq_true rfl) d_m671_10 (fun H locs hP hD hS => ?_)
    have hP : va_P (dC, dI) vwCl (w_Decoder_forget cI cB cS cT a_dec a_dec_p a_pic a_crs a_tbs a_rd dec_keeps (0 : Int32) z1) H := hP
    have hD : va_D A (w_Decoder_forget cI cB cS cT a_dec a_dec_p a_pic a_crs a_tbs a_rd dec_keeps (0 : Int32) z1) := hD
    obtain rfl := Option.some.inj hf
    subst hQ
    subst hAe
    exact W.vret hx hb hr (fun t ht hW => ⟨⟨(), rfl, trivial, by rw [ht]; exact hP, hD⟩, hS.F ht⟩) hS.2.2 d_m671_13
  exact hgo _ _ hP hS

def f_Decoder_endPart (rd_part : Int32) (rd_left : Int32) (rd_fault : Int32) (dec_run : Int32) : Option (Int32 × Int32) :=
  if dec_run ≤ 0 then
    (f_BitReader_endByte rd_part rd_left rd_fault).bind fun z1 =>
    some (z1.1, z1.2)
  else
    some (rd_left, (5 : Int32))
abbrev w_Decoder_endPart (cI cB cS cT : ClassId) (a_rd : Nat) (a_dec : Nat) (a_sto : Nat) (a_pic : Nat) (a_crs : Nat) (a_tbs : Nat) (a_dec_p : Nat) (rd_at : Int32) (rd_part : Int32) (rd_left : Int32) (rd_fault : Int32) (dec_keeps : Int32) (dec_run : Int32) : va_W := [(a_rd, .inr (1, [.ref a_sto, .int rd_at, .int rd_part, .int rd_left, .int rd_fault])), (a_dec, .inr (5, [.ref a_pic, .ref a_crs, .ref a_tbs, .ref a_rd, .ref a_dec_p, .int dec_keeps, .int dec_run]))]
def rm_Decoder_endPart : Room := { frames := 1, cells := 0, slots := 0, locals := 21 }
set_option maxHeartbeats 1000000 in
set_option maxRecDepth 100000 in
theorem c_Decoder_endPart (l : Launch) (dC : Nat → ClassId) (dI : Nat → Nat → Nat) (cI cB cS cT : ClassId) (a_rd : Nat) (a_dec : Nat) (a_sto : Nat) (a_pic : Nat) (a_crs : Nat) (a_tbs : Nat) (a_dec_p : Nat) (rd_at : Int32) (rd_part : Int32) (rd_left : Int32) (rd_fault : Int32) (dec_keeps : Int32) (dec_run : Int32) (sz : Nat) (z : Int32 × Int32) (hf : f_Decoder_endPart rd_part rd_left rd_fault dec_run = some z) : Met l y_m677 ws_m677 rm_Decoder_endPart (gPre (dC, dI) [.ref a_dec] (gT cI cB cS cT) (w_Decoder_endPart cI cB cS cT a_rd a_dec a_sto a_pic a_crs a_tbs a_dec_p rd_at rd_part rd_left rd_fault dec_keeps dec_run) sz) (gQv (dC, dI) (gT cI cB cS cT) (w_Decoder_endPart cI cB cS cT a_rd a_dec a_sto a_pic a_crs a_tbs a_dec_p rd_at rd_part rd_left rd_fault dec_keeps dec_run) (w_Decoder_endPart cI cB cS cT a_rd a_dec a_sto a_pic a_crs a_tbs a_dec_p rd_at rd_part z.1 z.2 dec_keeps dec_run) sz) 0 0 (va_A (w_Decoder_endPart cI cB cS cT a_rd a_dec a_sto a_pic a_crs a_tbs a_dec_p rd_at rd_part rd_left rd_fault dec_keeps dec_run) sz) := by
  refine Met.ofW (cc := prog_6_method_4_code) (maxL := 1) (ret := none) (by decide) rfl ?_
  intro p e s m args below meth c s₁ B hml hv
  obtain ⟨hargs, hsz, hP, hKN, hD0⟩ := hv
  have hK := hKN.1
  have hx := B.exec
  have hb := B.bytes
  have hr := B.returns
  have hts := atoms_spec (ws := ws_m677) B.pre
  have hown : s.vm.findClass "ScanCoder$Decoder" = some m.cls := findClass_of_methodNamed B.named
  have hlocks := B.notSynchronized
  have k0 := hts _ (List.mem_cons_of_mem _ tw_403)
  have k1 := hts _ (List.mem_cons_of_mem _ tw_400)
  have k2 := hts _ (List.mem_cons_of_mem _ tw_381)
  have n0 : ∀ w ∈ u_ws "ScanCoder$Decoder" T_5 7, w ∈ ws_m677 := fun w h => List.mem_cons_of_mem _ (in_5 w h)
  have n1 : ∀ w ∈ u_ws "ScanCoder$BitReader" T_1 5, w ∈ ws_m677 := fun w h => List.mem_cons_of_mem _ (in_1 w h)
  subst hsz
  have hD := hD0.self (sz := s.heap.size)
  obtain ⟨A, hAe⟩ : ∃ A : Nat → Prop, va_A (w_Decoder_endPart cI cB cS cT a_rd a_dec a_sto a_pic a_crs a_tbs a_dec_p rd_at rd_part rd_left rd_fault dec_keeps dec_run) s.heap.size = A := ⟨_, rfl⟩
  rw [hAe] at hD
  have hA : ∀ q : Nat, s.heap.size ≤ q → A q := fun q h => by rw [← hAe]; exact Or.inr h
  have hS : va_S A s.heap s.heap [] := va_S.rf
  have hl := lv_entry ([.ref a_dec]) (n := 1) (Nat.le_of_ble_eq_true rfl)
  have hfr : entryFrame m args 1 = F0 m 0 ((lg_sl ([.ref a_dec]) ++ List.replicate (1 - (lg_sl ([.ref a_dec])).length) Slot.unset).toArray) [] := by rw [hargs]; exact lg_entry_eq _ _ _
  rw [hfr]
  generalize (lg_sl ([.ref a_dec]) ++ List.replicate (1 - (lg_sl ([.ref a_dec])).length) Slot.unset).toArray = ls at hl ⊢
  have hl : lv_has ls 1 [(0, .ref a_dec)] := hl
  refine gen_Q (fun Q hQ => ?_)
  clear hfr
  have hgo : ∀ (H : Heap) (locs : List Loc), va_P (dC, dI) vwCl (w_Decoder_endPart cI cB cS cT a_rd a_dec a_sto a_pic a_crs a_tbs a_dec_p rd_at rd_part rd_left rd_fault dec_keeps dec_run) H → va_S A s.heap H locs → W p l e (headSpec ws_m677 rm_Decoder_endPart).room s m args below meth c H locs 0 0 Q (F0 m 0 ls []) := by
    intro H locs hP hS
    unfold f_Decoder_endPart at hf
    refine lv_aload_n hx hb d_m677_0 rfl (lv_at hl 0 rfl) ?_
    refine va_get (D := (dC, dI)) (ci := 5) (v := .int dec_run) (C := "ScanCoder$Decoder") (T := T_5) (N := 7) hx hb hts n0 hown hK hP 1 rfl rfl 6 (by decide) k0 (fun _ h9 => h9) rfl d_m677_1 ?_
    refine lv_if_le (tgt := 18) hx hb d_m677_4 (by decide) (fun hc => ?_) (fun hc => ?_)
    · replace hf := (if_pos hc).symm.trans hf
      refine lv_aload_n hx hb d_m677_18 rfl (lv_at hl 0 rfl) ?_
      refine va_get (D := (dC, dI)) (ci := 5) (v := .ref a_rd) (C := "ScanCoder$Decoder") (T := T_5) (N := 7) hx hb hts n0 hown hK hP 1 rfl rfl 3 (by decide) k1 (fun _ h9 => h9) rfl d_m677_19 ?_
      obtain ⟨z1, hz1, hf⟩ := ob_bind hf
      refine g_callv (wc := (w_BitReader_endByte cI cB cS cT a_rd a_sto rd_at rd_part rd_left rd_fault)) (w1 := (w_BitReader_endByte cI cB cS cT a_rd a_sto rd_at rd_part z1.1 z1.2)) (w2 := (w_Decoder_endPart cI cB cS cT a_rd a_dec a_sto a_pic a_crs a_tbs a_dec_p rd_at rd_part z1.1 z1.2 dec_keeps dec_run)) [0] [some 0, none] hP hD hS hA rfl rfl rfl rfl (va_runV (As := []) (rest := []) ⟨hx, hb, hml, hown, hts⟩ (c_BitReader_endByte l dC dI cI cB cS cT a_rd a_sto rd_at rd_part rd_left rd_fault H.size z1 hz1) ⟨(callB_of 0 hts (gi tw_681 rfl) rfl rfl rfl (hts _ (List.mem_cons_of_mem _ tw_15)) (hts _ (List.mem_cons_of_mem _ tw_678)) (by decide +kernel) ⟨Nat.le_of_ble_eq_true rfl, Nat.le_of_ble_eq_true rfl⟩), hts _ (List.mem_cons_of_mem _ tw_679), hts _ (List.mem_cons_of_mem _ tw_680)⟩ ⟨g_blind, va_recv hK hP (ci := 1) (q0 := 0) rfl rfl, g_at hKN (g_pm hP [0] rfl) (hD.sub [0] (by decide) rfl)⟩ rfl rfl hl.1 rfl (lv_room (Nat.le_of_ble_eq_true rfl)) d_m677_22 ⟨Nat.zero_le _, Nat.zero_le _⟩) (fun H locs hP hD hS => ?_)
      refine W.eq (g2 := F0 m 25 ls []) rfl ?_
      obtain rfl := Option.some.inj hf
      subst hQ
      subst hAe
      exact W.vret hx hb hr (fun t ht hW => ⟨⟨(), rfl, trivial, by rw [ht]; exact hP, hD⟩, hS.F ht⟩) hS.2.2 d_m677_25
    · replace hf := (if_neg hc).symm.trans hf
      refine lv_aload_n hx hb d_m677_7 rfl (lv_at hl 0 rfl) ?_
      refine va_get (D := (dC, dI)) (ci := 5) (v := .ref a_rd) (C := "ScanCoder$Decoder") (T := T_5) (N := 7) hx hb hts n0 hown hK hP 1 rfl rfl 3 (by decide) k1 (fun _ h9 => h9) rfl d_m677_8 ?_
      refine lv_iconst (v := (5 : Int32)) hx hb d_m677_11 (by decide) ?_
      refine va_put (D := (dC, dI)) (ci := 1) (v := .int (5 : Int32)) (ty := .int) (C := "ScanCoder$BitReader") (T := T_1) (N := 5) hx hb hts n1 ty_1 tyok_1 nm_1 hown hK hP hD hS 0 rfl rfl 4 (by decide) k2 (fun _ h9 => h9) rfl (by decide +kernel) rfl rfl (Nat.le_of_ble_eq_true rfl) d_m677_12 (fun H locs hP hD hS => ?_)
      have hP : va_P (dC, dI) vwCl (w_Decoder_endPart cI cB cS cT a_rd a_dec a_sto a_pic a_crs a_tbs a_dec_p rd_at rd_part rd_left (5 : Int32) dec_keeps dec_run) H := hP
      have hD : va_D A (w_Decoder_endPart cI cB cS cT a_rd a_dec a_sto a_pic a_crs a_tbs a_dec_p rd_at rd_part rd_left (5 : Int32) dec_keeps dec_run) := hD
      refine lv_goto (tgt := 25) hx hb d_m677_15 (by decide) ?_
      obtain rfl := Option.some.inj hf
      subst hQ
      subst hAe
      exact W.vret hx hb hr (fun t ht hW => ⟨⟨(), rfl, trivial, by rw [ht]; exact hP, hD⟩, hS.F ht⟩) hS.2.2 d_m677_25
  exact hgo _ _ hP hS

def f_Decoder_keep (p0 : Int32) (p1 : Int32) (n_pic_co : Nat) (pic_co : Nat → Int32) (dec_keeps : Int32) : Option (Nat → Int32) :=
  if dec_keeps = 0 then
    some pic_co
  else
    if p0 < 0 ∨ n_pic_co ≤ p0.toNatClampNeg then none else
    some (upd pic_co p0.toNatClampNeg (vp_nar .short p1.toInt16.toInt32))
abbrev w_Decoder_keep (cI cB cS cT : ClassId) (a_pic : Nat) (a_pic_co : Nat) (a_dec : Nat) (a_pic_h : Nat) (a_pic_v : Nat) (a_pic_ac : Nat) (a_pic_dn : Nat) (a_pic_oa : Nat) (a_pic_od : Nat) (a_pic_st : Nat) (a_crs : Nat) (a_tbs : Nat) (a_rd : Nat) (a_dec_p : Nat) (pic_many : Int32) (pic_unitsAcross : Int32) (pic_unitsDown : Int32) (pic_blocks : Int32) (n_pic_co : Nat) (pic_co : Nat → Int32) (dec_keeps : Int32) (dec_run : Int32) : va_W := [(a_pic, .inr (8, [.ref a_pic_h, .ref a_pic_v, .ref a_pic_ac, .ref a_pic_dn, .ref a_pic_oa, .ref a_pic_od, .ref a_pic_st, .int pic_many, .int pic_unitsAcross, .int pic_unitsDown, .int pic_blocks, .ref a_pic_co])), (a_pic_co, .inl (cS, n_pic_co, .inl pic_co)), (a_dec, .inr (5, [.ref a_pic, .ref a_crs, .ref a_tbs, .ref a_rd, .ref a_dec_p, .int dec_keeps, .int dec_run]))]
def rm_Decoder_keep : Room := { frames := 0, cells := 0, slots := 0, locals := 0 }
set_option maxHeartbeats 1000000 in
set_option maxRecDepth 100000 in
theorem c_Decoder_keep (l : Launch) (dC : Nat → ClassId) (dI : Nat → Nat → Nat) (cI cB cS cT : ClassId) (a_pic : Nat) (a_pic_co : Nat) (a_dec : Nat) (a_pic_h : Nat) (a_pic_v : Nat) (a_pic_ac : Nat) (a_pic_dn : Nat) (a_pic_oa : Nat) (a_pic_od : Nat) (a_pic_st : Nat) (a_crs : Nat) (a_tbs : Nat) (a_rd : Nat) (a_dec_p : Nat) (pic_many : Int32) (pic_unitsAcross : Int32) (pic_unitsDown : Int32) (pic_blocks : Int32) (n_pic_co : Nat) (pic_co : Nat → Int32) (dec_keeps : Int32) (dec_run : Int32) (p0 : Int32) (p1 : Int32) (sz : Nat) (z : Nat → Int32) (hf : f_Decoder_keep p0 p1 n_pic_co pic_co dec_keeps = some z) : Met l y_m728 ws_m728 rm_Decoder_keep (gPre (dC, dI) [.ref a_dec, .int p0, .int p1] (gT cI cB cS cT) (w_Decoder_keep cI cB cS cT a_pic a_pic_co a_dec a_pic_h a_pic_v a_pic_ac a_pic_dn a_pic_oa a_pic_od a_pic_st a_crs a_tbs a_rd a_dec_p pic_many pic_unitsAcross pic_unitsDown pic_blocks n_pic_co pic_co dec_keeps dec_run) sz) (gQv (dC, dI) (gT cI cB cS cT) (w_Decoder_keep cI cB cS cT a_pic a_pic_co a_dec a_pic_h a_pic_v a_pic_ac a_pic_dn a_pic_oa a_pic_od a_pic_st a_crs a_tbs a_rd a_dec_p pic_many pic_unitsAcross pic_unitsDown pic_blocks n_pic_co pic_co dec_keeps dec_run) (w_Decoder_keep cI cB cS cT a_pic a_pic_co a_dec a_pic_h a_pic_v a_pic_ac a_pic_dn a_pic_oa a_pic_od a_pic_st a_crs a_tbs a_rd a_dec_p pic_many pic_unitsAcross pic_unitsDown pic_blocks n_pic_co z dec_keeps dec_run) sz) 0 0 (va_A (w_Decoder_keep cI cB cS cT a_pic a_pic_co a_dec a_pic_h a_pic_v a_pic_ac a_pic_dn a_pic_oa a_pic_od a_pic_st a_crs a_tbs a_rd a_dec_p pic_many pic_unitsAcross pic_unitsDown pic_blocks n_pic_co pic_co dec_keeps dec_run) sz) := by
  refine Met.ofW (cc := prog_6_method_5_code) (maxL := 3) (ret := none) (by decide) rfl ?_
  intro p e s m args below meth c s₁ B hml hv
  obtain ⟨hargs, hsz, hP, hKN, hD0⟩ := hv
  have hK := hKN.1
  have hx := B.exec
  have hb := B.bytes
  have hr := B.returns
  have hts := atoms_spec (ws := ws_m728) B.pre
  have hown : s.vm.findClass "ScanCoder$Decoder" = some m.cls := findClass_of_methodNamed B.named
  have hlocks := B.notSynchronized
  have k0 := hts _ (List.mem_cons_of_mem _ tw_402)
  have k1 := hts _ (List.mem_cons_of_mem _ tw_397)
  have k2 := hts _ (List.mem_cons_of_mem _ tw_81)
  have n0 : ∀ w ∈ u_ws "ScanCoder$Decoder" T_5 7, w ∈ ws_m728 := fun w h => List.mem_cons_of_mem _ (in_5 w h)
  have n1 : ∀ w ∈ u_ws "ScanCoder$Picture" T_8 12, w ∈ ws_m728 := fun w h => List.mem_cons_of_mem _ (in_8 w h)
  subst hsz
  have hD := hD0.self (sz := s.heap.size)
  obtain ⟨A, hAe⟩ : ∃ A : Nat → Prop, va_A (w_Decoder_keep cI cB cS cT a_pic a_pic_co a_dec a_pic_h a_pic_v a_pic_ac a_pic_dn a_pic_oa a_pic_od a_pic_st a_crs a_tbs a_rd a_dec_p pic_many pic_unitsAcross pic_unitsDown pic_blocks n_pic_co pic_co dec_keeps dec_run) s.heap.size = A := ⟨_, rfl⟩
  rw [hAe] at hD
  have hA : ∀ q : Nat, s.heap.size ≤ q → A q := fun q h => by rw [← hAe]; exact Or.inr h
  have hS : va_S A s.heap s.heap [] := va_S.rf
  have hl := lv_entry ([.ref a_dec, .int p0, .int p1]) (n := 3) (Nat.le_of_ble_eq_true rfl)
  have hfr : entryFrame m args 3 = F0 m 0 ((lg_sl ([.ref a_dec, .int p0, .int p1]) ++ List.replicate (3 - (lg_sl ([.ref a_dec, .int p0, .int p1])).length) Slot.unset).toArray) [] := by rw [hargs]; exact lg_entry_eq _ _ _
  rw [hfr]
  generalize (lg_sl ([.ref a_dec, .int p0, .int p1]) ++ List.replicate (3 - (lg_sl ([.ref a_dec, .int p0, .int p1])).length) Slot.unset).toArray = ls at hl ⊢
  have hl : lv_has ls 3 [(0, .ref a_dec), (1, .int p0), (2, .int p1)] := hl
  refine gen_Q (fun Q hQ => ?_)
  clear hfr
  have hgo : ∀ (H : Heap) (locs : List Loc), va_P (dC, dI) vwCl (w_Decoder_keep cI cB cS cT a_pic a_pic_co a_dec a_pic_h a_pic_v a_pic_ac a_pic_dn a_pic_oa a_pic_od a_pic_st a_crs a_tbs a_rd a_dec_p pic_many pic_unitsAcross pic_unitsDown pic_blocks n_pic_co pic_co dec_keeps dec_run) H → va_S A s.heap H locs → W p l e (headSpec ws_m728 rm_Decoder_keep).room s m args below meth c H locs 0 0 Q (F0 m 0 ls []) := by
    intro H locs hP hS
    unfold f_Decoder_keep at hf
    refine lv_aload_n hx hb d_m728_0 rfl (lv_at hl 0 rfl) ?_
    refine va_get (D := (dC, dI)) (ci := 5) (v := .int dec_keeps) (C := "ScanCoder$Decoder") (T := T_5) (N := 7) hx hb hts n0 hown hK hP 2 rfl rfl 5 (by decide) k0 (fun _ h9 => h9) rfl d_m728_1 ?_
    refine lv_if_eq (tgt := 18) hx hb d_m728_4 (by decide) (fun hc => ?_) (fun hc => ?_)
    · replace hf := (if_pos hc).symm.trans hf
      obtain rfl := Option.some.inj hf
      subst hQ
      subst hAe
      exact W.vret hx hb hr (fun t ht hW => ⟨⟨(), rfl, trivial, by rw [ht]; exact hP, hD⟩, hS.F ht⟩) hS.2.2 d_m728_18
    · replace hf := (if_neg hc).symm.trans hf
      refine lv_aload_n hx hb d_m728_7 rfl (lv_at hl 0 rfl) ?_
      refine va_get (D := (dC, dI)) (ci := 5) (v := .ref a_pic) (C := "ScanCoder$Decoder") (T := T_5) (N := 7) hx hb hts n0 hown hK hP 2 rfl rfl 0 (by decide) k1 (fun _ h9 => h9) rfl d_m728_8 ?_
      refine va_get (D := (dC, dI)) (ci := 8) (v := .ref a_pic_co) (C := "ScanCoder$Picture") (T := T_8) (N := 12) hx hb hts n1 hown hK hP 0 rfl rfl 11 (by decide) k2 (fun _ h9 => h9) rfl d_m728_11 ?_
      refine lv_iload_n hx hb d_m728_14 rfl (lv_at hl 1 rfl) ?_
      refine lv_iload_n hx hb d_m728_15 rfl (lv_at hl 2 rfl) ?_
      refine lv_i2s hx hb d_m728_16 rfl ?_
      obtain ⟨hi, hf⟩ := ob_if hf
      refine va_sast hx hb hK hP hD hS 1 2 rfl rfl hi d_m728_17 (fun H locs hP hD hS => ?_)
      have hP : va_P (dC, dI) vwCl (w_Decoder_keep cI cB cS cT a_pic a_pic_co a_dec a_pic_h a_pic_v a_pic_ac a_pic_dn a_pic_oa a_pic_od a_pic_st a_crs a_tbs a_rd a_dec_p pic_many pic_unitsAcross pic_unitsDown pic_blocks n_pic_co (upd pic_co p0.toNatClampNeg (vp_nar .short p1.toInt16.toInt32)) dec_keeps dec_run) H := hP
      have hD : va_D A (w_Decoder_keep cI cB cS cT a_pic a_pic_co a_dec a_pic_h a_pic_v a_pic_ac a_pic_dn a_pic_oa a_pic_od a_pic_st a_crs a_tbs a_rd a_dec_p pic_many pic_unitsAcross pic_unitsDown pic_blocks n_pic_co (upd pic_co p0.toNatClampNeg (vp_nar .short p1.toInt16.toInt32)) dec_keeps dec_run) := hD
      obtain rfl := Option.some.inj hf
      subst hQ
      subst hAe
      exact W.vret hx hb hr (fun t ht hW => ⟨⟨(), rfl, trivial, by rw [ht]; exact hP, hD⟩, hS.F ht⟩) hS.2.2 d_m728_18
  exact hgo _ _ hP hS
def f_Decoder_takeNumber_J27 (N : Nat) (s0_j27 : Int32) (v2_j27 : Int32) (p0 : Int32) (rd_at_j27 : Int32) (rd_part_j27 : Int32) (rd_left_j27 : Int32) (rd_fault_j27 : Int32) : Option (Int32 × Int32 × Int32 × Int32 × Int32) :=
  if s0_j27 = 0 then
    some ((v2_j27 - ((1 : Int32) <<< (p0 &&& 31))) + (1 : Int32), rd_at_j27, rd_part_j27, rd_left_j27, rd_fault_j27)
  else
    some (v2_j27, rd_at_j27, rd_part_j27, rd_left_j27, rd_fault_j27)
def f_Decoder_takeNumber_J26 (N : Nat) (v2_j26 : Int32) (p0 : Int32) (rd_at_j26 : Int32) (rd_part_j26 : Int32) (rd_left_j26 : Int32) (rd_fault_j26 : Int32) : Option (Int32 × Int32 × Int32 × Int32 × Int32) :=
  f_Decoder_takeNumber_J27 N (0 : Int32) v2_j26 p0 rd_at_j26 rd_part_j26 rd_left_j26 rd_fault_j26
def f_Decoder_takeNumber (N : Nat) (p0 : Int32) (sto_length : Int32) (n_sto_b : Nat) (sto_b : Nat → Int32) (rd_at : Int32) (rd_part : Int32) (rd_left : Int32) (rd_fault : Int32) : Option (Int32 × Int32 × Int32 × Int32 × Int32) :=
  (f_BitReader_takeBits N p0 sto_length n_sto_b sto_b rd_at rd_part rd_left rd_fault).bind fun z1 =>
  if p0 ≤ 0 then
    f_Decoder_takeNumber_J26 N z1.1 p0 z1.2.1 z1.2.2.1 z1.2.2.2.1 z1.2.2.2.2
  else
    if (z1.1 >>> ((p0 - (1 : Int32)) &&& 31)) = (1 : Int32) then
      f_Decoder_takeNumber_J27 N (1 : Int32) z1.1 p0 z1.2.1 z1.2.2.1 z1.2.2.2.1 z1.2.2.2.2
    else
      f_Decoder_takeNumber_J26 N z1.1 p0 z1.2.1 z1.2.2.1 z1.2.2.2.1 z1.2.2.2.2
abbrev w_Decoder_takeNumber (cI cB cS cT : ClassId) (a_sto : Nat) (a_sto_b : Nat) (a_rd : Nat) (a_dec : Nat) (a_pic : Nat) (a_crs : Nat) (a_tbs : Nat) (a_dec_p : Nat) (sto_length : Int32) (n_sto_b : Nat) (sto_b : Nat → Int32) (rd_at : Int32) (rd_part : Int32) (rd_left : Int32) (rd_fault : Int32) (dec_keeps : Int32) (dec_run : Int32) : va_W := [(a_sto, .inr (9, [.ref a_sto_b, .int sto_length])), (a_sto_b, .inl (cB, n_sto_b, .inl sto_b)), (a_rd, .inr (1, [.ref a_sto, .int rd_at, .int rd_part, .int rd_left, .int rd_fault])), (a_dec, .inr (5, [.ref a_pic, .ref a_crs, .ref a_tbs, .ref a_rd, .ref a_dec_p, .int dec_keeps, .int dec_run]))]
def rm_Decoder_takeNumber : Room := { frames := 2, cells := 0, slots := 0, locals := 44 }
set_option maxHeartbeats 1000000 in
set_option maxRecDepth 100000 in
theorem c_Decoder_takeNumber (l : Launch) (dC : Nat → ClassId) (dI : Nat → Nat → Nat) (cI cB cS cT : ClassId) (N : Nat) (a_sto : Nat) (a_sto_b : Nat) (a_rd : Nat) (a_dec : Nat) (a_pic : Nat) (a_crs : Nat) (a_tbs : Nat) (a_dec_p : Nat) (sto_length : Int32) (n_sto_b : Nat) (sto_b : Nat → Int32) (rd_at : Int32) (rd_part : Int32) (rd_left : Int32) (rd_fault : Int32) (dec_keeps : Int32) (dec_run : Int32) (p0 : Int32) (sz : Nat) (z : Int32 × Int32 × Int32 × Int32 × Int32) (hf : f_Decoder_takeNumber N p0 sto_length n_sto_b sto_b rd_at rd_part rd_left rd_fault = some z) : Met l y_m718 ws_m718 rm_Decoder_takeNumber (gPre (dC, dI) [.ref a_dec, .int p0] (gT cI cB cS cT) (w_Decoder_takeNumber cI cB cS cT a_sto a_sto_b a_rd a_dec a_pic a_crs a_tbs a_dec_p sto_length n_sto_b sto_b rd_at rd_part rd_left rd_fault dec_keeps dec_run) sz) (gQi (dC, dI) (gT cI cB cS cT) z.1 (w_Decoder_takeNumber cI cB cS cT a_sto a_sto_b a_rd a_dec a_pic a_crs a_tbs a_dec_p sto_length n_sto_b sto_b rd_at rd_part rd_left rd_fault dec_keeps dec_run) (w_Decoder_takeNumber cI cB cS cT a_sto a_sto_b a_rd a_dec a_pic a_crs a_tbs a_dec_p sto_length n_sto_b sto_b z.2.1 z.2.2.1 z.2.2.2.1 z.2.2.2.2 dec_keeps dec_run) sz) 0 0 (va_A (w_Decoder_takeNumber cI cB cS cT a_sto a_sto_b a_rd a_dec a_pic a_crs a_tbs a_dec_p sto_length n_sto_b sto_b rd_at rd_part rd_left rd_fault dec_keeps dec_run) sz) := by
  refine Met.ofW (cc := prog_6_method_7_code) (maxL := 4) (ret := (some .int)) (by decide) rfl ?_
  intro p e s m args below meth c s₁ B hml hv
  obtain ⟨hargs, hsz, hP, hKN, hD0⟩ := hv
  have hK := hKN.1
  have hx := B.exec
  have hb := B.bytes
  have hr := B.returns
  have hts := atoms_spec (ws := ws_m718) B.pre
  have hown : s.vm.findClass "ScanCoder$Decoder" = some m.cls := findClass_of_methodNamed B.named
  have hlocks := B.notSynchronized
  have k0 := hts _ (List.mem_cons_of_mem _ tw_400)
  have n0 : ∀ w ∈ u_ws "ScanCoder$Decoder" T_5 7, w ∈ ws_m718 := fun w h => List.mem_cons_of_mem _ (in_5 w h)
  subst hsz
  have hD := hD0.self (sz := s.heap.size)
  obtain ⟨A, hAe⟩ : ∃ A : Nat → Prop, va_A (w_Decoder_takeNumber cI cB cS cT a_sto a_sto_b a_rd a_dec a_pic a_crs a_tbs a_dec_p sto_length n_sto_b sto_b rd_at rd_part rd_left rd_fault dec_keeps dec_run) s.heap.size = A := ⟨_, rfl⟩
  rw [hAe] at hD
  have hA : ∀ q : Nat, s.heap.size ≤ q → A q := fun q h => by rw [← hAe]; exact Or.inr h
  have hS : va_S A s.heap s.heap [] := va_S.rf
  have hl := lv_entry ([.ref a_dec, .int p0]) (n := 4) (Nat.le_of_ble_eq_true rfl)
  have hfr : entryFrame m args 4 = F0 m 0 ((lg_sl ([.ref a_dec, .int p0]) ++ List.replicate (4 - (lg_sl ([.ref a_dec, .int p0])).length) Slot.unset).toArray) [] := by rw [hargs]; exact lg_entry_eq _ _ _
  rw [hfr]
  generalize (lg_sl ([.ref a_dec, .int p0]) ++ List.replicate (4 - (lg_sl ([.ref a_dec, .int p0])).length) Slot.unset).toArray = ls at hl ⊢
  have hl : lv_has ls 4 [(0, .ref a_dec), (1, .int p0)] := hl
  refine gen_Q (fun Q hQ => ?_)
  clear hfr
  have J27 : ∀ (v2_j27 : Int32) (rd_at_j27 : Int32) (rd_part_j27 : Int32) (rd_left_j27 : Int32) (rd_fault_j27 : Int32) (s0_j27 : Int32), f_Decoder_takeNumber_J27 N s0_j27 v2_j27 p0 rd_at_j27 rd_part_j27 rd_left_j27 rd_fault_j27 = some z → GW (dC, dI) A p l e (headSpec ws_m718 rm_Decoder_takeNumber).room s m args below meth c 0 0 Q 4 27 (w_Decoder_takeNumber cI cB cS cT a_sto a_sto_b a_rd a_dec a_pic a_crs a_tbs a_dec_p sto_length n_sto_b sto_b rd_at_j27 rd_part_j27 rd_left_j27 rd_fault_j27 dec_keeps dec_run) [(1, .int p0), (2, .int v2_j27)] [.int s0_j27] := by
    intro v2_j27 rd_at_j27 rd_part_j27 rd_left_j27 rd_fault_j27 s0_j27 hf H locs ls hP hD hS hl
    unfold f_Decoder_takeNumber_J27 at hf
    refine lv_istore_n (lv' := [(3, .int s0_j27), (1, .int p0), (2, .int v2_j27)]) hx hb d_m718_27 rfl hl (by decide) rfl (fun ls hl => ?_)
    refine lv_iload_n hx hb d_m718_28 rfl (lv_at hl 0 rfl) ?_
    refine lv_if_eq (tgt := 36) hx hb d_m718_29 (by decide) (fun hc => ?_) (fun hc => ?_)
    · replace hf := (if_pos hc).symm.trans hf
      refine lv_iload_n hx hb d_m718_36 rfl (lv_at hl 2 rfl) ?_
      refine lv_iconst (v := (1 : Int32)) hx hb d_m718_37 (by decide) ?_
      refine lv_iload_n hx hb d_m718_38 rfl (lv_at hl 1 rfl) ?_
      refine lv_ishl hx hb d_m718_39 ?_
      refine lv_isub hx hb d_m718_40 ?_
      refine lv_iconst (v := (1 : Int32)) hx hb d_m718_41 (by decide) ?_
      refine lv_iadd hx hb d_m718_42 ?_
      obtain rfl := Option.some.inj hf
      subst hQ
      subst hAe
      exact W.iret (v := (v2_j27 - ((1 : Int32) <<< (p0 &&& 31))) + (1 : Int32)) hx hb hr (fun t ht hW => ⟨⟨(v2_j27 - ((1 : Int32) <<< (p0 &&& 31))) + (1 : Int32), (), rfl, rfl, by rw [ht]; exact hP, hD⟩, hS.F ht⟩) hS.2.2 d_m718_43
    · replace hf := (if_neg hc).symm.trans hf
      refine lv_iload_n hx hb d_m718_32 rfl (lv_at hl 2 rfl) ?_
      refine lv_goto (tgt := 43) hx hb d_m718_33 (by decide) ?_
      obtain rfl := Option.some.inj hf
      subst hQ
      subst hAe
      exact W.iret (v := v2_j27) hx hb hr (fun t ht hW => ⟨⟨v2_j27, (), rfl, rfl, by rw [ht]; exact hP, hD⟩, hS.F ht⟩) hS.2.2 d_m718_43
  have J26 : ∀ (v2_j26 : Int32) (rd_at_j26 : Int32) (rd_part_j26 : Int32) (rd_left_j26 : Int32) (rd_fault_j26 : Int32), f_Decoder_takeNumber_J26 N v2_j26 p0 rd_at_j26 rd_part_j26 rd_left_j26 rd_fault_j26 = some z → GW (dC, dI) A p l e (headSpec ws_m718 rm_Decoder_takeNumber).room s m args below meth c 0 0 Q 4 26 (w_Decoder_takeNumber cI cB cS cT a_sto a_sto_b a_rd a_dec a_pic a_crs a_tbs a_dec_p sto_length n_sto_b sto_b rd_at_j26 rd_part_j26 rd_left_j26 rd_fault_j26 dec_keeps dec_run) [(1, .int p0), (2, .int v2_j26)] [] := by
    intro v2_j26 rd_at_j26 rd_part_j26 rd_left_j26 rd_fault_j26 hf H locs ls hP hD hS hl
    unfold f_Decoder_takeNumber_J26 at hf
    refine lv_iconst (v := (0 : Int32)) hx hb d_m718_26 (by decide) ?_
    exact J27 v2_j26 rd_at_j26 rd_part_j26 rd_left_j26 rd_fault_j26 (0 : Int32) hf H locs ls hP hD hS hl
  have hgo : ∀ (H : Heap) (locs : List Loc), va_P (dC, dI) vwCl (w_Decoder_takeNumber cI cB cS cT a_sto a_sto_b a_rd a_dec a_pic a_crs a_tbs a_dec_p sto_length n_sto_b sto_b rd_at rd_part rd_left rd_fault dec_keeps dec_run) H → va_S A s.heap H locs → W p l e (headSpec ws_m718 rm_Decoder_takeNumber).room s m args below meth c H locs 0 0 Q (F0 m 0 ls []) := by
    intro H locs hP hS
    unfold f_Decoder_takeNumber at hf
    refine lv_aload_n hx hb d_m718_0 rfl (lv_at hl 0 rfl) ?_
    refine va_get (D := (dC, dI)) (ci := 5) (v := .ref a_rd) (C := "ScanCoder$Decoder") (T := T_5) (N := 7) hx hb hts n0 hown hK hP 3 rfl rfl 3 (by decide) k0 (fun _ h9 => h9) rfl d_m718_1 ?_
    refine lv_iload_n hx hb d_m718_4 rfl (lv_at hl 1 rfl) ?_
    obtain ⟨z1, hz1, hf⟩ := ob_bind hf
    refine g_calli (wc := (w_BitReader_takeBits cI cB cS cT a_sto a_sto_b a_rd sto_length n_sto_b sto_b rd_at rd_part rd_left rd_fault)) (w1 := (w_BitReader_takeBits cI cB cS cT a_sto a_sto_b a_rd sto_length n_sto_b sto_b z1.2.1 z1.2.2.1 z1.2.2.2.1 z1.2.2.2.2)) (w2 := (w_Decoder_takeNumber cI cB cS cT a_sto a_sto_b a_rd a_dec a_pic a_crs a_tbs a_dec_p sto_length n_sto_b sto_b z1.2.1 z1.2.2.1 z1.2.2.2.1 z1.2.2.2.2 dec_keeps dec_run)) [0, 1, 2] [some 0, some 1, some 2, none] hP hD hS hA rfl rfl rfl rfl (va_runV (As := [.int p0]) (rest := []) ⟨hx, hb, hml, hown, hts⟩ (c_BitReader_takeBits l dC dI cI cB cS cT N a_sto a_sto_b a_rd sto_length n_sto_b sto_b rd_at rd_part rd_left rd_fault p0 H.size z1 hz1) ⟨(callB_of 1 hts (gi tw_706 rfl) rfl rfl rfl (hts _ (List.mem_cons_of_mem _ tw_15)) (hts _ (List.mem_cons_of_mem _ tw_719)) (by decide +kernel) ⟨Nat.le_of_ble_eq_true rfl, Nat.le_of_ble_eq_true rfl⟩), hts _ (List.mem_cons_of_mem _ tw_704), hts _ (List.mem_cons_of_mem _ tw_705)⟩ ⟨g_blind, va_recv hK hP (ci := 1) (q0 := 2) rfl rfl, g_at hKN (g_pm hP [0, 1, 2] rfl) (hD.sub [0, 1, 2] (by decide) rfl)⟩ rfl rfl hl.1 rfl (lv_room (Nat.le_of_ble_eq_true rfl)) d_m718_5 ⟨Nat.zero_le _, Nat.zero_le _⟩) (fun H locs hP hD hS => ?_)
    refine W.eq (g2 := F0 m 8 ls [.int z1.1]) rfl ?_
    refine lv_istore_n (lv' := [(2, .int z1.1), (0, .ref a_dec), (1, .int p0)]) hx hb d_m718_8 rfl hl (by decide) rfl (fun ls hl => ?_)
    refine lv_iload_n hx hb d_m718_9 rfl (lv_at hl 2 rfl) ?_
    refine lv_if_le (tgt := 26) hx hb d_m718_10 (by decide) (fun hc => ?_) (fun hc => ?_)
    · replace hf := (if_pos hc).symm.trans hf
      exact J26 z1.1 z1.2.1 z1.2.2.1 z1.2.2.2.1 z1.2.2.2.2 hf H locs ls hP hD hS (lv_sub hl [2, 0] rfl)
    · replace hf := (if_neg hc).symm.trans hf
      refine lv_iload_n hx hb d_m718_13 rfl (lv_at hl 0 rfl) ?_
      refine lv_iload_n hx hb d_m718_14 rfl (lv_at hl 2 rfl) ?_
      refine lv_iconst (v := (1 : Int32)) hx hb d_m718_15 (by decide) ?_
      refine lv_isub hx hb d_m718_16 ?_
      refine lv_ishr hx hb d_m718_17 ?_
      refine lv_iconst (v := (1 : Int32)) hx hb d_m718_18 (by decide) ?_
      refine lv_icmp_ne (tgt := 26) hx hb d_m718_19 (by decide) (fun hc => ?_) (fun hc => ?_)
      · replace hf := (if_neg hc).symm.trans hf
        exact J26 z1.1 z1.2.1 z1.2.2.1 z1.2.2.2.1 z1.2.2.2.2 hf H locs ls hP hD hS (lv_sub hl [2, 0] rfl)
      · replace hf := (if_pos hc).symm.trans hf
        refine lv_iconst (v := (1 : Int32)) hx hb d_m718_22 (by decide) ?_
        refine lv_goto (tgt := 27) hx hb d_m718_23 (by decide) ?_
        exact J27 z1.1 z1.2.1 z1.2.2.1 z1.2.2.2.1 z1.2.2.2.2 (1 : Int32) hf H locs ls hP hD hS (lv_sub hl [2, 0] rfl)
  exact hgo _ _ hP hS

def f_Decoder_keepIfCanBe (p0 : Int32) (p1 : Int32) (p2 : Int32) (n_pic_co : Nat) (pic_co : Nat → Int32) (rd_fault : Int32) (dec_keeps : Int32) : Option ((Nat → Int32) × Int32) :=
  (f_Picture_canBe p1 p2).bind fun z1 =>
  if z1 = 0 then
    some (pic_co, (4 : Int32))
  else
    (f_Decoder_keep (p0 + p1) p2 n_pic_co pic_co dec_keeps).bind fun z2 =>
    some (z2, rd_fault)
abbrev w_Decoder_keepIfCanBe (cI cB cS cT : ClassId) (a_pic : Nat) (a_pic_co : Nat) (a_rd : Nat) (a_dec : Nat) (a_pic_h : Nat) (a_pic_v : Nat) (a_pic_ac : Nat) (a_pic_dn : Nat) (a_pic_oa : Nat) (a_pic_od : Nat) (a_pic_st : Nat) (a_sto : Nat) (a_crs : Nat) (a_tbs : Nat) (a_dec_p : Nat) (pic_many : Int32) (pic_unitsAcross : Int32) (pic_unitsDown : Int32) (pic_blocks : Int32) (n_pic_co : Nat) (pic_co : Nat → Int32) (rd_at : Int32) (rd_part : Int32) (rd_left : Int32) (rd_fault : Int32) (dec_keeps : Int32) (dec_run : Int32) : va_W := [(a_pic, .inr (8, [.ref a_pic_h, .ref a_pic_v, .ref a_pic_ac, .ref a_pic_dn, .ref a_pic_oa, .ref a_pic_od, .ref a_pic_st, .int pic_many, .int pic_unitsAcross, .int pic_unitsDown, .int pic_blocks, .ref a_pic_co])), (a_pic_co, .inl (cS, n_pic_co, .inl pic_co)), (a_rd, .inr (1, [.ref a_sto, .int rd_at, .int rd_part, .int rd_left, .int rd_fault])), (a_dec, .inr (5, [.ref a_pic, .ref a_crs, .ref a_tbs, .ref a_rd, .ref a_dec_p, .int dec_keeps, .int dec_run]))]
def rm_Decoder_keepIfCanBe : Room := { frames := 1, cells := 0, slots := 0, locals := 23 }
set_option maxHeartbeats 1000000 in
set_option maxRecDepth 100000 in
theorem c_Decoder_keepIfCanBe (l : Launch) (dC : Nat → ClassId) (dI : Nat → Nat → Nat) (cI cB cS cT : ClassId) (a_pic : Nat) (a_pic_co : Nat) (a_rd : Nat) (a_dec : Nat) (a_pic_h : Nat) (a_pic_v : Nat) (a_pic_ac : Nat) (a_pic_dn : Nat) (a_pic_oa : Nat) (a_pic_od : Nat) (a_pic_st : Nat) (a_sto : Nat) (a_crs : Nat) (a_tbs : Nat) (a_dec_p : Nat) (pic_many : Int32) (pic_unitsAcross : Int32) (pic_unitsDown : Int32) (pic_blocks : Int32) (n_pic_co : Nat) (pic_co : Nat → Int32) (rd_at : Int32) (rd_part : Int32) (rd_left : Int32) (rd_fault : Int32) (dec_keeps : Int32) (dec_run : Int32) (p0 : Int32) (p1 : Int32) (p2 : Int32) (sz : Nat) (z : (Nat → Int32) × Int32) (hf : f_Decoder_keepIfCanBe p0 p1 p2 n_pic_co pic_co rd_fault dec_keeps = some z) : Met l y_m723 ws_m723 rm_Decoder_keepIfCanBe (gPre (dC, dI) [.ref a_dec, .int p0, .int p1, .int p2] (gT cI cB cS cT) (w_Decoder_keepIfCanBe cI cB cS cT a_pic a_pic_co a_rd a_dec a_pic_h a_pic_v a_pic_ac a_pic_dn a_pic_oa a_pic_od a_pic_st a_sto a_crs a_tbs a_dec_p pic_many pic_unitsAcross pic_unitsDown pic_blocks n_pic_co pic_co rd_at rd_part rd_left rd_fault dec_keeps dec_run) sz) (gQv (dC, dI) (gT cI cB cS cT) (w_Decoder_keepIfCanBe cI cB cS cT a_pic a_pic_co a_rd a_dec a_pic_h a_pic_v a_pic_ac a_pic_dn a_pic_oa a_pic_od a_pic_st a_sto a_crs a_tbs a_dec_p pic_many pic_unitsAcross pic_unitsDown pic_blocks n_pic_co pic_co rd_at rd_part rd_left rd_fault dec_keeps dec_run) (w_Decoder_keepIfCanBe cI cB cS cT a_pic a_pic_co a_rd a_dec a_pic_h a_pic_v a_pic_ac a_pic_dn a_pic_oa a_pic_od a_pic_st a_sto a_crs a_tbs a_dec_p pic_many pic_unitsAcross pic_unitsDown pic_blocks n_pic_co z.1 rd_at rd_part rd_left z.2 dec_keeps dec_run) sz) 0 0 (va_A (w_Decoder_keepIfCanBe cI cB cS cT a_pic a_pic_co a_rd a_dec a_pic_h a_pic_v a_pic_ac a_pic_dn a_pic_oa a_pic_od a_pic_st a_sto a_crs a_tbs a_dec_p pic_many pic_unitsAcross pic_unitsDown pic_blocks n_pic_co pic_co rd_at rd_part rd_left rd_fault dec_keeps dec_run) sz) := by
  refine Met.ofW (cc := prog_6_method_8_code) (maxL := 4) (ret := none) (by decide) rfl ?_
  intro p e s m args below meth c s₁ B hml hv
  obtain ⟨hargs, hsz, hP, hKN, hD0⟩ := hv
  have hK := hKN.1
  have hx := B.exec
  have hb := B.bytes
  have hr := B.returns
  have hts := atoms_spec (ws := ws_m723) B.pre
  have hown : s.vm.findClass "ScanCoder$Decoder" = some m.cls := findClass_of_methodNamed B.named
  have hlocks := B.notSynchronized
  have k0 := hts _ (List.mem_cons_of_mem _ tw_400)
  have k1 := hts _ (List.mem_cons_of_mem _ tw_381)
  have n0 : ∀ w ∈ u_ws "ScanCoder$Decoder" T_5 7, w ∈ ws_m723 := fun w h => List.mem_cons_of_mem _ (in_5 w h)
  have n1 : ∀ w ∈ u_ws "ScanCoder$BitReader" T_1 5, w ∈ ws_m723 := fun w h => List.mem_cons_of_mem _ (in_1 w h)
  subst hsz
  have hD := hD0.self (sz := s.heap.size)
  obtain ⟨A, hAe⟩ : ∃ A : Nat → Prop, va_A (w_Decoder_keepIfCanBe cI cB cS cT a_pic a_pic_co a_rd a_dec a_pic_h a_pic_v a_pic_ac a_pic_dn a_pic_oa a_pic_od a_pic_st a_sto a_crs a_tbs a_dec_p pic_many pic_unitsAcross pic_unitsDown pic_blocks n_pic_co pic_co rd_at rd_part rd_left rd_fault dec_keeps dec_run) s.heap.size = A := ⟨_, rfl⟩
  rw [hAe] at hD
  have hA : ∀ q : Nat, s.heap.size ≤ q → A q := fun q h => by rw [← hAe]; exact Or.inr h
  have hS : va_S A s.heap s.heap [] := va_S.rf
  have hl := lv_entry ([.ref a_dec, .int p0, .int p1, .int p2]) (n := 4) (Nat.le_of_ble_eq_true rfl)
  have hfr : entryFrame m args 4 = F0 m 0 ((lg_sl ([.ref a_dec, .int p0, .int p1, .int p2]) ++ List.replicate (4 - (lg_sl ([.ref a_dec, .int p0, .int p1, .int p2])).length) Slot.unset).toArray) [] := by rw [hargs]; exact lg_entry_eq _ _ _
  rw [hfr]
  generalize (lg_sl ([.ref a_dec, .int p0, .int p1, .int p2]) ++ List.replicate (4 - (lg_sl ([.ref a_dec, .int p0, .int p1, .int p2])).length) Slot.unset).toArray = ls at hl ⊢
  have hl : lv_has ls 4 [(0, .ref a_dec), (1, .int p0), (2, .int p1), (3, .int p2)] := hl
  refine gen_Q (fun Q hQ => ?_)
  clear hfr
  have hgo : ∀ (H : Heap) (locs : List Loc), va_P (dC, dI) vwCl (w_Decoder_keepIfCanBe cI cB cS cT a_pic a_pic_co a_rd a_dec a_pic_h a_pic_v a_pic_ac a_pic_dn a_pic_oa a_pic_od a_pic_st a_sto a_crs a_tbs a_dec_p pic_many pic_unitsAcross pic_unitsDown pic_blocks n_pic_co pic_co rd_at rd_part rd_left rd_fault dec_keeps dec_run) H → va_S A s.heap H locs → W p l e (headSpec ws_m723 rm_Decoder_keepIfCanBe).room s m args below meth c H locs 0 0 Q (F0 m 0 ls []) := by
    intro H locs hP hS
    unfold f_Decoder_keepIfCanBe at hf
    refine lv_iload_n hx hb d_m723_0 rfl (lv_at hl 2 rfl) ?_
    refine lv_iload_n hx hb d_m723_1 rfl (lv_at hl 3 rfl) ?_
    obtain ⟨z1, hz1, hf⟩ := ob_bind hf
    refine vp_callSi (g_run (va_runS (As := [.int p1, .int p2]) (rest := []) ⟨hx, hb, hml, hown, hts⟩ (c_Picture_canBe l dC dI cI cB cS cT p1 p2 z1 hz1) ⟨(callB_of 2 hts (gi tw_529 rfl) rfl rfl rfl (hts _ (List.mem_cons_of_mem _ tw_2)) (hts _ (List.mem_cons_of_mem _ tw_724)) (by decide +kernel) ⟨Nat.le_of_ble_eq_true rfl, Nat.le_of_ble_eq_true rfl⟩), hts _ (List.mem_cons_of_mem _ tw_528)⟩ ⟨gp_blind, gp_at hKN (g_pm hP [] rfl)⟩ rfl rfl hl.1 rfl (lv_room (Nat.le_of_ble_eq_true rfl)) d_m723_2 ⟨Nat.zero_le _, Nat.zero_le _⟩)) (fun r hrz1 => ?_)
    have hrz1 := hrz1.symm
    subst hrz1
    refine W.eq (g2 := F0 m 5 ls [.int z1]) rfl ?_
    refine lv_if_eq (tgt := 19) hx hb d_m723_5 (by decide) (fun hc => ?_) (fun hc => ?_)
    · replace hf := (if_pos hc).symm.trans hf
      refine lv_aload_n hx hb d_m723_19 rfl (lv_at hl 0 rfl) ?_
      refine va_get (D := (dC, dI)) (ci := 5) (v := .ref a_rd) (C := "ScanCoder$Decoder") (T := T_5) (N := 7) hx hb hts n0 hown hK hP 3 rfl rfl 3 (by decide) k0 (fun _ h9 => h9) rfl d_m723_20 ?_
      refine lv_iconst (v := (4 : Int32)) hx hb d_m723_23 (by decide) ?_
      refine va_put (D := (dC, dI)) (ci := 1) (v := .int (4 : Int32)) (ty := .int) (C := "ScanCoder$BitReader") (T := T_1) (N := 5) hx hb hts n1 ty_1 tyok_1 nm_1 hown hK hP hD hS 2 rfl rfl 4 (by decide) k1 (fun _ h9 => h9) rfl (by decide +kernel) rfl rfl (Nat.le_of_ble_eq_true rfl) d_m723_24 (fun H locs hP hD hS => ?_)
      have hP : va_P (dC, dI) vwCl (w_Decoder_keepIfCanBe cI cB cS cT a_pic a_pic_co a_rd a_dec a_pic_h a_pic_v a_pic_ac a_pic_dn a_pic_oa a_pic_od a_pic_st a_sto a_crs a_tbs a_dec_p pic_many pic_unitsAcross pic_unitsDown pic_blocks n_pic_co pic_co rd_at rd_part rd_left (4 : Int32) dec_keeps dec_run) H := hP
      have hD : va_D A (w_Decoder_keepIfCanBe cI cB cS cT a_pic a_pic_co a_rd a_dec a_pic_h a_pic_v a_pic_ac a_pic_dn a_pic_oa a_pic_od a_pic_st a_sto a_crs a_tbs a_dec_p pic_many pic_unitsAcross pic_unitsDown pic_blocks n_pic_co pic_co rd_at rd_part rd_left (4 : Int32) dec_keeps dec_run) := hD
      obtain rfl := Option.some.inj hf
      subst hQ
      subst hAe
      exact W.vret hx hb hr (fun t ht hW => ⟨⟨(), rfl, trivial, by rw [ht]; exact hP, hD⟩, hS.F ht⟩) hS.2.2 d_m723_27
    · replace hf := (if_neg hc).symm.trans hf
      refine lv_aload_n hx hb d_m723_8 rfl (lv_at hl 0 rfl) ?_
      refine lv_iload_n hx hb d_m723_9 rfl (lv_at hl 1 rfl) ?_
      refine lv_iload_n hx hb d_m723_10 rfl (lv_at hl 2 rfl) ?_
      refine lv_iadd hx hb d_m723_11 ?_
      refine lv_iload_n hx hb d_m723_12 rfl (lv_at hl 3 rfl) ?_
      obtain ⟨z2, hz2, hf⟩ := ob_bind hf
      refine g_callv (wc := (w_Decoder_keep cI cB cS cT a_pic a_pic_co a_dec a_pic_h a_pic_v a_pic_ac a_pic_dn a_pic_oa a_pic_od a_pic_st a_crs a_tbs a_rd a_dec_p pic_many pic_unitsAcross pic_unitsDown pic_blocks n_pic_co pic_co dec_keeps dec_run)) (w1 := (w_Decoder_keep cI cB cS cT a_pic a_pic_co a_dec a_pic_h a_pic_v a_pic_ac a_pic_dn a_pic_oa a_pic_od a_pic_st a_crs a_tbs a_rd a_dec_p pic_many pic_unitsAcross pic_unitsDown pic_blocks n_pic_co z2 dec_keeps dec_run)) (w2 := (w_Decoder_keepIfCanBe cI cB cS cT a_pic a_pic_co a_rd a_dec a_pic_h a_pic_v a_pic_ac a_pic_dn a_pic_oa a_pic_od a_pic_st a_sto a_crs a_tbs a_dec_p pic_many pic_unitsAcross pic_unitsDown pic_blocks n_pic_co z2 rd_at rd_part rd_left rd_fault dec_keeps dec_run)) [0, 1, 3] [some 0, some 1, none, some 2] hP hD hS hA rfl rfl rfl rfl (va_runV (As := [.int (p0 + p1), .int p2]) (rest := []) ⟨hx, hb, hml, hown, hts⟩ (c_Decoder_keep l dC dI cI cB cS cT a_pic a_pic_co a_dec a_pic_h a_pic_v a_pic_ac a_pic_dn a_pic_oa a_pic_od a_pic_st a_crs a_tbs a_rd a_dec_p pic_many pic_unitsAcross pic_unitsDown pic_blocks n_pic_co pic_co dec_keeps dec_run (p0 + p1) p2 H.size z2 hz2) ⟨(callB_of 2 hts (gi tw_728 rfl) rfl rfl rfl (hts _ (List.mem_cons_of_mem _ tw_14)) (hts _ (List.mem_cons_of_mem _ tw_725)) (by decide +kernel) ⟨Nat.le_of_ble_eq_true rfl, Nat.le_of_ble_eq_true rfl⟩), hts _ (List.mem_cons_of_mem _ tw_727), hts _ (List.mem_cons_of_mem _ ts_m728)⟩ ⟨g_blind, va_recv hK hP (ci := 5) (q0 := 3) rfl rfl, g_at hKN (g_pm hP [0, 1, 3] rfl) (hD.sub [0, 1, 3] (by decide) rfl)⟩ rfl rfl hl.1 rfl (lv_room (Nat.le_of_ble_eq_true rfl)) d_m723_13 ⟨Nat.zero_le _, Nat.zero_le _⟩) (fun H locs hP hD hS => ?_)
      refine W.eq (g2 := F0 m 16 ls []) rfl ?_
      refine lv_goto (tgt := 27) hx hb d_m723_16 (by decide) ?_
      obtain rfl := Option.some.inj hf
      subst hQ
      subst hAe
      exact W.vret hx hb hr (fun t ht hW => ⟨⟨(), rfl, trivial, by rw [ht]; exact hP, hD⟩, hS.F ht⟩) hS.2.2 d_m723_27
  exact hgo _ _ hP hS

def f_Decoder_takeDirect (N : Nat) (p0 : Int32) (p1 : Int32) (n_pic_co : Nat) (pic_co : Nat → Int32) (crs_bits : Int32) (crs_dt : Nat → Int32) (sto_length : Int32) (n_sto_b : Nat) (sto_b : Nat → Int32) (rd_at : Int32) (rd_part : Int32) (rd_left : Int32) (rd_fault : Int32) (dec_keeps : Int32) (dec_p : Nat → Int32) (vs : Nat → Nat → Int32) (vf : Nat → Nat → Int32) (vx : Nat → Nat → Int32) (ve : Nat → Int32) : Option ((Nat → Int32) × Int32 × Int32 × Int32 × Int32 × (Nat → Int32)) :=
  if p0 < 0 ∨ 4 ≤ p0.toNatClampNeg then none else
  if (crs_dt p0.toNatClampNeg) < 0 ∨ 8 ≤ (crs_dt p0.toNatClampNeg).toNatClampNeg then none else
  (f_BitReader_takeWord N sto_length n_sto_b sto_b rd_at rd_part rd_left rd_fault (ve ((crs_dt p0.toNatClampNeg).toNatClampNeg)) (vs ((crs_dt p0.toNatClampNeg).toNatClampNeg)) (vf ((crs_dt p0.toNatClampNeg).toNatClampNeg)) (vx ((crs_dt p0.toNatClampNeg).toNatClampNeg))).bind fun z2 =>
  if z2.1 = (-1 : Int32) then
    some (pic_co, z2.2.1, z2.2.2.1, z2.2.2.2.1, z2.2.2.2.2, dec_p)
  else
    if z2.1 ≤ (11 : Int32) then
      if p0 < 0 ∨ 4 ≤ p0.toNatClampNeg then none else
      (f_Decoder_takeNumber N z2.1 sto_length n_sto_b sto_b z2.2.1 z2.2.2.1 z2.2.2.2.1 z2.2.2.2.2).bind fun z3 =>
      if z3.2.2.2.2 = 0 then
        if p0 < 0 ∨ 4 ≤ p0.toNatClampNeg then none else
        (f_Decoder_keepIfCanBe p1 (0 : Int32) (((dec_p p0.toNatClampNeg) + z3.1) * ((1 : Int32) <<< (crs_bits &&& 31))) n_pic_co pic_co z3.2.2.2.2 dec_keeps).bind fun z4 =>
        some (z4.1, z3.2.1, z3.2.2.1, z3.2.2.2.1, z4.2, upd dec_p p0.toNatClampNeg ((dec_p p0.toNatClampNeg) + z3.1))
      else
        some (pic_co, z3.2.1, z3.2.2.1, z3.2.2.2.1, z3.2.2.2.2, dec_p)
    else
      some (pic_co, z2.2.1, z2.2.2.1, z2.2.2.2.1, (3 : Int32), dec_p)
abbrev w_Decoder_takeDirect (cI cB cS cT : ClassId) (a_pic : Nat) (a_pic_co : Nat) (a_crs : Nat) (a_crs_dt : Nat) (a_sto : Nat) (a_sto_b : Nat) (a_rd : Nat) (a_dec : Nat) (a_dec_p : Nat) (a_tbs : Nat) (a_pic_h : Nat) (a_pic_v : Nat) (a_pic_ac : Nat) (a_pic_dn : Nat) (a_pic_oa : Nat) (a_pic_od : Nat) (a_pic_st : Nat) (a_crs_ow : Nat) (a_crs_pl : Nat) (a_crs_ot : Nat) (pic_many : Int32) (pic_unitsAcross : Int32) (pic_unitsDown : Int32) (pic_blocks : Int32) (n_pic_co : Nat) (pic_co : Nat → Int32) (crs_kind : Int32) (crs_first : Int32) (crs_last : Int32) (crs_bits : Int32) (crs_interval : Int32) (crs_units : Int32) (crs_blocksOfUnit : Int32) (crs_laid : Int32) (crs_dt : Nat → Int32) (sto_length : Int32) (n_sto_b : Nat) (sto_b : Nat → Int32) (rd_at : Int32) (rd_part : Int32) (rd_left : Int32) (rd_fault : Int32) (dec_keeps : Int32) (dec_run : Int32) (dec_p : Nat → Int32) (ta : Nat → Nat) (tw : Nat → Nat) (ts : Nat → Nat) (tf : Nat → Nat) (tx : Nat → Nat) (vw : Nat → Nat → Int32) (vs : Nat → Nat → Int32) (vf : Nat → Nat → Int32) (vx : Nat → Nat → Int32) (ve : Nat → Int32) (vz : Nat → Int32) : va_W := [(a_pic, .inr (8, [.ref a_pic_h, .ref a_pic_v, .ref a_pic_ac, .ref a_pic_dn, .ref a_pic_oa, .ref a_pic_od, .ref a_pic_st, .int pic_many, .int pic_unitsAcross, .int pic_unitsDown, .int pic_blocks, .ref a_pic_co])), (a_pic_co, .inl (cS, n_pic_co, .inl pic_co)), (a_crs, .inr (4, [.ref a_pic, .ref a_crs_ow, .ref a_crs_pl, .ref a_crs_dt, .ref a_crs_ot, .int crs_kind, .int crs_first, .int crs_last, .int crs_bits, .int crs_interval, .int crs_units, .int crs_blocksOfUnit, .int crs_laid])), (a_crs_dt, .inl (cI, 4, .inl crs_dt)), (a_sto, .inr (9, [.ref a_sto_b, .int sto_length])), (a_sto_b, .inl (cB, n_sto_b, .inl sto_b)), (a_rd, .inr (1, [.ref a_sto, .int rd_at, .int rd_part, .int rd_left, .int rd_fault])), (a_dec, .inr (5, [.ref a_pic, .ref a_crs, .ref a_tbs, .ref a_rd, .ref a_dec_p, .int dec_keeps, .int dec_run])), (a_dec_p, .inl (cI, 4, .inl dec_p)), (a_tbs, .inl (cT, 8, .inr (.inr (.inr (.inr (fun i => some (ta i)))))))] ++ tbl 10 cI ta tw ts tf tx vw vs vf vx ve vz
def rm_Decoder_takeDirect : Room := { frames := 3, cells := 0, slots := 0, locals := 69 }
set_option maxHeartbeats 1000000 in
set_option maxRecDepth 100000 in
theorem c_Decoder_takeDirect (l : Launch) (dC : Nat → ClassId) (dI : Nat → Nat → Nat) (cI cB cS cT : ClassId) (N : Nat) (a_pic : Nat) (a_pic_co : Nat) (a_crs : Nat) (a_crs_dt : Nat) (a_sto : Nat) (a_sto_b : Nat) (a_rd : Nat) (a_dec : Nat) (a_dec_p : Nat) (a_tbs : Nat) (a_pic_h : Nat) (a_pic_v : Nat) (a_pic_ac : Nat) (a_pic_dn : Nat) (a_pic_oa : Nat) (a_pic_od : Nat) (a_pic_st : Nat) (a_crs_ow : Nat) (a_crs_pl : Nat) (a_crs_ot : Nat) (pic_many : Int32) (pic_unitsAcross : Int32) (pic_unitsDown : Int32) (pic_blocks : Int32) (n_pic_co : Nat) (pic_co : Nat → Int32) (crs_kind : Int32) (crs_first : Int32) (crs_last : Int32) (crs_bits : Int32) (crs_interval : Int32) (crs_units : Int32) (crs_blocksOfUnit : Int32) (crs_laid : Int32) (crs_dt : Nat → Int32) (sto_length : Int32) (n_sto_b : Nat) (sto_b : Nat → Int32) (rd_at : Int32) (rd_part : Int32) (rd_left : Int32) (rd_fault : Int32) (dec_keeps : Int32) (dec_run : Int32) (dec_p : Nat → Int32) (ta : Nat → Nat) (tw : Nat → Nat) (ts : Nat → Nat) (tf : Nat → Nat) (tx : Nat → Nat) (vw : Nat → Nat → Int32) (vs : Nat → Nat → Int32) (vf : Nat → Nat → Int32) (vx : Nat → Nat → Int32) (ve : Nat → Int32) (vz : Nat → Int32) (p0 : Int32) (p1 : Int32) (sz : Nat) (z : (Nat → Int32) × Int32 × Int32 × Int32 × Int32 × (Nat → Int32)) (hf : f_Decoder_takeDirect N p0 p1 n_pic_co pic_co crs_bits crs_dt sto_length n_sto_b sto_b rd_at rd_part rd_left rd_fault dec_keeps dec_p vs vf vx ve = some z) : Met l y_m694 ws_m694 rm_Decoder_takeDirect (gPre (dC, dI) [.ref a_dec, .int p0, .int p1] (gT cI cB cS cT) (w_Decoder_takeDirect cI cB cS cT a_pic a_pic_co a_crs a_crs_dt a_sto a_sto_b a_rd a_dec a_dec_p a_tbs a_pic_h a_pic_v a_pic_ac a_pic_dn a_pic_oa a_pic_od a_pic_st a_crs_ow a_crs_pl a_crs_ot pic_many pic_unitsAcross pic_unitsDown pic_blocks n_pic_co pic_co crs_kind crs_first crs_last crs_bits crs_interval crs_units crs_blocksOfUnit crs_laid crs_dt sto_length n_sto_b sto_b rd_at rd_part rd_left rd_fault dec_keeps dec_run dec_p ta tw ts tf tx vw vs vf vx ve vz) sz) (gQv (dC, dI) (gT cI cB cS cT) (w_Decoder_takeDirect cI cB cS cT a_pic a_pic_co a_crs a_crs_dt a_sto a_sto_b a_rd a_dec a_dec_p a_tbs a_pic_h a_pic_v a_pic_ac a_pic_dn a_pic_oa a_pic_od a_pic_st a_crs_ow a_crs_pl a_crs_ot pic_many pic_unitsAcross pic_unitsDown pic_blocks n_pic_co pic_co crs_kind crs_first crs_last crs_bits crs_interval crs_units crs_blocksOfUnit crs_laid crs_dt sto_length n_sto_b sto_b rd_at rd_part rd_left rd_fault dec_keeps dec_run dec_p ta tw ts tf tx vw vs vf vx ve vz) (w_Decoder_takeDirect cI cB cS cT a_pic a_pic_co a_crs a_crs_dt a_sto a_sto_b a_rd a_dec a_dec_p a_tbs a_pic_h a_pic_v a_pic_ac a_pic_dn a_pic_oa a_pic_od a_pic_st a_crs_ow a_crs_pl a_crs_ot pic_many pic_unitsAcross pic_unitsDown pic_blocks n_pic_co z.1 crs_kind crs_first crs_last crs_bits crs_interval crs_units crs_blocksOfUnit crs_laid crs_dt sto_length n_sto_b sto_b z.2.1 z.2.2.1 z.2.2.2.1 z.2.2.2.2.1 dec_keeps dec_run z.2.2.2.2.2 ta tw ts tf tx vw vs vf vx ve vz) sz) 0 0 (va_A (w_Decoder_takeDirect cI cB cS cT a_pic a_pic_co a_crs a_crs_dt a_sto a_sto_b a_rd a_dec a_dec_p a_tbs a_pic_h a_pic_v a_pic_ac a_pic_dn a_pic_oa a_pic_od a_pic_st a_crs_ow a_crs_pl a_crs_ot pic_many pic_unitsAcross pic_unitsDown pic_blocks n_pic_co pic_co crs_kind crs_first crs_last crs_bits crs_interval crs_units crs_blocksOfUnit crs_laid crs_dt sto_length n_sto_b sto_b rd_at rd_part rd_left rd_fault dec_keeps dec_run dec_p ta tw ts tf tx vw vs vf vx ve vz) sz) := by
  refine Met.ofW (cc := prog_6_method_6_code) (maxL := 5) (ret := none) (by decide) rfl ?_
  intro p e s m args below meth c s₁ B hml hv
  obtain ⟨hargs, hsz, hP, hKN, hD0⟩ := hv
  have hK := hKN.1
  have hx := B.exec
  have hb := B.bytes
  have hr := B.returns
  have hts := atoms_spec (ws := ws_m694) B.pre
  have hown : s.vm.findClass "ScanCoder$Decoder" = some m.cls := findClass_of_methodNamed B.named
  have hlocks := B.notSynchronized
  have k0 := hts _ (List.mem_cons_of_mem _ tw_400)
  have k1 := hts _ (List.mem_cons_of_mem _ tw_399)
  have k2 := hts _ (List.mem_cons_of_mem _ tw_398)
  have k3 := hts _ (List.mem_cons_of_mem _ tw_166)
  have k4 := hts _ (List.mem_cons_of_mem _ tw_401)
  have k5 := hts _ (List.mem_cons_of_mem _ tw_381)
  have k6 := hts _ (List.mem_cons_of_mem _ tw_183)
  have n0 : ∀ w ∈ u_ws "ScanCoder$Decoder" T_5 7, w ∈ ws_m694 := fun w h => List.mem_cons_of_mem _ (in_5 w h)
  have n1 : ∀ w ∈ u_ws "ScanCoder$Course" T_4 13, w ∈ ws_m694 := fun w h => List.mem_cons_of_mem _ (in_4 w h)
  have n2 : ∀ w ∈ u_ws "ScanCoder$BitReader" T_1 5, w ∈ ws_m694 := fun w h => List.mem_cons_of_mem _ (in_1 w h)
  subst hsz
  have hD := hD0.self (sz := s.heap.size)
  obtain ⟨A, hAe⟩ : ∃ A : Nat → Prop, va_A (w_Decoder_takeDirect cI cB cS cT a_pic a_pic_co a_crs a_crs_dt a_sto a_sto_b a_rd a_dec a_dec_p a_tbs a_pic_h a_pic_v a_pic_ac a_pic_dn a_pic_oa a_pic_od a_pic_st a_crs_ow a_crs_pl a_crs_ot pic_many pic_unitsAcross pic_unitsDown pic_blocks n_pic_co pic_co crs_kind crs_first crs_last crs_bits crs_interval crs_units crs_blocksOfUnit crs_laid crs_dt sto_length n_sto_b sto_b rd_at rd_part rd_left rd_fault dec_keeps dec_run dec_p ta tw ts tf tx vw vs vf vx ve vz) s.heap.size = A := ⟨_, rfl⟩
  rw [hAe] at hD
  have hA : ∀ q : Nat, s.heap.size ≤ q → A q := fun q h => by rw [← hAe]; exact Or.inr h
  have hS : va_S A s.heap s.heap [] := va_S.rf
  have hl := lv_entry ([.ref a_dec, .int p0, .int p1]) (n := 5) (Nat.le_of_ble_eq_true rfl)
  have hfr : entryFrame m args 5 = F0 m 0 ((lg_sl ([.ref a_dec, .int p0, .int p1]) ++ List.replicate (5 - (lg_sl ([.ref a_dec, .int p0, .int p1])).length) Slot.unset).toArray) [] := by rw [hargs]; exact lg_entry_eq _ _ _
  rw [hfr]
  generalize (lg_sl ([.ref a_dec, .int p0, .int p1]) ++ List.replicate (5 - (lg_sl ([.ref a_dec, .int p0, .int p1])).length) Slot.unset).toArray = ls at hl ⊢
  have hl : lv_has ls 5 [(0, .ref a_dec), (1, .int p0), (2, .int p1)] := hl
  refine gen_Q (fun Q hQ => ?_)
  clear hfr
  have hgo : ∀ (H : Heap) (locs : List Loc), va_P (dC, dI) vwCl (w_Decoder_takeDirect cI cB cS cT a_pic a_pic_co a_crs a_crs_dt a_sto a_sto_b a_rd a_dec a_dec_p a_tbs a_pic_h a_pic_v a_pic_ac a_pic_dn a_pic_oa a_pic_od a_pic_st a_crs_ow a_crs_pl a_crs_ot pic_many pic_unitsAcross pic_unitsDown pic_blocks n_pic_co pic_co crs_kind crs_first crs_last crs_bits crs_interval crs_units crs_blocksOfUnit crs_laid crs_dt sto_length n_sto_b sto_b rd_at rd_part rd_left rd_fault dec_keeps dec_run dec_p ta tw ts tf tx vw vs vf vx ve vz) H → va_S A s.heap H locs → W p l e (headSpec ws_m694 rm_Decoder_takeDirect).room s m args below meth c H locs 0 0 Q (F0 m 0 ls []) := by
    intro H locs hP hS
    unfold f_Decoder_takeDirect at hf
    refine lv_aload_n hx hb d_m694_0 rfl (lv_at hl 0 rfl) ?_
    refine va_get (D := (dC, dI)) (ci := 5) (v := .ref a_rd) (C := "ScanCoder$Decoder") (T := T_5) (N := 7) hx hb hts n0 hown hK hP 7 rfl rfl 3 (by decide) k0 (fun _ h9 => h9) rfl d_m694_1 ?_
    refine lv_aload_n hx hb d_m694_4 rfl (lv_at hl 0 rfl) ?_
    refine va_get (D := (dC, dI)) (ci := 5) (v := .ref a_tbs) (C := "ScanCoder$Decoder") (T := T_5) (N := 7) hx hb hts n0 hown hK hP 7 rfl rfl 2 (by decide) k1 (fun _ h9 => h9) rfl d_m694_5 ?_
    refine lv_aload_n hx hb d_m694_8 rfl (lv_at hl 0 rfl) ?_
    refine va_get (D := (dC, dI)) (ci := 5) (v := .ref a_crs) (C := "ScanCoder$Decoder") (T := T_5) (N := 7) hx hb hts n0 hown hK hP 7 rfl rfl 1 (by decide) k2 (fun _ h9 => h9) rfl d_m694_9 ?_
    refine va_get (D := (dC, dI)) (ci := 4) (v := .ref a_crs_dt) (C := "ScanCoder$Course") (T := T_4) (N := 13) hx hb hts n1 hown hK hP 2 rfl rfl 3 (by decide) k3 (fun _ h9 => h9) rfl d_m694_12 ?_
    refine lv_iload_n hx hb d_m694_15 rfl (lv_at hl 1 rfl) ?_
    obtain ⟨hi, hf⟩ := ob_if hf
    refine va_iald hx hb hK hP 3 0 rfl rfl hi d_m694_16 ?_
    obtain ⟨hi, hf⟩ := ob_if hf
    have hix1 : (crs_dt p0.toNatClampNeg).toNatClampNeg < 8 := Nat.lt_of_not_le (fun h => hi (Or.inr h))
    refine va_aldq hx hb hK hP 9 3 rfl rfl hi d_m694_17 ?_
    refine W.eq (g2 := F0 m 18 ls [.ref (ta (crs_dt p0.toNatClampNeg).toNatClampNeg), .ref a_rd]) rfl ?_
    obtain ⟨z2, hz2, hf⟩ := ob_bind hf
    refine g_callFi (X2 := [(a_pic, .inr (8, [.ref a_pic_h, .ref a_pic_v, .ref a_pic_ac, .ref a_pic_dn, .ref a_pic_oa, .ref a_pic_od, .ref a_pic_st, .int pic_many, .int pic_unitsAcross, .int pic_unitsDown, .int pic_blocks, .ref a_pic_co])), (a_pic_co, .inl (cS, n_pic_co, .inl pic_co)), (a_crs, .inr (4, [.ref a_pic, .ref a_crs_ow, .ref a_crs_pl, .ref a_crs_dt, .ref a_crs_ot, .int crs_kind, .int crs_first, .int crs_last, .int crs_bits, .int crs_interval, .int crs_units, .int crs_blocksOfUnit, .int crs_laid])), (a_crs_dt, .inl (cI, 4, .inl crs_dt)), (a_sto, .inr (9, [.ref a_sto_b, .int sto_length])), (a_sto_b, .inl (cB, n_sto_b, .inl sto_b)), (a_rd, .inr (1, [.ref a_sto, .int z2.2.1, .int z2.2.2.1, .int z2.2.2.2.1, .int z2.2.2.2.2])), (a_dec, .inr (5, [.ref a_pic, .ref a_crs, .ref a_tbs, .ref a_rd, .ref a_dec_p, .int dec_keeps, .int dec_run])), (a_dec_p, .inl (cI, 4, .inl dec_p)), (a_tbs, .inl (cT, 8, .inr (.inr (.inr (.inr (fun i => some (ta i)))))))]) (wc := (w_BitReader_takeWord cI cB cS cT a_sto a_sto_b a_rd (ta ((crs_dt p0.toNatClampNeg).toNatClampNeg)) (ts ((crs_dt p0.toNatClampNeg).toNatClampNeg)) (tf ((crs_dt p0.toNatClampNeg).toNatClampNeg)) (tx ((crs_dt p0.toNatClampNeg).toNatClampNeg)) (tw ((crs_dt p0.toNatClampNeg).toNatClampNeg)) sto_length n_sto_b sto_b rd_at rd_part rd_left rd_fault (ve ((crs_dt p0.toNatClampNeg).toNatClampNeg)) (vz ((crs_dt p0.toNatClampNeg).toNatClampNeg)) (vs ((crs_dt p0.toNatClampNeg).toNatClampNeg)) (vf ((crs_dt p0.toNatClampNeg).toNatClampNeg)) (vx ((crs_dt p0.toNatClampNeg).toNatClampNeg)))) (w1 := (w_BitReader_takeWord cI cB cS cT a_sto a_sto_b a_rd (ta ((crs_dt p0.toNatClampNeg).toNatClampNeg)) (ts ((crs_dt p0.toNatClampNeg).toNatClampNeg)) (tf ((crs_dt p0.toNatClampNeg).toNatClampNeg)) (tx ((crs_dt p0.toNatClampNeg).toNatClampNeg)) (tw ((crs_dt p0.toNatClampNeg).toNatClampNeg)) sto_length n_sto_b sto_b z2.2.1 z2.2.2.1 z2.2.2.2.1 z2.2.2.2.2 (ve ((crs_dt p0.toNatClampNeg).toNatClampNeg)) (vz ((crs_dt p0.toNatClampNeg).toNatClampNeg)) (vs ((crs_dt p0.toNatClampNeg).toNatClampNeg)) (vf ((crs_dt p0.toNatClampNeg).toNatClampNeg)) (vx ((crs_dt p0.toNatClampNeg).toNatClampNeg)))) hix1 [4, 5, 6, 10, 12, 13, 14] [none, none, none, none, some 0, some 1, some 2, none, none, none, some 3, none, some 4, some 5, some 6] hP hD hS hA rfl rfl rfl rfl (va_runV (As := [.ref (ta (crs_dt p0.toNatClampNeg).toNatClampNeg)]) (rest := []) ⟨hx, hb, hml, hown, hts⟩ (c_BitReader_takeWord l dC dI cI cB cS cT N a_sto a_sto_b a_rd (ta ((crs_dt p0.toNatClampNeg).toNatClampNeg)) (ts ((crs_dt p0.toNatClampNeg).toNatClampNeg)) (tf ((crs_dt p0.toNatClampNeg).toNatClampNeg)) (tx ((crs_dt p0.toNatClampNeg).toNatClampNeg)) (tw ((crs_dt p0.toNatClampNeg).toNatClampNeg)) sto_length n_sto_b sto_b rd_at rd_part rd_left rd_fault (ve ((crs_dt p0.toNatClampNeg).toNatClampNeg)) (vz ((crs_dt p0.toNatClampNeg).toNatClampNeg)) (vs ((crs_dt p0.toNatClampNeg).toNatClampNeg)) (vf ((crs_dt p0.toNatClampNeg).toNatClampNeg)) (vx ((crs_dt p0.toNatClampNeg).toNatClampNeg)) H.size z2 hz2) ⟨(callB_of 1 hts (gi tw_698 rfl) rfl rfl rfl (hts _ (List.mem_cons_of_mem _ tw_15)) (hts _ (List.mem_cons_of_mem _ tw_695)) (by decide +kernel) ⟨Nat.le_of_ble_eq_true rfl, Nat.le_of_ble_eq_true rfl⟩), hts _ (List.mem_cons_of_mem _ tw_696), hts _ (List.mem_cons_of_mem _ tw_697)⟩ ⟨g_blind, va_recv hK hP (ci := 1) (q0 := 6) rfl rfl, g_at hKN (g_pm (tb_focus (i := (crs_dt p0.toNatClampNeg).toNatClampNeg) hP hix1) [4, 5, 6, 10, 12, 13, 14] rfl) ((tb_focusD (i := (crs_dt p0.toNatClampNeg).toNatClampNeg) hD hix1).sub [4, 5, 6, 10, 12, 13, 14] (by decide) rfl)⟩ rfl rfl hl.1 rfl (lv_room (Nat.le_of_ble_eq_true rfl)) d_m694_18 ⟨Nat.zero_le _, Nat.zero_le _⟩) (fun H locs hP hD hS => ?_)
    have hP : va_P (dC, dI) vwCl (w_Decoder_takeDirect cI cB cS cT a_pic a_pic_co a_crs a_crs_dt a_sto a_sto_b a_rd a_dec a_dec_p a_tbs a_pic_h a_pic_v a_pic_ac a_pic_dn a_pic_oa a_pic_od a_pic_st a_crs_ow a_crs_pl a_crs_ot pic_many pic_unitsAcross pic_unitsDown pic_blocks n_pic_co pic_co crs_kind crs_first crs_last crs_bits crs_interval crs_units crs_blocksOfUnit crs_laid crs_dt sto_length n_sto_b sto_b z2.2.1 z2.2.2.1 z2.2.2.2.1 z2.2.2.2.2 dec_keeps dec_run dec_p ta tw ts tf tx vw vs vf vx ve vz) H := hP
    have hD : va_D A (w_Decoder_takeDirect cI cB cS cT a_pic a_pic_co a_crs a_crs_dt a_sto a_sto_b a_rd a_dec a_dec_p a_tbs a_pic_h a_pic_v a_pic_ac a_pic_dn a_pic_oa a_pic_od a_pic_st a_crs_ow a_crs_pl a_crs_ot pic_many pic_unitsAcross pic_unitsDown pic_blocks n_pic_co pic_co crs_kind crs_first crs_last crs_bits crs_interval crs_units crs_blocksOfUnit crs_laid crs_dt sto_length n_sto_b sto_b z2.2.1 z2.2.2.1 z2.2.2.2.1 z2.2.2.2.2 dec_keeps dec_run dec_p ta tw ts tf tx vw vs vf vx ve vz) := hD
    refine W.eq (g2 := F0 m 21 ls [.int z2.1]) rfl ?_
    refine lv_istore_n (lv' := [(3, .int z2.1), (0, .ref a_dec), (1, .int p0), (2, .int p1)]) hx hb d_m694_21 rfl hl (by decide) rfl (fun ls hl => ?_)
    refine lv_iload_n hx hb d_m694_22 rfl (lv_at hl 0 rfl) ?_
    refine lv_iconst (v := (-1 : Int32)) hx hb d_m694_23 (by decide) ?_
    refine lv_icmp_ne (tgt := 28) hx hb d_m694_24 (by decide) (fun hc => ?_) (fun hc => ?_)
    · replace hf := (if_neg hc).symm.trans hf
      refine lv_iload_n hx hb d_m694_28 rfl (lv_at hl 0 rfl) ?_
      refine lv_bipush (v := (11 : Int32)) hx hb d_m694_29 (by decide) ?_
      refine lv_icmp_le (tgt := 43) hx hb d_m694_31 (by decide) (fun hc => ?_) (fun hc => ?_)
      · replace hf := (if_pos hc).symm.trans hf
        refine lv_aload_n hx hb d_m694_43 rfl (lv_at hl 1 rfl) ?_
        refine va_get (D := (dC, dI)) (ci := 5) (v := .ref a_dec_p) (C := "ScanCoder$Decoder") (T := T_5) (N := 7) hx hb hts n0 hown hK hP 7 rfl rfl 4 (by decide) k4 (fun _ h9 => h9) rfl d_m694_44 ?_
        refine lv_iload_n hx hb d_m694_47 rfl (lv_at hl 2 rfl) ?_
        obtain ⟨hi, hf⟩ := ob_if hf
        refine va_iald hx hb hK hP 8 0 rfl rfl hi d_m694_48 ?_
        refine lv_aload_n hx hb d_m694_49 rfl (lv_at hl 1 rfl) ?_
        refine lv_iload_n hx hb d_m694_50 rfl (lv_at hl 0 rfl) ?_
        obtain ⟨z3, hz3, hf⟩ := ob_bind hf
        refine g_calli (wc := (w_Decoder_takeNumber cI cB cS cT a_sto a_sto_b a_rd a_dec a_pic a_crs a_tbs a_dec_p sto_length n_sto_b sto_b z2.2.1 z2.2.2.1 z2.2.2.2.1 z2.2.2.2.2 dec_keeps dec_run)) (w1 := (w_Decoder_takeNumber cI cB cS cT a_sto a_sto_b a_rd a_dec a_pic a_crs a_tbs a_dec_p sto_length n_sto_b sto_b z3.2.1 z3.2.2.1 z3.2.2.2.1 z3.2.2.2.2 dec_keeps dec_run)) (w2 := (w_Decoder_takeDirect cI cB cS cT a_pic a_pic_co a_crs a_crs_dt a_sto a_sto_b a_rd a_dec a_dec_p a_tbs a_pic_h a_pic_v a_pic_ac a_pic_dn a_pic_oa a_pic_od a_pic_st a_crs_ow a_crs_pl a_crs_ot pic_many pic_unitsAcross pic_unitsDown pic_blocks n_pic_co pic_co crs_kind crs_first crs_last crs_bits crs_interval crs_units crs_blocksOfUnit crs_laid crs_dt sto_length n_sto_b sto_b z3.2.1 z3.2.2.1 z3.2.2.2.1 z3.2.2.2.2 dec_keeps dec_run dec_p ta tw ts tf tx vw vs vf vx ve vz)) [4, 5, 6, 7] [none, none, none, none, some 0, some 1, some 2, some 3, none, none, none, none, none, none, none, none, none, none, none, none, none, none, none, none, none, none, none, none, none, none, none, none, none, none, none, none, none, none, none, none, none, none, none, none, none, none, none, none, none, none] hP hD hS hA rfl rfl rfl rfl (va_runV (As := [.int z2.1]) (rest := [.int (dec_p p0.toNatClampNeg)]) ⟨hx, hb, hml, hown, hts⟩ (c_Decoder_takeNumber l dC dI cI cB cS cT N a_sto a_sto_b a_rd a_dec a_pic a_crs a_tbs a_dec_p sto_length n_sto_b sto_b z2.2.1 z2.2.2.1 z2.2.2.2.1 z2.2.2.2.2 dec_keeps dec_run z2.1 H.size z3 hz3) ⟨(callB_of 1 hts (gi tw_718 rfl) rfl rfl rfl (hts _ (List.mem_cons_of_mem _ tw_14)) (hts _ (List.mem_cons_of_mem _ tw_715)) (by decide +kernel) ⟨Nat.le_of_ble_eq_true rfl, Nat.le_of_ble_eq_true rfl⟩), hts _ (List.mem_cons_of_mem _ tw_717), hts _ (List.mem_cons_of_mem _ ts_m718)⟩ ⟨g_blind, va_recv hK hP (ci := 5) (q0 := 7) rfl rfl, g_at hKN (g_pm hP [4, 5, 6, 7] rfl) (hD.sub [4, 5, 6, 7] (by decide) rfl)⟩ rfl rfl hl.1 rfl (lv_room (Nat.le_of_ble_eq_true rfl)) d_m694_51 ⟨Nat.zero_le _, Nat.zero_le _⟩) (fun H locs hP hD hS => ?_)
        refine W.eq (g2 := F0 m 54 ls [.int z3.1, .int (dec_p p0.toNatClampNeg)]) rfl ?_
        refine lv_iadd hx hb d_m694_54 ?_
        refine lv_istore (lv' := [(4, .int ((dec_p p0.toNatClampNeg) + z3.1)), (3, .int z2.1), (0, .ref a_dec), (1, .int p0), (2, .int p1)]) hx hb d_m694_55 hl (by decide) rfl (fun ls hl => ?_)
        refine lv_aload_n hx hb d_m694_57 rfl (lv_at hl 2 rfl) ?_
        refine va_get (D := (dC, dI)) (ci := 5) (v := .ref a_rd) (C := "ScanCoder$Decoder") (T := T_5) (N := 7) hx hb hts n0 hown hK hP 7 rfl rfl 3 (by decide) k0 (fun _ h9 => h9) rfl d_m694_58 ?_
        refine va_get (D := (dC, dI)) (ci := 1) (v := .int z3.2.2.2.2) (C := "ScanCoder$BitReader") (T := T_1) (N := 5) hx hb hts n2 hown hK hP 6 rfl rfl 4 (by decide) k5 (fun _ h9 => h9) rfl d_m694_61 ?_
        refine lv_if_ne (tgt := 93) hx hb d_m694_64 (by decide) (fun hc => ?_) (fun hc => ?_)
        · replace hf := (if_neg hc).symm.trans hf
          obtain rfl := Option.some.inj hf
          subst hQ
          subst hAe
          exact W.vret hx hb hr (fun t ht hW => ⟨⟨(), rfl, trivial, by rw [ht]; exact hP, hD⟩, hS.F ht⟩) hS.2.2 d_m694_93
        · replace hf := (if_pos hc).symm.trans hf
          refine lv_aload_n hx hb d_m694_67 rfl (lv_at hl 2 rfl) ?_
          refine va_get (D := (dC, dI)) (ci := 5) (v := .ref a_dec_p) (C := "ScanCoder$Decoder") (T := T_5) (N := 7) hx hb hts n0 hown hK hP 7 rfl rfl 4 (by decide) k4 (fun _ h9 => h9) rfl d_m694_68 ?_
          refine lv_iload_n hx hb d_m694_71 rfl (lv_at hl 3 rfl) ?_
          refine lv_iload hx hb d_m694_72 (lv_at hl 0 rfl) ?_
          obtain ⟨hi, hf⟩ := ob_if hf
          refine va_iast hx hb hK hP hD hS 8 0 rfl rfl hi d_m694_74 (fun H locs hP hD hS => ?_)
          have hP : va_P (dC, dI) vwCl (w_Decoder_takeDirect cI cB cS cT a_pic a_pic_co a_crs a_crs_dt a_sto a_sto_b a_rd a_dec a_dec_p a_tbs a_pic_h a_pic_v a_pic_ac a_pic_dn a_pic_oa a_pic_od a_pic_st a_crs_ow a_crs_pl a_crs_ot pic_many pic_unitsAcross pic_unitsDown pic_blocks n_pic_co pic_co crs_kind crs_first crs_last crs_bits crs_interval crs_units crs_blocksOfUnit crs_laid crs_dt sto_length n_sto_b sto_b z3.2.1 z3.2.2.1 z3.2.2.2.1 z3.2.2.2.2 dec_keeps dec_run (upd dec_p p0.toNatClampNeg ((dec_p p0.toNatClampNeg) + z3.1)) ta tw ts tf tx vw vs vf vx ve vz) H := hP
          have hD : va_D A (w_Decoder_takeDirect cI cB cS cT a_pic a_pic_co a_crs a_crs_dt a_sto a_sto_b a_rd a_dec a_dec_p a_tbs a_pic_h a_pic_v a_pic_ac a_pic_dn a_pic_oa a_pic_od a_pic_st a_crs_ow a_crs_pl a_crs_ot pic_many pic_unitsAcross pic_unitsDown pic_blocks n_pic_co pic_co crs_kind crs_first crs_last crs_bits crs_interval crs_units crs_blocksOfUnit crs_laid crs_dt sto_length n_sto_b sto_b z3.2.1 z3.2.2.1 z3.2.2.2.1 z3.2.2.2.2 dec_keeps dec_run (upd dec_p p0.toNatClampNeg ((dec_p p0.toNatClampNeg) + z3.1)) ta tw ts tf tx vw vs vf vx ve vz) := hD
          refine lv_aload_n hx hb d_m694_75 rfl (lv_at hl 2 rfl) ?_
          refine lv_iload_n hx hb d_m694_76 rfl (lv_at hl 4 rfl) ?_
          refine lv_iconst (v := (0 : Int32)) hx hb d_m694_77 (by decide) ?_
          refine lv_iload hx hb d_m694_78 (lv_at hl 0 rfl) ?_
          refine lv_iconst (v := (1 : Int32)) hx hb d_m694_80 (by decide) ?_
          refine lv_aload_n hx hb d_m694_81 rfl (lv_at hl 2 rfl) ?_
          refine va_get (D := (dC, dI)) (ci := 5) (v := .ref a_crs) (C := "ScanCoder$Decoder") (T := T_5) (N := 7) hx hb hts n0 hown hK hP 7 rfl rfl 1 (by decide) k2 (fun _ h9 => h9) rfl d_m694_82 ?_
          refine va_get (D := (dC, dI)) (ci := 4) (v := .int crs_bits) (C := "ScanCoder$Course") (T := T_4) (N := 13) hx hb hts n1 hown hK hP 2 rfl rfl 8 (by decide) k6 (fun _ h9 => h9) rfl d_m694_85 ?_
          refine lv_ishl hx hb d_m694_88 ?_
          refine lv_imul hx hb d_m694_89 ?_
          obtain ⟨z4, hz4, hf⟩ := ob_bind hf
          refine g_callv (wc := (w_Decoder_keepIfCanBe cI cB cS cT a_pic a_pic_co a_rd a_dec a_pic_h a_pic_v a_pic_ac a_pic_dn a_pic_oa a_pic_od a_pic_st a_sto a_crs a_tbs a_dec_p pic_many pic_unitsAcross pic_unitsDown pic_blocks n_pic_co pic_co z3.2.1 z3.2.2.1 z3.2.2.2.1 z3.2.2.2.2 dec_keeps dec_run)) (w1 := (w_Decoder_keepIfCanBe cI cB cS cT a_pic a_pic_co a_rd a_dec a_pic_h a_pic_v a_pic_ac a_pic_dn a_pic_oa a_pic_od a_pic_st a_sto a_crs a_tbs a_dec_p pic_many pic_unitsAcross pic_unitsDown pic_blocks n_pic_co z4.1 z3.2.1 z3.2.2.1 z3.2.2.2.1 z4.2 dec_keeps dec_run)) (w2 := (w_Decoder_takeDirect cI cB cS cT a_pic a_pic_co a_crs a_crs_dt a_sto a_sto_b a_rd a_dec a_dec_p a_tbs a_pic_h a_pic_v a_pic_ac a_pic_dn a_pic_oa a_pic_od a_pic_st a_crs_ow a_crs_pl a_crs_ot pic_many pic_unitsAcross pic_unitsDown pic_blocks n_pic_co z4.1 crs_kind crs_first crs_last crs_bits crs_interval crs_units crs_blocksOfUnit crs_laid crs_dt sto_length n_sto_b sto_b z3.2.1 z3.2.2.1 z3.2.2.2.1 z4.2 dec_keeps dec_run (upd dec_p p0.toNatClampNeg ((dec_p p0.toNatClampNeg) + z3.1)) ta tw ts tf tx vw vs vf vx ve vz)) [0, 1, 6, 7] [some 0, some 1, none, none, none, none, some 2, some 3, none, none, none, none, none, none, none, none, none, none, none, none, none, none, none, none, none, none, none, none, none, none, none, none, none, none, none, none, none, none, none, none, none, none, none, none, none, none, none, none, none, none] hP hD hS hA rfl rfl rfl rfl (va_runV (As := [.int p1, .int (0 : Int32), .int (((dec_p p0.toNatClampNeg) + z3.1) * ((1 : Int32) <<< (crs_bits &&& 31)))]) (rest := []) ⟨hx, hb, hml, hown, hts⟩ (c_Decoder_keepIfCanBe l dC dI cI cB cS cT a_pic a_pic_co a_rd a_dec a_pic_h a_pic_v a_pic_ac a_pic_dn a_pic_oa a_pic_od a_pic_st a_sto a_crs a_tbs a_dec_p pic_many pic_unitsAcross pic_unitsDown pic_blocks n_pic_co pic_co z3.2.1 z3.2.2.1 z3.2.2.2.1 z3.2.2.2.2 dec_keeps dec_run p1 (0 : Int32) (((dec_p p0.toNatClampNeg) + z3.1) * ((1 : Int32) <<< (crs_bits &&& 31))) H.size z4 hz4) ⟨(callB_of 3 hts (gi tw_723 rfl) rfl rfl rfl (hts _ (List.mem_cons_of_mem _ tw_14)) (hts _ (List.mem_cons_of_mem _ tw_720)) (by decide +kernel) ⟨Nat.le_of_ble_eq_true rfl, Nat.le_of_ble_eq_true rfl⟩), hts _ (List.mem_cons_of_mem _ tw_722), hts _ (List.mem_cons_of_mem _ ts_m723)⟩ ⟨g_blind, va_recv hK hP (ci := 5) (q0 := 7) rfl rfl, g_at hKN (g_pm hP [0, 1, 6, 7] rfl) (hD.sub [0, 1, 6, 7] (by decide) rfl)⟩ rfl rfl hl.1 rfl (lv_room (Nat.le_of_ble_eq_true rfl)) d_m694_90 ⟨Nat.zero_le _, Nat.zero_le _⟩) (fun H locs hP hD hS => ?_)
          refine W.eq (g2 := F0 m 93 ls []) rfl ?_
          obtain rfl := Option.some.inj hf
          subst hQ
          subst hAe
          exact W.vret hx hb hr (fun t ht hW => ⟨⟨(), rfl, trivial, by rw [ht]; exact hP, hD⟩, hS.F ht⟩) hS.2.2 d_m694_93
      · replace hf := (if_neg hc).symm.trans hf
        refine lv_aload_n hx hb d_m694_34 rfl (lv_at hl 1 rfl) ?_
        refine va_get (D := (dC, dI)) (ci := 5) (v := .ref a_rd) (C := "ScanCoder$Decoder") (T := T_5) (N := 7) hx hb hts n0 hown hK hP 7 rfl rfl 3 (by decide) k0 (fun _ h9 => h9) rfl d_m694_35 ?_
        refine lv_iconst (v := (3 : Int32)) hx hb d_m694_38 (by decide) ?_
        refine va_put (D := (dC, dI)) (ci := 1) (v := .int (3 : Int32)) (ty := .int) (C := "ScanCoder$BitReader") (T := T_1) (N := 5) hx hb hts n2 ty_1 tyok_1 nm_1 hown hK hP hD hS 6 rfl rfl 4 (by decide) k5 (fun _ h9 => h9) rfl (by decide +kernel) rfl rfl (Nat.le_of_ble_eq_true rfl) d_m694_39 (fun H locs hP hD hS => ?_)
        have hP : va_P (dC, dI) vwCl (w_Decoder_takeDirect cI cB cS cT a_pic a_pic_co a_crs a_crs_dt a_sto a_sto_b a_rd a_dec a_dec_p a_tbs a_pic_h a_pic_v a_pic_ac a_pic_dn a_pic_oa a_pic_od a_pic_st a_crs_ow a_crs_pl a_crs_ot pic_many pic_unitsAcross pic_unitsDown pic_blocks n_pic_co pic_co crs_kind crs_first crs_last crs_bits crs_interval crs_units crs_blocksOfUnit crs_laid crs_dt sto_length n_sto_b sto_b z2.2.1 z2.2.2.1 z2.2.2.2.1 (3 : Int32) dec_keeps dec_run dec_p ta tw ts tf tx vw vs vf vx ve vz) H := hP
        have hD : va_D A (w_Decoder_takeDirect cI cB cS cT a_pic a_pic_co a_crs a_crs_dt a_sto a_sto_b a_rd a_dec a_dec_p a_tbs a_pic_h a_pic_v a_pic_ac a_pic_dn a_pic_oa a_pic_od a_pic_st a_crs_ow a_crs_pl a_crs_ot pic_many pic_unitsAcross pic_unitsDown pic_blocks n_pic_co pic_co crs_kind crs_first crs_last crs_bits crs_interval crs_units crs_blocksOfUnit crs_laid crs_dt sto_length n_sto_b sto_b z2.2.1 z2.2.2.1 z2.2.2.2.1 (3 : Int32) dec_keeps dec_run dec_p ta tw ts tf tx vw vs vf vx ve vz) := hD
        obtain rfl := Option.some.inj hf
        subst hQ
        subst hAe
        exact W.vret hx hb hr (fun t ht hW => ⟨⟨(), rfl, trivial, by rw [ht]; exact hP, hD⟩, hS.F ht⟩) hS.2.2 d_m694_42
    · replace hf := (if_pos hc).symm.trans hf
      obtain rfl := Option.some.inj hf
      subst hQ
      subst hAe
      exact W.vret hx hb hr (fun t ht hW => ⟨⟨(), rfl, trivial, by rw [ht]; exact hP, hD⟩, hS.F ht⟩) hS.2.2 d_m694_27
  exact hgo _ _ hP hS

def f_Decoder_refineDirect (N : Nat) (p0 : Int32) (n_pic_co : Nat) (pic_co : Nat → Int32) (crs_bits : Int32) (sto_length : Int32) (n_sto_b : Nat) (sto_b : Nat → Int32) (rd_at : Int32) (rd_part : Int32) (rd_left : Int32) (rd_fault : Int32) (dec_keeps : Int32) : Option ((Nat → Int32) × Int32 × Int32 × Int32 × Int32) :=
  (f_BitReader_takeBits N (1 : Int32) sto_length n_sto_b sto_b rd_at rd_part rd_left rd_fault).bind fun z1 =>
  if z1.1 = (1 : Int32) then
    if p0 < 0 ∨ n_pic_co ≤ p0.toNatClampNeg then none else
    (f_Decoder_keep p0 ((pic_co p0.toNatClampNeg) ||| ((1 : Int32) <<< (crs_bits &&& 31))) n_pic_co pic_co dec_keeps).bind fun z2 =>
    some (z2, z1.2.1, z1.2.2.1, z1.2.2.2.1, z1.2.2.2.2)
  else
    some (pic_co, z1.2.1, z1.2.2.1, z1.2.2.2.1, z1.2.2.2.2)
abbrev w_Decoder_refineDirect (cI cB cS cT : ClassId) (a_pic : Nat) (a_pic_co : Nat) (a_crs : Nat) (a_sto : Nat) (a_sto_b : Nat) (a_rd : Nat) (a_dec : Nat) (a_pic_h : Nat) (a_pic_v : Nat) (a_pic_ac : Nat) (a_pic_dn : Nat) (a_pic_oa : Nat) (a_pic_od : Nat) (a_pic_st : Nat) (a_crs_ow : Nat) (a_crs_pl : Nat) (a_crs_dt : Nat) (a_crs_ot : Nat) (a_tbs : Nat) (a_dec_p : Nat) (pic_many : Int32) (pic_unitsAcross : Int32) (pic_unitsDown : Int32) (pic_blocks : Int32) (n_pic_co : Nat) (pic_co : Nat → Int32) (crs_kind : Int32) (crs_first : Int32) (crs_last : Int32) (crs_bits : Int32) (crs_interval : Int32) (crs_units : Int32) (crs_blocksOfUnit : Int32) (crs_laid : Int32) (sto_length : Int32) (n_sto_b : Nat) (sto_b : Nat → Int32) (rd_at : Int32) (rd_part : Int32) (rd_left : Int32) (rd_fault : Int32) (dec_keeps : Int32) (dec_run : Int32) : va_W := [(a_pic, .inr (8, [.ref a_pic_h, .ref a_pic_v, .ref a_pic_ac, .ref a_pic_dn, .ref a_pic_oa, .ref a_pic_od, .ref a_pic_st, .int pic_many, .int pic_unitsAcross, .int pic_unitsDown, .int pic_blocks, .ref a_pic_co])), (a_pic_co, .inl (cS, n_pic_co, .inl pic_co)), (a_crs, .inr (4, [.ref a_pic, .ref a_crs_ow, .ref a_crs_pl, .ref a_crs_dt, .ref a_crs_ot, .int crs_kind, .int crs_first, .int crs_last, .int crs_bits, .int crs_interval, .int crs_units, .int crs_blocksOfUnit, .int crs_laid])), (a_sto, .inr (9, [.ref a_sto_b, .int sto_length])), (a_sto_b, .inl (cB, n_sto_b, .inl sto_b)), (a_rd, .inr (1, [.ref a_sto, .int rd_at, .int rd_part, .int rd_left, .int rd_fault])), (a_dec, .inr (5, [.ref a_pic, .ref a_crs, .ref a_tbs, .ref a_rd, .ref a_dec_p, .int dec_keeps, .int dec_run]))]
def rm_Decoder_refineDirect : Room := { frames := 2, cells := 0, slots := 0, locals := 44 }
set_option maxHeartbeats 1000000 in
set_option maxRecDepth 100000 in
theorem c_Decoder_refineDirect (l : Launch) (dC : Nat → ClassId) (dI : Nat → Nat → Nat) (cI cB cS cT : ClassId) (N : Nat) (a_pic : Nat) (a_pic_co : Nat) (a_crs : Nat) (a_sto : Nat) (a_sto_b : Nat) (a_rd : Nat) (a_dec : Nat) (a_pic_h : Nat) (a_pic_v : Nat) (a_pic_ac : Nat) (a_pic_dn : Nat) (a_pic_oa : Nat) (a_pic_od : Nat) (a_pic_st : Nat) (a_crs_ow : Nat) (a_crs_pl : Nat) (a_crs_dt : Nat) (a_crs_ot : Nat) (a_tbs : Nat) (a_dec_p : Nat) (pic_many : Int32) (pic_unitsAcross : Int32) (pic_unitsDown : Int32) (pic_blocks : Int32) (n_pic_co : Nat) (pic_co : Nat → Int32) (crs_kind : Int32) (crs_first : Int32) (crs_last : Int32) (crs_bits : Int32) (crs_interval : Int32) (crs_units : Int32) (crs_blocksOfUnit : Int32) (crs_laid : Int32) (sto_length : Int32) (n_sto_b : Nat) (sto_b : Nat → Int32) (rd_at : Int32) (rd_part : Int32) (rd_left : Int32) (rd_fault : Int32) (dec_keeps : Int32) (dec_run : Int32) (p0 : Int32) (sz : Nat) (z : (Nat → Int32) × Int32 × Int32 × Int32 × Int32) (hf : f_Decoder_refineDirect N p0 n_pic_co pic_co crs_bits sto_length n_sto_b sto_b rd_at rd_part rd_left rd_fault dec_keeps = some z) : Met l y_m765 ws_m765 rm_Decoder_refineDirect (gPre (dC, dI) [.ref a_dec, .int p0] (gT cI cB cS cT) (w_Decoder_refineDirect cI cB cS cT a_pic a_pic_co a_crs a_sto a_sto_b a_rd a_dec a_pic_h a_pic_v a_pic_ac a_pic_dn a_pic_oa a_pic_od a_pic_st a_crs_ow a_crs_pl a_crs_dt a_crs_ot a_tbs a_dec_p pic_many pic_unitsAcross pic_unitsDown pic_blocks n_pic_co pic_co crs_kind crs_first crs_last crs_bits crs_interval crs_units crs_blocksOfUnit crs_laid sto_length n_sto_b sto_b rd_at rd_part rd_left rd_fault dec_keeps dec_run) sz) (gQv (dC, dI) (gT cI cB cS cT) (w_Decoder_refineDirect cI cB cS cT a_pic a_pic_co a_crs a_sto a_sto_b a_rd a_dec a_pic_h a_pic_v a_pic_ac a_pic_dn a_pic_oa a_pic_od a_pic_st a_crs_ow a_crs_pl a_crs_dt a_crs_ot a_tbs a_dec_p pic_many pic_unitsAcross pic_unitsDown pic_blocks n_pic_co pic_co crs_kind crs_first crs_last crs_bits crs_interval crs_units crs_blocksOfUnit crs_laid sto_length n_sto_b sto_b rd_at rd_part rd_left rd_fault dec_keeps dec_run) (w_Decoder_refineDirect cI cB cS cT a_pic a_pic_co a_crs a_sto a_sto_b a_rd a_dec a_pic_h a_pic_v a_pic_ac a_pic_dn a_pic_oa a_pic_od a_pic_st a_crs_ow a_crs_pl a_crs_dt a_crs_ot a_tbs a_dec_p pic_many pic_unitsAcross pic_unitsDown pic_blocks n_pic_co z.1 crs_kind crs_first crs_last crs_bits crs_interval crs_units crs_blocksOfUnit crs_laid sto_length n_sto_b sto_b z.2.1 z.2.2.1 z.2.2.2.1 z.2.2.2.2 dec_keeps dec_run) sz) 0 0 (va_A (w_Decoder_refineDirect cI cB cS cT a_pic a_pic_co a_crs a_sto a_sto_b a_rd a_dec a_pic_h a_pic_v a_pic_ac a_pic_dn a_pic_oa a_pic_od a_pic_st a_crs_ow a_crs_pl a_crs_dt a_crs_ot a_tbs a_dec_p pic_many pic_unitsAcross pic_unitsDown pic_blocks n_pic_co pic_co crs_kind crs_first crs_last crs_bits crs_interval crs_units crs_blocksOfUnit crs_laid sto_length n_sto_b sto_b rd_at rd_part rd_left rd_fault dec_keeps dec_run) sz) := by
  refine Met.ofW (cc := prog_6_method_9_code) (maxL := 3) (ret := none) (by decide) rfl ?_
  intro p e s m args below meth c s₁ B hml hv
  obtain ⟨hargs, hsz, hP, hKN, hD0⟩ := hv
  have hK := hKN.1
  have hx := B.exec
  have hb := B.bytes
  have hr := B.returns
  have hts := atoms_spec (ws := ws_m765) B.pre
  have hown : s.vm.findClass "ScanCoder$Decoder" = some m.cls := findClass_of_methodNamed B.named
  have hlocks := B.notSynchronized
  have k0 := hts _ (List.mem_cons_of_mem _ tw_400)
  have k1 := hts _ (List.mem_cons_of_mem _ tw_397)
  have k2 := hts _ (List.mem_cons_of_mem _ tw_81)
  have k3 := hts _ (List.mem_cons_of_mem _ tw_398)
  have k4 := hts _ (List.mem_cons_of_mem _ tw_183)
  have n0 : ∀ w ∈ u_ws "ScanCoder$Decoder" T_5 7, w ∈ ws_m765 := fun w h => List.mem_cons_of_mem _ (in_5 w h)
  have n1 : ∀ w ∈ u_ws "ScanCoder$Picture" T_8 12, w ∈ ws_m765 := fun w h => List.mem_cons_of_mem _ (in_8 w h)
  have n2 : ∀ w ∈ u_ws "ScanCoder$Course" T_4 13, w ∈ ws_m765 := fun w h => List.mem_cons_of_mem _ (in_4 w h)
  subst hsz
  have hD := hD0.self (sz := s.heap.size)
  obtain ⟨A, hAe⟩ : ∃ A : Nat → Prop, va_A (w_Decoder_refineDirect cI cB cS cT a_pic a_pic_co a_crs a_sto a_sto_b a_rd a_dec a_pic_h a_pic_v a_pic_ac a_pic_dn a_pic_oa a_pic_od a_pic_st a_crs_ow a_crs_pl a_crs_dt a_crs_ot a_tbs a_dec_p pic_many pic_unitsAcross pic_unitsDown pic_blocks n_pic_co pic_co crs_kind crs_first crs_last crs_bits crs_interval crs_units crs_blocksOfUnit crs_laid sto_length n_sto_b sto_b rd_at rd_part rd_left rd_fault dec_keeps dec_run) s.heap.size = A := ⟨_, rfl⟩
  rw [hAe] at hD
  have hA : ∀ q : Nat, s.heap.size ≤ q → A q := fun q h => by rw [← hAe]; exact Or.inr h
  have hS : va_S A s.heap s.heap [] := va_S.rf
  have hl := lv_entry ([.ref a_dec, .int p0]) (n := 3) (Nat.le_of_ble_eq_true rfl)
  have hfr : entryFrame m args 3 = F0 m 0 ((lg_sl ([.ref a_dec, .int p0]) ++ List.replicate (3 - (lg_sl ([.ref a_dec, .int p0])).length) Slot.unset).toArray) [] := by rw [hargs]; exact lg_entry_eq _ _ _
  rw [hfr]
  generalize (lg_sl ([.ref a_dec, .int p0]) ++ List.replicate (3 - (lg_sl ([.ref a_dec, .int p0])).length) Slot.unset).toArray = ls at hl ⊢
  have hl : lv_has ls 3 [(0, .ref a_dec), (1, .int p0)] := hl
  refine gen_Q (fun Q hQ => ?_)
  clear hfr
  have hgo : ∀ (H : Heap) (locs : List Loc), va_P (dC, dI) vwCl (w_Decoder_refineDirect cI cB cS cT a_pic a_pic_co a_crs a_sto a_sto_b a_rd a_dec a_pic_h a_pic_v a_pic_ac a_pic_dn a_pic_oa a_pic_od a_pic_st a_crs_ow a_crs_pl a_crs_dt a_crs_ot a_tbs a_dec_p pic_many pic_unitsAcross pic_unitsDown pic_blocks n_pic_co pic_co crs_kind crs_first crs_last crs_bits crs_interval crs_units crs_blocksOfUnit crs_laid sto_length n_sto_b sto_b rd_at rd_part rd_left rd_fault dec_keeps dec_run) H → va_S A s.heap H locs → W p l e (headSpec ws_m765 rm_Decoder_refineDirect).room s m args below meth c H locs 0 0 Q (F0 m 0 ls []) := by
    intro H locs hP hS
    unfold f_Decoder_refineDirect at hf
    refine lv_aload_n hx hb d_m765_0 rfl (lv_at hl 0 rfl) ?_
    refine va_get (D := (dC, dI)) (ci := 5) (v := .ref a_rd) (C := "ScanCoder$Decoder") (T := T_5) (N := 7) hx hb hts n0 hown hK hP 6 rfl rfl 3 (by decide) k0 (fun _ h9 => h9) rfl d_m765_1 ?_
    refine lv_iconst (v := (1 : Int32)) hx hb d_m765_4 (by decide) ?_
    obtain ⟨z1, hz1, hf⟩ := ob_bind hf
    refine g_calli (wc := (w_BitReader_takeBits cI cB cS cT a_sto a_sto_b a_rd sto_length n_sto_b sto_b rd_at rd_part rd_left rd_fault)) (w1 := (w_BitReader_takeBits cI cB cS cT a_sto a_sto_b a_rd sto_length n_sto_b sto_b z1.2.1 z1.2.2.1 z1.2.2.2.1 z1.2.2.2.2)) (w2 := (w_Decoder_refineDirect cI cB cS cT a_pic a_pic_co a_crs a_sto a_sto_b a_rd a_dec a_pic_h a_pic_v a_pic_ac a_pic_dn a_pic_oa a_pic_od a_pic_st a_crs_ow a_crs_pl a_crs_dt a_crs_ot a_tbs a_dec_p pic_many pic_unitsAcross pic_unitsDown pic_blocks n_pic_co pic_co crs_kind crs_first crs_last crs_bits crs_interval crs_units crs_blocksOfUnit crs_laid sto_length n_sto_b sto_b z1.2.1 z1.2.2.1 z1.2.2.2.1 z1.2.2.2.2 dec_keeps dec_run)) [3, 4, 5] [none, none, none, some 0, some 1, some 2, none] hP hD hS hA rfl rfl rfl rfl (va_runV (As := [.int (1 : Int32)]) (rest := []) ⟨hx, hb, hml, hown, hts⟩ (c_BitReader_takeBits l dC dI cI cB cS cT N a_sto a_sto_b a_rd sto_length n_sto_b sto_b rd_at rd_part rd_left rd_fault (1 : Int32) H.size z1 hz1) ⟨(callB_of 1 hts (gi tw_706 rfl) rfl rfl rfl (hts _ (List.mem_cons_of_mem _ tw_15)) (hts _ (List.mem_cons_of_mem _ tw_719)) (by decide +kernel) ⟨Nat.le_of_ble_eq_true rfl, Nat.le_of_ble_eq_true rfl⟩), hts _ (List.mem_cons_of_mem _ tw_704), hts _ (List.mem_cons_of_mem _ tw_705)⟩ ⟨g_blind, va_recv hK hP (ci := 1) (q0 := 5) rfl rfl, g_at hKN (g_pm hP [3, 4, 5] rfl) (hD.sub [3, 4, 5] (by decide) rfl)⟩ rfl rfl hl.1 rfl (lv_room (Nat.le_of_ble_eq_true rfl)) d_m765_5 ⟨Nat.zero_le _, Nat.zero_le _⟩) (fun H locs hP hD hS => ?_)
    refine W.eq (g2 := F0 m 8 ls [.int z1.1]) rfl ?_
    refine lv_istore_n (lv' := [(2, .int z1.1), (0, .ref a_dec), (1, .int p0)]) hx hb d_m765_8 rfl hl (by decide) rfl (fun ls hl => ?_)
    refine lv_iload_n hx hb d_m765_9 rfl (lv_at hl 0 rfl) ?_
    refine lv_iconst (v := (1 : Int32)) hx hb d_m765_10 (by decide) ?_
    refine lv_icmp_ne (tgt := 38) hx hb d_m765_11 (by decide) (fun hc => ?_) (fun hc => ?_)
    · replace hf := (if_neg hc).symm.trans hf
      obtain rfl := Option.some.inj hf
      subst hQ
      subst hAe
      exact W.vret hx hb hr (fun t ht hW => ⟨⟨(), rfl, trivial, by rw [ht]; exact hP, hD⟩, hS.F ht⟩) hS.2.2 d_m765_38
    · replace hf := (if_pos hc).symm.trans hf
      refine lv_aload_n hx hb d_m765_14 rfl (lv_at hl 1 rfl) ?_
      refine lv_iload_n hx hb d_m765_15 rfl (lv_at hl 2 rfl) ?_
      refine lv_aload_n hx hb d_m765_16 rfl (lv_at hl 1 rfl) ?_
      refine va_get (D := (dC, dI)) (ci := 5) (v := .ref a_pic) (C := "ScanCoder$Decoder") (T := T_5) (N := 7) hx hb hts n0 hown hK hP 6 rfl rfl 0 (by decide) k1 (fun _ h9 => h9) rfl d_m765_17 ?_
      refine va_get (D := (dC, dI)) (ci := 8) (v := .ref a_pic_co) (C := "ScanCoder$Picture") (T := T_8) (N := 12) hx hb hts n1 hown hK hP 0 rfl rfl 11 (by decide) k2 (fun _ h9 => h9) rfl d_m765_20 ?_
      refine lv_iload_n hx hb d_m765_23 rfl (lv_at hl 2 rfl) ?_
      obtain ⟨hi, hf⟩ := ob_if hf
      refine va_sald hx hb hK hP 1 2 rfl rfl hi d_m765_24 ?_
      refine lv_iconst (v := (1 : Int32)) hx hb d_m765_25 (by decide) ?_
      refine lv_aload_n hx hb d_m765_26 rfl (lv_at hl 1 rfl) ?_
      refine va_get (D := (dC, dI)) (ci := 5) (v := .ref a_crs) (C := "ScanCoder$Decoder") (T := T_5) (N := 7) hx hb hts n0 hown hK hP 6 rfl rfl 1 (by decide) k3 (fun _ h9 => h9) rfl d_m765_27 ?_
      refine va_get (D := (dC, dI)) (ci := 4) (v := .int crs_bits) (C := "ScanCoder$Course") (T := T_4) (N := 13) hx hb hts n2 hown hK hP 2 rfl rfl 8 (by decide) k4 (fun _ h9 => h9) rfl d_m765_30 ?_
      refine lv_ishl hx hb d_m765_33 ?_
      refine lv_ior hx hb d_m765_34 ?_
      obtain ⟨z2, hz2, hf⟩ := ob_bind hf
      refine g_callv (wc := (w_Decoder_keep cI cB cS cT a_pic a_pic_co a_dec a_pic_h a_pic_v a_pic_ac a_pic_dn a_pic_oa a_pic_od a_pic_st a_crs a_tbs a_rd a_dec_p pic_many pic_unitsAcross pic_unitsDown pic_blocks n_pic_co pic_co dec_keeps dec_run)) (w1 := (w_Decoder_keep cI cB cS cT a_pic a_pic_co a_dec a_pic_h a_pic_v a_pic_ac a_pic_dn a_pic_oa a_pic_od a_pic_st a_crs a_tbs a_rd a_dec_p pic_many pic_unitsAcross pic_unitsDown pic_blocks n_pic_co z2 dec_keeps dec_run)) (w2 := (w_Decoder_refineDirect cI cB cS cT a_pic a_pic_co a_crs a_sto a_sto_b a_rd a_dec a_pic_h a_pic_v a_pic_ac a_pic_dn a_pic_oa a_pic_od a_pic_st a_crs_ow a_crs_pl a_crs_dt a_crs_ot a_tbs a_dec_p pic_many pic_unitsAcross pic_unitsDown pic_blocks n_pic_co z2 crs_kind crs_first crs_last crs_bits crs_interval crs_units crs_blocksOfUnit crs_laid sto_length n_sto_b sto_b z1.2.1 z1.2.2.1 z1.2.2.2.1 z1.2.2.2.2 dec_keeps dec_run)) [0, 1, 6] [some 0, some 1, none, none, none, none, some 2] hP hD hS hA rfl rfl rfl rfl (va_runV (As := [.int p0, .int ((pic_co p0.toNatClampNeg) ||| ((1 : Int32) <<< (crs_bits &&& 31)))]) (rest := []) ⟨hx, hb, hml, hown, hts⟩ (c_Decoder_keep l dC dI cI cB cS cT a_pic a_pic_co a_dec a_pic_h a_pic_v a_pic_ac a_pic_dn a_pic_oa a_pic_od a_pic_st a_crs a_tbs a_rd a_dec_p pic_many pic_unitsAcross pic_unitsDown pic_blocks n_pic_co pic_co dec_keeps dec_run p0 ((pic_co p0.toNatClampNeg) ||| ((1 : Int32) <<< (crs_bits &&& 31))) H.size z2 hz2) ⟨(callB_of 2 hts (gi tw_728 rfl) rfl rfl rfl (hts _ (List.mem_cons_of_mem _ tw_14)) (hts _ (List.mem_cons_of_mem _ tw_725)) (by decide +kernel) ⟨Nat.le_of_ble_eq_true rfl, Nat.le_of_ble_eq_true rfl⟩), hts _ (List.mem_cons_of_mem _ tw_727), hts _ (List.mem_cons_of_mem _ ts_m728)⟩ ⟨g_blind, va_recv hK hP (ci := 5) (q0 := 6) rfl rfl, g_at hKN (g_pm hP [0, 1, 6] rfl) (hD.sub [0, 1, 6] (by decide) rfl)⟩ rfl rfl hl.1 rfl (lv_room (Nat.le_of_ble_eq_true rfl)) d_m765_35 ⟨Nat.zero_le _, Nat.zero_le _⟩) (fun H locs hP hD hS => ?_)
      refine W.eq (g2 := F0 m 38 ls []) rfl ?_
      obtain rfl := Option.some.inj hf
      subst hQ
      subst hAe
      exact W.vret hx hb hr (fun t ht hW => ⟨⟨(), rfl, trivial, by rw [ht]; exact hP, hD⟩, hS.F ht⟩) hS.2.2 d_m765_38
  exact hgo _ _ hP hS
def f_Decoder_clearOthers_L2b (crs_last : Int32) (p0 : Int32) (n_pic_co : Nat) (dec_keeps : Int32) (N : Nat) (rec : (Int32 × (Nat → Int32)) → Option (Nat → Int32)) (v3_2 : Int32) (pic_co_2 : Nat → Int32) : Option (Nat → Int32) :=
  if crs_last < v3_2 then
    some pic_co_2
  else
    (f_Decoder_keep (p0 + v3_2) (0 : Int32) n_pic_co pic_co_2 dec_keeps).bind fun z1 =>
    rec (v3_2 + (1 : Int32), z1)
def f_Decoder_clearOthers_L2 (crs_last : Int32) (p0 : Int32) (n_pic_co : Nat) (dec_keeps : Int32) (N : Nat) (k : Nat) : (Int32 × (Nat → Int32)) → Option (Nat → Int32) := it (fun rec a => f_Decoder_clearOthers_L2b crs_last p0 n_pic_co dec_keeps N rec a.1 a.2) k
def f_Decoder_clearOthers (N : Nat) (p0 : Int32) (p1 : Int32) (n_pic_co : Nat) (pic_co : Nat → Int32) (crs_last : Int32) (dec_keeps : Int32) : Option (Nat → Int32) :=
  (f_Decoder_clearOthers_L2 crs_last p0 n_pic_co dec_keeps N N (p1, pic_co)).bind fun z2 =>
    some z2
abbrev w_Decoder_clearOthers (cI cB cS cT : ClassId) (a_pic : Nat) (a_pic_co : Nat) (a_crs : Nat) (a_dec : Nat) (a_pic_h : Nat) (a_pic_v : Nat) (a_pic_ac : Nat) (a_pic_dn : Nat) (a_pic_oa : Nat) (a_pic_od : Nat) (a_pic_st : Nat) (a_crs_ow : Nat) (a_crs_pl : Nat) (a_crs_dt : Nat) (a_crs_ot : Nat) (a_tbs : Nat) (a_rd : Nat) (a_dec_p : Nat) (pic_many : Int32) (pic_unitsAcross : Int32) (pic_unitsDown : Int32) (pic_blocks : Int32) (n_pic_co : Nat) (pic_co : Nat → Int32) (crs_kind : Int32) (crs_first : Int32) (crs_last : Int32) (crs_bits : Int32) (crs_interval : Int32) (crs_units : Int32) (crs_blocksOfUnit : Int32) (crs_laid : Int32) (dec_keeps : Int32) (dec_run : Int32) : va_W := [(a_pic, .inr (8, [.ref a_pic_h, .ref a_pic_v, .ref a_pic_ac, .ref a_pic_dn, .ref a_pic_oa, .ref a_pic_od, .ref a_pic_st, .int pic_many, .int pic_unitsAcross, .int pic_unitsDown, .int pic_blocks, .ref a_pic_co])), (a_pic_co, .inl (cS, n_pic_co, .inl pic_co)), (a_crs, .inr (4, [.ref a_pic, .ref a_crs_ow, .ref a_crs_pl, .ref a_crs_dt, .ref a_crs_ot, .int crs_kind, .int crs_first, .int crs_last, .int crs_bits, .int crs_interval, .int crs_units, .int crs_blocksOfUnit, .int crs_laid])), (a_dec, .inr (5, [.ref a_pic, .ref a_crs, .ref a_tbs, .ref a_rd, .ref a_dec_p, .int dec_keeps, .int dec_run]))]
def rm_Decoder_clearOthers : Room := { frames := 1, cells := 0, slots := 0, locals := 22 }
set_option maxHeartbeats 1000000 in
set_option maxRecDepth 100000 in
theorem c_Decoder_clearOthers (l : Launch) (dC : Nat → ClassId) (dI : Nat → Nat → Nat) (cI cB cS cT : ClassId) (N : Nat) (a_pic : Nat) (a_pic_co : Nat) (a_crs : Nat) (a_dec : Nat) (a_pic_h : Nat) (a_pic_v : Nat) (a_pic_ac : Nat) (a_pic_dn : Nat) (a_pic_oa : Nat) (a_pic_od : Nat) (a_pic_st : Nat) (a_crs_ow : Nat) (a_crs_pl : Nat) (a_crs_dt : Nat) (a_crs_ot : Nat) (a_tbs : Nat) (a_rd : Nat) (a_dec_p : Nat) (pic_many : Int32) (pic_unitsAcross : Int32) (pic_unitsDown : Int32) (pic_blocks : Int32) (n_pic_co : Nat) (pic_co : Nat → Int32) (crs_kind : Int32) (crs_first : Int32) (crs_last : Int32) (crs_bits : Int32) (crs_interval : Int32) (crs_units : Int32) (crs_blocksOfUnit : Int32) (crs_laid : Int32) (dec_keeps : Int32) (dec_run : Int32) (p0 : Int32) (p1 : Int32) (sz : Nat) (z : Nat → Int32) (hf : f_Decoder_clearOthers N p0 p1 n_pic_co pic_co crs_last dec_keeps = some z) : Met l y_m736 ws_m736 rm_Decoder_clearOthers (gPre (dC, dI) [.ref a_dec, .int p0, .int p1] (gT cI cB cS cT) (w_Decoder_clearOthers cI cB cS cT a_pic a_pic_co a_crs a_dec a_pic_h a_pic_v a_pic_ac a_pic_dn a_pic_oa a_pic_od a_pic_st a_crs_ow a_crs_pl a_crs_dt a_crs_ot a_tbs a_rd a_dec_p pic_many pic_unitsAcross pic_unitsDown pic_blocks n_pic_co pic_co crs_kind crs_first crs_last crs_bits crs_interval crs_units crs_blocksOfUnit crs_laid dec_keeps dec_run) sz) (gQv (dC, dI) (gT cI cB cS cT) (w_Decoder_clearOthers cI cB cS cT a_pic a_pic_co a_crs a_dec a_pic_h a_pic_v a_pic_ac a_pic_dn a_pic_oa a_pic_od a_pic_st a_crs_ow a_crs_pl a_crs_dt a_crs_ot a_tbs a_rd a_dec_p pic_many pic_unitsAcross pic_unitsDown pic_blocks n_pic_co pic_co crs_kind crs_first crs_last crs_bits crs_interval crs_units crs_blocksOfUnit crs_laid dec_keeps dec_run) (w_Decoder_clearOthers cI cB cS cT a_pic a_pic_co a_crs a_dec a_pic_h a_pic_v a_pic_ac a_pic_dn a_pic_oa a_pic_od a_pic_st a_crs_ow a_crs_pl a_crs_dt a_crs_ot a_tbs a_rd a_dec_p pic_many pic_unitsAcross pic_unitsDown pic_blocks n_pic_co z crs_kind crs_first crs_last crs_bits crs_interval crs_units crs_blocksOfUnit crs_laid dec_keeps dec_run) sz) 0 0 (va_A (w_Decoder_clearOthers cI cB cS cT a_pic a_pic_co a_crs a_dec a_pic_h a_pic_v a_pic_ac a_pic_dn a_pic_oa a_pic_od a_pic_st a_crs_ow a_crs_pl a_crs_dt a_crs_ot a_tbs a_rd a_dec_p pic_many pic_unitsAcross pic_unitsDown pic_blocks n_pic_co pic_co crs_kind crs_first crs_last crs_bits crs_interval crs_units crs_blocksOfUnit crs_laid dec_keeps dec_run) sz) := by
  refine Met.ofW (cc := prog_6_method_11_code) (maxL := 4) (ret := none) (by decide) rfl ?_
  intro p e s m args below meth c s₁ B hml hv
  obtain ⟨hargs, hsz, hP, hKN, hD0⟩ := hv
  have hK := hKN.1
  have hx := B.exec
  have hb := B.bytes
  have hr := B.returns
  have hts := atoms_spec (ws := ws_m736) B.pre
  have hown : s.vm.findClass "ScanCoder$Decoder" = some m.cls := findClass_of_methodNamed B.named
  have hlocks := B.notSynchronized
  have k0 := hts _ (List.mem_cons_of_mem _ tw_398)
  have k1 := hts _ (List.mem_cons_of_mem _ tw_180)
  have n0 : ∀ w ∈ u_ws "ScanCoder$Decoder" T_5 7, w ∈ ws_m736 := fun w h => List.mem_cons_of_mem _ (in_5 w h)
  have n1 : ∀ w ∈ u_ws "ScanCoder$Course" T_4 13, w ∈ ws_m736 := fun w h => List.mem_cons_of_mem _ (in_4 w h)
  subst hsz
  have hD := hD0.self (sz := s.heap.size)
  obtain ⟨A, hAe⟩ : ∃ A : Nat → Prop, va_A (w_Decoder_clearOthers cI cB cS cT a_pic a_pic_co a_crs a_dec a_pic_h a_pic_v a_pic_ac a_pic_dn a_pic_oa a_pic_od a_pic_st a_crs_ow a_crs_pl a_crs_dt a_crs_ot a_tbs a_rd a_dec_p pic_many pic_unitsAcross pic_unitsDown pic_blocks n_pic_co pic_co crs_kind crs_first crs_last crs_bits crs_interval crs_units crs_blocksOfUnit crs_laid dec_keeps dec_run) s.heap.size = A := ⟨_, rfl⟩
  rw [hAe] at hD
  have hA : ∀ q : Nat, s.heap.size ≤ q → A q := fun q h => by rw [← hAe]; exact Or.inr h
  have hS : va_S A s.heap s.heap [] := va_S.rf
  have hl := lv_entry ([.ref a_dec, .int p0, .int p1]) (n := 4) (Nat.le_of_ble_eq_true rfl)
  have hfr : entryFrame m args 4 = F0 m 0 ((lg_sl ([.ref a_dec, .int p0, .int p1]) ++ List.replicate (4 - (lg_sl ([.ref a_dec, .int p0, .int p1])).length) Slot.unset).toArray) [] := by rw [hargs]; exact lg_entry_eq _ _ _
  rw [hfr]
  generalize (lg_sl ([.ref a_dec, .int p0, .int p1]) ++ List.replicate (4 - (lg_sl ([.ref a_dec, .int p0, .int p1])).length) Slot.unset).toArray = ls at hl ⊢
  have hl : lv_has ls 4 [(0, .ref a_dec), (1, .int p0), (2, .int p1)] := hl
  refine gen_Q (fun Q hQ => ?_)
  clear hfr
  have L2 : ∀  (z : Nat → Int32), (GW (dC, dI) A p l e (headSpec ws_m736 rm_Decoder_clearOthers).room s m args below meth c 0 0 Q 4 27 (w_Decoder_clearOthers cI cB cS cT a_pic a_pic_co a_crs a_dec a_pic_h a_pic_v a_pic_ac a_pic_dn a_pic_oa a_pic_od a_pic_st a_crs_ow a_crs_pl a_crs_dt a_crs_ot a_tbs a_rd a_dec_p pic_many pic_unitsAcross pic_unitsDown pic_blocks n_pic_co z crs_kind crs_first crs_last crs_bits crs_interval crs_units crs_blocksOfUnit crs_laid dec_keeps dec_run) [] []) → ∀ (k : Nat) (v3_2 : Int32) (pic_co_2 : Nat → Int32), f_Decoder_clearOthers_L2 crs_last p0 n_pic_co dec_keeps N k (v3_2, pic_co_2) = some z → GW (dC, dI) A p l e (headSpec ws_m736 rm_Decoder_clearOthers).room s m args below meth c 0 0 Q 4 2 (w_Decoder_clearOthers cI cB cS cT a_pic a_pic_co a_crs a_dec a_pic_h a_pic_v a_pic_ac a_pic_dn a_pic_oa a_pic_od a_pic_st a_crs_ow a_crs_pl a_crs_dt a_crs_ot a_tbs a_rd a_dec_p pic_many pic_unitsAcross pic_unitsDown pic_blocks n_pic_co pic_co_2 crs_kind crs_first crs_last crs_bits crs_interval crs_units crs_blocksOfUnit crs_laid dec_keeps dec_run) [(0, .ref a_dec), (1, .int p0), (3, .int v3_2)] [] := by
    intro  z hE0 k
    induction k with
    | zero =>
      intro v3_2 pic_co_2 hf
      exact (it_zero hf).elim
    | succ k ih =>
      intro v3_2 pic_co_2 hf H locs ls hP hD hS hl
      have hf : f_Decoder_clearOthers_L2b crs_last p0 n_pic_co dec_keeps N (f_Decoder_clearOthers_L2 crs_last p0 n_pic_co dec_keeps N k) v3_2 pic_co_2 = some z := hf
      unfold f_Decoder_clearOthers_L2b at hf
      refine lv_iload_n hx hb d_m736_2 rfl (lv_at hl 2 rfl) ?_
      refine lv_aload_n hx hb d_m736_3 rfl (lv_at hl 0 rfl) ?_
      refine va_get (D := (dC, dI)) (ci := 5) (v := .ref a_crs) (C := "ScanCoder$Decoder") (T := T_5) (N := 7) hx hb hts n0 hown hK hP 3 rfl rfl 1 (by decide) k0 (fun _ h9 => h9) rfl d_m736_4 ?_
      refine va_get (D := (dC, dI)) (ci := 4) (v := .int crs_last) (C := "ScanCoder$Course") (T := T_4) (N := 13) hx hb hts n1 hown hK hP 2 rfl rfl 7 (by decide) k1 (fun _ h9 => h9) rfl d_m736_7 ?_
      refine lv_icmp_gt (tgt := 27) hx hb d_m736_10 (by decide) (fun hc => ?_) (fun hc => ?_)
      · replace hf := (if_pos hc).symm.trans hf
        obtain rfl := Option.some.inj hf
        exact hE0  H locs ls hP hD hS (lv_sub hl [] rfl)
      · replace hf := (if_neg hc).symm.trans hf
        refine lv_aload_n hx hb d_m736_13 rfl (lv_at hl 0 rfl) ?_
        refine lv_iload_n hx hb d_m736_14 rfl (lv_at hl 1 rfl) ?_
        refine lv_iload_n hx hb d_m736_15 rfl (lv_at hl 2 rfl) ?_
        refine lv_iadd hx hb d_m736_16 ?_
        refine lv_iconst (v := (0 : Int32)) hx hb d_m736_17 (by decide) ?_
        obtain ⟨z1, hz1, hf⟩ := ob_bind hf
        refine g_callv (wc := (w_Decoder_keep cI cB cS cT a_pic a_pic_co a_dec a_pic_h a_pic_v a_pic_ac a_pic_dn a_pic_oa a_pic_od a_pic_st a_crs a_tbs a_rd a_dec_p pic_many pic_unitsAcross pic_unitsDown pic_blocks n_pic_co pic_co_2 dec_keeps dec_run)) (w1 := (w_Decoder_keep cI cB cS cT a_pic a_pic_co a_dec a_pic_h a_pic_v a_pic_ac a_pic_dn a_pic_oa a_pic_od a_pic_st a_crs a_tbs a_rd a_dec_p pic_many pic_unitsAcross pic_unitsDown pic_blocks n_pic_co z1 dec_keeps dec_run)) (w2 := (w_Decoder_clearOthers cI cB cS cT a_pic a_pic_co a_crs a_dec a_pic_h a_pic_v a_pic_ac a_pic_dn a_pic_oa a_pic_od a_pic_st a_crs_ow a_crs_pl a_crs_dt a_crs_ot a_tbs a_rd a_dec_p pic_many pic_unitsAcross pic_unitsDown pic_blocks n_pic_co z1 crs_kind crs_first crs_last crs_bits crs_interval crs_units crs_blocksOfUnit crs_laid dec_keeps dec_run)) [0, 1, 3] [some 0, some 1, none, some 2] hP hD hS hA rfl rfl rfl rfl (va_runV (As := [.int (p0 + v3_2), .int (0 : Int32)]) (rest := []) ⟨hx, hb, hml, hown, hts⟩ (c_Decoder_keep l dC dI cI cB cS cT a_pic a_pic_co a_dec a_pic_h a_pic_v a_pic_ac a_pic_dn a_pic_oa a_pic_od a_pic_st a_crs a_tbs a_rd a_dec_p pic_many pic_unitsAcross pic_unitsDown pic_blocks n_pic_co pic_co_2 dec_keeps dec_run (p0 + v3_2) (0 : Int32) H.size z1 hz1) ⟨(callB_of 2 hts (gi tw_728 rfl) rfl rfl rfl (hts _ (List.mem_cons_of_mem _ tw_14)) (hts _ (List.mem_cons_of_mem _ tw_725)) (by decide +kernel) ⟨Nat.le_of_ble_eq_true rfl, Nat.le_of_ble_eq_true rfl⟩), hts _ (List.mem_cons_of_mem _ tw_727), hts _ (List.mem_cons_of_mem _ ts_m728)⟩ ⟨g_blind, va_recv hK hP (ci := 5) (q0 := 3) rfl rfl, g_at hKN (g_pm hP [0, 1, 3] rfl) (hD.sub [0, 1, 3] (by decide) rfl)⟩ rfl rfl hl.1 rfl (lv_room (Nat.le_of_ble_eq_true rfl)) d_m736_18 ⟨Nat.zero_le _, Nat.zero_le _⟩) (fun H locs hP hD hS => ?_)
        refine W.eq (g2 := F0 m 21 ls []) rfl ?_
        refine lv_iinc (v := v3_2 + (1 : Int32)) (lv' := [(3, .int (v3_2 + (1 : Int32))), (0, .ref a_dec), (1, .int p0)]) hx hb d_m736_21 hl (k := 2) rfl rfl (by decide) rfl (fun ls hl => ?_)
        refine lv_goto (tgt := 2) hx hb d_m736_24 (by decide) ?_
        exact ih (v3_2 + (1 : Int32)) z1 hf H locs ls hP hD hS (lv_sub hl [1, 2, 0] rfl)
  have hgo : ∀ (H : Heap) (locs : List Loc), va_P (dC, dI) vwCl (w_Decoder_clearOthers cI cB cS cT a_pic a_pic_co a_crs a_dec a_pic_h a_pic_v a_pic_ac a_pic_dn a_pic_oa a_pic_od a_pic_st a_crs_ow a_crs_pl a_crs_dt a_crs_ot a_tbs a_rd a_dec_p pic_many pic_unitsAcross pic_unitsDown pic_blocks n_pic_co pic_co crs_kind crs_first crs_last crs_bits crs_interval crs_units crs_blocksOfUnit crs_laid dec_keeps dec_run) H → va_S A s.heap H locs → W p l e (headSpec ws_m736 rm_Decoder_clearOthers).room s m args below meth c H locs 0 0 Q (F0 m 0 ls []) := by
    intro H locs hP hS
    unfold f_Decoder_clearOthers at hf
    refine lv_iload_n hx hb d_m736_0 rfl (lv_at hl 2 rfl) ?_
    refine lv_istore_n (lv' := [(3, .int p1), (0, .ref a_dec), (1, .int p0), (2, .int p1)]) hx hb d_m736_1 rfl hl (by decide) rfl (fun ls hl => ?_)
    obtain ⟨z2, hz2, hf⟩ := ob_bind hf
    refine L2  z2 ?_ N p1 pic_co hz2 H locs ls hP hD hS (lv_sub hl [1, 2, 0] rfl)
    · intro H locs ls hP hD hS hl
      obtain rfl := Option.some.inj hf
      subst hQ
      subst hAe
      exact W.vret hx hb hr (fun t ht hW => ⟨⟨(), rfl, trivial, by rw [ht]; exact hP, hD⟩, hS.F ht⟩) hS.2.2 d_m736_27
  exact hgo _ _ hP hS

def f_Decoder_endsBand (p0 : Int32) (crs_kind : Int32) : Option (Int32) :=
  if crs_kind = 0 then
    some (0 : Int32)
  else
    if (p0 &&& (15 : Int32)) = 0 then
      if p0 = (240 : Int32) then
        some (0 : Int32)
      else
        some (1 : Int32)
    else
      some (0 : Int32)
abbrev w_Decoder_endsBand (cI cB cS cT : ClassId) (a_crs : Nat) (a_dec : Nat) (a_pic : Nat) (a_crs_ow : Nat) (a_crs_pl : Nat) (a_crs_dt : Nat) (a_crs_ot : Nat) (a_tbs : Nat) (a_rd : Nat) (a_dec_p : Nat) (crs_kind : Int32) (crs_first : Int32) (crs_last : Int32) (crs_bits : Int32) (crs_interval : Int32) (crs_units : Int32) (crs_blocksOfUnit : Int32) (crs_laid : Int32) (dec_keeps : Int32) (dec_run : Int32) : va_W := [(a_crs, .inr (4, [.ref a_pic, .ref a_crs_ow, .ref a_crs_pl, .ref a_crs_dt, .ref a_crs_ot, .int crs_kind, .int crs_first, .int crs_last, .int crs_bits, .int crs_interval, .int crs_units, .int crs_blocksOfUnit, .int crs_laid])), (a_dec, .inr (5, [.ref a_pic, .ref a_crs, .ref a_tbs, .ref a_rd, .ref a_dec_p, .int dec_keeps, .int dec_run]))]
def rm_Decoder_endsBand : Room := { frames := 0, cells := 0, slots := 0, locals := 0 }
set_option maxHeartbeats 1000000 in
set_option maxRecDepth 100000 in
theorem c_Decoder_endsBand (l : Launch) (dC : Nat → ClassId) (dI : Nat → Nat → Nat) (cI cB cS cT : ClassId) (a_crs : Nat) (a_dec : Nat) (a_pic : Nat) (a_crs_ow : Nat) (a_crs_pl : Nat) (a_crs_dt : Nat) (a_crs_ot : Nat) (a_tbs : Nat) (a_rd : Nat) (a_dec_p : Nat) (crs_kind : Int32) (crs_first : Int32) (crs_last : Int32) (crs_bits : Int32) (crs_interval : Int32) (crs_units : Int32) (crs_blocksOfUnit : Int32) (crs_laid : Int32) (dec_keeps : Int32) (dec_run : Int32) (p0 : Int32) (z : Int32) (hf : f_Decoder_endsBand p0 crs_kind = some z) : Met l y_m740 ws_m740 rm_Decoder_endsBand (gPreP (dC, dI) [.ref a_dec, .int p0] (gT cI cB cS cT) (w_Decoder_endsBand cI cB cS cT a_crs a_dec a_pic a_crs_ow a_crs_pl a_crs_dt a_crs_ot a_tbs a_rd a_dec_p crs_kind crs_first crs_last crs_bits crs_interval crs_units crs_blocksOfUnit crs_laid dec_keeps dec_run)) (vp_Si (fun r => r = z)) 0 0 (fun _ => False) := by
  refine Met.ofW (cc := prog_6_method_12_code) (maxL := 2) (ret := (some .boolean)) (by decide) rfl ?_
  intro p e s m args below meth c s₁ B hml hv
  obtain ⟨hargs, hP, hKN⟩ := hv
  have hK := hKN.1
  have hx := B.exec
  have hb := B.bytes
  have hr := B.returns
  have hts := atoms_spec (ws := ws_m740) B.pre
  have hown : s.vm.findClass "ScanCoder$Decoder" = some m.cls := findClass_of_methodNamed B.named
  have hlocks := B.notSynchronized
  have k0 := hts _ (List.mem_cons_of_mem _ tw_398)
  have k1 := hts _ (List.mem_cons_of_mem _ tw_173)
  have n0 : ∀ w ∈ u_ws "ScanCoder$Decoder" T_5 7, w ∈ ws_m740 := fun w h => List.mem_cons_of_mem _ (in_5 w h)
  have n1 : ∀ w ∈ u_ws "ScanCoder$Course" T_4 13, w ∈ ws_m740 := fun w h => List.mem_cons_of_mem _ (in_4 w h)
  have hl := lv_entry ([.ref a_dec, .int p0]) (n := 2) (Nat.le_of_ble_eq_true rfl)
  have hfr : entryFrame m args 2 = F0 m 0 ((lg_sl ([.ref a_dec, .int p0]) ++ List.replicate (2 - (lg_sl ([.ref a_dec, .int p0])).length) Slot.unset).toArray) [] := by rw [hargs]; exact lg_entry_eq _ _ _
  rw [hfr]
  generalize (lg_sl ([.ref a_dec, .int p0]) ++ List.replicate (2 - (lg_sl ([.ref a_dec, .int p0])).length) Slot.unset).toArray = ls at hl ⊢
  have hl : lv_has ls 2 [(0, .ref a_dec), (1, .int p0)] := hl
  refine gen_Q (fun Q hQ => ?_)
  clear hfr
  unfold f_Decoder_endsBand at hf
  refine lv_aload_n hx hb d_m740_0 rfl (lv_at hl 0 rfl) ?_
  refine va_get (D := (dC, dI)) (ci := 5) (v := .ref a_crs) (C := "ScanCoder$Decoder") (T := T_5) (N := 7) hx hb hts n0 hown hK hP 1 rfl rfl 1 (by decide) k0 (fun _ h9 => h9) rfl d_m740_1 ?_
  refine va_get (D := (dC, dI)) (ci := 4) (v := .int crs_kind) (C := "ScanCoder$Course") (T := T_4) (N := 13) hx hb hts n1 hown hK hP 0 rfl rfl 5 (by decide) k1 (fun _ h9 => h9) rfl d_m740_4 ?_
  refine lv_if_eq (tgt := 28) hx hb d_m740_7 (by decide) (fun hc => ?_) (fun hc => ?_)
  · replace hf := (if_pos hc).symm.trans hf
    refine lv_iconst (v := (0 : Int32)) hx hb d_m740_28 (by decide) ?_
    obtain rfl := Option.some.inj hf
    subst hQ
    exact W.zret (v := (0 : Int32)) hx hb hr (by decide) (fun t ht hW => ⟨(0 : Int32), rfl, rfl, ht⟩) (fun q h => by cases h) d_m740_29
  · replace hf := (if_neg hc).symm.trans hf
    refine lv_iload_n hx hb d_m740_10 rfl (lv_at hl 1 rfl) ?_
    refine lv_bipush (v := (15 : Int32)) hx hb d_m740_11 (by decide) ?_
    refine lv_iand hx hb d_m740_13 ?_
    refine lv_if_ne (tgt := 28) hx hb d_m740_14 (by decide) (fun hc => ?_) (fun hc => ?_)
    · replace hf := (if_neg hc).symm.trans hf
      refine lv_iconst (v := (0 : Int32)) hx hb d_m740_28 (by decide) ?_
      obtain rfl := Option.some.inj hf
      subst hQ
      exact W.zret (v := (0 : Int32)) hx hb hr (by decide) (fun t ht hW => ⟨(0 : Int32), rfl, rfl, ht⟩) (fun q h => by cases h) d_m740_29
    · replace hf := (if_pos hc).symm.trans hf
      refine lv_iload_n hx hb d_m740_17 rfl (lv_at hl 1 rfl) ?_
      refine lv_sipush (v := (240 : Int32)) hx hb d_m740_18 (by decide) ?_
      refine lv_icmp_eq (tgt := 28) hx hb d_m740_21 (by decide) (fun hc => ?_) (fun hc => ?_)
      · replace hf := (if_pos hc).symm.trans hf
        refine lv_iconst (v := (0 : Int32)) hx hb d_m740_28 (by decide) ?_
        obtain rfl := Option.some.inj hf
        subst hQ
        exact W.zret (v := (0 : Int32)) hx hb hr (by decide) (fun t ht hW => ⟨(0 : Int32), rfl, rfl, ht⟩) (fun q h => by cases h) d_m740_29
      · replace hf := (if_neg hc).symm.trans hf
        refine lv_iconst (v := (1 : Int32)) hx hb d_m740_24 (by decide) ?_
        refine lv_goto (tgt := 29) hx hb d_m740_25 (by decide) ?_
        obtain rfl := Option.some.inj hf
        subst hQ
        exact W.zret (v := (1 : Int32)) hx hb hr (by decide) (fun t ht hW => ⟨(1 : Int32), rfl, rfl, ht⟩) (fun q h => by cases h) d_m740_29

def f_Decoder_takeRun (N : Nat) (p0 : Int32) (sto_length : Int32) (n_sto_b : Nat) (sto_b : Nat → Int32) (rd_at : Int32) (rd_part : Int32) (rd_left : Int32) (rd_fault : Int32) (dec_run : Int32) : Option (Int32 × Int32 × Int32 × Int32 × Int32) :=
  (f_BitReader_takeBits N p0 sto_length n_sto_b sto_b rd_at rd_part rd_left rd_fault).bind fun z1 =>
  if z1.1 = (-1 : Int32) then
    some (z1.2.1, z1.2.2.1, z1.2.2.2.1, z1.2.2.2.2, dec_run)
  else
    some (z1.2.1, z1.2.2.1, z1.2.2.2.1, z1.2.2.2.2, ((1 : Int32) <<< (p0 &&& 31)) + z1.1)
abbrev w_Decoder_takeRun (cI cB cS cT : ClassId) (a_sto : Nat) (a_sto_b : Nat) (a_rd : Nat) (a_dec : Nat) (a_pic : Nat) (a_crs : Nat) (a_tbs : Nat) (a_dec_p : Nat) (sto_length : Int32) (n_sto_b : Nat) (sto_b : Nat → Int32) (rd_at : Int32) (rd_part : Int32) (rd_left : Int32) (rd_fault : Int32) (dec_keeps : Int32) (dec_run : Int32) : va_W := [(a_sto, .inr (9, [.ref a_sto_b, .int sto_length])), (a_sto_b, .inl (cB, n_sto_b, .inl sto_b)), (a_rd, .inr (1, [.ref a_sto, .int rd_at, .int rd_part, .int rd_left, .int rd_fault])), (a_dec, .inr (5, [.ref a_pic, .ref a_crs, .ref a_tbs, .ref a_rd, .ref a_dec_p, .int dec_keeps, .int dec_run]))]
def rm_Decoder_takeRun : Room := { frames := 2, cells := 0, slots := 0, locals := 44 }
set_option maxHeartbeats 1000000 in
set_option maxRecDepth 100000 in
theorem c_Decoder_takeRun (l : Launch) (dC : Nat → ClassId) (dI : Nat → Nat → Nat) (cI cB cS cT : ClassId) (N : Nat) (a_sto : Nat) (a_sto_b : Nat) (a_rd : Nat) (a_dec : Nat) (a_pic : Nat) (a_crs : Nat) (a_tbs : Nat) (a_dec_p : Nat) (sto_length : Int32) (n_sto_b : Nat) (sto_b : Nat → Int32) (rd_at : Int32) (rd_part : Int32) (rd_left : Int32) (rd_fault : Int32) (dec_keeps : Int32) (dec_run : Int32) (p0 : Int32) (sz : Nat) (z : Int32 × Int32 × Int32 × Int32 × Int32) (hf : f_Decoder_takeRun N p0 sto_length n_sto_b sto_b rd_at rd_part rd_left rd_fault dec_run = some z) : Met l y_m744 ws_m744 rm_Decoder_takeRun (gPre (dC, dI) [.ref a_dec, .int p0] (gT cI cB cS cT) (w_Decoder_takeRun cI cB cS cT a_sto a_sto_b a_rd a_dec a_pic a_crs a_tbs a_dec_p sto_length n_sto_b sto_b rd_at rd_part rd_left rd_fault dec_keeps dec_run) sz) (gQv (dC, dI) (gT cI cB cS cT) (w_Decoder_takeRun cI cB cS cT a_sto a_sto_b a_rd a_dec a_pic a_crs a_tbs a_dec_p sto_length n_sto_b sto_b rd_at rd_part rd_left rd_fault dec_keeps dec_run) (w_Decoder_takeRun cI cB cS cT a_sto a_sto_b a_rd a_dec a_pic a_crs a_tbs a_dec_p sto_length n_sto_b sto_b z.1 z.2.1 z.2.2.1 z.2.2.2.1 dec_keeps z.2.2.2.2) sz) 0 0 (va_A (w_Decoder_takeRun cI cB cS cT a_sto a_sto_b a_rd a_dec a_pic a_crs a_tbs a_dec_p sto_length n_sto_b sto_b rd_at rd_part rd_left rd_fault dec_keeps dec_run) sz) := by
  refine Met.ofW (cc := prog_6_method_13_code) (maxL := 3) (ret := none) (by decide) rfl ?_
  intro p e s m args below meth c s₁ B hml hv
  obtain ⟨hargs, hsz, hP, hKN, hD0⟩ := hv
  have hK := hKN.1
  have hx := B.exec
  have hb := B.bytes
  have hr := B.returns
  have hts := atoms_spec (ws := ws_m744) B.pre
  have hown : s.vm.findClass "ScanCoder$Decoder" = some m.cls := findClass_of_methodNamed B.named
  have hlocks := B.notSynchronized
  have k0 := hts _ (List.mem_cons_of_mem _ tw_400)
  have k1 := hts _ (List.mem_cons_of_mem _ tw_403)
  have n0 : ∀ w ∈ u_ws "ScanCoder$Decoder" T_5 7, w ∈ ws_m744 := fun w h => List.mem_cons_of_mem _ (in_5 w h)
  subst hsz
  have hD := hD0.self (sz := s.heap.size)
  obtain ⟨A, hAe⟩ : ∃ A : Nat → Prop, va_A (w_Decoder_takeRun cI cB cS cT a_sto a_sto_b a_rd a_dec a_pic a_crs a_tbs a_dec_p sto_length n_sto_b sto_b rd_at rd_part rd_left rd_fault dec_keeps dec_run) s.heap.size = A := ⟨_, rfl⟩
  rw [hAe] at hD
  have hA : ∀ q : Nat, s.heap.size ≤ q → A q := fun q h => by rw [← hAe]; exact Or.inr h
  have hS : va_S A s.heap s.heap [] := va_S.rf
  have hl := lv_entry ([.ref a_dec, .int p0]) (n := 3) (Nat.le_of_ble_eq_true rfl)
  have hfr : entryFrame m args 3 = F0 m 0 ((lg_sl ([.ref a_dec, .int p0]) ++ List.replicate (3 - (lg_sl ([.ref a_dec, .int p0])).length) Slot.unset).toArray) [] := by rw [hargs]; exact lg_entry_eq _ _ _
  rw [hfr]
  generalize (lg_sl ([.ref a_dec, .int p0]) ++ List.replicate (3 - (lg_sl ([.ref a_dec, .int p0])).length) Slot.unset).toArray = ls at hl ⊢
  have hl : lv_has ls 3 [(0, .ref a_dec), (1, .int p0)] := hl
  refine gen_Q (fun Q hQ => ?_)
  clear hfr
  have hgo : ∀ (H : Heap) (locs : List Loc), va_P (dC, dI) vwCl (w_Decoder_takeRun cI cB cS cT a_sto a_sto_b a_rd a_dec a_pic a_crs a_tbs a_dec_p sto_length n_sto_b sto_b rd_at rd_part rd_left rd_fault dec_keeps dec_run) H → va_S A s.heap H locs → W p l e (headSpec ws_m744 rm_Decoder_takeRun).room s m args below meth c H locs 0 0 Q (F0 m 0 ls []) := by
    intro H locs hP hS
    unfold f_Decoder_takeRun at hf
    refine lv_aload_n hx hb d_m744_0 rfl (lv_at hl 0 rfl) ?_
    refine va_get (D := (dC, dI)) (ci := 5) (v := .ref a_rd) (C := "ScanCoder$Decoder") (T := T_5) (N := 7) hx hb hts n0 hown hK hP 3 rfl rfl 3 (by decide) k0 (fun _ h9 => h9) rfl d_m744_1 ?_
    refine lv_iload_n hx hb d_m744_4 rfl (lv_at hl 1 rfl) ?_
    obtain ⟨z1, hz1, hf⟩ := ob_bind hf
    refine g_calli (wc := (w_BitReader_takeBits cI cB cS cT a_sto a_sto_b a_rd sto_length n_sto_b sto_b rd_at rd_part rd_left rd_fault)) (w1 := (w_BitReader_takeBits cI cB cS cT a_sto a_sto_b a_rd sto_length n_sto_b sto_b z1.2.1 z1.2.2.1 z1.2.2.2.1 z1.2.2.2.2)) (w2 := (w_Decoder_takeRun cI cB cS cT a_sto a_sto_b a_rd a_dec a_pic a_crs a_tbs a_dec_p sto_length n_sto_b sto_b z1.2.1 z1.2.2.1 z1.2.2.2.1 z1.2.2.2.2 dec_keeps dec_run)) [0, 1, 2] [some 0, some 1, some 2, none] hP hD hS hA rfl rfl rfl rfl (va_runV (As := [.int p0]) (rest := []) ⟨hx, hb, hml, hown, hts⟩ (c_BitReader_takeBits l dC dI cI cB cS cT N a_sto a_sto_b a_rd sto_length n_sto_b sto_b rd_at rd_part rd_left rd_fault p0 H.size z1 hz1) ⟨(callB_of 1 hts (gi tw_706 rfl) rfl rfl rfl (hts _ (List.mem_cons_of_mem _ tw_15)) (hts _ (List.mem_cons_of_mem _ tw_719)) (by decide +kernel) ⟨Nat.le_of_ble_eq_true rfl, Nat.le_of_ble_eq_true rfl⟩), hts _ (List.mem_cons_of_mem _ tw_704), hts _ (List.mem_cons_of_mem _ tw_705)⟩ ⟨g_blind, va_recv hK hP (ci := 1) (q0 := 2) rfl rfl, g_at hKN (g_pm hP [0, 1, 2] rfl) (hD.sub [0, 1, 2] (by decide) rfl)⟩ rfl rfl hl.1 rfl (lv_room (Nat.le_of_ble_eq_true rfl)) d_m744_5 ⟨Nat.zero_le _, Nat.zero_le _⟩) (fun H locs hP hD hS => ?_)
    refine W.eq (g2 := F0 m 8 ls [.int z1.1]) rfl ?_
    refine lv_istore_n (lv' := [(2, .int z1.1), (0, .ref a_dec), (1, .int p0)]) hx hb d_m744_8 rfl hl (by decide) rfl (fun ls hl => ?_)
    refine lv_iload_n hx hb d_m744_9 rfl (lv_at hl 0 rfl) ?_
    refine lv_iconst (v := (-1 : Int32)) hx hb d_m744_10 (by decide) ?_
    refine lv_icmp_eq (tgt := 23) hx hb d_m744_11 (by decide) (fun hc => ?_) (fun hc => ?_)
    · replace hf := (if_pos hc).symm.trans hf
      obtain rfl := Option.some.inj hf
      subst hQ
      subst hAe
      exact W.vret hx hb hr (fun t ht hW => ⟨⟨(), rfl, trivial, by rw [ht]; exact hP, hD⟩, hS.F ht⟩) hS.2.2 d_m744_23
    · replace hf := (if_neg hc).symm.trans hf
      refine lv_aload_n hx hb d_m744_14 rfl (lv_at hl 1 rfl) ?_
      refine lv_iconst (v := (1 : Int32)) hx hb d_m744_15 (by decide) ?_
      refine lv_iload_n hx hb d_m744_16 rfl (lv_at hl 2 rfl) ?_
      refine lv_ishl hx hb d_m744_17 ?_
      refine lv_iload_n hx hb d_m744_18 rfl (lv_at hl 0 rfl) ?_
      refine lv_iadd hx hb d_m744_19 ?_
      refine va_put (D := (dC, dI)) (ci := 5) (v := .int (((1 : Int32) <<< (p0 &&& 31)) + z1.1)) (ty := .int) (C := "ScanCoder$Decoder") (T := T_5) (N := 7) hx hb hts n0 ty_5 tyok_5 nm_5 hown hK hP hD hS 3 rfl rfl 6 (by decide) k1 (fun _ h9 => h9) rfl (by decide +kernel) rfl rfl (Nat.le_of_ble_eq_true rfl) d_m744_20 (fun H locs hP hD hS => ?_)
      have hP : va_P (dC, dI) vwCl (w_Decoder_takeRun cI cB cS cT a_sto a_sto_b a_rd a_dec a_pic a_crs a_tbs a_dec_p sto_length n_sto_b sto_b z1.2.1 z1.2.2.1 z1.2.2.2.1 z1.2.2.2.2 dec_keeps (((1 : Int32) <<< (p0 &&& 31)) + z1.1)) H := hP
      have hD : va_D A (w_Decoder_takeRun cI cB cS cT a_sto a_sto_b a_rd a_dec a_pic a_crs a_tbs a_dec_p sto_length n_sto_b sto_b z1.2.1 z1.2.2.1 z1.2.2.2.1 z1.2.2.2.2 dec_keeps (((1 : Int32) <<< (p0 &&& 31)) + z1.1)) := hD
      obtain rfl := Option.some.inj hf
      subst hQ
      subst hAe
      exact W.vret hx hb hr (fun t ht hW => ⟨⟨(), rfl, trivial, by rw [ht]; exact hP, hD⟩, hS.F ht⟩) hS.2.2 d_m744_23
  exact hgo _ _ hP hS
def f_Decoder_takeOther_J44 (N : Nat) (v4_j44 : Int32) (pic_co : Nat → Int32) (rd_at : Int32) (rd_part : Int32) (rd_left : Int32) : Option (Int32 × (Nat → Int32) × Int32 × Int32 × Int32 × Int32) :=
  some (v4_j44, pic_co, rd_at, rd_part, rd_left, (3 : Int32))
def f_Decoder_takeOther_J97 (N : Nat) (v4_j97 : Int32) (pic_co_j97 : Nat → Int32) (rd_at_j97 : Int32) (rd_part_j97 : Int32) (rd_left_j97 : Int32) (rd_fault_j97 : Int32) : Option (Int32 × (Nat → Int32) × Int32 × Int32 × Int32 × Int32) :=
  some (v4_j97 + (1 : Int32), pic_co_j97, rd_at_j97, rd_part_j97, rd_left_j97, rd_fault_j97)
def f_Decoder_takeOther_J32 (N : Nat) (v4_j32 : Int32) (crs_last : Int32) (v5_j32 : Int32) (pic_co : Nat → Int32) (rd_at : Int32) (rd_part : Int32) (rd_left : Int32) (rd_fault : Int32) (sto_length : Int32) (n_sto_b : Nat) (sto_b : Nat → Int32) (p1 : Int32) (crs_bits : Int32) (n_pic_co : Nat) (dec_keeps : Int32) : Option (Int32 × (Nat → Int32) × Int32 × Int32 × Int32 × Int32) :=
  if v4_j32 ≤ crs_last then
    if v5_j32 ≤ 0 then
      f_Decoder_takeOther_J97 N v4_j32 pic_co rd_at rd_part rd_left rd_fault
    else
      (f_Decoder_takeNumber N v5_j32 sto_length n_sto_b sto_b rd_at rd_part rd_left rd_fault).bind fun z1 =>
      if z1.2.2.2.2 = 0 then
        (f_Decoder_keepIfCanBe p1 v4_j32 (z1.1 * ((1 : Int32) <<< (crs_bits &&& 31))) n_pic_co pic_co z1.2.2.2.2 dec_keeps).bind fun z2 =>
        f_Decoder_takeOther_J97 N v4_j32 z2.1 z1.2.1 z1.2.2.1 z1.2.2.2.1 z2.2
      else
        f_Decoder_takeOther_J97 N v4_j32 pic_co z1.2.1 z1.2.2.1 z1.2.2.2.1 z1.2.2.2.2
  else
    f_Decoder_takeOther_J44 N v4_j32 pic_co rd_at rd_part rd_left
def f_Decoder_takeOther (N : Nat) (p0 : Int32) (p1 : Int32) (p2 : Int32) (n_pic_co : Nat) (pic_co : Nat → Int32) (crs_last : Int32) (crs_bits : Int32) (sto_length : Int32) (n_sto_b : Nat) (sto_b : Nat → Int32) (rd_at : Int32) (rd_part : Int32) (rd_left : Int32) (rd_fault : Int32) (dec_keeps : Int32) : Option (Int32 × (Nat → Int32) × Int32 × Int32 × Int32 × Int32) :=
  if (10 : Int32) < (p0 &&& (15 : Int32)) then
    f_Decoder_takeOther_J44 N (p2 + (p0 >>> ((4 : Int32) &&& 31))) pic_co rd_at rd_part rd_left
  else
    if (p0 &&& (15 : Int32)) = 0 then
      if p0 = (240 : Int32) then
        f_Decoder_takeOther_J32 N (p2 + (p0 >>> ((4 : Int32) &&& 31))) crs_last (p0 &&& (15 : Int32)) pic_co rd_at rd_part rd_left rd_fault sto_length n_sto_b sto_b p1 crs_bits n_pic_co dec_keeps
      else
        f_Decoder_takeOther_J44 N (p2 + (p0 >>> ((4 : Int32) &&& 31))) pic_co rd_at rd_part rd_left
    else
      f_Decoder_takeOther_J32 N (p2 + (p0 >>> ((4 : Int32) &&& 31))) crs_last (p0 &&& (15 : Int32)) pic_co rd_at rd_part rd_left rd_fault sto_length n_sto_b sto_b p1 crs_bits n_pic_co dec_keeps
abbrev w_Decoder_takeOther (cI cB cS cT : ClassId) (a_pic : Nat) (a_pic_co : Nat) (a_crs : Nat) (a_sto : Nat) (a_sto_b : Nat) (a_rd : Nat) (a_dec : Nat) (a_pic_h : Nat) (a_pic_v : Nat) (a_pic_ac : Nat) (a_pic_dn : Nat) (a_pic_oa : Nat) (a_pic_od : Nat) (a_pic_st : Nat) (a_crs_ow : Nat) (a_crs_pl : Nat) (a_crs_dt : Nat) (a_crs_ot : Nat) (a_tbs : Nat) (a_dec_p : Nat) (pic_many : Int32) (pic_unitsAcross : Int32) (pic_unitsDown : Int32) (pic_blocks : Int32) (n_pic_co : Nat) (pic_co : Nat → Int32) (crs_kind : Int32) (crs_first : Int32) (crs_last : Int32) (crs_bits : Int32) (crs_interval : Int32) (crs_units : Int32) (crs_blocksOfUnit : Int32) (crs_laid : Int32) (sto_length : Int32) (n_sto_b : Nat) (sto_b : Nat → Int32) (rd_at : Int32) (rd_part : Int32) (rd_left : Int32) (rd_fault : Int32) (dec_keeps : Int32) (dec_run : Int32) : va_W := [(a_pic, .inr (8, [.ref a_pic_h, .ref a_pic_v, .ref a_pic_ac, .ref a_pic_dn, .ref a_pic_oa, .ref a_pic_od, .ref a_pic_st, .int pic_many, .int pic_unitsAcross, .int pic_unitsDown, .int pic_blocks, .ref a_pic_co])), (a_pic_co, .inl (cS, n_pic_co, .inl pic_co)), (a_crs, .inr (4, [.ref a_pic, .ref a_crs_ow, .ref a_crs_pl, .ref a_crs_dt, .ref a_crs_ot, .int crs_kind, .int crs_first, .int crs_last, .int crs_bits, .int crs_interval, .int crs_units, .int crs_blocksOfUnit, .int crs_laid])), (a_sto, .inr (9, [.ref a_sto_b, .int sto_length])), (a_sto_b, .inl (cB, n_sto_b, .inl sto_b)), (a_rd, .inr (1, [.ref a_sto, .int rd_at, .int rd_part, .int rd_left, .int rd_fault])), (a_dec, .inr (5, [.ref a_pic, .ref a_crs, .ref a_tbs, .ref a_rd, .ref a_dec_p, .int dec_keeps, .int dec_run]))]
def rm_Decoder_takeOther : Room := { frames := 3, cells := 0, slots := 0, locals := 67 }
set_option maxHeartbeats 1000000 in
set_option maxRecDepth 100000 in
theorem c_Decoder_takeOther (l : Launch) (dC : Nat → ClassId) (dI : Nat → Nat → Nat) (cI cB cS cT : ClassId) (N : Nat) (a_pic : Nat) (a_pic_co : Nat) (a_crs : Nat) (a_sto : Nat) (a_sto_b : Nat) (a_rd : Nat) (a_dec : Nat) (a_pic_h : Nat) (a_pic_v : Nat) (a_pic_ac : Nat) (a_pic_dn : Nat) (a_pic_oa : Nat) (a_pic_od : Nat) (a_pic_st : Nat) (a_crs_ow : Nat) (a_crs_pl : Nat) (a_crs_dt : Nat) (a_crs_ot : Nat) (a_tbs : Nat) (a_dec_p : Nat) (pic_many : Int32) (pic_unitsAcross : Int32) (pic_unitsDown : Int32) (pic_blocks : Int32) (n_pic_co : Nat) (pic_co : Nat → Int32) (crs_kind : Int32) (crs_first : Int32) (crs_last : Int32) (crs_bits : Int32) (crs_interval : Int32) (crs_units : Int32) (crs_blocksOfUnit : Int32) (crs_laid : Int32) (sto_length : Int32) (n_sto_b : Nat) (sto_b : Nat → Int32) (rd_at : Int32) (rd_part : Int32) (rd_left : Int32) (rd_fault : Int32) (dec_keeps : Int32) (dec_run : Int32) (p0 : Int32) (p1 : Int32) (p2 : Int32) (sz : Nat) (z : Int32 × (Nat → Int32) × Int32 × Int32 × Int32 × Int32) (hf : f_Decoder_takeOther N p0 p1 p2 n_pic_co pic_co crs_last crs_bits sto_length n_sto_b sto_b rd_at rd_part rd_left rd_fault dec_keeps = some z) : Met l y_m757 ws_m757 rm_Decoder_takeOther (gPre (dC, dI) [.ref a_dec, .int p0, .int p1, .int p2] (gT cI cB cS cT) (w_Decoder_takeOther cI cB cS cT a_pic a_pic_co a_crs a_sto a_sto_b a_rd a_dec a_pic_h a_pic_v a_pic_ac a_pic_dn a_pic_oa a_pic_od a_pic_st a_crs_ow a_crs_pl a_crs_dt a_crs_ot a_tbs a_dec_p pic_many pic_unitsAcross pic_unitsDown pic_blocks n_pic_co pic_co crs_kind crs_first crs_last crs_bits crs_interval crs_units crs_blocksOfUnit crs_laid sto_length n_sto_b sto_b rd_at rd_part rd_left rd_fault dec_keeps dec_run) sz) (gQi (dC, dI) (gT cI cB cS cT) z.1 (w_Decoder_takeOther cI cB cS cT a_pic a_pic_co a_crs a_sto a_sto_b a_rd a_dec a_pic_h a_pic_v a_pic_ac a_pic_dn a_pic_oa a_pic_od a_pic_st a_crs_ow a_crs_pl a_crs_dt a_crs_ot a_tbs a_dec_p pic_many pic_unitsAcross pic_unitsDown pic_blocks n_pic_co pic_co crs_kind crs_first crs_last crs_bits crs_interval crs_units crs_blocksOfUnit crs_laid sto_length n_sto_b sto_b rd_at rd_part rd_left rd_fault dec_keeps dec_run) (w_Decoder_takeOther cI cB cS cT a_pic a_pic_co a_crs a_sto a_sto_b a_rd a_dec a_pic_h a_pic_v a_pic_ac a_pic_dn a_pic_oa a_pic_od a_pic_st a_crs_ow a_crs_pl a_crs_dt a_crs_ot a_tbs a_dec_p pic_many pic_unitsAcross pic_unitsDown pic_blocks n_pic_co z.2.1 crs_kind crs_first crs_last crs_bits crs_interval crs_units crs_blocksOfUnit crs_laid sto_length n_sto_b sto_b z.2.2.1 z.2.2.2.1 z.2.2.2.2.1 z.2.2.2.2.2 dec_keeps dec_run) sz) 0 0 (va_A (w_Decoder_takeOther cI cB cS cT a_pic a_pic_co a_crs a_sto a_sto_b a_rd a_dec a_pic_h a_pic_v a_pic_ac a_pic_dn a_pic_oa a_pic_od a_pic_st a_crs_ow a_crs_pl a_crs_dt a_crs_ot a_tbs a_dec_p pic_many pic_unitsAcross pic_unitsDown pic_blocks n_pic_co pic_co crs_kind crs_first crs_last crs_bits crs_interval crs_units crs_blocksOfUnit crs_laid sto_length n_sto_b sto_b rd_at rd_part rd_left rd_fault dec_keeps dec_run) sz) := by
  refine Met.ofW (cc := prog_6_method_14_code) (maxL := 7) (ret := (some .int)) (by decide) rfl ?_
  intro p e s m args below meth c s₁ B hml hv
  obtain ⟨hargs, hsz, hP, hKN, hD0⟩ := hv
  have hK := hKN.1
  have hx := B.exec
  have hb := B.bytes
  have hr := B.returns
  have hts := atoms_spec (ws := ws_m757) B.pre
  have hown : s.vm.findClass "ScanCoder$Decoder" = some m.cls := findClass_of_methodNamed B.named
  have hlocks := B.notSynchronized
  have k0 := hts _ (List.mem_cons_of_mem _ tw_400)
  have k1 := hts _ (List.mem_cons_of_mem _ tw_381)
  have k2 := hts _ (List.mem_cons_of_mem _ tw_398)
  have k3 := hts _ (List.mem_cons_of_mem _ tw_180)
  have k4 := hts _ (List.mem_cons_of_mem _ tw_183)
  have n0 : ∀ w ∈ u_ws "ScanCoder$Decoder" T_5 7, w ∈ ws_m757 := fun w h => List.mem_cons_of_mem _ (in_5 w h)
  have n1 : ∀ w ∈ u_ws "ScanCoder$BitReader" T_1 5, w ∈ ws_m757 := fun w h => List.mem_cons_of_mem _ (in_1 w h)
  have n2 : ∀ w ∈ u_ws "ScanCoder$Course" T_4 13, w ∈ ws_m757 := fun w h => List.mem_cons_of_mem _ (in_4 w h)
  subst hsz
  have hD := hD0.self (sz := s.heap.size)
  obtain ⟨A, hAe⟩ : ∃ A : Nat → Prop, va_A (w_Decoder_takeOther cI cB cS cT a_pic a_pic_co a_crs a_sto a_sto_b a_rd a_dec a_pic_h a_pic_v a_pic_ac a_pic_dn a_pic_oa a_pic_od a_pic_st a_crs_ow a_crs_pl a_crs_dt a_crs_ot a_tbs a_dec_p pic_many pic_unitsAcross pic_unitsDown pic_blocks n_pic_co pic_co crs_kind crs_first crs_last crs_bits crs_interval crs_units crs_blocksOfUnit crs_laid sto_length n_sto_b sto_b rd_at rd_part rd_left rd_fault dec_keeps dec_run) s.heap.size = A := ⟨_, rfl⟩
  rw [hAe] at hD
  have hA : ∀ q : Nat, s.heap.size ≤ q → A q := fun q h => by rw [← hAe]; exact Or.inr h
  have hS : va_S A s.heap s.heap [] := va_S.rf
  have hl := lv_entry ([.ref a_dec, .int p0, .int p1, .int p2]) (n := 7) (Nat.le_of_ble_eq_true rfl)
  have hfr : entryFrame m args 7 = F0 m 0 ((lg_sl ([.ref a_dec, .int p0, .int p1, .int p2]) ++ List.replicate (7 - (lg_sl ([.ref a_dec, .int p0, .int p1, .int p2])).length) Slot.unset).toArray) [] := by rw [hargs]; exact lg_entry_eq _ _ _
  rw [hfr]
  generalize (lg_sl ([.ref a_dec, .int p0, .int p1, .int p2]) ++ List.replicate (7 - (lg_sl ([.ref a_dec, .int p0, .int p1, .int p2])).length) Slot.unset).toArray = ls at hl ⊢
  have hl : lv_has ls 7 [(0, .ref a_dec), (1, .int p0), (2, .int p1), (3, .int p2)] := hl
  refine gen_Q (fun Q hQ => ?_)
  clear hfr
  have J44 : ∀ (v4_j44 : Int32), f_Decoder_takeOther_J44 N v4_j44 pic_co rd_at rd_part rd_left = some z → GW (dC, dI) A p l e (headSpec ws_m757 rm_Decoder_takeOther).room s m args below meth c 0 0 Q 7 44 (w_Decoder_takeOther cI cB cS cT a_pic a_pic_co a_crs a_sto a_sto_b a_rd a_dec a_pic_h a_pic_v a_pic_ac a_pic_dn a_pic_oa a_pic_od a_pic_st a_crs_ow a_crs_pl a_crs_dt a_crs_ot a_tbs a_dec_p pic_many pic_unitsAcross pic_unitsDown pic_blocks n_pic_co pic_co crs_kind crs_first crs_last crs_bits crs_interval crs_units crs_blocksOfUnit crs_laid sto_length n_sto_b sto_b rd_at rd_part rd_left rd_fault dec_keeps dec_run) [(0, .ref a_dec), (4, .int v4_j44)] [] := by
    intro v4_j44 hf H locs ls hP hD hS hl
    unfold f_Decoder_takeOther_J44 at hf
    refine lv_aload_n hx hb d_m757_44 rfl (lv_at hl 0 rfl) ?_
    refine va_get (D := (dC, dI)) (ci := 5) (v := .ref a_rd) (C := "ScanCoder$Decoder") (T := T_5) (N := 7) hx hb hts n0 hown hK hP 6 rfl rfl 3 (by decide) k0 (fun _ h9 => h9) rfl d_m757_45 ?_
    refine lv_iconst (v := (3 : Int32)) hx hb d_m757_48 (by decide) ?_
    refine va_put (D := (dC, dI)) (ci := 1) (v := .int (3 : Int32)) (ty := .int) (C := "ScanCoder$BitReader") (T := T_1) (N := 5) hx hb hts n1 ty_1 tyok_1 nm_1 hown hK hP hD hS 5 rfl rfl 4 (by decide) k1 (fun _ h9 => h9) rfl (by decide +kernel) rfl rfl (Nat.le_of_ble_eq_true rfl) d_m757_49 (fun H locs hP hD hS => ?_)
    have hP : va_P (dC, dI) vwCl (w_Decoder_takeOther cI cB cS cT a_pic a_pic_co a_crs a_sto a_sto_b a_rd a_dec a_pic_h a_pic_v a_pic_ac a_pic_dn a_pic_oa a_pic_od a_pic_st a_crs_ow a_crs_pl a_crs_dt a_crs_ot a_tbs a_dec_p pic_many pic_unitsAcross pic_unitsDown pic_blocks n_pic_co pic_co crs_kind crs_first crs_last crs_bits crs_interval crs_units crs_blocksOfUnit crs_laid sto_length n_sto_b sto_b rd_at rd_part rd_left (3 : Int32) dec_keeps dec_run) H := hP
    have hD : va_D A (w_Decoder_takeOther cI cB cS cT a_pic a_pic_co a_crs a_sto a_sto_b a_rd a_dec a_pic_h a_pic_v a_pic_ac a_pic_dn a_pic_oa a_pic_od a_pic_st a_crs_ow a_crs_pl a_crs_dt a_crs_ot a_tbs a_dec_p pic_many pic_unitsAcross pic_unitsDown pic_blocks n_pic_co pic_co crs_kind crs_first crs_last crs_bits crs_interval crs_units crs_blocksOfUnit crs_laid sto_length n_sto_b sto_b rd_at rd_part rd_left (3 : Int32) dec_keeps dec_run) := hD
    refine lv_iload hx hb d_m757_52 (lv_at hl 1 rfl) ?_
    obtain rfl := Option.some.inj hf
    subst hQ
    subst hAe
    exact W.iret (v := v4_j44) hx hb hr (fun t ht hW => ⟨⟨v4_j44, (), rfl, rfl, by rw [ht]; exact hP, hD⟩, hS.F ht⟩) hS.2.2 d_m757_54
  have J97 : ∀ (v4_j97 : Int32) (pic_co_j97 : Nat → Int32) (rd_at_j97 : Int32) (rd_part_j97 : Int32) (rd_left_j97 : Int32) (rd_fault_j97 : Int32), f_Decoder_takeOther_J97 N v4_j97 pic_co_j97 rd_at_j97 rd_part_j97 rd_left_j97 rd_fault_j97 = some z → GW (dC, dI) A p l e (headSpec ws_m757 rm_Decoder_takeOther).room s m args below meth c 0 0 Q 7 97 (w_Decoder_takeOther cI cB cS cT a_pic a_pic_co a_crs a_sto a_sto_b a_rd a_dec a_pic_h a_pic_v a_pic_ac a_pic_dn a_pic_oa a_pic_od a_pic_st a_crs_ow a_crs_pl a_crs_dt a_crs_ot a_tbs a_dec_p pic_many pic_unitsAcross pic_unitsDown pic_blocks n_pic_co pic_co_j97 crs_kind crs_first crs_last crs_bits crs_interval crs_units crs_blocksOfUnit crs_laid sto_length n_sto_b sto_b rd_at_j97 rd_part_j97 rd_left_j97 rd_fault_j97 dec_keeps dec_run) [(4, .int v4_j97)] [] := by
    intro v4_j97 pic_co_j97 rd_at_j97 rd_part_j97 rd_left_j97 rd_fault_j97 hf H locs ls hP hD hS hl
    unfold f_Decoder_takeOther_J97 at hf
    refine lv_iload hx hb d_m757_97 (lv_at hl 0 rfl) ?_
    refine lv_iconst (v := (1 : Int32)) hx hb d_m757_99 (by decide) ?_
    refine lv_iadd hx hb d_m757_100 ?_
    obtain rfl := Option.some.inj hf
    subst hQ
    subst hAe
    exact W.iret (v := v4_j97 + (1 : Int32)) hx hb hr (fun t ht hW => ⟨⟨v4_j97 + (1 : Int32), (), rfl, rfl, by rw [ht]; exact hP, hD⟩, hS.F ht⟩) hS.2.2 d_m757_101
  have J32 : ∀ (v4_j32 : Int32) (v5_j32 : Int32), f_Decoder_takeOther_J32 N v4_j32 crs_last v5_j32 pic_co rd_at rd_part rd_left rd_fault sto_length n_sto_b sto_b p1 crs_bits n_pic_co dec_keeps = some z → GW (dC, dI) A p l e (headSpec ws_m757 rm_Decoder_takeOther).room s m args below meth c 0 0 Q 7 32 (w_Decoder_takeOther cI cB cS cT a_pic a_pic_co a_crs a_sto a_sto_b a_rd a_dec a_pic_h a_pic_v a_pic_ac a_pic_dn a_pic_oa a_pic_od a_pic_st a_crs_ow a_crs_pl a_crs_dt a_crs_ot a_tbs a_dec_p pic_many pic_unitsAcross pic_unitsDown pic_blocks n_pic_co pic_co crs_kind crs_first crs_last crs_bits crs_interval crs_units crs_blocksOfUnit crs_laid sto_length n_sto_b sto_b rd_at rd_part rd_left rd_fault dec_keeps dec_run) [(0, .ref a_dec), (2, .int p1), (4, .int v4_j32), (5, .int v5_j32)] [] := by
    intro v4_j32 v5_j32 hf H locs ls hP hD hS hl
    unfold f_Decoder_takeOther_J32 at hf
    refine lv_iload hx hb d_m757_32 (lv_at hl 2 rfl) ?_
    refine lv_aload_n hx hb d_m757_34 rfl (lv_at hl 0 rfl) ?_
    refine va_get (D := (dC, dI)) (ci := 5) (v := .ref a_crs) (C := "ScanCoder$Decoder") (T := T_5) (N := 7) hx hb hts n0 hown hK hP 6 rfl rfl 1 (by decide) k2 (fun _ h9 => h9) rfl d_m757_35 ?_
    refine va_get (D := (dC, dI)) (ci := 4) (v := .int crs_last) (C := "ScanCoder$Course") (T := T_4) (N := 13) hx hb hts n2 hown hK hP 2 rfl rfl 7 (by decide) k3 (fun _ h9 => h9) rfl d_m757_38 ?_
    refine lv_icmp_le (tgt := 55) hx hb d_m757_41 (by decide) (fun hc => ?_) (fun hc => ?_)
    · replace hf := (if_pos hc).symm.trans hf
      refine lv_iload hx hb d_m757_55 (lv_at hl 3 rfl) ?_
      refine lv_if_le (tgt := 97) hx hb d_m757_57 (by decide) (fun hc => ?_) (fun hc => ?_)
      · replace hf := (if_pos hc).symm.trans hf
        exact J97 v4_j32 pic_co rd_at rd_part rd_left rd_fault hf H locs ls hP hD hS (lv_sub hl [2] rfl)
      · replace hf := (if_neg hc).symm.trans hf
        refine lv_aload_n hx hb d_m757_60 rfl (lv_at hl 0 rfl) ?_
        refine lv_iload hx hb d_m757_61 (lv_at hl 3 rfl) ?_
        obtain ⟨z1, hz1, hf⟩ := ob_bind hf
        refine g_calli (wc := (w_Decoder_takeNumber cI cB cS cT a_sto a_sto_b a_rd a_dec a_pic a_crs a_tbs a_dec_p sto_length n_sto_b sto_b rd_at rd_part rd_left rd_fault dec_keeps dec_run)) (w1 := (w_Decoder_takeNumber cI cB cS cT a_sto a_sto_b a_rd a_dec a_pic a_crs a_tbs a_dec_p sto_length n_sto_b sto_b z1.2.1 z1.2.2.1 z1.2.2.2.1 z1.2.2.2.2 dec_keeps dec_run)) (w2 := (w_Decoder_takeOther cI cB cS cT a_pic a_pic_co a_crs a_sto a_sto_b a_rd a_dec a_pic_h a_pic_v a_pic_ac a_pic_dn a_pic_oa a_pic_od a_pic_st a_crs_ow a_crs_pl a_crs_dt a_crs_ot a_tbs a_dec_p pic_many pic_unitsAcross pic_unitsDown pic_blocks n_pic_co pic_co crs_kind crs_first crs_last crs_bits crs_interval crs_units crs_blocksOfUnit crs_laid sto_length n_sto_b sto_b z1.2.1 z1.2.2.1 z1.2.2.2.1 z1.2.2.2.2 dec_keeps dec_run)) [3, 4, 5, 6] [none, none, none, some 0, some 1, some 2, some 3] hP hD hS hA rfl rfl rfl rfl (va_runV (As := [.int v5_j32]) (rest := []) ⟨hx, hb, hml, hown, hts⟩ (c_Decoder_takeNumber l dC dI cI cB cS cT N a_sto a_sto_b a_rd a_dec a_pic a_crs a_tbs a_dec_p sto_length n_sto_b sto_b rd_at rd_part rd_left rd_fault dec_keeps dec_run v5_j32 H.size z1 hz1) ⟨(callB_of 1 hts (gi tw_718 rfl) rfl rfl rfl (hts _ (List.mem_cons_of_mem _ tw_14)) (hts _ (List.mem_cons_of_mem _ tw_715)) (by decide +kernel) ⟨Nat.le_of_ble_eq_true rfl, Nat.le_of_ble_eq_true rfl⟩), hts _ (List.mem_cons_of_mem _ tw_717), hts _ (List.mem_cons_of_mem _ ts_m718)⟩ ⟨g_blind, va_recv hK hP (ci := 5) (q0 := 6) rfl rfl, g_at hKN (g_pm hP [3, 4, 5, 6] rfl) (hD.sub [3, 4, 5, 6] (by decide) rfl)⟩ rfl rfl hl.1 rfl (lv_room (Nat.le_of_ble_eq_true rfl)) d_m757_63 ⟨Nat.zero_le _, Nat.zero_le _⟩) (fun H locs hP hD hS => ?_)
        refine W.eq (g2 := F0 m 66 ls [.int z1.1]) rfl ?_
        refine lv_istore (lv' := [(6, .int z1.1), (0, .ref a_dec), (2, .int p1), (4, .int v4_j32), (5, .int v5_j32)]) hx hb d_m757_66 hl (by decide) rfl (fun ls hl => ?_)
        refine lv_aload_n hx hb d_m757_68 rfl (lv_at hl 1 rfl) ?_
        refine va_get (D := (dC, dI)) (ci := 5) (v := .ref a_rd) (C := "ScanCoder$Decoder") (T := T_5) (N := 7) hx hb hts n0 hown hK hP 6 rfl rfl 3 (by decide) k0 (fun _ h9 => h9) rfl d_m757_69 ?_
        refine va_get (D := (dC, dI)) (ci := 1) (v := .int z1.2.2.2.2) (C := "ScanCoder$BitReader") (T := T_1) (N := 5) hx hb hts n1 hown hK hP 5 rfl rfl 4 (by decide) k1 (fun _ h9 => h9) rfl d_m757_72 ?_
        refine lv_if_ne (tgt := 97) hx hb d_m757_75 (by decide) (fun hc => ?_) (fun hc => ?_)
        · replace hf := (if_neg hc).symm.trans hf
          exact J97 v4_j32 pic_co z1.2.1 z1.2.2.1 z1.2.2.2.1 z1.2.2.2.2 hf H locs ls hP hD hS (lv_sub hl [3] rfl)
        · replace hf := (if_pos hc).symm.trans hf
          refine lv_aload_n hx hb d_m757_78 rfl (lv_at hl 1 rfl) ?_
          refine lv_iload_n hx hb d_m757_79 rfl (lv_at hl 2 rfl) ?_
          refine lv_iload hx hb d_m757_80 (lv_at hl 3 rfl) ?_
          refine lv_iload hx hb d_m757_82 (lv_at hl 0 rfl) ?_
          refine lv_iconst (v := (1 : Int32)) hx hb d_m757_84 (by decide) ?_
          refine lv_aload_n hx hb d_m757_85 rfl (lv_at hl 1 rfl) ?_
          refine va_get (D := (dC, dI)) (ci := 5) (v := .ref a_crs) (C := "ScanCoder$Decoder") (T := T_5) (N := 7) hx hb hts n0 hown hK hP 6 rfl rfl 1 (by decide) k2 (fun _ h9 => h9) rfl d_m757_86 ?_
          refine va_get (D := (dC, dI)) (ci := 4) (v := .int crs_bits) (C := "ScanCoder$Course") (T := T_4) (N := 13) hx hb hts n2 hown hK hP 2 rfl rfl 8 (by decide) k4 (fun _ h9 => h9) rfl d_m757_89 ?_
          refine lv_ishl hx hb d_m757_92 ?_
          refine lv_imul hx hb d_m757_93 ?_
          obtain ⟨z2, hz2, hf⟩ := ob_bind hf
          refine g_callv (wc := (w_Decoder_keepIfCanBe cI cB cS cT a_pic a_pic_co a_rd a_dec a_pic_h a_pic_v a_pic_ac a_pic_dn a_pic_oa a_pic_od a_pic_st a_sto a_crs a_tbs a_dec_p pic_many pic_unitsAcross pic_unitsDown pic_blocks n_pic_co pic_co z1.2.1 z1.2.2.1 z1.2.2.2.1 z1.2.2.2.2 dec_keeps dec_run)) (w1 := (w_Decoder_keepIfCanBe cI cB cS cT a_pic a_pic_co a_rd a_dec a_pic_h a_pic_v a_pic_ac a_pic_dn a_pic_oa a_pic_od a_pic_st a_sto a_crs a_tbs a_dec_p pic_many pic_unitsAcross pic_unitsDown pic_blocks n_pic_co z2.1 z1.2.1 z1.2.2.1 z1.2.2.2.1 z2.2 dec_keeps dec_run)) (w2 := (w_Decoder_takeOther cI cB cS cT a_pic a_pic_co a_crs a_sto a_sto_b a_rd a_dec a_pic_h a_pic_v a_pic_ac a_pic_dn a_pic_oa a_pic_od a_pic_st a_crs_ow a_crs_pl a_crs_dt a_crs_ot a_tbs a_dec_p pic_many pic_unitsAcross pic_unitsDown pic_blocks n_pic_co z2.1 crs_kind crs_first crs_last crs_bits crs_interval crs_units crs_blocksOfUnit crs_laid sto_length n_sto_b sto_b z1.2.1 z1.2.2.1 z1.2.2.2.1 z2.2 dec_keeps dec_run)) [0, 1, 5, 6] [some 0, some 1, none, none, none, some 2, some 3] hP hD hS hA rfl rfl rfl rfl (va_runV (As := [.int p1, .int v4_j32, .int (z1.1 * ((1 : Int32) <<< (crs_bits &&& 31)))]) (rest := []) ⟨hx, hb, hml, hown, hts⟩ (c_Decoder_keepIfCanBe l dC dI cI cB cS cT a_pic a_pic_co a_rd a_dec a_pic_h a_pic_v a_pic_ac a_pic_dn a_pic_oa a_pic_od a_pic_st a_sto a_crs a_tbs a_dec_p pic_many pic_unitsAcross pic_unitsDown pic_blocks n_pic_co pic_co z1.2.1 z1.2.2.1 z1.2.2.2.1 z1.2.2.2.2 dec_keeps dec_run p1 v4_j32 (z1.1 * ((1 : Int32) <<< (crs_bits &&& 31))) H.size z2 hz2) ⟨(callB_of 3 hts (gi tw_723 rfl) rfl rfl rfl (hts _ (List.mem_cons_of_mem _ tw_14)) (hts _ (List.mem_cons_of_mem _ tw_720)) (by decide +kernel) ⟨Nat.le_of_ble_eq_true rfl, Nat.le_of_ble_eq_true rfl⟩), hts _ (List.mem_cons_of_mem _ tw_722), hts _ (List.mem_cons_of_mem _ ts_m723)⟩ ⟨g_blind, va_recv hK hP (ci := 5) (q0 := 6) rfl rfl, g_at hKN (g_pm hP [0, 1, 5, 6] rfl) (hD.sub [0, 1, 5, 6] (by decide) rfl)⟩ rfl rfl hl.1 rfl (lv_room (Nat.le_of_ble_eq_true rfl)) d_m757_94 ⟨Nat.zero_le _, Nat.zero_le _⟩) (fun H locs hP hD hS => ?_)
          refine W.eq (g2 := F0 m 97 ls []) rfl ?_
          exact J97 v4_j32 z2.1 z1.2.1 z1.2.2.1 z1.2.2.2.1 z2.2 hf H locs ls hP hD hS (lv_sub hl [3] rfl)
    · replace hf := (if_neg hc).symm.trans hf
      exact J44 v4_j32 hf H locs ls hP hD hS (lv_sub hl [0, 2] rfl)
  have hgo : ∀ (H : Heap) (locs : List Loc), va_P (dC, dI) vwCl (w_Decoder_takeOther cI cB cS cT a_pic a_pic_co a_crs a_sto a_sto_b a_rd a_dec a_pic_h a_pic_v a_pic_ac a_pic_dn a_pic_oa a_pic_od a_pic_st a_crs_ow a_crs_pl a_crs_dt a_crs_ot a_tbs a_dec_p pic_many pic_unitsAcross pic_unitsDown pic_blocks n_pic_co pic_co crs_kind crs_first crs_last crs_bits crs_interval crs_units crs_blocksOfUnit crs_laid sto_length n_sto_b sto_b rd_at rd_part rd_left rd_fault dec_keeps dec_run) H → va_S A s.heap H locs → W p l e (headSpec ws_m757 rm_Decoder_takeOther).room s m args below meth c H locs 0 0 Q (F0 m 0 ls []) := by
    intro H locs hP hS
    unfold f_Decoder_takeOther at hf
    refine lv_iload_n hx hb d_m757_0 rfl (lv_at hl 3 rfl) ?_
    refine lv_iload_n hx hb d_m757_1 rfl (lv_at hl 1 rfl) ?_
    refine lv_iconst (v := (4 : Int32)) hx hb d_m757_2 (by decide) ?_
    refine lv_ishr hx hb d_m757_3 ?_
    refine lv_iadd hx hb d_m757_4 ?_
    refine lv_istore (lv' := [(4, .int (p2 + (p0 >>> ((4 : Int32) &&& 31)))), (0, .ref a_dec), (1, .int p0), (2, .int p1), (3, .int p2)]) hx hb d_m757_5 hl (by decide) rfl (fun ls hl => ?_)
    refine lv_iload_n hx hb d_m757_7 rfl (lv_at hl 2 rfl) ?_
    refine lv_bipush (v := (15 : Int32)) hx hb d_m757_8 (by decide) ?_
    refine lv_iand hx hb d_m757_10 ?_
    refine lv_istore (lv' := [(5, .int (p0 &&& (15 : Int32))), (4, .int (p2 + (p0 >>> ((4 : Int32) &&& 31)))), (0, .ref a_dec), (1, .int p0), (2, .int p1), (3, .int p2)]) hx hb d_m757_11 hl (by decide) rfl (fun ls hl => ?_)
    refine lv_iload hx hb d_m757_13 (lv_at hl 0 rfl) ?_
    refine lv_bipush (v := (10 : Int32)) hx hb d_m757_15 (by decide) ?_
    refine lv_icmp_gt (tgt := 44) hx hb d_m757_17 (by decide) (fun hc => ?_) (fun hc => ?_)
    · replace hf := (if_pos hc).symm.trans hf
      exact J44 (p2 + (p0 >>> ((4 : Int32) &&& 31))) hf H locs ls hP hD hS (lv_sub hl [2, 1] rfl)
    · replace hf := (if_neg hc).symm.trans hf
      refine lv_iload hx hb d_m757_20 (lv_at hl 0 rfl) ?_
      refine lv_if_ne (tgt := 32) hx hb d_m757_22 (by decide) (fun hc => ?_) (fun hc => ?_)
      · replace hf := (if_neg hc).symm.trans hf
        exact J32 (p2 + (p0 >>> ((4 : Int32) &&& 31))) (p0 &&& (15 : Int32)) hf H locs ls hP hD hS (lv_sub hl [2, 4, 1, 0] rfl)
      · replace hf := (if_pos hc).symm.trans hf
        refine lv_iload_n hx hb d_m757_25 rfl (lv_at hl 3 rfl) ?_
        refine lv_sipush (v := (240 : Int32)) hx hb d_m757_26 (by decide) ?_
        refine lv_icmp_ne (tgt := 44) hx hb d_m757_29 (by decide) (fun hc => ?_) (fun hc => ?_)
        · replace hf := (if_neg hc).symm.trans hf
          exact J44 (p2 + (p0 >>> ((4 : Int32) &&& 31))) hf H locs ls hP hD hS (lv_sub hl [2, 1] rfl)
        · replace hf := (if_pos hc).symm.trans hf
          exact J32 (p2 + (p0 >>> ((4 : Int32) &&& 31))) (p0 &&& (15 : Int32)) hf H locs ls hP hD hS (lv_sub hl [2, 4, 1, 0] rfl)
  exact hgo _ _ hP hS
def f_Decoder_refineOther_J62 (N : Nat) (s1_j62 : Int32) (s2_j62 : Int32) (n_pic_co : Nat) (pic_co : Nat → Int32) (dec_keeps : Int32) (rd_at_j62 : Int32) (rd_part_j62 : Int32) (rd_left_j62 : Int32) (rd_fault_j62 : Int32) : Option ((Nat → Int32) × Int32 × Int32 × Int32 × Int32) :=
  (f_Decoder_keep s1_j62 s2_j62 n_pic_co pic_co dec_keeps).bind fun z2 =>
  some (z2, rd_at_j62, rd_part_j62, rd_left_j62, rd_fault_j62)
def f_Decoder_refineOther (N : Nat) (p0 : Int32) (n_pic_co : Nat) (pic_co : Nat → Int32) (crs_bits : Int32) (sto_length : Int32) (n_sto_b : Nat) (sto_b : Nat → Int32) (rd_at : Int32) (rd_part : Int32) (rd_left : Int32) (rd_fault : Int32) (dec_keeps : Int32) : Option ((Nat → Int32) × Int32 × Int32 × Int32 × Int32) :=
  (f_BitReader_takeBits N (1 : Int32) sto_length n_sto_b sto_b rd_at rd_part rd_left rd_fault).bind fun z1 =>
  if p0 < 0 ∨ n_pic_co ≤ p0.toNatClampNeg then none else
  if z1.1 = (1 : Int32) then
    if ((if 0 ≤ (pic_co p0.toNatClampNeg) then (pic_co p0.toNatClampNeg) else 0 - (pic_co p0.toNatClampNeg)) &&& ((1 : Int32) <<< (crs_bits &&& 31))) = 0 then
      if (pic_co p0.toNatClampNeg) ≤ 0 then
        f_Decoder_refineOther_J62 N p0 ((pic_co p0.toNatClampNeg) - ((1 : Int32) <<< (crs_bits &&& 31))) n_pic_co pic_co dec_keeps z1.2.1 z1.2.2.1 z1.2.2.2.1 z1.2.2.2.2
      else
        f_Decoder_refineOther_J62 N p0 ((pic_co p0.toNatClampNeg) + ((1 : Int32) <<< (crs_bits &&& 31))) n_pic_co pic_co dec_keeps z1.2.1 z1.2.2.1 z1.2.2.2.1 z1.2.2.2.2
    else
      some (pic_co, z1.2.1, z1.2.2.1, z1.2.2.2.1, z1.2.2.2.2)
  else
    some (pic_co, z1.2.1, z1.2.2.1, z1.2.2.2.1, z1.2.2.2.2)
abbrev w_Decoder_refineOther (cI cB cS cT : ClassId) (a_pic : Nat) (a_pic_co : Nat) (a_crs : Nat) (a_sto : Nat) (a_sto_b : Nat) (a_rd : Nat) (a_dec : Nat) (a_pic_h : Nat) (a_pic_v : Nat) (a_pic_ac : Nat) (a_pic_dn : Nat) (a_pic_oa : Nat) (a_pic_od : Nat) (a_pic_st : Nat) (a_crs_ow : Nat) (a_crs_pl : Nat) (a_crs_dt : Nat) (a_crs_ot : Nat) (a_tbs : Nat) (a_dec_p : Nat) (pic_many : Int32) (pic_unitsAcross : Int32) (pic_unitsDown : Int32) (pic_blocks : Int32) (n_pic_co : Nat) (pic_co : Nat → Int32) (crs_kind : Int32) (crs_first : Int32) (crs_last : Int32) (crs_bits : Int32) (crs_interval : Int32) (crs_units : Int32) (crs_blocksOfUnit : Int32) (crs_laid : Int32) (sto_length : Int32) (n_sto_b : Nat) (sto_b : Nat → Int32) (rd_at : Int32) (rd_part : Int32) (rd_left : Int32) (rd_fault : Int32) (dec_keeps : Int32) (dec_run : Int32) : va_W := [(a_pic, .inr (8, [.ref a_pic_h, .ref a_pic_v, .ref a_pic_ac, .ref a_pic_dn, .ref a_pic_oa, .ref a_pic_od, .ref a_pic_st, .int pic_many, .int pic_unitsAcross, .int pic_unitsDown, .int pic_blocks, .ref a_pic_co])), (a_pic_co, .inl (cS, n_pic_co, .inl pic_co)), (a_crs, .inr (4, [.ref a_pic, .ref a_crs_ow, .ref a_crs_pl, .ref a_crs_dt, .ref a_crs_ot, .int crs_kind, .int crs_first, .int crs_last, .int crs_bits, .int crs_interval, .int crs_units, .int crs_blocksOfUnit, .int crs_laid])), (a_sto, .inr (9, [.ref a_sto_b, .int sto_length])), (a_sto_b, .inl (cB, n_sto_b, .inl sto_b)), (a_rd, .inr (1, [.ref a_sto, .int rd_at, .int rd_part, .int rd_left, .int rd_fault])), (a_dec, .inr (5, [.ref a_pic, .ref a_crs, .ref a_tbs, .ref a_rd, .ref a_dec_p, .int dec_keeps, .int dec_run]))]
def rm_Decoder_refineOther : Room := { frames := 2, cells := 0, slots := 0, locals := 44 }
set_option maxHeartbeats 1000000 in
set_option maxRecDepth 100000 in
theorem c_Decoder_refineOther (l : Launch) (dC : Nat → ClassId) (dI : Nat → Nat → Nat) (cI cB cS cT : ClassId) (N : Nat) (a_pic : Nat) (a_pic_co : Nat) (a_crs : Nat) (a_sto : Nat) (a_sto_b : Nat) (a_rd : Nat) (a_dec : Nat) (a_pic_h : Nat) (a_pic_v : Nat) (a_pic_ac : Nat) (a_pic_dn : Nat) (a_pic_oa : Nat) (a_pic_od : Nat) (a_pic_st : Nat) (a_crs_ow : Nat) (a_crs_pl : Nat) (a_crs_dt : Nat) (a_crs_ot : Nat) (a_tbs : Nat) (a_dec_p : Nat) (pic_many : Int32) (pic_unitsAcross : Int32) (pic_unitsDown : Int32) (pic_blocks : Int32) (n_pic_co : Nat) (pic_co : Nat → Int32) (crs_kind : Int32) (crs_first : Int32) (crs_last : Int32) (crs_bits : Int32) (crs_interval : Int32) (crs_units : Int32) (crs_blocksOfUnit : Int32) (crs_laid : Int32) (sto_length : Int32) (n_sto_b : Nat) (sto_b : Nat → Int32) (rd_at : Int32) (rd_part : Int32) (rd_left : Int32) (rd_fault : Int32) (dec_keeps : Int32) (dec_run : Int32) (p0 : Int32) (sz : Nat) (z : (Nat → Int32) × Int32 × Int32 × Int32 × Int32) (hf : f_Decoder_refineOther N p0 n_pic_co pic_co crs_bits sto_length n_sto_b sto_b rd_at rd_part rd_left rd_fault dec_keeps = some z) : Met l y_m752 ws_m752 rm_Decoder_refineOther (gPre (dC, dI) [.ref a_dec, .int p0] (gT cI cB cS cT) (w_Decoder_refineOther cI cB cS cT a_pic a_pic_co a_crs a_sto a_sto_b a_rd a_dec a_pic_h a_pic_v a_pic_ac a_pic_dn a_pic_oa a_pic_od a_pic_st a_crs_ow a_crs_pl a_crs_dt a_crs_ot a_tbs a_dec_p pic_many pic_unitsAcross pic_unitsDown pic_blocks n_pic_co pic_co crs_kind crs_first crs_last crs_bits crs_interval crs_units crs_blocksOfUnit crs_laid sto_length n_sto_b sto_b rd_at rd_part rd_left rd_fault dec_keeps dec_run) sz) (gQv (dC, dI) (gT cI cB cS cT) (w_Decoder_refineOther cI cB cS cT a_pic a_pic_co a_crs a_sto a_sto_b a_rd a_dec a_pic_h a_pic_v a_pic_ac a_pic_dn a_pic_oa a_pic_od a_pic_st a_crs_ow a_crs_pl a_crs_dt a_crs_ot a_tbs a_dec_p pic_many pic_unitsAcross pic_unitsDown pic_blocks n_pic_co pic_co crs_kind crs_first crs_last crs_bits crs_interval crs_units crs_blocksOfUnit crs_laid sto_length n_sto_b sto_b rd_at rd_part rd_left rd_fault dec_keeps dec_run) (w_Decoder_refineOther cI cB cS cT a_pic a_pic_co a_crs a_sto a_sto_b a_rd a_dec a_pic_h a_pic_v a_pic_ac a_pic_dn a_pic_oa a_pic_od a_pic_st a_crs_ow a_crs_pl a_crs_dt a_crs_ot a_tbs a_dec_p pic_many pic_unitsAcross pic_unitsDown pic_blocks n_pic_co z.1 crs_kind crs_first crs_last crs_bits crs_interval crs_units crs_blocksOfUnit crs_laid sto_length n_sto_b sto_b z.2.1 z.2.2.1 z.2.2.2.1 z.2.2.2.2 dec_keeps dec_run) sz) 0 0 (va_A (w_Decoder_refineOther cI cB cS cT a_pic a_pic_co a_crs a_sto a_sto_b a_rd a_dec a_pic_h a_pic_v a_pic_ac a_pic_dn a_pic_oa a_pic_od a_pic_st a_crs_ow a_crs_pl a_crs_dt a_crs_ot a_tbs a_dec_p pic_many pic_unitsAcross pic_unitsDown pic_blocks n_pic_co pic_co crs_kind crs_first crs_last crs_bits crs_interval crs_units crs_blocksOfUnit crs_laid sto_length n_sto_b sto_b rd_at rd_part rd_left rd_fault dec_keeps dec_run) sz) := by
  refine Met.ofW (cc := prog_6_method_17_code) (maxL := 5) (ret := none) (by decide) rfl ?_
  intro p e s m args below meth c s₁ B hml hv
  obtain ⟨hargs, hsz, hP, hKN, hD0⟩ := hv
  have hK := hKN.1
  have hx := B.exec
  have hb := B.bytes
  have hr := B.returns
  have hts := atoms_spec (ws := ws_m752) B.pre
  have hown : s.vm.findClass "ScanCoder$Decoder" = some m.cls := findClass_of_methodNamed B.named
  have hlocks := B.notSynchronized
  have k0 := hts _ (List.mem_cons_of_mem _ tw_400)
  have k1 := hts _ (List.mem_cons_of_mem _ tw_397)
  have k2 := hts _ (List.mem_cons_of_mem _ tw_81)
  have k3 := hts _ (List.mem_cons_of_mem _ tw_398)
  have k4 := hts _ (List.mem_cons_of_mem _ tw_183)
  have k5 := hts _ (List.mem_cons_of_mem _ tw_753)
  have k6 := hts _ (List.mem_cons_of_mem _ tw_567)
  have k7 := hts _ (List.mem_cons_of_mem _ tw_3)
  have k8 := hts _ (List.mem_cons_of_mem _ tw_568)
  have n0 : ∀ w ∈ u_ws "ScanCoder$Decoder" T_5 7, w ∈ ws_m752 := fun w h => List.mem_cons_of_mem _ (in_5 w h)
  have n1 : ∀ w ∈ u_ws "ScanCoder$Picture" T_8 12, w ∈ ws_m752 := fun w h => List.mem_cons_of_mem _ (in_8 w h)
  have n2 : ∀ w ∈ u_ws "ScanCoder$Course" T_4 13, w ∈ ws_m752 := fun w h => List.mem_cons_of_mem _ (in_4 w h)
  subst hsz
  have hD := hD0.self (sz := s.heap.size)
  obtain ⟨A, hAe⟩ : ∃ A : Nat → Prop, va_A (w_Decoder_refineOther cI cB cS cT a_pic a_pic_co a_crs a_sto a_sto_b a_rd a_dec a_pic_h a_pic_v a_pic_ac a_pic_dn a_pic_oa a_pic_od a_pic_st a_crs_ow a_crs_pl a_crs_dt a_crs_ot a_tbs a_dec_p pic_many pic_unitsAcross pic_unitsDown pic_blocks n_pic_co pic_co crs_kind crs_first crs_last crs_bits crs_interval crs_units crs_blocksOfUnit crs_laid sto_length n_sto_b sto_b rd_at rd_part rd_left rd_fault dec_keeps dec_run) s.heap.size = A := ⟨_, rfl⟩
  rw [hAe] at hD
  have hA : ∀ q : Nat, s.heap.size ≤ q → A q := fun q h => by rw [← hAe]; exact Or.inr h
  have hS : va_S A s.heap s.heap [] := va_S.rf
  have hl := lv_entry ([.ref a_dec, .int p0]) (n := 5) (Nat.le_of_ble_eq_true rfl)
  have hfr : entryFrame m args 5 = F0 m 0 ((lg_sl ([.ref a_dec, .int p0]) ++ List.replicate (5 - (lg_sl ([.ref a_dec, .int p0])).length) Slot.unset).toArray) [] := by rw [hargs]; exact lg_entry_eq _ _ _
  rw [hfr]
  generalize (lg_sl ([.ref a_dec, .int p0]) ++ List.replicate (5 - (lg_sl ([.ref a_dec, .int p0])).length) Slot.unset).toArray = ls at hl ⊢
  have hl : lv_has ls 5 [(0, .ref a_dec), (1, .int p0)] := hl
  refine gen_Q (fun Q hQ => ?_)
  clear hfr
  have J62 : ∀ (rd_at_j62 : Int32) (rd_part_j62 : Int32) (rd_left_j62 : Int32) (rd_fault_j62 : Int32) (s1_j62 : Int32) (s2_j62 : Int32), f_Decoder_refineOther_J62 N s1_j62 s2_j62 n_pic_co pic_co dec_keeps rd_at_j62 rd_part_j62 rd_left_j62 rd_fault_j62 = some z → GW (dC, dI) A p l e (headSpec ws_m752 rm_Decoder_refineOther).room s m args below meth c 0 0 Q 5 62 (w_Decoder_refineOther cI cB cS cT a_pic a_pic_co a_crs a_sto a_sto_b a_rd a_dec a_pic_h a_pic_v a_pic_ac a_pic_dn a_pic_oa a_pic_od a_pic_st a_crs_ow a_crs_pl a_crs_dt a_crs_ot a_tbs a_dec_p pic_many pic_unitsAcross pic_unitsDown pic_blocks n_pic_co pic_co crs_kind crs_first crs_last crs_bits crs_interval crs_units crs_blocksOfUnit crs_laid sto_length n_sto_b sto_b rd_at_j62 rd_part_j62 rd_left_j62 rd_fault_j62 dec_keeps dec_run) [] [.int s2_j62, .int s1_j62, .ref a_dec] := by
    intro rd_at_j62 rd_part_j62 rd_left_j62 rd_fault_j62 s1_j62 s2_j62 hf H locs ls hP hD hS hl
    unfold f_Decoder_refineOther_J62 at hf
    obtain ⟨z2, hz2, hf⟩ := ob_bind hf
    refine g_callv (wc := (w_Decoder_keep cI cB cS cT a_pic a_pic_co a_dec a_pic_h a_pic_v a_pic_ac a_pic_dn a_pic_oa a_pic_od a_pic_st a_crs a_tbs a_rd a_dec_p pic_many pic_unitsAcross pic_unitsDown pic_blocks n_pic_co pic_co dec_keeps dec_run)) (w1 := (w_Decoder_keep cI cB cS cT a_pic a_pic_co a_dec a_pic_h a_pic_v a_pic_ac a_pic_dn a_pic_oa a_pic_od a_pic_st a_crs a_tbs a_rd a_dec_p pic_many pic_unitsAcross pic_unitsDown pic_blocks n_pic_co z2 dec_keeps dec_run)) (w2 := (w_Decoder_refineOther cI cB cS cT a_pic a_pic_co a_crs a_sto a_sto_b a_rd a_dec a_pic_h a_pic_v a_pic_ac a_pic_dn a_pic_oa a_pic_od a_pic_st a_crs_ow a_crs_pl a_crs_dt a_crs_ot a_tbs a_dec_p pic_many pic_unitsAcross pic_unitsDown pic_blocks n_pic_co z2 crs_kind crs_first crs_last crs_bits crs_interval crs_units crs_blocksOfUnit crs_laid sto_length n_sto_b sto_b rd_at_j62 rd_part_j62 rd_left_j62 rd_fault_j62 dec_keeps dec_run)) [0, 1, 6] [some 0, some 1, none, none, none, none, some 2] hP hD hS hA rfl rfl rfl rfl (va_runV (As := [.int s1_j62, .int s2_j62]) (rest := []) ⟨hx, hb, hml, hown, hts⟩ (c_Decoder_keep l dC dI cI cB cS cT a_pic a_pic_co a_dec a_pic_h a_pic_v a_pic_ac a_pic_dn a_pic_oa a_pic_od a_pic_st a_crs a_tbs a_rd a_dec_p pic_many pic_unitsAcross pic_unitsDown pic_blocks n_pic_co pic_co dec_keeps dec_run s1_j62 s2_j62 H.size z2 hz2) ⟨(callB_of 2 hts (gi tw_728 rfl) rfl rfl rfl (hts _ (List.mem_cons_of_mem _ tw_14)) (hts _ (List.mem_cons_of_mem _ tw_725)) (by decide +kernel) ⟨Nat.le_of_ble_eq_true rfl, Nat.le_of_ble_eq_true rfl⟩), hts _ (List.mem_cons_of_mem _ tw_727), hts _ (List.mem_cons_of_mem _ ts_m728)⟩ ⟨g_blind, va_recv hK hP (ci := 5) (q0 := 6) rfl rfl, g_at hKN (g_pm hP [0, 1, 6] rfl) (hD.sub [0, 1, 6] (by decide) rfl)⟩ rfl rfl hl.1 rfl (lv_room (Nat.le_of_ble_eq_true rfl)) d_m752_62 ⟨Nat.zero_le _, Nat.zero_le _⟩) (fun H locs hP hD hS => ?_)
    refine W.eq (g2 := F0 m 65 ls []) rfl ?_
    obtain rfl := Option.some.inj hf
    subst hQ
    subst hAe
    exact W.vret hx hb hr (fun t ht hW => ⟨⟨(), rfl, trivial, by rw [ht]; exact hP, hD⟩, hS.F ht⟩) hS.2.2 d_m752_65
  have hgo : ∀ (H : Heap) (locs : List Loc), va_P (dC, dI) vwCl (w_Decoder_refineOther cI cB cS cT a_pic a_pic_co a_crs a_sto a_sto_b a_rd a_dec a_pic_h a_pic_v a_pic_ac a_pic_dn a_pic_oa a_pic_od a_pic_st a_crs_ow a_crs_pl a_crs_dt a_crs_ot a_tbs a_dec_p pic_many pic_unitsAcross pic_unitsDown pic_blocks n_pic_co pic_co crs_kind crs_first crs_last crs_bits crs_interval crs_units crs_blocksOfUnit crs_laid sto_length n_sto_b sto_b rd_at rd_part rd_left rd_fault dec_keeps dec_run) H → va_S A s.heap H locs → W p l e (headSpec ws_m752 rm_Decoder_refineOther).room s m args below meth c H locs 0 0 Q (F0 m 0 ls []) := by
    intro H locs hP hS
    unfold f_Decoder_refineOther at hf
    refine lv_aload_n hx hb d_m752_0 rfl (lv_at hl 0 rfl) ?_
    refine va_get (D := (dC, dI)) (ci := 5) (v := .ref a_rd) (C := "ScanCoder$Decoder") (T := T_5) (N := 7) hx hb hts n0 hown hK hP 6 rfl rfl 3 (by decide) k0 (fun _ h9 => h9) rfl d_m752_1 ?_
    refine lv_iconst (v := (1 : Int32)) hx hb d_m752_4 (by decide) ?_
    obtain ⟨z1, hz1, hf⟩ := ob_bind hf
    refine g_calli (wc := (w_BitReader_takeBits cI cB cS cT a_sto a_sto_b a_rd sto_length n_sto_b sto_b rd_at rd_part rd_left rd_fault)) (w1 := (w_BitReader_takeBits cI cB cS cT a_sto a_sto_b a_rd sto_length n_sto_b sto_b z1.2.1 z1.2.2.1 z1.2.2.2.1 z1.2.2.2.2)) (w2 := (w_Decoder_refineOther cI cB cS cT a_pic a_pic_co a_crs a_sto a_sto_b a_rd a_dec a_pic_h a_pic_v a_pic_ac a_pic_dn a_pic_oa a_pic_od a_pic_st a_crs_ow a_crs_pl a_crs_dt a_crs_ot a_tbs a_dec_p pic_many pic_unitsAcross pic_unitsDown pic_blocks n_pic_co pic_co crs_kind crs_first crs_last crs_bits crs_interval crs_units crs_blocksOfUnit crs_laid sto_length n_sto_b sto_b z1.2.1 z1.2.2.1 z1.2.2.2.1 z1.2.2.2.2 dec_keeps dec_run)) [3, 4, 5] [none, none, none, some 0, some 1, some 2, none] hP hD hS hA rfl rfl rfl rfl (va_runV (As := [.int (1 : Int32)]) (rest := []) ⟨hx, hb, hml, hown, hts⟩ (c_BitReader_takeBits l dC dI cI cB cS cT N a_sto a_sto_b a_rd sto_length n_sto_b sto_b rd_at rd_part rd_left rd_fault (1 : Int32) H.size z1 hz1) ⟨(callB_of 1 hts (gi tw_706 rfl) rfl rfl rfl (hts _ (List.mem_cons_of_mem _ tw_15)) (hts _ (List.mem_cons_of_mem _ tw_719)) (by decide +kernel) ⟨Nat.le_of_ble_eq_true rfl, Nat.le_of_ble_eq_true rfl⟩), hts _ (List.mem_cons_of_mem _ tw_704), hts _ (List.mem_cons_of_mem _ tw_705)⟩ ⟨g_blind, va_recv hK hP (ci := 1) (q0 := 5) rfl rfl, g_at hKN (g_pm hP [3, 4, 5] rfl) (hD.sub [3, 4, 5] (by decide) rfl)⟩ rfl rfl hl.1 rfl (lv_room (Nat.le_of_ble_eq_true rfl)) d_m752_5 ⟨Nat.zero_le _, Nat.zero_le _⟩) (fun H locs hP hD hS => ?_)
    refine W.eq (g2 := F0 m 8 ls [.int z1.1]) rfl ?_
    refine lv_istore_n (lv' := [(2, .int z1.1), (0, .ref a_dec), (1, .int p0)]) hx hb d_m752_8 rfl hl (by decide) rfl (fun ls hl => ?_)
    refine lv_aload_n hx hb d_m752_9 rfl (lv_at hl 1 rfl) ?_
    refine va_get (D := (dC, dI)) (ci := 5) (v := .ref a_pic) (C := "ScanCoder$Decoder") (T := T_5) (N := 7) hx hb hts n0 hown hK hP 6 rfl rfl 0 (by decide) k1 (fun _ h9 => h9) rfl d_m752_10 ?_
    refine va_get (D := (dC, dI)) (ci := 8) (v := .ref a_pic_co) (C := "ScanCoder$Picture") (T := T_8) (N := 12) hx hb hts n1 hown hK hP 0 rfl rfl 11 (by decide) k2 (fun _ h9 => h9) rfl d_m752_13 ?_
    refine lv_iload_n hx hb d_m752_16 rfl (lv_at hl 2 rfl) ?_
    obtain ⟨hi, hf⟩ := ob_if hf
    refine va_sald hx hb hK hP 1 2 rfl rfl hi d_m752_17 ?_
    refine lv_istore_n (lv' := [(3, .int (pic_co p0.toNatClampNeg)), (2, .int z1.1), (0, .ref a_dec), (1, .int p0)]) hx hb d_m752_18 rfl hl (by decide) rfl (fun ls hl => ?_)
    refine lv_iconst (v := (1 : Int32)) hx hb d_m752_19 (by decide) ?_
    refine lv_aload_n hx hb d_m752_20 rfl (lv_at hl 2 rfl) ?_
    refine va_get (D := (dC, dI)) (ci := 5) (v := .ref a_crs) (C := "ScanCoder$Decoder") (T := T_5) (N := 7) hx hb hts n0 hown hK hP 6 rfl rfl 1 (by decide) k3 (fun _ h9 => h9) rfl d_m752_21 ?_
    refine va_get (D := (dC, dI)) (ci := 4) (v := .int crs_bits) (C := "ScanCoder$Course") (T := T_4) (N := 13) hx hb hts n2 hown hK hP 2 rfl rfl 8 (by decide) k4 (fun _ h9 => h9) rfl d_m752_24 ?_
    refine lv_ishl hx hb d_m752_27 ?_
    refine lv_istore (lv' := [(4, .int ((1 : Int32) <<< (crs_bits &&& 31))), (3, .int (pic_co p0.toNatClampNeg)), (2, .int z1.1), (0, .ref a_dec), (1, .int p0)]) hx hb d_m752_28 hl (by decide) rfl (fun ls hl => ?_)
    refine lv_iload_n hx hb d_m752_30 rfl (lv_at hl 2 rfl) ?_
    refine lv_iconst (v := (1 : Int32)) hx hb d_m752_31 (by decide) ?_
    refine lv_icmp_ne (tgt := 65) hx hb d_m752_32 (by decide) (fun hc => ?_) (fun hc => ?_)
    · replace hf := (if_neg hc).symm.trans hf
      obtain rfl := Option.some.inj hf
      subst hQ
      subst hAe
      exact W.vret hx hb hr (fun t ht hW => ⟨⟨(), rfl, trivial, by rw [ht]; exact hP, hD⟩, hS.F ht⟩) hS.2.2 d_m752_65
    · replace hf := (if_pos hc).symm.trans hf
      refine lv_iload_n hx hb d_m752_35 rfl (lv_at hl 1 rfl) ?_
      refine va_mabs hx hb (by rw [hml]; exact hl.1.symm) hown k5 k6 k7 k8 (Nat.le_of_ble_eq_true rfl) (Nat.le_of_ble_eq_true rfl) (Nat.zero_le _) (Nat.zero_le _) d_m752_36 ?_
      refine lv_iload hx hb d_m752_39 (lv_at hl 0 rfl) ?_
      refine lv_iand hx hb d_m752_41 ?_
      refine lv_if_ne (tgt := 65) hx hb d_m752_42 (by decide) (fun hc => ?_) (fun hc => ?_)
      · replace hf := (if_neg hc).symm.trans hf
        obtain rfl := Option.some.inj hf
        subst hQ
        subst hAe
        exact W.vret hx hb hr (fun t ht hW => ⟨⟨(), rfl, trivial, by rw [ht]; exact hP, hD⟩, hS.F ht⟩) hS.2.2 d_m752_65
      · replace hf := (if_pos hc).symm.trans hf
        refine lv_aload_n hx hb d_m752_45 rfl (lv_at hl 3 rfl) ?_
        refine lv_iload_n hx hb d_m752_46 rfl (lv_at hl 4 rfl) ?_
        refine lv_iload_n hx hb d_m752_47 rfl (lv_at hl 1 rfl) ?_
        refine lv_if_le (tgt := 58) hx hb d_m752_48 (by decide) (fun hc => ?_) (fun hc => ?_)
        · replace hf := (if_pos hc).symm.trans hf
          refine lv_iload_n hx hb d_m752_58 rfl (lv_at hl 1 rfl) ?_
          refine lv_iload hx hb d_m752_59 (lv_at hl 0 rfl) ?_
          refine lv_isub hx hb d_m752_61 ?_
          exact J62 z1.2.1 z1.2.2.1 z1.2.2.2.1 z1.2.2.2.2 p0 ((pic_co p0.toNatClampNeg) - ((1 : Int32) <<< (crs_bits &&& 31))) hf H locs ls hP hD hS (lv_sub hl [] rfl)
        · replace hf := (if_neg hc).symm.trans hf
          refine lv_iload_n hx hb d_m752_51 rfl (lv_at hl 1 rfl) ?_
          refine lv_iload hx hb d_m752_52 (lv_at hl 0 rfl) ?_
          refine lv_iadd hx hb d_m752_54 ?_
          refine lv_goto (tgt := 62) hx hb d_m752_55 (by decide) ?_
          exact J62 z1.2.1 z1.2.2.1 z1.2.2.2.1 z1.2.2.2.2 p0 ((pic_co p0.toNatClampNeg) + ((1 : Int32) <<< (crs_bits &&& 31))) hf H locs ls hP hD hS (lv_sub hl [] rfl)
  exact hgo _ _ hP hS
def f_Decoder_takeNewOne_J73_144 (N : Nat) (rec : (Int32 × Int32 × (Nat → Int32) × Int32 × Int32 × Int32 × Int32) → Option (Nat × Int32 × (Nat → Int32) × Int32 × Int32 × Int32 × Int32)) (v5_j144 : Int32) (v6_73 : Int32) (pic_co_j144 : Nat → Int32) (rd_at_j144 : Int32) (rd_part_j144 : Int32) (rd_left_j144 : Int32) (rd_fault_j144 : Int32) : Option (Nat × Int32 × (Nat → Int32) × Int32 × Int32 × Int32 × Int32) :=
  rec (v5_j144, v6_73 + (1 : Int32), pic_co_j144, rd_at_j144, rd_part_j144, rd_left_j144, rd_fault_j144)
def f_Decoder_takeNewOne_L73b (crs_last : Int32) (p1 : Int32) (n_pic_co : Nat) (crs_bits : Int32) (sto_length : Int32) (n_sto_b : Nat) (sto_b : Nat → Int32) (dec_keeps : Int32) (N : Nat) (rec : (Int32 × Int32 × (Nat → Int32) × Int32 × Int32 × Int32 × Int32) → Option (Nat × Int32 × (Nat → Int32) × Int32 × Int32 × Int32 × Int32)) (v5_73 : Int32) (v6_73 : Int32) (pic_co_73 : Nat → Int32) (rd_at_73 : Int32) (rd_part_73 : Int32) (rd_left_73 : Int32) (rd_fault_73 : Int32) : Option (Nat × Int32 × (Nat → Int32) × Int32 × Int32 × Int32 × Int32) :=
  if crs_last < v6_73 then
    some (1, v6_73, pic_co_73, rd_at_73, rd_part_73, rd_left_73, rd_fault_73)
  else
    if rd_fault_73 = 0 then
      if (p1 + v6_73) < 0 ∨ n_pic_co ≤ (p1 + v6_73).toNatClampNeg then none else
      if (pic_co_73 (p1 + v6_73).toNatClampNeg) = 0 then
        if v5_73 = 0 then
          some (0, v6_73, pic_co_73, rd_at_73, rd_part_73, rd_left_73, rd_fault_73)
        else
          f_Decoder_takeNewOne_J73_144 N rec (v5_73 + (-1 : Int32)) v6_73 pic_co_73 rd_at_73 rd_part_73 rd_left_73 rd_fault_73
      else
        (f_Decoder_refineOther N (p1 + v6_73) n_pic_co pic_co_73 crs_bits sto_length n_sto_b sto_b rd_at_73 rd_part_73 rd_left_73 rd_fault_73 dec_keeps).bind fun z1 =>
        f_Decoder_takeNewOne_J73_144 N rec v5_73 v6_73 z1.1 z1.2.1 z1.2.2.1 z1.2.2.2.1 z1.2.2.2.2
    else
      some (1, v6_73, pic_co_73, rd_at_73, rd_part_73, rd_left_73, rd_fault_73)
def f_Decoder_takeNewOne_L73 (crs_last : Int32) (p1 : Int32) (n_pic_co : Nat) (crs_bits : Int32) (sto_length : Int32) (n_sto_b : Nat) (sto_b : Nat → Int32) (dec_keeps : Int32) (N : Nat) (k : Nat) : (Int32 × Int32 × (Nat → Int32) × Int32 × Int32 × Int32 × Int32) → Option (Nat × Int32 × (Nat → Int32) × Int32 × Int32 × Int32 × Int32) := it (fun rec a => f_Decoder_takeNewOne_L73b crs_last p1 n_pic_co crs_bits sto_length n_sto_b sto_b dec_keeps N rec a.1 a.2.1 a.2.2.1 a.2.2.2.1 a.2.2.2.2.1 a.2.2.2.2.2.1 a.2.2.2.2.2.2) k
def f_Decoder_takeNewOne_J150 (N : Nat) (rd_fault_j150 : Int32) (p2 : Int32) (pic_co_j150 : Nat → Int32) (rd_at_j150 : Int32) (rd_part_j150 : Int32) (rd_left_j150 : Int32) : Option (Int32 × (Nat → Int32) × Int32 × Int32 × Int32 × Int32) :=
  if rd_fault_j150 = 0 then
    some (p2, pic_co_j150, rd_at_j150, rd_part_j150, rd_left_j150, (3 : Int32))
  else
    some (p2, pic_co_j150, rd_at_j150, rd_part_j150, rd_left_j150, rd_fault_j150)
def f_Decoder_takeNewOne_J65 (N : Nat) (crs_last : Int32) (p1 : Int32) (n_pic_co : Nat) (crs_bits : Int32) (sto_length : Int32) (n_sto_b : Nat) (sto_b : Nat → Int32) (dec_keeps : Int32) (p0 : Int32) (p2 : Int32) (pic_co : Nat → Int32) (rd_at_j65 : Int32) (rd_part_j65 : Int32) (rd_left_j65 : Int32) (rd_fault_j65 : Int32) (v4_j65 : Int32) : Option (Int32 × (Nat → Int32) × Int32 × Int32 × Int32 × Int32) :=
  (f_Decoder_takeNewOne_L73 crs_last p1 n_pic_co crs_bits sto_length n_sto_b sto_b dec_keeps N N (p0 >>> ((4 : Int32) &&& 31), p2, pic_co, rd_at_j65, rd_part_j65, rd_left_j65, rd_fault_j65)).bind fun z2 =>
    if z2.1 = 0 then ((f_Decoder_keep (p1 + z2.2.1) v4_j65 n_pic_co z2.2.2.1 dec_keeps).bind fun z3 =>
  some (z2.2.1 + (1 : Int32), z3, z2.2.2.2.1, z2.2.2.2.2.1, z2.2.2.2.2.2.1, z2.2.2.2.2.2.2)) else f_Decoder_takeNewOne_J150 N z2.2.2.2.2.2.2 p2 z2.2.2.1 z2.2.2.2.1 z2.2.2.2.2.1 z2.2.2.2.2.2.1
def f_Decoder_takeNewOne_J63 (N : Nat) (crs_last : Int32) (p1 : Int32) (n_pic_co : Nat) (crs_bits : Int32) (sto_length : Int32) (n_sto_b : Nat) (sto_b : Nat → Int32) (dec_keeps : Int32) (p0 : Int32) (p2 : Int32) (pic_co : Nat → Int32) (rd_at_j63 : Int32) (rd_part_j63 : Int32) (rd_left_j63 : Int32) (rd_fault_j63 : Int32) (s0_j63 : Int32) : Option (Int32 × (Nat → Int32) × Int32 × Int32 × Int32 × Int32) :=
  f_Decoder_takeNewOne_J65 N crs_last p1 n_pic_co crs_bits sto_length n_sto_b sto_b dec_keeps p0 p2 pic_co rd_at_j63 rd_part_j63 rd_left_j63 rd_fault_j63 s0_j63
def f_Decoder_takeNewOne (N : Nat) (p0 : Int32) (p1 : Int32) (p2 : Int32) (n_pic_co : Nat) (pic_co : Nat → Int32) (crs_last : Int32) (crs_bits : Int32) (sto_length : Int32) (n_sto_b : Nat) (sto_b : Nat → Int32) (rd_at : Int32) (rd_part : Int32) (rd_left : Int32) (rd_fault : Int32) (dec_keeps : Int32) : Option (Int32 × (Nat → Int32) × Int32 × Int32 × Int32 × Int32) :=
  if (p0 &&& (15 : Int32)) ≤ (1 : Int32) then
    if (p0 &&& (15 : Int32)) = (1 : Int32) then
      (f_BitReader_takeBits N (1 : Int32) sto_length n_sto_b sto_b rd_at rd_part rd_left rd_fault).bind fun z4 =>
      if z4.1 = (1 : Int32) then
        f_Decoder_takeNewOne_J63 N crs_last p1 n_pic_co crs_bits sto_length n_sto_b sto_b dec_keeps p0 p2 pic_co z4.2.1 z4.2.2.1 z4.2.2.2.1 z4.2.2.2.2 ((1 : Int32) <<< (crs_bits &&& 31))
      else
        f_Decoder_takeNewOne_J63 N crs_last p1 n_pic_co crs_bits sto_length n_sto_b sto_b dec_keeps p0 p2 pic_co z4.2.1 z4.2.2.1 z4.2.2.2.1 z4.2.2.2.2 (-((1 : Int32) <<< (crs_bits &&& 31)))
    else
      f_Decoder_takeNewOne_J65 N crs_last p1 n_pic_co crs_bits sto_length n_sto_b sto_b dec_keeps p0 p2 pic_co rd_at rd_part rd_left rd_fault (0 : Int32)
  else
    some (p2, pic_co, rd_at, rd_part, rd_left, (3 : Int32))
abbrev w_Decoder_takeNewOne (cI cB cS cT : ClassId) (a_pic : Nat) (a_pic_co : Nat) (a_crs : Nat) (a_sto : Nat) (a_sto_b : Nat) (a_rd : Nat) (a_dec : Nat) (a_pic_h : Nat) (a_pic_v : Nat) (a_pic_ac : Nat) (a_pic_dn : Nat) (a_pic_oa : Nat) (a_pic_od : Nat) (a_pic_st : Nat) (a_crs_ow : Nat) (a_crs_pl : Nat) (a_crs_dt : Nat) (a_crs_ot : Nat) (a_tbs : Nat) (a_dec_p : Nat) (pic_many : Int32) (pic_unitsAcross : Int32) (pic_unitsDown : Int32) (pic_blocks : Int32) (n_pic_co : Nat) (pic_co : Nat → Int32) (crs_kind : Int32) (crs_first : Int32) (crs_last : Int32) (crs_bits : Int32) (crs_interval : Int32) (crs_units : Int32) (crs_blocksOfUnit : Int32) (crs_laid : Int32) (sto_length : Int32) (n_sto_b : Nat) (sto_b : Nat → Int32) (rd_at : Int32) (rd_part : Int32) (rd_left : Int32) (rd_fault : Int32) (dec_keeps : Int32) (dec_run : Int32) : va_W := [(a_pic, .inr (8, [.ref a_pic_h, .ref a_pic_v, .ref a_pic_ac, .ref a_pic_dn, .ref a_pic_oa, .ref a_pic_od, .ref a_pic_st, .int pic_many, .int pic_unitsAcross, .int pic_unitsDown, .int pic_blocks, .ref a_pic_co])), (a_pic_co, .inl (cS, n_pic_co, .inl pic_co)), (a_crs, .inr (4, [.ref a_pic, .ref a_crs_ow, .ref a_crs_pl, .ref a_crs_dt, .ref a_crs_ot, .int crs_kind, .int crs_first, .int crs_last, .int crs_bits, .int crs_interval, .int crs_units, .int crs_blocksOfUnit, .int crs_laid])), (a_sto, .inr (9, [.ref a_sto_b, .int sto_length])), (a_sto_b, .inl (cB, n_sto_b, .inl sto_b)), (a_rd, .inr (1, [.ref a_sto, .int rd_at, .int rd_part, .int rd_left, .int rd_fault])), (a_dec, .inr (5, [.ref a_pic, .ref a_crs, .ref a_tbs, .ref a_rd, .ref a_dec_p, .int dec_keeps, .int dec_run]))]
def rm_Decoder_takeNewOne : Room := { frames := 3, cells := 0, slots := 0, locals := 68 }
set_option maxHeartbeats 1000000 in
set_option maxRecDepth 100000 in
theorem c_Decoder_takeNewOne (l : Launch) (dC : Nat → ClassId) (dI : Nat → Nat → Nat) (cI cB cS cT : ClassId) (N : Nat) (a_pic : Nat) (a_pic_co : Nat) (a_crs : Nat) (a_sto : Nat) (a_sto_b : Nat) (a_rd : Nat) (a_dec : Nat) (a_pic_h : Nat) (a_pic_v : Nat) (a_pic_ac : Nat) (a_pic_dn : Nat) (a_pic_oa : Nat) (a_pic_od : Nat) (a_pic_st : Nat) (a_crs_ow : Nat) (a_crs_pl : Nat) (a_crs_dt : Nat) (a_crs_ot : Nat) (a_tbs : Nat) (a_dec_p : Nat) (pic_many : Int32) (pic_unitsAcross : Int32) (pic_unitsDown : Int32) (pic_blocks : Int32) (n_pic_co : Nat) (pic_co : Nat → Int32) (crs_kind : Int32) (crs_first : Int32) (crs_last : Int32) (crs_bits : Int32) (crs_interval : Int32) (crs_units : Int32) (crs_blocksOfUnit : Int32) (crs_laid : Int32) (sto_length : Int32) (n_sto_b : Nat) (sto_b : Nat → Int32) (rd_at : Int32) (rd_part : Int32) (rd_left : Int32) (rd_fault : Int32) (dec_keeps : Int32) (dec_run : Int32) (p0 : Int32) (p1 : Int32) (p2 : Int32) (sz : Nat) (z : Int32 × (Nat → Int32) × Int32 × Int32 × Int32 × Int32) (hf : f_Decoder_takeNewOne N p0 p1 p2 n_pic_co pic_co crs_last crs_bits sto_length n_sto_b sto_b rd_at rd_part rd_left rd_fault dec_keeps = some z) : Met l y_m748 ws_m748 rm_Decoder_takeNewOne (gPre (dC, dI) [.ref a_dec, .int p0, .int p1, .int p2] (gT cI cB cS cT) (w_Decoder_takeNewOne cI cB cS cT a_pic a_pic_co a_crs a_sto a_sto_b a_rd a_dec a_pic_h a_pic_v a_pic_ac a_pic_dn a_pic_oa a_pic_od a_pic_st a_crs_ow a_crs_pl a_crs_dt a_crs_ot a_tbs a_dec_p pic_many pic_unitsAcross pic_unitsDown pic_blocks n_pic_co pic_co crs_kind crs_first crs_last crs_bits crs_interval crs_units crs_blocksOfUnit crs_laid sto_length n_sto_b sto_b rd_at rd_part rd_left rd_fault dec_keeps dec_run) sz) (gQi (dC, dI) (gT cI cB cS cT) z.1 (w_Decoder_takeNewOne cI cB cS cT a_pic a_pic_co a_crs a_sto a_sto_b a_rd a_dec a_pic_h a_pic_v a_pic_ac a_pic_dn a_pic_oa a_pic_od a_pic_st a_crs_ow a_crs_pl a_crs_dt a_crs_ot a_tbs a_dec_p pic_many pic_unitsAcross pic_unitsDown pic_blocks n_pic_co pic_co crs_kind crs_first crs_last crs_bits crs_interval crs_units crs_blocksOfUnit crs_laid sto_length n_sto_b sto_b rd_at rd_part rd_left rd_fault dec_keeps dec_run) (w_Decoder_takeNewOne cI cB cS cT a_pic a_pic_co a_crs a_sto a_sto_b a_rd a_dec a_pic_h a_pic_v a_pic_ac a_pic_dn a_pic_oa a_pic_od a_pic_st a_crs_ow a_crs_pl a_crs_dt a_crs_ot a_tbs a_dec_p pic_many pic_unitsAcross pic_unitsDown pic_blocks n_pic_co z.2.1 crs_kind crs_first crs_last crs_bits crs_interval crs_units crs_blocksOfUnit crs_laid sto_length n_sto_b sto_b z.2.2.1 z.2.2.2.1 z.2.2.2.2.1 z.2.2.2.2.2 dec_keeps dec_run) sz) 0 0 (va_A (w_Decoder_takeNewOne cI cB cS cT a_pic a_pic_co a_crs a_sto a_sto_b a_rd a_dec a_pic_h a_pic_v a_pic_ac a_pic_dn a_pic_oa a_pic_od a_pic_st a_crs_ow a_crs_pl a_crs_dt a_crs_ot a_tbs a_dec_p pic_many pic_unitsAcross pic_unitsDown pic_blocks n_pic_co pic_co crs_kind crs_first crs_last crs_bits crs_interval crs_units crs_blocksOfUnit crs_laid sto_length n_sto_b sto_b rd_at rd_part rd_left rd_fault dec_keeps dec_run) sz) := by
  refine Met.ofW (cc := prog_6_method_15_code) (maxL := 7) (ret := (some .int)) (by decide) rfl ?_
  intro p e s m args below meth c s₁ B hml hv
  obtain ⟨hargs, hsz, hP, hKN, hD0⟩ := hv
  have hK := hKN.1
  have hx := B.exec
  have hb := B.bytes
  have hr := B.returns
  have hts := atoms_spec (ws := ws_m748) B.pre
  have hown : s.vm.findClass "ScanCoder$Decoder" = some m.cls := findClass_of_methodNamed B.named
  have hlocks := B.notSynchronized
  have k0 := hts _ (List.mem_cons_of_mem _ tw_398)
  have k1 := hts _ (List.mem_cons_of_mem _ tw_180)
  have k2 := hts _ (List.mem_cons_of_mem _ tw_400)
  have k3 := hts _ (List.mem_cons_of_mem _ tw_381)
  have k4 := hts _ (List.mem_cons_of_mem _ tw_397)
  have k5 := hts _ (List.mem_cons_of_mem _ tw_81)
  have k6 := hts _ (List.mem_cons_of_mem _ tw_183)
  have n0 : ∀ w ∈ u_ws "ScanCoder$Decoder" T_5 7, w ∈ ws_m748 := fun w h => List.mem_cons_of_mem _ (in_5 w h)
  have n1 : ∀ w ∈ u_ws "ScanCoder$Course" T_4 13, w ∈ ws_m748 := fun w h => List.mem_cons_of_mem _ (in_4 w h)
  have n2 : ∀ w ∈ u_ws "ScanCoder$BitReader" T_1 5, w ∈ ws_m748 := fun w h => List.mem_cons_of_mem _ (in_1 w h)
  have n3 : ∀ w ∈ u_ws "ScanCoder$Picture" T_8 12, w ∈ ws_m748 := fun w h => List.mem_cons_of_mem _ (in_8 w h)
  subst hsz
  have hD := hD0.self (sz := s.heap.size)
  obtain ⟨A, hAe⟩ : ∃ A : Nat → Prop, va_A (w_Decoder_takeNewOne cI cB cS cT a_pic a_pic_co a_crs a_sto a_sto_b a_rd a_dec a_pic_h a_pic_v a_pic_ac a_pic_dn a_pic_oa a_pic_od a_pic_st a_crs_ow a_crs_pl a_crs_dt a_crs_ot a_tbs a_dec_p pic_many pic_unitsAcross pic_unitsDown pic_blocks n_pic_co pic_co crs_kind crs_first crs_last crs_bits crs_interval crs_units crs_blocksOfUnit crs_laid sto_length n_sto_b sto_b rd_at rd_part rd_left rd_fault dec_keeps dec_run) s.heap.size = A := ⟨_, rfl⟩
  rw [hAe] at hD
  have hA : ∀ q : Nat, s.heap.size ≤ q → A q := fun q h => by rw [← hAe]; exact Or.inr h
  have hS : va_S A s.heap s.heap [] := va_S.rf
  have hl := lv_entry ([.ref a_dec, .int p0, .int p1, .int p2]) (n := 7) (Nat.le_of_ble_eq_true rfl)
  have hfr : entryFrame m args 7 = F0 m 0 ((lg_sl ([.ref a_dec, .int p0, .int p1, .int p2]) ++ List.replicate (7 - (lg_sl ([.ref a_dec, .int p0, .int p1, .int p2])).length) Slot.unset).toArray) [] := by rw [hargs]; exact lg_entry_eq _ _ _
  rw [hfr]
  generalize (lg_sl ([.ref a_dec, .int p0, .int p1, .int p2]) ++ List.replicate (7 - (lg_sl ([.ref a_dec, .int p0, .int p1, .int p2])).length) Slot.unset).toArray = ls at hl ⊢
  have hl : lv_has ls 7 [(0, .ref a_dec), (1, .int p0), (2, .int p1), (3, .int p2)] := hl
  refine gen_Q (fun Q hQ => ?_)
  clear hfr
  have L73 : ∀ (v4_73 : Int32) (z : Nat × Int32 × (Nat → Int32) × Int32 × Int32 × Int32 × Int32), (z.1 = 0 → GW (dC, dI) A p l e (headSpec ws_m748 rm_Decoder_takeNewOne).room s m args below meth c 0 0 Q 7 126 (w_Decoder_takeNewOne cI cB cS cT a_pic a_pic_co a_crs a_sto a_sto_b a_rd a_dec a_pic_h a_pic_v a_pic_ac a_pic_dn a_pic_oa a_pic_od a_pic_st a_crs_ow a_crs_pl a_crs_dt a_crs_ot a_tbs a_dec_p pic_many pic_unitsAcross pic_unitsDown pic_blocks n_pic_co z.2.2.1 crs_kind crs_first crs_last crs_bits crs_interval crs_units crs_blocksOfUnit crs_laid sto_length n_sto_b sto_b z.2.2.2.1 z.2.2.2.2.1 z.2.2.2.2.2.1 z.2.2.2.2.2.2 dec_keeps dec_run) [(0, .ref a_dec), (2, .int p1), (4, .int v4_73), (6, .int z.2.1)] []) → (z.1 = 1 → GW (dC, dI) A p l e (headSpec ws_m748 rm_Decoder_takeNewOne).room s m args below meth c 0 0 Q 7 150 (w_Decoder_takeNewOne cI cB cS cT a_pic a_pic_co a_crs a_sto a_sto_b a_rd a_dec a_pic_h a_pic_v a_pic_ac a_pic_dn a_pic_oa a_pic_od a_pic_st a_crs_ow a_crs_pl a_crs_dt a_crs_ot a_tbs a_dec_p pic_many pic_unitsAcross pic_unitsDown pic_blocks n_pic_co z.2.2.1 crs_kind crs_first crs_last crs_bits crs_interval crs_units crs_blocksOfUnit crs_laid sto_length n_sto_b sto_b z.2.2.2.1 z.2.2.2.2.1 z.2.2.2.2.2.1 z.2.2.2.2.2.2 dec_keeps dec_run) [(0, .ref a_dec), (3, .int p2)] []) → ∀ (k : Nat) (v5_73 : Int32) (v6_73 : Int32) (pic_co_73 : Nat → Int32) (rd_at_73 : Int32) (rd_part_73 : Int32) (rd_left_73 : Int32) (rd_fault_73 : Int32), f_Decoder_takeNewOne_L73 crs_last p1 n_pic_co crs_bits sto_length n_sto_b sto_b dec_keeps N k (v5_73, v6_73, pic_co_73, rd_at_73, rd_part_73, rd_left_73, rd_fault_73) = some z → GW (dC, dI) A p l e (headSpec ws_m748 rm_Decoder_takeNewOne).room s m args below meth c 0 0 Q 7 73 (w_Decoder_takeNewOne cI cB cS cT a_pic a_pic_co a_crs a_sto a_sto_b a_rd a_dec a_pic_h a_pic_v a_pic_ac a_pic_dn a_pic_oa a_pic_od a_pic_st a_crs_ow a_crs_pl a_crs_dt a_crs_ot a_tbs a_dec_p pic_many pic_unitsAcross pic_unitsDown pic_blocks n_pic_co pic_co_73 crs_kind crs_first crs_last crs_bits crs_interval crs_units crs_blocksOfUnit crs_laid sto_length n_sto_b sto_b rd_at_73 rd_part_73 rd_left_73 rd_fault_73 dec_keeps dec_run) [(0, .ref a_dec), (2, .int p1), (3, .int p2), (4, .int v4_73), (5, .int v5_73), (6, .int v6_73)] [] := by
    intro v4_73 z hE0 hE1 k
    induction k with
    | zero =>
      intro v5_73 v6_73 pic_co_73 rd_at_73 rd_part_73 rd_left_73 rd_fault_73 hf
      exact (it_zero hf).elim
    | succ k ih =>
      intro v5_73 v6_73 pic_co_73 rd_at_73 rd_part_73 rd_left_73 rd_fault_73 hf H locs ls hP hD hS hl
      have J73_144 : ∀ (v5_j144 : Int32) (pic_co_j144 : Nat → Int32) (rd_at_j144 : Int32) (rd_part_j144 : Int32) (rd_left_j144 : Int32) (rd_fault_j144 : Int32), f_Decoder_takeNewOne_J73_144 N (f_Decoder_takeNewOne_L73 crs_last p1 n_pic_co crs_bits sto_length n_sto_b sto_b dec_keeps N k) v5_j144 v6_73 pic_co_j144 rd_at_j144 rd_part_j144 rd_left_j144 rd_fault_j144 = some z → GW (dC, dI) A p l e (headSpec ws_m748 rm_Decoder_takeNewOne).room s m args below meth c 0 0 Q 7 144 (w_Decoder_takeNewOne cI cB cS cT a_pic a_pic_co a_crs a_sto a_sto_b a_rd a_dec a_pic_h a_pic_v a_pic_ac a_pic_dn a_pic_oa a_pic_od a_pic_st a_crs_ow a_crs_pl a_crs_dt a_crs_ot a_tbs a_dec_p pic_many pic_unitsAcross pic_unitsDown pic_blocks n_pic_co pic_co_j144 crs_kind crs_first crs_last crs_bits crs_interval crs_units crs_blocksOfUnit crs_laid sto_length n_sto_b sto_b rd_at_j144 rd_part_j144 rd_left_j144 rd_fault_j144 dec_keeps dec_run) [(0, .ref a_dec), (2, .int p1), (3, .int p2), (4, .int v4_73), (5, .int v5_j144), (6, .int v6_73)] [] := by
        intro v5_j144 pic_co_j144 rd_at_j144 rd_part_j144 rd_left_j144 rd_fault_j144 hf H locs ls hP hD hS hl
        unfold f_Decoder_takeNewOne_J73_144 at hf
        refine lv_iinc (v := v6_73 + (1 : Int32)) (lv' := [(6, .int (v6_73 + (1 : Int32))), (0, .ref a_dec), (2, .int p1), (3, .int p2), (4, .int v4_73), (5, .int v5_j144)]) hx hb d_m748_144 hl (k := 5) rfl rfl (by decide) rfl (fun ls hl => ?_)
        refine lv_goto (tgt := 73) hx hb d_m748_147 (by decide) ?_
        exact ih v5_j144 (v6_73 + (1 : Int32)) pic_co_j144 rd_at_j144 rd_part_j144 rd_left_j144 rd_fault_j144 hf H locs ls hP hD hS (lv_sub hl [1, 2, 3, 4, 5, 0] rfl)
      have hf : f_Decoder_takeNewOne_L73b crs_last p1 n_pic_co crs_bits sto_length n_sto_b sto_b dec_keeps N (f_Decoder_takeNewOne_L73 crs_last p1 n_pic_co crs_bits sto_length n_sto_b sto_b dec_keeps N k) v5_73 v6_73 pic_co_73 rd_at_73 rd_part_73 rd_left_73 rd_fault_73 = some z := hf
      unfold f_Decoder_takeNewOne_L73b at hf
      refine lv_iload hx hb d_m748_73 (lv_at hl 5 rfl) ?_
      refine lv_aload_n hx hb d_m748_75 rfl (lv_at hl 0 rfl) ?_
      refine va_get (D := (dC, dI)) (ci := 5) (v := .ref a_crs) (C := "ScanCoder$Decoder") (T := T_5) (N := 7) hx hb hts n0 hown hK hP 6 rfl rfl 1 (by decide) k0 (fun _ h9 => h9) rfl d_m748_76 ?_
      refine va_get (D := (dC, dI)) (ci := 4) (v := .int crs_last) (C := "ScanCoder$Course") (T := T_4) (N := 13) hx hb hts n1 hown hK hP 2 rfl rfl 7 (by decide) k1 (fun _ h9 => h9) rfl d_m748_79 ?_
      refine lv_icmp_gt (tgt := 150) hx hb d_m748_82 (by decide) (fun hc => ?_) (fun hc => ?_)
      · replace hf := (if_pos hc).symm.trans hf
        obtain rfl := Option.some.inj hf
        exact hE1 rfl  H locs ls hP hD hS (lv_sub hl [0, 2] rfl)
      · replace hf := (if_neg hc).symm.trans hf
        refine lv_aload_n hx hb d_m748_85 rfl (lv_at hl 0 rfl) ?_
        refine va_get (D := (dC, dI)) (ci := 5) (v := .ref a_rd) (C := "ScanCoder$Decoder") (T := T_5) (N := 7) hx hb hts n0 hown hK hP 6 rfl rfl 3 (by decide) k2 (fun _ h9 => h9) rfl d_m748_86 ?_
        refine va_get (D := (dC, dI)) (ci := 1) (v := .int rd_fault_73) (C := "ScanCoder$BitReader") (T := T_1) (N := 5) hx hb hts n2 hown hK hP 5 rfl rfl 4 (by decide) k3 (fun _ h9 => h9) rfl d_m748_89 ?_
        refine lv_if_ne (tgt := 150) hx hb d_m748_92 (by decide) (fun hc => ?_) (fun hc => ?_)
        · replace hf := (if_neg hc).symm.trans hf
          obtain rfl := Option.some.inj hf
          exact hE1 rfl  H locs ls hP hD hS (lv_sub hl [0, 2] rfl)
        · replace hf := (if_pos hc).symm.trans hf
          refine lv_aload_n hx hb d_m748_95 rfl (lv_at hl 0 rfl) ?_
          refine va_get (D := (dC, dI)) (ci := 5) (v := .ref a_pic) (C := "ScanCoder$Decoder") (T := T_5) (N := 7) hx hb hts n0 hown hK hP 6 rfl rfl 0 (by decide) k4 (fun _ h9 => h9) rfl d_m748_96 ?_
          refine va_get (D := (dC, dI)) (ci := 8) (v := .ref a_pic_co) (C := "ScanCoder$Picture") (T := T_8) (N := 12) hx hb hts n3 hown hK hP 0 rfl rfl 11 (by decide) k5 (fun _ h9 => h9) rfl d_m748_99 ?_
          refine lv_iload_n hx hb d_m748_102 rfl (lv_at hl 1 rfl) ?_
          refine lv_iload hx hb d_m748_103 (lv_at hl 5 rfl) ?_
          refine lv_iadd hx hb d_m748_105 ?_
          obtain ⟨hi, hf⟩ := ob_if hf
          refine va_sald hx hb hK hP 1 2 rfl rfl hi d_m748_106 ?_
          refine lv_if_eq (tgt := 121) hx hb d_m748_107 (by decide) (fun hc => ?_) (fun hc => ?_)
          · replace hf := (if_pos hc).symm.trans hf
            refine lv_iload hx hb d_m748_121 (lv_at hl 4 rfl) ?_
            refine lv_if_ne (tgt := 141) hx hb d_m748_123 (by decide) (fun hc => ?_) (fun hc => ?_)
            · replace hf := (if_neg hc).symm.trans hf
              refine lv_iinc (v := v5_73 + (-1 : Int32)) (lv' := [(5, .int (v5_73 + (-1 : Int32))), (0, .ref a_dec), (2, .int p1), (3, .int p2), (4, .int v4_73), (6, .int v6_73)]) hx hb d_m748_141 hl (k := 4) rfl rfl (by decide) rfl (fun ls hl => ?_)
              exact J73_144 (v5_73 + (-1 : Int32)) pic_co_73 rd_at_73 rd_part_73 rd_left_73 rd_fault_73 hf H locs ls hP hD hS (lv_sub hl [1, 2, 3, 4, 0, 5] rfl)
            · replace hf := (if_pos hc).symm.trans hf
              obtain rfl := Option.some.inj hf
              exact hE0 rfl  H locs ls hP hD hS (lv_sub hl [0, 1, 3, 5] rfl)
          · replace hf := (if_neg hc).symm.trans hf
            refine lv_aload_n hx hb d_m748_110 rfl (lv_at hl 0 rfl) ?_
            refine lv_iload_n hx hb d_m748_111 rfl (lv_at hl 1 rfl) ?_
            refine lv_iload hx hb d_m748_112 (lv_at hl 5 rfl) ?_
            refine lv_iadd hx hb d_m748_114 ?_
            obtain ⟨z1, hz1, hf⟩ := ob_bind hf
            refine g_callv (wc := (w_Decoder_refineOther cI cB cS cT a_pic a_pic_co a_crs a_sto a_sto_b a_rd a_dec a_pic_h a_pic_v a_pic_ac a_pic_dn a_pic_oa a_pic_od a_pic_st a_crs_ow a_crs_pl a_crs_dt a_crs_ot a_tbs a_dec_p pic_many pic_unitsAcross pic_unitsDown pic_blocks n_pic_co pic_co_73 crs_kind crs_first crs_last crs_bits crs_interval crs_units crs_blocksOfUnit crs_laid sto_length n_sto_b sto_b rd_at_73 rd_part_73 rd_left_73 rd_fault_73 dec_keeps dec_run)) (w1 := (w_Decoder_refineOther cI cB cS cT a_pic a_pic_co a_crs a_sto a_sto_b a_rd a_dec a_pic_h a_pic_v a_pic_ac a_pic_dn a_pic_oa a_pic_od a_pic_st a_crs_ow a_crs_pl a_crs_dt a_crs_ot a_tbs a_dec_p pic_many pic_unitsAcross pic_unitsDown pic_blocks n_pic_co z1.1 crs_kind crs_first crs_last crs_bits crs_interval crs_units crs_blocksOfUnit crs_laid sto_length n_sto_b sto_b z1.2.1 z1.2.2.1 z1.2.2.2.1 z1.2.2.2.2 dec_keeps dec_run)) (w2 := (w_Decoder_takeNewOne cI cB cS cT a_pic a_pic_co a_crs a_sto a_sto_b a_rd a_dec a_pic_h a_pic_v a_pic_ac a_pic_dn a_pic_oa a_pic_od a_pic_st a_crs_ow a_crs_pl a_crs_dt a_crs_ot a_tbs a_dec_p pic_many pic_unitsAcross pic_unitsDown pic_blocks n_pic_co z1.1 crs_kind crs_first crs_last crs_bits crs_interval crs_units crs_blocksOfUnit crs_laid sto_length n_sto_b sto_b z1.2.1 z1.2.2.1 z1.2.2.2.1 z1.2.2.2.2 dec_keeps dec_run)) [0, 1, 2, 3, 4, 5, 6] [some 0, some 1, some 2, some 3, some 4, some 5, some 6] hP hD hS hA rfl rfl rfl rfl (va_runV (As := [.int (p1 + v6_73)]) (rest := []) ⟨hx, hb, hml, hown, hts⟩ (c_Decoder_refineOther l dC dI cI cB cS cT N a_pic a_pic_co a_crs a_sto a_sto_b a_rd a_dec a_pic_h a_pic_v a_pic_ac a_pic_dn a_pic_oa a_pic_od a_pic_st a_crs_ow a_crs_pl a_crs_dt a_crs_ot a_tbs a_dec_p pic_many pic_unitsAcross pic_unitsDown pic_blocks n_pic_co pic_co_73 crs_kind crs_first crs_last crs_bits crs_interval crs_units crs_blocksOfUnit crs_laid sto_length n_sto_b sto_b rd_at_73 rd_part_73 rd_left_73 rd_fault_73 dec_keeps dec_run (p1 + v6_73) H.size z1 hz1) ⟨(callB_of 1 hts (gi tw_752 rfl) rfl rfl rfl (hts _ (List.mem_cons_of_mem _ tw_14)) (hts _ (List.mem_cons_of_mem _ tw_749)) (by decide +kernel) ⟨Nat.le_of_ble_eq_true rfl, Nat.le_of_ble_eq_true rfl⟩), hts _ (List.mem_cons_of_mem _ tw_751), hts _ (List.mem_cons_of_mem _ ts_m752)⟩ ⟨g_blind, va_recv hK hP (ci := 5) (q0 := 6) rfl rfl, g_at hKN (g_pm hP [0, 1, 2, 3, 4, 5, 6] rfl) (hD.sub [0, 1, 2, 3, 4, 5, 6] (by decide) rfl)⟩ rfl rfl hl.1 rfl (lv_room (Nat.le_of_ble_eq_true rfl)) d_m748_115 ⟨Nat.zero_le _, Nat.zero_le _⟩) (fun H locs hP hD hS => ?_)
            refine W.eq (g2 := F0 m 118 ls []) rfl ?_
            refine lv_goto (tgt := 144) hx hb d_m748_118 (by decide) ?_
            exact J73_144 v5_73 z1.1 z1.2.1 z1.2.2.1 z1.2.2.2.1 z1.2.2.2.2 hf H locs ls hP hD hS hl
  have J150 : ∀ (pic_co_j150 : Nat → Int32) (rd_at_j150 : Int32) (rd_part_j150 : Int32) (rd_left_j150 : Int32) (rd_fault_j150 : Int32), f_Decoder_takeNewOne_J150 N rd_fault_j150 p2 pic_co_j150 rd_at_j150 rd_part_j150 rd_left_j150 = some z → GW (dC, dI) A p l e (headSpec ws_m748 rm_Decoder_takeNewOne).room s m args below meth c 0 0 Q 7 150 (w_Decoder_takeNewOne cI cB cS cT a_pic a_pic_co a_crs a_sto a_sto_b a_rd a_dec a_pic_h a_pic_v a_pic_ac a_pic_dn a_pic_oa a_pic_od a_pic_st a_crs_ow a_crs_pl a_crs_dt a_crs_ot a_tbs a_dec_p pic_many pic_unitsAcross pic_unitsDown pic_blocks n_pic_co pic_co_j150 crs_kind crs_first crs_last crs_bits crs_interval crs_units crs_blocksOfUnit crs_laid sto_length n_sto_b sto_b rd_at_j150 rd_part_j150 rd_left_j150 rd_fault_j150 dec_keeps dec_run) [(0, .ref a_dec), (3, .int p2)] [] := by
    intro pic_co_j150 rd_at_j150 rd_part_j150 rd_left_j150 rd_fault_j150 hf H locs ls hP hD hS hl
    unfold f_Decoder_takeNewOne_J150 at hf
    refine lv_aload_n hx hb d_m748_150 rfl (lv_at hl 0 rfl) ?_
    refine va_get (D := (dC, dI)) (ci := 5) (v := .ref a_rd) (C := "ScanCoder$Decoder") (T := T_5) (N := 7) hx hb hts n0 hown hK hP 6 rfl rfl 3 (by decide) k2 (fun _ h9 => h9) rfl d_m748_151 ?_
    refine va_get (D := (dC, dI)) (ci := 1) (v := .int rd_fault_j150) (C := "ScanCoder$BitReader") (T := T_1) (N := 5) hx hb hts n2 hown hK hP 5 rfl rfl 4 (by decide) k3 (fun _ h9 => h9) rfl d_m748_154 ?_
    refine lv_if_ne (tgt := 168) hx hb d_m748_157 (by decide) (fun hc => ?_) (fun hc => ?_)
    · replace hf := (if_neg hc).symm.trans hf
      refine lv_iload_n hx hb d_m748_168 rfl (lv_at hl 1 rfl) ?_
      obtain rfl := Option.some.inj hf
      subst hQ
      subst hAe
      exact W.iret (v := p2) hx hb hr (fun t ht hW => ⟨⟨p2, (), rfl, rfl, by rw [ht]; exact hP, hD⟩, hS.F ht⟩) hS.2.2 d_m748_169
    · replace hf := (if_pos hc).symm.trans hf
      refine lv_aload_n hx hb d_m748_160 rfl (lv_at hl 0 rfl) ?_
      refine va_get (D := (dC, dI)) (ci := 5) (v := .ref a_rd) (C := "ScanCoder$Decoder") (T := T_5) (N := 7) hx hb hts n0 hown hK hP 6 rfl rfl 3 (by decide) k2 (fun _ h9 => h9) rfl d_m748_161 ?_
      refine lv_iconst (v := (3 : Int32)) hx hb d_m748_164 (by decide) ?_
      refine va_put (D := (dC, dI)) (ci := 1) (v := .int (3 : Int32)) (ty := .int) (C := "ScanCoder$BitReader") (T := T_1) (N := 5) hx hb hts n2 ty_1 tyok_1 nm_1 hown hK hP hD hS 5 rfl rfl 4 (by decide) k3 (fun _ h9 => h9) rfl (by decide +kernel) rfl rfl (Nat.le_of_ble_eq_true rfl) d_m748_165 (fun H locs hP hD hS => ?_)
      have hP : va_P (dC, dI) vwCl (w_Decoder_takeNewOne cI cB cS cT a_pic a_pic_co a_crs a_sto a_sto_b a_rd a_dec a_pic_h a_pic_v a_pic_ac a_pic_dn a_pic_oa a_pic_od a_pic_st a_crs_ow a_crs_pl a_crs_dt a_crs_ot a_tbs a_dec_p pic_many pic_unitsAcross pic_unitsDown pic_blocks n_pic_co pic_co_j150 crs_kind crs_first crs_last crs_bits crs_interval crs_units crs_blocksOfUnit crs_laid sto_length n_sto_b sto_b rd_at_j150 rd_part_j150 rd_left_j150 (3 : Int32) dec_keeps dec_run) H := hP
      have hD : va_D A (w_Decoder_takeNewOne cI cB cS cT a_pic a_pic_co a_crs a_sto a_sto_b a_rd a_dec a_pic_h a_pic_v a_pic_ac a_pic_dn a_pic_oa a_pic_od a_pic_st a_crs_ow a_crs_pl a_crs_dt a_crs_ot a_tbs a_dec_p pic_many pic_unitsAcross pic_unitsDown pic_blocks n_pic_co pic_co_j150 crs_kind crs_first crs_last crs_bits crs_interval crs_units crs_blocksOfUnit crs_laid sto_length n_sto_b sto_b rd_at_j150 rd_part_j150 rd_left_j150 (3 : Int32) dec_keeps dec_run) := hD
      refine lv_iload_n hx hb d_m748_168 rfl (lv_at hl 1 rfl) ?_
      obtain rfl := Option.some.inj hf
      subst hQ
      subst hAe
      exact W.iret (v := p2) hx hb hr (fun t ht hW => ⟨⟨p2, (), rfl, rfl, by rw [ht]; exact hP, hD⟩, hS.F ht⟩) hS.2.2 d_m748_169
  have J65 : ∀ (v4_j65 : Int32) (rd_at_j65 : Int32) (rd_part_j65 : Int32) (rd_left_j65 : Int32) (rd_fault_j65 : Int32), f_Decoder_takeNewOne_J65 N crs_last p1 n_pic_co crs_bits sto_length n_sto_b sto_b dec_keeps p0 p2 pic_co rd_at_j65 rd_part_j65 rd_left_j65 rd_fault_j65 v4_j65 = some z → GW (dC, dI) A p l e (headSpec ws_m748 rm_Decoder_takeNewOne).room s m args below meth c 0 0 Q 7 65 (w_Decoder_takeNewOne cI cB cS cT a_pic a_pic_co a_crs a_sto a_sto_b a_rd a_dec a_pic_h a_pic_v a_pic_ac a_pic_dn a_pic_oa a_pic_od a_pic_st a_crs_ow a_crs_pl a_crs_dt a_crs_ot a_tbs a_dec_p pic_many pic_unitsAcross pic_unitsDown pic_blocks n_pic_co pic_co crs_kind crs_first crs_last crs_bits crs_interval crs_units crs_blocksOfUnit crs_laid sto_length n_sto_b sto_b rd_at_j65 rd_part_j65 rd_left_j65 rd_fault_j65 dec_keeps dec_run) [(0, .ref a_dec), (1, .int p0), (2, .int p1), (3, .int p2), (4, .int v4_j65)] [] := by
    intro v4_j65 rd_at_j65 rd_part_j65 rd_left_j65 rd_fault_j65 hf H locs ls hP hD hS hl
    unfold f_Decoder_takeNewOne_J65 at hf
    refine lv_iload_n hx hb d_m748_65 rfl (lv_at hl 1 rfl) ?_
    refine lv_iconst (v := (4 : Int32)) hx hb d_m748_66 (by decide) ?_
    refine lv_ishr hx hb d_m748_67 ?_
    refine lv_istore (lv' := [(5, .int (p0 >>> ((4 : Int32) &&& 31))), (0, .ref a_dec), (1, .int p0), (2, .int p1), (3, .int p2), (4, .int v4_j65)]) hx hb d_m748_68 hl (by decide) rfl (fun ls hl => ?_)
    refine lv_iload_n hx hb d_m748_70 rfl (lv_at hl 4 rfl) ?_
    refine lv_istore (lv' := [(6, .int p2), (5, .int (p0 >>> ((4 : Int32) &&& 31))), (0, .ref a_dec), (1, .int p0), (2, .int p1), (3, .int p2), (4, .int v4_j65)]) hx hb d_m748_71 hl (by decide) rfl (fun ls hl => ?_)
    obtain ⟨z2, hz2, hf⟩ := ob_bind hf
    refine L73 v4_j65 z2 ?_ ?_ N (p0 >>> ((4 : Int32) &&& 31)) p2 pic_co rd_at_j65 rd_part_j65 rd_left_j65 rd_fault_j65 hz2 H locs ls hP hD hS (lv_sub hl [2, 4, 5, 6, 1, 0] rfl)
    · intro hz H locs ls hP hD hS hl
      replace hf := (if_pos hz).symm.trans hf
      refine lv_aload_n hx hb d_m748_126 rfl (lv_at hl 0 rfl) ?_
      refine lv_iload_n hx hb d_m748_127 rfl (lv_at hl 1 rfl) ?_
      refine lv_iload hx hb d_m748_128 (lv_at hl 3 rfl) ?_
      refine lv_iadd hx hb d_m748_130 ?_
      refine lv_iload hx hb d_m748_131 (lv_at hl 2 rfl) ?_
      obtain ⟨z3, hz3, hf⟩ := ob_bind hf
      refine g_callv (wc := (w_Decoder_keep cI cB cS cT a_pic a_pic_co a_dec a_pic_h a_pic_v a_pic_ac a_pic_dn a_pic_oa a_pic_od a_pic_st a_crs a_tbs a_rd a_dec_p pic_many pic_unitsAcross pic_unitsDown pic_blocks n_pic_co z2.2.2.1 dec_keeps dec_run)) (w1 := (w_Decoder_keep cI cB cS cT a_pic a_pic_co a_dec a_pic_h a_pic_v a_pic_ac a_pic_dn a_pic_oa a_pic_od a_pic_st a_crs a_tbs a_rd a_dec_p pic_many pic_unitsAcross pic_unitsDown pic_blocks n_pic_co z3 dec_keeps dec_run)) (w2 := (w_Decoder_takeNewOne cI cB cS cT a_pic a_pic_co a_crs a_sto a_sto_b a_rd a_dec a_pic_h a_pic_v a_pic_ac a_pic_dn a_pic_oa a_pic_od a_pic_st a_crs_ow a_crs_pl a_crs_dt a_crs_ot a_tbs a_dec_p pic_many pic_unitsAcross pic_unitsDown pic_blocks n_pic_co z3 crs_kind crs_first crs_last crs_bits crs_interval crs_units crs_blocksOfUnit crs_laid sto_length n_sto_b sto_b z2.2.2.2.1 z2.2.2.2.2.1 z2.2.2.2.2.2.1 z2.2.2.2.2.2.2 dec_keeps dec_run)) [0, 1, 6] [some 0, some 1, none, none, none, none, some 2] hP hD hS hA rfl rfl rfl rfl (va_runV (As := [.int (p1 + z2.2.1), .int v4_j65]) (rest := []) ⟨hx, hb, hml, hown, hts⟩ (c_Decoder_keep l dC dI cI cB cS cT a_pic a_pic_co a_dec a_pic_h a_pic_v a_pic_ac a_pic_dn a_pic_oa a_pic_od a_pic_st a_crs a_tbs a_rd a_dec_p pic_many pic_unitsAcross pic_unitsDown pic_blocks n_pic_co z2.2.2.1 dec_keeps dec_run (p1 + z2.2.1) v4_j65 H.size z3 hz3) ⟨(callB_of 2 hts (gi tw_728 rfl) rfl rfl rfl (hts _ (List.mem_cons_of_mem _ tw_14)) (hts _ (List.mem_cons_of_mem _ tw_725)) (by decide +kernel) ⟨Nat.le_of_ble_eq_true rfl, Nat.le_of_ble_eq_true rfl⟩), hts _ (List.mem_cons_of_mem _ tw_727), hts _ (List.mem_cons_of_mem _ ts_m728)⟩ ⟨g_blind, va_recv hK hP (ci := 5) (q0 := 6) rfl rfl, g_at hKN (g_pm hP [0, 1, 6] rfl) (hD.sub [0, 1, 6] (by decide) rfl)⟩ rfl rfl hl.1 rfl (lv_room (Nat.le_of_ble_eq_true rfl)) d_m748_133 ⟨Nat.zero_le _, Nat.zero_le _⟩) (fun H locs hP hD hS => ?_)
      refine W.eq (g2 := F0 m 136 ls []) rfl ?_
      refine lv_iload hx hb d_m748_136 (lv_at hl 3 rfl) ?_
      refine lv_iconst (v := (1 : Int32)) hx hb d_m748_138 (by decide) ?_
      refine lv_iadd hx hb d_m748_139 ?_
      obtain rfl := Option.some.inj hf
      subst hQ
      subst hAe
      exact W.iret (v := z2.2.1 + (1 : Int32)) hx hb hr (fun t ht hW => ⟨⟨z2.2.1 + (1 : Int32), (), rfl, rfl, by rw [ht]; exact hP, hD⟩, hS.F ht⟩) hS.2.2 d_m748_140
    · intro hz H locs ls hP hD hS hl
      replace hf := (if_neg (by rw [hz]; decide)).symm.trans hf
      exact J150 z2.2.2.1 z2.2.2.2.1 z2.2.2.2.2.1 z2.2.2.2.2.2.1 z2.2.2.2.2.2.2 hf H locs ls hP hD hS hl
  have J63 : ∀ (rd_at_j63 : Int32) (rd_part_j63 : Int32) (rd_left_j63 : Int32) (rd_fault_j63 : Int32) (s0_j63 : Int32), f_Decoder_takeNewOne_J63 N crs_last p1 n_pic_co crs_bits sto_length n_sto_b sto_b dec_keeps p0 p2 pic_co rd_at_j63 rd_part_j63 rd_left_j63 rd_fault_j63 s0_j63 = some z → GW (dC, dI) A p l e (headSpec ws_m748 rm_Decoder_takeNewOne).room s m args below meth c 0 0 Q 7 63 (w_Decoder_takeNewOne cI cB cS cT a_pic a_pic_co a_crs a_sto a_sto_b a_rd a_dec a_pic_h a_pic_v a_pic_ac a_pic_dn a_pic_oa a_pic_od a_pic_st a_crs_ow a_crs_pl a_crs_dt a_crs_ot a_tbs a_dec_p pic_many pic_unitsAcross pic_unitsDown pic_blocks n_pic_co pic_co crs_kind crs_first crs_last crs_bits crs_interval crs_units crs_blocksOfUnit crs_laid sto_length n_sto_b sto_b rd_at_j63 rd_part_j63 rd_left_j63 rd_fault_j63 dec_keeps dec_run) [(0, .ref a_dec), (1, .int p0), (2, .int p1), (3, .int p2)] [.int s0_j63] := by
    intro rd_at_j63 rd_part_j63 rd_left_j63 rd_fault_j63 s0_j63 hf H locs ls hP hD hS hl
    unfold f_Decoder_takeNewOne_J63 at hf
    refine lv_istore (lv' := [(4, .int s0_j63), (0, .ref a_dec), (1, .int p0), (2, .int p1), (3, .int p2)]) hx hb d_m748_63 hl (by decide) rfl (fun ls hl => ?_)
    exact J65 s0_j63 rd_at_j63 rd_part_j63 rd_left_j63 rd_fault_j63 hf H locs ls hP hD hS (lv_sub hl [1, 2, 3, 4, 0] rfl)
  have hgo : ∀ (H : Heap) (locs : List Loc), va_P (dC, dI) vwCl (w_Decoder_takeNewOne cI cB cS cT a_pic a_pic_co a_crs a_sto a_sto_b a_rd a_dec a_pic_h a_pic_v a_pic_ac a_pic_dn a_pic_oa a_pic_od a_pic_st a_crs_ow a_crs_pl a_crs_dt a_crs_ot a_tbs a_dec_p pic_many pic_unitsAcross pic_unitsDown pic_blocks n_pic_co pic_co crs_kind crs_first crs_last crs_bits crs_interval crs_units crs_blocksOfUnit crs_laid sto_length n_sto_b sto_b rd_at rd_part rd_left rd_fault dec_keeps dec_run) H → va_S A s.heap H locs → W p l e (headSpec ws_m748 rm_Decoder_takeNewOne).room s m args below meth c H locs 0 0 Q (F0 m 0 ls []) := by
    intro H locs hP hS
    unfold f_Decoder_takeNewOne at hf
    refine lv_iload_n hx hb d_m748_0 rfl (lv_at hl 1 rfl) ?_
    refine lv_bipush (v := (15 : Int32)) hx hb d_m748_1 (by decide) ?_
    refine lv_iand hx hb d_m748_3 ?_
    refine lv_iconst (v := (1 : Int32)) hx hb d_m748_4 (by decide) ?_
    refine lv_icmp_le (tgt := 18) hx hb d_m748_5 (by decide) (fun hc => ?_) (fun hc => ?_)
    · replace hf := (if_pos hc).symm.trans hf
      refine lv_iconst (v := (0 : Int32)) hx hb d_m748_18 (by decide) ?_
      refine lv_istore (lv' := [(4, .int (0 : Int32)), (0, .ref a_dec), (1, .int p0), (2, .int p1), (3, .int p2)]) hx hb d_m748_19 hl (by decide) rfl (fun ls hl => ?_)
      refine lv_iload_n hx hb d_m748_21 rfl (lv_at hl 2 rfl) ?_
      refine lv_bipush (v := (15 : Int32)) hx hb d_m748_22 (by decide) ?_
      refine lv_iand hx hb d_m748_24 ?_
      refine lv_iconst (v := (1 : Int32)) hx hb d_m748_25 (by decide) ?_
      refine lv_icmp_ne (tgt := 65) hx hb d_m748_26 (by decide) (fun hc => ?_) (fun hc => ?_)
      · replace hf := (if_neg hc).symm.trans hf
        exact J65 (0 : Int32) rd_at rd_part rd_left rd_fault hf H locs ls hP hD hS (lv_sub hl [1, 2, 3, 4, 0] rfl)
      · replace hf := (if_pos hc).symm.trans hf
        refine lv_aload_n hx hb d_m748_29 rfl (lv_at hl 1 rfl) ?_
        refine va_get (D := (dC, dI)) (ci := 5) (v := .ref a_rd) (C := "ScanCoder$Decoder") (T := T_5) (N := 7) hx hb hts n0 hown hK hP 6 rfl rfl 3 (by decide) k2 (fun _ h9 => h9) rfl d_m748_30 ?_
        refine lv_iconst (v := (1 : Int32)) hx hb d_m748_33 (by decide) ?_
        obtain ⟨z4, hz4, hf⟩ := ob_bind hf
        refine g_calli (wc := (w_BitReader_takeBits cI cB cS cT a_sto a_sto_b a_rd sto_length n_sto_b sto_b rd_at rd_part rd_left rd_fault)) (w1 := (w_BitReader_takeBits cI cB cS cT a_sto a_sto_b a_rd sto_length n_sto_b sto_b z4.2.1 z4.2.2.1 z4.2.2.2.1 z4.2.2.2.2)) (w2 := (w_Decoder_takeNewOne cI cB cS cT a_pic a_pic_co a_crs a_sto a_sto_b a_rd a_dec a_pic_h a_pic_v a_pic_ac a_pic_dn a_pic_oa a_pic_od a_pic_st a_crs_ow a_crs_pl a_crs_dt a_crs_ot a_tbs a_dec_p pic_many pic_unitsAcross pic_unitsDown pic_blocks n_pic_co pic_co crs_kind crs_first crs_last crs_bits crs_interval crs_units crs_blocksOfUnit crs_laid sto_length n_sto_b sto_b z4.2.1 z4.2.2.1 z4.2.2.2.1 z4.2.2.2.2 dec_keeps dec_run)) [3, 4, 5] [none, none, none, some 0, some 1, some 2, none] hP hD hS hA rfl rfl rfl rfl (va_runV (As := [.int (1 : Int32)]) (rest := []) ⟨hx, hb, hml, hown, hts⟩ (c_BitReader_takeBits l dC dI cI cB cS cT N a_sto a_sto_b a_rd sto_length n_sto_b sto_b rd_at rd_part rd_left rd_fault (1 : Int32) H.size z4 hz4) ⟨(callB_of 1 hts (gi tw_706 rfl) rfl rfl rfl (hts _ (List.mem_cons_of_mem _ tw_15)) (hts _ (List.mem_cons_of_mem _ tw_719)) (by decide +kernel) ⟨Nat.le_of_ble_eq_true rfl, Nat.le_of_ble_eq_true rfl⟩), hts _ (List.mem_cons_of_mem _ tw_704), hts _ (List.mem_cons_of_mem _ tw_705)⟩ ⟨g_blind, va_recv hK hP (ci := 1) (q0 := 5) rfl rfl, g_at hKN (g_pm hP [3, 4, 5] rfl) (hD.sub [3, 4, 5] (by decide) rfl)⟩ rfl rfl hl.1 rfl (lv_room (Nat.le_of_ble_eq_true rfl)) d_m748_34 ⟨Nat.zero_le _, Nat.zero_le _⟩) (fun H locs hP hD hS => ?_)
        refine W.eq (g2 := F0 m 37 ls [.int z4.1]) rfl ?_
        refine lv_iconst (v := (1 : Int32)) hx hb d_m748_37 (by decide) ?_
        refine lv_icmp_ne (tgt := 53) hx hb d_m748_38 (by decide) (fun hc => ?_) (fun hc => ?_)
        · replace hf := (if_neg hc).symm.trans hf
          refine lv_iconst (v := (1 : Int32)) hx hb d_m748_53 (by decide) ?_
          refine lv_aload_n hx hb d_m748_54 rfl (lv_at hl 1 rfl) ?_
          refine va_get (D := (dC, dI)) (ci := 5) (v := .ref a_crs) (C := "ScanCoder$Decoder") (T := T_5) (N := 7) hx hb hts n0 hown hK hP 6 rfl rfl 1 (by decide) k0 (fun _ h9 => h9) rfl d_m748_55 ?_
          refine va_get (D := (dC, dI)) (ci := 4) (v := .int crs_bits) (C := "ScanCoder$Course") (T := T_4) (N := 13) hx hb hts n1 hown hK hP 2 rfl rfl 8 (by decide) k6 (fun _ h9 => h9) rfl d_m748_58 ?_
          refine lv_ishl hx hb d_m748_61 ?_
          refine lv_ineg hx hb d_m748_62 ?_
          exact J63 z4.2.1 z4.2.2.1 z4.2.2.2.1 z4.2.2.2.2 (-((1 : Int32) <<< (crs_bits &&& 31))) hf H locs ls hP hD hS (lv_sub hl [1, 2, 3, 4] rfl)
        · replace hf := (if_pos hc).symm.trans hf
          refine lv_iconst (v := (1 : Int32)) hx hb d_m748_41 (by decide) ?_
          refine lv_aload_n hx hb d_m748_42 rfl (lv_at hl 1 rfl) ?_
          refine va_get (D := (dC, dI)) (ci := 5) (v := .ref a_crs) (C := "ScanCoder$Decoder") (T := T_5) (N := 7) hx hb hts n0 hown hK hP 6 rfl rfl 1 (by decide) k0 (fun _ h9 => h9) rfl d_m748_43 ?_
          refine va_get (D := (dC, dI)) (ci := 4) (v := .int crs_bits) (C := "ScanCoder$Course") (T := T_4) (N := 13) hx hb hts n1 hown hK hP 2 rfl rfl 8 (by decide) k6 (fun _ h9 => h9) rfl d_m748_46 ?_
          refine lv_ishl hx hb d_m748_49 ?_
          refine lv_goto (tgt := 63) hx hb d_m748_50 (by decide) ?_
          exact J63 z4.2.1 z4.2.2.1 z4.2.2.2.1 z4.2.2.2.2 ((1 : Int32) <<< (crs_bits &&& 31)) hf H locs ls hP hD hS (lv_sub hl [1, 2, 3, 4] rfl)
    · replace hf := (if_neg hc).symm.trans hf
      refine lv_aload_n hx hb d_m748_8 rfl (lv_at hl 0 rfl) ?_
      refine va_get (D := (dC, dI)) (ci := 5) (v := .ref a_rd) (C := "ScanCoder$Decoder") (T := T_5) (N := 7) hx hb hts n0 hown hK hP 6 rfl rfl 3 (by decide) k2 (fun _ h9 => h9) rfl d_m748_9 ?_
      refine lv_iconst (v := (3 : Int32)) hx hb d_m748_12 (by decide) ?_
      refine va_put (D := (dC, dI)) (ci := 1) (v := .int (3 : Int32)) (ty := .int) (C := "ScanCoder$BitReader") (T := T_1) (N := 5) hx hb hts n2 ty_1 tyok_1 nm_1 hown hK hP hD hS 5 rfl rfl 4 (by decide) k3 (fun _ h9 => h9) rfl (by decide +kernel) rfl rfl (Nat.le_of_ble_eq_true rfl) d_m748_13 (fun H locs hP hD hS => ?_)
      have hP : va_P (dC, dI) vwCl (w_Decoder_takeNewOne cI cB cS cT a_pic a_pic_co a_crs a_sto a_sto_b a_rd a_dec a_pic_h a_pic_v a_pic_ac a_pic_dn a_pic_oa a_pic_od a_pic_st a_crs_ow a_crs_pl a_crs_dt a_crs_ot a_tbs a_dec_p pic_many pic_unitsAcross pic_unitsDown pic_blocks n_pic_co pic_co crs_kind crs_first crs_last crs_bits crs_interval crs_units crs_blocksOfUnit crs_laid sto_length n_sto_b sto_b rd_at rd_part rd_left (3 : Int32) dec_keeps dec_run) H := hP
      have hD : va_D A (w_Decoder_takeNewOne cI cB cS cT a_pic a_pic_co a_crs a_sto a_sto_b a_rd a_dec a_pic_h a_pic_v a_pic_ac a_pic_dn a_pic_oa a_pic_od a_pic_st a_crs_ow a_crs_pl a_crs_dt a_crs_ot a_tbs a_dec_p pic_many pic_unitsAcross pic_unitsDown pic_blocks n_pic_co pic_co crs_kind crs_first crs_last crs_bits crs_interval crs_units crs_blocksOfUnit crs_laid sto_length n_sto_b sto_b rd_at rd_part rd_left (3 : Int32) dec_keeps dec_run) := hD
      refine lv_iload_n hx hb d_m748_16 rfl (lv_at hl 3 rfl) ?_
      obtain rfl := Option.some.inj hf
      subst hQ
      subst hAe
      exact W.iret (v := p2) hx hb hr (fun t ht hW => ⟨⟨p2, (), rfl, rfl, by rw [ht]; exact hP, hD⟩, hS.F ht⟩) hS.2.2 d_m748_17
  exact hgo _ _ hP hS
def f_Decoder_refineRest_J2_44 (N : Nat) (rec : (Int32 × (Nat → Int32) × Int32 × Int32 × Int32 × Int32) → Option ((Nat → Int32) × Int32 × Int32 × Int32 × Int32)) (v3_2 : Int32) (pic_co_j44 : Nat → Int32) (rd_at_j44 : Int32) (rd_part_j44 : Int32) (rd_left_j44 : Int32) (rd_fault_j44 : Int32) : Option ((Nat → Int32) × Int32 × Int32 × Int32 × Int32) :=
  rec (v3_2 + (1 : Int32), pic_co_j44, rd_at_j44, rd_part_j44, rd_left_j44, rd_fault_j44)
def f_Decoder_refineRest_L2b (crs_last : Int32) (p0 : Int32) (n_pic_co : Nat) (crs_bits : Int32) (sto_length : Int32) (n_sto_b : Nat) (sto_b : Nat → Int32) (dec_keeps : Int32) (N : Nat) (rec : (Int32 × (Nat → Int32) × Int32 × Int32 × Int32 × Int32) → Option ((Nat → Int32) × Int32 × Int32 × Int32 × Int32)) (v3_2 : Int32) (pic_co_2 : Nat → Int32) (rd_at_2 : Int32) (rd_part_2 : Int32) (rd_left_2 : Int32) (rd_fault_2 : Int32) : Option ((Nat → Int32) × Int32 × Int32 × Int32 × Int32) :=
  if crs_last < v3_2 then
    some (pic_co_2, rd_at_2, rd_part_2, rd_left_2, rd_fault_2)
  else
    if rd_fault_2 = 0 then
      if (p0 + v3_2) < 0 ∨ n_pic_co ≤ (p0 + v3_2).toNatClampNeg then none else
      if (pic_co_2 (p0 + v3_2).toNatClampNeg) = 0 then
        f_Decoder_refineRest_J2_44 N rec v3_2 pic_co_2 rd_at_2 rd_part_2 rd_left_2 rd_fault_2
      else
        (f_Decoder_refineOther N (p0 + v3_2) n_pic_co pic_co_2 crs_bits sto_length n_sto_b sto_b rd_at_2 rd_part_2 rd_left_2 rd_fault_2 dec_keeps).bind fun z1 =>
        f_Decoder_refineRest_J2_44 N rec v3_2 z1.1 z1.2.1 z1.2.2.1 z1.2.2.2.1 z1.2.2.2.2
    else
      some (pic_co_2, rd_at_2, rd_part_2, rd_left_2, rd_fault_2)
def f_Decoder_refineRest_L2 (crs_last : Int32) (p0 : Int32) (n_pic_co : Nat) (crs_bits : Int32) (sto_length : Int32) (n_sto_b : Nat) (sto_b : Nat → Int32) (dec_keeps : Int32) (N : Nat) (k : Nat) : (Int32 × (Nat → Int32) × Int32 × Int32 × Int32 × Int32) → Option ((Nat → Int32) × Int32 × Int32 × Int32 × Int32) := it (fun rec a => f_Decoder_refineRest_L2b crs_last p0 n_pic_co crs_bits sto_length n_sto_b sto_b dec_keeps N rec a.1 a.2.1 a.2.2.1 a.2.2.2.1 a.2.2.2.2.1 a.2.2.2.2.2) k
def f_Decoder_refineRest (N : Nat) (p0 : Int32) (p1 : Int32) (n_pic_co : Nat) (pic_co : Nat → Int32) (crs_last : Int32) (crs_bits : Int32) (sto_length : Int32) (n_sto_b : Nat) (sto_b : Nat → Int32) (rd_at : Int32) (rd_part : Int32) (rd_left : Int32) (rd_fault : Int32) (dec_keeps : Int32) : Option ((Nat → Int32) × Int32 × Int32 × Int32 × Int32) :=
  (f_Decoder_refineRest_L2 crs_last p0 n_pic_co crs_bits sto_length n_sto_b sto_b dec_keeps N N (p1, pic_co, rd_at, rd_part, rd_left, rd_fault)).bind fun z2 =>
    some (z2.1, z2.2.1, z2.2.2.1, z2.2.2.2.1, z2.2.2.2.2)
abbrev w_Decoder_refineRest (cI cB cS cT : ClassId) (a_pic : Nat) (a_pic_co : Nat) (a_crs : Nat) (a_sto : Nat) (a_sto_b : Nat) (a_rd : Nat) (a_dec : Nat) (a_pic_h : Nat) (a_pic_v : Nat) (a_pic_ac : Nat) (a_pic_dn : Nat) (a_pic_oa : Nat) (a_pic_od : Nat) (a_pic_st : Nat) (a_crs_ow : Nat) (a_crs_pl : Nat) (a_crs_dt : Nat) (a_crs_ot : Nat) (a_tbs : Nat) (a_dec_p : Nat) (pic_many : Int32) (pic_unitsAcross : Int32) (pic_unitsDown : Int32) (pic_blocks : Int32) (n_pic_co : Nat) (pic_co : Nat → Int32) (crs_kind : Int32) (crs_first : Int32) (crs_last : Int32) (crs_bits : Int32) (crs_interval : Int32) (crs_units : Int32) (crs_blocksOfUnit : Int32) (crs_laid : Int32) (sto_length : Int32) (n_sto_b : Nat) (sto_b : Nat → Int32) (rd_at : Int32) (rd_part : Int32) (rd_left : Int32) (rd_fault : Int32) (dec_keeps : Int32) (dec_run : Int32) : va_W := [(a_pic, .inr (8, [.ref a_pic_h, .ref a_pic_v, .ref a_pic_ac, .ref a_pic_dn, .ref a_pic_oa, .ref a_pic_od, .ref a_pic_st, .int pic_many, .int pic_unitsAcross, .int pic_unitsDown, .int pic_blocks, .ref a_pic_co])), (a_pic_co, .inl (cS, n_pic_co, .inl pic_co)), (a_crs, .inr (4, [.ref a_pic, .ref a_crs_ow, .ref a_crs_pl, .ref a_crs_dt, .ref a_crs_ot, .int crs_kind, .int crs_first, .int crs_last, .int crs_bits, .int crs_interval, .int crs_units, .int crs_blocksOfUnit, .int crs_laid])), (a_sto, .inr (9, [.ref a_sto_b, .int sto_length])), (a_sto_b, .inl (cB, n_sto_b, .inl sto_b)), (a_rd, .inr (1, [.ref a_sto, .int rd_at, .int rd_part, .int rd_left, .int rd_fault])), (a_dec, .inr (5, [.ref a_pic, .ref a_crs, .ref a_tbs, .ref a_rd, .ref a_dec_p, .int dec_keeps, .int dec_run]))]
def rm_Decoder_refineRest : Room := { frames := 3, cells := 0, slots := 0, locals := 68 }
set_option maxHeartbeats 1000000 in
set_option maxRecDepth 100000 in
theorem c_Decoder_refineRest (l : Launch) (dC : Nat → ClassId) (dI : Nat → Nat → Nat) (cI cB cS cT : ClassId) (N : Nat) (a_pic : Nat) (a_pic_co : Nat) (a_crs : Nat) (a_sto : Nat) (a_sto_b : Nat) (a_rd : Nat) (a_dec : Nat) (a_pic_h : Nat) (a_pic_v : Nat) (a_pic_ac : Nat) (a_pic_dn : Nat) (a_pic_oa : Nat) (a_pic_od : Nat) (a_pic_st : Nat) (a_crs_ow : Nat) (a_crs_pl : Nat) (a_crs_dt : Nat) (a_crs_ot : Nat) (a_tbs : Nat) (a_dec_p : Nat) (pic_many : Int32) (pic_unitsAcross : Int32) (pic_unitsDown : Int32) (pic_blocks : Int32) (n_pic_co : Nat) (pic_co : Nat → Int32) (crs_kind : Int32) (crs_first : Int32) (crs_last : Int32) (crs_bits : Int32) (crs_interval : Int32) (crs_units : Int32) (crs_blocksOfUnit : Int32) (crs_laid : Int32) (sto_length : Int32) (n_sto_b : Nat) (sto_b : Nat → Int32) (rd_at : Int32) (rd_part : Int32) (rd_left : Int32) (rd_fault : Int32) (dec_keeps : Int32) (dec_run : Int32) (p0 : Int32) (p1 : Int32) (sz : Nat) (z : (Nat → Int32) × Int32 × Int32 × Int32 × Int32) (hf : f_Decoder_refineRest N p0 p1 n_pic_co pic_co crs_last crs_bits sto_length n_sto_b sto_b rd_at rd_part rd_left rd_fault dec_keeps = some z) : Met l y_m761 ws_m761 rm_Decoder_refineRest (gPre (dC, dI) [.ref a_dec, .int p0, .int p1] (gT cI cB cS cT) (w_Decoder_refineRest cI cB cS cT a_pic a_pic_co a_crs a_sto a_sto_b a_rd a_dec a_pic_h a_pic_v a_pic_ac a_pic_dn a_pic_oa a_pic_od a_pic_st a_crs_ow a_crs_pl a_crs_dt a_crs_ot a_tbs a_dec_p pic_many pic_unitsAcross pic_unitsDown pic_blocks n_pic_co pic_co crs_kind crs_first crs_last crs_bits crs_interval crs_units crs_blocksOfUnit crs_laid sto_length n_sto_b sto_b rd_at rd_part rd_left rd_fault dec_keeps dec_run) sz) (gQv (dC, dI) (gT cI cB cS cT) (w_Decoder_refineRest cI cB cS cT a_pic a_pic_co a_crs a_sto a_sto_b a_rd a_dec a_pic_h a_pic_v a_pic_ac a_pic_dn a_pic_oa a_pic_od a_pic_st a_crs_ow a_crs_pl a_crs_dt a_crs_ot a_tbs a_dec_p pic_many pic_unitsAcross pic_unitsDown pic_blocks n_pic_co pic_co crs_kind crs_first crs_last crs_bits crs_interval crs_units crs_blocksOfUnit crs_laid sto_length n_sto_b sto_b rd_at rd_part rd_left rd_fault dec_keeps dec_run) (w_Decoder_refineRest cI cB cS cT a_pic a_pic_co a_crs a_sto a_sto_b a_rd a_dec a_pic_h a_pic_v a_pic_ac a_pic_dn a_pic_oa a_pic_od a_pic_st a_crs_ow a_crs_pl a_crs_dt a_crs_ot a_tbs a_dec_p pic_many pic_unitsAcross pic_unitsDown pic_blocks n_pic_co z.1 crs_kind crs_first crs_last crs_bits crs_interval crs_units crs_blocksOfUnit crs_laid sto_length n_sto_b sto_b z.2.1 z.2.2.1 z.2.2.2.1 z.2.2.2.2 dec_keeps dec_run) sz) 0 0 (va_A (w_Decoder_refineRest cI cB cS cT a_pic a_pic_co a_crs a_sto a_sto_b a_rd a_dec a_pic_h a_pic_v a_pic_ac a_pic_dn a_pic_oa a_pic_od a_pic_st a_crs_ow a_crs_pl a_crs_dt a_crs_ot a_tbs a_dec_p pic_many pic_unitsAcross pic_unitsDown pic_blocks n_pic_co pic_co crs_kind crs_first crs_last crs_bits crs_interval crs_units crs_blocksOfUnit crs_laid sto_length n_sto_b sto_b rd_at rd_part rd_left rd_fault dec_keeps dec_run) sz) := by
  refine Met.ofW (cc := prog_6_method_16_code) (maxL := 4) (ret := none) (by decide) rfl ?_
  intro p e s m args below meth c s₁ B hml hv
  obtain ⟨hargs, hsz, hP, hKN, hD0⟩ := hv
  have hK := hKN.1
  have hx := B.exec
  have hb := B.bytes
  have hr := B.returns
  have hts := atoms_spec (ws := ws_m761) B.pre
  have hown : s.vm.findClass "ScanCoder$Decoder" = some m.cls := findClass_of_methodNamed B.named
  have hlocks := B.notSynchronized
  have k0 := hts _ (List.mem_cons_of_mem _ tw_398)
  have k1 := hts _ (List.mem_cons_of_mem _ tw_180)
  have k2 := hts _ (List.mem_cons_of_mem _ tw_400)
  have k3 := hts _ (List.mem_cons_of_mem _ tw_381)
  have k4 := hts _ (List.mem_cons_of_mem _ tw_397)
  have k5 := hts _ (List.mem_cons_of_mem _ tw_81)
  have n0 : ∀ w ∈ u_ws "ScanCoder$Decoder" T_5 7, w ∈ ws_m761 := fun w h => List.mem_cons_of_mem _ (in_5 w h)
  have n1 : ∀ w ∈ u_ws "ScanCoder$Course" T_4 13, w ∈ ws_m761 := fun w h => List.mem_cons_of_mem _ (in_4 w h)
  have n2 : ∀ w ∈ u_ws "ScanCoder$BitReader" T_1 5, w ∈ ws_m761 := fun w h => List.mem_cons_of_mem _ (in_1 w h)
  have n3 : ∀ w ∈ u_ws "ScanCoder$Picture" T_8 12, w ∈ ws_m761 := fun w h => List.mem_cons_of_mem _ (in_8 w h)
  subst hsz
  have hD := hD0.self (sz := s.heap.size)
  obtain ⟨A, hAe⟩ : ∃ A : Nat → Prop, va_A (w_Decoder_refineRest cI cB cS cT a_pic a_pic_co a_crs a_sto a_sto_b a_rd a_dec a_pic_h a_pic_v a_pic_ac a_pic_dn a_pic_oa a_pic_od a_pic_st a_crs_ow a_crs_pl a_crs_dt a_crs_ot a_tbs a_dec_p pic_many pic_unitsAcross pic_unitsDown pic_blocks n_pic_co pic_co crs_kind crs_first crs_last crs_bits crs_interval crs_units crs_blocksOfUnit crs_laid sto_length n_sto_b sto_b rd_at rd_part rd_left rd_fault dec_keeps dec_run) s.heap.size = A := ⟨_, rfl⟩
  rw [hAe] at hD
  have hA : ∀ q : Nat, s.heap.size ≤ q → A q := fun q h => by rw [← hAe]; exact Or.inr h
  have hS : va_S A s.heap s.heap [] := va_S.rf
  have hl := lv_entry ([.ref a_dec, .int p0, .int p1]) (n := 4) (Nat.le_of_ble_eq_true rfl)
  have hfr : entryFrame m args 4 = F0 m 0 ((lg_sl ([.ref a_dec, .int p0, .int p1]) ++ List.replicate (4 - (lg_sl ([.ref a_dec, .int p0, .int p1])).length) Slot.unset).toArray) [] := by rw [hargs]; exact lg_entry_eq _ _ _
  rw [hfr]
  generalize (lg_sl ([.ref a_dec, .int p0, .int p1]) ++ List.replicate (4 - (lg_sl ([.ref a_dec, .int p0, .int p1])).length) Slot.unset).toArray = ls at hl ⊢
  have hl : lv_has ls 4 [(0, .ref a_dec), (1, .int p0), (2, .int p1)] := hl
  refine gen_Q (fun Q hQ => ?_)
  clear hfr
  have L2 : ∀  (z : (Nat → Int32) × Int32 × Int32 × Int32 × Int32), (GW (dC, dI) A p l e (headSpec ws_m761 rm_Decoder_refineRest).room s m args below meth c 0 0 Q 4 50 (w_Decoder_refineRest cI cB cS cT a_pic a_pic_co a_crs a_sto a_sto_b a_rd a_dec a_pic_h a_pic_v a_pic_ac a_pic_dn a_pic_oa a_pic_od a_pic_st a_crs_ow a_crs_pl a_crs_dt a_crs_ot a_tbs a_dec_p pic_many pic_unitsAcross pic_unitsDown pic_blocks n_pic_co z.1 crs_kind crs_first crs_last crs_bits crs_interval crs_units crs_blocksOfUnit crs_laid sto_length n_sto_b sto_b z.2.1 z.2.2.1 z.2.2.2.1 z.2.2.2.2 dec_keeps dec_run) [] []) → ∀ (k : Nat) (v3_2 : Int32) (pic_co_2 : Nat → Int32) (rd_at_2 : Int32) (rd_part_2 : Int32) (rd_left_2 : Int32) (rd_fault_2 : Int32), f_Decoder_refineRest_L2 crs_last p0 n_pic_co crs_bits sto_length n_sto_b sto_b dec_keeps N k (v3_2, pic_co_2, rd_at_2, rd_part_2, rd_left_2, rd_fault_2) = some z → GW (dC, dI) A p l e (headSpec ws_m761 rm_Decoder_refineRest).room s m args below meth c 0 0 Q 4 2 (w_Decoder_refineRest cI cB cS cT a_pic a_pic_co a_crs a_sto a_sto_b a_rd a_dec a_pic_h a_pic_v a_pic_ac a_pic_dn a_pic_oa a_pic_od a_pic_st a_crs_ow a_crs_pl a_crs_dt a_crs_ot a_tbs a_dec_p pic_many pic_unitsAcross pic_unitsDown pic_blocks n_pic_co pic_co_2 crs_kind crs_first crs_last crs_bits crs_interval crs_units crs_blocksOfUnit crs_laid sto_length n_sto_b sto_b rd_at_2 rd_part_2 rd_left_2 rd_fault_2 dec_keeps dec_run) [(0, .ref a_dec), (1, .int p0), (3, .int v3_2)] [] := by
    intro  z hE0 k
    induction k with
    | zero =>
      intro v3_2 pic_co_2 rd_at_2 rd_part_2 rd_left_2 rd_fault_2 hf
      exact (it_zero hf).elim
    | succ k ih =>
      intro v3_2 pic_co_2 rd_at_2 rd_part_2 rd_left_2 rd_fault_2 hf H locs ls hP hD hS hl
      have J2_44 : ∀ (pic_co_j44 : Nat → Int32) (rd_at_j44 : Int32) (rd_part_j44 : Int32) (rd_left_j44 : Int32) (rd_fault_j44 : Int32), f_Decoder_refineRest_J2_44 N (f_Decoder_refineRest_L2 crs_last p0 n_pic_co crs_bits sto_length n_sto_b sto_b dec_keeps N k) v3_2 pic_co_j44 rd_at_j44 rd_part_j44 rd_left_j44 rd_fault_j44 = some z → GW (dC, dI) A p l e (headSpec ws_m761 rm_Decoder_refineRest).room s m args below meth c 0 0 Q 4 44 (w_Decoder_refineRest cI cB cS cT a_pic a_pic_co a_crs a_sto a_sto_b a_rd a_dec a_pic_h a_pic_v a_pic_ac a_pic_dn a_pic_oa a_pic_od a_pic_st a_crs_ow a_crs_pl a_crs_dt a_crs_ot a_tbs a_dec_p pic_many pic_unitsAcross pic_unitsDown pic_blocks n_pic_co pic_co_j44 crs_kind crs_first crs_last crs_bits crs_interval crs_units crs_blocksOfUnit crs_laid sto_length n_sto_b sto_b rd_at_j44 rd_part_j44 rd_left_j44 rd_fault_j44 dec_keeps dec_run) [(0, .ref a_dec), (1, .int p0), (3, .int v3_2)] [] := by
        intro pic_co_j44 rd_at_j44 rd_part_j44 rd_left_j44 rd_fault_j44 hf H locs ls hP hD hS hl
        unfold f_Decoder_refineRest_J2_44 at hf
        refine lv_iinc (v := v3_2 + (1 : Int32)) (lv' := [(3, .int (v3_2 + (1 : Int32))), (0, .ref a_dec), (1, .int p0)]) hx hb d_m761_44 hl (k := 2) rfl rfl (by decide) rfl (fun ls hl => ?_)
        refine lv_goto (tgt := 2) hx hb d_m761_47 (by decide) ?_
        exact ih (v3_2 + (1 : Int32)) pic_co_j44 rd_at_j44 rd_part_j44 rd_left_j44 rd_fault_j44 hf H locs ls hP hD hS (lv_sub hl [1, 2, 0] rfl)
      have hf : f_Decoder_refineRest_L2b crs_last p0 n_pic_co crs_bits sto_length n_sto_b sto_b dec_keeps N (f_Decoder_refineRest_L2 crs_last p0 n_pic_co crs_bits sto_length n_sto_b sto_b dec_keeps N k) v3_2 pic_co_2 rd_at_2 rd_part_2 rd_left_2 rd_fault_2 = some z := hf
      unfold f_Decoder_refineRest_L2b at hf
      refine lv_iload_n hx hb d_m761_2 rfl (lv_at hl 2 rfl) ?_
      refine lv_aload_n hx hb d_m761_3 rfl (lv_at hl 0 rfl) ?_
      refine va_get (D := (dC, dI)) (ci := 5) (v := .ref a_crs) (C := "ScanCoder$Decoder") (T := T_5) (N := 7) hx hb hts n0 hown hK hP 6 rfl rfl 1 (by decide) k0 (fun _ h9 => h9) rfl d_m761_4 ?_
      refine va_get (D := (dC, dI)) (ci := 4) (v := .int crs_last) (C := "ScanCoder$Course") (T := T_4) (N := 13) hx hb hts n1 hown hK hP 2 rfl rfl 7 (by decide) k1 (fun _ h9 => h9) rfl d_m761_7 ?_
      refine lv_icmp_gt (tgt := 50) hx hb d_m761_10 (by decide) (fun hc => ?_) (fun hc => ?_)
      · replace hf := (if_pos hc).symm.trans hf
        obtain rfl := Option.some.inj hf
        exact hE0  H locs ls hP hD hS (lv_sub hl [] rfl)
      · replace hf := (if_neg hc).symm.trans hf
        refine lv_aload_n hx hb d_m761_13 rfl (lv_at hl 0 rfl) ?_
        refine va_get (D := (dC, dI)) (ci := 5) (v := .ref a_rd) (C := "ScanCoder$Decoder") (T := T_5) (N := 7) hx hb hts n0 hown hK hP 6 rfl rfl 3 (by decide) k2 (fun _ h9 => h9) rfl d_m761_14 ?_
        refine va_get (D := (dC, dI)) (ci := 1) (v := .int rd_fault_2) (C := "ScanCoder$BitReader") (T := T_1) (N := 5) hx hb hts n2 hown hK hP 5 rfl rfl 4 (by decide) k3 (fun _ h9 => h9) rfl d_m761_17 ?_
        refine lv_if_ne (tgt := 50) hx hb d_m761_20 (by decide) (fun hc => ?_) (fun hc => ?_)
        · replace hf := (if_neg hc).symm.trans hf
          obtain rfl := Option.some.inj hf
          exact hE0  H locs ls hP hD hS (lv_sub hl [] rfl)
        · replace hf := (if_pos hc).symm.trans hf
          refine lv_aload_n hx hb d_m761_23 rfl (lv_at hl 0 rfl) ?_
          refine va_get (D := (dC, dI)) (ci := 5) (v := .ref a_pic) (C := "ScanCoder$Decoder") (T := T_5) (N := 7) hx hb hts n0 hown hK hP 6 rfl rfl 0 (by decide) k4 (fun _ h9 => h9) rfl d_m761_24 ?_
          refine va_get (D := (dC, dI)) (ci := 8) (v := .ref a_pic_co) (C := "ScanCoder$Picture") (T := T_8) (N := 12) hx hb hts n3 hown hK hP 0 rfl rfl 11 (by decide) k5 (fun _ h9 => h9) rfl d_m761_27 ?_
          refine lv_iload_n hx hb d_m761_30 rfl (lv_at hl 1 rfl) ?_
          refine lv_iload_n hx hb d_m761_31 rfl (lv_at hl 2 rfl) ?_
          refine lv_iadd hx hb d_m761_32 ?_
          obtain ⟨hi, hf⟩ := ob_if hf
          refine va_sald hx hb hK hP 1 2 rfl rfl hi d_m761_33 ?_
          refine lv_if_eq (tgt := 44) hx hb d_m761_34 (by decide) (fun hc => ?_) (fun hc => ?_)
          · replace hf := (if_pos hc).symm.trans hf
            exact J2_44 pic_co_2 rd_at_2 rd_part_2 rd_left_2 rd_fault_2 hf H locs ls hP hD hS hl
          · replace hf := (if_neg hc).symm.trans hf
            refine lv_aload_n hx hb d_m761_37 rfl (lv_at hl 0 rfl) ?_
            refine lv_iload_n hx hb d_m761_38 rfl (lv_at hl 1 rfl) ?_
            refine lv_iload_n hx hb d_m761_39 rfl (lv_at hl 2 rfl) ?_
            refine lv_iadd hx hb d_m761_40 ?_
            obtain ⟨z1, hz1, hf⟩ := ob_bind hf
            refine g_callv (wc := (w_Decoder_refineOther cI cB cS cT a_pic a_pic_co a_crs a_sto a_sto_b a_rd a_dec a_pic_h a_pic_v a_pic_ac a_pic_dn a_pic_oa a_pic_od a_pic_st a_crs_ow a_crs_pl a_crs_dt a_crs_ot a_tbs a_dec_p pic_many pic_unitsAcross pic_unitsDown pic_blocks n_pic_co pic_co_2 crs_kind crs_first crs_last crs_bits crs_interval crs_units crs_blocksOfUnit crs_laid sto_length n_sto_b sto_b rd_at_2 rd_part_2 rd_left_2 rd_fault_2 dec_keeps dec_run)) (w1 := (w_Decoder_refineOther cI cB cS cT a_pic a_pic_co a_crs a_sto a_sto_b a_rd a_dec a_pic_h a_pic_v a_pic_ac a_pic_dn a_pic_oa a_pic_od a_pic_st a_crs_ow a_crs_pl a_crs_dt a_crs_ot a_tbs a_dec_p pic_many pic_unitsAcross pic_unitsDown pic_blocks n_pic_co z1.1 crs_kind crs_first crs_last crs_bits crs_interval crs_units crs_blocksOfUnit crs_laid sto_length n_sto_b sto_b z1.2.1 z1.2.2.1 z1.2.2.2.1 z1.2.2.2.2 dec_keeps dec_run)) (w2 := (w_Decoder_refineRest cI cB cS cT a_pic a_pic_co a_crs a_sto a_sto_b a_rd a_dec a_pic_h a_pic_v a_pic_ac a_pic_dn a_pic_oa a_pic_od a_pic_st a_crs_ow a_crs_pl a_crs_dt a_crs_ot a_tbs a_dec_p pic_many pic_unitsAcross pic_unitsDown pic_blocks n_pic_co z1.1 crs_kind crs_first crs_last crs_bits crs_interval crs_units crs_blocksOfUnit crs_laid sto_length n_sto_b sto_b z1.2.1 z1.2.2.1 z1.2.2.2.1 z1.2.2.2.2 dec_keeps dec_run)) [0, 1, 2, 3, 4, 5, 6] [some 0, some 1, some 2, some 3, some 4, some 5, some 6] hP hD hS hA rfl rfl rfl rfl (va_runV (As := [.int (p0 + v3_2)]) (rest := []) ⟨hx, hb, hml, hown, hts⟩ (c_Decoder_refineOther l dC dI cI cB cS cT N a_pic a_pic_co a_crs a_sto a_sto_b a_rd a_dec a_pic_h a_pic_v a_pic_ac a_pic_dn a_pic_oa a_pic_od a_pic_st a_crs_ow a_crs_pl a_crs_dt a_crs_ot a_tbs a_dec_p pic_many pic_unitsAcross pic_unitsDown pic_blocks n_pic_co pic_co_2 crs_kind crs_first crs_last crs_bits crs_interval crs_units crs_blocksOfUnit crs_laid sto_length n_sto_b sto_b rd_at_2 rd_part_2 rd_left_2 rd_fault_2 dec_keeps dec_run (p0 + v3_2) H.size z1 hz1) ⟨(callB_of 1 hts (gi tw_752 rfl) rfl rfl rfl (hts _ (List.mem_cons_of_mem _ tw_14)) (hts _ (List.mem_cons_of_mem _ tw_749)) (by decide +kernel) ⟨Nat.le_of_ble_eq_true rfl, Nat.le_of_ble_eq_true rfl⟩), hts _ (List.mem_cons_of_mem _ tw_751), hts _ (List.mem_cons_of_mem _ ts_m752)⟩ ⟨g_blind, va_recv hK hP (ci := 5) (q0 := 6) rfl rfl, g_at hKN (g_pm hP [0, 1, 2, 3, 4, 5, 6] rfl) (hD.sub [0, 1, 2, 3, 4, 5, 6] (by decide) rfl)⟩ rfl rfl hl.1 rfl (lv_room (Nat.le_of_ble_eq_true rfl)) d_m761_41 ⟨Nat.zero_le _, Nat.zero_le _⟩) (fun H locs hP hD hS => ?_)
            refine W.eq (g2 := F0 m 44 ls []) rfl ?_
            exact J2_44 z1.1 z1.2.1 z1.2.2.1 z1.2.2.2.1 z1.2.2.2.2 hf H locs ls hP hD hS hl
  have hgo : ∀ (H : Heap) (locs : List Loc), va_P (dC, dI) vwCl (w_Decoder_refineRest cI cB cS cT a_pic a_pic_co a_crs a_sto a_sto_b a_rd a_dec a_pic_h a_pic_v a_pic_ac a_pic_dn a_pic_oa a_pic_od a_pic_st a_crs_ow a_crs_pl a_crs_dt a_crs_ot a_tbs a_dec_p pic_many pic_unitsAcross pic_unitsDown pic_blocks n_pic_co pic_co crs_kind crs_first crs_last crs_bits crs_interval crs_units crs_blocksOfUnit crs_laid sto_length n_sto_b sto_b rd_at rd_part rd_left rd_fault dec_keeps dec_run) H → va_S A s.heap H locs → W p l e (headSpec ws_m761 rm_Decoder_refineRest).room s m args below meth c H locs 0 0 Q (F0 m 0 ls []) := by
    intro H locs hP hS
    unfold f_Decoder_refineRest at hf
    refine lv_iload_n hx hb d_m761_0 rfl (lv_at hl 2 rfl) ?_
    refine lv_istore_n (lv' := [(3, .int p1), (0, .ref a_dec), (1, .int p0), (2, .int p1)]) hx hb d_m761_1 rfl hl (by decide) rfl (fun ls hl => ?_)
    obtain ⟨z2, hz2, hf⟩ := ob_bind hf
    refine L2  z2 ?_ N p1 pic_co rd_at rd_part rd_left rd_fault hz2 H locs ls hP hD hS (lv_sub hl [1, 2, 0] rfl)
    · intro H locs ls hP hD hS hl
      obtain rfl := Option.some.inj hf
      subst hQ
      subst hAe
      exact W.vret hx hb hr (fun t ht hW => ⟨⟨(), rfl, trivial, by rw [ht]; exact hP, hD⟩, hS.F ht⟩) hS.2.2 d_m761_50
  exact hgo _ _ hP hS
def f_Decoder_takeOthers_J35_143 (N : Nat) (rec : (Int32 × Int32 × (Nat → Int32) × Int32 × Int32 × Int32 × Int32 × Int32) → Option (Nat × Int32 × (Nat → Int32) × Int32 × Int32 × Int32 × Int32 × Int32)) (rd_fault_j143 : Int32) (v5_j143 : Int32) (v6_35 : Int32) (pic_co_j143 : Nat → Int32) (rd_at_j143 : Int32) (rd_part_j143 : Int32) (rd_left_j143 : Int32) (dec_run_j143 : Int32) : Option (Nat × Int32 × (Nat → Int32) × Int32 × Int32 × Int32 × Int32 × Int32) :=
  if rd_fault_j143 = 0 then
    rec (v5_j143, v6_35 + (1 : Int32), pic_co_j143, rd_at_j143, rd_part_j143, rd_left_j143, rd_fault_j143, dec_run_j143)
  else
    some (1, v5_j143, pic_co_j143, rd_at_j143, rd_part_j143, rd_left_j143, rd_fault_j143, dec_run_j143)
def f_Decoder_takeOthers_J35_93 (N : Nat) (rec : (Int32 × Int32 × (Nat → Int32) × Int32 × Int32 × Int32 × Int32 × Int32) → Option (Nat × Int32 × (Nat → Int32) × Int32 × Int32 × Int32 × Int32 × Int32)) (v7_j93 : Int32) (crs_kind : Int32) (v4_35 : Int32) (p1 : Int32) (v5_35 : Int32) (n_pic_co : Nat) (pic_co_35 : Nat → Int32) (crs_last : Int32) (crs_bits : Int32) (sto_length : Int32) (n_sto_b : Nat) (sto_b : Nat → Int32) (rd_at_j93 : Int32) (rd_part_j93 : Int32) (rd_left_j93 : Int32) (rd_fault_j93 : Int32) (dec_keeps : Int32) (v6_35 : Int32) (dec_run_35 : Int32) : Option (Nat × Int32 × (Nat → Int32) × Int32 × Int32 × Int32 × Int32 × Int32) :=
  (f_Decoder_endsBand v7_j93 crs_kind).bind fun z2 =>
  if z2 = 0 then
    if v4_35 = 0 then
      (f_Decoder_takeOther N v7_j93 p1 v5_35 n_pic_co pic_co_35 crs_last crs_bits sto_length n_sto_b sto_b rd_at_j93 rd_part_j93 rd_left_j93 rd_fault_j93 dec_keeps).bind fun z3 =>
      f_Decoder_takeOthers_J35_143 N rec z3.2.2.2.2.2 z3.1 v6_35 z3.2.1 z3.2.2.1 z3.2.2.2.1 z3.2.2.2.2.1 dec_run_35
    else
      (f_Decoder_takeNewOne N v7_j93 p1 v5_35 n_pic_co pic_co_35 crs_last crs_bits sto_length n_sto_b sto_b rd_at_j93 rd_part_j93 rd_left_j93 rd_fault_j93 dec_keeps).bind fun z4 =>
      f_Decoder_takeOthers_J35_143 N rec z4.2.2.2.2.2 z4.1 v6_35 z4.2.1 z4.2.2.1 z4.2.2.2.1 z4.2.2.2.2.1 dec_run_35
  else
    (f_Decoder_takeRun N (v7_j93 >>> ((4 : Int32) &&& 31)) sto_length n_sto_b sto_b rd_at_j93 rd_part_j93 rd_left_j93 rd_fault_j93 dec_run_35).bind fun z5 =>
    f_Decoder_takeOthers_J35_143 N rec z5.2.2.2.1 v5_35 v6_35 pic_co_35 z5.1 z5.2.1 z5.2.2.1 z5.2.2.2.2
def f_Decoder_takeOthers_L35b (crs_last : Int32) (sto_length : Int32) (n_sto_b : Nat) (sto_b : Nat → Int32) (tab_end : Int32) (tab_s : Nat → Int32) (tab_f : Nat → Int32) (tab_x : Nat → Int32) (crs_kind : Int32) (v4_35 : Int32) (p1 : Int32) (n_pic_co : Nat) (crs_bits : Int32) (dec_keeps : Int32) (N : Nat) (rec : (Int32 × Int32 × (Nat → Int32) × Int32 × Int32 × Int32 × Int32 × Int32) → Option (Nat × Int32 × (Nat → Int32) × Int32 × Int32 × Int32 × Int32 × Int32)) (v5_35 : Int32) (v6_35 : Int32) (pic_co_35 : Nat → Int32) (rd_at_35 : Int32) (rd_part_35 : Int32) (rd_left_35 : Int32) (rd_fault_35 : Int32) (dec_run_35 : Int32) : Option (Nat × Int32 × (Nat → Int32) × Int32 × Int32 × Int32 × Int32 × Int32) :=
  if (64 : Int32) ≤ v6_35 then
    some (2, v5_35, pic_co_35, rd_at_35, rd_part_35, rd_left_35, rd_fault_35, dec_run_35)
  else
    if crs_last < v5_35 then
      some (2, v5_35, pic_co_35, rd_at_35, rd_part_35, rd_left_35, rd_fault_35, dec_run_35)
    else
      if dec_run_35 = 0 then
        (f_BitReader_takeWord N sto_length n_sto_b sto_b rd_at_35 rd_part_35 rd_left_35 rd_fault_35 tab_end tab_s tab_f tab_x).bind fun z1 =>
        if z1.1 = (-1 : Int32) then
          some (0, v5_35, pic_co_35, z1.2.1, z1.2.2.1, z1.2.2.2.1, z1.2.2.2.2, dec_run_35)
        else
          if z1.1 = 0 then
            if crs_kind = 0 then
              some (0, v5_35, pic_co_35, z1.2.1, z1.2.2.1, z1.2.2.2.1, z1.2.2.2.2, dec_run_35)
            else
              f_Decoder_takeOthers_J35_93 N rec z1.1 crs_kind v4_35 p1 v5_35 n_pic_co pic_co_35 crs_last crs_bits sto_length n_sto_b sto_b z1.2.1 z1.2.2.1 z1.2.2.2.1 z1.2.2.2.2 dec_keeps v6_35 dec_run_35
          else
            f_Decoder_takeOthers_J35_93 N rec z1.1 crs_kind v4_35 p1 v5_35 n_pic_co pic_co_35 crs_last crs_bits sto_length n_sto_b sto_b z1.2.1 z1.2.2.1 z1.2.2.2.1 z1.2.2.2.2 dec_keeps v6_35 dec_run_35
      else
        some (2, v5_35, pic_co_35, rd_at_35, rd_part_35, rd_left_35, rd_fault_35, dec_run_35)
def f_Decoder_takeOthers_L35 (crs_last : Int32) (sto_length : Int32) (n_sto_b : Nat) (sto_b : Nat → Int32) (tab_end : Int32) (tab_s : Nat → Int32) (tab_f : Nat → Int32) (tab_x : Nat → Int32) (crs_kind : Int32) (v4_35 : Int32) (p1 : Int32) (n_pic_co : Nat) (crs_bits : Int32) (dec_keeps : Int32) (N : Nat) (k : Nat) : (Int32 × Int32 × (Nat → Int32) × Int32 × Int32 × Int32 × Int32 × Int32) → Option (Nat × Int32 × (Nat → Int32) × Int32 × Int32 × Int32 × Int32 × Int32) := it (fun rec a => f_Decoder_takeOthers_L35b crs_last sto_length n_sto_b sto_b tab_end tab_s tab_f tab_x crs_kind v4_35 p1 n_pic_co crs_bits dec_keeps N rec a.1 a.2.1 a.2.2.1 a.2.2.2.1 a.2.2.2.2.1 a.2.2.2.2.2.1 a.2.2.2.2.2.2.1 a.2.2.2.2.2.2.2) k
def f_Decoder_takeOthers_J160 (N : Nat) (dec_run_j160 : Int32) (pic_co_j160 : Nat → Int32) (rd_at_j160 : Int32) (rd_part_j160 : Int32) (rd_left_j160 : Int32) (rd_fault_j160 : Int32) (v4_j160 : Int32) (p1 : Int32) (v5_j160 : Int32) (n_pic_co : Nat) (crs_last : Int32) (crs_bits : Int32) (sto_length : Int32) (n_sto_b : Nat) (sto_b : Nat → Int32) (dec_keeps : Int32) : Option ((Nat → Int32) × Int32 × Int32 × Int32 × Int32 × Int32) :=
  if dec_run_j160 ≤ 0 then
    some (pic_co_j160, rd_at_j160, rd_part_j160, rd_left_j160, rd_fault_j160, dec_run_j160)
  else
    if v4_j160 = 0 then
      some (pic_co_j160, rd_at_j160, rd_part_j160, rd_left_j160, rd_fault_j160, dec_run_j160 - (1 : Int32))
    else
      (f_Decoder_refineRest N p1 v5_j160 n_pic_co pic_co_j160 crs_last crs_bits sto_length n_sto_b sto_b rd_at_j160 rd_part_j160 rd_left_j160 rd_fault_j160 dec_keeps).bind fun z7 =>
      some (z7.1, z7.2.1, z7.2.2.1, z7.2.2.2.1, z7.2.2.2.2, dec_run_j160 - (1 : Int32))
def f_Decoder_takeOthers_J29 (N : Nat) (crs_last : Int32) (sto_length : Int32) (n_sto_b : Nat) (sto_b : Nat → Int32) (tab_end : Int32) (tab_s : Nat → Int32) (tab_f : Nat → Int32) (tab_x : Nat → Int32) (crs_kind : Int32) (v4_j29 : Int32) (p1 : Int32) (n_pic_co : Nat) (crs_bits : Int32) (dec_keeps : Int32) (p2 : Int32) (pic_co_j29 : Nat → Int32) (rd_at : Int32) (rd_part : Int32) (rd_left : Int32) (rd_fault : Int32) (dec_run : Int32) : Option ((Nat → Int32) × Int32 × Int32 × Int32 × Int32 × Int32) :=
  (f_Decoder_takeOthers_L35 crs_last sto_length n_sto_b sto_b tab_end tab_s tab_f tab_x crs_kind v4_j29 p1 n_pic_co crs_bits dec_keeps N N (p2, (0 : Int32), pic_co_j29, rd_at, rd_part, rd_left, rd_fault, dec_run)).bind fun z6 =>
    if z6.1 = 0 then some (z6.2.2.1, z6.2.2.2.1, z6.2.2.2.2.1, z6.2.2.2.2.2.1, z6.2.2.2.2.2.2.1, z6.2.2.2.2.2.2.2) else if z6.1 = 1 then some (z6.2.2.1, z6.2.2.2.1, z6.2.2.2.2.1, z6.2.2.2.2.2.1, z6.2.2.2.2.2.2.1, z6.2.2.2.2.2.2.2) else f_Decoder_takeOthers_J160 N z6.2.2.2.2.2.2.2 z6.2.2.1 z6.2.2.2.1 z6.2.2.2.2.1 z6.2.2.2.2.2.1 z6.2.2.2.2.2.2.1 v4_j29 p1 z6.2.1 n_pic_co crs_last crs_bits sto_length n_sto_b sto_b dec_keeps
def f_Decoder_takeOthers_J16 (N : Nat) (s0_j16 : Int32) (p1 : Int32) (p2 : Int32) (n_pic_co : Nat) (pic_co : Nat → Int32) (crs_last : Int32) (dec_keeps : Int32) (sto_length : Int32) (n_sto_b : Nat) (sto_b : Nat → Int32) (tab_end : Int32) (tab_s : Nat → Int32) (tab_f : Nat → Int32) (tab_x : Nat → Int32) (crs_kind : Int32) (crs_bits : Int32) (rd_at : Int32) (rd_part : Int32) (rd_left : Int32) (rd_fault : Int32) (dec_run : Int32) : Option ((Nat → Int32) × Int32 × Int32 × Int32 × Int32 × Int32) :=
  if s0_j16 = 0 then
    (f_Decoder_clearOthers N p1 p2 n_pic_co pic_co crs_last dec_keeps).bind fun z8 =>
    f_Decoder_takeOthers_J29 N crs_last sto_length n_sto_b sto_b tab_end tab_s tab_f tab_x crs_kind s0_j16 p1 n_pic_co crs_bits dec_keeps p2 z8 rd_at rd_part rd_left rd_fault dec_run
  else
    f_Decoder_takeOthers_J29 N crs_last sto_length n_sto_b sto_b tab_end tab_s tab_f tab_x crs_kind s0_j16 p1 n_pic_co crs_bits dec_keeps p2 pic_co rd_at rd_part rd_left rd_fault dec_run
def f_Decoder_takeOthers (N : Nat) (p1 : Int32) (p2 : Int32) (n_pic_co : Nat) (pic_co : Nat → Int32) (crs_kind : Int32) (crs_last : Int32) (crs_bits : Int32) (sto_length : Int32) (n_sto_b : Nat) (sto_b : Nat → Int32) (rd_at : Int32) (rd_part : Int32) (rd_left : Int32) (rd_fault : Int32) (dec_keeps : Int32) (dec_run : Int32) (tab_end : Int32) (tab_s : Nat → Int32) (tab_f : Nat → Int32) (tab_x : Nat → Int32) : Option ((Nat → Int32) × Int32 × Int32 × Int32 × Int32 × Int32) :=
  if crs_kind = (4 : Int32) then
    f_Decoder_takeOthers_J16 N (1 : Int32) p1 p2 n_pic_co pic_co crs_last dec_keeps sto_length n_sto_b sto_b tab_end tab_s tab_f tab_x crs_kind crs_bits rd_at rd_part rd_left rd_fault dec_run
  else
    f_Decoder_takeOthers_J16 N (0 : Int32) p1 p2 n_pic_co pic_co crs_last dec_keeps sto_length n_sto_b sto_b tab_end tab_s tab_f tab_x crs_kind crs_bits rd_at rd_part rd_left rd_fault dec_run
abbrev w_Decoder_takeOthers (cI cB cS cT : ClassId) (a_pic : Nat) (a_pic_co : Nat) (a_crs : Nat) (a_sto : Nat) (a_sto_b : Nat) (a_rd : Nat) (a_dec : Nat) (a_tab : Nat) (a_tab_s : Nat) (a_tab_f : Nat) (a_tab_x : Nat) (a_pic_h : Nat) (a_pic_v : Nat) (a_pic_ac : Nat) (a_pic_dn : Nat) (a_pic_oa : Nat) (a_pic_od : Nat) (a_pic_st : Nat) (a_crs_ow : Nat) (a_crs_pl : Nat) (a_crs_dt : Nat) (a_crs_ot : Nat) (a_tbs : Nat) (a_dec_p : Nat) (a_tab_w : Nat) (pic_many : Int32) (pic_unitsAcross : Int32) (pic_unitsDown : Int32) (pic_blocks : Int32) (n_pic_co : Nat) (pic_co : Nat → Int32) (crs_kind : Int32) (crs_first : Int32) (crs_last : Int32) (crs_bits : Int32) (crs_interval : Int32) (crs_units : Int32) (crs_blocksOfUnit : Int32) (crs_laid : Int32) (sto_length : Int32) (n_sto_b : Nat) (sto_b : Nat → Int32) (rd_at : Int32) (rd_part : Int32) (rd_left : Int32) (rd_fault : Int32) (dec_keeps : Int32) (dec_run : Int32) (tab_end : Int32) (tab_size : Int32) (tab_s : Nat → Int32) (tab_f : Nat → Int32) (tab_x : Nat → Int32) : va_W := [(a_pic, .inr (8, [.ref a_pic_h, .ref a_pic_v, .ref a_pic_ac, .ref a_pic_dn, .ref a_pic_oa, .ref a_pic_od, .ref a_pic_st, .int pic_many, .int pic_unitsAcross, .int pic_unitsDown, .int pic_blocks, .ref a_pic_co])), (a_pic_co, .inl (cS, n_pic_co, .inl pic_co)), (a_crs, .inr (4, [.ref a_pic, .ref a_crs_ow, .ref a_crs_pl, .ref a_crs_dt, .ref a_crs_ot, .int crs_kind, .int crs_first, .int crs_last, .int crs_bits, .int crs_interval, .int crs_units, .int crs_blocksOfUnit, .int crs_laid])), (a_sto, .inr (9, [.ref a_sto_b, .int sto_length])), (a_sto_b, .inl (cB, n_sto_b, .inl sto_b)), (a_rd, .inr (1, [.ref a_sto, .int rd_at, .int rd_part, .int rd_left, .int rd_fault])), (a_dec, .inr (5, [.ref a_pic, .ref a_crs, .ref a_tbs, .ref a_rd, .ref a_dec_p, .int dec_keeps, .int dec_run])), (a_tab, .inr (10, [.ref a_tab_w, .ref a_tab_s, .ref a_tab_f, .ref a_tab_x, .int tab_end, .int tab_size])), (a_tab_s, .inl (cI, 256, .inl tab_s)), (a_tab_f, .inl (cI, 17, .inl tab_f)), (a_tab_x, .inl (cI, 18, .inl tab_x))]
def rm_Decoder_takeOthers : Room := { frames := 4, cells := 0, slots := 0, locals := 94 }
set_option maxHeartbeats 1000000 in
set_option maxRecDepth 100000 in
theorem c_Decoder_takeOthers (l : Launch) (dC : Nat → ClassId) (dI : Nat → Nat → Nat) (cI cB cS cT : ClassId) (N : Nat) (a_pic : Nat) (a_pic_co : Nat) (a_crs : Nat) (a_sto : Nat) (a_sto_b : Nat) (a_rd : Nat) (a_dec : Nat) (a_tab : Nat) (a_tab_s : Nat) (a_tab_f : Nat) (a_tab_x : Nat) (a_pic_h : Nat) (a_pic_v : Nat) (a_pic_ac : Nat) (a_pic_dn : Nat) (a_pic_oa : Nat) (a_pic_od : Nat) (a_pic_st : Nat) (a_crs_ow : Nat) (a_crs_pl : Nat) (a_crs_dt : Nat) (a_crs_ot : Nat) (a_tbs : Nat) (a_dec_p : Nat) (a_tab_w : Nat) (pic_many : Int32) (pic_unitsAcross : Int32) (pic_unitsDown : Int32) (pic_blocks : Int32) (n_pic_co : Nat) (pic_co : Nat → Int32) (crs_kind : Int32) (crs_first : Int32) (crs_last : Int32) (crs_bits : Int32) (crs_interval : Int32) (crs_units : Int32) (crs_blocksOfUnit : Int32) (crs_laid : Int32) (sto_length : Int32) (n_sto_b : Nat) (sto_b : Nat → Int32) (rd_at : Int32) (rd_part : Int32) (rd_left : Int32) (rd_fault : Int32) (dec_keeps : Int32) (dec_run : Int32) (tab_end : Int32) (tab_size : Int32) (tab_s : Nat → Int32) (tab_f : Nat → Int32) (tab_x : Nat → Int32) (p1 : Int32) (p2 : Int32) (sz : Nat) (z : (Nat → Int32) × Int32 × Int32 × Int32 × Int32 × Int32) (hf : f_Decoder_takeOthers N p1 p2 n_pic_co pic_co crs_kind crs_last crs_bits sto_length n_sto_b sto_b rd_at rd_part rd_left rd_fault dec_keeps dec_run tab_end tab_s tab_f tab_x = some z) : Met l y_m732 ws_m732 rm_Decoder_takeOthers (gPre (dC, dI) [.ref a_dec, .ref a_tab, .int p1, .int p2] (gT cI cB cS cT) (w_Decoder_takeOthers cI cB cS cT a_pic a_pic_co a_crs a_sto a_sto_b a_rd a_dec a_tab a_tab_s a_tab_f a_tab_x a_pic_h a_pic_v a_pic_ac a_pic_dn a_pic_oa a_pic_od a_pic_st a_crs_ow a_crs_pl a_crs_dt a_crs_ot a_tbs a_dec_p a_tab_w pic_many pic_unitsAcross pic_unitsDown pic_blocks n_pic_co pic_co crs_kind crs_first crs_last crs_bits crs_interval crs_units crs_blocksOfUnit crs_laid sto_length n_sto_b sto_b rd_at rd_part rd_left rd_fault dec_keeps dec_run tab_end tab_size tab_s tab_f tab_x) sz) (gQv (dC, dI) (gT cI cB cS cT) (w_Decoder_takeOthers cI cB cS cT a_pic a_pic_co a_crs a_sto a_sto_b a_rd a_dec a_tab a_tab_s a_tab_f a_tab_x a_pic_h a_pic_v a_pic_ac a_pic_dn a_pic_oa a_pic_od a_pic_st a_crs_ow a_crs_pl a_crs_dt a_crs_ot a_tbs a_dec_p a_tab_w pic_many pic_unitsAcross pic_unitsDown pic_blocks n_pic_co pic_co crs_kind crs_first crs_last crs_bits crs_interval crs_units crs_blocksOfUnit crs_laid sto_length n_sto_b sto_b rd_at rd_part rd_left rd_fault dec_keeps dec_run tab_end tab_size tab_s tab_f tab_x) (w_Decoder_takeOthers cI cB cS cT a_pic a_pic_co a_crs a_sto a_sto_b a_rd a_dec a_tab a_tab_s a_tab_f a_tab_x a_pic_h a_pic_v a_pic_ac a_pic_dn a_pic_oa a_pic_od a_pic_st a_crs_ow a_crs_pl a_crs_dt a_crs_ot a_tbs a_dec_p a_tab_w pic_many pic_unitsAcross pic_unitsDown pic_blocks n_pic_co z.1 crs_kind crs_first crs_last crs_bits crs_interval crs_units crs_blocksOfUnit crs_laid sto_length n_sto_b sto_b z.2.1 z.2.2.1 z.2.2.2.1 z.2.2.2.2.1 dec_keeps z.2.2.2.2.2 tab_end tab_size tab_s tab_f tab_x) sz) 0 0 (va_A (w_Decoder_takeOthers cI cB cS cT a_pic a_pic_co a_crs a_sto a_sto_b a_rd a_dec a_tab a_tab_s a_tab_f a_tab_x a_pic_h a_pic_v a_pic_ac a_pic_dn a_pic_oa a_pic_od a_pic_st a_crs_ow a_crs_pl a_crs_dt a_crs_ot a_tbs a_dec_p a_tab_w pic_many pic_unitsAcross pic_unitsDown pic_blocks n_pic_co pic_co crs_kind crs_first crs_last crs_bits crs_interval crs_units crs_blocksOfUnit crs_laid sto_length n_sto_b sto_b rd_at rd_part rd_left rd_fault dec_keeps dec_run tab_end tab_size tab_s tab_f tab_x) sz) := by
  refine Met.ofW (cc := prog_6_method_10_code) (maxL := 8) (ret := none) (by decide) rfl ?_
  intro p e s m args below meth c s₁ B hml hv
  obtain ⟨hargs, hsz, hP, hKN, hD0⟩ := hv
  have hK := hKN.1
  have hx := B.exec
  have hb := B.bytes
  have hr := B.returns
  have hts := atoms_spec (ws := ws_m732) B.pre
  have hown : s.vm.findClass "ScanCoder$Decoder" = some m.cls := findClass_of_methodNamed B.named
  have hlocks := B.notSynchronized
  have k0 := hts _ (List.mem_cons_of_mem _ tw_398)
  have k1 := hts _ (List.mem_cons_of_mem _ tw_173)
  have k2 := hts _ (List.mem_cons_of_mem _ tw_180)
  have k3 := hts _ (List.mem_cons_of_mem _ tw_403)
  have k4 := hts _ (List.mem_cons_of_mem _ tw_400)
  have k5 := hts _ (List.mem_cons_of_mem _ tw_381)
  have n0 : ∀ w ∈ u_ws "ScanCoder$Decoder" T_5 7, w ∈ ws_m732 := fun w h => List.mem_cons_of_mem _ (in_5 w h)
  have n1 : ∀ w ∈ u_ws "ScanCoder$Course" T_4 13, w ∈ ws_m732 := fun w h => List.mem_cons_of_mem _ (in_4 w h)
  have n2 : ∀ w ∈ u_ws "ScanCoder$BitReader" T_1 5, w ∈ ws_m732 := fun w h => List.mem_cons_of_mem _ (in_1 w h)
  subst hsz
  have hD := hD0.self (sz := s.heap.size)
  obtain ⟨A, hAe⟩ : ∃ A : Nat → Prop, va_A (w_Decoder_takeOthers cI cB cS cT a_pic a_pic_co a_crs a_sto a_sto_b a_rd a_dec a_tab a_tab_s a_tab_f a_tab_x a_pic_h a_pic_v a_pic_ac a_pic_dn a_pic_oa a_pic_od a_pic_st a_crs_ow a_crs_pl a_crs_dt a_crs_ot a_tbs a_dec_p a_tab_w pic_many pic_unitsAcross pic_unitsDown pic_blocks n_pic_co pic_co crs_kind crs_first crs_last crs_bits crs_interval crs_units crs_blocksOfUnit crs_laid sto_length n_sto_b sto_b rd_at rd_part rd_left rd_fault dec_keeps dec_run tab_end tab_size tab_s tab_f tab_x) s.heap.size = A := ⟨_, rfl⟩
  rw [hAe] at hD
  have hA : ∀ q : Nat, s.heap.size ≤ q → A q := fun q h => by rw [← hAe]; exact Or.inr h
  have hS : va_S A s.heap s.heap [] := va_S.rf
  have hl := lv_entry ([.ref a_dec, .ref a_tab, .int p1, .int p2]) (n := 8) (Nat.le_of_ble_eq_true rfl)
  have hfr : entryFrame m args 8 = F0 m 0 ((lg_sl ([.ref a_dec, .ref a_tab, .int p1, .int p2]) ++ List.replicate (8 - (lg_sl ([.ref a_dec, .ref a_tab, .int p1, .int p2])).length) Slot.unset).toArray) [] := by rw [hargs]; exact lg_entry_eq _ _ _
  rw [hfr]
  generalize (lg_sl ([.ref a_dec, .ref a_tab, .int p1, .int p2]) ++ List.replicate (8 - (lg_sl ([.ref a_dec, .ref a_tab, .int p1, .int p2])).length) Slot.unset).toArray = ls at hl ⊢
  have hl : lv_has ls 8 [(0, .ref a_dec), (1, .ref a_tab), (2, .int p1), (3, .int p2)] := hl
  refine gen_Q (fun Q hQ => ?_)
  clear hfr
  have L35 : ∀ (v4_35 : Int32) (z : Nat × Int32 × (Nat → Int32) × Int32 × Int32 × Int32 × Int32 × Int32), (z.1 = 0 → GW (dC, dI) A p l e (headSpec ws_m732 rm_Decoder_takeOthers).room s m args below meth c 0 0 Q 8 92 (w_Decoder_takeOthers cI cB cS cT a_pic a_pic_co a_crs a_sto a_sto_b a_rd a_dec a_tab a_tab_s a_tab_f a_tab_x a_pic_h a_pic_v a_pic_ac a_pic_dn a_pic_oa a_pic_od a_pic_st a_crs_ow a_crs_pl a_crs_dt a_crs_ot a_tbs a_dec_p a_tab_w pic_many pic_unitsAcross pic_unitsDown pic_blocks n_pic_co z.2.2.1 crs_kind crs_first crs_last crs_bits crs_interval crs_units crs_blocksOfUnit crs_laid sto_length n_sto_b sto_b z.2.2.2.1 z.2.2.2.2.1 z.2.2.2.2.2.1 z.2.2.2.2.2.2.1 dec_keeps z.2.2.2.2.2.2.2 tab_end tab_size tab_s tab_f tab_x) [] []) → (z.1 = 1 → GW (dC, dI) A p l e (headSpec ws_m732 rm_Decoder_takeOthers).room s m args below meth c 0 0 Q 8 153 (w_Decoder_takeOthers cI cB cS cT a_pic a_pic_co a_crs a_sto a_sto_b a_rd a_dec a_tab a_tab_s a_tab_f a_tab_x a_pic_h a_pic_v a_pic_ac a_pic_dn a_pic_oa a_pic_od a_pic_st a_crs_ow a_crs_pl a_crs_dt a_crs_ot a_tbs a_dec_p a_tab_w pic_many pic_unitsAcross pic_unitsDown pic_blocks n_pic_co z.2.2.1 crs_kind crs_first crs_last crs_bits crs_interval crs_units crs_blocksOfUnit crs_laid sto_length n_sto_b sto_b z.2.2.2.1 z.2.2.2.2.1 z.2.2.2.2.2.1 z.2.2.2.2.2.2.1 dec_keeps z.2.2.2.2.2.2.2 tab_end tab_size tab_s tab_f tab_x) [] []) → (z.1 = 2 → GW (dC, dI) A p l e (headSpec ws_m732 rm_Decoder_takeOthers).room s m args below meth c 0 0 Q 8 160 (w_Decoder_takeOthers cI cB cS cT a_pic a_pic_co a_crs a_sto a_sto_b a_rd a_dec a_tab a_tab_s a_tab_f a_tab_x a_pic_h a_pic_v a_pic_ac a_pic_dn a_pic_oa a_pic_od a_pic_st a_crs_ow a_crs_pl a_crs_dt a_crs_ot a_tbs a_dec_p a_tab_w pic_many pic_unitsAcross pic_unitsDown pic_blocks n_pic_co z.2.2.1 crs_kind crs_first crs_last crs_bits crs_interval crs_units crs_blocksOfUnit crs_laid sto_length n_sto_b sto_b z.2.2.2.1 z.2.2.2.2.1 z.2.2.2.2.2.1 z.2.2.2.2.2.2.1 dec_keeps z.2.2.2.2.2.2.2 tab_end tab_size tab_s tab_f tab_x) [(0, .ref a_dec), (2, .int p1), (4, .int v4_35), (5, .int z.2.1)] []) → ∀ (k : Nat) (v5_35 : Int32) (v6_35 : Int32) (pic_co_35 : Nat → Int32) (rd_at_35 : Int32) (rd_part_35 : Int32) (rd_left_35 : Int32) (rd_fault_35 : Int32) (dec_run_35 : Int32), f_Decoder_takeOthers_L35 crs_last sto_length n_sto_b sto_b tab_end tab_s tab_f tab_x crs_kind v4_35 p1 n_pic_co crs_bits dec_keeps N k (v5_35, v6_35, pic_co_35, rd_at_35, rd_part_35, rd_left_35, rd_fault_35, dec_run_35) = some z → GW (dC, dI) A p l e (headSpec ws_m732 rm_Decoder_takeOthers).room s m args below meth c 0 0 Q 8 35 (w_Decoder_takeOthers cI cB cS cT a_pic a_pic_co a_crs a_sto a_sto_b a_rd a_dec a_tab a_tab_s a_tab_f a_tab_x a_pic_h a_pic_v a_pic_ac a_pic_dn a_pic_oa a_pic_od a_pic_st a_crs_ow a_crs_pl a_crs_dt a_crs_ot a_tbs a_dec_p a_tab_w pic_many pic_unitsAcross pic_unitsDown pic_blocks n_pic_co pic_co_35 crs_kind crs_first crs_last crs_bits crs_interval crs_units crs_blocksOfUnit crs_laid sto_length n_sto_b sto_b rd_at_35 rd_part_35 rd_left_35 rd_fault_35 dec_keeps dec_run_35 tab_end tab_size tab_s tab_f tab_x) [(0, .ref a_dec), (1, .ref a_tab), (2, .int p1), (4, .int v4_35), (5, .int v5_35), (6, .int v6_35)] [] := by
    intro v4_35 z hE0 hE1 hE2 k
    induction k with
    | zero =>
      intro v5_35 v6_35 pic_co_35 rd_at_35 rd_part_35 rd_left_35 rd_fault_35 dec_run_35 hf
      exact (it_zero hf).elim
    | succ k ih =>
      intro v5_35 v6_35 pic_co_35 rd_at_35 rd_part_35 rd_left_35 rd_fault_35 dec_run_35 hf H locs ls hP hD hS hl
      have J35_143 : ∀ (v5_j143 : Int32) (pic_co_j143 : Nat → Int32) (rd_at_j143 : Int32) (rd_part_j143 : Int32) (rd_left_j143 : Int32) (rd_fault_j143 : Int32) (dec_run_j143 : Int32), f_Decoder_takeOthers_J35_143 N (f_Decoder_takeOthers_L35 crs_last sto_length n_sto_b sto_b tab_end tab_s tab_f tab_x crs_kind v4_35 p1 n_pic_co crs_bits dec_keeps N k) rd_fault_j143 v5_j143 v6_35 pic_co_j143 rd_at_j143 rd_part_j143 rd_left_j143 dec_run_j143 = some z → GW (dC, dI) A p l e (headSpec ws_m732 rm_Decoder_takeOthers).room s m args below meth c 0 0 Q 8 143 (w_Decoder_takeOthers cI cB cS cT a_pic a_pic_co a_crs a_sto a_sto_b a_rd a_dec a_tab a_tab_s a_tab_f a_tab_x a_pic_h a_pic_v a_pic_ac a_pic_dn a_pic_oa a_pic_od a_pic_st a_crs_ow a_crs_pl a_crs_dt a_crs_ot a_tbs a_dec_p a_tab_w pic_many pic_unitsAcross pic_unitsDown pic_blocks n_pic_co pic_co_j143 crs_kind crs_first crs_last crs_bits crs_interval crs_units crs_blocksOfUnit crs_laid sto_length n_sto_b sto_b rd_at_j143 rd_part_j143 rd_left_j143 rd_fault_j143 dec_keeps dec_run_j143 tab_end tab_size tab_s tab_f tab_x) [(0, .ref a_dec), (1, .ref a_tab), (2, .int p1), (4, .int v4_35), (5, .int v5_j143), (6, .int v6_35)] [] := by
        intro v5_j143 pic_co_j143 rd_at_j143 rd_part_j143 rd_left_j143 rd_fault_j143 dec_run_j143 hf H locs ls hP hD hS hl
        unfold f_Decoder_takeOthers_J35_143 at hf
        refine lv_aload_n hx hb d_m732_143 rfl (lv_at hl 0 rfl) ?_
        refine va_get (D := (dC, dI)) (ci := 5) (v := .ref a_rd) (C := "ScanCoder$Decoder") (T := T_5) (N := 7) hx hb hts n0 hown hK hP 6 rfl rfl 3 (by decide) k4 (fun _ h9 => h9) rfl d_m732_144 ?_
        refine va_get (D := (dC, dI)) (ci := 1) (v := .int rd_fault_j143) (C := "ScanCoder$BitReader") (T := T_1) (N := 5) hx hb hts n2 hown hK hP 5 rfl rfl 4 (by decide) k5 (fun _ h9 => h9) rfl d_m732_147 ?_
        refine lv_if_eq (tgt := 154) hx hb d_m732_150 (by decide) (fun hc => ?_) (fun hc => ?_)
        · replace hf := (if_pos hc).symm.trans hf
          refine lv_iinc (v := v6_35 + (1 : Int32)) (lv' := [(6, .int (v6_35 + (1 : Int32))), (0, .ref a_dec), (1, .ref a_tab), (2, .int p1), (4, .int v4_35), (5, .int v5_j143)]) hx hb d_m732_154 hl (k := 5) rfl rfl (by decide) rfl (fun ls hl => ?_)
          refine lv_goto (tgt := 35) hx hb d_m732_157 (by decide) ?_
          exact ih v5_j143 (v6_35 + (1 : Int32)) pic_co_j143 rd_at_j143 rd_part_j143 rd_left_j143 rd_fault_j143 dec_run_j143 hf H locs ls hP hD hS (lv_sub hl [1, 2, 3, 4, 5, 0] rfl)
        · replace hf := (if_neg hc).symm.trans hf
          obtain rfl := Option.some.inj hf
          exact hE1 rfl  H locs ls hP hD hS (lv_sub hl [] rfl)
      have J35_93 : ∀ (v7_j93 : Int32) (rd_at_j93 : Int32) (rd_part_j93 : Int32) (rd_left_j93 : Int32) (rd_fault_j93 : Int32), f_Decoder_takeOthers_J35_93 N (f_Decoder_takeOthers_L35 crs_last sto_length n_sto_b sto_b tab_end tab_s tab_f tab_x crs_kind v4_35 p1 n_pic_co crs_bits dec_keeps N k) v7_j93 crs_kind v4_35 p1 v5_35 n_pic_co pic_co_35 crs_last crs_bits sto_length n_sto_b sto_b rd_at_j93 rd_part_j93 rd_left_j93 rd_fault_j93 dec_keeps v6_35 dec_run_35 = some z → GW (dC, dI) A p l e (headSpec ws_m732 rm_Decoder_takeOthers).room s m args below meth c 0 0 Q 8 93 (w_Decoder_takeOthers cI cB cS cT a_pic a_pic_co a_crs a_sto a_sto_b a_rd a_dec a_tab a_tab_s a_tab_f a_tab_x a_pic_h a_pic_v a_pic_ac a_pic_dn a_pic_oa a_pic_od a_pic_st a_crs_ow a_crs_pl a_crs_dt a_crs_ot a_tbs a_dec_p a_tab_w pic_many pic_unitsAcross pic_unitsDown pic_blocks n_pic_co pic_co_35 crs_kind crs_first crs_last crs_bits crs_interval crs_units crs_blocksOfUnit crs_laid sto_length n_sto_b sto_b rd_at_j93 rd_part_j93 rd_left_j93 rd_fault_j93 dec_keeps dec_run_35 tab_end tab_size tab_s tab_f tab_x) [(0, .ref a_dec), (1, .ref a_tab), (2, .int p1), (4, .int v4_35), (5, .int v5_35), (6, .int v6_35), (7, .int v7_j93)] [] := by
        intro v7_j93 rd_at_j93 rd_part_j93 rd_left_j93 rd_fault_j93 hf H locs ls hP hD hS hl
        unfold f_Decoder_takeOthers_J35_93 at hf
        refine lv_aload_n hx hb d_m732_93 rfl (lv_at hl 0 rfl) ?_
        refine lv_iload hx hb d_m732_94 (lv_at hl 6 rfl) ?_
        obtain ⟨z2, hz2, hf⟩ := ob_bind hf
        refine vp_callSi (g_run (va_runV (As := [.int v7_j93]) (rest := []) ⟨hx, hb, hml, hown, hts⟩ (c_Decoder_endsBand l dC dI cI cB cS cT a_crs a_dec a_pic a_crs_ow a_crs_pl a_crs_dt a_crs_ot a_tbs a_rd a_dec_p crs_kind crs_first crs_last crs_bits crs_interval crs_units crs_blocksOfUnit crs_laid dec_keeps dec_run_35 v7_j93 z2 hz2) ⟨(callB_of 1 hts (gi tw_740 rfl) rfl rfl rfl (hts _ (List.mem_cons_of_mem _ tw_14)) (hts _ (List.mem_cons_of_mem _ tw_737)) (by decide +kernel) ⟨Nat.le_of_ble_eq_true rfl, Nat.le_of_ble_eq_true rfl⟩), hts _ (List.mem_cons_of_mem _ tw_739), hts _ (List.mem_cons_of_mem _ ts_m740)⟩ ⟨gp_blind, va_recv hK hP (ci := 5) (q0 := 6) rfl rfl, gp_at hKN (g_pm hP [2, 6] rfl)⟩ rfl rfl hl.1 rfl (lv_room (Nat.le_of_ble_eq_true rfl)) d_m732_96 ⟨Nat.zero_le _, Nat.zero_le _⟩)) (fun r hrz2 => ?_)
        have hrz2 := hrz2.symm
        subst hrz2
        refine W.eq (g2 := F0 m 99 ls [.int z2]) rfl ?_
        refine lv_if_eq (tgt := 113) hx hb d_m732_99 (by decide) (fun hc => ?_) (fun hc => ?_)
        · replace hf := (if_pos hc).symm.trans hf
          refine lv_iload hx hb d_m732_113 (lv_at hl 3 rfl) ?_
          refine lv_if_eq (tgt := 132) hx hb d_m732_115 (by decide) (fun hc => ?_) (fun hc => ?_)
          · replace hf := (if_pos hc).symm.trans hf
            refine lv_aload_n hx hb d_m732_132 rfl (lv_at hl 0 rfl) ?_
            refine lv_iload hx hb d_m732_133 (lv_at hl 6 rfl) ?_
            refine lv_iload_n hx hb d_m732_135 rfl (lv_at hl 2 rfl) ?_
            refine lv_iload hx hb d_m732_136 (lv_at hl 4 rfl) ?_
            obtain ⟨z3, hz3, hf⟩ := ob_bind hf
            refine g_calli (wc := (w_Decoder_takeOther cI cB cS cT a_pic a_pic_co a_crs a_sto a_sto_b a_rd a_dec a_pic_h a_pic_v a_pic_ac a_pic_dn a_pic_oa a_pic_od a_pic_st a_crs_ow a_crs_pl a_crs_dt a_crs_ot a_tbs a_dec_p pic_many pic_unitsAcross pic_unitsDown pic_blocks n_pic_co pic_co_35 crs_kind crs_first crs_last crs_bits crs_interval crs_units crs_blocksOfUnit crs_laid sto_length n_sto_b sto_b rd_at_j93 rd_part_j93 rd_left_j93 rd_fault_j93 dec_keeps dec_run_35)) (w1 := (w_Decoder_takeOther cI cB cS cT a_pic a_pic_co a_crs a_sto a_sto_b a_rd a_dec a_pic_h a_pic_v a_pic_ac a_pic_dn a_pic_oa a_pic_od a_pic_st a_crs_ow a_crs_pl a_crs_dt a_crs_ot a_tbs a_dec_p pic_many pic_unitsAcross pic_unitsDown pic_blocks n_pic_co z3.2.1 crs_kind crs_first crs_last crs_bits crs_interval crs_units crs_blocksOfUnit crs_laid sto_length n_sto_b sto_b z3.2.2.1 z3.2.2.2.1 z3.2.2.2.2.1 z3.2.2.2.2.2 dec_keeps dec_run_35)) (w2 := (w_Decoder_takeOthers cI cB cS cT a_pic a_pic_co a_crs a_sto a_sto_b a_rd a_dec a_tab a_tab_s a_tab_f a_tab_x a_pic_h a_pic_v a_pic_ac a_pic_dn a_pic_oa a_pic_od a_pic_st a_crs_ow a_crs_pl a_crs_dt a_crs_ot a_tbs a_dec_p a_tab_w pic_many pic_unitsAcross pic_unitsDown pic_blocks n_pic_co z3.2.1 crs_kind crs_first crs_last crs_bits crs_interval crs_units crs_blocksOfUnit crs_laid sto_length n_sto_b sto_b z3.2.2.1 z3.2.2.2.1 z3.2.2.2.2.1 z3.2.2.2.2.2 dec_keeps dec_run_35 tab_end tab_size tab_s tab_f tab_x)) [0, 1, 2, 3, 4, 5, 6] [some 0, some 1, some 2, some 3, some 4, some 5, some 6, none, none, none, none] hP hD hS hA rfl rfl rfl rfl (va_runV (As := [.int v7_j93, .int p1, .int v5_35]) (rest := []) ⟨hx, hb, hml, hown, hts⟩ (c_Decoder_takeOther l dC dI cI cB cS cT N a_pic a_pic_co a_crs a_sto a_sto_b a_rd a_dec a_pic_h a_pic_v a_pic_ac a_pic_dn a_pic_oa a_pic_od a_pic_st a_crs_ow a_crs_pl a_crs_dt a_crs_ot a_tbs a_dec_p pic_many pic_unitsAcross pic_unitsDown pic_blocks n_pic_co pic_co_35 crs_kind crs_first crs_last crs_bits crs_interval crs_units crs_blocksOfUnit crs_laid sto_length n_sto_b sto_b rd_at_j93 rd_part_j93 rd_left_j93 rd_fault_j93 dec_keeps dec_run_35 v7_j93 p1 v5_35 H.size z3 hz3) ⟨(callB_of 3 hts (gi tw_757 rfl) rfl rfl rfl (hts _ (List.mem_cons_of_mem _ tw_14)) (hts _ (List.mem_cons_of_mem _ tw_754)) (by decide +kernel) ⟨Nat.le_of_ble_eq_true rfl, Nat.le_of_ble_eq_true rfl⟩), hts _ (List.mem_cons_of_mem _ tw_756), hts _ (List.mem_cons_of_mem _ ts_m757)⟩ ⟨g_blind, va_recv hK hP (ci := 5) (q0 := 6) rfl rfl, g_at hKN (g_pm hP [0, 1, 2, 3, 4, 5, 6] rfl) (hD.sub [0, 1, 2, 3, 4, 5, 6] (by decide) rfl)⟩ rfl rfl hl.1 rfl (lv_room (Nat.le_of_ble_eq_true rfl)) d_m732_138 ⟨Nat.zero_le _, Nat.zero_le _⟩) (fun H locs hP hD hS => ?_)
            refine W.eq (g2 := F0 m 141 ls [.int z3.1]) rfl ?_
            refine lv_istore (lv' := [(5, .int z3.1), (0, .ref a_dec), (1, .ref a_tab), (2, .int p1), (4, .int v4_35), (6, .int v6_35), (7, .int v7_j93)]) hx hb d_m732_141 hl (by decide) rfl (fun ls hl => ?_)
            exact J35_143 z3.1 z3.2.1 z3.2.2.1 z3.2.2.2.1 z3.2.2.2.2.1 z3.2.2.2.2.2 dec_run_35 hf H locs ls hP hD hS (lv_sub hl [1, 2, 3, 4, 0, 5] rfl)
          · replace hf := (if_neg hc).symm.trans hf
            refine lv_aload_n hx hb d_m732_118 rfl (lv_at hl 0 rfl) ?_
            refine lv_iload hx hb d_m732_119 (lv_at hl 6 rfl) ?_
            refine lv_iload_n hx hb d_m732_121 rfl (lv_at hl 2 rfl) ?_
            refine lv_iload hx hb d_m732_122 (lv_at hl 4 rfl) ?_
            obtain ⟨z4, hz4, hf⟩ := ob_bind hf
            refine g_calli (wc := (w_Decoder_takeNewOne cI cB cS cT a_pic a_pic_co a_crs a_sto a_sto_b a_rd a_dec a_pic_h a_pic_v a_pic_ac a_pic_dn a_pic_oa a_pic_od a_pic_st a_crs_ow a_crs_pl a_crs_dt a_crs_ot a_tbs a_dec_p pic_many pic_unitsAcross pic_unitsDown pic_blocks n_pic_co pic_co_35 crs_kind crs_first crs_last crs_bits crs_interval crs_units crs_blocksOfUnit crs_laid sto_length n_sto_b sto_b rd_at_j93 rd_part_j93 rd_left_j93 rd_fault_j93 dec_keeps dec_run_35)) (w1 := (w_Decoder_takeNewOne cI cB cS cT a_pic a_pic_co a_crs a_sto a_sto_b a_rd a_dec a_pic_h a_pic_v a_pic_ac a_pic_dn a_pic_oa a_pic_od a_pic_st a_crs_ow a_crs_pl a_crs_dt a_crs_ot a_tbs a_dec_p pic_many pic_unitsAcross pic_unitsDown pic_blocks n_pic_co z4.2.1 crs_kind crs_first crs_last crs_bits crs_interval crs_units crs_blocksOfUnit crs_laid sto_length n_sto_b sto_b z4.2.2.1 z4.2.2.2.1 z4.2.2.2.2.1 z4.2.2.2.2.2 dec_keeps dec_run_35)) (w2 := (w_Decoder_takeOthers cI cB cS cT a_pic a_pic_co a_crs a_sto a_sto_b a_rd a_dec a_tab a_tab_s a_tab_f a_tab_x a_pic_h a_pic_v a_pic_ac a_pic_dn a_pic_oa a_pic_od a_pic_st a_crs_ow a_crs_pl a_crs_dt a_crs_ot a_tbs a_dec_p a_tab_w pic_many pic_unitsAcross pic_unitsDown pic_blocks n_pic_co z4.2.1 crs_kind crs_first crs_last crs_bits crs_interval crs_units crs_blocksOfUnit crs_laid sto_length n_sto_b sto_b z4.2.2.1 z4.2.2.2.1 z4.2.2.2.2.1 z4.2.2.2.2.2 dec_keeps dec_run_35 tab_end tab_size tab_s tab_f tab_x)) [0, 1, 2, 3, 4, 5, 6] [some 0, some 1, some 2, some 3, some 4, some 5, some 6, none, none, none, none] hP hD hS hA rfl rfl rfl rfl (va_runV (As := [.int v7_j93, .int p1, .int v5_35]) (rest := []) ⟨hx, hb, hml, hown, hts⟩ (c_Decoder_takeNewOne l dC dI cI cB cS cT N a_pic a_pic_co a_crs a_sto a_sto_b a_rd a_dec a_pic_h a_pic_v a_pic_ac a_pic_dn a_pic_oa a_pic_od a_pic_st a_crs_ow a_crs_pl a_crs_dt a_crs_ot a_tbs a_dec_p pic_many pic_unitsAcross pic_unitsDown pic_blocks n_pic_co pic_co_35 crs_kind crs_first crs_last crs_bits crs_interval crs_units crs_blocksOfUnit crs_laid sto_length n_sto_b sto_b rd_at_j93 rd_part_j93 rd_left_j93 rd_fault_j93 dec_keeps dec_run_35 v7_j93 p1 v5_35 H.size z4 hz4) ⟨(callB_of 3 hts (gi tw_748 rfl) rfl rfl rfl (hts _ (List.mem_cons_of_mem _ tw_14)) (hts _ (List.mem_cons_of_mem _ tw_745)) (by decide +kernel) ⟨Nat.le_of_ble_eq_true rfl, Nat.le_of_ble_eq_true rfl⟩), hts _ (List.mem_cons_of_mem _ tw_747), hts _ (List.mem_cons_of_mem _ ts_m748)⟩ ⟨g_blind, va_recv hK hP (ci := 5) (q0 := 6) rfl rfl, g_at hKN (g_pm hP [0, 1, 2, 3, 4, 5, 6] rfl) (hD.sub [0, 1, 2, 3, 4, 5, 6] (by decide) rfl)⟩ rfl rfl hl.1 rfl (lv_room (Nat.le_of_ble_eq_true rfl)) d_m732_124 ⟨Nat.zero_le _, Nat.zero_le _⟩) (fun H locs hP hD hS => ?_)
            refine W.eq (g2 := F0 m 127 ls [.int z4.1]) rfl ?_
            refine lv_istore (lv' := [(5, .int z4.1), (0, .ref a_dec), (1, .ref a_tab), (2, .int p1), (4, .int v4_35), (6, .int v6_35), (7, .int v7_j93)]) hx hb d_m732_127 hl (by decide) rfl (fun ls hl => ?_)
            refine lv_goto (tgt := 143) hx hb d_m732_129 (by decide) ?_
            exact J35_143 z4.1 z4.2.1 z4.2.2.1 z4.2.2.2.1 z4.2.2.2.2.1 z4.2.2.2.2.2 dec_run_35 hf H locs ls hP hD hS (lv_sub hl [1, 2, 3, 4, 0, 5] rfl)
        · replace hf := (if_neg hc).symm.trans hf
          refine lv_aload_n hx hb d_m732_102 rfl (lv_at hl 0 rfl) ?_
          refine lv_iload hx hb d_m732_103 (lv_at hl 6 rfl) ?_
          refine lv_iconst (v := (4 : Int32)) hx hb d_m732_105 (by decide) ?_
          refine lv_ishr hx hb d_m732_106 ?_
          obtain ⟨z5, hz5, hf⟩ := ob_bind hf
          refine g_callv (wc := (w_Decoder_takeRun cI cB cS cT a_sto a_sto_b a_rd a_dec a_pic a_crs a_tbs a_dec_p sto_length n_sto_b sto_b rd_at_j93 rd_part_j93 rd_left_j93 rd_fault_j93 dec_keeps dec_run_35)) (w1 := (w_Decoder_takeRun cI cB cS cT a_sto a_sto_b a_rd a_dec a_pic a_crs a_tbs a_dec_p sto_length n_sto_b sto_b z5.1 z5.2.1 z5.2.2.1 z5.2.2.2.1 dec_keeps z5.2.2.2.2)) (w2 := (w_Decoder_takeOthers cI cB cS cT a_pic a_pic_co a_crs a_sto a_sto_b a_rd a_dec a_tab a_tab_s a_tab_f a_tab_x a_pic_h a_pic_v a_pic_ac a_pic_dn a_pic_oa a_pic_od a_pic_st a_crs_ow a_crs_pl a_crs_dt a_crs_ot a_tbs a_dec_p a_tab_w pic_many pic_unitsAcross pic_unitsDown pic_blocks n_pic_co pic_co_35 crs_kind crs_first crs_last crs_bits crs_interval crs_units crs_blocksOfUnit crs_laid sto_length n_sto_b sto_b z5.1 z5.2.1 z5.2.2.1 z5.2.2.2.1 dec_keeps z5.2.2.2.2 tab_end tab_size tab_s tab_f tab_x)) [3, 4, 5, 6] [none, none, none, some 0, some 1, some 2, some 3, none, none, none, none] hP hD hS hA rfl rfl rfl rfl (va_runV (As := [.int (v7_j93 >>> ((4 : Int32) &&& 31))]) (rest := []) ⟨hx, hb, hml, hown, hts⟩ (c_Decoder_takeRun l dC dI cI cB cS cT N a_sto a_sto_b a_rd a_dec a_pic a_crs a_tbs a_dec_p sto_length n_sto_b sto_b rd_at_j93 rd_part_j93 rd_left_j93 rd_fault_j93 dec_keeps dec_run_35 (v7_j93 >>> ((4 : Int32) &&& 31)) H.size z5 hz5) ⟨(callB_of 1 hts (gi tw_744 rfl) rfl rfl rfl (hts _ (List.mem_cons_of_mem _ tw_14)) (hts _ (List.mem_cons_of_mem _ tw_741)) (by decide +kernel) ⟨Nat.le_of_ble_eq_true rfl, Nat.le_of_ble_eq_true rfl⟩), hts _ (List.mem_cons_of_mem _ tw_743), hts _ (List.mem_cons_of_mem _ ts_m744)⟩ ⟨g_blind, va_recv hK hP (ci := 5) (q0 := 6) rfl rfl, g_at hKN (g_pm hP [3, 4, 5, 6] rfl) (hD.sub [3, 4, 5, 6] (by decide) rfl)⟩ rfl rfl hl.1 rfl (lv_room (Nat.le_of_ble_eq_true rfl)) d_m732_107 ⟨Nat.zero_le _, Nat.zero_le _⟩) (fun H locs hP hD hS => ?_)
          refine W.eq (g2 := F0 m 110 ls []) rfl ?_
          refine lv_goto (tgt := 143) hx hb d_m732_110 (by decide) ?_
          exact J35_143 v5_35 pic_co_35 z5.1 z5.2.1 z5.2.2.1 z5.2.2.2.1 z5.2.2.2.2 hf H locs ls hP hD hS (lv_sub hl [0, 1, 2, 3, 4, 5] rfl)
      have hf : f_Decoder_takeOthers_L35b crs_last sto_length n_sto_b sto_b tab_end tab_s tab_f tab_x crs_kind v4_35 p1 n_pic_co crs_bits dec_keeps N (f_Decoder_takeOthers_L35 crs_last sto_length n_sto_b sto_b tab_end tab_s tab_f tab_x crs_kind v4_35 p1 n_pic_co crs_bits dec_keeps N k) v5_35 v6_35 pic_co_35 rd_at_35 rd_part_35 rd_left_35 rd_fault_35 dec_run_35 = some z := hf
      unfold f_Decoder_takeOthers_L35b at hf
      refine lv_iload hx hb d_m732_35 (lv_at hl 5 rfl) ?_
      refine lv_bipush (v := (64 : Int32)) hx hb d_m732_37 (by decide) ?_
      refine lv_icmp_ge (tgt := 160) hx hb d_m732_39 (by decide) (fun hc => ?_) (fun hc => ?_)
      · replace hf := (if_pos hc).symm.trans hf
        obtain rfl := Option.some.inj hf
        exact hE2 rfl  H locs ls hP hD hS (lv_sub hl [0, 2, 3, 4] rfl)
      · replace hf := (if_neg hc).symm.trans hf
        refine lv_iload hx hb d_m732_42 (lv_at hl 4 rfl) ?_
        refine lv_aload_n hx hb d_m732_44 rfl (lv_at hl 0 rfl) ?_
        refine va_get (D := (dC, dI)) (ci := 5) (v := .ref a_crs) (C := "ScanCoder$Decoder") (T := T_5) (N := 7) hx hb hts n0 hown hK hP 6 rfl rfl 1 (by decide) k0 (fun _ h9 => h9) rfl d_m732_45 ?_
        refine va_get (D := (dC, dI)) (ci := 4) (v := .int crs_last) (C := "ScanCoder$Course") (T := T_4) (N := 13) hx hb hts n1 hown hK hP 2 rfl rfl 7 (by decide) k2 (fun _ h9 => h9) rfl d_m732_48 ?_
        refine lv_icmp_gt (tgt := 160) hx hb d_m732_51 (by decide) (fun hc => ?_) (fun hc => ?_)
        · replace hf := (if_pos hc).symm.trans hf
          obtain rfl := Option.some.inj hf
          exact hE2 rfl  H locs ls hP hD hS (lv_sub hl [0, 2, 3, 4] rfl)
        · replace hf := (if_neg hc).symm.trans hf
          refine lv_aload_n hx hb d_m732_54 rfl (lv_at hl 0 rfl) ?_
          refine va_get (D := (dC, dI)) (ci := 5) (v := .int dec_run_35) (C := "ScanCoder$Decoder") (T := T_5) (N := 7) hx hb hts n0 hown hK hP 6 rfl rfl 6 (by decide) k3 (fun _ h9 => h9) rfl d_m732_55 ?_
          refine lv_if_ne (tgt := 160) hx hb d_m732_58 (by decide) (fun hc => ?_) (fun hc => ?_)
          · replace hf := (if_neg hc).symm.trans hf
            obtain rfl := Option.some.inj hf
            exact hE2 rfl  H locs ls hP hD hS (lv_sub hl [0, 2, 3, 4] rfl)
          · replace hf := (if_pos hc).symm.trans hf
            refine lv_aload_n hx hb d_m732_61 rfl (lv_at hl 0 rfl) ?_
            refine va_get (D := (dC, dI)) (ci := 5) (v := .ref a_rd) (C := "ScanCoder$Decoder") (T := T_5) (N := 7) hx hb hts n0 hown hK hP 6 rfl rfl 3 (by decide) k4 (fun _ h9 => h9) rfl d_m732_62 ?_
            refine lv_aload_n hx hb d_m732_65 rfl (lv_at hl 1 rfl) ?_
            obtain ⟨z1, hz1, hf⟩ := ob_bind hf
            refine g_calli (wc := (w_BitReader_takeWord cI cB cS cT a_sto a_sto_b a_rd a_tab a_tab_s a_tab_f a_tab_x a_tab_w sto_length n_sto_b sto_b rd_at_35 rd_part_35 rd_left_35 rd_fault_35 tab_end tab_size tab_s tab_f tab_x)) (w1 := (w_BitReader_takeWord cI cB cS cT a_sto a_sto_b a_rd a_tab a_tab_s a_tab_f a_tab_x a_tab_w sto_length n_sto_b sto_b z1.2.1 z1.2.2.1 z1.2.2.2.1 z1.2.2.2.2 tab_end tab_size tab_s tab_f tab_x)) (w2 := (w_Decoder_takeOthers cI cB cS cT a_pic a_pic_co a_crs a_sto a_sto_b a_rd a_dec a_tab a_tab_s a_tab_f a_tab_x a_pic_h a_pic_v a_pic_ac a_pic_dn a_pic_oa a_pic_od a_pic_st a_crs_ow a_crs_pl a_crs_dt a_crs_ot a_tbs a_dec_p a_tab_w pic_many pic_unitsAcross pic_unitsDown pic_blocks n_pic_co pic_co_35 crs_kind crs_first crs_last crs_bits crs_interval crs_units crs_blocksOfUnit crs_laid sto_length n_sto_b sto_b z1.2.1 z1.2.2.1 z1.2.2.2.1 z1.2.2.2.2 dec_keeps dec_run_35 tab_end tab_size tab_s tab_f tab_x)) [3, 4, 5, 7, 8, 9, 10] [none, none, none, some 0, some 1, some 2, none, some 3, some 4, some 5, some 6] hP hD hS hA rfl rfl rfl rfl (va_runV (As := [.ref a_tab]) (rest := []) ⟨hx, hb, hml, hown, hts⟩ (c_BitReader_takeWord l dC dI cI cB cS cT N a_sto a_sto_b a_rd a_tab a_tab_s a_tab_f a_tab_x a_tab_w sto_length n_sto_b sto_b rd_at_35 rd_part_35 rd_left_35 rd_fault_35 tab_end tab_size tab_s tab_f tab_x H.size z1 hz1) ⟨(callB_of 1 hts (gi tw_698 rfl) rfl rfl rfl (hts _ (List.mem_cons_of_mem _ tw_15)) (hts _ (List.mem_cons_of_mem _ tw_695)) (by decide +kernel) ⟨Nat.le_of_ble_eq_true rfl, Nat.le_of_ble_eq_true rfl⟩), hts _ (List.mem_cons_of_mem _ tw_696), hts _ (List.mem_cons_of_mem _ tw_697)⟩ ⟨g_blind, va_recv hK hP (ci := 1) (q0 := 5) rfl rfl, g_at hKN (g_pm hP [3, 4, 5, 7, 8, 9, 10] rfl) (hD.sub [3, 4, 5, 7, 8, 9, 10] (by decide) rfl)⟩ rfl rfl hl.1 rfl (lv_room (Nat.le_of_ble_eq_true rfl)) d_m732_66 ⟨Nat.zero_le _, Nat.zero_le _⟩) (fun H locs hP hD hS => ?_)
            refine W.eq (g2 := F0 m 69 ls [.int z1.1]) rfl ?_
            refine lv_istore (lv' := [(7, .int z1.1), (0, .ref a_dec), (1, .ref a_tab), (2, .int p1), (4, .int v4_35), (5, .int v5_35), (6, .int v6_35)]) hx hb d_m732_69 hl (by decide) rfl (fun ls hl => ?_)
            refine lv_iload hx hb d_m732_71 (lv_at hl 0 rfl) ?_
            refine lv_iconst (v := (-1 : Int32)) hx hb d_m732_73 (by decide) ?_
            refine lv_icmp_eq (tgt := 92) hx hb d_m732_74 (by decide) (fun hc => ?_) (fun hc => ?_)
            · replace hf := (if_pos hc).symm.trans hf
              obtain rfl := Option.some.inj hf
              exact hE0 rfl  H locs ls hP hD hS (lv_sub hl [] rfl)
            · replace hf := (if_neg hc).symm.trans hf
              refine lv_iload hx hb d_m732_77 (lv_at hl 0 rfl) ?_
              refine lv_if_ne (tgt := 93) hx hb d_m732_79 (by decide) (fun hc => ?_) (fun hc => ?_)
              · replace hf := (if_neg hc).symm.trans hf
                exact J35_93 z1.1 z1.2.1 z1.2.2.1 z1.2.2.2.1 z1.2.2.2.2 hf H locs ls hP hD hS (lv_sub hl [1, 2, 3, 4, 5, 6, 0] rfl)
              · replace hf := (if_pos hc).symm.trans hf
                refine lv_aload_n hx hb d_m732_82 rfl (lv_at hl 1 rfl) ?_
                refine va_get (D := (dC, dI)) (ci := 5) (v := .ref a_crs) (C := "ScanCoder$Decoder") (T := T_5) (N := 7) hx hb hts n0 hown hK hP 6 rfl rfl 1 (by decide) k0 (fun _ h9 => h9) rfl d_m732_83 ?_
                refine va_get (D := (dC, dI)) (ci := 4) (v := .int crs_kind) (C := "ScanCoder$Course") (T := T_4) (N := 13) hx hb hts n1 hown hK hP 2 rfl rfl 5 (by decide) k1 (fun _ h9 => h9) rfl d_m732_86 ?_
                refine lv_if_ne (tgt := 93) hx hb d_m732_89 (by decide) (fun hc => ?_) (fun hc => ?_)
                · replace hf := (if_neg hc).symm.trans hf
                  exact J35_93 z1.1 z1.2.1 z1.2.2.1 z1.2.2.2.1 z1.2.2.2.2 hf H locs ls hP hD hS (lv_sub hl [1, 2, 3, 4, 5, 6, 0] rfl)
                · replace hf := (if_pos hc).symm.trans hf
                  obtain rfl := Option.some.inj hf
                  exact hE0 rfl  H locs ls hP hD hS (lv_sub hl [] rfl)
  have J160 : ∀ (v4_j160 : Int32) (v5_j160 : Int32) (pic_co_j160 : Nat → Int32) (rd_at_j160 : Int32) (rd_part_j160 : Int32) (rd_left_j160 : Int32) (rd_fault_j160 : Int32) (dec_run_j160 : Int32), f_Decoder_takeOthers_J160 N dec_run_j160 pic_co_j160 rd_at_j160 rd_part_j160 rd_left_j160 rd_fault_j160 v4_j160 p1 v5_j160 n_pic_co crs_last crs_bits sto_length n_sto_b sto_b dec_keeps = some z → GW (dC, dI) A p l e (headSpec ws_m732 rm_Decoder_takeOthers).room s m args below meth c 0 0 Q 8 160 (w_Decoder_takeOthers cI cB cS cT a_pic a_pic_co a_crs a_sto a_sto_b a_rd a_dec a_tab a_tab_s a_tab_f a_tab_x a_pic_h a_pic_v a_pic_ac a_pic_dn a_pic_oa a_pic_od a_pic_st a_crs_ow a_crs_pl a_crs_dt a_crs_ot a_tbs a_dec_p a_tab_w pic_many pic_unitsAcross pic_unitsDown pic_blocks n_pic_co pic_co_j160 crs_kind crs_first crs_last crs_bits crs_interval crs_units crs_blocksOfUnit crs_laid sto_length n_sto_b sto_b rd_at_j160 rd_part_j160 rd_left_j160 rd_fault_j160 dec_keeps dec_run_j160 tab_end tab_size tab_s tab_f tab_x) [(0, .ref a_dec), (2, .int p1), (4, .int v4_j160), (5, .int v5_j160)] [] := by
    intro v4_j160 v5_j160 pic_co_j160 rd_at_j160 rd_part_j160 rd_left_j160 rd_fault_j160 dec_run_j160 hf H locs ls hP hD hS hl
    unfold f_Decoder_takeOthers_J160 at hf
    refine lv_aload_n hx hb d_m732_160 rfl (lv_at hl 0 rfl) ?_
    refine va_get (D := (dC, dI)) (ci := 5) (v := .int dec_run_j160) (C := "ScanCoder$Decoder") (T := T_5) (N := 7) hx hb hts n0 hown hK hP 6 rfl rfl 6 (by decide) k3 (fun _ h9 => h9) rfl d_m732_161 ?_
    refine lv_if_le (tgt := 189) hx hb d_m732_164 (by decide) (fun hc => ?_) (fun hc => ?_)
    · replace hf := (if_pos hc).symm.trans hf
      obtain rfl := Option.some.inj hf
      subst hQ
      subst hAe
      exact W.vret hx hb hr (fun t ht hW => ⟨⟨(), rfl, trivial, by rw [ht]; exact hP, hD⟩, hS.F ht⟩) hS.2.2 d_m732_189
    · replace hf := (if_neg hc).symm.trans hf
      refine lv_aload_n hx hb d_m732_167 rfl (lv_at hl 0 rfl) ?_
      refine lv_dup hx hb d_m732_168 rfl ?_
      refine va_get (D := (dC, dI)) (ci := 5) (v := .int dec_run_j160) (C := "ScanCoder$Decoder") (T := T_5) (N := 7) hx hb hts n0 hown hK hP 6 rfl rfl 6 (by decide) k3 (fun _ h9 => h9) rfl d_m732_169 ?_
      refine lv_iconst (v := (1 : Int32)) hx hb d_m732_172 (by decide) ?_
      refine lv_isub hx hb d_m732_173 ?_
      refine va_put (D := (dC, dI)) (ci := 5) (v := .int (dec_run_j160 - (1 : Int32))) (ty := .int) (C := "ScanCoder$Decoder") (T := T_5) (N := 7) hx hb hts n0 ty_5 tyok_5 nm_5 hown hK hP hD hS 6 rfl rfl 6 (by decide) k3 (fun _ h9 => h9) rfl (by decide +kernel) rfl rfl (Nat.le_of_ble_eq_true rfl) d_m732_174 (fun H locs hP hD hS => ?_)
      have hP : va_P (dC, dI) vwCl (w_Decoder_takeOthers cI cB cS cT a_pic a_pic_co a_crs a_sto a_sto_b a_rd a_dec a_tab a_tab_s a_tab_f a_tab_x a_pic_h a_pic_v a_pic_ac a_pic_dn a_pic_oa a_pic_od a_pic_st a_crs_ow a_crs_pl a_crs_dt a_crs_ot a_tbs a_dec_p a_tab_w pic_many pic_unitsAcross pic_unitsDown pic_blocks n_pic_co pic_co_j160 crs_kind crs_first crs_last crs_bits crs_interval crs_units crs_blocksOfUnit crs_laid sto_length n_sto_b sto_b rd_at_j160 rd_part_j160 rd_left_j160 rd_fault_j160 dec_keeps (dec_run_j160 - (1 : Int32)) tab_end tab_size tab_s tab_f tab_x) H := hP
      have hD : va_D A (w_Decoder_takeOthers cI cB cS cT a_pic a_pic_co a_crs a_sto a_sto_b a_rd a_dec a_tab a_tab_s a_tab_f a_tab_x a_pic_h a_pic_v a_pic_ac a_pic_dn a_pic_oa a_pic_od a_pic_st a_crs_ow a_crs_pl a_crs_dt a_crs_ot a_tbs a_dec_p a_tab_w pic_many pic_unitsAcross pic_unitsDown pic_blocks n_pic_co pic_co_j160 crs_kind crs_first crs_last crs_bits crs_interval crs_units crs_blocksOfUnit crs_laid sto_length n_sto_b sto_b rd_at_j160 rd_part_j160 rd_left_j160 rd_fault_j160 dec_keeps (dec_run_j160 - (1 : Int32)) tab_end tab_size tab_s tab_f tab_x) := hD
      refine lv_iload hx hb d_m732_177 (lv_at hl 2 rfl) ?_
      refine lv_if_eq (tgt := 189) hx hb d_m732_179 (by decide) (fun hc => ?_) (fun hc => ?_)
      · replace hf := (if_pos hc).symm.trans hf
        obtain rfl := Option.some.inj hf
        subst hQ
        subst hAe
        exact W.vret hx hb hr (fun t ht hW => ⟨⟨(), rfl, trivial, by rw [ht]; exact hP, hD⟩, hS.F ht⟩) hS.2.2 d_m732_189
      · replace hf := (if_neg hc).symm.trans hf
        refine lv_aload_n hx hb d_m732_182 rfl (lv_at hl 0 rfl) ?_
        refine lv_iload_n hx hb d_m732_183 rfl (lv_at hl 1 rfl) ?_
        refine lv_iload hx hb d_m732_184 (lv_at hl 3 rfl) ?_
        obtain ⟨z7, hz7, hf⟩ := ob_bind hf
        refine g_callv (wc := (w_Decoder_refineRest cI cB cS cT a_pic a_pic_co a_crs a_sto a_sto_b a_rd a_dec a_pic_h a_pic_v a_pic_ac a_pic_dn a_pic_oa a_pic_od a_pic_st a_crs_ow a_crs_pl a_crs_dt a_crs_ot a_tbs a_dec_p pic_many pic_unitsAcross pic_unitsDown pic_blocks n_pic_co pic_co_j160 crs_kind crs_first crs_last crs_bits crs_interval crs_units crs_blocksOfUnit crs_laid sto_length n_sto_b sto_b rd_at_j160 rd_part_j160 rd_left_j160 rd_fault_j160 dec_keeps (dec_run_j160 - (1 : Int32)))) (w1 := (w_Decoder_refineRest cI cB cS cT a_pic a_pic_co a_crs a_sto a_sto_b a_rd a_dec a_pic_h a_pic_v a_pic_ac a_pic_dn a_pic_oa a_pic_od a_pic_st a_crs_ow a_crs_pl a_crs_dt a_crs_ot a_tbs a_dec_p pic_many pic_unitsAcross pic_unitsDown pic_blocks n_pic_co z7.1 crs_kind crs_first crs_last crs_bits crs_interval crs_units crs_blocksOfUnit crs_laid sto_length n_sto_b sto_b z7.2.1 z7.2.2.1 z7.2.2.2.1 z7.2.2.2.2 dec_keeps (dec_run_j160 - (1 : Int32)))) (w2 := (w_Decoder_takeOthers cI cB cS cT a_pic a_pic_co a_crs a_sto a_sto_b a_rd a_dec a_tab a_tab_s a_tab_f a_tab_x a_pic_h a_pic_v a_pic_ac a_pic_dn a_pic_oa a_pic_od a_pic_st a_crs_ow a_crs_pl a_crs_dt a_crs_ot a_tbs a_dec_p a_tab_w pic_many pic_unitsAcross pic_unitsDown pic_blocks n_pic_co z7.1 crs_kind crs_first crs_last crs_bits crs_interval crs_units crs_blocksOfUnit crs_laid sto_length n_sto_b sto_b z7.2.1 z7.2.2.1 z7.2.2.2.1 z7.2.2.2.2 dec_keeps (dec_run_j160 - (1 : Int32)) tab_end tab_size tab_s tab_f tab_x)) [0, 1, 2, 3, 4, 5, 6] [some 0, some 1, some 2, some 3, some 4, some 5, some 6, none, none, none, none] hP hD hS hA rfl rfl rfl rfl (va_runV (As := [.int p1, .int v5_j160]) (rest := []) ⟨hx, hb, hml, hown, hts⟩ (c_Decoder_refineRest l dC dI cI cB cS cT N a_pic a_pic_co a_crs a_sto a_sto_b a_rd a_dec a_pic_h a_pic_v a_pic_ac a_pic_dn a_pic_oa a_pic_od a_pic_st a_crs_ow a_crs_pl a_crs_dt a_crs_ot a_tbs a_dec_p pic_many pic_unitsAcross pic_unitsDown pic_blocks n_pic_co pic_co_j160 crs_kind crs_first crs_last crs_bits crs_interval crs_units crs_blocksOfUnit crs_laid sto_length n_sto_b sto_b rd_at_j160 rd_part_j160 rd_left_j160 rd_fault_j160 dec_keeps (dec_run_j160 - (1 : Int32)) p1 v5_j160 H.size z7 hz7) ⟨(callB_of 2 hts (gi tw_761 rfl) rfl rfl rfl (hts _ (List.mem_cons_of_mem _ tw_14)) (hts _ (List.mem_cons_of_mem _ tw_758)) (by decide +kernel) ⟨Nat.le_of_ble_eq_true rfl, Nat.le_of_ble_eq_true rfl⟩), hts _ (List.mem_cons_of_mem _ tw_760), hts _ (List.mem_cons_of_mem _ ts_m761)⟩ ⟨g_blind, va_recv hK hP (ci := 5) (q0 := 6) rfl rfl, g_at hKN (g_pm hP [0, 1, 2, 3, 4, 5, 6] rfl) (hD.sub [0, 1, 2, 3, 4, 5, 6] (by decide) rfl)⟩ rfl rfl hl.1 rfl (lv_room (Nat.le_of_ble_eq_true rfl)) d_m732_186 ⟨Nat.zero_le _, Nat.zero_le _⟩) (fun H locs hP hD hS => ?_)
        refine W.eq (g2 := F0 m 189 ls []) rfl ?_
        obtain rfl := Option.some.inj hf
        subst hQ
        subst hAe
        exact W.vret hx hb hr (fun t ht hW => ⟨⟨(), rfl, trivial, by rw [ht]; exact hP, hD⟩, hS.F ht⟩) hS.2.2 d_m732_189
  have J29 : ∀ (v4_j29 : Int32) (pic_co_j29 : Nat → Int32), f_Decoder_takeOthers_J29 N crs_last sto_length n_sto_b sto_b tab_end tab_s tab_f tab_x crs_kind v4_j29 p1 n_pic_co crs_bits dec_keeps p2 pic_co_j29 rd_at rd_part rd_left rd_fault dec_run = some z → GW (dC, dI) A p l e (headSpec ws_m732 rm_Decoder_takeOthers).room s m args below meth c 0 0 Q 8 29 (w_Decoder_takeOthers cI cB cS cT a_pic a_pic_co a_crs a_sto a_sto_b a_rd a_dec a_tab a_tab_s a_tab_f a_tab_x a_pic_h a_pic_v a_pic_ac a_pic_dn a_pic_oa a_pic_od a_pic_st a_crs_ow a_crs_pl a_crs_dt a_crs_ot a_tbs a_dec_p a_tab_w pic_many pic_unitsAcross pic_unitsDown pic_blocks n_pic_co pic_co_j29 crs_kind crs_first crs_last crs_bits crs_interval crs_units crs_blocksOfUnit crs_laid sto_length n_sto_b sto_b rd_at rd_part rd_left rd_fault dec_keeps dec_run tab_end tab_size tab_s tab_f tab_x) [(0, .ref a_dec), (1, .ref a_tab), (2, .int p1), (3, .int p2), (4, .int v4_j29)] [] := by
    intro v4_j29 pic_co_j29 hf H locs ls hP hD hS hl
    unfold f_Decoder_takeOthers_J29 at hf
    refine lv_iload_n hx hb d_m732_29 rfl (lv_at hl 3 rfl) ?_
    refine lv_istore (lv' := [(5, .int p2), (0, .ref a_dec), (1, .ref a_tab), (2, .int p1), (3, .int p2), (4, .int v4_j29)]) hx hb d_m732_30 hl (by decide) rfl (fun ls hl => ?_)
    refine lv_iconst (v := (0 : Int32)) hx hb d_m732_32 (by decide) ?_
    refine lv_istore (lv' := [(6, .int (0 : Int32)), (5, .int p2), (0, .ref a_dec), (1, .ref a_tab), (2, .int p1), (3, .int p2), (4, .int v4_j29)]) hx hb d_m732_33 hl (by decide) rfl (fun ls hl => ?_)
    obtain ⟨z6, hz6, hf⟩ := ob_bind hf
    refine L35 v4_j29 z6 ?_ ?_ ?_ N p2 (0 : Int32) pic_co_j29 rd_at rd_part rd_left rd_fault dec_run hz6 H locs ls hP hD hS (lv_sub hl [2, 3, 4, 6, 1, 0] rfl)
    · intro hz H locs ls hP hD hS hl
      replace hf := (if_pos hz).symm.trans hf
      obtain rfl := Option.some.inj hf
      subst hQ
      subst hAe
      exact W.vret hx hb hr (fun t ht hW => ⟨⟨(), rfl, trivial, by rw [ht]; exact hP, hD⟩, hS.F ht⟩) hS.2.2 d_m732_92
    · intro hz H locs ls hP hD hS hl
      replace hf := (if_neg (by rw [hz]; decide)).symm.trans hf
      replace hf := (if_pos hz).symm.trans hf
      obtain rfl := Option.some.inj hf
      subst hQ
      subst hAe
      exact W.vret hx hb hr (fun t ht hW => ⟨⟨(), rfl, trivial, by rw [ht]; exact hP, hD⟩, hS.F ht⟩) hS.2.2 d_m732_153
    · intro hz H locs ls hP hD hS hl
      replace hf := (if_neg (by rw [hz]; decide)).symm.trans hf
      replace hf := (if_neg (by rw [hz]; decide)).symm.trans hf
      exact J160 v4_j29 z6.2.1 z6.2.2.1 z6.2.2.2.1 z6.2.2.2.2.1 z6.2.2.2.2.2.1 z6.2.2.2.2.2.2.1 z6.2.2.2.2.2.2.2 hf H locs ls hP hD hS hl
  have J16 : ∀ (s0_j16 : Int32), f_Decoder_takeOthers_J16 N s0_j16 p1 p2 n_pic_co pic_co crs_last dec_keeps sto_length n_sto_b sto_b tab_end tab_s tab_f tab_x crs_kind crs_bits rd_at rd_part rd_left rd_fault dec_run = some z → GW (dC, dI) A p l e (headSpec ws_m732 rm_Decoder_takeOthers).room s m args below meth c 0 0 Q 8 16 (w_Decoder_takeOthers cI cB cS cT a_pic a_pic_co a_crs a_sto a_sto_b a_rd a_dec a_tab a_tab_s a_tab_f a_tab_x a_pic_h a_pic_v a_pic_ac a_pic_dn a_pic_oa a_pic_od a_pic_st a_crs_ow a_crs_pl a_crs_dt a_crs_ot a_tbs a_dec_p a_tab_w pic_many pic_unitsAcross pic_unitsDown pic_blocks n_pic_co pic_co crs_kind crs_first crs_last crs_bits crs_interval crs_units crs_blocksOfUnit crs_laid sto_length n_sto_b sto_b rd_at rd_part rd_left rd_fault dec_keeps dec_run tab_end tab_size tab_s tab_f tab_x) [(0, .ref a_dec), (1, .ref a_tab), (2, .int p1), (3, .int p2)] [.int s0_j16] := by
    intro s0_j16 hf H locs ls hP hD hS hl
    unfold f_Decoder_takeOthers_J16 at hf
    refine lv_istore (lv' := [(4, .int s0_j16), (0, .ref a_dec), (1, .ref a_tab), (2, .int p1), (3, .int p2)]) hx hb d_m732_16 hl (by decide) rfl (fun ls hl => ?_)
    refine lv_iload hx hb d_m732_18 (lv_at hl 0 rfl) ?_
    refine lv_if_ne (tgt := 29) hx hb d_m732_20 (by decide) (fun hc => ?_) (fun hc => ?_)
    · replace hf := (if_neg hc).symm.trans hf
      exact J29 s0_j16 pic_co hf H locs ls hP hD hS (lv_sub hl [1, 2, 3, 4, 0] rfl)
    · replace hf := (if_pos hc).symm.trans hf
      refine lv_aload_n hx hb d_m732_23 rfl (lv_at hl 1 rfl) ?_
      refine lv_iload_n hx hb d_m732_24 rfl (lv_at hl 3 rfl) ?_
      refine lv_iload_n hx hb d_m732_25 rfl (lv_at hl 4 rfl) ?_
      obtain ⟨z8, hz8, hf⟩ := ob_bind hf
      refine g_callv (wc := (w_Decoder_clearOthers cI cB cS cT a_pic a_pic_co a_crs a_dec a_pic_h a_pic_v a_pic_ac a_pic_dn a_pic_oa a_pic_od a_pic_st a_crs_ow a_crs_pl a_crs_dt a_crs_ot a_tbs a_rd a_dec_p pic_many pic_unitsAcross pic_unitsDown pic_blocks n_pic_co pic_co crs_kind crs_first crs_last crs_bits crs_interval crs_units crs_blocksOfUnit crs_laid dec_keeps dec_run)) (w1 := (w_Decoder_clearOthers cI cB cS cT a_pic a_pic_co a_crs a_dec a_pic_h a_pic_v a_pic_ac a_pic_dn a_pic_oa a_pic_od a_pic_st a_crs_ow a_crs_pl a_crs_dt a_crs_ot a_tbs a_rd a_dec_p pic_many pic_unitsAcross pic_unitsDown pic_blocks n_pic_co z8 crs_kind crs_first crs_last crs_bits crs_interval crs_units crs_blocksOfUnit crs_laid dec_keeps dec_run)) (w2 := (w_Decoder_takeOthers cI cB cS cT a_pic a_pic_co a_crs a_sto a_sto_b a_rd a_dec a_tab a_tab_s a_tab_f a_tab_x a_pic_h a_pic_v a_pic_ac a_pic_dn a_pic_oa a_pic_od a_pic_st a_crs_ow a_crs_pl a_crs_dt a_crs_ot a_tbs a_dec_p a_tab_w pic_many pic_unitsAcross pic_unitsDown pic_blocks n_pic_co z8 crs_kind crs_first crs_last crs_bits crs_interval crs_units crs_blocksOfUnit crs_laid sto_length n_sto_b sto_b rd_at rd_part rd_left rd_fault dec_keeps dec_run tab_end tab_size tab_s tab_f tab_x)) [0, 1, 2, 6] [some 0, some 1, some 2, none, none, none, some 3, none, none, none, none] hP hD hS hA rfl rfl rfl rfl (va_runV (As := [.int p1, .int p2]) (rest := []) ⟨hx, hb, hml, hown, hts⟩ (c_Decoder_clearOthers l dC dI cI cB cS cT N a_pic a_pic_co a_crs a_dec a_pic_h a_pic_v a_pic_ac a_pic_dn a_pic_oa a_pic_od a_pic_st a_crs_ow a_crs_pl a_crs_dt a_crs_ot a_tbs a_rd a_dec_p pic_many pic_unitsAcross pic_unitsDown pic_blocks n_pic_co pic_co crs_kind crs_first crs_last crs_bits crs_interval crs_units crs_blocksOfUnit crs_laid dec_keeps dec_run p1 p2 H.size z8 hz8) ⟨(callB_of 2 hts (gi tw_736 rfl) rfl rfl rfl (hts _ (List.mem_cons_of_mem _ tw_14)) (hts _ (List.mem_cons_of_mem _ tw_733)) (by decide +kernel) ⟨Nat.le_of_ble_eq_true rfl, Nat.le_of_ble_eq_true rfl⟩), hts _ (List.mem_cons_of_mem _ tw_735), hts _ (List.mem_cons_of_mem _ ts_m736)⟩ ⟨g_blind, va_recv hK hP (ci := 5) (q0 := 6) rfl rfl, g_at hKN (g_pm hP [0, 1, 2, 6] rfl) (hD.sub [0, 1, 2, 6] (by decide) rfl)⟩ rfl rfl hl.1 rfl (lv_room (Nat.le_of_ble_eq_true rfl)) d_m732_26 ⟨Nat.zero_le _, Nat.zero_le _⟩) (fun H locs hP hD hS => ?_)
      refine W.eq (g2 := F0 m 29 ls []) rfl ?_
      exact J29 s0_j16 z8 hf H locs ls hP hD hS (lv_sub hl [1, 2, 3, 4, 0] rfl)
  have hgo : ∀ (H : Heap) (locs : List Loc), va_P (dC, dI) vwCl (w_Decoder_takeOthers cI cB cS cT a_pic a_pic_co a_crs a_sto a_sto_b a_rd a_dec a_tab a_tab_s a_tab_f a_tab_x a_pic_h a_pic_v a_pic_ac a_pic_dn a_pic_oa a_pic_od a_pic_st a_crs_ow a_crs_pl a_crs_dt a_crs_ot a_tbs a_dec_p a_tab_w pic_many pic_unitsAcross pic_unitsDown pic_blocks n_pic_co pic_co crs_kind crs_first crs_last crs_bits crs_interval crs_units crs_blocksOfUnit crs_laid sto_length n_sto_b sto_b rd_at rd_part rd_left rd_fault dec_keeps dec_run tab_end tab_size tab_s tab_f tab_x) H → va_S A s.heap H locs → W p l e (headSpec ws_m732 rm_Decoder_takeOthers).room s m args below meth c H locs 0 0 Q (F0 m 0 ls []) := by
    intro H locs hP hS
    unfold f_Decoder_takeOthers at hf
    refine lv_aload_n hx hb d_m732_0 rfl (lv_at hl 0 rfl) ?_
    refine va_get (D := (dC, dI)) (ci := 5) (v := .ref a_crs) (C := "ScanCoder$Decoder") (T := T_5) (N := 7) hx hb hts n0 hown hK hP 6 rfl rfl 1 (by decide) k0 (fun _ h9 => h9) rfl d_m732_1 ?_
    refine va_get (D := (dC, dI)) (ci := 4) (v := .int crs_kind) (C := "ScanCoder$Course") (T := T_4) (N := 13) hx hb hts n1 hown hK hP 2 rfl rfl 5 (by decide) k1 (fun _ h9 => h9) rfl d_m732_4 ?_
    refine lv_iconst (v := (4 : Int32)) hx hb d_m732_7 (by decide) ?_
    refine lv_icmp_ne (tgt := 15) hx hb d_m732_8 (by decide) (fun hc => ?_) (fun hc => ?_)
    · replace hf := (if_neg hc).symm.trans hf
      refine lv_iconst (v := (0 : Int32)) hx hb d_m732_15 (by decide) ?_
      exact J16 (0 : Int32) hf H locs ls hP hD hS hl
    · replace hf := (if_pos hc).symm.trans hf
      refine lv_iconst (v := (1 : Int32)) hx hb d_m732_11 (by decide) ?_
      refine lv_goto (tgt := 16) hx hb d_m732_12 (by decide) ?_
      exact J16 (1 : Int32) hf H locs ls hP hD hS hl
  exact hgo _ _ hP hS
def f_Decoder_decode_J96_261 (N : Nat) (rec : (Int32 × (Nat → Int32) × Int32 × Int32 × Int32 × Int32 × Int32 × (Nat → Int32)) → Option ((Nat → Int32) × Int32 × Int32 × Int32 × Int32 × Int32 × (Nat → Int32))) (v4_96 : Int32) (pic_co_j261 : Nat → Int32) (rd_at_j261 : Int32) (rd_part_j261 : Int32) (rd_left_j261 : Int32) (rd_fault_j261 : Int32) (dec_run_j261 : Int32) (dec_p_j261 : Nat → Int32) : Option ((Nat → Int32) × Int32 × Int32 × Int32 × Int32 × Int32 × (Nat → Int32)) :=
  rec (v4_96 + (1 : Int32), pic_co_j261, rd_at_j261, rd_part_j261, rd_left_j261, rd_fault_j261, dec_run_j261, dec_p_j261)
def f_Decoder_decode_L96b (v3_96 : Int32) (crs_blocksOfUnit : Int32) (crs_ow : Nat → Int32) (crs_ot : Nat → Int32) (crs_kind : Int32) (crs_pl : Nat → Int32) (n_pic_co : Nat) (crs_bits : Int32) (crs_dt : Nat → Int32) (sto_length : Int32) (n_sto_b : Nat) (sto_b : Nat → Int32) (dec_keeps_18 : Int32) (vs : Nat → Nat → Int32) (vf : Nat → Nat → Int32) (vx : Nat → Nat → Int32) (ve : Nat → Int32) (crs_last : Int32) (crs_first : Int32) (N : Nat) (rec : (Int32 × (Nat → Int32) × Int32 × Int32 × Int32 × Int32 × Int32 × (Nat → Int32)) → Option ((Nat → Int32) × Int32 × Int32 × Int32 × Int32 × Int32 × (Nat → Int32))) (v4_96 : Int32) (pic_co_96 : Nat → Int32) (rd_at_96 : Int32) (rd_part_96 : Int32) (rd_left_96 : Int32) (rd_fault_96 : Int32) (dec_run_96 : Int32) (dec_p_96 : Nat → Int32) : Option ((Nat → Int32) × Int32 × Int32 × Int32 × Int32 × Int32 × (Nat → Int32)) :=
  if (v3_96 + crs_blocksOfUnit) ≤ v4_96 then
    some (pic_co_96, rd_at_96, rd_part_96, rd_left_96, rd_fault_96, dec_run_96, dec_p_96)
  else
    if rd_fault_96 = 0 then
      if v4_96 < 0 ∨ 192 ≤ v4_96.toNatClampNeg then none else
      if v4_96 < 0 ∨ 192 ≤ v4_96.toNatClampNeg then none else
      if (crs_ow v4_96.toNatClampNeg) < 0 ∨ 4 ≤ (crs_ow v4_96.toNatClampNeg).toNatClampNeg then none else
      if (crs_ot (crs_ow v4_96.toNatClampNeg).toNatClampNeg) < 0 ∨ 8 ≤ (crs_ot (crs_ow v4_96.toNatClampNeg).toNatClampNeg).toNatClampNeg then none else
      if crs_kind = (0 : Int32) then
        (f_Decoder_takeDirect N (crs_ow v4_96.toNatClampNeg) (crs_pl v4_96.toNatClampNeg) n_pic_co pic_co_96 crs_bits crs_dt sto_length n_sto_b sto_b rd_at_96 rd_part_96 rd_left_96 rd_fault_96 dec_keeps_18 dec_p_96 vs vf vx ve).bind fun z5 =>
        if z5.2.2.2.2.1 = 0 then
          (f_Decoder_takeOthers N (crs_pl v4_96.toNatClampNeg) (1 : Int32) n_pic_co z5.1 crs_kind crs_last crs_bits sto_length n_sto_b sto_b z5.2.1 z5.2.2.1 z5.2.2.2.1 z5.2.2.2.2.1 dec_keeps_18 dec_run_96 (ve ((crs_ot (crs_ow v4_96.toNatClampNeg).toNatClampNeg).toNatClampNeg)) (vs ((crs_ot (crs_ow v4_96.toNatClampNeg).toNatClampNeg).toNatClampNeg)) (vf ((crs_ot (crs_ow v4_96.toNatClampNeg).toNatClampNeg).toNatClampNeg)) (vx ((crs_ot (crs_ow v4_96.toNatClampNeg).toNatClampNeg).toNatClampNeg))).bind fun z6 =>
          f_Decoder_decode_J96_261 N rec v4_96 z6.1 z6.2.1 z6.2.2.1 z6.2.2.2.1 z6.2.2.2.2.1 z6.2.2.2.2.2 z5.2.2.2.2.2
        else
          f_Decoder_decode_J96_261 N rec v4_96 z5.1 z5.2.1 z5.2.2.1 z5.2.2.2.1 z5.2.2.2.2.1 dec_run_96 z5.2.2.2.2.2
      else if crs_kind = (1 : Int32) then
        (f_Decoder_takeDirect N (crs_ow v4_96.toNatClampNeg) (crs_pl v4_96.toNatClampNeg) n_pic_co pic_co_96 crs_bits crs_dt sto_length n_sto_b sto_b rd_at_96 rd_part_96 rd_left_96 rd_fault_96 dec_keeps_18 dec_p_96 vs vf vx ve).bind fun z7 =>
        f_Decoder_decode_J96_261 N rec v4_96 z7.1 z7.2.1 z7.2.2.1 z7.2.2.2.1 z7.2.2.2.2.1 dec_run_96 z7.2.2.2.2.2
      else if crs_kind = (2 : Int32) then
        (f_Decoder_refineDirect N (crs_pl v4_96.toNatClampNeg) n_pic_co pic_co_96 crs_bits sto_length n_sto_b sto_b rd_at_96 rd_part_96 rd_left_96 rd_fault_96 dec_keeps_18).bind fun z8 =>
        f_Decoder_decode_J96_261 N rec v4_96 z8.1 z8.2.1 z8.2.2.1 z8.2.2.2.1 z8.2.2.2.2 dec_run_96 dec_p_96
      else 
        (f_Decoder_takeOthers N (crs_pl v4_96.toNatClampNeg) crs_first n_pic_co pic_co_96 crs_kind crs_last crs_bits sto_length n_sto_b sto_b rd_at_96 rd_part_96 rd_left_96 rd_fault_96 dec_keeps_18 dec_run_96 (ve ((crs_ot (crs_ow v4_96.toNatClampNeg).toNatClampNeg).toNatClampNeg)) (vs ((crs_ot (crs_ow v4_96.toNatClampNeg).toNatClampNeg).toNatClampNeg)) (vf ((crs_ot (crs_ow v4_96.toNatClampNeg).toNatClampNeg).toNatClampNeg)) (vx ((crs_ot (crs_ow v4_96.toNatClampNeg).toNatClampNeg).toNatClampNeg))).bind fun z9 =>
      f_Decoder_decode_J96_261 N rec v4_96 z9.1 z9.2.1 z9.2.2.1 z9.2.2.2.1 z9.2.2.2.2.1 z9.2.2.2.2.2 dec_p_96
    else
      some (pic_co_96, rd_at_96, rd_part_96, rd_left_96, rd_fault_96, dec_run_96, dec_p_96)
def f_Decoder_decode_L96 (v3_96 : Int32) (crs_blocksOfUnit : Int32) (crs_ow : Nat → Int32) (crs_ot : Nat → Int32) (crs_kind : Int32) (crs_pl : Nat → Int32) (n_pic_co : Nat) (crs_bits : Int32) (crs_dt : Nat → Int32) (sto_length : Int32) (n_sto_b : Nat) (sto_b : Nat → Int32) (dec_keeps_18 : Int32) (vs : Nat → Nat → Int32) (vf : Nat → Nat → Int32) (vx : Nat → Nat → Int32) (ve : Nat → Int32) (crs_last : Int32) (crs_first : Int32) (N : Nat) (k : Nat) : (Int32 × (Nat → Int32) × Int32 × Int32 × Int32 × Int32 × Int32 × (Nat → Int32)) → Option ((Nat → Int32) × Int32 × Int32 × Int32 × Int32 × Int32 × (Nat → Int32)) := it (fun rec a => f_Decoder_decode_L96b v3_96 crs_blocksOfUnit crs_ow crs_ot crs_kind crs_pl n_pic_co crs_bits crs_dt sto_length n_sto_b sto_b dec_keeps_18 vs vf vx ve crs_last crs_first N rec a.1 a.2.1 a.2.2.1 a.2.2.2.1 a.2.2.2.2.1 a.2.2.2.2.2.1 a.2.2.2.2.2.2.1 a.2.2.2.2.2.2.2) k
def f_Decoder_decode_J18_267 (N : Nat) (rec : (Int32 × (Nat → Int32) × Int32 × Int32 × Int32 × Int32 × Int32 × (Nat → Int32)) → Option ((Nat → Int32) × Int32 × Int32 × Int32 × Int32 × Int32 × (Nat → Int32))) (v2_18 : Int32) (pic_co_j267 : Nat → Int32) (rd_at_j267 : Int32) (rd_part_j267 : Int32) (rd_left_j267 : Int32) (rd_fault_j267 : Int32) (dec_run_j267 : Int32) (dec_p_j267 : Nat → Int32) : Option ((Nat → Int32) × Int32 × Int32 × Int32 × Int32 × Int32 × (Nat → Int32)) :=
  rec (v2_18 + (1 : Int32), pic_co_j267, rd_at_j267, rd_part_j267, rd_left_j267, rd_fault_j267, dec_run_j267, dec_p_j267)
def f_Decoder_decode_J18_83 (N : Nat) (rec : (Int32 × (Nat → Int32) × Int32 × Int32 × Int32 × Int32 × Int32 × (Nat → Int32)) → Option ((Nat → Int32) × Int32 × Int32 × Int32 × Int32 × Int32 × (Nat → Int32))) (v2_18 : Int32) (crs_blocksOfUnit : Int32) (crs_ow : Nat → Int32) (crs_ot : Nat → Int32) (crs_kind : Int32) (crs_pl : Nat → Int32) (n_pic_co : Nat) (crs_bits : Int32) (crs_dt : Nat → Int32) (sto_length : Int32) (n_sto_b : Nat) (sto_b : Nat → Int32) (dec_keeps_18 : Int32) (vs : Nat → Nat → Int32) (vf : Nat → Nat → Int32) (vx : Nat → Nat → Int32) (ve : Nat → Int32) (crs_last : Int32) (crs_first : Int32) (pic_co_18 : Nat → Int32) (rd_at_j83 : Int32) (rd_part_18 : Int32) (rd_left_j83 : Int32) (rd_fault_j83 : Int32) (dec_run_j83 : Int32) (dec_p_j83 : Nat → Int32) : Option ((Nat → Int32) × Int32 × Int32 × Int32 × Int32 × Int32 × (Nat → Int32)) :=
  (f_Decoder_decode_L96 (v2_18 * crs_blocksOfUnit) crs_blocksOfUnit crs_ow crs_ot crs_kind crs_pl n_pic_co crs_bits crs_dt sto_length n_sto_b sto_b dec_keeps_18 vs vf vx ve crs_last crs_first N N (v2_18 * crs_blocksOfUnit, pic_co_18, rd_at_j83, rd_part_18, rd_left_j83, rd_fault_j83, dec_run_j83, dec_p_j83)).bind fun z10 =>
    f_Decoder_decode_J18_267 N rec v2_18 z10.1 z10.2.1 z10.2.2.1 z10.2.2.2.1 z10.2.2.2.2.1 z10.2.2.2.2.2.1 z10.2.2.2.2.2.2
def f_Decoder_decode_J18_79 (N : Nat) (rec : (Int32 × (Nat → Int32) × Int32 × Int32 × Int32 × Int32 × Int32 × (Nat → Int32)) → Option ((Nat → Int32) × Int32 × Int32 × Int32 × Int32 × Int32 × (Nat → Int32))) (dec_p_18 : Nat → Int32) (v2_18 : Int32) (crs_blocksOfUnit : Int32) (crs_ow : Nat → Int32) (crs_ot : Nat → Int32) (crs_kind : Int32) (crs_pl : Nat → Int32) (n_pic_co : Nat) (crs_bits : Int32) (crs_dt : Nat → Int32) (sto_length : Int32) (n_sto_b : Nat) (sto_b : Nat → Int32) (dec_keeps_18 : Int32) (vs : Nat → Nat → Int32) (vf : Nat → Nat → Int32) (vx : Nat → Nat → Int32) (ve : Nat → Int32) (crs_last : Int32) (crs_first : Int32) (pic_co_18 : Nat → Int32) (rd_at_j79 : Int32) (rd_part_18 : Int32) (rd_left_j79 : Int32) (rd_fault_j79 : Int32) : Option ((Nat → Int32) × Int32 × Int32 × Int32 × Int32 × Int32 × (Nat → Int32)) :=
  (f_Decoder_forget N dec_p_18).bind fun z12 =>
  f_Decoder_decode_J18_83 N rec v2_18 crs_blocksOfUnit crs_ow crs_ot crs_kind crs_pl n_pic_co crs_bits crs_dt sto_length n_sto_b sto_b dec_keeps_18 vs vf vx ve crs_last crs_first pic_co_18 rd_at_j79 rd_part_18 rd_left_j79 rd_fault_j79 z12.1 z12.2
def f_Decoder_decode_L18b (crs_units : Int32) (crs_interval : Int32) (crs_blocksOfUnit : Int32) (crs_ow : Nat → Int32) (crs_ot : Nat → Int32) (crs_kind : Int32) (crs_pl : Nat → Int32) (n_pic_co : Nat) (crs_bits : Int32) (crs_dt : Nat → Int32) (sto_length : Int32) (n_sto_b : Nat) (sto_b : Nat → Int32) (dec_keeps_18 : Int32) (vs : Nat → Nat → Int32) (vf : Nat → Nat → Int32) (vx : Nat → Nat → Int32) (ve : Nat → Int32) (crs_last : Int32) (crs_first : Int32) (N : Nat) (rec : (Int32 × (Nat → Int32) × Int32 × Int32 × Int32 × Int32 × Int32 × (Nat → Int32)) → Option ((Nat → Int32) × Int32 × Int32 × Int32 × Int32 × Int32 × (Nat → Int32))) (v2_18 : Int32) (pic_co_18 : Nat → Int32) (rd_at_18 : Int32) (rd_part_18 : Int32) (rd_left_18 : Int32) (rd_fault_18 : Int32) (dec_run_18 : Int32) (dec_p_18 : Nat → Int32) : Option ((Nat → Int32) × Int32 × Int32 × Int32 × Int32 × Int32 × (Nat → Int32)) :=
  if crs_units ≤ v2_18 then
    some (pic_co_18, rd_at_18, rd_part_18, rd_left_18, rd_fault_18, dec_run_18, dec_p_18)
  else
    if rd_fault_18 = 0 then
      (f_Course_restartsAhead v2_18 crs_interval).bind fun z3 =>
      if z3 = 0 then
        f_Decoder_decode_J18_83 N rec v2_18 crs_blocksOfUnit crs_ow crs_ot crs_kind crs_pl n_pic_co crs_bits crs_dt sto_length n_sto_b sto_b dec_keeps_18 vs vf vx ve crs_last crs_first pic_co_18 rd_at_18 rd_part_18 rd_left_18 rd_fault_18 dec_run_18 dec_p_18
      else
        (f_Decoder_endPart rd_part_18 rd_left_18 rd_fault_18 dec_run_18).bind fun z11 =>
        if z11.2 = 0 then
          (f_Course_restartAhead v2_18 crs_interval).bind fun z13 =>
          (f_BitReader_takeRestart z13 sto_length n_sto_b sto_b rd_at_18 z11.2).bind fun z14 =>
          f_Decoder_decode_J18_79 N rec dec_p_18 v2_18 crs_blocksOfUnit crs_ow crs_ot crs_kind crs_pl n_pic_co crs_bits crs_dt sto_length n_sto_b sto_b dec_keeps_18 vs vf vx ve crs_last crs_first pic_co_18 z14.1 rd_part_18 z11.1 z14.2
        else
          f_Decoder_decode_J18_79 N rec dec_p_18 v2_18 crs_blocksOfUnit crs_ow crs_ot crs_kind crs_pl n_pic_co crs_bits crs_dt sto_length n_sto_b sto_b dec_keeps_18 vs vf vx ve crs_last crs_first pic_co_18 rd_at_18 rd_part_18 z11.1 z11.2
    else
      some (pic_co_18, rd_at_18, rd_part_18, rd_left_18, rd_fault_18, dec_run_18, dec_p_18)
def f_Decoder_decode_L18 (crs_units : Int32) (crs_interval : Int32) (crs_blocksOfUnit : Int32) (crs_ow : Nat → Int32) (crs_ot : Nat → Int32) (crs_kind : Int32) (crs_pl : Nat → Int32) (n_pic_co : Nat) (crs_bits : Int32) (crs_dt : Nat → Int32) (sto_length : Int32) (n_sto_b : Nat) (sto_b : Nat → Int32) (dec_keeps_18 : Int32) (vs : Nat → Nat → Int32) (vf : Nat → Nat → Int32) (vx : Nat → Nat → Int32) (ve : Nat → Int32) (crs_last : Int32) (crs_first : Int32) (N : Nat) (k : Nat) : (Int32 × (Nat → Int32) × Int32 × Int32 × Int32 × Int32 × Int32 × (Nat → Int32)) → Option ((Nat → Int32) × Int32 × Int32 × Int32 × Int32 × Int32 × (Nat → Int32)) := it (fun rec a => f_Decoder_decode_L18b crs_units crs_interval crs_blocksOfUnit crs_ow crs_ot crs_kind crs_pl n_pic_co crs_bits crs_dt sto_length n_sto_b sto_b dec_keeps_18 vs vf vx ve crs_last crs_first N rec a.1 a.2.1 a.2.2.1 a.2.2.2.1 a.2.2.2.2.1 a.2.2.2.2.2.1 a.2.2.2.2.2.2.1 a.2.2.2.2.2.2.2) k
def f_Decoder_decode_J304 (N : Nat) (rd_fault_j304 : Int32) (pic_co_j304 : Nat → Int32) (rd_at_j304 : Int32) (rd_part_j304 : Int32) (rd_left_j304 : Int32) (dec_keeps_j304 : Int32) (dec_run_j304 : Int32) (dec_p_j304 : Nat → Int32) : Option (Int32 × (Nat → Int32) × Int32 × Int32 × Int32 × Int32 × Int32 × Int32 × (Nat → Int32)) :=
  some (rd_fault_j304, pic_co_j304, rd_at_j304, rd_part_j304, rd_left_j304, rd_fault_j304, dec_keeps_j304, dec_run_j304, dec_p_j304)
def f_Decoder_decode_J287 (N : Nat) (rd_fault_j287 : Int32) (sto_length : Int32) (rd_at_j287 : Int32) (pic_co_j287 : Nat → Int32) (rd_part_j287 : Int32) (rd_left_j287 : Int32) (dec_keeps_j287 : Int32) (dec_run_j287 : Int32) (dec_p_j287 : Nat → Int32) : Option (Int32 × (Nat → Int32) × Int32 × Int32 × Int32 × Int32 × Int32 × Int32 × (Nat → Int32)) :=
  if rd_fault_j287 = 0 then
    (f_BitReader_takeEnd sto_length rd_at_j287 rd_fault_j287).bind fun z16 =>
    f_Decoder_decode_J304 N z16 pic_co_j287 rd_at_j287 rd_part_j287 rd_left_j287 dec_keeps_j287 dec_run_j287 dec_p_j287
  else
    f_Decoder_decode_J304 N rd_fault_j287 pic_co_j287 rd_at_j287 rd_part_j287 rd_left_j287 dec_keeps_j287 dec_run_j287 dec_p_j287
def f_Decoder_decode_J273 (N : Nat) (rd_fault_j273 : Int32) (rd_part_j273 : Int32) (rd_left_j273 : Int32) (dec_run_j273 : Int32) (sto_length : Int32) (rd_at_j273 : Int32) (pic_co_j273 : Nat → Int32) (dec_keeps_j273 : Int32) (dec_p_j273 : Nat → Int32) : Option (Int32 × (Nat → Int32) × Int32 × Int32 × Int32 × Int32 × Int32 × Int32 × (Nat → Int32)) :=
  if rd_fault_j273 = 0 then
    (f_Decoder_endPart rd_part_j273 rd_left_j273 rd_fault_j273 dec_run_j273).bind fun z17 =>
    f_Decoder_decode_J287 N z17.2 sto_length rd_at_j273 pic_co_j273 rd_part_j273 z17.1 dec_keeps_j273 dec_run_j273 dec_p_j273
  else
    f_Decoder_decode_J287 N rd_fault_j273 sto_length rd_at_j273 pic_co_j273 rd_part_j273 rd_left_j273 dec_keeps_j273 dec_run_j273 dec_p_j273
def f_Decoder_decode (N : Nat) (p0 : Int32) (n_pic_co : Nat) (pic_co : Nat → Int32) (crs_kind : Int32) (crs_first : Int32) (crs_last : Int32) (crs_bits : Int32) (crs_interval : Int32) (crs_units : Int32) (crs_blocksOfUnit : Int32) (crs_ow : Nat → Int32) (crs_pl : Nat → Int32) (crs_dt : Nat → Int32) (crs_ot : Nat → Int32) (sto_length : Int32) (n_sto_b : Nat) (sto_b : Nat → Int32) (dec_p : Nat → Int32) (vs : Nat → Nat → Int32) (vf : Nat → Nat → Int32) (vx : Nat → Nat → Int32) (ve : Nat → Int32) : Option (Int32 × (Nat → Int32) × Int32 × Int32 × Int32 × Int32 × Int32 × Int32 × (Nat → Int32)) :=
  if p0 = 0 ∨ p0 = 1 then (f_BitReader_begin ).bind fun z1 =>
  (f_Decoder_forget N dec_p).bind fun z2 =>
  (f_Decoder_decode_L18 crs_units crs_interval crs_blocksOfUnit crs_ow crs_ot crs_kind crs_pl n_pic_co crs_bits crs_dt sto_length n_sto_b sto_b p0 vs vf vx ve crs_last crs_first N N ((0 : Int32), pic_co, z1.1, z1.2.1, z1.2.2.1, z1.2.2.2, z2.1, z2.2)).bind fun z15 =>
    f_Decoder_decode_J273 N z15.2.2.2.2.1 z15.2.2.1 z15.2.2.2.1 z15.2.2.2.2.2.1 sto_length z15.2.1 z15.1 p0 z15.2.2.2.2.2.2 else none
abbrev w_Decoder_decode (cI cB cS cT : ClassId) (a_pic : Nat) (a_pic_co : Nat) (a_crs : Nat) (a_crs_ow : Nat) (a_crs_pl : Nat) (a_crs_dt : Nat) (a_crs_ot : Nat) (a_sto : Nat) (a_sto_b : Nat) (a_rd : Nat) (a_dec : Nat) (a_dec_p : Nat) (a_tbs : Nat) (a_pic_h : Nat) (a_pic_v : Nat) (a_pic_ac : Nat) (a_pic_dn : Nat) (a_pic_oa : Nat) (a_pic_od : Nat) (a_pic_st : Nat) (pic_many : Int32) (pic_unitsAcross : Int32) (pic_unitsDown : Int32) (pic_blocks : Int32) (n_pic_co : Nat) (pic_co : Nat → Int32) (crs_kind : Int32) (crs_first : Int32) (crs_last : Int32) (crs_bits : Int32) (crs_interval : Int32) (crs_units : Int32) (crs_blocksOfUnit : Int32) (crs_laid : Int32) (crs_ow : Nat → Int32) (crs_pl : Nat → Int32) (crs_dt : Nat → Int32) (crs_ot : Nat → Int32) (sto_length : Int32) (n_sto_b : Nat) (sto_b : Nat → Int32) (rd_at : Int32) (rd_part : Int32) (rd_left : Int32) (rd_fault : Int32) (dec_keeps : Int32) (dec_run : Int32) (dec_p : Nat → Int32) (ta : Nat → Nat) (tw : Nat → Nat) (ts : Nat → Nat) (tf : Nat → Nat) (tx : Nat → Nat) (vw : Nat → Nat → Int32) (vs : Nat → Nat → Int32) (vf : Nat → Nat → Int32) (vx : Nat → Nat → Int32) (ve : Nat → Int32) (vz : Nat → Int32) : va_W := [(a_pic, .inr (8, [.ref a_pic_h, .ref a_pic_v, .ref a_pic_ac, .ref a_pic_dn, .ref a_pic_oa, .ref a_pic_od, .ref a_pic_st, .int pic_many, .int pic_unitsAcross, .int pic_unitsDown, .int pic_blocks, .ref a_pic_co])), (a_pic_co, .inl (cS, n_pic_co, .inl pic_co)), (a_crs, .inr (4, [.ref a_pic, .ref a_crs_ow, .ref a_crs_pl, .ref a_crs_dt, .ref a_crs_ot, .int crs_kind, .int crs_first, .int crs_last, .int crs_bits, .int crs_interval, .int crs_units, .int crs_blocksOfUnit, .int crs_laid])), (a_crs_ow, .inl (cI, 192, .inl crs_ow)), (a_crs_pl, .inl (cI, 192, .inl crs_pl)), (a_crs_dt, .inl (cI, 4, .inl crs_dt)), (a_crs_ot, .inl (cI, 4, .inl crs_ot)), (a_sto, .inr (9, [.ref a_sto_b, .int sto_length])), (a_sto_b, .inl (cB, n_sto_b, .inl sto_b)), (a_rd, .inr (1, [.ref a_sto, .int rd_at, .int rd_part, .int rd_left, .int rd_fault])), (a_dec, .inr (5, [.ref a_pic, .ref a_crs, .ref a_tbs, .ref a_rd, .ref a_dec_p, .int dec_keeps, .int dec_run])), (a_dec_p, .inl (cI, 4, .inl dec_p)), (a_tbs, .inl (cT, 8, .inr (.inr (.inr (.inr (fun i => some (ta i)))))))] ++ tbl 10 cI ta tw ts tf tx vw vs vf vx ve vz
def rm_Decoder_decode : Room := { frames := 5, cells := 0, slots := 0, locals := 121 }
set_option maxHeartbeats 1000000 in
set_option maxRecDepth 100000 in
theorem c_Decoder_decode (l : Launch) (dC : Nat → ClassId) (dI : Nat → Nat → Nat) (cI cB cS cT : ClassId) (N : Nat) (a_pic : Nat) (a_pic_co : Nat) (a_crs : Nat) (a_crs_ow : Nat) (a_crs_pl : Nat) (a_crs_dt : Nat) (a_crs_ot : Nat) (a_sto : Nat) (a_sto_b : Nat) (a_rd : Nat) (a_dec : Nat) (a_dec_p : Nat) (a_tbs : Nat) (a_pic_h : Nat) (a_pic_v : Nat) (a_pic_ac : Nat) (a_pic_dn : Nat) (a_pic_oa : Nat) (a_pic_od : Nat) (a_pic_st : Nat) (pic_many : Int32) (pic_unitsAcross : Int32) (pic_unitsDown : Int32) (pic_blocks : Int32) (n_pic_co : Nat) (pic_co : Nat → Int32) (crs_kind : Int32) (crs_first : Int32) (crs_last : Int32) (crs_bits : Int32) (crs_interval : Int32) (crs_units : Int32) (crs_blocksOfUnit : Int32) (crs_laid : Int32) (crs_ow : Nat → Int32) (crs_pl : Nat → Int32) (crs_dt : Nat → Int32) (crs_ot : Nat → Int32) (sto_length : Int32) (n_sto_b : Nat) (sto_b : Nat → Int32) (rd_at : Int32) (rd_part : Int32) (rd_left : Int32) (rd_fault : Int32) (dec_keeps : Int32) (dec_run : Int32) (dec_p : Nat → Int32) (ta : Nat → Nat) (tw : Nat → Nat) (ts : Nat → Nat) (tf : Nat → Nat) (tx : Nat → Nat) (vw : Nat → Nat → Int32) (vs : Nat → Nat → Int32) (vf : Nat → Nat → Int32) (vx : Nat → Nat → Int32) (ve : Nat → Int32) (vz : Nat → Int32) (p0 : Int32) (sz : Nat) (z : Int32 × (Nat → Int32) × Int32 × Int32 × Int32 × Int32 × Int32 × Int32 × (Nat → Int32)) (hf : f_Decoder_decode N p0 n_pic_co pic_co crs_kind crs_first crs_last crs_bits crs_interval crs_units crs_blocksOfUnit crs_ow crs_pl crs_dt crs_ot sto_length n_sto_b sto_b dec_p vs vf vx ve = some z) : Met l y_m663 ws_m663 rm_Decoder_decode (gPre (dC, dI) [.ref a_dec, .int p0] (gT cI cB cS cT) (w_Decoder_decode cI cB cS cT a_pic a_pic_co a_crs a_crs_ow a_crs_pl a_crs_dt a_crs_ot a_sto a_sto_b a_rd a_dec a_dec_p a_tbs a_pic_h a_pic_v a_pic_ac a_pic_dn a_pic_oa a_pic_od a_pic_st pic_many pic_unitsAcross pic_unitsDown pic_blocks n_pic_co pic_co crs_kind crs_first crs_last crs_bits crs_interval crs_units crs_blocksOfUnit crs_laid crs_ow crs_pl crs_dt crs_ot sto_length n_sto_b sto_b rd_at rd_part rd_left rd_fault dec_keeps dec_run dec_p ta tw ts tf tx vw vs vf vx ve vz) sz) (gQi (dC, dI) (gT cI cB cS cT) z.1 (w_Decoder_decode cI cB cS cT a_pic a_pic_co a_crs a_crs_ow a_crs_pl a_crs_dt a_crs_ot a_sto a_sto_b a_rd a_dec a_dec_p a_tbs a_pic_h a_pic_v a_pic_ac a_pic_dn a_pic_oa a_pic_od a_pic_st pic_many pic_unitsAcross pic_unitsDown pic_blocks n_pic_co pic_co crs_kind crs_first crs_last crs_bits crs_interval crs_units crs_blocksOfUnit crs_laid crs_ow crs_pl crs_dt crs_ot sto_length n_sto_b sto_b rd_at rd_part rd_left rd_fault dec_keeps dec_run dec_p ta tw ts tf tx vw vs vf vx ve vz) (w_Decoder_decode cI cB cS cT a_pic a_pic_co a_crs a_crs_ow a_crs_pl a_crs_dt a_crs_ot a_sto a_sto_b a_rd a_dec a_dec_p a_tbs a_pic_h a_pic_v a_pic_ac a_pic_dn a_pic_oa a_pic_od a_pic_st pic_many pic_unitsAcross pic_unitsDown pic_blocks n_pic_co z.2.1 crs_kind crs_first crs_last crs_bits crs_interval crs_units crs_blocksOfUnit crs_laid crs_ow crs_pl crs_dt crs_ot sto_length n_sto_b sto_b z.2.2.1 z.2.2.2.1 z.2.2.2.2.1 z.2.2.2.2.2.1 z.2.2.2.2.2.2.1 z.2.2.2.2.2.2.2.1 z.2.2.2.2.2.2.2.2 ta tw ts tf tx vw vs vf vx ve vz) sz) 0 0 (va_A (w_Decoder_decode cI cB cS cT a_pic a_pic_co a_crs a_crs_ow a_crs_pl a_crs_dt a_crs_ot a_sto a_sto_b a_rd a_dec a_dec_p a_tbs a_pic_h a_pic_v a_pic_ac a_pic_dn a_pic_oa a_pic_od a_pic_st pic_many pic_unitsAcross pic_unitsDown pic_blocks n_pic_co pic_co crs_kind crs_first crs_last crs_bits crs_interval crs_units crs_blocksOfUnit crs_laid crs_ow crs_pl crs_dt crs_ot sto_length n_sto_b sto_b rd_at rd_part rd_left rd_fault dec_keeps dec_run dec_p ta tw ts tf tx vw vs vf vx ve vz) sz) := by
  refine Met.ofW (cc := prog_6_method_2_code) (maxL := 8) (ret := (some .int)) (by decide) rfl ?_
  intro p e s m args below meth c s₁ B hml hv
  obtain ⟨hargs, hsz, hP, hKN, hD0⟩ := hv
  have hK := hKN.1
  have hx := B.exec
  have hb := B.bytes
  have hr := B.returns
  have hts := atoms_spec (ws := ws_m663) B.pre
  have hown : s.vm.findClass "ScanCoder$Decoder" = some m.cls := findClass_of_methodNamed B.named
  have hlocks := B.notSynchronized
  have k0 := hts _ (List.mem_cons_of_mem _ tw_402)
  have k1 := hts _ (List.mem_cons_of_mem _ tw_400)
  have k2 := hts _ (List.mem_cons_of_mem _ tw_398)
  have k3 := hts _ (List.mem_cons_of_mem _ tw_187)
  have k4 := hts _ (List.mem_cons_of_mem _ tw_381)
  have k5 := hts _ (List.mem_cons_of_mem _ tw_191)
  have k6 := hts _ (List.mem_cons_of_mem _ tw_160)
  have k7 := hts _ (List.mem_cons_of_mem _ tw_163)
  have k8 := hts _ (List.mem_cons_of_mem _ tw_399)
  have k9 := hts _ (List.mem_cons_of_mem _ tw_170)
  have k10 := hts _ (List.mem_cons_of_mem _ tw_173)
  have k11 := hts _ (List.mem_cons_of_mem _ tw_176)
  have n0 : ∀ w ∈ u_ws "ScanCoder$Decoder" T_5 7, w ∈ ws_m663 := fun w h => List.mem_cons_of_mem _ (in_5 w h)
  have n1 : ∀ w ∈ u_ws "ScanCoder$Course" T_4 13, w ∈ ws_m663 := fun w h => List.mem_cons_of_mem _ (in_4 w h)
  have n2 : ∀ w ∈ u_ws "ScanCoder$BitReader" T_1 5, w ∈ ws_m663 := fun w h => List.mem_cons_of_mem _ (in_1 w h)
  subst hsz
  have hD := hD0.self (sz := s.heap.size)
  obtain ⟨A, hAe⟩ : ∃ A : Nat → Prop, va_A (w_Decoder_decode cI cB cS cT a_pic a_pic_co a_crs a_crs_ow a_crs_pl a_crs_dt a_crs_ot a_sto a_sto_b a_rd a_dec a_dec_p a_tbs a_pic_h a_pic_v a_pic_ac a_pic_dn a_pic_oa a_pic_od a_pic_st pic_many pic_unitsAcross pic_unitsDown pic_blocks n_pic_co pic_co crs_kind crs_first crs_last crs_bits crs_interval crs_units crs_blocksOfUnit crs_laid crs_ow crs_pl crs_dt crs_ot sto_length n_sto_b sto_b rd_at rd_part rd_left rd_fault dec_keeps dec_run dec_p ta tw ts tf tx vw vs vf vx ve vz) s.heap.size = A := ⟨_, rfl⟩
  rw [hAe] at hD
  have hA : ∀ q : Nat, s.heap.size ≤ q → A q := fun q h => by rw [← hAe]; exact Or.inr h
  have hS : va_S A s.heap s.heap [] := va_S.rf
  have hl := lv_entry ([.ref a_dec, .int p0]) (n := 8) (Nat.le_of_ble_eq_true rfl)
  have hfr : entryFrame m args 8 = F0 m 0 ((lg_sl ([.ref a_dec, .int p0]) ++ List.replicate (8 - (lg_sl ([.ref a_dec, .int p0])).length) Slot.unset).toArray) [] := by rw [hargs]; exact lg_entry_eq _ _ _
  rw [hfr]
  generalize (lg_sl ([.ref a_dec, .int p0]) ++ List.replicate (8 - (lg_sl ([.ref a_dec, .int p0])).length) Slot.unset).toArray = ls at hl ⊢
  have hl : lv_has ls 8 [(0, .ref a_dec), (1, .int p0)] := hl
  refine gen_Q (fun Q hQ => ?_)
  clear hfr
  have L96 : ∀ (v3_96 : Int32) (dec_keeps_18 : Int32) (v2_18 : Int32) (z : (Nat → Int32) × Int32 × Int32 × Int32 × Int32 × Int32 × (Nat → Int32)), (GW (dC, dI) A p l e (headSpec ws_m663 rm_Decoder_decode).room s m args below meth c 0 0 Q 8 267 (w_Decoder_decode cI cB cS cT a_pic a_pic_co a_crs a_crs_ow a_crs_pl a_crs_dt a_crs_ot a_sto a_sto_b a_rd a_dec a_dec_p a_tbs a_pic_h a_pic_v a_pic_ac a_pic_dn a_pic_oa a_pic_od a_pic_st pic_many pic_unitsAcross pic_unitsDown pic_blocks n_pic_co z.1 crs_kind crs_first crs_last crs_bits crs_interval crs_units crs_blocksOfUnit crs_laid crs_ow crs_pl crs_dt crs_ot sto_length n_sto_b sto_b z.2.1 z.2.2.1 z.2.2.2.1 z.2.2.2.2.1 dec_keeps_18 z.2.2.2.2.2.1 z.2.2.2.2.2.2 ta tw ts tf tx vw vs vf vx ve vz) [(0, .ref a_dec), (2, .int v2_18)] []) → ∀ (k : Nat) (v4_96 : Int32) (pic_co_96 : Nat → Int32) (rd_at_96 : Int32) (rd_part_96 : Int32) (rd_left_96 : Int32) (rd_fault_96 : Int32) (dec_run_96 : Int32) (dec_p_96 : Nat → Int32), f_Decoder_decode_L96 v3_96 crs_blocksOfUnit crs_ow crs_ot crs_kind crs_pl n_pic_co crs_bits crs_dt sto_length n_sto_b sto_b dec_keeps_18 vs vf vx ve crs_last crs_first N k (v4_96, pic_co_96, rd_at_96, rd_part_96, rd_left_96, rd_fault_96, dec_run_96, dec_p_96) = some z → GW (dC, dI) A p l e (headSpec ws_m663 rm_Decoder_decode).room s m args below meth c 0 0 Q 8 96 (w_Decoder_decode cI cB cS cT a_pic a_pic_co a_crs a_crs_ow a_crs_pl a_crs_dt a_crs_ot a_sto a_sto_b a_rd a_dec a_dec_p a_tbs a_pic_h a_pic_v a_pic_ac a_pic_dn a_pic_oa a_pic_od a_pic_st pic_many pic_unitsAcross pic_unitsDown pic_blocks n_pic_co pic_co_96 crs_kind crs_first crs_last crs_bits crs_interval crs_units crs_blocksOfUnit crs_laid crs_ow crs_pl crs_dt crs_ot sto_length n_sto_b sto_b rd_at_96 rd_part_96 rd_left_96 rd_fault_96 dec_keeps_18 dec_run_96 dec_p_96 ta tw ts tf tx vw vs vf vx ve vz) [(0, .ref a_dec), (2, .int v2_18), (3, .int v3_96), (4, .int v4_96)] [] := by
    intro v3_96 dec_keeps_18 v2_18 z hE0 k
    induction k with
    | zero =>
      intro v4_96 pic_co_96 rd_at_96 rd_part_96 rd_left_96 rd_fault_96 dec_run_96 dec_p_96 hf
      exact (it_zero hf).elim
    | succ k ih =>
      intro v4_96 pic_co_96 rd_at_96 rd_part_96 rd_left_96 rd_fault_96 dec_run_96 dec_p_96 hf H locs ls hP hD hS hl
      have J96_261 : ∀ (pic_co_j261 : Nat → Int32) (rd_at_j261 : Int32) (rd_part_j261 : Int32) (rd_left_j261 : Int32) (rd_fault_j261 : Int32) (dec_run_j261 : Int32) (dec_p_j261 : Nat → Int32), f_Decoder_decode_J96_261 N (f_Decoder_decode_L96 v3_96 crs_blocksOfUnit crs_ow crs_ot crs_kind crs_pl n_pic_co crs_bits crs_dt sto_length n_sto_b sto_b dec_keeps_18 vs vf vx ve crs_last crs_first N k) v4_96 pic_co_j261 rd_at_j261 rd_part_j261 rd_left_j261 rd_fault_j261 dec_run_j261 dec_p_j261 = some z → GW (dC, dI) A p l e (headSpec ws_m663 rm_Decoder_decode).room s m args below meth c 0 0 Q 8 261 (w_Decoder_decode cI cB cS cT a_pic a_pic_co a_crs a_crs_ow a_crs_pl a_crs_dt a_crs_ot a_sto a_sto_b a_rd a_dec a_dec_p a_tbs a_pic_h a_pic_v a_pic_ac a_pic_dn a_pic_oa a_pic_od a_pic_st pic_many pic_unitsAcross pic_unitsDown pic_blocks n_pic_co pic_co_j261 crs_kind crs_first crs_last crs_bits crs_interval crs_units crs_blocksOfUnit crs_laid crs_ow crs_pl crs_dt crs_ot sto_length n_sto_b sto_b rd_at_j261 rd_part_j261 rd_left_j261 rd_fault_j261 dec_keeps_18 dec_run_j261 dec_p_j261 ta tw ts tf tx vw vs vf vx ve vz) [(0, .ref a_dec), (2, .int v2_18), (3, .int v3_96), (4, .int v4_96)] [] := by
        intro pic_co_j261 rd_at_j261 rd_part_j261 rd_left_j261 rd_fault_j261 dec_run_j261 dec_p_j261 hf H locs ls hP hD hS hl
        unfold f_Decoder_decode_J96_261 at hf
        refine lv_iinc (v := v4_96 + (1 : Int32)) (lv' := [(4, .int (v4_96 + (1 : Int32))), (0, .ref a_dec), (2, .int v2_18), (3, .int v3_96)]) hx hb d_m663_261 hl (k := 3) rfl rfl (by decide) rfl (fun ls hl => ?_)
        refine lv_goto (tgt := 96) hx hb d_m663_264 (by decide) ?_
        exact ih (v4_96 + (1 : Int32)) pic_co_j261 rd_at_j261 rd_part_j261 rd_left_j261 rd_fault_j261 dec_run_j261 dec_p_j261 hf H locs ls hP hD hS (lv_sub hl [1, 2, 3, 0] rfl)
      have hf : f_Decoder_decode_L96b v3_96 crs_blocksOfUnit crs_ow crs_ot crs_kind crs_pl n_pic_co crs_bits crs_dt sto_length n_sto_b sto_b dec_keeps_18 vs vf vx ve crs_last crs_first N (f_Decoder_decode_L96 v3_96 crs_blocksOfUnit crs_ow crs_ot crs_kind crs_pl n_pic_co crs_bits crs_dt sto_length n_sto_b sto_b dec_keeps_18 vs vf vx ve crs_last crs_first N k) v4_96 pic_co_96 rd_at_96 rd_part_96 rd_left_96 rd_fault_96 dec_run_96 dec_p_96 = some z := hf
      unfold f_Decoder_decode_L96b at hf
      refine lv_iload hx hb d_m663_96 (lv_at hl 3 rfl) ?_
      refine lv_iload_n hx hb d_m663_98 rfl (lv_at hl 2 rfl) ?_
      refine lv_aload_n hx hb d_m663_99 rfl (lv_at hl 0 rfl) ?_
      refine va_get (D := (dC, dI)) (ci := 5) (v := .ref a_crs) (C := "ScanCoder$Decoder") (T := T_5) (N := 7) hx hb hts n0 hown hK hP 10 rfl rfl 1 (by decide) k2 (fun _ h9 => h9) rfl d_m663_100 ?_
      refine va_get (D := (dC, dI)) (ci := 4) (v := .int crs_blocksOfUnit) (C := "ScanCoder$Course") (T := T_4) (N := 13) hx hb hts n1 hown hK hP 2 rfl rfl 11 (by decide) k5 (fun _ h9 => h9) rfl d_m663_103 ?_
      refine lv_iadd hx hb d_m663_106 ?_
      refine lv_icmp_ge (tgt := 267) hx hb d_m663_107 (by decide) (fun hc => ?_) (fun hc => ?_)
      · replace hf := (if_pos hc).symm.trans hf
        obtain rfl := Option.some.inj hf
        exact hE0  H locs ls hP hD hS (lv_sub hl [0, 1] rfl)
      · replace hf := (if_neg hc).symm.trans hf
        refine lv_aload_n hx hb d_m663_110 rfl (lv_at hl 0 rfl) ?_
        refine va_get (D := (dC, dI)) (ci := 5) (v := .ref a_rd) (C := "ScanCoder$Decoder") (T := T_5) (N := 7) hx hb hts n0 hown hK hP 10 rfl rfl 3 (by decide) k1 (fun _ h9 => h9) rfl d_m663_111 ?_
        refine va_get (D := (dC, dI)) (ci := 1) (v := .int rd_fault_96) (C := "ScanCoder$BitReader") (T := T_1) (N := 5) hx hb hts n2 hown hK hP 9 rfl rfl 4 (by decide) k4 (fun _ h9 => h9) rfl d_m663_114 ?_
        refine lv_if_ne (tgt := 267) hx hb d_m663_117 (by decide) (fun hc => ?_) (fun hc => ?_)
        · replace hf := (if_neg hc).symm.trans hf
          obtain rfl := Option.some.inj hf
          exact hE0  H locs ls hP hD hS (lv_sub hl [0, 1] rfl)
        · replace hf := (if_pos hc).symm.trans hf
          refine lv_aload_n hx hb d_m663_120 rfl (lv_at hl 0 rfl) ?_
          refine va_get (D := (dC, dI)) (ci := 5) (v := .ref a_crs) (C := "ScanCoder$Decoder") (T := T_5) (N := 7) hx hb hts n0 hown hK hP 10 rfl rfl 1 (by decide) k2 (fun _ h9 => h9) rfl d_m663_121 ?_
          refine va_get (D := (dC, dI)) (ci := 4) (v := .ref a_crs_ow) (C := "ScanCoder$Course") (T := T_4) (N := 13) hx hb hts n1 hown hK hP 2 rfl rfl 1 (by decide) k6 (fun _ h9 => h9) rfl d_m663_124 ?_
          refine lv_iload hx hb d_m663_127 (lv_at hl 3 rfl) ?_
          obtain ⟨hi, hf⟩ := ob_if hf
          refine va_iald hx hb hK hP 3 0 rfl rfl hi d_m663_129 ?_
          refine lv_istore (lv' := [(5, .int (crs_ow v4_96.toNatClampNeg)), (0, .ref a_dec), (2, .int v2_18), (3, .int v3_96), (4, .int v4_96)]) hx hb d_m663_130 hl (by decide) rfl (fun ls hl => ?_)
          refine lv_aload_n hx hb d_m663_132 rfl (lv_at hl 1 rfl) ?_
          refine va_get (D := (dC, dI)) (ci := 5) (v := .ref a_crs) (C := "ScanCoder$Decoder") (T := T_5) (N := 7) hx hb hts n0 hown hK hP 10 rfl rfl 1 (by decide) k2 (fun _ h9 => h9) rfl d_m663_133 ?_
          refine va_get (D := (dC, dI)) (ci := 4) (v := .ref a_crs_pl) (C := "ScanCoder$Course") (T := T_4) (N := 13) hx hb hts n1 hown hK hP 2 rfl rfl 2 (by decide) k7 (fun _ h9 => h9) rfl d_m663_136 ?_
          refine lv_iload hx hb d_m663_139 (lv_at hl 4 rfl) ?_
          obtain ⟨hi, hf⟩ := ob_if hf
          refine va_iald hx hb hK hP 4 0 rfl rfl hi d_m663_141 ?_
          refine lv_istore (lv' := [(6, .int (crs_pl v4_96.toNatClampNeg)), (5, .int (crs_ow v4_96.toNatClampNeg)), (0, .ref a_dec), (2, .int v2_18), (3, .int v3_96), (4, .int v4_96)]) hx hb d_m663_142 hl (by decide) rfl (fun ls hl => ?_)
          refine lv_aload_n hx hb d_m663_144 rfl (lv_at hl 2 rfl) ?_
          refine va_get (D := (dC, dI)) (ci := 5) (v := .ref a_tbs) (C := "ScanCoder$Decoder") (T := T_5) (N := 7) hx hb hts n0 hown hK hP 10 rfl rfl 2 (by decide) k8 (fun _ h9 => h9) rfl d_m663_145 ?_
          refine lv_aload_n hx hb d_m663_148 rfl (lv_at hl 2 rfl) ?_
          refine va_get (D := (dC, dI)) (ci := 5) (v := .ref a_crs) (C := "ScanCoder$Decoder") (T := T_5) (N := 7) hx hb hts n0 hown hK hP 10 rfl rfl 1 (by decide) k2 (fun _ h9 => h9) rfl d_m663_149 ?_
          refine va_get (D := (dC, dI)) (ci := 4) (v := .ref a_crs_ot) (C := "ScanCoder$Course") (T := T_4) (N := 13) hx hb hts n1 hown hK hP 2 rfl rfl 4 (by decide) k9 (fun _ h9 => h9) rfl d_m663_152 ?_
          refine lv_iload hx hb d_m663_155 (lv_at hl 1 rfl) ?_
          obtain ⟨hi, hf⟩ := ob_if hf
          refine va_iald hx hb hK hP 6 0 rfl rfl hi d_m663_157 ?_
          obtain ⟨hi, hf⟩ := ob_if hf
          have hix4 : (crs_ot (crs_ow v4_96.toNatClampNeg).toNatClampNeg).toNatClampNeg < 8 := Nat.lt_of_not_le (fun h => hi (Or.inr h))
          refine va_aldq hx hb hK hP 12 3 rfl rfl hi d_m663_158 ?_
          refine W.eq (g2 := F0 m 159 ls [.ref (ta (crs_ot (crs_ow v4_96.toNatClampNeg).toNatClampNeg).toNatClampNeg)]) rfl ?_
          refine lv_astore (lv' := [(7, .ref (ta (crs_ot (crs_ow v4_96.toNatClampNeg).toNatClampNeg).toNatClampNeg)), (6, .int (crs_pl v4_96.toNatClampNeg)), (5, .int (crs_ow v4_96.toNatClampNeg)), (0, .ref a_dec), (2, .int v2_18), (3, .int v3_96), (4, .int v4_96)]) hx hb d_m663_159 hl (by decide) rfl (fun ls hl => ?_)
          refine lv_aload_n hx hb d_m663_161 rfl (lv_at hl 3 rfl) ?_
          refine va_get (D := (dC, dI)) (ci := 5) (v := .ref a_crs) (C := "ScanCoder$Decoder") (T := T_5) (N := 7) hx hb hts n0 hown hK hP 10 rfl rfl 1 (by decide) k2 (fun _ h9 => h9) rfl d_m663_162 ?_
          refine va_get (D := (dC, dI)) (ci := 4) (v := .int crs_kind) (C := "ScanCoder$Course") (T := T_4) (N := 13) hx hb hts n1 hown hK hP 2 rfl rfl 5 (by decide) k10 (fun _ h9 => h9) rfl d_m663_165 ?_
          rcases Classical.em (crs_kind = (0 : Int32)) with hc0 | hc0
          · replace hf := (if_pos hc0).symm.trans hf
            refine lv_tableIn (tgt := 196) hx hb d_m663_168 (by rw [hc0]; decide) (by rw [hc0]; decide) (by rw [hc0]; rfl) (by decide) ?_
            refine lv_aload_n hx hb d_m663_196 rfl (lv_at hl 3 rfl) ?_
            refine lv_iload hx hb d_m663_197 (lv_at hl 2 rfl) ?_
            refine lv_iload hx hb d_m663_199 (lv_at hl 1 rfl) ?_
            obtain ⟨z5, hz5, hf⟩ := ob_bind hf
            refine g_callv (wc := (w_Decoder_takeDirect cI cB cS cT a_pic a_pic_co a_crs a_crs_dt a_sto a_sto_b a_rd a_dec a_dec_p a_tbs a_pic_h a_pic_v a_pic_ac a_pic_dn a_pic_oa a_pic_od a_pic_st a_crs_ow a_crs_pl a_crs_ot pic_many pic_unitsAcross pic_unitsDown pic_blocks n_pic_co pic_co_96 crs_kind crs_first crs_last crs_bits crs_interval crs_units crs_blocksOfUnit crs_laid crs_dt sto_length n_sto_b sto_b rd_at_96 rd_part_96 rd_left_96 rd_fault_96 dec_keeps_18 dec_run_96 dec_p_96 ta tw ts tf tx vw vs vf vx ve vz)) (w1 := (w_Decoder_takeDirect cI cB cS cT a_pic a_pic_co a_crs a_crs_dt a_sto a_sto_b a_rd a_dec a_dec_p a_tbs a_pic_h a_pic_v a_pic_ac a_pic_dn a_pic_oa a_pic_od a_pic_st a_crs_ow a_crs_pl a_crs_ot pic_many pic_unitsAcross pic_unitsDown pic_blocks n_pic_co z5.1 crs_kind crs_first crs_last crs_bits crs_interval crs_units crs_blocksOfUnit crs_laid crs_dt sto_length n_sto_b sto_b z5.2.1 z5.2.2.1 z5.2.2.2.1 z5.2.2.2.2.1 dec_keeps_18 dec_run_96 z5.2.2.2.2.2 ta tw ts tf tx vw vs vf vx ve vz)) (w2 := (w_Decoder_decode cI cB cS cT a_pic a_pic_co a_crs a_crs_ow a_crs_pl a_crs_dt a_crs_ot a_sto a_sto_b a_rd a_dec a_dec_p a_tbs a_pic_h a_pic_v a_pic_ac a_pic_dn a_pic_oa a_pic_od a_pic_st pic_many pic_unitsAcross pic_unitsDown pic_blocks n_pic_co z5.1 crs_kind crs_first crs_last crs_bits crs_interval crs_units crs_blocksOfUnit crs_laid crs_ow crs_pl crs_dt crs_ot sto_length n_sto_b sto_b z5.2.1 z5.2.2.1 z5.2.2.2.1 z5.2.2.2.2.1 dec_keeps_18 dec_run_96 z5.2.2.2.2.2 ta tw ts tf tx vw vs vf vx ve vz)) [0, 1, 2, 5, 7, 8, 9, 10, 11, 12, 13, 14, 15, 16, 17, 18, 19, 20, 21, 22, 23, 24, 25, 26, 27, 28, 29, 30, 31, 32, 33, 34, 35, 36, 37, 38, 39, 40, 41, 42, 43, 44, 45, 46, 47, 48, 49, 50, 51, 52] [some 0, some 1, some 2, none, none, some 3, none, some 4, some 5, some 6, some 7, some 8, some 9, some 10, some 11, some 12, some 13, some 14, some 15, some 16, some 17, some 18, some 19, some 20, some 21, some 22, some 23, some 24, some 25, some 26, some 27, some 28, some 29, some 30, some 31, some 32, some 33, some 34, some 35, some 36, some 37, some 38, some 39, some 40, some 41, some 42, some 43, some 44, some 45, some 46, some 47, some 48, some 49] hP hD hS hA rfl rfl rfl rfl (va_runV (As := [.int (crs_ow v4_96.toNatClampNeg), .int (crs_pl v4_96.toNatClampNeg)]) (rest := []) ⟨hx, hb, hml, hown, hts⟩ (c_Decoder_takeDirect l dC dI cI cB cS cT N a_pic a_pic_co a_crs a_crs_dt a_sto a_sto_b a_rd a_dec a_dec_p a_tbs a_pic_h a_pic_v a_pic_ac a_pic_dn a_pic_oa a_pic_od a_pic_st a_crs_ow a_crs_pl a_crs_ot pic_many pic_unitsAcross pic_unitsDown pic_blocks n_pic_co pic_co_96 crs_kind crs_first crs_last crs_bits crs_interval crs_units crs_blocksOfUnit crs_laid crs_dt sto_length n_sto_b sto_b rd_at_96 rd_part_96 rd_left_96 rd_fault_96 dec_keeps_18 dec_run_96 dec_p_96 ta tw ts tf tx vw vs vf vx ve vz (crs_ow v4_96.toNatClampNeg) (crs_pl v4_96.toNatClampNeg) H.size z5 hz5) ⟨(callB_of 2 hts (gi tw_694 rfl) rfl rfl rfl (hts _ (List.mem_cons_of_mem _ tw_14)) (hts _ (List.mem_cons_of_mem _ tw_691)) (by decide +kernel) ⟨Nat.le_of_ble_eq_true rfl, Nat.le_of_ble_eq_true rfl⟩), hts _ (List.mem_cons_of_mem _ tw_693), hts _ (List.mem_cons_of_mem _ ts_m694)⟩ ⟨g_blind, va_recv hK hP (ci := 5) (q0 := 10) rfl rfl, g_at hKN (g_pm hP [0, 1, 2, 5, 7, 8, 9, 10, 11, 12, 13, 14, 15, 16, 17, 18, 19, 20, 21, 22, 23, 24, 25, 26, 27, 28, 29, 30, 31, 32, 33, 34, 35, 36, 37, 38, 39, 40, 41, 42, 43, 44, 45, 46, 47, 48, 49, 50, 51, 52] rfl) (hD.sub [0, 1, 2, 5, 7, 8, 9, 10, 11, 12, 13, 14, 15, 16, 17, 18, 19, 20, 21, 22, 23, 24, 25, 26, 27, 28, 29, 30, 31, 32, 33, 34, 35, 36, 37, 38, 39, 40, 41, 42, 43, 44, 45, 46, 47, 48, 49, 50, 51, 52] (by decide) rfl)⟩ rfl rfl hl.1 rfl (lv_room (Nat.le_of_ble_eq_true rfl)) d_m663_201 ⟨Nat.zero_le _, Nat.zero_le _⟩) (fun H locs hP hD hS => ?_)
            refine W.eq (g2 := F0 m 204 ls []) rfl ?_
            refine lv_aload_n hx hb d_m663_204 rfl (lv_at hl 3 rfl) ?_
            refine va_get (D := (dC, dI)) (ci := 5) (v := .ref a_rd) (C := "ScanCoder$Decoder") (T := T_5) (N := 7) hx hb hts n0 hown hK hP 10 rfl rfl 3 (by decide) k1 (fun _ h9 => h9) rfl d_m663_205 ?_
            refine va_get (D := (dC, dI)) (ci := 1) (v := .int z5.2.2.2.2.1) (C := "ScanCoder$BitReader") (T := T_1) (N := 5) hx hb hts n2 hown hK hP 9 rfl rfl 4 (by decide) k4 (fun _ h9 => h9) rfl d_m663_208 ?_
            refine lv_if_ne (tgt := 261) hx hb d_m663_211 (by decide) (fun hc => ?_) (fun hc => ?_)
            · replace hf := (if_neg hc).symm.trans hf
              exact J96_261 z5.1 z5.2.1 z5.2.2.1 z5.2.2.2.1 z5.2.2.2.2.1 dec_run_96 z5.2.2.2.2.2 hf H locs ls hP hD hS (lv_sub hl [3, 4, 5, 6] rfl)
            · replace hf := (if_pos hc).symm.trans hf
              refine lv_aload_n hx hb d_m663_214 rfl (lv_at hl 3 rfl) ?_
              refine lv_aload hx hb d_m663_215 (lv_at hl 0 rfl) ?_
              refine lv_iload hx hb d_m663_217 (lv_at hl 1 rfl) ?_
              refine lv_iconst (v := (1 : Int32)) hx hb d_m663_219 (by decide) ?_
              obtain ⟨z6, hz6, hf⟩ := ob_bind hf
              refine g_callFv (X2 := [(a_pic, .inr (8, [.ref a_pic_h, .ref a_pic_v, .ref a_pic_ac, .ref a_pic_dn, .ref a_pic_oa, .ref a_pic_od, .ref a_pic_st, .int pic_many, .int pic_unitsAcross, .int pic_unitsDown, .int pic_blocks, .ref a_pic_co])), (a_pic_co, .inl (cS, n_pic_co, .inl z6.1)), (a_crs, .inr (4, [.ref a_pic, .ref a_crs_ow, .ref a_crs_pl, .ref a_crs_dt, .ref a_crs_ot, .int crs_kind, .int crs_first, .int crs_last, .int crs_bits, .int crs_interval, .int crs_units, .int crs_blocksOfUnit, .int crs_laid])), (a_crs_ow, .inl (cI, 192, .inl crs_ow)), (a_crs_pl, .inl (cI, 192, .inl crs_pl)), (a_crs_dt, .inl (cI, 4, .inl crs_dt)), (a_crs_ot, .inl (cI, 4, .inl crs_ot)), (a_sto, .inr (9, [.ref a_sto_b, .int sto_length])), (a_sto_b, .inl (cB, n_sto_b, .inl sto_b)), (a_rd, .inr (1, [.ref a_sto, .int z6.2.1, .int z6.2.2.1, .int z6.2.2.2.1, .int z6.2.2.2.2.1])), (a_dec, .inr (5, [.ref a_pic, .ref a_crs, .ref a_tbs, .ref a_rd, .ref a_dec_p, .int dec_keeps_18, .int z6.2.2.2.2.2])), (a_dec_p, .inl (cI, 4, .inl z5.2.2.2.2.2)), (a_tbs, .inl (cT, 8, .inr (.inr (.inr (.inr (fun i => some (ta i)))))))]) (wc := (w_Decoder_takeOthers cI cB cS cT a_pic a_pic_co a_crs a_sto a_sto_b a_rd a_dec (ta ((crs_ot (crs_ow v4_96.toNatClampNeg).toNatClampNeg).toNatClampNeg)) (ts ((crs_ot (crs_ow v4_96.toNatClampNeg).toNatClampNeg).toNatClampNeg)) (tf ((crs_ot (crs_ow v4_96.toNatClampNeg).toNatClampNeg).toNatClampNeg)) (tx ((crs_ot (crs_ow v4_96.toNatClampNeg).toNatClampNeg).toNatClampNeg)) a_pic_h a_pic_v a_pic_ac a_pic_dn a_pic_oa a_pic_od a_pic_st a_crs_ow a_crs_pl a_crs_dt a_crs_ot a_tbs a_dec_p (tw ((crs_ot (crs_ow v4_96.toNatClampNeg).toNatClampNeg).toNatClampNeg)) pic_many pic_unitsAcross pic_unitsDown pic_blocks n_pic_co z5.1 crs_kind crs_first crs_last crs_bits crs_interval crs_units crs_blocksOfUnit crs_laid sto_length n_sto_b sto_b z5.2.1 z5.2.2.1 z5.2.2.2.1 z5.2.2.2.2.1 dec_keeps_18 dec_run_96 (ve ((crs_ot (crs_ow v4_96.toNatClampNeg).toNatClampNeg).toNatClampNeg)) (vz ((crs_ot (crs_ow v4_96.toNatClampNeg).toNatClampNeg).toNatClampNeg)) (vs ((crs_ot (crs_ow v4_96.toNatClampNeg).toNatClampNeg).toNatClampNeg)) (vf ((crs_ot (crs_ow v4_96.toNatClampNeg).toNatClampNeg).toNatClampNeg)) (vx ((crs_ot (crs_ow v4_96.toNatClampNeg).toNatClampNeg).toNatClampNeg)))) (w1 := (w_Decoder_takeOthers cI cB cS cT a_pic a_pic_co a_crs a_sto a_sto_b a_rd a_dec (ta ((crs_ot (crs_ow v4_96.toNatClampNeg).toNatClampNeg).toNatClampNeg)) (ts ((crs_ot (crs_ow v4_96.toNatClampNeg).toNatClampNeg).toNatClampNeg)) (tf ((crs_ot (crs_ow v4_96.toNatClampNeg).toNatClampNeg).toNatClampNeg)) (tx ((crs_ot (crs_ow v4_96.toNatClampNeg).toNatClampNeg).toNatClampNeg)) a_pic_h a_pic_v a_pic_ac a_pic_dn a_pic_oa a_pic_od a_pic_st a_crs_ow a_crs_pl a_crs_dt a_crs_ot a_tbs a_dec_p (tw ((crs_ot (crs_ow v4_96.toNatClampNeg).toNatClampNeg).toNatClampNeg)) pic_many pic_unitsAcross pic_unitsDown pic_blocks n_pic_co z6.1 crs_kind crs_first crs_last crs_bits crs_interval crs_units crs_blocksOfUnit crs_laid sto_length n_sto_b sto_b z6.2.1 z6.2.2.1 z6.2.2.2.1 z6.2.2.2.2.1 dec_keeps_18 z6.2.2.2.2.2 (ve ((crs_ot (crs_ow v4_96.toNatClampNeg).toNatClampNeg).toNatClampNeg)) (vz ((crs_ot (crs_ow v4_96.toNatClampNeg).toNatClampNeg).toNatClampNeg)) (vs ((crs_ot (crs_ow v4_96.toNatClampNeg).toNatClampNeg).toNatClampNeg)) (vf ((crs_ot (crs_ow v4_96.toNatClampNeg).toNatClampNeg).toNatClampNeg)) (vx ((crs_ot (crs_ow v4_96.toNatClampNeg).toNatClampNeg).toNatClampNeg)))) hix4 [0, 1, 2, 7, 8, 9, 10, 13, 15, 16, 17] [some 0, some 1, some 2, none, none, none, none, some 3, some 4, some 5, some 6, none, none, some 7, none, some 8, some 9, some 10] hP hD hS hA rfl rfl rfl rfl (va_runV (As := [.ref (ta (crs_ot (crs_ow v4_96.toNatClampNeg).toNatClampNeg).toNatClampNeg), .int (crs_pl v4_96.toNatClampNeg), .int (1 : Int32)]) (rest := []) ⟨hx, hb, hml, hown, hts⟩ (c_Decoder_takeOthers l dC dI cI cB cS cT N a_pic a_pic_co a_crs a_sto a_sto_b a_rd a_dec (ta ((crs_ot (crs_ow v4_96.toNatClampNeg).toNatClampNeg).toNatClampNeg)) (ts ((crs_ot (crs_ow v4_96.toNatClampNeg).toNatClampNeg).toNatClampNeg)) (tf ((crs_ot (crs_ow v4_96.toNatClampNeg).toNatClampNeg).toNatClampNeg)) (tx ((crs_ot (crs_ow v4_96.toNatClampNeg).toNatClampNeg).toNatClampNeg)) a_pic_h a_pic_v a_pic_ac a_pic_dn a_pic_oa a_pic_od a_pic_st a_crs_ow a_crs_pl a_crs_dt a_crs_ot a_tbs a_dec_p (tw ((crs_ot (crs_ow v4_96.toNatClampNeg).toNatClampNeg).toNatClampNeg)) pic_many pic_unitsAcross pic_unitsDown pic_blocks n_pic_co z5.1 crs_kind crs_first crs_last crs_bits crs_interval crs_units crs_blocksOfUnit crs_laid sto_length n_sto_b sto_b z5.2.1 z5.2.2.1 z5.2.2.2.1 z5.2.2.2.2.1 dec_keeps_18 dec_run_96 (ve ((crs_ot (crs_ow v4_96.toNatClampNeg).toNatClampNeg).toNatClampNeg)) (vz ((crs_ot (crs_ow v4_96.toNatClampNeg).toNatClampNeg).toNatClampNeg)) (vs ((crs_ot (crs_ow v4_96.toNatClampNeg).toNatClampNeg).toNatClampNeg)) (vf ((crs_ot (crs_ow v4_96.toNatClampNeg).toNatClampNeg).toNatClampNeg)) (vx ((crs_ot (crs_ow v4_96.toNatClampNeg).toNatClampNeg).toNatClampNeg)) (crs_pl v4_96.toNatClampNeg) (1 : Int32) H.size z6 hz6) ⟨(callB_of 3 hts (gi tw_732 rfl) rfl rfl rfl (hts _ (List.mem_cons_of_mem _ tw_14)) (hts _ (List.mem_cons_of_mem _ tw_729)) (by decide +kernel) ⟨Nat.le_of_ble_eq_true rfl, Nat.le_of_ble_eq_true rfl⟩), hts _ (List.mem_cons_of_mem _ tw_731), hts _ (List.mem_cons_of_mem _ ts_m732)⟩ ⟨g_blind, va_recv hK hP (ci := 5) (q0 := 10) rfl rfl, g_at hKN (g_pm (tb_focus (i := (crs_ot (crs_ow v4_96.toNatClampNeg).toNatClampNeg).toNatClampNeg) hP hix4) [0, 1, 2, 7, 8, 9, 10, 13, 15, 16, 17] rfl) ((tb_focusD (i := (crs_ot (crs_ow v4_96.toNatClampNeg).toNatClampNeg).toNatClampNeg) hD hix4).sub [0, 1, 2, 7, 8, 9, 10, 13, 15, 16, 17] (by decide) rfl)⟩ rfl rfl hl.1 rfl (lv_room (Nat.le_of_ble_eq_true rfl)) d_m663_220 ⟨Nat.zero_le _, Nat.zero_le _⟩) (fun H locs hP hD hS => ?_)
              have hP : va_P (dC, dI) vwCl (w_Decoder_decode cI cB cS cT a_pic a_pic_co a_crs a_crs_ow a_crs_pl a_crs_dt a_crs_ot a_sto a_sto_b a_rd a_dec a_dec_p a_tbs a_pic_h a_pic_v a_pic_ac a_pic_dn a_pic_oa a_pic_od a_pic_st pic_many pic_unitsAcross pic_unitsDown pic_blocks n_pic_co z6.1 crs_kind crs_first crs_last crs_bits crs_interval crs_units crs_blocksOfUnit crs_laid crs_ow crs_pl crs_dt crs_ot sto_length n_sto_b sto_b z6.2.1 z6.2.2.1 z6.2.2.2.1 z6.2.2.2.2.1 dec_keeps_18 z6.2.2.2.2.2 z5.2.2.2.2.2 ta tw ts tf tx vw vs vf vx ve vz) H := hP
              have hD : va_D A (w_Decoder_decode cI cB cS cT a_pic a_pic_co a_crs a_crs_ow a_crs_pl a_crs_dt a_crs_ot a_sto a_sto_b a_rd a_dec a_dec_p a_tbs a_pic_h a_pic_v a_pic_ac a_pic_dn a_pic_oa a_pic_od a_pic_st pic_many pic_unitsAcross pic_unitsDown pic_blocks n_pic_co z6.1 crs_kind crs_first crs_last crs_bits crs_interval crs_units crs_blocksOfUnit crs_laid crs_ow crs_pl crs_dt crs_ot sto_length n_sto_b sto_b z6.2.1 z6.2.2.1 z6.2.2.2.1 z6.2.2.2.2.1 dec_keeps_18 z6.2.2.2.2.2 z5.2.2.2.2.2 ta tw ts tf tx vw vs vf vx ve vz) := hD
              refine W.eq (g2 := F0 m 223 ls []) rfl ?_
              refine lv_goto (tgt := 261) hx hb d_m663_223 (by decide) ?_
              exact J96_261 z6.1 z6.2.1 z6.2.2.1 z6.2.2.2.1 z6.2.2.2.2.1 z6.2.2.2.2.2 z5.2.2.2.2.2 hf H locs ls hP hD hS (lv_sub hl [3, 4, 5, 6] rfl)
          · replace hf := (if_neg hc0).symm.trans hf
            rcases Classical.em (crs_kind = (1 : Int32)) with hc1 | hc1
            · replace hf := (if_pos hc1).symm.trans hf
              refine lv_tableIn (tgt := 226) hx hb d_m663_168 (by rw [hc1]; decide) (by rw [hc1]; decide) (by rw [hc1]; rfl) (by decide) ?_
              refine lv_aload_n hx hb d_m663_226 rfl (lv_at hl 3 rfl) ?_
              refine lv_iload hx hb d_m663_227 (lv_at hl 2 rfl) ?_
              refine lv_iload hx hb d_m663_229 (lv_at hl 1 rfl) ?_
              obtain ⟨z7, hz7, hf⟩ := ob_bind hf
              refine g_callv (wc := (w_Decoder_takeDirect cI cB cS cT a_pic a_pic_co a_crs a_crs_dt a_sto a_sto_b a_rd a_dec a_dec_p a_tbs a_pic_h a_pic_v a_pic_ac a_pic_dn a_pic_oa a_pic_od a_pic_st a_crs_ow a_crs_pl a_crs_ot pic_many pic_unitsAcross pic_unitsDown pic_blocks n_pic_co pic_co_96 crs_kind crs_first crs_last crs_bits crs_interval crs_units crs_blocksOfUnit crs_laid crs_dt sto_length n_sto_b sto_b rd_at_96 rd_part_96 rd_left_96 rd_fault_96 dec_keeps_18 dec_run_96 dec_p_96 ta tw ts tf tx vw vs vf vx ve vz)) (w1 := (w_Decoder_takeDirect cI cB cS cT a_pic a_pic_co a_crs a_crs_dt a_sto a_sto_b a_rd a_dec a_dec_p a_tbs a_pic_h a_pic_v a_pic_ac a_pic_dn a_pic_oa a_pic_od a_pic_st a_crs_ow a_crs_pl a_crs_ot pic_many pic_unitsAcross pic_unitsDown pic_blocks n_pic_co z7.1 crs_kind crs_first crs_last crs_bits crs_interval crs_units crs_blocksOfUnit crs_laid crs_dt sto_length n_sto_b sto_b z7.2.1 z7.2.2.1 z7.2.2.2.1 z7.2.2.2.2.1 dec_keeps_18 dec_run_96 z7.2.2.2.2.2 ta tw ts tf tx vw vs vf vx ve vz)) (w2 := (w_Decoder_decode cI cB cS cT a_pic a_pic_co a_crs a_crs_ow a_crs_pl a_crs_dt a_crs_ot a_sto a_sto_b a_rd a_dec a_dec_p a_tbs a_pic_h a_pic_v a_pic_ac a_pic_dn a_pic_oa a_pic_od a_pic_st pic_many pic_unitsAcross pic_unitsDown pic_blocks n_pic_co z7.1 crs_kind crs_first crs_last crs_bits crs_interval crs_units crs_blocksOfUnit crs_laid crs_ow crs_pl crs_dt crs_ot sto_length n_sto_b sto_b z7.2.1 z7.2.2.1 z7.2.2.2.1 z7.2.2.2.2.1 dec_keeps_18 dec_run_96 z7.2.2.2.2.2 ta tw ts tf tx vw vs vf vx ve vz)) [0, 1, 2, 5, 7, 8, 9, 10, 11, 12, 13, 14, 15, 16, 17, 18, 19, 20, 21, 22, 23, 24, 25, 26, 27, 28, 29, 30, 31, 32, 33, 34, 35, 36, 37, 38, 39, 40, 41, 42, 43, 44, 45, 46, 47, 48, 49, 50, 51, 52] [some 0, some 1, some 2, none, none, some 3, none, some 4, some 5, some 6, some 7, some 8, some 9, some 10, some 11, some 12, some 13, some 14, some 15, some 16, some 17, some 18, some 19, some 20, some 21, some 22, some 23, some 24, some 25, some 26, some 27, some 28, some 29, some 30, some 31, some 32, some 33, some 34, some 35, some 36, some 37, some 38, some 39, some 40, some 41, some 42, some 43, some 44, some 45, some 46, some 47, some 48, some 49] hP hD hS hA rfl rfl rfl rfl (va_runV (As := [.int (crs_ow v4_96.toNatClampNeg), .int (crs_pl v4_96.toNatClampNeg)]) (rest := []) ⟨hx, hb, hml, hown, hts⟩ (c_Decoder_takeDirect l dC dI cI cB cS cT N a_pic a_pic_co a_crs a_crs_dt a_sto a_sto_b a_rd a_dec a_dec_p a_tbs a_pic_h a_pic_v a_pic_ac a_pic_dn a_pic_oa a_pic_od a_pic_st a_crs_ow a_crs_pl a_crs_ot pic_many pic_unitsAcross pic_unitsDown pic_blocks n_pic_co pic_co_96 crs_kind crs_first crs_last crs_bits crs_interval crs_units crs_blocksOfUnit crs_laid crs_dt sto_length n_sto_b sto_b rd_at_96 rd_part_96 rd_left_96 rd_fault_96 dec_keeps_18 dec_run_96 dec_p_96 ta tw ts tf tx vw vs vf vx ve vz (crs_ow v4_96.toNatClampNeg) (crs_pl v4_96.toNatClampNeg) H.size z7 hz7) ⟨(callB_of 2 hts (gi tw_694 rfl) rfl rfl rfl (hts _ (List.mem_cons_of_mem _ tw_14)) (hts _ (List.mem_cons_of_mem _ tw_691)) (by decide +kernel) ⟨Nat.le_of_ble_eq_true rfl, Nat.le_of_ble_eq_true rfl⟩), hts _ (List.mem_cons_of_mem _ tw_693), hts _ (List.mem_cons_of_mem _ ts_m694)⟩ ⟨g_blind, va_recv hK hP (ci := 5) (q0 := 10) rfl rfl, g_at hKN (g_pm hP [0, 1, 2, 5, 7, 8, 9, 10, 11, 12, 13, 14, 15, 16, 17, 18, 19, 20, 21, 22, 23, 24, 25, 26, 27, 28, 29, 30, 31, 32, 33, 34, 35, 36, 37, 38, 39, 40, 41, 42, 43, 44, 45, 46, 47, 48, 49, 50, 51, 52] rfl) (hD.sub [0, 1, 2, 5, 7, 8, 9, 10, 11, 12, 13, 14, 15, 16, 17, 18, 19, 20, 21, 22, 23, 24, 25, 26, 27, 28, 29, 30, 31, 32, 33, 34, 35, 36, 37, 38, 39, 40, 41, 42, 43, 44, 45, 46, 47, 48, 49, 50, 51, 52] (by decide) rfl)⟩ rfl rfl hl.1 rfl (lv_room (Nat.le_of_ble_eq_true rfl)) d_m663_231 ⟨Nat.zero_le _, Nat.zero_le _⟩) (fun H locs hP hD hS => ?_)
              refine W.eq (g2 := F0 m 234 ls []) rfl ?_
              refine lv_goto (tgt := 261) hx hb d_m663_234 (by decide) ?_
              exact J96_261 z7.1 z7.2.1 z7.2.2.1 z7.2.2.2.1 z7.2.2.2.2.1 dec_run_96 z7.2.2.2.2.2 hf H locs ls hP hD hS (lv_sub hl [3, 4, 5, 6] rfl)
            · replace hf := (if_neg hc1).symm.trans hf
              rcases Classical.em (crs_kind = (2 : Int32)) with hc2 | hc2
              · replace hf := (if_pos hc2).symm.trans hf
                refine lv_tableIn (tgt := 237) hx hb d_m663_168 (by rw [hc2]; decide) (by rw [hc2]; decide) (by rw [hc2]; rfl) (by decide) ?_
                refine lv_aload_n hx hb d_m663_237 rfl (lv_at hl 3 rfl) ?_
                refine lv_iload hx hb d_m663_238 (lv_at hl 1 rfl) ?_
                obtain ⟨z8, hz8, hf⟩ := ob_bind hf
                refine g_callv (wc := (w_Decoder_refineDirect cI cB cS cT a_pic a_pic_co a_crs a_sto a_sto_b a_rd a_dec a_pic_h a_pic_v a_pic_ac a_pic_dn a_pic_oa a_pic_od a_pic_st a_crs_ow a_crs_pl a_crs_dt a_crs_ot a_tbs a_dec_p pic_many pic_unitsAcross pic_unitsDown pic_blocks n_pic_co pic_co_96 crs_kind crs_first crs_last crs_bits crs_interval crs_units crs_blocksOfUnit crs_laid sto_length n_sto_b sto_b rd_at_96 rd_part_96 rd_left_96 rd_fault_96 dec_keeps_18 dec_run_96)) (w1 := (w_Decoder_refineDirect cI cB cS cT a_pic a_pic_co a_crs a_sto a_sto_b a_rd a_dec a_pic_h a_pic_v a_pic_ac a_pic_dn a_pic_oa a_pic_od a_pic_st a_crs_ow a_crs_pl a_crs_dt a_crs_ot a_tbs a_dec_p pic_many pic_unitsAcross pic_unitsDown pic_blocks n_pic_co z8.1 crs_kind crs_first crs_last crs_bits crs_interval crs_units crs_blocksOfUnit crs_laid sto_length n_sto_b sto_b z8.2.1 z8.2.2.1 z8.2.2.2.1 z8.2.2.2.2 dec_keeps_18 dec_run_96)) (w2 := (w_Decoder_decode cI cB cS cT a_pic a_pic_co a_crs a_crs_ow a_crs_pl a_crs_dt a_crs_ot a_sto a_sto_b a_rd a_dec a_dec_p a_tbs a_pic_h a_pic_v a_pic_ac a_pic_dn a_pic_oa a_pic_od a_pic_st pic_many pic_unitsAcross pic_unitsDown pic_blocks n_pic_co z8.1 crs_kind crs_first crs_last crs_bits crs_interval crs_units crs_blocksOfUnit crs_laid crs_ow crs_pl crs_dt crs_ot sto_length n_sto_b sto_b z8.2.1 z8.2.2.1 z8.2.2.2.1 z8.2.2.2.2 dec_keeps_18 dec_run_96 dec_p_96 ta tw ts tf tx vw vs vf vx ve vz)) [0, 1, 2, 7, 8, 9, 10] [some 0, some 1, some 2, none, none, none, none, some 3, some 4, some 5, some 6, none, none, none, none, none, none, none, none, none, none, none, none, none, none, none, none, none, none, none, none, none, none, none, none, none, none, none, none, none, none, none, none, none, none, none, none, none, none, none, none, none, none] hP hD hS hA rfl rfl rfl rfl (va_runV (As := [.int (crs_pl v4_96.toNatClampNeg)]) (rest := []) ⟨hx, hb, hml, hown, hts⟩ (c_Decoder_refineDirect l dC dI cI cB cS cT N a_pic a_pic_co a_crs a_sto a_sto_b a_rd a_dec a_pic_h a_pic_v a_pic_ac a_pic_dn a_pic_oa a_pic_od a_pic_st a_crs_ow a_crs_pl a_crs_dt a_crs_ot a_tbs a_dec_p pic_many pic_unitsAcross pic_unitsDown pic_blocks n_pic_co pic_co_96 crs_kind crs_first crs_last crs_bits crs_interval crs_units crs_blocksOfUnit crs_laid sto_length n_sto_b sto_b rd_at_96 rd_part_96 rd_left_96 rd_fault_96 dec_keeps_18 dec_run_96 (crs_pl v4_96.toNatClampNeg) H.size z8 hz8) ⟨(callB_of 1 hts (gi tw_765 rfl) rfl rfl rfl (hts _ (List.mem_cons_of_mem _ tw_14)) (hts _ (List.mem_cons_of_mem _ tw_762)) (by decide +kernel) ⟨Nat.le_of_ble_eq_true rfl, Nat.le_of_ble_eq_true rfl⟩), hts _ (List.mem_cons_of_mem _ tw_764), hts _ (List.mem_cons_of_mem _ ts_m765)⟩ ⟨g_blind, va_recv hK hP (ci := 5) (q0 := 10) rfl rfl, g_at hKN (g_pm hP [0, 1, 2, 7, 8, 9, 10] rfl) (hD.sub [0, 1, 2, 7, 8, 9, 10] (by decide) rfl)⟩ rfl rfl hl.1 rfl (lv_room (Nat.le_of_ble_eq_true rfl)) d_m663_240 ⟨Nat.zero_le _, Nat.zero_le _⟩) (fun H locs hP hD hS => ?_)
                refine W.eq (g2 := F0 m 243 ls []) rfl ?_
                refine lv_goto (tgt := 261) hx hb d_m663_243 (by decide) ?_
                exact J96_261 z8.1 z8.2.1 z8.2.2.1 z8.2.2.2.1 z8.2.2.2.2 dec_run_96 dec_p_96 hf H locs ls hP hD hS (lv_sub hl [3, 4, 5, 6] rfl)
              · replace hf := (if_neg hc2).symm.trans hf
                have hn0 : crs_kind.toInt ≠ 0 := fun h => hc0 (Int32.toInt_inj.mp (by rw [h]; decide))
                have hn1 : crs_kind.toInt ≠ 1 := fun h => hc1 (Int32.toInt_inj.mp (by rw [h]; decide))
                have hn2 : crs_kind.toInt ≠ 2 := fun h => hc2 (Int32.toInt_inj.mp (by rw [h]; decide))
                refine lv_tableOut (tgt := 246) hx hb d_m663_168 (by omega) (by decide) ?_
                refine lv_aload_n hx hb d_m663_246 rfl (lv_at hl 3 rfl) ?_
                refine lv_aload hx hb d_m663_247 (lv_at hl 0 rfl) ?_
                refine lv_iload hx hb d_m663_249 (lv_at hl 1 rfl) ?_
                refine lv_aload_n hx hb d_m663_251 rfl (lv_at hl 3 rfl) ?_
                refine va_get (D := (dC, dI)) (ci := 5) (v := .ref a_crs) (C := "ScanCoder$Decoder") (T := T_5) (N := 7) hx hb hts n0 hown hK hP 10 rfl rfl 1 (by decide) k2 (fun _ h9 => h9) rfl d_m663_252 ?_
                refine va_get (D := (dC, dI)) (ci := 4) (v := .int crs_first) (C := "ScanCoder$Course") (T := T_4) (N := 13) hx hb hts n1 hown hK hP 2 rfl rfl 6 (by decide) k11 (fun _ h9 => h9) rfl d_m663_255 ?_
                obtain ⟨z9, hz9, hf⟩ := ob_bind hf
                refine g_callFv (X2 := [(a_pic, .inr (8, [.ref a_pic_h, .ref a_pic_v, .ref a_pic_ac, .ref a_pic_dn, .ref a_pic_oa, .ref a_pic_od, .ref a_pic_st, .int pic_many, .int pic_unitsAcross, .int pic_unitsDown, .int pic_blocks, .ref a_pic_co])), (a_pic_co, .inl (cS, n_pic_co, .inl z9.1)), (a_crs, .inr (4, [.ref a_pic, .ref a_crs_ow, .ref a_crs_pl, .ref a_crs_dt, .ref a_crs_ot, .int crs_kind, .int crs_first, .int crs_last, .int crs_bits, .int crs_interval, .int crs_units, .int crs_blocksOfUnit, .int crs_laid])), (a_crs_ow, .inl (cI, 192, .inl crs_ow)), (a_crs_pl, .inl (cI, 192, .inl crs_pl)), (a_crs_dt, .inl (cI, 4, .inl crs_dt)), (a_crs_ot, .inl (cI, 4, .inl crs_ot)), (a_sto, .inr (9, [.ref a_sto_b, .int sto_length])), (a_sto_b, .inl (cB, n_sto_b, .inl sto_b)), (a_rd, .inr (1, [.ref a_sto, .int z9.2.1, .int z9.2.2.1, .int z9.2.2.2.1, .int z9.2.2.2.2.1])), (a_dec, .inr (5, [.ref a_pic, .ref a_crs, .ref a_tbs, .ref a_rd, .ref a_dec_p, .int dec_keeps_18, .int z9.2.2.2.2.2])), (a_dec_p, .inl (cI, 4, .inl dec_p_96)), (a_tbs, .inl (cT, 8, .inr (.inr (.inr (.inr (fun i => some (ta i)))))))]) (wc := (w_Decoder_takeOthers cI cB cS cT a_pic a_pic_co a_crs a_sto a_sto_b a_rd a_dec (ta ((crs_ot (crs_ow v4_96.toNatClampNeg).toNatClampNeg).toNatClampNeg)) (ts ((crs_ot (crs_ow v4_96.toNatClampNeg).toNatClampNeg).toNatClampNeg)) (tf ((crs_ot (crs_ow v4_96.toNatClampNeg).toNatClampNeg).toNatClampNeg)) (tx ((crs_ot (crs_ow v4_96.toNatClampNeg).toNatClampNeg).toNatClampNeg)) a_pic_h a_pic_v a_pic_ac a_pic_dn a_pic_oa a_pic_od a_pic_st a_crs_ow a_crs_pl a_crs_dt a_crs_ot a_tbs a_dec_p (tw ((crs_ot (crs_ow v4_96.toNatClampNeg).toNatClampNeg).toNatClampNeg)) pic_many pic_unitsAcross pic_unitsDown pic_blocks n_pic_co pic_co_96 crs_kind crs_first crs_last crs_bits crs_interval crs_units crs_blocksOfUnit crs_laid sto_length n_sto_b sto_b rd_at_96 rd_part_96 rd_left_96 rd_fault_96 dec_keeps_18 dec_run_96 (ve ((crs_ot (crs_ow v4_96.toNatClampNeg).toNatClampNeg).toNatClampNeg)) (vz ((crs_ot (crs_ow v4_96.toNatClampNeg).toNatClampNeg).toNatClampNeg)) (vs ((crs_ot (crs_ow v4_96.toNatClampNeg).toNatClampNeg).toNatClampNeg)) (vf ((crs_ot (crs_ow v4_96.toNatClampNeg).toNatClampNeg).toNatClampNeg)) (vx ((crs_ot (crs_ow v4_96.toNatClampNeg).toNatClampNeg).toNatClampNeg)))) (w1 := (w_Decoder_takeOthers cI cB cS cT a_pic a_pic_co a_crs a_sto a_sto_b a_rd a_dec (ta ((crs_ot (crs_ow v4_96.toNatClampNeg).toNatClampNeg).toNatClampNeg)) (ts ((crs_ot (crs_ow v4_96.toNatClampNeg).toNatClampNeg).toNatClampNeg)) (tf ((crs_ot (crs_ow v4_96.toNatClampNeg).toNatClampNeg).toNatClampNeg)) (tx ((crs_ot (crs_ow v4_96.toNatClampNeg).toNatClampNeg).toNatClampNeg)) a_pic_h a_pic_v a_pic_ac a_pic_dn a_pic_oa a_pic_od a_pic_st a_crs_ow a_crs_pl a_crs_dt a_crs_ot a_tbs a_dec_p (tw ((crs_ot (crs_ow v4_96.toNatClampNeg).toNatClampNeg).toNatClampNeg)) pic_many pic_unitsAcross pic_unitsDown pic_blocks n_pic_co z9.1 crs_kind crs_first crs_last crs_bits crs_interval crs_units crs_blocksOfUnit crs_laid sto_length n_sto_b sto_b z9.2.1 z9.2.2.1 z9.2.2.2.1 z9.2.2.2.2.1 dec_keeps_18 z9.2.2.2.2.2 (ve ((crs_ot (crs_ow v4_96.toNatClampNeg).toNatClampNeg).toNatClampNeg)) (vz ((crs_ot (crs_ow v4_96.toNatClampNeg).toNatClampNeg).toNatClampNeg)) (vs ((crs_ot (crs_ow v4_96.toNatClampNeg).toNatClampNeg).toNatClampNeg)) (vf ((crs_ot (crs_ow v4_96.toNatClampNeg).toNatClampNeg).toNatClampNeg)) (vx ((crs_ot (crs_ow v4_96.toNatClampNeg).toNatClampNeg).toNatClampNeg)))) hix4 [0, 1, 2, 7, 8, 9, 10, 13, 15, 16, 17] [some 0, some 1, some 2, none, none, none, none, some 3, some 4, some 5, some 6, none, none, some 7, none, some 8, some 9, some 10] hP hD hS hA rfl rfl rfl rfl (va_runV (As := [.ref (ta (crs_ot (crs_ow v4_96.toNatClampNeg).toNatClampNeg).toNatClampNeg), .int (crs_pl v4_96.toNatClampNeg), .int crs_first]) (rest := []) ⟨hx, hb, hml, hown, hts⟩ (c_Decoder_takeOthers l dC dI cI cB cS cT N a_pic a_pic_co a_crs a_sto a_sto_b a_rd a_dec (ta ((crs_ot (crs_ow v4_96.toNatClampNeg).toNatClampNeg).toNatClampNeg)) (ts ((crs_ot (crs_ow v4_96.toNatClampNeg).toNatClampNeg).toNatClampNeg)) (tf ((crs_ot (crs_ow v4_96.toNatClampNeg).toNatClampNeg).toNatClampNeg)) (tx ((crs_ot (crs_ow v4_96.toNatClampNeg).toNatClampNeg).toNatClampNeg)) a_pic_h a_pic_v a_pic_ac a_pic_dn a_pic_oa a_pic_od a_pic_st a_crs_ow a_crs_pl a_crs_dt a_crs_ot a_tbs a_dec_p (tw ((crs_ot (crs_ow v4_96.toNatClampNeg).toNatClampNeg).toNatClampNeg)) pic_many pic_unitsAcross pic_unitsDown pic_blocks n_pic_co pic_co_96 crs_kind crs_first crs_last crs_bits crs_interval crs_units crs_blocksOfUnit crs_laid sto_length n_sto_b sto_b rd_at_96 rd_part_96 rd_left_96 rd_fault_96 dec_keeps_18 dec_run_96 (ve ((crs_ot (crs_ow v4_96.toNatClampNeg).toNatClampNeg).toNatClampNeg)) (vz ((crs_ot (crs_ow v4_96.toNatClampNeg).toNatClampNeg).toNatClampNeg)) (vs ((crs_ot (crs_ow v4_96.toNatClampNeg).toNatClampNeg).toNatClampNeg)) (vf ((crs_ot (crs_ow v4_96.toNatClampNeg).toNatClampNeg).toNatClampNeg)) (vx ((crs_ot (crs_ow v4_96.toNatClampNeg).toNatClampNeg).toNatClampNeg)) (crs_pl v4_96.toNatClampNeg) crs_first H.size z9 hz9) ⟨(callB_of 3 hts (gi tw_732 rfl) rfl rfl rfl (hts _ (List.mem_cons_of_mem _ tw_14)) (hts _ (List.mem_cons_of_mem _ tw_729)) (by decide +kernel) ⟨Nat.le_of_ble_eq_true rfl, Nat.le_of_ble_eq_true rfl⟩), hts _ (List.mem_cons_of_mem _ tw_731), hts _ (List.mem_cons_of_mem _ ts_m732)⟩ ⟨g_blind, va_recv hK hP (ci := 5) (q0 := 10) rfl rfl, g_at hKN (g_pm (tb_focus (i := (crs_ot (crs_ow v4_96.toNatClampNeg).toNatClampNeg).toNatClampNeg) hP hix4) [0, 1, 2, 7, 8, 9, 10, 13, 15, 16, 17] rfl) ((tb_focusD (i := (crs_ot (crs_ow v4_96.toNatClampNeg).toNatClampNeg).toNatClampNeg) hD hix4).sub [0, 1, 2, 7, 8, 9, 10, 13, 15, 16, 17] (by decide) rfl)⟩ rfl rfl hl.1 rfl (lv_room (Nat.le_of_ble_eq_true rfl)) d_m663_258 ⟨Nat.zero_le _, Nat.zero_le _⟩) (fun H locs hP hD hS => ?_)
                have hP : va_P (dC, dI) vwCl (w_Decoder_decode cI cB cS cT a_pic a_pic_co a_crs a_crs_ow a_crs_pl a_crs_dt a_crs_ot a_sto a_sto_b a_rd a_dec a_dec_p a_tbs a_pic_h a_pic_v a_pic_ac a_pic_dn a_pic_oa a_pic_od a_pic_st pic_many pic_unitsAcross pic_unitsDown pic_blocks n_pic_co z9.1 crs_kind crs_first crs_last crs_bits crs_interval crs_units crs_blocksOfUnit crs_laid crs_ow crs_pl crs_dt crs_ot sto_length n_sto_b sto_b z9.2.1 z9.2.2.1 z9.2.2.2.1 z9.2.2.2.2.1 dec_keeps_18 z9.2.2.2.2.2 dec_p_96 ta tw ts tf tx vw vs vf vx ve vz) H := hP
                have hD : va_D A (w_Decoder_decode cI cB cS cT a_pic a_pic_co a_crs a_crs_ow a_crs_pl a_crs_dt a_crs_ot a_sto a_sto_b a_rd a_dec a_dec_p a_tbs a_pic_h a_pic_v a_pic_ac a_pic_dn a_pic_oa a_pic_od a_pic_st pic_many pic_unitsAcross pic_unitsDown pic_blocks n_pic_co z9.1 crs_kind crs_first crs_last crs_bits crs_interval crs_units crs_blocksOfUnit crs_laid crs_ow crs_pl crs_dt crs_ot sto_length n_sto_b sto_b z9.2.1 z9.2.2.1 z9.2.2.2.1 z9.2.2.2.2.1 dec_keeps_18 z9.2.2.2.2.2 dec_p_96 ta tw ts tf tx vw vs vf vx ve vz) := hD
                refine W.eq (g2 := F0 m 261 ls []) rfl ?_
                exact J96_261 z9.1 z9.2.1 z9.2.2.1 z9.2.2.2.1 z9.2.2.2.2.1 z9.2.2.2.2.2 dec_p_96 hf H locs ls hP hD hS (lv_sub hl [3, 4, 5, 6] rfl)
  have L18 : ∀ (dec_keeps_18 : Int32) (z : (Nat → Int32) × Int32 × Int32 × Int32 × Int32 × Int32 × (Nat → Int32)), (GW (dC, dI) A p l e (headSpec ws_m663 rm_Decoder_decode).room s m args below meth c 0 0 Q 8 273 (w_Decoder_decode cI cB cS cT a_pic a_pic_co a_crs a_crs_ow a_crs_pl a_crs_dt a_crs_ot a_sto a_sto_b a_rd a_dec a_dec_p a_tbs a_pic_h a_pic_v a_pic_ac a_pic_dn a_pic_oa a_pic_od a_pic_st pic_many pic_unitsAcross pic_unitsDown pic_blocks n_pic_co z.1 crs_kind crs_first crs_last crs_bits crs_interval crs_units crs_blocksOfUnit crs_laid crs_ow crs_pl crs_dt crs_ot sto_length n_sto_b sto_b z.2.1 z.2.2.1 z.2.2.2.1 z.2.2.2.2.1 dec_keeps_18 z.2.2.2.2.2.1 z.2.2.2.2.2.2 ta tw ts tf tx vw vs vf vx ve vz) [(0, .ref a_dec)] []) → ∀ (k : Nat) (v2_18 : Int32) (pic_co_18 : Nat → Int32) (rd_at_18 : Int32) (rd_part_18 : Int32) (rd_left_18 : Int32) (rd_fault_18 : Int32) (dec_run_18 : Int32) (dec_p_18 : Nat → Int32), f_Decoder_decode_L18 crs_units crs_interval crs_blocksOfUnit crs_ow crs_ot crs_kind crs_pl n_pic_co crs_bits crs_dt sto_length n_sto_b sto_b dec_keeps_18 vs vf vx ve crs_last crs_first N k (v2_18, pic_co_18, rd_at_18, rd_part_18, rd_left_18, rd_fault_18, dec_run_18, dec_p_18) = some z → GW (dC, dI) A p l e (headSpec ws_m663 rm_Decoder_decode).room s m args below meth c 0 0 Q 8 18 (w_Decoder_decode cI cB cS cT a_pic a_pic_co a_crs a_crs_ow a_crs_pl a_crs_dt a_crs_ot a_sto a_sto_b a_rd a_dec a_dec_p a_tbs a_pic_h a_pic_v a_pic_ac a_pic_dn a_pic_oa a_pic_od a_pic_st pic_many pic_unitsAcross pic_unitsDown pic_blocks n_pic_co pic_co_18 crs_kind crs_first crs_last crs_bits crs_interval crs_units crs_blocksOfUnit crs_laid crs_ow crs_pl crs_dt crs_ot sto_length n_sto_b sto_b rd_at_18 rd_part_18 rd_left_18 rd_fault_18 dec_keeps_18 dec_run_18 dec_p_18 ta tw ts tf tx vw vs vf vx ve vz) [(0, .ref a_dec), (2, .int v2_18)] [] := by
    intro dec_keeps_18 z hE0 k
    induction k with
    | zero =>
      intro v2_18 pic_co_18 rd_at_18 rd_part_18 rd_left_18 rd_fault_18 dec_run_18 dec_p_18 hf
      exact (it_zero hf).elim
    | succ k ih =>
      intro v2_18 pic_co_18 rd_at_18 rd_part_18 rd_left_18 rd_fault_18 dec_run_18 dec_p_18 hf H locs ls hP hD hS hl
      have J18_267 : ∀ (pic_co_j267 : Nat → Int32) (rd_at_j267 : Int32) (rd_part_j267 : Int32) (rd_left_j267 : Int32) (rd_fault_j267 : Int32) (dec_run_j267 : Int32) (dec_p_j267 : Nat → Int32), f_Decoder_decode_J18_267 N (f_Decoder_decode_L18 crs_units crs_interval crs_blocksOfUnit crs_ow crs_ot crs_kind crs_pl n_pic_co crs_bits crs_dt sto_length n_sto_b sto_b dec_keeps_18 vs vf vx ve crs_last crs_first N k) v2_18 pic_co_j267 rd_at_j267 rd_part_j267 rd_left_j267 rd_fault_j267 dec_run_j267 dec_p_j267 = some z → GW (dC, dI) A p l e (headSpec ws_m663 rm_Decoder_decode).room s m args below meth c 0 0 Q 8 267 (w_Decoder_decode cI cB cS cT a_pic a_pic_co a_crs a_crs_ow a_crs_pl a_crs_dt a_crs_ot a_sto a_sto_b a_rd a_dec a_dec_p a_tbs a_pic_h a_pic_v a_pic_ac a_pic_dn a_pic_oa a_pic_od a_pic_st pic_many pic_unitsAcross pic_unitsDown pic_blocks n_pic_co pic_co_j267 crs_kind crs_first crs_last crs_bits crs_interval crs_units crs_blocksOfUnit crs_laid crs_ow crs_pl crs_dt crs_ot sto_length n_sto_b sto_b rd_at_j267 rd_part_j267 rd_left_j267 rd_fault_j267 dec_keeps_18 dec_run_j267 dec_p_j267 ta tw ts tf tx vw vs vf vx ve vz) [(0, .ref a_dec), (2, .int v2_18)] [] := by
        intro pic_co_j267 rd_at_j267 rd_part_j267 rd_left_j267 rd_fault_j267 dec_run_j267 dec_p_j267 hf H locs ls hP hD hS hl
        unfold f_Decoder_decode_J18_267 at hf
        refine lv_iinc (v := v2_18 + (1 : Int32)) (lv' := [(2, .int (v2_18 + (1 : Int32))), (0, .ref a_dec)]) hx hb d_m663_267 hl (k := 1) rfl rfl (by decide) rfl (fun ls hl => ?_)
        refine lv_goto (tgt := 18) hx hb d_m663_270 (by decide) ?_
        exact ih (v2_18 + (1 : Int32)) pic_co_j267 rd_at_j267 rd_part_j267 rd_left_j267 rd_fault_j267 dec_run_j267 dec_p_j267 hf H locs ls hP hD hS (lv_sub hl [1, 0] rfl)
      have J18_83 : ∀ (rd_at_j83 : Int32) (rd_left_j83 : Int32) (rd_fault_j83 : Int32) (dec_run_j83 : Int32) (dec_p_j83 : Nat → Int32), f_Decoder_decode_J18_83 N (f_Decoder_decode_L18 crs_units crs_interval crs_blocksOfUnit crs_ow crs_ot crs_kind crs_pl n_pic_co crs_bits crs_dt sto_length n_sto_b sto_b dec_keeps_18 vs vf vx ve crs_last crs_first N k) v2_18 crs_blocksOfUnit crs_ow crs_ot crs_kind crs_pl n_pic_co crs_bits crs_dt sto_length n_sto_b sto_b dec_keeps_18 vs vf vx ve crs_last crs_first pic_co_18 rd_at_j83 rd_part_18 rd_left_j83 rd_fault_j83 dec_run_j83 dec_p_j83 = some z → GW (dC, dI) A p l e (headSpec ws_m663 rm_Decoder_decode).room s m args below meth c 0 0 Q 8 83 (w_Decoder_decode cI cB cS cT a_pic a_pic_co a_crs a_crs_ow a_crs_pl a_crs_dt a_crs_ot a_sto a_sto_b a_rd a_dec a_dec_p a_tbs a_pic_h a_pic_v a_pic_ac a_pic_dn a_pic_oa a_pic_od a_pic_st pic_many pic_unitsAcross pic_unitsDown pic_blocks n_pic_co pic_co_18 crs_kind crs_first crs_last crs_bits crs_interval crs_units crs_blocksOfUnit crs_laid crs_ow crs_pl crs_dt crs_ot sto_length n_sto_b sto_b rd_at_j83 rd_part_18 rd_left_j83 rd_fault_j83 dec_keeps_18 dec_run_j83 dec_p_j83 ta tw ts tf tx vw vs vf vx ve vz) [(0, .ref a_dec), (2, .int v2_18)] [] := by
        intro rd_at_j83 rd_left_j83 rd_fault_j83 dec_run_j83 dec_p_j83 hf H locs ls hP hD hS hl
        unfold f_Decoder_decode_J18_83 at hf
        refine lv_iload_n hx hb d_m663_83 rfl (lv_at hl 1 rfl) ?_
        refine lv_aload_n hx hb d_m663_84 rfl (lv_at hl 0 rfl) ?_
        refine va_get (D := (dC, dI)) (ci := 5) (v := .ref a_crs) (C := "ScanCoder$Decoder") (T := T_5) (N := 7) hx hb hts n0 hown hK hP 10 rfl rfl 1 (by decide) k2 (fun _ h9 => h9) rfl d_m663_85 ?_
        refine va_get (D := (dC, dI)) (ci := 4) (v := .int crs_blocksOfUnit) (C := "ScanCoder$Course") (T := T_4) (N := 13) hx hb hts n1 hown hK hP 2 rfl rfl 11 (by decide) k5 (fun _ h9 => h9) rfl d_m663_88 ?_
        refine lv_imul hx hb d_m663_91 ?_
        refine lv_istore_n (lv' := [(3, .int (v2_18 * crs_blocksOfUnit)), (0, .ref a_dec), (2, .int v2_18)]) hx hb d_m663_92 rfl hl (by decide) rfl (fun ls hl => ?_)
        refine lv_iload_n hx hb d_m663_93 rfl (lv_at hl 0 rfl) ?_
        refine lv_istore (lv' := [(4, .int (v2_18 * crs_blocksOfUnit)), (3, .int (v2_18 * crs_blocksOfUnit)), (0, .ref a_dec), (2, .int v2_18)]) hx hb d_m663_94 hl (by decide) rfl (fun ls hl => ?_)
        obtain ⟨z10, hz10, hf⟩ := ob_bind hf
        refine L96 (v2_18 * crs_blocksOfUnit) dec_keeps_18 v2_18 z10 ?_ N (v2_18 * crs_blocksOfUnit) pic_co_18 rd_at_j83 rd_part_18 rd_left_j83 rd_fault_j83 dec_run_j83 dec_p_j83 hz10 H locs ls hP hD hS (lv_sub hl [2, 3, 1, 0] rfl)
        · intro H locs ls hP hD hS hl
          exact J18_267 z10.1 z10.2.1 z10.2.2.1 z10.2.2.2.1 z10.2.2.2.2.1 z10.2.2.2.2.2.1 z10.2.2.2.2.2.2 hf H locs ls hP hD hS hl
      have J18_79 : ∀ (rd_at_j79 : Int32) (rd_left_j79 : Int32) (rd_fault_j79 : Int32), f_Decoder_decode_J18_79 N (f_Decoder_decode_L18 crs_units crs_interval crs_blocksOfUnit crs_ow crs_ot crs_kind crs_pl n_pic_co crs_bits crs_dt sto_length n_sto_b sto_b dec_keeps_18 vs vf vx ve crs_last crs_first N k) dec_p_18 v2_18 crs_blocksOfUnit crs_ow crs_ot crs_kind crs_pl n_pic_co crs_bits crs_dt sto_length n_sto_b sto_b dec_keeps_18 vs vf vx ve crs_last crs_first pic_co_18 rd_at_j79 rd_part_18 rd_left_j79 rd_fault_j79 = some z → GW (dC, dI) A p l e (headSpec ws_m663 rm_Decoder_decode).room s m args below meth c 0 0 Q 8 79 (w_Decoder_decode cI cB cS cT a_pic a_pic_co a_crs a_crs_ow a_crs_pl a_crs_dt a_crs_ot a_sto a_sto_b a_rd a_dec a_dec_p a_tbs a_pic_h a_pic_v a_pic_ac a_pic_dn a_pic_oa a_pic_od a_pic_st pic_many pic_unitsAcross pic_unitsDown pic_blocks n_pic_co pic_co_18 crs_kind crs_first crs_last crs_bits crs_interval crs_units crs_blocksOfUnit crs_laid crs_ow crs_pl crs_dt crs_ot sto_length n_sto_b sto_b rd_at_j79 rd_part_18 rd_left_j79 rd_fault_j79 dec_keeps_18 dec_run_18 dec_p_18 ta tw ts tf tx vw vs vf vx ve vz) [(0, .ref a_dec), (2, .int v2_18)] [] := by
        intro rd_at_j79 rd_left_j79 rd_fault_j79 hf H locs ls hP hD hS hl
        unfold f_Decoder_decode_J18_79 at hf
        refine lv_aload_n hx hb d_m663_79 rfl (lv_at hl 0 rfl) ?_
        obtain ⟨z12, hz12, hf⟩ := ob_bind hf
        refine g_callv (wc := (w_Decoder_forget cI cB cS cT a_dec a_dec_p a_pic a_crs a_tbs a_rd dec_keeps_18 dec_run_18 dec_p_18)) (w1 := (w_Decoder_forget cI cB cS cT a_dec a_dec_p a_pic a_crs a_tbs a_rd dec_keeps_18 z12.1 z12.2)) (w2 := (w_Decoder_decode cI cB cS cT a_pic a_pic_co a_crs a_crs_ow a_crs_pl a_crs_dt a_crs_ot a_sto a_sto_b a_rd a_dec a_dec_p a_tbs a_pic_h a_pic_v a_pic_ac a_pic_dn a_pic_oa a_pic_od a_pic_st pic_many pic_unitsAcross pic_unitsDown pic_blocks n_pic_co pic_co_18 crs_kind crs_first crs_last crs_bits crs_interval crs_units crs_blocksOfUnit crs_laid crs_ow crs_pl crs_dt crs_ot sto_length n_sto_b sto_b rd_at_j79 rd_part_18 rd_left_j79 rd_fault_j79 dec_keeps_18 z12.1 z12.2 ta tw ts tf tx vw vs vf vx ve vz)) [10, 11] [none, none, none, none, none, none, none, none, none, none, some 0, some 1, none, none, none, none, none, none, none, none, none, none, none, none, none, none, none, none, none, none, none, none, none, none, none, none, none, none, none, none, none, none, none, none, none, none, none, none, none, none, none, none, none] hP hD hS hA rfl rfl rfl rfl (va_runV (As := []) (rest := []) ⟨hx, hb, hml, hown, hts⟩ (c_Decoder_forget l dC dI cI cB cS cT N a_dec a_dec_p a_pic a_crs a_tbs a_rd dec_keeps_18 dec_run_18 dec_p_18 H.size z12 hz12) ⟨(callB_of 0 hts (gi tw_671 rfl) rfl rfl rfl (hts _ (List.mem_cons_of_mem _ tw_14)) (hts _ (List.mem_cons_of_mem _ tw_668)) (by decide +kernel) ⟨Nat.le_of_ble_eq_true rfl, Nat.le_of_ble_eq_true rfl⟩), hts _ (List.mem_cons_of_mem _ tw_670), hts _ (List.mem_cons_of_mem _ ts_m671)⟩ ⟨g_blind, va_recv hK hP (ci := 5) (q0 := 10) rfl rfl, g_at hKN (g_pm hP [10, 11] rfl) (hD.sub [10, 11] (by decide) rfl)⟩ rfl rfl hl.1 rfl (lv_room (Nat.le_of_ble_eq_true rfl)) d_m663_80 ⟨Nat.zero_le _, Nat.zero_le _⟩) (fun H locs hP hD hS => ?_)
        refine W.eq (g2 := F0 m 83 ls []) rfl ?_
        exact J18_83 rd_at_j79 rd_left_j79 rd_fault_j79 z12.1 z12.2 hf H locs ls hP hD hS hl
      have hf : f_Decoder_decode_L18b crs_units crs_interval crs_blocksOfUnit crs_ow crs_ot crs_kind crs_pl n_pic_co crs_bits crs_dt sto_length n_sto_b sto_b dec_keeps_18 vs vf vx ve crs_last crs_first N (f_Decoder_decode_L18 crs_units crs_interval crs_blocksOfUnit crs_ow crs_ot crs_kind crs_pl n_pic_co crs_bits crs_dt sto_length n_sto_b sto_b dec_keeps_18 vs vf vx ve crs_last crs_first N k) v2_18 pic_co_18 rd_at_18 rd_part_18 rd_left_18 rd_fault_18 dec_run_18 dec_p_18 = some z := hf
      unfold f_Decoder_decode_L18b at hf
      refine lv_iload_n hx hb d_m663_18 rfl (lv_at hl 1 rfl) ?_
      refine lv_aload_n hx hb d_m663_19 rfl (lv_at hl 0 rfl) ?_
      refine va_get (D := (dC, dI)) (ci := 5) (v := .ref a_crs) (C := "ScanCoder$Decoder") (T := T_5) (N := 7) hx hb hts n0 hown hK hP 10 rfl rfl 1 (by decide) k2 (fun _ h9 => h9) rfl d_m663_20 ?_
      refine va_get (D := (dC, dI)) (ci := 4) (v := .int crs_units) (C := "ScanCoder$Course") (T := T_4) (N := 13) hx hb hts n1 hown hK hP 2 rfl rfl 10 (by decide) k3 (fun _ h9 => h9) rfl d_m663_23 ?_
      refine lv_icmp_ge (tgt := 273) hx hb d_m663_26 (by decide) (fun hc => ?_) (fun hc => ?_)
      · replace hf := (if_pos hc).symm.trans hf
        obtain rfl := Option.some.inj hf
        exact hE0  H locs ls hP hD hS (lv_sub hl [0] rfl)
      · replace hf := (if_neg hc).symm.trans hf
        refine lv_aload_n hx hb d_m663_29 rfl (lv_at hl 0 rfl) ?_
        refine va_get (D := (dC, dI)) (ci := 5) (v := .ref a_rd) (C := "ScanCoder$Decoder") (T := T_5) (N := 7) hx hb hts n0 hown hK hP 10 rfl rfl 3 (by decide) k1 (fun _ h9 => h9) rfl d_m663_30 ?_
        refine va_get (D := (dC, dI)) (ci := 1) (v := .int rd_fault_18) (C := "ScanCoder$BitReader") (T := T_1) (N := 5) hx hb hts n2 hown hK hP 9 rfl rfl 4 (by decide) k4 (fun _ h9 => h9) rfl d_m663_33 ?_
        refine lv_if_ne (tgt := 273) hx hb d_m663_36 (by decide) (fun hc => ?_) (fun hc => ?_)
        · replace hf := (if_neg hc).symm.trans hf
          obtain rfl := Option.some.inj hf
          exact hE0  H locs ls hP hD hS (lv_sub hl [0] rfl)
        · replace hf := (if_pos hc).symm.trans hf
          refine lv_aload_n hx hb d_m663_39 rfl (lv_at hl 0 rfl) ?_
          refine va_get (D := (dC, dI)) (ci := 5) (v := .ref a_crs) (C := "ScanCoder$Decoder") (T := T_5) (N := 7) hx hb hts n0 hown hK hP 10 rfl rfl 1 (by decide) k2 (fun _ h9 => h9) rfl d_m663_40 ?_
          refine lv_iload_n hx hb d_m663_43 rfl (lv_at hl 1 rfl) ?_
          obtain ⟨z3, hz3, hf⟩ := ob_bind hf
          refine vp_callSi (g_run (va_runV (As := [.int v2_18]) (rest := []) ⟨hx, hb, hml, hown, hts⟩ (c_Course_restartsAhead l dC dI cI cB cS cT a_crs a_pic a_crs_ow a_crs_pl a_crs_dt a_crs_ot crs_kind crs_first crs_last crs_bits crs_interval crs_units crs_blocksOfUnit crs_laid v2_18 z3 hz3) ⟨(callB_of 1 hts (gi tw_554 rfl) rfl rfl rfl (hts _ (List.mem_cons_of_mem _ tw_5)) (hts _ (List.mem_cons_of_mem _ tw_673)) (by decide +kernel) ⟨Nat.le_of_ble_eq_true rfl, Nat.le_of_ble_eq_true rfl⟩), hts _ (List.mem_cons_of_mem _ tw_552), hts _ (List.mem_cons_of_mem _ tw_553)⟩ ⟨gp_blind, va_recv hK hP (ci := 4) (q0 := 2) rfl rfl, gp_at hKN (g_pm hP [2] rfl)⟩ rfl rfl hl.1 rfl (lv_room (Nat.le_of_ble_eq_true rfl)) d_m663_44 ⟨Nat.zero_le _, Nat.zero_le _⟩)) (fun r hrz3 => ?_)
          have hrz3 := hrz3.symm
          subst hrz3
          refine W.eq (g2 := F0 m 47 ls [.int z3]) rfl ?_
          refine lv_if_eq (tgt := 83) hx hb d_m663_47 (by decide) (fun hc => ?_) (fun hc => ?_)
          · replace hf := (if_pos hc).symm.trans hf
            exact J18_83 rd_at_18 rd_left_18 rd_fault_18 dec_run_18 dec_p_18 hf H locs ls hP hD hS hl
          · replace hf := (if_neg hc).symm.trans hf
            refine lv_aload_n hx hb d_m663_50 rfl (lv_at hl 0 rfl) ?_
            obtain ⟨z11, hz11, hf⟩ := ob_bind hf
            refine g_callv (wc := (w_Decoder_endPart cI cB cS cT a_rd a_dec a_sto a_pic a_crs a_tbs a_dec_p rd_at_18 rd_part_18 rd_left_18 rd_fault_18 dec_keeps_18 dec_run_18)) (w1 := (w_Decoder_endPart cI cB cS cT a_rd a_dec a_sto a_pic a_crs a_tbs a_dec_p rd_at_18 rd_part_18 z11.1 z11.2 dec_keeps_18 dec_run_18)) (w2 := (w_Decoder_decode cI cB cS cT a_pic a_pic_co a_crs a_crs_ow a_crs_pl a_crs_dt a_crs_ot a_sto a_sto_b a_rd a_dec a_dec_p a_tbs a_pic_h a_pic_v a_pic_ac a_pic_dn a_pic_oa a_pic_od a_pic_st pic_many pic_unitsAcross pic_unitsDown pic_blocks n_pic_co pic_co_18 crs_kind crs_first crs_last crs_bits crs_interval crs_units crs_blocksOfUnit crs_laid crs_ow crs_pl crs_dt crs_ot sto_length n_sto_b sto_b rd_at_18 rd_part_18 z11.1 z11.2 dec_keeps_18 dec_run_18 dec_p_18 ta tw ts tf tx vw vs vf vx ve vz)) [9, 10] [none, none, none, none, none, none, none, none, none, some 0, some 1, none, none, none, none, none, none, none, none, none, none, none, none, none, none, none, none, none, none, none, none, none, none, none, none, none, none, none, none, none, none, none, none, none, none, none, none, none, none, none, none, none, none] hP hD hS hA rfl rfl rfl rfl (va_runV (As := []) (rest := []) ⟨hx, hb, hml, hown, hts⟩ (c_Decoder_endPart l dC dI cI cB cS cT a_rd a_dec a_sto a_pic a_crs a_tbs a_dec_p rd_at_18 rd_part_18 rd_left_18 rd_fault_18 dec_keeps_18 dec_run_18 H.size z11 hz11) ⟨(callB_of 0 hts (gi tw_677 rfl) rfl rfl rfl (hts _ (List.mem_cons_of_mem _ tw_14)) (hts _ (List.mem_cons_of_mem _ tw_674)) (by decide +kernel) ⟨Nat.le_of_ble_eq_true rfl, Nat.le_of_ble_eq_true rfl⟩), hts _ (List.mem_cons_of_mem _ tw_676), hts _ (List.mem_cons_of_mem _ ts_m677)⟩ ⟨g_blind, va_recv hK hP (ci := 5) (q0 := 10) rfl rfl, g_at hKN (g_pm hP [9, 10] rfl) (hD.sub [9, 10] (by decide) rfl)⟩ rfl rfl hl.1 rfl (lv_room (Nat.le_of_ble_eq_true rfl)) d_m663_51 ⟨Nat.zero_le _, Nat.zero_le _⟩) (fun H locs hP hD hS => ?_)
            refine W.eq (g2 := F0 m 54 ls []) rfl ?_
            refine lv_aload_n hx hb d_m663_54 rfl (lv_at hl 0 rfl) ?_
            refine va_get (D := (dC, dI)) (ci := 5) (v := .ref a_rd) (C := "ScanCoder$Decoder") (T := T_5) (N := 7) hx hb hts n0 hown hK hP 10 rfl rfl 3 (by decide) k1 (fun _ h9 => h9) rfl d_m663_55 ?_
            refine va_get (D := (dC, dI)) (ci := 1) (v := .int z11.2) (C := "ScanCoder$BitReader") (T := T_1) (N := 5) hx hb hts n2 hown hK hP 9 rfl rfl 4 (by decide) k4 (fun _ h9 => h9) rfl d_m663_58 ?_
            refine lv_if_ne (tgt := 79) hx hb d_m663_61 (by decide) (fun hc => ?_) (fun hc => ?_)
            · replace hf := (if_neg hc).symm.trans hf
              exact J18_79 rd_at_18 z11.1 z11.2 hf H locs ls hP hD hS hl
            · replace hf := (if_pos hc).symm.trans hf
              refine lv_aload_n hx hb d_m663_64 rfl (lv_at hl 0 rfl) ?_
              refine va_get (D := (dC, dI)) (ci := 5) (v := .ref a_rd) (C := "ScanCoder$Decoder") (T := T_5) (N := 7) hx hb hts n0 hown hK hP 10 rfl rfl 3 (by decide) k1 (fun _ h9 => h9) rfl d_m663_65 ?_
              refine lv_aload_n hx hb d_m663_68 rfl (lv_at hl 0 rfl) ?_
              refine va_get (D := (dC, dI)) (ci := 5) (v := .ref a_crs) (C := "ScanCoder$Decoder") (T := T_5) (N := 7) hx hb hts n0 hown hK hP 10 rfl rfl 1 (by decide) k2 (fun _ h9 => h9) rfl d_m663_69 ?_
              refine lv_iload_n hx hb d_m663_72 rfl (lv_at hl 1 rfl) ?_
              obtain ⟨z13, hz13, hf⟩ := ob_bind hf
              refine vp_callSi (g_run (va_runV (As := [.int v2_18]) (rest := [.ref a_rd]) ⟨hx, hb, hml, hown, hts⟩ (c_Course_restartAhead l dC dI cI cB cS cT a_crs a_pic a_crs_ow a_crs_pl a_crs_dt a_crs_ot crs_kind crs_first crs_last crs_bits crs_interval crs_units crs_blocksOfUnit crs_laid v2_18 z13 hz13) ⟨(callB_of 1 hts (gi tw_607 rfl) rfl rfl rfl (hts _ (List.mem_cons_of_mem _ tw_5)) (hts _ (List.mem_cons_of_mem _ tw_682)) (by decide +kernel) ⟨Nat.le_of_ble_eq_true rfl, Nat.le_of_ble_eq_true rfl⟩), hts _ (List.mem_cons_of_mem _ tw_605), hts _ (List.mem_cons_of_mem _ tw_606)⟩ ⟨gp_blind, va_recv hK hP (ci := 4) (q0 := 2) rfl rfl, gp_at hKN (g_pm hP [2] rfl)⟩ rfl rfl hl.1 rfl (lv_room (Nat.le_of_ble_eq_true rfl)) d_m663_73 ⟨Nat.zero_le _, Nat.zero_le _⟩)) (fun r hrz13 => ?_)
              have hrz13 := hrz13.symm
              subst hrz13
              refine W.eq (g2 := F0 m 76 ls [.int z13, .ref a_rd]) rfl ?_
              obtain ⟨z14, hz14, hf⟩ := ob_bind hf
              refine g_callv (wc := (w_BitReader_takeRestart cI cB cS cT a_sto a_sto_b a_rd sto_length n_sto_b sto_b rd_at_18 rd_part_18 z11.1 z11.2)) (w1 := (w_BitReader_takeRestart cI cB cS cT a_sto a_sto_b a_rd sto_length n_sto_b sto_b z14.1 rd_part_18 z11.1 z14.2)) (w2 := (w_Decoder_decode cI cB cS cT a_pic a_pic_co a_crs a_crs_ow a_crs_pl a_crs_dt a_crs_ot a_sto a_sto_b a_rd a_dec a_dec_p a_tbs a_pic_h a_pic_v a_pic_ac a_pic_dn a_pic_oa a_pic_od a_pic_st pic_many pic_unitsAcross pic_unitsDown pic_blocks n_pic_co pic_co_18 crs_kind crs_first crs_last crs_bits crs_interval crs_units crs_blocksOfUnit crs_laid crs_ow crs_pl crs_dt crs_ot sto_length n_sto_b sto_b z14.1 rd_part_18 z11.1 z14.2 dec_keeps_18 dec_run_18 dec_p_18 ta tw ts tf tx vw vs vf vx ve vz)) [7, 8, 9] [none, none, none, none, none, none, none, some 0, some 1, some 2, none, none, none, none, none, none, none, none, none, none, none, none, none, none, none, none, none, none, none, none, none, none, none, none, none, none, none, none, none, none, none, none, none, none, none, none, none, none, none, none, none, none, none] hP hD hS hA rfl rfl rfl rfl (va_runV (As := [.int z13]) (rest := []) ⟨hx, hb, hml, hown, hts⟩ (c_BitReader_takeRestart l dC dI cI cB cS cT a_sto a_sto_b a_rd sto_length n_sto_b sto_b rd_at_18 rd_part_18 z11.1 z11.2 z13 H.size z14 hz14) ⟨(callB_of 1 hts (gi tw_686 rfl) rfl rfl rfl (hts _ (List.mem_cons_of_mem _ tw_15)) (hts _ (List.mem_cons_of_mem _ tw_683)) (by decide +kernel) ⟨Nat.le_of_ble_eq_true rfl, Nat.le_of_ble_eq_true rfl⟩), hts _ (List.mem_cons_of_mem _ tw_684), hts _ (List.mem_cons_of_mem _ tw_685)⟩ ⟨g_blind, va_recv hK hP (ci := 1) (q0 := 9) rfl rfl, g_at hKN (g_pm hP [7, 8, 9] rfl) (hD.sub [7, 8, 9] (by decide) rfl)⟩ rfl rfl hl.1 rfl (lv_room (Nat.le_of_ble_eq_true rfl)) d_m663_76 ⟨Nat.zero_le _, Nat.zero_le _⟩) (fun H locs hP hD hS => ?_)
              refine W.eq (g2 := F0 m 79 ls []) rfl ?_
              exact J18_79 z14.1 z11.1 z14.2 hf H locs ls hP hD hS hl
  have J304 : ∀ (pic_co_j304 : Nat → Int32) (rd_at_j304 : Int32) (rd_part_j304 : Int32) (rd_left_j304 : Int32) (rd_fault_j304 : Int32) (dec_keeps_j304 : Int32) (dec_run_j304 : Int32) (dec_p_j304 : Nat → Int32), f_Decoder_decode_J304 N rd_fault_j304 pic_co_j304 rd_at_j304 rd_part_j304 rd_left_j304 dec_keeps_j304 dec_run_j304 dec_p_j304 = some z → GW (dC, dI) A p l e (headSpec ws_m663 rm_Decoder_decode).room s m args below meth c 0 0 Q 8 304 (w_Decoder_decode cI cB cS cT a_pic a_pic_co a_crs a_crs_ow a_crs_pl a_crs_dt a_crs_ot a_sto a_sto_b a_rd a_dec a_dec_p a_tbs a_pic_h a_pic_v a_pic_ac a_pic_dn a_pic_oa a_pic_od a_pic_st pic_many pic_unitsAcross pic_unitsDown pic_blocks n_pic_co pic_co_j304 crs_kind crs_first crs_last crs_bits crs_interval crs_units crs_blocksOfUnit crs_laid crs_ow crs_pl crs_dt crs_ot sto_length n_sto_b sto_b rd_at_j304 rd_part_j304 rd_left_j304 rd_fault_j304 dec_keeps_j304 dec_run_j304 dec_p_j304 ta tw ts tf tx vw vs vf vx ve vz) [(0, .ref a_dec)] [] := by
    intro pic_co_j304 rd_at_j304 rd_part_j304 rd_left_j304 rd_fault_j304 dec_keeps_j304 dec_run_j304 dec_p_j304 hf H locs ls hP hD hS hl
    unfold f_Decoder_decode_J304 at hf
    refine lv_aload_n hx hb d_m663_304 rfl (lv_at hl 0 rfl) ?_
    refine va_get (D := (dC, dI)) (ci := 5) (v := .ref a_rd) (C := "ScanCoder$Decoder") (T := T_5) (N := 7) hx hb hts n0 hown hK hP 10 rfl rfl 3 (by decide) k1 (fun _ h9 => h9) rfl d_m663_305 ?_
    refine va_get (D := (dC, dI)) (ci := 1) (v := .int rd_fault_j304) (C := "ScanCoder$BitReader") (T := T_1) (N := 5) hx hb hts n2 hown hK hP 9 rfl rfl 4 (by decide) k4 (fun _ h9 => h9) rfl d_m663_308 ?_
    obtain rfl := Option.some.inj hf
    subst hQ
    subst hAe
    exact W.iret (v := rd_fault_j304) hx hb hr (fun t ht hW => ⟨⟨rd_fault_j304, (), rfl, rfl, by rw [ht]; exact hP, hD⟩, hS.F ht⟩) hS.2.2 d_m663_311
  have J287 : ∀ (pic_co_j287 : Nat → Int32) (rd_at_j287 : Int32) (rd_part_j287 : Int32) (rd_left_j287 : Int32) (rd_fault_j287 : Int32) (dec_keeps_j287 : Int32) (dec_run_j287 : Int32) (dec_p_j287 : Nat → Int32), f_Decoder_decode_J287 N rd_fault_j287 sto_length rd_at_j287 pic_co_j287 rd_part_j287 rd_left_j287 dec_keeps_j287 dec_run_j287 dec_p_j287 = some z → GW (dC, dI) A p l e (headSpec ws_m663 rm_Decoder_decode).room s m args below meth c 0 0 Q 8 287 (w_Decoder_decode cI cB cS cT a_pic a_pic_co a_crs a_crs_ow a_crs_pl a_crs_dt a_crs_ot a_sto a_sto_b a_rd a_dec a_dec_p a_tbs a_pic_h a_pic_v a_pic_ac a_pic_dn a_pic_oa a_pic_od a_pic_st pic_many pic_unitsAcross pic_unitsDown pic_blocks n_pic_co pic_co_j287 crs_kind crs_first crs_last crs_bits crs_interval crs_units crs_blocksOfUnit crs_laid crs_ow crs_pl crs_dt crs_ot sto_length n_sto_b sto_b rd_at_j287 rd_part_j287 rd_left_j287 rd_fault_j287 dec_keeps_j287 dec_run_j287 dec_p_j287 ta tw ts tf tx vw vs vf vx ve vz) [(0, .ref a_dec)] [] := by
    intro pic_co_j287 rd_at_j287 rd_part_j287 rd_left_j287 rd_fault_j287 dec_keeps_j287 dec_run_j287 dec_p_j287 hf H locs ls hP hD hS hl
    unfold f_Decoder_decode_J287 at hf
    refine lv_aload_n hx hb d_m663_287 rfl (lv_at hl 0 rfl) ?_
    refine va_get (D := (dC, dI)) (ci := 5) (v := .ref a_rd) (C := "ScanCoder$Decoder") (T := T_5) (N := 7) hx hb hts n0 hown hK hP 10 rfl rfl 3 (by decide) k1 (fun _ h9 => h9) rfl d_m663_288 ?_
    refine va_get (D := (dC, dI)) (ci := 1) (v := .int rd_fault_j287) (C := "ScanCoder$BitReader") (T := T_1) (N := 5) hx hb hts n2 hown hK hP 9 rfl rfl 4 (by decide) k4 (fun _ h9 => h9) rfl d_m663_291 ?_
    refine lv_if_ne (tgt := 304) hx hb d_m663_294 (by decide) (fun hc => ?_) (fun hc => ?_)
    · replace hf := (if_neg hc).symm.trans hf
      exact J304 pic_co_j287 rd_at_j287 rd_part_j287 rd_left_j287 rd_fault_j287 dec_keeps_j287 dec_run_j287 dec_p_j287 hf H locs ls hP hD hS hl
    · replace hf := (if_pos hc).symm.trans hf
      refine lv_aload_n hx hb d_m663_297 rfl (lv_at hl 0 rfl) ?_
      refine va_get (D := (dC, dI)) (ci := 5) (v := .ref a_rd) (C := "ScanCoder$Decoder") (T := T_5) (N := 7) hx hb hts n0 hown hK hP 10 rfl rfl 3 (by decide) k1 (fun _ h9 => h9) rfl d_m663_298 ?_
      obtain ⟨z16, hz16, hf⟩ := ob_bind hf
      refine g_callv (wc := (w_BitReader_takeEnd cI cB cS cT a_sto a_rd a_sto_b sto_length rd_at_j287 rd_part_j287 rd_left_j287 rd_fault_j287)) (w1 := (w_BitReader_takeEnd cI cB cS cT a_sto a_rd a_sto_b sto_length rd_at_j287 rd_part_j287 rd_left_j287 z16)) (w2 := (w_Decoder_decode cI cB cS cT a_pic a_pic_co a_crs a_crs_ow a_crs_pl a_crs_dt a_crs_ot a_sto a_sto_b a_rd a_dec a_dec_p a_tbs a_pic_h a_pic_v a_pic_ac a_pic_dn a_pic_oa a_pic_od a_pic_st pic_many pic_unitsAcross pic_unitsDown pic_blocks n_pic_co pic_co_j287 crs_kind crs_first crs_last crs_bits crs_interval crs_units crs_blocksOfUnit crs_laid crs_ow crs_pl crs_dt crs_ot sto_length n_sto_b sto_b rd_at_j287 rd_part_j287 rd_left_j287 z16 dec_keeps_j287 dec_run_j287 dec_p_j287 ta tw ts tf tx vw vs vf vx ve vz)) [7, 9] [none, none, none, none, none, none, none, some 0, none, some 1, none, none, none, none, none, none, none, none, none, none, none, none, none, none, none, none, none, none, none, none, none, none, none, none, none, none, none, none, none, none, none, none, none, none, none, none, none, none, none, none, none, none, none] hP hD hS hA rfl rfl rfl rfl (va_runV (As := []) (rest := []) ⟨hx, hb, hml, hown, hts⟩ (c_BitReader_takeEnd l dC dI cI cB cS cT a_sto a_rd a_sto_b sto_length rd_at_j287 rd_part_j287 rd_left_j287 rd_fault_j287 H.size z16 hz16) ⟨(callB_of 0 hts (gi tw_769 rfl) rfl rfl rfl (hts _ (List.mem_cons_of_mem _ tw_15)) (hts _ (List.mem_cons_of_mem _ tw_766)) (by decide +kernel) ⟨Nat.le_of_ble_eq_true rfl, Nat.le_of_ble_eq_true rfl⟩), hts _ (List.mem_cons_of_mem _ tw_767), hts _ (List.mem_cons_of_mem _ tw_768)⟩ ⟨g_blind, va_recv hK hP (ci := 1) (q0 := 9) rfl rfl, g_at hKN (g_pm hP [7, 9] rfl) (hD.sub [7, 9] (by decide) rfl)⟩ rfl rfl hl.1 rfl (lv_room (Nat.le_of_ble_eq_true rfl)) d_m663_301 ⟨Nat.zero_le _, Nat.zero_le _⟩) (fun H locs hP hD hS => ?_)
      refine W.eq (g2 := F0 m 304 ls []) rfl ?_
      exact J304 pic_co_j287 rd_at_j287 rd_part_j287 rd_left_j287 z16 dec_keeps_j287 dec_run_j287 dec_p_j287 hf H locs ls hP hD hS hl
  have J273 : ∀ (pic_co_j273 : Nat → Int32) (rd_at_j273 : Int32) (rd_part_j273 : Int32) (rd_left_j273 : Int32) (rd_fault_j273 : Int32) (dec_keeps_j273 : Int32) (dec_run_j273 : Int32) (dec_p_j273 : Nat → Int32), f_Decoder_decode_J273 N rd_fault_j273 rd_part_j273 rd_left_j273 dec_run_j273 sto_length rd_at_j273 pic_co_j273 dec_keeps_j273 dec_p_j273 = some z → GW (dC, dI) A p l e (headSpec ws_m663 rm_Decoder_decode).room s m args below meth c 0 0 Q 8 273 (w_Decoder_decode cI cB cS cT a_pic a_pic_co a_crs a_crs_ow a_crs_pl a_crs_dt a_crs_ot a_sto a_sto_b a_rd a_dec a_dec_p a_tbs a_pic_h a_pic_v a_pic_ac a_pic_dn a_pic_oa a_pic_od a_pic_st pic_many pic_unitsAcross pic_unitsDown pic_blocks n_pic_co pic_co_j273 crs_kind crs_first crs_last crs_bits crs_interval crs_units crs_blocksOfUnit crs_laid crs_ow crs_pl crs_dt crs_ot sto_length n_sto_b sto_b rd_at_j273 rd_part_j273 rd_left_j273 rd_fault_j273 dec_keeps_j273 dec_run_j273 dec_p_j273 ta tw ts tf tx vw vs vf vx ve vz) [(0, .ref a_dec)] [] := by
    intro pic_co_j273 rd_at_j273 rd_part_j273 rd_left_j273 rd_fault_j273 dec_keeps_j273 dec_run_j273 dec_p_j273 hf H locs ls hP hD hS hl
    unfold f_Decoder_decode_J273 at hf
    refine lv_aload_n hx hb d_m663_273 rfl (lv_at hl 0 rfl) ?_
    refine va_get (D := (dC, dI)) (ci := 5) (v := .ref a_rd) (C := "ScanCoder$Decoder") (T := T_5) (N := 7) hx hb hts n0 hown hK hP 10 rfl rfl 3 (by decide) k1 (fun _ h9 => h9) rfl d_m663_274 ?_
    refine va_get (D := (dC, dI)) (ci := 1) (v := .int rd_fault_j273) (C := "ScanCoder$BitReader") (T := T_1) (N := 5) hx hb hts n2 hown hK hP 9 rfl rfl 4 (by decide) k4 (fun _ h9 => h9) rfl d_m663_277 ?_
    refine lv_if_ne (tgt := 287) hx hb d_m663_280 (by decide) (fun hc => ?_) (fun hc => ?_)
    · replace hf := (if_neg hc).symm.trans hf
      exact J287 pic_co_j273 rd_at_j273 rd_part_j273 rd_left_j273 rd_fault_j273 dec_keeps_j273 dec_run_j273 dec_p_j273 hf H locs ls hP hD hS hl
    · replace hf := (if_pos hc).symm.trans hf
      refine lv_aload_n hx hb d_m663_283 rfl (lv_at hl 0 rfl) ?_
      obtain ⟨z17, hz17, hf⟩ := ob_bind hf
      refine g_callv (wc := (w_Decoder_endPart cI cB cS cT a_rd a_dec a_sto a_pic a_crs a_tbs a_dec_p rd_at_j273 rd_part_j273 rd_left_j273 rd_fault_j273 dec_keeps_j273 dec_run_j273)) (w1 := (w_Decoder_endPart cI cB cS cT a_rd a_dec a_sto a_pic a_crs a_tbs a_dec_p rd_at_j273 rd_part_j273 z17.1 z17.2 dec_keeps_j273 dec_run_j273)) (w2 := (w_Decoder_decode cI cB cS cT a_pic a_pic_co a_crs a_crs_ow a_crs_pl a_crs_dt a_crs_ot a_sto a_sto_b a_rd a_dec a_dec_p a_tbs a_pic_h a_pic_v a_pic_ac a_pic_dn a_pic_oa a_pic_od a_pic_st pic_many pic_unitsAcross pic_unitsDown pic_blocks n_pic_co pic_co_j273 crs_kind crs_first crs_last crs_bits crs_interval crs_units crs_blocksOfUnit crs_laid crs_ow crs_pl crs_dt crs_ot sto_length n_sto_b sto_b rd_at_j273 rd_part_j273 z17.1 z17.2 dec_keeps_j273 dec_run_j273 dec_p_j273 ta tw ts tf tx vw vs vf vx ve vz)) [9, 10] [none, none, none, none, none, none, none, none, none, some 0, some 1, none, none, none, none, none, none, none, none, none, none, none, none, none, none, none, none, none, none, none, none, none, none, none, none, none, none, none, none, none, none, none, none, none, none, none, none, none, none, none, none, none, none] hP hD hS hA rfl rfl rfl rfl (va_runV (As := []) (rest := []) ⟨hx, hb, hml, hown, hts⟩ (c_Decoder_endPart l dC dI cI cB cS cT a_rd a_dec a_sto a_pic a_crs a_tbs a_dec_p rd_at_j273 rd_part_j273 rd_left_j273 rd_fault_j273 dec_keeps_j273 dec_run_j273 H.size z17 hz17) ⟨(callB_of 0 hts (gi tw_677 rfl) rfl rfl rfl (hts _ (List.mem_cons_of_mem _ tw_14)) (hts _ (List.mem_cons_of_mem _ tw_674)) (by decide +kernel) ⟨Nat.le_of_ble_eq_true rfl, Nat.le_of_ble_eq_true rfl⟩), hts _ (List.mem_cons_of_mem _ tw_676), hts _ (List.mem_cons_of_mem _ ts_m677)⟩ ⟨g_blind, va_recv hK hP (ci := 5) (q0 := 10) rfl rfl, g_at hKN (g_pm hP [9, 10] rfl) (hD.sub [9, 10] (by decide) rfl)⟩ rfl rfl hl.1 rfl (lv_room (Nat.le_of_ble_eq_true rfl)) d_m663_284 ⟨Nat.zero_le _, Nat.zero_le _⟩) (fun H locs hP hD hS => ?_)
      refine W.eq (g2 := F0 m 287 ls []) rfl ?_
      exact J287 pic_co_j273 rd_at_j273 rd_part_j273 z17.1 z17.2 dec_keeps_j273 dec_run_j273 dec_p_j273 hf H locs ls hP hD hS hl
  have hgo : ∀ (H : Heap) (locs : List Loc), va_P (dC, dI) vwCl (w_Decoder_decode cI cB cS cT a_pic a_pic_co a_crs a_crs_ow a_crs_pl a_crs_dt a_crs_ot a_sto a_sto_b a_rd a_dec a_dec_p a_tbs a_pic_h a_pic_v a_pic_ac a_pic_dn a_pic_oa a_pic_od a_pic_st pic_many pic_unitsAcross pic_unitsDown pic_blocks n_pic_co pic_co crs_kind crs_first crs_last crs_bits crs_interval crs_units crs_blocksOfUnit crs_laid crs_ow crs_pl crs_dt crs_ot sto_length n_sto_b sto_b rd_at rd_part rd_left rd_fault dec_keeps dec_run dec_p ta tw ts tf tx vw vs vf vx ve vz) H → va_S A s.heap H locs → W p l e (headSpec ws_m663 rm_Decoder_decode).room s m args below meth c H locs 0 0 Q (F0 m 0 ls []) := by
    intro H locs hP hS
    unfold f_Decoder_decode at hf
    refine lv_aload_n hx hb d_m663_0 rfl (lv_at hl 0 rfl) ?_
    refine lv_iload_n hx hb d_m663_1 rfl (lv_at hl 1 rfl) ?_
    obtain ⟨hi, hf⟩ := ob_ok hf
    refine va_put (D := (dC, dI)) (ci := 5) (v := .int p0) (ty := .boolean) (C := "ScanCoder$Decoder") (T := T_5) (N := 7) hx hb hts n0 ty_5 tyok_5 nm_5 hown hK hP hD hS 10 rfl rfl 5 (by decide) k0 (fun _ h9 => h9) rfl (by decide +kernel) (nb_ok hi).1 (nb_ok hi).2 (Nat.le_of_ble_eq_true rfl) d_m663_2 (fun H locs hP hD hS => ?_)
    have hP : va_P (dC, dI) vwCl (w_Decoder_decode cI cB cS cT a_pic a_pic_co a_crs a_crs_ow a_crs_pl a_crs_dt a_crs_ot a_sto a_sto_b a_rd a_dec a_dec_p a_tbs a_pic_h a_pic_v a_pic_ac a_pic_dn a_pic_oa a_pic_od a_pic_st pic_many pic_unitsAcross pic_unitsDown pic_blocks n_pic_co pic_co crs_kind crs_first crs_last crs_bits crs_interval crs_units crs_blocksOfUnit crs_laid crs_ow crs_pl crs_dt crs_ot sto_length n_sto_b sto_b rd_at rd_part rd_left rd_fault p0 dec_run dec_p ta tw ts tf tx vw vs vf vx ve vz) H := hP
    have hD : va_D A (w_Decoder_decode cI cB cS cT a_pic a_pic_co a_crs a_crs_ow a_crs_pl a_crs_dt a_crs_ot a_sto a_sto_b a_rd a_dec a_dec_p a_tbs a_pic_h a_pic_v a_pic_ac a_pic_dn a_pic_oa a_pic_od a_pic_st pic_many pic_unitsAcross pic_unitsDown pic_blocks n_pic_co pic_co crs_kind crs_first crs_last crs_bits crs_interval crs_units crs_blocksOfUnit crs_laid crs_ow crs_pl crs_dt crs_ot sto_length n_sto_b sto_b rd_at rd_part rd_left rd_fault p0 dec_run dec_p ta tw ts tf tx vw vs vf vx ve vz) := hD
    refine lv_aload_n hx hb d_m663_5 rfl (lv_at hl 0 rfl) ?_
    refine va_get (D := (dC, dI)) (ci := 5) (v := .ref a_rd) (C := "ScanCoder$Decoder") (T := T_5) (N := 7) hx hb hts n0 hown hK hP 10 rfl rfl 3 (by decide) k1 (fun _ h9 => h9) rfl d_m663_6 ?_
    obtain ⟨z1, hz1, hf⟩ := ob_bind hf
    refine g_callv (wc := (w_BitReader_begin cI cB cS cT a_rd a_sto rd_at rd_part rd_left rd_fault)) (w1 := (w_BitReader_begin cI cB cS cT a_rd a_sto z1.1 z1.2.1 z1.2.2.1 z1.2.2.2)) (w2 := (w_Decoder_decode cI cB cS cT a_pic a_pic_co a_crs a_crs_ow a_crs_pl a_crs_dt a_crs_ot a_sto a_sto_b a_rd a_dec a_dec_p a_tbs a_pic_h a_pic_v a_pic_ac a_pic_dn a_pic_oa a_pic_od a_pic_st pic_many pic_unitsAcross pic_unitsDown pic_blocks n_pic_co pic_co crs_kind crs_first crs_last crs_bits crs_interval crs_units crs_blocksOfUnit crs_laid crs_ow crs_pl crs_dt crs_ot sto_length n_sto_b sto_b z1.1 z1.2.1 z1.2.2.1 z1.2.2.2 p0 dec_run dec_p ta tw ts tf tx vw vs vf vx ve vz)) [9] [none, none, none, none, none, none, none, none, none, some 0, none, none, none, none, none, none, none, none, none, none, none, none, none, none, none, none, none, none, none, none, none, none, none, none, none, none, none, none, none, none, none, none, none, none, none, none, none, none, none, none, none, none, none] hP hD hS hA rfl rfl rfl rfl (va_runV (As := []) (rest := []) ⟨hx, hb, hml, hown, hts⟩ (c_BitReader_begin l dC dI cI cB cS cT a_rd a_sto rd_at rd_part rd_left rd_fault H.size z1 hz1) ⟨(callB_of 0 hts (gi tw_667 rfl) rfl rfl rfl (hts _ (List.mem_cons_of_mem _ tw_15)) (hts _ (List.mem_cons_of_mem _ tw_664)) (by decide +kernel) ⟨Nat.le_of_ble_eq_true rfl, Nat.le_of_ble_eq_true rfl⟩), hts _ (List.mem_cons_of_mem _ tw_665), hts _ (List.mem_cons_of_mem _ tw_666)⟩ ⟨g_blind, va_recv hK hP (ci := 1) (q0 := 9) rfl rfl, g_at hKN (g_pm hP [9] rfl) (hD.sub [9] (by decide) rfl)⟩ rfl rfl hl.1 rfl (lv_room (Nat.le_of_ble_eq_true rfl)) d_m663_9 ⟨Nat.zero_le _, Nat.zero_le _⟩) (fun H locs hP hD hS => ?_)
    refine W.eq (g2 := F0 m 12 ls []) rfl ?_
    refine lv_aload_n hx hb d_m663_12 rfl (lv_at hl 0 rfl) ?_
    obtain ⟨z2, hz2, hf⟩ := ob_bind hf
    refine g_callv (wc := (w_Decoder_forget cI cB cS cT a_dec a_dec_p a_pic a_crs a_tbs a_rd p0 dec_run dec_p)) (w1 := (w_Decoder_forget cI cB cS cT a_dec a_dec_p a_pic a_crs a_tbs a_rd p0 z2.1 z2.2)) (w2 := (w_Decoder_decode cI cB cS cT a_pic a_pic_co a_crs a_crs_ow a_crs_pl a_crs_dt a_crs_ot a_sto a_sto_b a_rd a_dec a_dec_p a_tbs a_pic_h a_pic_v a_pic_ac a_pic_dn a_pic_oa a_pic_od a_pic_st pic_many pic_unitsAcross pic_unitsDown pic_blocks n_pic_co pic_co crs_kind crs_first crs_last crs_bits crs_interval crs_units crs_blocksOfUnit crs_laid crs_ow crs_pl crs_dt crs_ot sto_length n_sto_b sto_b z1.1 z1.2.1 z1.2.2.1 z1.2.2.2 p0 z2.1 z2.2 ta tw ts tf tx vw vs vf vx ve vz)) [10, 11] [none, none, none, none, none, none, none, none, none, none, some 0, some 1, none, none, none, none, none, none, none, none, none, none, none, none, none, none, none, none, none, none, none, none, none, none, none, none, none, none, none, none, none, none, none, none, none, none, none, none, none, none, none, none, none] hP hD hS hA rfl rfl rfl rfl (va_runV (As := []) (rest := []) ⟨hx, hb, hml, hown, hts⟩ (c_Decoder_forget l dC dI cI cB cS cT N a_dec a_dec_p a_pic a_crs a_tbs a_rd p0 dec_run dec_p H.size z2 hz2) ⟨(callB_of 0 hts (gi tw_671 rfl) rfl rfl rfl (hts _ (List.mem_cons_of_mem _ tw_14)) (hts _ (List.mem_cons_of_mem _ tw_668)) (by decide +kernel) ⟨Nat.le_of_ble_eq_true rfl, Nat.le_of_ble_eq_true rfl⟩), hts _ (List.mem_cons_of_mem _ tw_670), hts _ (List.mem_cons_of_mem _ ts_m671)⟩ ⟨g_blind, va_recv hK hP (ci := 5) (q0 := 10) rfl rfl, g_at hKN (g_pm hP [10, 11] rfl) (hD.sub [10, 11] (by decide) rfl)⟩ rfl rfl hl.1 rfl (lv_room (Nat.le_of_ble_eq_true rfl)) d_m663_13 ⟨Nat.zero_le _, Nat.zero_le _⟩) (fun H locs hP hD hS => ?_)
    refine W.eq (g2 := F0 m 16 ls []) rfl ?_
    refine lv_iconst (v := (0 : Int32)) hx hb d_m663_16 (by decide) ?_
    refine lv_istore_n (lv' := [(2, .int (0 : Int32)), (0, .ref a_dec), (1, .int p0)]) hx hb d_m663_17 rfl hl (by decide) rfl (fun ls hl => ?_)
    obtain ⟨z15, hz15, hf⟩ := ob_bind hf
    refine L18 p0 z15 ?_ N (0 : Int32) pic_co z1.1 z1.2.1 z1.2.2.1 z1.2.2.2 z2.1 z2.2 hz15 H locs ls hP hD hS (lv_sub hl [1, 0] rfl)
    · intro H locs ls hP hD hS hl
      exact J273 z15.1 z15.2.1 z15.2.2.1 z15.2.2.2.1 z15.2.2.2.2.1 p0 z15.2.2.2.2.2.1 z15.2.2.2.2.2.2 hf H locs ls hP hD hS hl
  exact hgo _ _ hP hS
