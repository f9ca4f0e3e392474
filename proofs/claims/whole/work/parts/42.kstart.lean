set_option maxHeartbeats 4000000 in
set_option maxRecDepth 100000 in
theorem gK_start {s : State} {args : Array Value} (hts : ∀ w ∈ lw_tbl, w.before args s = true) : ∃ (dC : Nat → ClassId) (dI : Nat → Nat → Nat) (cI cB cS cT : ClassId), gK (dC, dI) (gT cI cB cS cT) s := by
  obtain ⟨c0, iS0, hKn0⟩ := u_known (C := "ScanCoder") (T := T_0) (N := 9) (n := 9) hts (fun w h => gw_sub (in_0 w h)) (hts _ (gw_sub tw_19))
  obtain ⟨c1, iS1, hKn1⟩ := u_known (C := "ScanCoder$BitReader") (T := T_1) (N := 5) (n := 5) hts (fun w h => gw_sub (in_1 w h)) (hts _ (gw_sub tw_371))
  obtain ⟨c2, iS2, hKn2⟩ := u_known (C := "ScanCoder$BitWriter") (T := T_2) (N := 7) (n := 7) hts (fun w h => gw_sub (in_2 w h)) (hts _ (gw_sub tw_308))
  obtain ⟨c3, iS3, hKn3⟩ := u_known (C := "ScanCoder$Counter") (T := T_3) (N := 2) (n := 2) hts (fun w h => gw_sub (in_3 w h)) (hts _ (gw_sub tw_290))
  obtain ⟨c4, iS4, hKn4⟩ := u_known (C := "ScanCoder$Course") (T := T_4) (N := 13) (n := 13) hts (fun w h => gw_sub (in_4 w h)) (hts _ (gw_sub tw_111))
  obtain ⟨c5, iS5, hKn5⟩ := u_known (C := "ScanCoder$Decoder") (T := T_5) (N := 7) (n := 7) hts (fun w h => gw_sub (in_5 w h)) (hts _ (gw_sub tw_369))
  obtain ⟨c6, iS6, hKn6⟩ := u_known (C := "ScanCoder$Draft") (T := T_6) (N := 4) (n := 4) hts (fun w h => gw_sub (in_6 w h)) (hts _ (gw_sub tw_222))
  obtain ⟨c7, iS7, hKn7⟩ := u_known (C := "ScanCoder$Encoder") (T := T_7) (N := 8) (n := 8) hts (fun w h => gw_sub (in_7 w h)) (hts _ (gw_sub tw_338))
  obtain ⟨c8, iS8, hKn8⟩ := u_known (C := "ScanCoder$Picture") (T := T_8) (N := 12) (n := 12) hts (fun w h => gw_sub (in_8 w h)) (hts _ (gw_sub tw_27))
  obtain ⟨c9, iS9, hKn9⟩ := u_known (C := "ScanCoder$Store") (T := T_9) (N := 2) (n := 2) hts (fun w h => gw_sub (in_9 w h)) (hts _ (gw_sub tw_273))
  obtain ⟨c10, iS10, hKn10⟩ := u_known (C := "ScanCoder$Table") (T := T_10) (N := 6) (n := 6) hts (fun w h => gw_sub (in_10 w h)) (hts _ (gw_sub tw_246))
  obtain ⟨c11, iS11, hKn11⟩ := u_known (C := "ScanCoderModel") (T := T_11) (N := 49) (n := 49) hts (fun w h => gw_sub (in_11 w h)) (hts _ (gw_sub tw_818))
  obtain ⟨cI, kI, compI, aI, bI, dI⟩ := Cond.arrayClass_spec (hts _ (gw_sub tw_108))
  obtain ⟨cB, kB, compB, aB, bB, dB⟩ := Cond.arrayClass_spec (hts _ (gw_sub tw_243))
  obtain ⟨cS, kS, compS, aS, bS, dS⟩ := Cond.arrayClass_spec (hts _ (gw_sub tw_109))
  have hov := hts _ (List.mem_append_right _ (List.mem_of_getElem? (i := 245) (by decide +kernel : tables_1[245]? = some (Jvm.Cond.arrayOver (Jvm.ClassFile.FieldType.object "ScanCoder$Table")))))
  obtain ⟨compT, cT, kT, aT, -, bT, dT, eT⟩ := Cond.arrayOver_spec hov
  refine ⟨fun k => ([c0, c1, c2, c3, c4, c5, c6, c7, c8, c9, c10, c11] : List ClassId).getD k c0, fun k => ([iS0, iS1, iS2, iS3, iS4, iS5, iS6, iS7, iS8, iS9, iS10, iS11] : List (Nat → Nat)).getD k iS0, cI, cB, cS, cT, ⟨?_, ?_⟩, ?_⟩
  · intro c q hq
    match c, hq with
    | 0, hq => cases hq; exact hKn0
    | 1, hq => cases hq; exact hKn1
    | 2, hq => cases hq; exact hKn2
    | 3, hq => cases hq; exact hKn3
    | 4, hq => cases hq; exact hKn4
    | 5, hq => cases hq; exact hKn5
    | 6, hq => cases hq; exact hKn6
    | 7, hq => cases hq; exact hKn7
    | 8, hq => cases hq; exact hKn8
    | 9, hq => cases hq; exact hKn9
    | 10, hq => cases hq; exact hKn10
    | 11, hq => cases hq; exact hKn11
    | k + 12, hq => simp [vwCl] at hq
  · intro k q hq
    match k, hq with
    | 0, hq => cases hq; exact ⟨fun n z => ⟨fun k h => (by cases h), kI, bI, compI, dI⟩, aI⟩
    | 1, hq => cases hq; exact ⟨fun n z => ⟨fun k h => (by cases h), kB, bB, compB, dB⟩, aB⟩
    | 2, hq => cases hq; exact ⟨fun n z => ⟨fun k h => (by cases h), kS, bS, compS, dS⟩, aS⟩
    | 3, hq => cases hq; exact ⟨fun n z => ⟨fun k h => (by cases h), kT, bT, compT, dT⟩, kT, compT, bT, dT, aT, eT⟩
    | k + 4, hq => simp [gT] at hq
  · exact ⟨va_Nw.of rfl (hts _ (List.mem_append_right _ (List.mem_of_getElem? (i := 223) (by decide +kernel : tables_1[223]? = some (Jvm.Cond.methodLinkNest "ScanCoder" (27 : Nat) ({ cls := "ScanCoder$Draft", name := "<init>", desc := "()V" } : Jvm.MethodName) "ScanCoder"))))), va_AO.of hov, va_Nw.of rfl (hts _ (List.mem_append_right _ (List.mem_of_getElem? (i := 247) (by decide +kernel : tables_1[247]? = some (Jvm.Cond.methodLinkNest "ScanCoder" (38 : Nat) ({ cls := "ScanCoder$Table", name := "<init>", desc := "()V" } : Jvm.MethodName) "ScanCoder"))))), va_Nw.of rfl (hts _ (List.mem_append_right _ (List.mem_of_getElem? (i := 274) (by decide +kernel : tables_1[274]? = some (Jvm.Cond.methodLinkNest "ScanCoder" (41 : Nat) ({ cls := "ScanCoder$Store", name := "<init>", desc := "()V" } : Jvm.MethodName) "ScanCoder"))))), va_Nw.of rfl (hts _ (List.mem_append_right _ (List.mem_of_getElem? (i := 291) (by decide +kernel : tables_1[291]? = some (Jvm.Cond.methodLinkNest "ScanCoder" (48 : Nat) ({ cls := "ScanCoder$Counter", name := "<init>", desc := "()V" } : Jvm.MethodName) "ScanCoder"))))), va_Nw.of rfl (hts _ (List.mem_append_right _ (List.mem_of_getElem? (i := 294) (by decide +kernel : tables_1[294]? = some (Jvm.Cond.methodLinkNest "ScanCoder$Counter" (3 : Nat) ({ cls := "ScanCoder$Sink", name := "<init>", desc := "()V" } : Jvm.MethodName) "ScanCoder"))))), va_Nw.of rfl (hts _ (List.mem_append_right _ (List.mem_of_getElem? (i := 312) (by decide +kernel : tables_1[312]? = some (Jvm.Cond.methodLinkNest "ScanCoder$BitWriter" (3 : Nat) ({ cls := "ScanCoder$Sink", name := "<init>", desc := "()V" } : Jvm.MethodName) "ScanCoder"))))), va_Nw.of rfl (hts _ (List.mem_append_right _ (List.mem_of_getElem? (i := 563) (by decide +kernel : tables_1[563]? = some (Jvm.Cond.methodLinkNest "ScanCoder$Encoder" (119 : Nat) ({ cls := "ScanCoder", name := "sizeOf", desc := "(I)I" } : Jvm.MethodName) "ScanCoder"))))), va_Nw.of rfl (hts _ (List.mem_append_right _ (List.mem_of_getElem? (i := 570) (by decide +kernel : tables_1[570]? = some (Jvm.Cond.declares ({ cls := "ScanCoder$Sink", name := "putWord", desc := "(II)V" } : Jvm.MethodName)))))), va_Nw.of rfl (hts _ (List.mem_append_right _ (List.mem_of_getElem? (i := 575) (by decide +kernel : tables_1[575]? = some (Jvm.Cond.methodLinkNest "ScanCoder$BitWriter" (42 : Nat) ({ cls := "ScanCoder", name := "sizeOf", desc := "(I)I" } : Jvm.MethodName) "ScanCoder"))))), va_Nw.of rfl (hts _ (List.mem_append_right _ (List.mem_of_getElem? (i := 588) (by decide +kernel : tables_1[588]? = some (Jvm.Cond.declares ({ cls := "ScanCoder$Sink", name := "putBits", desc := "(JI)V" } : Jvm.MethodName)))))), va_Nw.of rfl (hts _ (List.mem_append_right _ (List.mem_of_getElem? (i := 595) (by decide +kernel : tables_1[595]? = some (Jvm.Cond.declares ({ cls := "ScanCoder$Sink", name := "endByte", desc := "()V" } : Jvm.MethodName)))))), va_Nw.of rfl (hts _ (List.mem_append_right _ (List.mem_of_getElem? (i := 609) (by decide +kernel : tables_1[609]? = some (Jvm.Cond.declares ({ cls := "ScanCoder$Sink", name := "putRestart", desc := "(I)V" } : Jvm.MethodName)))))), trivial⟩
