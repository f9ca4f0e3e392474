/-- the words that stay so under warmer tables -/
def gw_tbl : List Cond := lw_tbl.filter goodWord
theorem gw_mem {w : Cond} {i : Nat} (h : tables_1[i]? = some w) (hg : goodWord w = true) : w ∈ gw_tbl := List.mem_filter.mpr ⟨List.mem_append_right _ (List.mem_of_getElem? h), hg⟩
theorem gw_in {w : Cond} (h : w ∈ lw_tbl) (hg : goodWord w = true) : w ∈ gw_tbl := List.mem_filter.mpr ⟨h, hg⟩
theorem gm {c w : Cond} (h : w ∈ gw_tbl) : w ∈ (c :: gw_tbl) ∧ ((w.onTables && w.keeps) = true ∨ ∃ ty, w = .arrayClass ty) := ⟨List.mem_cons_of_mem _ h, good_of_word (List.mem_filter.mp h).2⟩
theorem gi {c c' : Cond} (h : c' ∈ gw_tbl) (_ : goodWord c' = true) : GoodIn (c :: gw_tbl) (c' :: gw_tbl) := fun w hw => (List.mem_cons.mp hw).elim (fun e => e ▸ gm h) (fun e => gm e)
theorem gu {c c' : Cond} {own C owner : String} {idx : Nat} {x y : MethodName} (h1 : Cond.methodLink own idx x ∈ gw_tbl) (h2 : Cond.sameMethod x.cls owner x.name x.desc ∈ gw_tbl) (h3 : Cond.selects C x y ∈ gw_tbl) (h4 : Cond.instanceMethod y ∈ gw_tbl) (h5 : Cond.initialized y.cls ∈ gw_tbl) (hg : GoodIn (c :: gw_tbl) (c' :: gw_tbl)) : GoodIn (c :: gw_tbl) (va_wsU own idx C owner x y (c' :: gw_tbl)) := by
  intro w hw
  unfold va_wsU at hw
  rcases List.mem_append.mp hw with h | h
  · simp only [List.mem_cons, List.not_mem_nil, or_false] at h
    rcases h with rfl | rfl | rfl | rfl | rfl
    · exact gm h1
    · exact gm h2
    · exact gm h3
    · exact gm h4
    · exact gm h5
  · exact hg w h
def gN (U : State) : Prop := va_Nw (Jvm.Cond.methodLinkNest "ScanCoder" (27 : Nat) ({ cls := "ScanCoder$Draft", name := "<init>", desc := "()V" } : Jvm.MethodName) "ScanCoder") U ∧ va_AO "ScanCoder$Table" U ∧ va_Nw (Jvm.Cond.methodLinkNest "ScanCoder" (38 : Nat) ({ cls := "ScanCoder$Table", name := "<init>", desc := "()V" } : Jvm.MethodName) "ScanCoder") U ∧ va_Nw (Jvm.Cond.methodLinkNest "ScanCoder" (41 : Nat) ({ cls := "ScanCoder$Store", name := "<init>", desc := "()V" } : Jvm.MethodName) "ScanCoder") U ∧ va_Nw (Jvm.Cond.methodLinkNest "ScanCoder" (48 : Nat) ({ cls := "ScanCoder$Counter", name := "<init>", desc := "()V" } : Jvm.MethodName) "ScanCoder") U ∧ va_Nw (Jvm.Cond.methodLinkNest "ScanCoder$Counter" (3 : Nat) ({ cls := "ScanCoder$Sink", name := "<init>", desc := "()V" } : Jvm.MethodName) "ScanCoder") U ∧ va_Nw (Jvm.Cond.methodLinkNest "ScanCoder$BitWriter" (3 : Nat) ({ cls := "ScanCoder$Sink", name := "<init>", desc := "()V" } : Jvm.MethodName) "ScanCoder") U ∧ va_Nw (Jvm.Cond.methodLinkNest "ScanCoder$Encoder" (119 : Nat) ({ cls := "ScanCoder", name := "sizeOf", desc := "(I)I" } : Jvm.MethodName) "ScanCoder") U ∧ va_Nw (Jvm.Cond.declares ({ cls := "ScanCoder$Sink", name := "putWord", desc := "(II)V" } : Jvm.MethodName)) U ∧ va_Nw (Jvm.Cond.methodLinkNest "ScanCoder$BitWriter" (42 : Nat) ({ cls := "ScanCoder", name := "sizeOf", desc := "(I)I" } : Jvm.MethodName) "ScanCoder") U ∧ va_Nw (Jvm.Cond.declares ({ cls := "ScanCoder$Sink", name := "putBits", desc := "(JI)V" } : Jvm.MethodName)) U ∧ va_Nw (Jvm.Cond.declares ({ cls := "ScanCoder$Sink", name := "endByte", desc := "()V" } : Jvm.MethodName)) U ∧ va_Nw (Jvm.Cond.declares ({ cls := "ScanCoder$Sink", name := "putRestart", desc := "(I)V" } : Jvm.MethodName)) U ∧ True
theorem gn_223 {U : State} (h : gN U) : va_Nw (Jvm.Cond.methodLinkNest "ScanCoder" (27 : Nat) ({ cls := "ScanCoder$Draft", name := "<init>", desc := "()V" } : Jvm.MethodName) "ScanCoder") U := h.1
theorem gn_245 {U : State} (h : gN U) : va_AO "ScanCoder$Table" U := h.2.1
theorem gn_247 {U : State} (h : gN U) : va_Nw (Jvm.Cond.methodLinkNest "ScanCoder" (38 : Nat) ({ cls := "ScanCoder$Table", name := "<init>", desc := "()V" } : Jvm.MethodName) "ScanCoder") U := h.2.2.1
theorem gn_274 {U : State} (h : gN U) : va_Nw (Jvm.Cond.methodLinkNest "ScanCoder" (41 : Nat) ({ cls := "ScanCoder$Store", name := "<init>", desc := "()V" } : Jvm.MethodName) "ScanCoder") U := h.2.2.2.1
theorem gn_291 {U : State} (h : gN U) : va_Nw (Jvm.Cond.methodLinkNest "ScanCoder" (48 : Nat) ({ cls := "ScanCoder$Counter", name := "<init>", desc := "()V" } : Jvm.MethodName) "ScanCoder") U := h.2.2.2.2.1
theorem gn_294 {U : State} (h : gN U) : va_Nw (Jvm.Cond.methodLinkNest "ScanCoder$Counter" (3 : Nat) ({ cls := "ScanCoder$Sink", name := "<init>", desc := "()V" } : Jvm.MethodName) "ScanCoder") U := h.2.2.2.2.2.1
theorem gn_312 {U : State} (h : gN U) : va_Nw (Jvm.Cond.methodLinkNest "ScanCoder$BitWriter" (3 : Nat) ({ cls := "ScanCoder$Sink", name := "<init>", desc := "()V" } : Jvm.MethodName) "ScanCoder") U := h.2.2.2.2.2.2.1
theorem gn_563 {U : State} (h : gN U) : va_Nw (Jvm.Cond.methodLinkNest "ScanCoder$Encoder" (119 : Nat) ({ cls := "ScanCoder", name := "sizeOf", desc := "(I)I" } : Jvm.MethodName) "ScanCoder") U := h.2.2.2.2.2.2.2.1
theorem gn_570 {U : State} (h : gN U) : va_Nw (Jvm.Cond.declares ({ cls := "ScanCoder$Sink", name := "putWord", desc := "(II)V" } : Jvm.MethodName)) U := h.2.2.2.2.2.2.2.2.1
theorem gn_575 {U : State} (h : gN U) : va_Nw (Jvm.Cond.methodLinkNest "ScanCoder$BitWriter" (42 : Nat) ({ cls := "ScanCoder", name := "sizeOf", desc := "(I)I" } : Jvm.MethodName) "ScanCoder") U := h.2.2.2.2.2.2.2.2.2.1
theorem gn_588 {U : State} (h : gN U) : va_Nw (Jvm.Cond.declares ({ cls := "ScanCoder$Sink", name := "putBits", desc := "(JI)V" } : Jvm.MethodName)) U := h.2.2.2.2.2.2.2.2.2.2.1
theorem gn_595 {U : State} (h : gN U) : va_Nw (Jvm.Cond.declares ({ cls := "ScanCoder$Sink", name := "endByte", desc := "()V" } : Jvm.MethodName)) U := h.2.2.2.2.2.2.2.2.2.2.2.1
theorem gn_609 {U : State} (h : gN U) : va_Nw (Jvm.Cond.declares ({ cls := "ScanCoder$Sink", name := "putRestart", desc := "(I)V" } : Jvm.MethodName)) U := h.2.2.2.2.2.2.2.2.2.2.2.2.1
theorem gN.moved {s U : State} (hW : s.WarmedH U.vm) (h : gN s) : gN U := ⟨va_Nw.warmM hW (gn_223 h), va_AO.moved hW.alike (gn_245 h), va_Nw.warmM hW (gn_247 h), va_Nw.warmM hW (gn_274 h), va_Nw.warmM hW (gn_291 h), va_Nw.warmM hW (gn_294 h), va_Nw.warmM hW (gn_312 h), va_Nw.warmM hW (gn_563 h), va_Nw.warmD hW (gn_570 h), va_Nw.warmM hW (gn_575 h), va_Nw.warmD hW (gn_588 h), va_Nw.warmD hW (gn_595 h), va_Nw.warmD hW (gn_609 h), trivial⟩
theorem gN.same {u U : State} (e : u.vm = U.vm) (h : gN u) : gN U := ⟨va_Nw.same rfl e (gn_223 h), va_AO.moved (show u.vm.Alike U.vm by rw [e]; exact Vm.Alike.refl _) (gn_245 h), va_Nw.same rfl e (gn_247 h), va_Nw.same rfl e (gn_274 h), va_Nw.same rfl e (gn_291 h), va_Nw.same rfl e (gn_294 h), va_Nw.same rfl e (gn_312 h), va_Nw.same rfl e (gn_563 h), va_Nw.same rfl e (gn_570 h), va_Nw.same rfl e (gn_575 h), va_Nw.same rfl e (gn_588 h), va_Nw.same rfl e (gn_595 h), va_Nw.same rfl e (gn_609 h), trivial⟩
