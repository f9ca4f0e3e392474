/-! What the generated rows stand on: fuel, options, the state of a walk, calls by contract with a world. -/
def it {α β : Type} (b : (α → Option β) → α → Option β) : Nat → α → Option β
  | 0, _ => none
  | k + 1, a => b (it b k) a
theorem it_zero {α β : Type} {b : (α → Option β) → α → Option β} {a : α} {z : β} (h : it b 0 a = some z) : False := by
  cases h
theorem ob_bind {α β : Type} {o : Option α} {k : α → Option β} {z : β} (h : o.bind k = some z) : ∃ x, o = some x ∧ k x = some z := by
  cases o with
  | none => cases h
  | some x => exact ⟨x, rfl, h⟩
theorem ob_if {α : Type} {c : Prop} [Decidable c] {a : Option α} {z : α} (h : (if c then none else a) = some z) : ¬ c ∧ a = some z := by
  by_cases hc : c
  · rw [if_pos hc] at h; cases h
  · rw [if_neg hc] at h; exact ⟨hc, h⟩
theorem ob_ok {α : Type} {c : Prop} [Decidable c] {a : Option α} {z : α} (h : (if c then a else none) = some z) : c ∧ a = some z := by
  by_cases hc : c
  · rw [if_pos hc] at h; exact ⟨hc, h⟩
  · rw [if_neg hc] at h; cases h
theorem nb_ok {v : Int32} (h : v = 0 ∨ v = 1) : narrow .boolean (.int v) = .int v ∧ fits .boolean (.int v) = true := by
  rcases h with rfl | rfl <;> decide
abbrev gT (cI cB cS cT : ClassId) : List (ClassId × FieldType) := [(cI, .int), (cB, .byte), (cS, .short), (cT, .object "ScanCoder$Table")]
/-- the tables' facts: classes and array classes, and the words that go with the state -/
def gK (D : va_G) (tys : List (ClassId × FieldType)) (U : State) : Prop := va_K D vwCl tys U ∧ gN U
abbrev GW (D : va_G) (A : Nat → Prop) (p : Program) (l : Launch) (e : Env) (R : Room) (s : State) (m : MethodId) (args : Array Value) (below : List Frame) (meth : Method) (c : Code) (cells slots : Nat) (Q : State → Prop) (nL pc : Nat) (w : va_W) (lv : List (Nat × Value)) (st : List Value) : Prop :=
  ∀ (H : Heap) (locs : List Loc) (ls : Array Slot), va_P D vwCl w H → va_D A w → va_S A s.heap H locs → lv_has ls nL lv → W p l e R s m args below meth c H locs cells slots Q (F0 m pc ls st)
abbrev GP (p : Program) (l : Launch) (e : Env) (R : Room) (s : State) (m : MethodId) (args : Array Value) (below : List Frame) (meth : Method) (c : Code) (Q : State → Prop) (nL pc : Nat) (lv : List (Nat × Value)) (st : List Value) : Prop :=
  ∀ (ls : Array Slot), lv_has ls nL lv → W p l e R s m args below meth c s.heap [] 0 0 Q (F0 m pc ls st)
theorem gK.calling {D : va_G} {tys : List (ClassId × FieldType)} {U : State} {g : JFrame} {mk : MethodId} {a : Array Value} (h : gK D tys U) : gK D tys (U.calling g mk a) := ⟨va_K.moved (u := U) (U := U.calling g mk a) (Vm.Alike.refl U.vm) h.1, gN.same (u := U) (U := U.calling g mk a) rfl h.2⟩
theorem gK.moved {D : va_G} {tys : List (ClassId × FieldType)} {s U : State} (hW : s.WarmedH U.vm) (h : gK D tys s) : gK D tys U := ⟨va_K.moved hW.alike h.1, gN.moved hW h.2⟩
abbrev gPre (D : va_G) (av : List Value) (tys : List (ClassId × FieldType)) (w : va_W) (sz : Nat) : Array Value → State → Prop := va_Pc av (fun U => U.heap.size = sz ∧ va_P D vwCl w U.heap ∧ gK D tys U ∧ va_D (fun _ => True) w)
abbrev gPreP (D : va_G) (av : List Value) (tys : List (ClassId × FieldType)) (w : va_W) : Array Value → State → Prop := va_Pc av (fun U => va_P D vwCl w U.heap ∧ gK D tys U)
abbrev gB (D : va_G) (tys : List (ClassId × FieldType)) (w w1 : va_W) (sz : Nat) : Unit → State → Prop := fun _ t => va_P D vwCl w1 t.heap ∧ va_D (va_A w sz) w1
abbrev gQi (D : va_G) (tys : List (ClassId × FieldType)) (r : Int32) (w w1 : va_W) (sz : Nat) : Array Value → State → Outcome → State → Prop := va_Qi (fun (x : Int32) (_ : Unit) => x = r) (gB D tys w w1 sz) (va_A w sz)
abbrev gQv (D : va_G) (tys : List (ClassId × FieldType)) (w w1 : va_W) (sz : Nat) : Array Value → State → Outcome → State → Prop := va_Qv (fun (_ : Unit) => True) (gB D tys w w1 sz) (va_A w sz)
theorem g_blind {D : va_G} {av : List Value} {tys : List (ClassId × FieldType)} {w : va_W} {sz : Nat} : FrameBlind (gPre D av tys w sz) := fun a U g mk q => by
  obtain ⟨q0, q1, qP, qK, qD⟩ := q
  exact ⟨q0, q1, qP, qK.calling, qD⟩
theorem gp_blind {D : va_G} {av : List Value} {tys : List (ClassId × FieldType)} {w : va_W} : FrameBlind (gPreP D av tys w) := fun a U g mk q => by
  obtain ⟨q0, qP, qK⟩ := q
  exact ⟨q0, qP, qK.calling⟩
theorem g_at {D : va_G} {av : List Value} {tys : List (ClassId × FieldType)} {w : va_W} {s : State} {H : Heap} {A : Nat → Prop} (hK : gK D tys s) (hP : va_P D vwCl w H) (hD : va_D A w) : ∀ U : State, U.heap = H → s.WarmedH U.vm → gPre D av tys w H.size av.toArray U :=
  fun U hU hW => ⟨rfl, by rw [hU], by rw [hU]; exact hP, hK.moved hW, hD.weaken (fun _ _ _ _ => trivial)⟩
theorem gp_at {D : va_G} {av : List Value} {tys : List (ClassId × FieldType)} {w : va_W} {s : State} {H : Heap} (hK : gK D tys s) (hP : va_P D vwCl w H) : ∀ U : State, U.heap = H → s.WarmedH U.vm → gPreP D av tys w av.toArray U :=
  fun U hU hW => ⟨rfl, by rw [hU]; exact hP, hK.moved hW⟩
theorem g_pm {D : va_G} {cl : List vw_C} {ws ws' : va_W} {H : Heap} (h : va_P D cl ws H) (is : List Nat) (hs : is.map (fun i => ws[i]?) = ws'.map some) : va_P D cl ws' H := fun k q hk => by
  have h1 : (ws'.map some)[k]? = some (some q) := by rw [List.getElem?_map, hk]; rfl
  rw [← hs, List.getElem?_map] at h1
  cases hi : is[k]? with
  | none => rw [hi] at h1; cases h1
  | some i => rw [hi] at h1; exact h i q (Option.some.inj h1)
theorem g_adr {A : Nat → Prop} {ws w2 : va_W} (hD : va_D A ws) (h : w2.map (fun q => q.1) = ws.map (fun q => q.1)) : va_D A w2 := by
  have key : ∀ (i : Nat) (q : Nat × va_E), w2[i]? = some q → ∃ e, ws[i]? = some (q.1, e) := fun i q hi => by
    have h1 : (w2.map (fun q => q.1))[i]? = some q.1 := by rw [List.getElem?_map, hi]; rfl
    rw [h, List.getElem?_map] at h1
    cases hw : ws[i]? with
    | none => rw [hw] at h1; cases h1
    | some x => rw [hw] at h1; exact ⟨x.2, by rw [← Option.some.inj h1]⟩
  refine ⟨fun i j p q hi hj e => ?_, fun k q hk => ?_⟩
  · obtain ⟨e1, h1⟩ := key i p hi
    obtain ⟨e2, h2⟩ := key j q hj
    exact hD.1 i j _ _ h1 h2 e
  · obtain ⟨e1, h1⟩ := key k q hk
    exact hD.2 k (q.1, e1) h1
/-- the world behind a call: place k of w2 is place j of what came back (pl k = some j), or as it was (none: no place of the callee's) -/
theorem g_join {D : va_G} {cl : List vw_C} {A : Nat → Prop} {ws wc w1 w2 : va_W} {H H1 : Heap} (isC : List Nat) (pl : List (Option Nat)) (hP : va_P D cl ws H) (hD : va_D A ws) (hC : isC.map (fun i => ws[i]?) = wc.map some)
    (h2 : w2.map some = (pl.zipIdx).map (fun x => match x.1 with | some j => w1[j]? | none => ws[x.2]?)) (hno : (pl.zipIdx).all (fun x => x.1.isSome || !isC.contains x.2) = true)
    (hk : ∀ q : Nat, q < H.size → ¬ va_A wc H.size q → H1[q]? = H[q]?) (hP1 : va_P D cl w1 H1) : va_P D cl w2 H1 := fun k q hq => by
  have h1 : (w2.map some)[k]? = some (some q) := by rw [List.getElem?_map, hq]; rfl
  rw [h2, List.getElem?_map] at h1
  cases hx : (pl.zipIdx)[k]? with
  | none => rw [hx] at h1; cases h1
  | some x =>
    rw [hx] at h1
    have h3 := Option.some.inj h1
    have hm := List.mem_of_getElem? hx
    rw [List.all_eq_true] at hno
    have h4 := hno x hm
    obtain ⟨o, i⟩ := x
    cases o with
    | some j => exact hP1 j q h3
    | none =>
      have h5 : ws[i]? = some q := h3
      have h6 : i ∉ isC := by
        intro h
        simp [h] at h4
      refine (hP i q h5).kept (hk q.1 (hP i q h5).lt ?_)
      rintro (⟨a, e, ha⟩ | ha)
      · have h7 : (wc.map some)[a]? = some (some (q.1, e)) := by rw [List.getElem?_map, ha]; rfl
        rw [← hC, List.getElem?_map] at h7
        cases hb : isC[a]? with
        | none => rw [hb] at h7; cases h7
        | some b =>
          rw [hb] at h7
          have h8 : b = i := hD.1 b i _ _ (Option.some.inj h7) h5 rfl
          exact h6 (h8 ▸ List.mem_of_getElem? hb)
      · exact absurd (hP i q h5).lt (Nat.not_lt.mpr ha)
section GC
variable {p : Program} {l : Launch} {e : Env} {R : Room} {s : State} {m : MethodId} {args : Array Value} {below : List Frame} {meth : Method} {c : Code} {H : Heap} {locs : List Loc} {cells slots mc ms : Nat} {Q : State → Prop} {D : va_G} {tys : List (ClassId × FieldType)} {A : Nat → Prop} {pc : Nat} {ls : Array Slot} {rest st0 : List Value} {a : Array Value}
theorem gen_Q {g : JFrame} {Q0 : State → Prop} (h : ∀ Q : State → Prop, Q0 = Q → W p l e R s m args below meth c H locs cells slots Q g) : W p l e R s m args below meth c H locs cells slots Q0 g := h Q0 rfl
theorem g_run {g : JFrame} {Qa : State → Outcome → State → Prop} {free : Addr → Prop} (h : va_Run p l e R s m args below meth c H locs cells slots mc ms g rest Qa free) : CallRun p l e R s m args below meth c H locs cells slots mc ms g rest Qa free := fun T hT X => by
  obtain ⟨v, st, t, T', L, h1, h2, h3, h4, -, h5, h6⟩ := h T hT X
  exact ⟨v, st, t, T', L, h1, h2, h3, h4, h5, h6⟩
theorem g_calli {ws wc w1 w2 : va_W} {r : Int32} (isC : List Nat) (pl : List (Option Nat)) (hP : va_P D vwCl ws H) (hD : va_D A ws) (hS : va_S A s.heap H locs) (hA : ∀ q, s.heap.size ≤ q → A q) (hC : isC.map (fun i => ws[i]?) = wc.map some)
    (h2 : w2.map some = (pl.zipIdx).map (fun x => match x.1 with | some j => w1[j]? | none => ws[x.2]?)) (hno : (pl.zipIdx).all (fun x => x.1.isSome || !isC.contains x.2) = true) (hadr : w2.map (fun q => q.1) = ws.map (fun q => q.1))
    (run : va_Run p l e R s m args below meth c H locs cells slots mc ms (F0 m pc ls st0) rest (gQi D tys r wc w1 H.size a) (va_A wc H.size))
    (kk : ∀ (H1 : Heap) (locs1 : List Loc), va_P D vwCl w2 H1 → va_D A w2 → va_S A s.heap H1 locs1 → W p l e R s m args below meth c H1 locs1 (cells + mc) (slots + ms) Q (F0 m (pc + 3) ls (.int r :: rest))) : W p l e R s m args below meth c H locs cells slots Q (F0 m pc ls st0) := by
  have hF := va_free (wc := wc) hD hS hA isC hC
  refine va_calli run hS (fun q _ h => hF q h) hF (fun r1 u t H1 locs1 ht hvm hw hB hz1 hk1 hS1 => ?_)
  obtain ⟨hP1, hD1⟩ := hB
  rw [ht] at hP1
  have hw : r1 = r := hw
  subst hw
  exact kk H1 locs1 (g_join isC pl hP hD hC h2 hno hk1 hP1) (g_adr hD hadr) hS1
theorem g_callv {ws wc w1 w2 : va_W} (isC : List Nat) (pl : List (Option Nat)) (hP : va_P D vwCl ws H) (hD : va_D A ws) (hS : va_S A s.heap H locs) (hA : ∀ q, s.heap.size ≤ q → A q) (hC : isC.map (fun i => ws[i]?) = wc.map some)
    (h2 : w2.map some = (pl.zipIdx).map (fun x => match x.1 with | some j => w1[j]? | none => ws[x.2]?)) (hno : (pl.zipIdx).all (fun x => x.1.isSome || !isC.contains x.2) = true) (hadr : w2.map (fun q => q.1) = ws.map (fun q => q.1))
    (run : va_Run p l e R s m args below meth c H locs cells slots mc ms (F0 m pc ls st0) rest (gQv D tys wc w1 H.size a) (va_A wc H.size))
    (kk : ∀ (H1 : Heap) (locs1 : List Loc), va_P D vwCl w2 H1 → va_D A w2 → va_S A s.heap H1 locs1 → W p l e R s m args below meth c H1 locs1 (cells + mc) (slots + ms) Q (F0 m (pc + 3) ls rest)) : W p l e R s m args below meth c H locs cells slots Q (F0 m pc ls st0) := by
  have hF := va_free (wc := wc) hD hS hA isC hC
  refine va_callv run hS (fun q _ h => hF q h) hF (fun u t H1 locs1 ht hvm hw hB hz1 hk1 hS1 => ?_)
  obtain ⟨hP1, hD1⟩ := hB
  rw [ht] at hP1
  exact kk H1 locs1 (g_join isC pl hP hD hC h2 hno hk1 hP1) (g_adr hD hadr) hS1
end GC
