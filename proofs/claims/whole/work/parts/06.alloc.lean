/-! calls of methods that make rows: new addresses come back -/
theorem g_cA {D : va_G} {cl : List vw_C} {tys : List (ClassId × FieldType)} {s : State} {c1 c2 : ClassId} {ty : FieldType} {t0 : Nat} (hK : va_K D cl tys s) (h : tys[t0]? = some (c1, ty)) (hK1 : va_K D cl (tys ++ [(c2, ty)]) s) : c1 = c2 := by
  have h1 := (hK.2 t0 _ h).2
  have h2 := (hK1.2 tys.length (c2, ty) (by rw [List.getElem?_append_right (Nat.le_refl _), Nat.sub_self]; rfl)).2
  cases ty with
  | object C =>
    obtain ⟨-, -, -, -, -, h3⟩ := h1
    obtain ⟨-, -, -, -, -, h4⟩ := h2
    exact Option.some.inj (h3.symm.trans h4)
  | _ => exact Option.some.inj (Eq.trans (Eq.symm h1) h2)
theorem g_cAq {D : va_G} {cl : List vw_C} {tys : List (ClassId × FieldType)} {s : State} {c1 c2 : ClassId} {ty : FieldType} {t0 : Nat} (hK : va_K D cl tys s) (h : tys[t0]? = some (c1, ty)) (hK1 : va_K D cl (tys ++ [(c2, ty)]) s) : c1 = c2 := g_cA hK h hK1
theorem g_nb {N : Nat} {ty : FieldType} (h : ¬ 65536 < N) : N * componentBytes ty ≤ 536870912 := by
  have hc : componentBytes ty ≤ 8 := by cases ty <;> first | decide | exact (by decide : (4 : Nat) ≤ 8) | (simp [componentBytes])
  calc N * componentBytes ty ≤ 65536 * 8 := Nat.mul_le_mul (Nat.le_of_not_lt h) hc
    _ ≤ 536870912 := by decide
abbrev gBA (D : va_G) (tys : List (ClassId × FieldType)) {U : Type} (w : va_W) (w1 : U → va_W) (sz : Nat) : U → State → Prop := fun u t => va_P D vwCl (w1 u) t.heap ∧ va_D (va_A w sz) (w1 u)
abbrev gQiA (D : va_G) (tys : List (ClassId × FieldType)) {U : Type} (r : Int32) (w : va_W) (w1 : U → va_W) (sz : Nat) : Array Value → State → Outcome → State → Prop := va_Qi (fun (x : Int32) (_ : U) => x = r) (gBA D tys w w1 sz) (va_A w sz)
abbrev gQvA (D : va_G) (tys : List (ClassId × FieldType)) {U : Type} (w : va_W) (w1 : U → va_W) (sz : Nat) : Array Value → State → Outcome → State → Prop := va_Qv (fun (_ : U) => True) (gBA D tys w w1 sz) (va_A w sz)
abbrev gQrA (D : va_G) (tys : List (ClassId × FieldType)) (w : va_W) (w1 : Nat → va_W) (sz : Nat) : Array Value → State → Outcome → State → Prop := va_Qr (fun (_ : Unit) => True) (fun _ a t => va_P D vwCl (w1 a) t.heap ∧ va_D (va_A w sz) (w1 a)) (va_A w sz)
def nd_some : List (Option Nat) → Bool
  | [] => true
  | none :: l => nd_some l
  | some j :: l => !l.contains (some j) && nd_some l
theorem nd_some_inj : ∀ (l : List (Option Nat)), nd_some l = true → ∀ (i k j : Nat), l[i]? = some (some j) → l[k]? = some (some j) → i = k
  | [], _, i, k, j, h, _ => by simp at h
  | none :: l, hn, i, k, j, h1, h2 => by
    cases i with
    | zero => simp at h1
    | succ i =>
      cases k with
      | zero => simp at h2
      | succ k => rw [nd_some_inj l hn i k j (by simpa using h1) (by simpa using h2)]
  | some b :: l, hn, i, k, j, h1, h2 => by
    simp only [nd_some, Bool.and_eq_true, Bool.not_eq_true'] at hn
    have hc : ∀ n, l[n]? = some (some b) → False := fun n h => by
      have := List.mem_of_getElem? h
      rw [← List.contains_iff_mem] at this
      rw [hn.1] at this
      cases this
    cases i with
    | zero =>
      cases k with
      | zero => rfl
      | succ k =>
        have e : b = j := by simpa using h1
        subst e
        exact (hc k (by simpa using h2)).elim
    | succ i =>
      cases k with
      | zero =>
        have e : b = j := by simpa using h2
        subst e
        exact (hc i (by simpa using h1)).elim
      | succ k => rw [nd_some_inj l hn.2 i k j (by simpa using h1) (by simpa using h2)]
theorem zipIdx_at {α : Type} {pl : List α} {k : Nat} {x : α × Nat} (h : (pl.zipIdx)[k]? = some x) : pl[k]? = some x.1 ∧ x.2 = k := by
  rw [List.getElem?_zipIdx] at h
  cases hp : pl[k]? with
  | none => rw [hp] at h; cases h
  | some y =>
    rw [hp] at h
    have h2 := Option.some.inj h
    rw [← h2]
    exact ⟨rfl, Nat.zero_add k⟩
/-- the addresses behind such a call are apart, too -/
theorem g_joinD {D : va_G} {cl : List vw_C} {A : Nat → Prop} {ws wc w1 w2 : va_W} {H : Heap} (isC : List Nat) (pl : List (Option Nat)) (hP : va_P D cl ws H) (hD : va_D A ws) (hC : isC.map (fun i => ws[i]?) = wc.map some)
    (h2 : w2.map some = (pl.zipIdx).map (fun x => match x.1 with | some j => w1[j]? | none => ws[x.2]?)) (hno : (pl.zipIdx).all (fun x => x.1.isSome || !isC.contains x.2) = true) (hnd : nd_some pl = true)
    (hF : ∀ q, va_A wc H.size q → A q) (hD1 : va_D (va_A wc H.size) w1) : va_D A w2 := by
  have key : ∀ (k : Nat) (q : Nat × va_E), w2[k]? = some q → (∃ j, pl[k]? = some (some j) ∧ w1[j]? = some q) ∨ (k ∉ isC ∧ ws[k]? = some q) := fun k q hq => by
    have h1 : (w2.map some)[k]? = some (some q) := by rw [List.getElem?_map, hq]; rfl
    rw [h2, List.getElem?_map] at h1
    cases hx : (pl.zipIdx)[k]? with
    | none => rw [hx] at h1; cases h1
    | some x =>
      rw [hx] at h1
      have h3 := Option.some.inj h1
      have hm := List.mem_of_getElem? hx
      obtain ⟨ha, hb⟩ := zipIdx_at hx
      rw [List.all_eq_true] at hno
      have h4 := hno x hm
      obtain ⟨o, i⟩ := x
      dsimp only at hb
      subst hb
      cases o with
      | some j => exact Or.inl ⟨j, ha, h3⟩
      | none =>
        refine Or.inr ⟨?_, h3⟩
        intro h
        simp [h] at h4
  have apart : ∀ (k k2 : Nat) (q q2 : Nat × va_E) (j : Nat), w1[j]? = some q → k2 ∉ isC → ws[k2]? = some q2 → q.1 ≠ q2.1 := fun k k2 q q2 j h1 h3 h4 e => by
    rcases hD1.2 j q h1 with ⟨a, x, ha⟩ | ha
    · have h7 : (wc.map some)[a]? = some (some (q.1, x)) := by rw [List.getElem?_map, ha]; rfl
      rw [← hC, List.getElem?_map] at h7
      cases hb : isC[a]? with
      | none => rw [hb] at h7; cases h7
      | some b =>
        rw [hb] at h7
        have h8 : b = k2 := hD.1 b k2 _ _ (Option.some.inj h7) h4 e
        exact h3 (h8 ▸ List.mem_of_getElem? hb)
    · have := (hP k2 q2 h4).lt
      omega
  refine ⟨fun i j p q hi hj e => ?_, fun k q hk => ?_⟩
  · rcases key i p hi with ⟨a, ha, ha1⟩ | ⟨ha, ha1⟩ <;> rcases key j q hj with ⟨b, hb, hb1⟩ | ⟨hb, hb1⟩
    · have hab : a = b := hD1.1 a b _ _ ha1 hb1 e
      subst hab
      exact nd_some_inj pl hnd i j a ha hb
    · exact (apart i j p q a ha1 hb hb1 e).elim
    · exact (apart j i q p b hb1 ha ha1 e.symm).elim
    · exact hD.1 i j _ _ ha1 hb1 e
  · rcases key k q hk with ⟨a, ha, ha1⟩ | ⟨ha, ha1⟩
    · exact hF _ (hD1.2 a q ha1)
    · exact hD.2 k q ha1
section GCA
variable {p : Program} {l : Launch} {e : Env} {R : Room} {s : State} {m : MethodId} {args : Array Value} {below : List Frame} {meth : Method} {c : Code} {H : Heap} {locs : List Loc} {cells slots mc ms : Nat} {Q : State → Prop} {D : va_G} {tys : List (ClassId × FieldType)} {A : Nat → Prop} {pc : Nat} {ls : Array Slot} {rest st0 : List Value} {a : Array Value}
theorem g_callAv {U : Type} {ws wc : va_W} {w1 w2 : U → va_W} (isC : List Nat) (pl : List (Option Nat)) (hP : va_P D vwCl ws H) (hD : va_D A ws) (hS : va_S A s.heap H locs) (hA : ∀ q, s.heap.size ≤ q → A q) (hC : isC.map (fun i => ws[i]?) = wc.map some)
    (h2 : ∀ u, (w2 u).map some = (pl.zipIdx).map (fun x => match x.1 with | some j => (w1 u)[j]? | none => ws[x.2]?)) (hno : (pl.zipIdx).all (fun x => x.1.isSome || !isC.contains x.2) = true) (hnd : nd_some pl = true)
    (run : va_Run p l e R s m args below meth c H locs cells slots mc ms (F0 m pc ls st0) rest (gQvA D tys wc w1 H.size a) (va_A wc H.size))
    (kk : ∀ (u : U) (H1 : Heap) (locs1 : List Loc), va_P D vwCl (w2 u) H1 → va_D A (w2 u) → va_S A s.heap H1 locs1 → W p l e R s m args below meth c H1 locs1 (cells + mc) (slots + ms) Q (F0 m (pc + 3) ls rest)) : W p l e R s m args below meth c H locs cells slots Q (F0 m pc ls st0) := by
  have hF := va_free (wc := wc) hD hS hA isC hC
  refine va_callv run hS (fun q _ h => hF q h) hF (fun u t H1 locs1 ht hvm hw hB hz1 hk1 hS1 => ?_)
  obtain ⟨hP1, hD1⟩ := hB
  rw [ht] at hP1
  exact kk u H1 locs1 (g_join isC pl hP hD hC (h2 u) hno hk1 hP1) (g_joinD isC pl hP hD hC (h2 u) hno hnd hF hD1) hS1
theorem g_callAi {U : Type} {ws wc : va_W} {w1 w2 : U → va_W} {r : Int32} (isC : List Nat) (pl : List (Option Nat)) (hP : va_P D vwCl ws H) (hD : va_D A ws) (hS : va_S A s.heap H locs) (hA : ∀ q, s.heap.size ≤ q → A q) (hC : isC.map (fun i => ws[i]?) = wc.map some)
    (h2 : ∀ u, (w2 u).map some = (pl.zipIdx).map (fun x => match x.1 with | some j => (w1 u)[j]? | none => ws[x.2]?)) (hno : (pl.zipIdx).all (fun x => x.1.isSome || !isC.contains x.2) = true) (hnd : nd_some pl = true)
    (run : va_Run p l e R s m args below meth c H locs cells slots mc ms (F0 m pc ls st0) rest (gQiA D tys r wc w1 H.size a) (va_A wc H.size))
    (kk : ∀ (u : U) (H1 : Heap) (locs1 : List Loc), va_P D vwCl (w2 u) H1 → va_D A (w2 u) → va_S A s.heap H1 locs1 → W p l e R s m args below meth c H1 locs1 (cells + mc) (slots + ms) Q (F0 m (pc + 3) ls (.int r :: rest))) : W p l e R s m args below meth c H locs cells slots Q (F0 m pc ls st0) := by
  have hF := va_free (wc := wc) hD hS hA isC hC
  refine va_calli run hS (fun q _ h => hF q h) hF (fun r1 u t H1 locs1 ht hvm hw hB hz1 hk1 hS1 => ?_)
  obtain ⟨hP1, hD1⟩ := hB
  rw [ht] at hP1
  have hw : r1 = r := hw
  subst hw
  exact kk u H1 locs1 (g_join isC pl hP hD hC (h2 u) hno hk1 hP1) (g_joinD isC pl hP hD hC (h2 u) hno hnd hF hD1) hS1
theorem g_callAr {ws wc : va_W} {w1 w2 : Nat → va_W} (isC : List Nat) (pl : List (Option Nat)) (hP : va_P D vwCl ws H) (hD : va_D A ws) (hS : va_S A s.heap H locs) (hA : ∀ q, s.heap.size ≤ q → A q) (hC : isC.map (fun i => ws[i]?) = wc.map some)
    (h2 : ∀ u, (w2 u).map some = (pl.zipIdx).map (fun x => match x.1 with | some j => (w1 u)[j]? | none => ws[x.2]?)) (hno : (pl.zipIdx).all (fun x => x.1.isSome || !isC.contains x.2) = true) (hnd : nd_some pl = true)
    (run : va_Run p l e R s m args below meth c H locs cells slots mc ms (F0 m pc ls st0) rest (gQrA D tys wc w1 H.size a) (va_A wc H.size))
    (kk : ∀ (u : Nat) (H1 : Heap) (locs1 : List Loc), va_P D vwCl (w2 u) H1 → va_D A (w2 u) → va_S A s.heap H1 locs1 → W p l e R s m args below meth c H1 locs1 (cells + mc) (slots + ms) Q (F0 m (pc + 3) ls (.ref u :: rest))) : W p l e R s m args below meth c H locs cells slots Q (F0 m pc ls st0) := by
  have hF := va_free (wc := wc) hD hS hA isC hC
  refine va_callr run hS (fun q _ h => hF q h) hF (fun x u t H1 locs1 ht hvm hw hB hz1 hk1 hS1 => ?_)
  obtain ⟨hP1, hD1⟩ := hB
  rw [ht] at hP1
  exact kk u H1 locs1 (g_join isC pl hP hD hC (h2 u) hno hk1 hP1) (g_joinD isC pl hP hD hC (h2 u) hno hnd hF hD1) hS1
end GCA
