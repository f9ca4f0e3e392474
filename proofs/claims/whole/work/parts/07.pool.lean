/-! eight tables, each an object with four arrays: any one of them can be looked at (tb_focus), and handed to a method that leaves it as it is -/
abbrev tb1 (ci : Nat) (cI : ClassId) (ta tw ts tf tx : Nat → Nat) (vw vs vf vx : Nat → Nat → Int32) (ve vz : Nat → Int32) (i : Nat) : va_W :=
  [(ta i, .inr (ci, [.ref (tw i), .ref (ts i), .ref (tf i), .ref (tx i), .int (ve i), .int (vz i)])), (tw i, .inl (cI, 256, .inl (vw i))), (ts i, .inl (cI, 256, .inl (vs i))), (tf i, .inl (cI, 17, .inl (vf i))), (tx i, .inl (cI, 18, .inl (vx i)))]
def tbl (ci : Nat) (cI : ClassId) (ta tw ts tf tx : Nat → Nat) (vw vs vf vx : Nat → Nat → Int32) (ve vz : Nat → Int32) : va_W :=
  tb1 ci cI ta tw ts tf tx vw vs vf vx ve vz 0 ++ (tb1 ci cI ta tw ts tf tx vw vs vf vx ve vz 1 ++ (tb1 ci cI ta tw ts tf tx vw vs vf vx ve vz 2 ++ (tb1 ci cI ta tw ts tf tx vw vs vf vx ve vz 3 ++ (tb1 ci cI ta tw ts tf tx vw vs vf vx ve vz 4 ++ (tb1 ci cI ta tw ts tf tx vw vs vf vx ve vz 5 ++ (tb1 ci cI ta tw ts tf tx vw vs vf vx ve vz 6 ++ tb1 ci cI ta tw ts tf tx vw vs vf vx ve vz 7))))))
theorem tb_at {ci : Nat} {cI : ClassId} {ta tw ts tf tx : Nat → Nat} {vw vs vf vx : Nat → Nat → Int32} {ve vz : Nat → Int32} {i : Nat} (hi : i < 8) : ∀ j, j < 5 → (tbl ci cI ta tw ts tf tx vw vs vf vx ve vz)[5 * i + j]? = (tb1 ci cI ta tw ts tf tx vw vs vf vx ve vz i)[j]? := by
  rcases (show i = 0 ∨ i = 1 ∨ i = 2 ∨ i = 3 ∨ i = 4 ∨ i = 5 ∨ i = 6 ∨ i = 7 by omega) with rfl | rfl | rfl | rfl | rfl | rfl | rfl | rfl <;>
  · intro j hj
    rcases (show j = 0 ∨ j = 1 ∨ j = 2 ∨ j = 3 ∨ j = 4 by omega) with rfl | rfl | rfl | rfl | rfl <;> rfl
theorem tb_lt {ci : Nat} {cI : ClassId} {ta tw ts tf tx : Nat → Nat} {vw vs vf vx : Nat → Nat → Int32} {ve vz : Nat → Int32} {i j : Nat} {q : Nat × va_E} (h : (tb1 ci cI ta tw ts tf tx vw vs vf vx ve vz i)[j]? = some q) : j < 5 := by
  rcases Nat.lt_or_ge j 5 with hj | hj
  · exact hj
  · rw [List.getElem?_eq_none (by simpa using hj)] at h
    cases h
theorem tb_in {ci : Nat} {cI : ClassId} {ta tw ts tf tx : Nat → Nat} {vw vs vf vx : Nat → Nat → Int32} {ve vz : Nat → Int32} {i : Nat} (hi : i < 8) {X : va_W} {k : Nat} {q : Nat × va_E} (h : (X ++ tb1 ci cI ta tw ts tf tx vw vs vf vx ve vz i)[k]? = some q) :
    (X ++ tbl ci cI ta tw ts tf tx vw vs vf vx ve vz)[if k < X.length then k else X.length + 5 * i + (k - X.length)]? = some q := by
  by_cases hk : k < X.length
  · rw [if_pos hk, List.getElem?_append_left hk]
    rw [List.getElem?_append_left hk] at h
    exact h
  · rw [if_neg hk, List.getElem?_append_right (by omega)]
    rw [List.getElem?_append_right (by omega)] at h
    have h5 := tb_lt h
    rw [show X.length + 5 * i + (k - X.length) - X.length = 5 * i + (k - X.length) by omega, tb_at hi _ h5]
    exact h
theorem tb_focus {D : va_G} {cl : List vw_C} {H : Heap} {ci : Nat} {cI : ClassId} {ta tw ts tf tx : Nat → Nat} {vw vs vf vx : Nat → Nat → Int32} {ve vz : Nat → Int32} {i : Nat} {X : va_W} (hP : va_P D cl (X ++ tbl ci cI ta tw ts tf tx vw vs vf vx ve vz) H) (hi : i < 8) : va_P D cl (X ++ tb1 ci cI ta tw ts tf tx vw vs vf vx ve vz i) H :=
  fun k q hk => hP _ q (tb_in hi hk)
theorem tb_focusD {A : Nat → Prop} {ci : Nat} {cI : ClassId} {ta tw ts tf tx : Nat → Nat} {vw vs vf vx : Nat → Nat → Int32} {ve vz : Nat → Int32} {i : Nat} {X : va_W} (hD : va_D A (X ++ tbl ci cI ta tw ts tf tx vw vs vf vx ve vz)) (hi : i < 8) : va_D A (X ++ tb1 ci cI ta tw ts tf tx vw vs vf vx ve vz i) := by
  refine ⟨fun a b p q ha hb e => ?_, fun k q hk => hD.2 _ q (tb_in hi hk)⟩
  have h := hD.1 _ _ p q (tb_in hi ha) (tb_in hi hb) e
  split at h <;> split at h <;> omega
theorem g_joinF {D : va_G} {cl : List vw_C} {A : Nat → Prop} {X P T wc w1 X2 : va_W} {H H1 : Heap} (isC : List Nat) (pl : List (Option Nat)) (hP : va_P D cl (X ++ P) H) (hD : va_D A (X ++ P)) (hT : ∀ (k : Nat) (q : Nat × va_E), (X ++ T)[k]? = some q → ∃ k2 : Nat, (X ++ P)[k2]? = some q) (hPF : va_P D cl (X ++ T) H) (hDF : va_D A (X ++ T)) (hC : isC.map (fun i => (X ++ T)[i]?) = wc.map some)
    (h2 : (X2 ++ T).map some = (pl.zipIdx).map (fun x => match x.1 with | some j => w1[j]? | none => (X ++ T)[x.2]?)) (hno : (pl.zipIdx).all (fun x => x.1.isSome || !isC.contains x.2) = true) (hXX : X.length = X2.length)
    (hk : ∀ q : Nat, q < H.size → ¬ va_A wc H.size q → H1[q]? = H[q]?) (hP1 : va_P D cl w1 H1) : va_P D cl (X2 ++ P) H1 := by
  have hj := g_join isC pl hPF hDF hC h2 hno hk hP1
  intro k q hq
  by_cases hkx : k < X2.length
  · rw [List.getElem?_append_left hkx] at hq
    exact hj k q (by rw [List.getElem?_append_left hkx]; exact hq)
  · rw [List.getElem?_append_right (by omega)] at hq
    have hq2 : (X ++ P)[k]? = some q := by
      rw [List.getElem?_append_right (by omega), hXX]
      exact hq
    by_cases hin : ∃ (a : Nat) (e : va_E), wc[a]? = some (q.1, e)
    · obtain ⟨a, e, ha⟩ := hin
      have h7 : (wc.map some)[a]? = some (some (q.1, e)) := by rw [List.getElem?_map, ha]; rfl
      rw [← hC, List.getElem?_map] at h7
      cases hb : isC[a]? with
      | none => rw [hb] at h7; cases h7
      | some b =>
        rw [hb] at h7
        have h8 : (X ++ T)[b]? = some (q.1, e) := Option.some.inj h7
        obtain ⟨k2, hk2⟩ := hT b _ h8
        have h9 : k2 = k := hD.1 k2 k _ _ hk2 hq2 rfl
        subst h9
        have h10 : (q.1, e) = q := Option.some.inj (hk2.symm.trans hq2)
        rw [h10] at h8
        -- q stands in T as well, behind X
        have hbx : ¬ b < X.length := by
          intro hlt
          have hb2 : (X ++ P)[b]? = some q := by
            rw [List.getElem?_append_left hlt] at h8 ⊢
            exact h8
          have := hD.1 b k2 _ _ hb2 hq2 rfl
          omega
        rw [List.getElem?_append_right (by omega)] at h8
        exact hj b q (by rw [List.getElem?_append_right (by omega), ← hXX]; exact h8)
    · refine (hP k q hq2).kept (hk q.1 (hP k q hq2).lt ?_)
      rintro (⟨a, e, ha⟩ | ha)
      · exact hin ⟨a, e, ha⟩
      · exact absurd (hP k q hq2).lt (Nat.not_lt.mpr ha)
theorem g_adrX {A : Nat → Prop} {X X2 P : va_W} (hD : va_D A (X ++ P)) (h : X2.map (fun q => q.1) = X.map (fun q => q.1)) : va_D A (X2 ++ P) := g_adr hD (by rw [List.map_append, List.map_append, h])
section GCF
variable {p : Program} {l : Launch} {e : Env} {R : Room} {s : State} {m : MethodId} {args : Array Value} {below : List Frame} {meth : Method} {c : Code} {H : Heap} {locs : List Loc} {cells slots mc ms : Nat} {Q : State → Prop} {D : va_G} {tys : List (ClassId × FieldType)} {A : Nat → Prop} {pc : Nat} {ls : Array Slot} {rest st0 : List Value} {a : Array Value}
theorem g_callFi {X X2 wc w1 : va_W} {r : Int32} {ci : Nat} {cI : ClassId} {ta tw ts tf tx : Nat → Nat} {vw vs vf vx : Nat → Nat → Int32} {ve vz : Nat → Int32} {i : Nat} (hi : i < 8) (isC : List Nat) (pl : List (Option Nat)) (hP : va_P D vwCl (X ++ tbl ci cI ta tw ts tf tx vw vs vf vx ve vz) H) (hD : va_D A (X ++ tbl ci cI ta tw ts tf tx vw vs vf vx ve vz)) (hS : va_S A s.heap H locs) (hA : ∀ q, s.heap.size ≤ q → A q) (hC : isC.map (fun k => (X ++ tb1 ci cI ta tw ts tf tx vw vs vf vx ve vz i)[k]?) = wc.map some)
    (h2 : (X2 ++ tb1 ci cI ta tw ts tf tx vw vs vf vx ve vz i).map some = (pl.zipIdx).map (fun x => match x.1 with | some j => w1[j]? | none => (X ++ tb1 ci cI ta tw ts tf tx vw vs vf vx ve vz i)[x.2]?)) (hno : (pl.zipIdx).all (fun x => x.1.isSome || !isC.contains x.2) = true) (hadr : X2.map (fun q => q.1) = X.map (fun q => q.1))
    (run : va_Run p l e R s m args below meth c H locs cells slots mc ms (F0 m pc ls st0) rest (gQi D tys r wc w1 H.size a) (va_A wc H.size))
    (kk : ∀ (H1 : Heap) (locs1 : List Loc), va_P D vwCl (X2 ++ tbl ci cI ta tw ts tf tx vw vs vf vx ve vz) H1 → va_D A (X2 ++ tbl ci cI ta tw ts tf tx vw vs vf vx ve vz) → va_S A s.heap H1 locs1 → W p l e R s m args below meth c H1 locs1 (cells + mc) (slots + ms) Q (F0 m (pc + 3) ls (.int r :: rest))) : W p l e R s m args below meth c H locs cells slots Q (F0 m pc ls st0) := by
  have hDF := tb_focusD hD hi
  have hF := va_free (wc := wc) hDF hS hA isC hC
  refine va_calli run hS (fun q _ h => hF q h) hF (fun r1 u t H1 locs1 ht hvm hw hB hz1 hk1 hS1 => ?_)
  obtain ⟨hP1, hD1⟩ := hB
  rw [ht] at hP1
  have hw : r1 = r := hw
  subst hw
  have hXX : X.length = X2.length := by
    have := congrArg List.length hadr
    simp only [List.length_map] at this
    exact this.symm
  exact kk H1 locs1 (g_joinF isC pl hP hD (fun k q hk => ⟨_, tb_in hi hk⟩) (tb_focus hP hi) hDF hC h2 hno hXX hk1 hP1) (g_adrX hD hadr) hS1
theorem g_callFv {X X2 wc w1 : va_W} {ci : Nat} {cI : ClassId} {ta tw ts tf tx : Nat → Nat} {vw vs vf vx : Nat → Nat → Int32} {ve vz : Nat → Int32} {i : Nat} (hi : i < 8) (isC : List Nat) (pl : List (Option Nat)) (hP : va_P D vwCl (X ++ tbl ci cI ta tw ts tf tx vw vs vf vx ve vz) H) (hD : va_D A (X ++ tbl ci cI ta tw ts tf tx vw vs vf vx ve vz)) (hS : va_S A s.heap H locs) (hA : ∀ q, s.heap.size ≤ q → A q) (hC : isC.map (fun k => (X ++ tb1 ci cI ta tw ts tf tx vw vs vf vx ve vz i)[k]?) = wc.map some)
    (h2 : (X2 ++ tb1 ci cI ta tw ts tf tx vw vs vf vx ve vz i).map some = (pl.zipIdx).map (fun x => match x.1 with | some j => w1[j]? | none => (X ++ tb1 ci cI ta tw ts tf tx vw vs vf vx ve vz i)[x.2]?)) (hno : (pl.zipIdx).all (fun x => x.1.isSome || !isC.contains x.2) = true) (hadr : X2.map (fun q => q.1) = X.map (fun q => q.1))
    (run : va_Run p l e R s m args below meth c H locs cells slots mc ms (F0 m pc ls st0) rest (gQv D tys wc w1 H.size a) (va_A wc H.size))
    (kk : ∀ (H1 : Heap) (locs1 : List Loc), va_P D vwCl (X2 ++ tbl ci cI ta tw ts tf tx vw vs vf vx ve vz) H1 → va_D A (X2 ++ tbl ci cI ta tw ts tf tx vw vs vf vx ve vz) → va_S A s.heap H1 locs1 → W p l e R s m args below meth c H1 locs1 (cells + mc) (slots + ms) Q (F0 m (pc + 3) ls rest)) : W p l e R s m args below meth c H locs cells slots Q (F0 m pc ls st0) := by
  have hDF := tb_focusD hD hi
  have hF := va_free (wc := wc) hDF hS hA isC hC
  refine va_callv run hS (fun q _ h => hF q h) hF (fun u t H1 locs1 ht hvm hw hB hz1 hk1 hS1 => ?_)
  obtain ⟨hP1, hD1⟩ := hB
  rw [ht] at hP1
  have hXX : X.length = X2.length := by
    have := congrArg List.length hadr
    simp only [List.length_map] at this
    exact this.symm
  exact kk H1 locs1 (g_joinF isC pl hP hD (fun k q hk => ⟨_, tb_in hi hk⟩) (tb_focus hP hi) hDF hC h2 hno hXX hk1 hP1) (g_adrX hD hadr) hS1
end GCF
