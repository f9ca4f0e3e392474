/-! WRITING: blocks in numbers -/
def lnF (C : Nat → Int) (b : Nat) : Nat → Nat → Int
  | 0, _ => -1
  | j + 1, f => if amt (C (f + j)) b = 1 then ((f + j : Nat) : Int) else lnF C b j f
theorem lnF_is (C : Nat → Int) (b f : Nat) : ∀ j, isLn C b f (f + j) (lnF C b (j + 1) f) := by
  have : ∀ j, (lnF C b j f = -1 ∧ ∀ k, f ≤ k → k < f + j → amt (C k) b ≠ 1) ∨ (∃ x : Nat, lnF C b j f = x ∧ f ≤ x ∧ x < f + j ∧ amt (C x) b = 1 ∧ ∀ k, x < k → k < f + j → amt (C k) b ≠ 1) := by
    intro j
    induction j with
    | zero => exact Or.inl ⟨rfl, fun k h1 h2 => by omega⟩
    | succ j ih =>
      by_cases e : amt (C (f + j)) b = 1
      · refine Or.inr ⟨f + j, ?_, by omega, by omega, e, fun k h1 h2 => by omega⟩
        show (if amt (C (f + j)) b = 1 then _ else _) = _
        rw [if_pos e]
      · have e2 : lnF C b (j + 1) f = lnF C b j f := by
          show (if amt (C (f + j)) b = 1 then _ else _) = _
          rw [if_neg e]
        rw [e2]
        rcases ih with ⟨h1, h2⟩ | ⟨x, h1, h2, h3, h4, h5⟩
        · refine Or.inl ⟨h1, fun k k1 k2 => ?_⟩
          by_cases ek : k = f + j
          · subst ek; exact e
          · exact h2 k k1 (by omega)
        · refine Or.inr ⟨x, h1, h2, by omega, h4, fun k k1 k2 => ?_⟩
          by_cases ek : k = f + j
          · subst ek; exact e
          · exact h5 k k1 (by omega)
  intro j
  rcases this (j + 1) with ⟨h1, h2⟩ | ⟨x, h1, h2, h3, h4, h5⟩
  · exact Or.inl ⟨h1, fun k k1 k2 => h2 k k1 (by omega)⟩
  · exact Or.inr ⟨x, h1, h2, by omega, h4, fun k k1 k2 => h5 k k1 (by omega)⟩
def dirE (C : Nat → Int) (d b : Nat) (p : Int) : List (Nat × Nat × Nat) := (0, d, szN (C 0 / 2 ^ b - p).natAbs) :: evB (if 0 < C 0 / 2 ^ b - p then C 0 / 2 ^ b - p else C 0 / 2 ^ b - p - 1) (szN (C 0 / 2 ^ b - p).natAbs)
def finE (t run : Nat) (held : List Nat) : List (Nat × Nat × Nat) × Nat × List Nat := if run = 32767 ∨ 900 < held.length then (srE t run held, 0, []) else ([], run, held)
/-- a block: what is sent, the prediction behind it, the run behind it -/
def blkE (k f l b : Nat) (C : Nat → Int) (d t : Nat) (p : Int) (run : Nat) (held : List Nat) : List (Nat × Nat × Nat) × Int × Nat × List Nat :=
  if k = 0 then (dirE C d b p ++ ((othE C t b 63 1 0 [] 0).1 ++ if (othE C t b 63 1 0 [] 0).2.2.2 = 0 then [] else [(0, t, 0)]), C 0 / 2 ^ b, run, held)
  else if k = 1 then (dirE C d b p, C 0 / 2 ^ b, run, held)
  else if k = 2 then ([(1, (C 0 / 2 ^ b % 2).toNat, 0)], p, run, held)
  else if k = 3 then
    if (othE C t b (l + 1 - f) f run held 0).2.2.2 = 0 then ((othE C t b (l + 1 - f) f run held 0).1, p, (othE C t b (l + 1 - f) f run held 0).2.1, (othE C t b (l + 1 - f) f run held 0).2.2.1)
    else ((othE C t b (l + 1 - f) f run held 0).1 ++ (finE t ((othE C t b (l + 1 - f) f run held 0).2.1 + 1) (othE C t b (l + 1 - f) f run held 0).2.2.1).1, p, (finE t ((othE C t b (l + 1 - f) f run held 0).2.1 + 1) (othE C t b (l + 1 - f) f run held 0).2.2.1).2)
  else
    let r := refE C t b (lnF C b (l + 1 - f) f) (l + 1 - f) f run held 0 []
    if r.2.2.2.1 = 0 ∧ r.2.2.2.2 = [] then (r.1, p, r.2.1, r.2.2.1)
    else (r.1 ++ (finE t (r.2.1 + 1) (r.2.2.1 ++ r.2.2.2.2)).1, p, (finE t (r.2.1 + 1) (r.2.2.1 ++ r.2.2.2.2)).2)
/-- a run and the bits that it holds, as they can be -/
def okR (run : Nat) (held : List Nat) : Prop := run ≤ 32766 ∧ held.length ≤ 900 ∧ (run = 0 → held = []) ∧ ∀ x, x ∈ held → x < 2
theorem okR_0 : okR 0 [] := ⟨by omega, by simp, fun _ => rfl, fun x hx => by simp at hx⟩
theorem othE_run (C : Nat → Int) (t b : Nat) : ∀ (j k run : Nat) (held : List Nat) (z : Nat), ((othE C t b j k run held z).2.1 = run ∧ (othE C t b j k run held z).2.2.1 = held ∨ (othE C t b j k run held z).2.1 = 0 ∧ (othE C t b j k run held z).2.2.1 = []) ∧ (othE C t b j k run held z).2.2.2 ≤ z + j
  | 0, _, _, _, z => ⟨Or.inl ⟨rfl, rfl⟩, Nat.le_refl _⟩
  | j + 1, k, run, held, z => by
    unfold othE
    by_cases e : amt (C k) b = 0
    · rw [if_pos e]
      obtain ⟨h1, h2⟩ := othE_run C t b j (k + 1) run held (z + 1)
      exact ⟨h1, by omega⟩
    · rw [if_neg e]
      obtain ⟨h1, h2⟩ := othE_run C t b j (k + 1) 0 [] 0
      exact ⟨Or.inr (by rcases h1 with h | h <;> exact h), by dsimp only; omega⟩
theorem othE_ok {C : Nat → Int} {t b j k run : Nat} {held : List Nat} {z : Nat} (h : okR run held) : okR (othE C t b j k run held z).2.1 (othE C t b j k run held z).2.2.1 := by
  rcases (othE_run C t b j k run held z).1 with ⟨h1, h2⟩ | ⟨h1, h2⟩
  · rw [h1, h2]; exact h
  · rw [h1, h2]; exact okR_0
theorem zrE_run (t : Nat) : ∀ (q run : Nat) (held com : List Nat), (q = 0 ∧ zrE t q run held com = ([], run, held, com)) ∨ (0 < q ∧ (zrE t q run held com).2 = (0, [], []))
  | 0, _, _, _ => Or.inl ⟨rfl, rfl⟩
  | q + 1, run, held, com => by
    refine Or.inr ⟨by omega, ?_⟩
    show (zrE t q 0 [] []).2 = _
    rcases zrE_run t q 0 [] [] with ⟨rfl, h⟩ | ⟨_, h⟩
    · rw [h]
    · exact h
theorem zrE_ok {t q run : Nat} {held com : List Nat} (h : okR run held) (hc : ∀ x, x ∈ com → x < 2) : okR (zrE t q run held com).2.1 (zrE t q run held com).2.2.1 ∧ (∀ x, x ∈ (zrE t q run held com).2.2.2 → x < 2) ∧ (zrE t q run held com).2.2.2.length ≤ com.length := by
  rcases zrE_run t q run held com with ⟨_, e⟩ | ⟨_, e⟩
  · rw [e]; exact ⟨h, hc, Nat.le_refl _⟩
  · rw [e]; exact ⟨okR_0, fun x hx => by simp at hx, Nat.zero_le _⟩
theorem refE_ok (C : Nat → Int) (t b : Nat) (ln : Int) : ∀ (j k run : Nat) (held : List Nat) (z : Nat) (com : List Nat), okR run held → (∀ x, x ∈ com → x < 2) → okR (refE C t b ln j k run held z com).2.1 (refE C t b ln j k run held z com).2.2.1 ∧ (∀ x, x ∈ (refE C t b ln j k run held z com).2.2.2.2 → x < 2) ∧ (refE C t b ln j k run held z com).2.2.2.2.length ≤ com.length + j ∧ (refE C t b ln j k run held z com).2.2.2.1 ≤ z + j
  | 0, _, run, held, z, com, h, hc => ⟨h, hc, Nat.le_refl _, Nat.le_refl _⟩
  | j + 1, k, run, held, z, com, h, hc => by
    unfold refE
    by_cases e : amt (C k) b = 0
    · rw [if_pos e]
      obtain ⟨a1, a2, a3, a4⟩ := refE_ok C t b ln j (k + 1) run held (z + 1) com h hc
      exact ⟨a1, a2, by omega, by omega⟩
    · rw [if_neg e]
      dsimp only
      obtain ⟨z1, z2, z3⟩ := zrE_ok (t := t) (q := if (k : Int) ≤ ln then z / 16 else 0) h hc
      by_cases e1 : 1 < amt (C k) b
      · rw [if_pos e1]
        obtain ⟨a1, a2, a3, a4⟩ := refE_ok C t b ln j (k + 1) _ _ (z - 16 * (if (k : Int) ≤ ln then z / 16 else 0)) ((zrE t (if (k : Int) ≤ ln then z / 16 else 0) run held com).2.2.2 ++ [amt (C k) b % 2]) z1 (fun x hx => by
          rw [List.mem_append, List.mem_singleton] at hx
          rcases hx with hx | rfl
          · exact z2 x hx
          · omega)
        rw [List.length_append] at a3
        simp only [List.length_cons, List.length_nil] at a3
        exact ⟨a1, a2, by dsimp only; omega, by dsimp only; omega⟩
      · rw [if_neg e1]
        obtain ⟨a1, a2, a3, a4⟩ := refE_ok C t b ln j (k + 1) 0 [] 0 [] okR_0 (fun x hx => by simp at hx)
        simp only [List.length_nil] at a3
        exact ⟨a1, a2, by dsimp only; omega, by dsimp only; omega⟩
theorem finE_ok {t run : Nat} {held : List Nat} (h1 : run ≤ 32767) (h2 : run ≠ 0) (h4 : ∀ x, x ∈ held → x < 2) : okR (finE t run held).2.1 (finE t run held).2.2 := by
  unfold finE
  split
  · exact okR_0
  · exact ⟨by dsimp only; omega, by dsimp only; omega, fun h => absurd h h2, h4⟩
theorem blkE_ok {k f l b : Nat} {C : Nat → Int} {d t : Nat} {p : Int} {run : Nat} {held : List Nat} (h : okR run held) : okR (blkE k f l b C d t p run held).2.2.1 (blkE k f l b C d t p run held).2.2.2 := by
  unfold blkE
  split
  · exact h
  · split
    · exact h
    · split
      · exact h
      · split
        · have ho := othE_ok (C := C) (t := t) (b := b) (j := l + 1 - f) (k := f) (z := 0) h
          split
          · exact ho
          · exact finE_ok (by have := ho.1; omega) (by omega) ho.2.2.2
        · dsimp only
          obtain ⟨a1, a2, a3, a4⟩ := refE_ok C t b (lnF C b (l + 1 - f) f) (l + 1 - f) f run held 0 [] h (fun x hx => by simp at hx)
          split
          · exact a1
          · refine finE_ok (by have := a1.1; omega) (by omega) (fun x hx => ?_)
            rw [List.mem_append] at hx
            rcases hx with hx | hx
            · exact a1.2.2.2 x hx
            · exact a2 x hx
def rHeld (er : Nat → Int32) (held : List Nat) : Prop := ∀ i, i < held.length → er i = zI (held.getD i 0 : Nat)
theorem q_amt (d : Int) (b : Nat) (h0 : -2000 ≤ d) (h1 : d ≤ 2000) (hb : b ≤ 9) : (if 0 ≤ zI d then zI d else 0 - zI d) >>> (zI b &&& 31) = zI (amt d b : Nat) := by
  unfold amt
  by_cases c : 0 ≤ d
  · obtain ⟨a, rfl⟩ := Int.eq_ofNat_of_zero_le c
    simp (disch := omega) only [zI_lit, zI_ofNat, zI_nI, zI_neg, zI_add, zI_sub, zI_mul, zI_lt, zI_le, zI_eq, zI_cl, zI_div, zI_shr, zI_shl, zI_and1, zI_and7, zI_and15, zI_and255, if_pos, if_neg, Option.bind_some, Option.bind_none, if_true, if_false, true_or, or_true, Int.toNat_natCast, pk_us]
    rw [Int.natAbs_natCast, p_shr]
  · obtain ⟨a, rfl⟩ : ∃ a : Nat, d = -(a : Int) := ⟨d.natAbs, by omega⟩
    simp (disch := omega) only [zI_lit, zI_ofNat, zI_nI, zI_neg, zI_add, zI_sub, zI_mul, zI_lt, zI_le, zI_eq, zI_cl, zI_div, zI_shr, zI_shl, zI_and1, zI_and7, zI_and15, zI_and255, if_pos, if_neg, Option.bind_some, Option.bind_none, if_true, if_false, true_or, or_true, Int.toNat_natCast, pk_us]
    rw [Int.natAbs_neg, Int.natAbs_natCast, Int.zero_sub, Int.neg_neg, p_shr]
theorem amt_le {d : Int} {b : Nat} (h0 : -1024 ≤ d) (h1 : d ≤ 1024) : amt d b ≤ 1024 := by
  unfold amt
  have : d.natAbs / 2 ^ b ≤ d.natAbs := Nat.div_le_self _ _
  omega
theorem szN_11 {a : Nat} (h : a ≤ 1024) : szN a ≤ 11 := szN_le (by omega)
theorem srE_0 (t : Nat) (held : List Nat) : srE t 0 held = [] := by unfold srE; rw [if_pos rfl]
