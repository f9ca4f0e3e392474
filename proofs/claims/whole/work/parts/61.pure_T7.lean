/-! the order of the blocks of a scan -/
def laidOK (w hi n s : Nat) (L : List (Nat × Nat)) (laid : Int32) (ow pl : Nat → Int32) : Prop := laid = zI (L.length : Nat) ∧ ∀ (i : Nat) (p : Nat × Nat), L[i]? = some p → ow i = zI (p.1 : Nat) ∧ pl i = zI (64 * (jzT w hi n s p.1 + p.2) : Nat)
theorem laidOK_add {w hi n s : Nat} {L : List (Nat × Nat)} {laid : Int32} {ow pl : Nat → Int32} (h : laidOK w hi n s L laid ow pl) (c b : Nat) : laidOK w hi n s (L ++ [(c, b)]) (zI ((L.length : Nat) : Int) + 1) (upd ow L.length (zI c)) (upd pl L.length (zI (64 * (jzT w hi n s c + b) : Nat))) := by
  refine ⟨?_, fun i p hp => ?_⟩
  · rw [List.length_append, zI_lit, zI_add]; rfl
  · by_cases e : i = L.length
    · subst e
      rw [List.getElem?_append_right (Nat.le_refl _), Nat.sub_self] at hp
      obtain rfl : (c, b) = p := Option.some.inj hp
      rw [pk_us, pk_us]
      exact ⟨rfl, rfl⟩
    · rw [pk_un e, pk_un e]
      have hl : i < (L ++ [(c, b)]).length := (List.getElem?_eq_some_iff.mp hp).1
      rw [List.length_append] at hl
      rw [List.getElem?_append_left (by simp at hl; omega)] at hp
      exact h.2 i p hp
def rowL (c A y l k : Nat) : List (Nat × Nat) := (List.range k).map fun j => (c, y * A + (l + j))
theorem rowL_1 (c A y l k : Nat) : rowL c A y l (k + 1) = rowL c A y l k ++ [(c, y * A + (l + k))] := by
  unfold rowL
  rw [List.range_succ, List.map_append]
  rfl
theorem rowL_len (c A y l k : Nat) : (rowL c A y l k).length = k := by unfold rowL; simp
def rowsL (c A l t k h : Nat) : List (Nat × Nat) := (List.range h).flatMap fun i => rowL c A (t + i) l k
theorem rowsL_1 (c A l t k h : Nat) : rowsL c A l t k (h + 1) = rowsL c A l t k h ++ rowL c A (t + h) l k := by
  unfold rowsL
  rw [List.range_succ, List.flatMap_append]
  simp
theorem rowsL_len (c A l t k h : Nat) : (rowsL c A l t k h).length = h * k := by
  induction h with
  | zero => simp [rowsL]
  | succ h ih => rw [rowsL_1, List.length_append, ih, rowL_len, Nat.add_mul]; omega
theorem q_layRow (N : Nat) (hN : 1000 ≤ N) {w hi n s : Nat} {h v ac dn oa od st : Nat → Int32} (hF : okF w hi n s) (hf : isFr w hi n s n h v ac dn oa od st) (c y l k : Nat) (hc : c < n) (hy : y < jzD hi n s c) (hk : l + k ≤ jzA w n s c) (L : List (Nat × Nat)) (hL : L.length + k ≤ 192) {laid : Int32} {ow pl : Nat → Int32} (hO : laidOK w hi n s L laid ow pl) :
    ∃ z, f_Course_layRows_L15 (zI l) (zI k) (zI c) (zI y) ac (zI n) dn st N N (zI l, laid, ow, pl) = some z ∧ laidOK w hi n s (L ++ rowL c (jzA w n s c) y l k) z.1 z.2.1 z.2.2 := by
  have hn4 := hF.2.2.1
  have hT := jzT_192 hF hc
  have f3 : ac c = zI (jzA w n s c : Nat) := (hf c hc).2.2.1
  have hA : jzA w n s c ≤ 16 := by
    have a := jzU_rng w s n hF.1.1 hF.1.2
    have b := jzH_rng s c
    have : jzH s c * jzU w s n ≤ 2 * 8 := Nat.mul_le_mul b.2 a.2
    exact this
  refine it_cnt (P := fun j (a : Int32 × Int32 × (Nat → Int32) × (Nat → Int32)) => a.1 = zI (l + j : Nat) ∧ laidOK w hi n s (L ++ rowL c (jzA w n s c) y l j) a.2.1 a.2.2.1 a.2.2.2) (R := fun (z : Int32 × (Nat → Int32) × (Nat → Int32)) => laidOK w hi n s (L ++ rowL c (jzA w n s c) y l k) z.1 z.2.1 z.2.2) k ?_ ?_ N 0 _ ⟨rfl, by simpa [rowL] using hO⟩ (by omega) (by omega)
  · rintro g j ⟨x, la, o, p⟩ hj ⟨q1, q2⟩ ih
    dsimp only at q1 q2
    subst q1
    have hla : (L ++ rowL c (jzA w n s c) y l j).length = L.length + j := by rw [List.length_append, rowL_len]
    have q3 := q2.1
    rw [hla] at q3
    subst q3
    unfold f_Course_layRows_L15b f_Course_layRows_J15_97
    dsimp only
    have m1 : (y + 1) * jzA w n s c ≤ jzD hi n s c * jzA w n s c := Nat.mul_le_mul_right _ hy
    rw [Nat.add_mul, Nat.mul_comm (jzD hi n s c)] at m1
    have e1 : zI (y : Int) * zI ((jzA w n s c : Nat) : Int) + zI ((l + j : Nat) : Int) = zI ((y * jzA w n s c + (l + j) : Nat) : Int) := by
      rw [zI_mul, zI_add]; rfl
    have hB : (y * jzA w n s c + (l + j) : Nat) < jzA w n s c * jzD hi n s c := by omega
    generalize hb : y * jzA w n s c + (l + j) = b at e1 hB
    have pl1 : f_Picture_placeOf (zI c) (zI b) (0 : Int32) (zI n) ac dn st = some (zI (64 * (jzT w hi n s c + b) : Nat)) := by
      rcases q_place hF hf c b 0 (by omega) (by omega) (by omega) with ⟨a1, a2⟩ | ⟨a1, a2⟩
      · rw [zI_lit]
        show f_Picture_placeOf (zI c) (zI b) (zI 0) (zI n) ac dn st = _
        rw [a2, Int.toNat_natCast]
        congr 2
      · exact absurd ⟨by omega, by omega, by omega, by omega, by omega, by rw [Int.toNat_natCast]; omega⟩ a1
    have g1 : (zI ((c : Nat) : Int)).toNatClampNeg = c := by rw [zI_cl (by omega) (by omega), Int.toNat_natCast]
    rw [g1, f3, e1, pl1]
    simp (disch := omega) only [zI_lit, zI_ofNat, zI_nI, zI_neg, zI_add, zI_sub, zI_mul, zI_lt, zI_le, zI_eq, zI_cl, zI_div, zI_shr, zI_shl, zI_and1, zI_and7, zI_and15, zI_and255, if_pos, if_neg, Option.bind_some, Option.bind_none, if_true, if_false, true_or, or_true, Int.toNat_natCast, pk_us]
    have := ih (zI ((l + j + 1 : Nat) : Int), zI ((L.length + j : Nat) : Int) + 1, upd o (L.length + j) (zI c), upd p (L.length + j) (zI (64 * (jzT w hi n s c + b) : Nat))) ⟨rfl, by
      rw [rowL_1, ← List.append_assoc, hb]
      have := laidOK_add q2 c b
      rw [hla] at this
      exact this⟩
    rw [zI_lit, zI_add] at this
    exact this
  · rintro g ⟨x, la, o, p⟩ ⟨q1, q2⟩
    dsimp only at q1 q2
    subst q1
    unfold f_Course_layRows_L15b
    simp (disch := omega) only [zI_lit, zI_ofNat, zI_nI, zI_neg, zI_add, zI_sub, zI_mul, zI_lt, zI_le, zI_eq, zI_cl, zI_div, zI_shr, zI_shl, zI_and1, zI_and7, zI_and15, zI_and255, if_pos, if_neg, Option.bind_some, Option.bind_none, if_true, if_false, true_or, or_true, Int.toNat_natCast, pk_us]
    exact ⟨_, rfl, q2⟩
theorem q_layRows (N : Nat) (hN : 1000 ≤ N) {w hi n s : Nat} {h v ac dn oa od st : Nat → Int32} (hF : okF w hi n s) (hf : isFr w hi n s n h v ac dn oa od st) (c l t k m : Nat) (hc : c < n) (hy : t + m ≤ jzD hi n s c) (hk : l + k ≤ jzA w n s c) (L : List (Nat × Nat)) (hL : L.length + m * k ≤ 192) {laid : Int32} {ow pl : Nat → Int32} (hO : laidOK w hi n s L laid ow pl) :
    ∃ z, f_Course_layRows N (zI c) (zI l) (zI t) (zI k) (zI m) (zI n) ac dn st laid ow pl = some z ∧ laidOK w hi n s (L ++ rowsL c (jzA w n s c) l t k m) z.1 z.2.1 z.2.2 := by
  have hD : jzD hi n s c ≤ 16 := by
    have a := jzU_rng hi (s / 2) n hF.2.1.1 hF.2.1.2
    have b := jzH_rng (s / 2) c
    have : jzH (s / 2) c * jzU hi (s / 2) n ≤ 2 * 8 := Nat.mul_le_mul b.2 a.2
    exact this
  have hl : ∃ z, f_Course_layRows_L3 (zI t) (zI m) (zI l) (zI k) (zI c) ac (zI n) dn st N N (zI t, laid, ow, pl) = some z ∧ laidOK w hi n s (L ++ rowsL c (jzA w n s c) l t k m) z.1 z.2.1 z.2.2 := by
    refine it_cnt (P := fun j (a : Int32 × Int32 × (Nat → Int32) × (Nat → Int32)) => a.1 = zI (t + j : Nat) ∧ laidOK w hi n s (L ++ rowsL c (jzA w n s c) l t k j) a.2.1 a.2.2.1 a.2.2.2) (R := fun (z : Int32 × (Nat → Int32) × (Nat → Int32)) => laidOK w hi n s (L ++ rowsL c (jzA w n s c) l t k m) z.1 z.2.1 z.2.2) m ?_ ?_ N 0 _ ⟨rfl, by simpa [rowsL] using hO⟩ (by omega) (by omega)
    · rintro g j ⟨x, la, o, p⟩ hj ⟨q1, q2⟩ ih
      dsimp only at q1 q2
      subst q1
      unfold f_Course_layRows_L3b
      have hla : (L ++ rowsL c (jzA w n s c) l t k j).length = L.length + j * k := by rw [List.length_append, rowsL_len]
      have m1 : (j + 1) * k ≤ m * k := Nat.mul_le_mul_right _ hj
      rw [Nat.add_mul] at m1
      obtain ⟨z, z1, z2⟩ := q_layRow N hN hF hf c (t + j) l k hc (by omega) hk (L ++ rowsL c (jzA w n s c) l t k j) (by rw [hla]; omega) q2
      dsimp only
      rw [z1]
      simp (disch := omega) only [zI_lit, zI_ofNat, zI_nI, zI_neg, zI_add, zI_sub, zI_mul, zI_lt, zI_le, zI_eq, zI_cl, zI_div, zI_shr, zI_shl, zI_and1, zI_and7, zI_and15, zI_and255, if_pos, if_neg, Option.bind_some, Option.bind_none, if_true, if_false, true_or, or_true, Int.toNat_natCast, pk_us]
      exact ih _ ⟨rfl, by rw [rowsL_1, ← List.append_assoc]; exact z2⟩
    · rintro g ⟨x, la, o, p⟩ ⟨q1, q2⟩
      dsimp only at q1 q2
      subst q1
      unfold f_Course_layRows_L3b
      simp (disch := omega) only [zI_lit, zI_ofNat, zI_nI, zI_neg, zI_add, zI_sub, zI_mul, zI_lt, zI_le, zI_eq, zI_cl, zI_div, zI_shr, zI_shl, zI_and1, zI_and7, zI_and15, zI_and255, if_pos, if_neg, Option.bind_some, Option.bind_none, if_true, if_false, true_or, or_true, Int.toNat_natCast, pk_us]
      exact ⟨_, rfl, q2⟩
  obtain ⟨z, z1, z2⟩ := hl
  unfold f_Course_layRows
  rw [z1]
  exact ⟨_, rfl, z2⟩
