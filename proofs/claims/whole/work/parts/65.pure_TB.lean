/-! tables: the draft in numbers; whether it is a table -/
def zL (z : Int) : Int64 := Int64.ofInt z
theorem zL_toInt {z : Int} (h0 : -9223372036854775808 ≤ z) (h1 : z < 9223372036854775808) : (zL z).toInt = z := Int64.toInt_ofInt_of_le h0 h1
theorem zL_lit (n : Nat) : (no_index (OfNat.ofNat n) : Int64) = zL (OfNat.ofNat n : Int) := rfl
theorem zL_add (a b : Int) : zL a + zL b = zL (a + b) := (Int64.ofInt_add a b).symm
theorem zL_mul (a b : Int) : zL a * zL b = zL (a * b) := (Int64.ofInt_mul a b).symm
theorem zI_L {a : Int} (h0 : -2147483648 ≤ a) (h1 : a < 2147483648) : (zI a).toInt64 = zL a := by
  apply Int64.toInt_inj.mp
  rw [Int32.toInt_toInt64, zI_toInt h0 h1, zL_toInt (by omega) (by omega)]
theorem zL_cmp {a b : Int} (a0 : -9223372036854775808 ≤ a) (a1 : a < 9223372036854775808) (b0 : -9223372036854775808 ≤ b) (b1 : b < 9223372036854775808) : ((0 : Int32) ≤ lg_cmp (zL a) (zL b)) = (b ≤ a) := by
  unfold lg_cmp
  have h1 : (zL a > zL b) = (b < a) := by
    show (zL b < zL a) = _
    rw [Int64.lt_iff_toInt_lt, zL_toInt a0 a1, zL_toInt b0 b1]
  have h2 : (zL a = zL b) = (a = b) := by
    rw [← Int64.toInt_inj, zL_toInt a0 a1, zL_toInt b0 b1]
  by_cases c : b < a
  · rw [if_pos (by rw [h1]; exact c)]
    have : (0 : Int32) ≤ 1 := by decide
    simp [this]; omega
  · rw [if_neg (by rw [h1]; exact c)]
    by_cases c2 : a = b
    · rw [if_pos (by rw [h2]; exact c2)]
      have : (0 : Int32) ≤ 0 := by decide
      simp [this]; omega
    · rw [if_neg (by rw [h2]; exact c2)]
      have : ¬ (0 : Int32) ≤ -1 := by decide
      simp [this]; omega
/-- words so far, as numbers: behind the words of length c; symbols so far -/
def jzE (cn : Nat → Nat) : Nat → Nat
  | 0 => 0
  | c + 1 => 2 * jzE cn c + cn (c + 1)
def jzX (cn : Nat → Nat) : Nat → Nat
  | 0 => 0
  | c + 1 => jzX cn c + cn (c + 1)
def jzFt (cn : Nat → Nat) (c : Nat) : Prop := ∀ l, 1 ≤ l → l ≤ c → jzE cn l < 2 ^ l
def jzTw (sy : Nat → Nat) (c : Nat) : Prop := ∀ i j, i < j → j < c → sy i ≠ sy j
def okT (cn sy : Nat → Nat) (sz : Nat) : Prop := jzX cn 16 = sz ∧ jzTw sy sz ∧ jzFt cn 16
theorem jzX_le {cn : Nat → Nat} {k : Nat} (h : ∀ l, 1 ≤ l → l ≤ k → cn l < 256) : ∀ c, c ≤ k → jzX cn c ≤ c * 255
  | 0, _ => Nat.zero_le _
  | c + 1, hc => by
    have h1 := jzX_le h c (by omega)
    have h2 := h (c + 1) (by omega) hc
    show jzX cn c + cn (c + 1) ≤ _
    omega
theorem jzE_le {cn : Nat → Nat} {k : Nat} (h : ∀ l, 1 ≤ l → l ≤ k → cn l < 256) : ∀ c, c ≤ k → jzE cn c ≤ (2 ^ c - 1) * 255
  | 0, _ => Nat.zero_le _
  | c + 1, hc => by
    have h1 := jzE_le h c (by omega)
    have h2 := h (c + 1) (by omega) hc
    show 2 * jzE cn c + cn (c + 1) ≤ _
    have h3 : 1 ≤ 2 ^ c := Nat.one_le_two_pow
    rw [Nat.pow_succ]
    omega
theorem jzX_mono (cn : Nat → Nat) {c d : Nat} (h : c ≤ d) : jzX cn c ≤ jzX cn d := by
  induction d with
  | zero => obtain rfl : c = 0 := by omega
            exact Nat.le_refl _
  | succ d ih =>
    by_cases e : c = d + 1
    · subst e; exact Nat.le_refl _
    · exact Nat.le_trans (ih (by omega)) (Nat.le_add_right _ _)
theorem pow16 {c : Nat} (h : c ≤ 16) : 2 ^ c ≤ 65536 := Nat.pow_le_pow_right (by omega) h (n := 2)
def rCn (cn : Nat → Nat) (c : Nat → Int32) : Prop := ∀ l, 1 ≤ l → l ≤ 16 → cn l < 256 ∧ c l = zI (cn l : Nat)
def rSy (sy : Nat → Nat) (sz : Nat) (s : Nat → Int32) : Prop := sz ≤ 256 ∧ ∀ i, i < sz → sy i < 256 ∧ s i = zI (sy i : Nat)
theorem q_sum (N : Nat) (hN : 1000 ≤ N) {cn : Nat → Nat} {c : Nat → Int32} (h : rCn cn c) : f_Draft_isTable_L4 c N N ((0 : Int32), (1 : Int32)) = some (zI (jzX cn 16 : Nat)) := by
  have := it_cnt1 (b := fun rec x => f_Draft_isTable_L4b c N rec x.1 x.2) (fun k => (zI (jzX cn k : Nat), zI (k + 1 : Nat))) (zI (jzX cn 16 : Nat)) 16 (fun g k hk hg => by
    unfold f_Draft_isTable_L4b
    have h1 := (h (k + 1) (by omega) (by omega)).2
    simp (disch := omega) only [zI_lit, zI_ofNat, zI_nI, zI_neg, zI_add, zI_sub, zI_mul, zI_lt, zI_le, zI_eq, zI_cl, zI_div, zI_shr, zI_shl, zI_and1, zI_and7, zI_and15, zI_and255, if_pos, if_neg, Option.bind_some, Option.bind_none, if_true, if_false, true_or, or_true, Int.toNat_natCast, pk_us]
    rw [h1, zI_add, ← hg]
    rfl) (fun g => by
    unfold f_Draft_isTable_L4b
    simp (disch := omega) only [zI_lit, zI_ofNat, zI_nI, zI_neg, zI_add, zI_sub, zI_mul, zI_lt, zI_le, zI_eq, zI_cl, zI_div, zI_shr, zI_shl, zI_and1, zI_and7, zI_and15, zI_and255, if_pos, if_neg, Option.bind_some, Option.bind_none, if_true, if_false, true_or, or_true, Int.toNat_natCast, pk_us]) N 0 (by omega) (by omega)
  exact this
theorem q_fitL (N : Nat) (hN : 1000 ≤ N) {cn : Nat → Nat} {c : Nat → Int32} (h : rCn cn c) : ∃ z, f_Draft_wordsFit_L4 c N N ((0 : Int32), (1 : Int32)) = some z ∧ (z = 1 ∧ jzFt cn 16 ∨ z = 0 ∧ ¬ jzFt cn 16) := by
  refine it_cnt (P := fun k (a : Int32 × Int32) => a.1 = zI (jzE cn k : Nat) ∧ a.2 = zI (k + 1 : Nat) ∧ jzFt cn k) (R := fun (z : Nat) => z = 1 ∧ jzFt cn 16 ∨ z = 0 ∧ ¬ jzFt cn 16) 16 ?_ ?_ N 0 _ ⟨rfl, rfl, fun l _ _ => by omega⟩ (by omega) (by omega)
  · rintro g k ⟨a, b⟩ hk ⟨q1, q2, q3⟩ ih
    dsimp only at q1 q2
    subst q1 q2
    unfold f_Draft_wordsFit_L4b f_Draft_wordsFit_J4_43
    obtain ⟨h1, h2⟩ := h (k + 1) (by omega) (by omega)
    have hE := jzE_le (fun l a b => (h l a b).1) k (by omega)
    have hp := pow16 (c := k) (by omega)
    have hp1 : 1 ≤ 2 ^ k := Nat.one_le_two_pow
    have hE0 : jzE cn k < 2 ^ k := by
      by_cases k0 : k = 0
      · subst k0; exact Nat.lt_of_lt_of_le (show jzE cn 0 < 1 from Nat.one_pos) hp1
      · exact q3 k (by omega) (Nat.le_refl _)
    have eE : jzE cn (k + 1) = 2 * jzE cn k + cn (k + 1) := rfl
    have eP : 2 ^ (k + 1) = 2 * 2 ^ k := by rw [Nat.pow_succ]; omega
    dsimp only
    have g1 : (zI ((k + 1 : Nat) : Int)).toNatClampNeg = k + 1 := by rw [zI_cl (by omega) (by omega), Int.toNat_natCast]
    have e0 : (2 : Int32) * zI ((jzE cn k : Nat) : Int) + zI ((cn (k + 1) : Nat) : Int) = zI ((jzE cn (k + 1) : Nat) : Int) := by
      rw [zI_lit, zI_mul, zI_add, eE]; rfl
    have e1 : ((1 : Int32) <<< (zI ((k + 1 : Nat) : Int) &&& 31)) - (1 : Int32) = zI ((2 ^ (k + 1) : Nat) - 1) := by
      rw [zI_lit, zI_lit, zI_shl (by omega) (by omega), zI_sub, Int.toNat_natCast, two_pow_c]
      congr 1
      show (1 : Int) * _ - 1 = _
      rw [Int.one_mul]
    rw [g1, h2, e0, e1]
    have fin : jzE cn (k + 1) < 2 ^ (k + 1) → jzFt cn (k + 1) := fun hh l l1 l2 => by
      by_cases e : l = k + 1
      · subst e; exact hh
      · exact q3 l l1 (by omega)
    have bad : ¬ jzE cn (k + 1) < 2 ^ (k + 1) → ¬ jzFt cn 16 := fun hh H => hh (H (k + 1) (by omega) (by omega))
    clear g1 e0 e1 hE
    generalize jzE cn (k + 1) = E1 at eE fin ih bad ⊢
    generalize 2 ^ (k + 1) = P1 at eP fin ih bad ⊢
    generalize 2 ^ k = P0 at eP hE0 hp hp1
    generalize jzE cn k = E0 at eE hE0
    have ih' : E1 < P1 → ∃ z, g (zI (E1 : Nat), zI ((k + 1 : Nat) : Int) + 1) = some z ∧ (z = 1 ∧ jzFt cn 16 ∨ z = 0 ∧ ¬ jzFt cn 16) := fun hh => ih _ ⟨rfl, by rw [zI_lit, zI_add]; rfl, fin hh⟩
    by_cases z0 : cn (k + 1) = 0
    · have := ih' (by omega)
      rw [zI_lit] at this
      simp (disch := omega) only [zI_lit, zI_ofNat, zI_nI, zI_neg, zI_add, zI_sub, zI_mul, zI_lt, zI_le, zI_eq, zI_cl, zI_div, zI_shr, zI_shl, zI_and1, zI_and7, zI_and15, zI_and255, if_pos, if_neg, Option.bind_some, Option.bind_none, if_true, if_false, true_or, or_true, Int.toNat_natCast, pk_us]
      rw [zI_add] at this
      exact this
    · by_cases z1 : E1 < P1
      · have := ih' z1
        rw [zI_lit] at this
        simp (disch := omega) only [zI_lit, zI_ofNat, zI_nI, zI_neg, zI_add, zI_sub, zI_mul, zI_lt, zI_le, zI_eq, zI_cl, zI_div, zI_shr, zI_shl, zI_and1, zI_and7, zI_and15, zI_and255, if_pos, if_neg, Option.bind_some, Option.bind_none, if_true, if_false, true_or, or_true, Int.toNat_natCast, pk_us]
        rw [zI_add] at this
        exact this
      · simp (disch := omega) only [zI_lit, zI_ofNat, zI_nI, zI_neg, zI_add, zI_sub, zI_mul, zI_lt, zI_le, zI_eq, zI_cl, zI_div, zI_shr, zI_shl, zI_and1, zI_and7, zI_and15, zI_and255, if_pos, if_neg, Option.bind_some, Option.bind_none, if_true, if_false, true_or, or_true, Int.toNat_natCast, pk_us]
        exact ⟨0, rfl, Or.inr ⟨rfl, bad z1⟩⟩
  · rintro g ⟨a, b⟩ ⟨q1, q2, q3⟩
    dsimp only at q1 q2
    subst q1 q2
    unfold f_Draft_wordsFit_L4b
    simp (disch := omega) only [zI_lit, zI_ofNat, zI_nI, zI_neg, zI_add, zI_sub, zI_mul, zI_lt, zI_le, zI_eq, zI_cl, zI_div, zI_shr, zI_shl, zI_and1, zI_and7, zI_and15, zI_and255, if_pos, if_neg, Option.bind_some, Option.bind_none, if_true, if_false, true_or, or_true, Int.toNat_natCast, pk_us]
    exact ⟨1, rfl, Or.inl ⟨rfl, q3⟩⟩
theorem q_fit (N : Nat) (hN : 1000 ≤ N) {cn : Nat → Nat} {c : Nat → Int32} (h : rCn cn c) : (jzFt cn 16 ∧ f_Draft_wordsFit N c = some (zI 1)) ∨ (¬ jzFt cn 16 ∧ f_Draft_wordsFit N c = some (zI 0)) := by
  obtain ⟨z, z1, z2⟩ := q_fitL N hN h
  unfold f_Draft_wordsFit
  rw [z1]
  rcases z2 with ⟨rfl, h2⟩ | ⟨rfl, h2⟩
  · exact Or.inl ⟨h2, rfl⟩
  · exact Or.inr ⟨h2, rfl⟩
theorem q_twins (N : Nat) (hN : 1000 ≤ N) {sy : Nat → Nat} {sz : Nat} {s z : Nat → Int32} (h : rSy sy sz s) : ∃ z', (jzTw sy sz ∧ f_Draft_hasTwins N (zI sz) s z = some (zI 0, z')) ∨ (¬ jzTw sy sz ∧ f_Draft_hasTwins N (zI sz) s z = some (zI 1, z')) := by
  obtain ⟨y, y1, y2⟩ := q_fillB N 256 (by omega) (by omega) z
  have h256 := h.1
  have hl : ∃ x, f_Draft_hasTwins_L10 (zI sz) s N N ((0 : Int32), y) = some x ∧ (x.1 = 1 ∧ jzTw sy sz ∨ x.1 = 0 ∧ ¬ jzTw sy sz) := by
    refine it_cnt (P := fun k (a : Int32 × (Nat → Int32)) => a.1 = zI k ∧ jzTw sy k ∧ ∀ x, x < 256 → (a.2 x = zI 0 ∨ a.2 x = zI 1) ∧ (a.2 x = zI 0 ↔ ∀ j, j < k → sy j ≠ x)) (R := fun (x : Nat × (Nat → Int32)) => x.1 = 1 ∧ jzTw sy sz ∨ x.1 = 0 ∧ ¬ jzTw sy sz) sz ?_ ?_ N 0 _ ⟨rfl, fun i j _ hj => absurd hj (by omega), fun x hx => ⟨Or.inl (y2 x hx), ⟨fun _ j hj => absurd hj (by omega), fun _ => y2 x hx⟩⟩⟩ (by omega) (by omega)
    · rintro g k ⟨a, d⟩ hk ⟨q1, q2, q3⟩ ih
      dsimp only at q1 q3
      subst q1
      obtain ⟨s1, s2⟩ := h.2 k hk
      obtain ⟨t1, t2⟩ := q3 (sy k) s1
      unfold f_Draft_hasTwins_L10b
      dsimp only
      have g1 : (zI ((k : Nat) : Int)).toNatClampNeg = k := by rw [zI_cl (by omega) (by omega), Int.toNat_natCast]
      have g2 : (zI ((sy k : Nat) : Int)).toNatClampNeg = sy k := by rw [zI_cl (by omega) (by omega), Int.toNat_natCast]
      rw [g1, s2, g2]
      rcases t1 with t1 | t1
      · simp (disch := omega) only [zI_lit, zI_ofNat, zI_nI, zI_neg, zI_add, zI_sub, zI_mul, zI_lt, zI_le, zI_eq, zI_cl, zI_div, zI_shr, zI_shl, zI_and1, zI_and7, zI_and15, zI_and255, if_pos, if_neg, Option.bind_some, Option.bind_none, if_true, if_false, true_or, or_true, Int.toNat_natCast, pk_us, t1]
        have nt := t2.mp t1
        refine ih _ ⟨rfl, fun i j hij hj => ?_, fun x hx => ?_⟩
        · by_cases e : j = k
          · subst e; exact nt i hij
          · exact q2 i j hij (by omega)
        · dsimp only
          by_cases e : x = sy k
          · subst e
            rw [pk_us, show vp_nar .byte (zI 1) = zI 1 from rfl]
            refine ⟨Or.inr rfl, ⟨fun h => absurd h (by decide), fun h => absurd rfl (h k (by omega))⟩⟩
          · rw [pk_un e]
            obtain ⟨r1, r2⟩ := q3 x hx
            refine ⟨r1, ⟨fun hh j hj => ?_, fun hh => r2.mpr (fun j hj => hh j (by omega))⟩⟩
            by_cases ej : j = k
            · subst ej; exact fun h => e h.symm
            · exact r2.mp hh j (by omega)
      · simp (disch := omega) only [zI_lit, zI_ofNat, zI_nI, zI_neg, zI_add, zI_sub, zI_mul, zI_lt, zI_le, zI_eq, zI_cl, zI_div, zI_shr, zI_shl, zI_and1, zI_and7, zI_and15, zI_and255, if_pos, if_neg, Option.bind_some, Option.bind_none, if_true, if_false, true_or, or_true, Int.toNat_natCast, pk_us, t1]
        refine ⟨_, rfl, Or.inr ⟨rfl, fun hT => ?_⟩⟩
        have : zI 1 = zI 0 := by rw [← t1]; exact t2.mpr (fun j hj => hT j k hj hk)
        exact absurd this (by decide)
    · rintro g ⟨a, d⟩ ⟨q1, q2, q3⟩
      dsimp only at q1
      subst q1
      unfold f_Draft_hasTwins_L10b
      simp (disch := omega) only [zI_lit, zI_ofNat, zI_nI, zI_neg, zI_add, zI_sub, zI_mul, zI_lt, zI_le, zI_eq, zI_cl, zI_div, zI_shr, zI_shl, zI_and1, zI_and7, zI_and15, zI_and255, if_pos, if_neg, Option.bind_some, Option.bind_none, if_true, if_false, true_or, or_true, Int.toNat_natCast, pk_us]
      exact ⟨_, rfl, Or.inl ⟨rfl, q2⟩⟩
  obtain ⟨x, x1, x2⟩ := hl
  unfold f_Draft_hasTwins
  rw [y1]
  simp only [Option.bind_some]
  rw [x1]
  simp only [Option.bind_some]
  refine ⟨x.2, ?_⟩
  rcases x2 with ⟨e, h2⟩ | ⟨e, h2⟩
  · refine Or.inl ⟨h2, ?_⟩
    rw [e]; rfl
  · refine Or.inr ⟨h2, ?_⟩
    rw [e]; rfl
theorem q_isTable (N : Nat) (hN : 1000 ≤ N) {cn sy : Nat → Nat} {sz : Nat} {c s z : Nat → Int32} (hc : rCn cn c) (hs : rSy sy sz s) : ∃ z', (okT cn sy sz ∧ f_Draft_isTable N (zI sz) c s z = some (zI 1, z')) ∨ (¬ okT cn sy sz ∧ f_Draft_isTable N (zI sz) c s z = some (zI 0, z')) := by
  have h256 := hs.1
  have hX := jzX_le (fun l a b => (hc l a b).1) 16 (Nat.le_refl _)
  unfold f_Draft_isTable
  rw [q_sum N hN hc]
  simp only [Option.bind_some]
  by_cases e : jzX cn 16 = sz
  · rw [if_pos (by rw [e])]
    obtain ⟨z', h1 | h1⟩ := q_twins N hN hs (z := z)
    · refine ⟨z', ?_⟩
      rw [h1.2]
      rcases q_fit N hN hc with h2 | h2
      · refine Or.inl ⟨⟨e, h1.1, h2.1⟩, ?_⟩
        rw [h2.2]; rfl
      · refine Or.inr ⟨fun h => h2.1 h.2.2, ?_⟩
        rw [h2.2]; rfl
    · refine ⟨z', Or.inr ⟨fun h => h1.1 h.2.1, ?_⟩⟩
      rw [h1.2]; rfl
  · refine ⟨z, Or.inr ⟨fun h => e h.1, ?_⟩⟩
    rw [if_neg (by rw [zI_eq (by omega) (by omega) (by omega) (by omega)]; omega)]
    rfl
theorem shl64 : ∀ k : Nat, k ≤ 16 → (1 : Int64) <<< ((zI (k : Int)).toInt64 &&& 63) = zL ((2 ^ k : Nat) : Int) := by decide
theorem q_MisL10 (N : Nat) (hN : 1000 ≤ N) {cn : Nat → Nat} {c : Nat → Int32} (h : rCn cn c) : ∃ z, f_M_isTable_L10 c N N ((0 : Int32), (0 : Int64), (1 : Int32), (1 : Int32)) = some z ∧ z.1 = zI (jzX cn 16 : Nat) ∧ (z.2 = zI 1 ∧ jzFt cn 16 ∨ z.2 = zI 0 ∧ ¬ jzFt cn 16) := by
  refine it_cnt (P := fun k (a : Int32 × Int64 × Int32 × Int32) => a.1 = zI (jzX cn k : Nat) ∧ a.2.1 = zL (jzE cn k : Nat) ∧ a.2.2.2 = zI (k + 1 : Nat) ∧ (a.2.2.1 = zI 1 ∧ jzFt cn k ∨ a.2.2.1 = zI 0 ∧ ¬ jzFt cn k)) (R := fun (z : Int32 × Int32) => z.1 = zI (jzX cn 16 : Nat) ∧ (z.2 = zI 1 ∧ jzFt cn 16 ∨ z.2 = zI 0 ∧ ¬ jzFt cn 16)) 16 ?_ ?_ N 0 _ ⟨rfl, rfl, rfl, Or.inl ⟨rfl, fun l _ _ => by omega⟩⟩ (by omega) (by omega)
  · rintro g k ⟨a, b, d, e⟩ hk ⟨q1, q2, q3, q4⟩ ih
    dsimp only at q1 q2 q3 q4
    subst q1 q2 q3
    unfold f_M_isTable_L10b f_M_isTable_J10_60 f_M_isTable_J10_61
    obtain ⟨h1, h2⟩ := h (k + 1) (by omega) (by omega)
    have hE := jzE_le (fun l a b => (h l a b).1) (k + 1) (by omega)
    have hp := pow16 (c := k + 1) (by omega)
    dsimp only
    have g1 : (zI ((k + 1 : Nat) : Int)).toNatClampNeg = k + 1 := by rw [zI_cl (by omega) (by omega), Int.toNat_natCast]
    have e0 : (2 : Int64) * zL ((jzE cn k : Nat) : Int) + (zI ((cn (k + 1) : Nat) : Int)).toInt64 = zL ((jzE cn (k + 1) : Nat) : Int) := by
      rw [zI_L (by omega) (by omega), zL_lit, zL_mul, zL_add]; rfl
    have e1 : zI ((jzX cn k : Nat) : Int) + zI ((cn (k + 1) : Nat) : Int) = zI ((jzX cn (k + 1) : Nat) : Int) := by
      rw [zI_add]; rfl
    have e2 := shl64 (k + 1) (by omega)
    rw [g1, h2, e0, e1, e2]
    have fin : jzFt cn k → jzE cn (k + 1) < 2 ^ (k + 1) → jzFt cn (k + 1) := fun q hh l l1 l2 => by
      by_cases e : l = k + 1
      · subst e; exact hh
      · exact q l l1 (by omega)
    have bad : ¬ (jzFt cn k ∧ jzE cn (k + 1) < 2 ^ (k + 1)) → ¬ jzFt cn (k + 1) := fun hh H => hh ⟨fun l l1 l2 => H l l1 (by omega), H (k + 1) (by omega) (by omega)⟩
    have hp1 : 1 ≤ 2 ^ (k + 1) := Nat.one_le_two_pow
    have hP : (2 ^ (k + 1) - 1) * 255 ≤ 65536 * 255 := Nat.mul_le_mul_right _ (by omega)
    have cmp : ((0 : Int32) ≤ lg_cmp (zL ((jzE cn (k + 1) : Nat) : Int)) (zL ((2 ^ (k + 1) : Nat) : Int))) = (2 ^ (k + 1) ≤ jzE cn (k + 1)) := by
      rw [zL_cmp (by omega) (by omega) (by omega) (by omega)]
      simp only [Int.ofNat_le]
    simp only [cmp]
    have gi : ¬ (zI ((k + 1 : Nat) : Int) < 0 ∨ 17 ≤ k + 1) := by rw [zI_lit, zI_lt (by omega) (by omega) (by decide) (by decide)]; show ¬ (_ < (0 : Int) ∨ _); omega
    have g16 : ¬ ((16 : Int32) < zI ((k + 1 : Nat) : Int)) := by rw [zI_lit, zI_lt (by decide) (by decide) (by omega) (by omega)]; show ¬ ((16 : Int) < _); omega
    have e3 : zI ((k + 1 : Nat) : Int) + (1 : Int32) = zI ((k + 1 + 1 : Nat) : Int) := by rw [zI_lit, zI_add]; rfl
    rw [if_neg g16, if_neg gi, if_neg gi, e3]
    rcases q4 with ⟨rfl, q4⟩ | ⟨rfl, q4⟩
    · rw [if_neg (show ¬ zI 1 = (0 : Int32) by decide)]
      by_cases z1 : 2 ^ (k + 1) ≤ jzE cn (k + 1)
      · rw [if_pos z1]
        exact ih _ ⟨rfl, rfl, rfl, Or.inr ⟨rfl, bad (fun h => by omega)⟩⟩
      · rw [if_neg z1]
        exact ih _ ⟨rfl, rfl, rfl, Or.inl ⟨rfl, fin q4 (by omega)⟩⟩
    · rw [if_pos (show zI 0 = (0 : Int32) from rfl)]
      exact ih _ ⟨rfl, rfl, rfl, Or.inr ⟨rfl, bad (fun h => q4 h.1)⟩⟩
  · rintro g ⟨a, b, d, e⟩ ⟨q1, q2, q3, q4⟩
    dsimp only at q1 q2 q3 q4
    subst q1 q2 q3
    unfold f_M_isTable_L10b
    simp (disch := omega) only [zI_lit, zI_ofNat, zI_nI, zI_neg, zI_add, zI_sub, zI_mul, zI_lt, zI_le, zI_eq, zI_cl, zI_div, zI_shr, zI_shl, zI_and1, zI_and7, zI_and15, zI_and255, if_pos, if_neg, Option.bind_some, Option.bind_none, if_true, if_false, true_or, or_true, Int.toNat_natCast, pk_us]
    exact ⟨_, rfl, rfl, q4⟩
theorem q_MisL84 (N : Nat) (hN : 1000 ≤ N) {sy : Nat → Nat} {sz : Nat} {s : Nat → Int32} (h : rSy sy sz s) (i : Nat) (hi : i < sz) (x : Int) (hx : x = 0 ∨ x = 1) : ∃ z, f_M_isTable_L84 (zI i) s N N (zI x, (0 : Int32)) = some z ∧ (z = zI 1 ∧ (x = 1 ∧ ∀ j, j < i → sy j ≠ sy i) ∨ z = zI 0 ∧ ¬ (x = 1 ∧ ∀ j, j < i → sy j ≠ sy i)) := by
  have h256 := h.1
  obtain ⟨s1, s2⟩ := h.2 i hi
  refine it_cnt (P := fun k (a : Int32 × Int32) => a.2 = zI k ∧ (a.1 = zI 1 ∧ (x = 1 ∧ ∀ j, j < k → sy j ≠ sy i) ∨ a.1 = zI 0 ∧ ¬ (x = 1 ∧ ∀ j, j < k → sy j ≠ sy i))) (R := fun (z : Int32) => z = zI 1 ∧ (x = 1 ∧ ∀ j, j < i → sy j ≠ sy i) ∨ z = zI 0 ∧ ¬ (x = 1 ∧ ∀ j, j < i → sy j ≠ sy i)) i ?_ ?_ N 0 _ ⟨rfl, ?_⟩ (by omega) (by omega)
  · rintro g k ⟨a, b⟩ hk ⟨q1, q2⟩ ih
    dsimp only at q1 q2
    subst q1
    obtain ⟨r1, r2⟩ := h.2 k (by omega)
    unfold f_M_isTable_L84b f_M_isTable_J84_117 f_M_isTable_J84_118
    dsimp only
    have g1 : (zI ((k : Nat) : Int)).toNatClampNeg = k := by rw [zI_cl (by omega) (by omega), Int.toNat_natCast]
    have g2 : (zI ((i : Nat) : Int)).toNatClampNeg = i := by rw [zI_cl (by omega) (by omega), Int.toNat_natCast]
    rw [g1, g2, s2, r2]
    rcases q2 with ⟨rfl, q2⟩ | ⟨rfl, q2⟩
    · by_cases e : sy i = sy k
      · simp (disch := omega) only [zI_lit, zI_ofNat, zI_nI, zI_neg, zI_add, zI_sub, zI_mul, zI_lt, zI_le, zI_eq, zI_cl, zI_div, zI_shr, zI_shl, zI_and1, zI_and7, zI_and15, zI_and255, if_pos, if_neg, Option.bind_some, Option.bind_none, if_true, if_false, true_or, or_true, Int.toNat_natCast, pk_us]
        refine ih _ ⟨rfl, Or.inr ⟨rfl, fun hh => hh.2 k (by omega) e.symm⟩⟩
      · simp (disch := omega) only [zI_lit, zI_ofNat, zI_nI, zI_neg, zI_add, zI_sub, zI_mul, zI_lt, zI_le, zI_eq, zI_cl, zI_div, zI_shr, zI_shl, zI_and1, zI_and7, zI_and15, zI_and255, if_pos, if_neg, Option.bind_some, Option.bind_none, if_true, if_false, true_or, or_true, Int.toNat_natCast, pk_us]
        refine ih _ ⟨rfl, Or.inl ⟨rfl, q2.1, fun j hj => ?_⟩⟩
        by_cases ej : j = k
        · subst ej; exact fun h => e h.symm
        · exact q2.2 j (by omega)
    · simp (disch := omega) only [zI_lit, zI_ofNat, zI_nI, zI_neg, zI_add, zI_sub, zI_mul, zI_lt, zI_le, zI_eq, zI_cl, zI_div, zI_shr, zI_shl, zI_and1, zI_and7, zI_and15, zI_and255, if_pos, if_neg, Option.bind_some, Option.bind_none, if_true, if_false, true_or, or_true, Int.toNat_natCast, pk_us]
      refine ih _ ⟨rfl, Or.inr ⟨rfl, fun hh => q2 ⟨hh.1, fun j hj => hh.2 j (by omega)⟩⟩⟩
  · rintro g ⟨a, b⟩ ⟨q1, q2⟩
    dsimp only at q1 q2
    subst q1
    unfold f_M_isTable_L84b
    simp (disch := omega) only [zI_lit, zI_ofNat, zI_nI, zI_neg, zI_add, zI_sub, zI_mul, zI_lt, zI_le, zI_eq, zI_cl, zI_div, zI_shr, zI_shl, zI_and1, zI_and7, zI_and15, zI_and255, if_pos, if_neg, Option.bind_some, Option.bind_none, if_true, if_false, true_or, or_true, Int.toNat_natCast, pk_us]
    exact ⟨_, rfl, q2⟩
  · rcases hx with rfl | rfl
    · exact Or.inr ⟨rfl, fun h => absurd h.1 (by decide)⟩
    · exact Or.inl ⟨rfl, rfl, fun j hj => absurd hj (by omega)⟩
theorem q_MisTable (N : Nat) (hN : 1000 ≤ N) {cn sy : Nat → Nat} {sz : Nat} {c s : Nat → Int32} (hc : rCn cn c) (hs : rSy sy sz s) : (okT cn sy sz ∧ f_M_isTable N (zI sz) c s = some (zI 1)) ∨ (¬ okT cn sy sz ∧ f_M_isTable N (zI sz) c s = some (zI 0)) := by
  have h256 := hs.1
  have hX := jzX_le (fun l a b => (hc l a b).1) 16 (Nat.le_refl _)
  obtain ⟨z, z1, z2, z3⟩ := q_MisL10 N hN hc
  have hl : ∃ y, f_M_isTable_L72 (zI sz) s N N (z.2, (0 : Int32)) = some y ∧ (y = zI 1 ∧ (jzFt cn 16 ∧ jzTw sy sz) ∨ y = zI 0 ∧ ¬ (jzFt cn 16 ∧ jzTw sy sz)) := by
    refine it_cnt (P := fun k (a : Int32 × Int32) => a.2 = zI k ∧ (a.1 = zI 1 ∧ (jzFt cn 16 ∧ jzTw sy k) ∨ a.1 = zI 0 ∧ ¬ (jzFt cn 16 ∧ jzTw sy k))) (R := fun (y : Int32) => y = zI 1 ∧ (jzFt cn 16 ∧ jzTw sy sz) ∨ y = zI 0 ∧ ¬ (jzFt cn 16 ∧ jzTw sy sz)) sz ?_ ?_ N 0 _ ⟨rfl, ?_⟩ (by omega) (by omega)
    · rintro g k ⟨a, b⟩ hk ⟨q1, q2⟩ ih
      dsimp only at q1 q2
      subst q1
      unfold f_M_isTable_L72b
      dsimp only
      have hx : ∃ x : Int, (x = 0 ∨ x = 1) ∧ a = zI x ∧ (x = 1 ↔ jzFt cn 16 ∧ jzTw sy k) := by
        rcases q2 with ⟨q, q2⟩ | ⟨q, q2⟩
        · exact ⟨1, Or.inr rfl, q, by simp [q2]⟩
        · exact ⟨0, Or.inl rfl, q, by simp only [q2, iff_false]; decide⟩
      obtain ⟨x, x1, rfl, x3⟩ := hx
      obtain ⟨y, y1, y2⟩ := q_MisL84 N hN hs k hk x x1
      rw [y1]
      simp (disch := omega) only [zI_lit, zI_ofNat, zI_nI, zI_neg, zI_add, zI_sub, zI_mul, zI_lt, zI_le, zI_eq, zI_cl, zI_div, zI_shr, zI_shl, zI_and1, zI_and7, zI_and15, zI_and255, if_pos, if_neg, Option.bind_some, Option.bind_none, if_true, if_false, true_or, or_true, Int.toNat_natCast, pk_us]
      refine ih _ ⟨rfl, ?_⟩
      dsimp only
      rcases y2 with ⟨y2, y3⟩ | ⟨y2, y3⟩
      · refine Or.inl ⟨y2, (x3.mp y3.1).1, fun i j hij hj => ?_⟩
        by_cases e : j = k
        · subst e; exact y3.2 i hij
        · exact (x3.mp y3.1).2 i j hij (by omega)
      · exact Or.inr ⟨y2, fun hh => y3 ⟨x3.mpr ⟨hh.1, fun i j hij hj => hh.2 i j hij (by omega)⟩, fun j hj => hh.2 j k hj (by omega)⟩⟩
    · rintro g ⟨a, b⟩ ⟨q1, q2⟩
      dsimp only at q1 q2
      subst q1
      unfold f_M_isTable_L72b
      simp (disch := omega) only [zI_lit, zI_ofNat, zI_nI, zI_neg, zI_add, zI_sub, zI_mul, zI_lt, zI_le, zI_eq, zI_cl, zI_div, zI_shr, zI_shl, zI_and1, zI_and7, zI_and15, zI_and255, if_pos, if_neg, Option.bind_some, Option.bind_none, if_true, if_false, true_or, or_true, Int.toNat_natCast, pk_us]
      exact ⟨_, rfl, q2⟩
    · have t0 : jzTw sy 0 := fun i j _ hj => absurd hj (by omega)
      rcases z3 with ⟨z3, z4⟩ | ⟨z3, z4⟩
      · exact Or.inl ⟨z3, z4, t0⟩
      · exact Or.inr ⟨z3, fun h => z4 h.1⟩
  obtain ⟨y, y1, y2⟩ := hl
  unfold f_M_isTable
  rw [z1]
  simp only [Option.bind_some]
  rw [y1]
  simp only [Option.bind_some]
  rw [z2]
  rcases y2 with ⟨rfl, y2⟩ | ⟨rfl, y2⟩
  · rw [if_neg (by decide)]
    by_cases e : jzX cn 16 = sz
    · exact Or.inl ⟨⟨e, y2.2, y2.1⟩, by rw [if_pos (by rw [e])]; rfl⟩
    · refine Or.inr ⟨fun h => e h.1, ?_⟩
      rw [if_neg (by rw [zI_eq (by omega) (by omega) (by omega) (by omega)]; omega)]
      rfl
  · exact Or.inr ⟨fun h => y2 ⟨h.2.2, h.2.1⟩, rfl⟩
