/-! tables: words by symbols -/
theorem zI_orN (a b : Nat) (ha : a < 2147483648) (hb : b < 2147483648) : zI (a : Int) ||| zI (b : Int) = zI ((a ||| b : Nat) : Int) := by
  apply Int32.toBitVec_inj.mp
  rw [Int32.toBitVec_or, zI_bv, zI_bv, zI_bv]
  apply BitVec.eq_of_toNat_eq
  rw [BitVec.toNat_or]
  simp only [BitVec.toNat_ofInt]
  have h : ∀ x : Nat, x < 4294967296 → ((x : Int) % ((2 ^ 32 : Nat) : Int)).toNat = x := fun x hx => by omega
  rw [h a (by omega), h b (by omega), h]
  exact Nat.or_lt_two_pow (n := 32) (by omega) (by omega)
theorem zI_or1 (l x : Nat) (hl : l ≤ 16) (hx : x < 2 ^ l) : zI ((2 ^ l : Nat) : Int) ||| zI (x : Int) = zI ((2 ^ l + x : Nat) : Int) := by
  have := pow16 hl
  rw [zI_orN _ _ (by omega) (by omega)]
  congr 2
  have h := Nat.two_pow_add_eq_or_of_lt hx 1
  rw [Nat.mul_one] at h
  exact h.symm
def entC (cn sy : Nat → Nat) (w : Nat → Int32) (q : Nat) : Prop := (∀ l p, l < 16 → jzX cn l ≤ p → p < jzX cn (l + 1) → p < q → w (sy p) = zI (2 ^ (l + 1) + (2 * jzE cn l + (p - jzX cn l)) : Nat)) ∧ ∀ s, s < 256 → (∀ p, p < q → sy p ≠ s) → w s = zI 0
theorem jzX_lev {cn : Nat → Nat} {a b p : Nat} (h1 : jzX cn a ≤ p) (h2 : p < jzX cn (a + 1)) (h3 : jzX cn b ≤ p) (h4 : p < jzX cn (b + 1)) : a = b := by
  rcases Nat.lt_trichotomy a b with h | h | h
  · have := jzX_mono cn (c := a + 1) (d := b) h; omega
  · exact h
  · have := jzX_mono cn (c := b + 1) (d := a) h; omega
theorem entC_1 {cn sy : Nat → Nat} {w : Nat → Int32} {q l sz : Nat} (hT : jzTw sy sz) (h : entC cn sy w q) (hl : l < 16) (h1 : jzX cn l ≤ q) (h2 : q < jzX cn (l + 1)) (h3 : q < sz) : entC cn sy (upd w (sy q) (zI (2 ^ (l + 1) + (2 * jzE cn l + (q - jzX cn l)) : Nat))) (q + 1) := by
  refine ⟨fun l' p a1 a2 a3 a4 => ?_, fun s hs hh => ?_⟩
  · by_cases e : p = q
    · subst e
      rw [pk_us]
      obtain rfl := jzX_lev a2 a3 h1 h2
      rfl
    · rw [pk_un (hT p q (by omega) h3)]
      exact h.1 l' p a1 a2 a3 (by omega)
  · rw [pk_un (fun e => hh q (by omega) e.symm)]
    exact h.2 s hs (fun p hp => hh p (by omega))
def rTbC (cn sy : Nat → Nat) (sz : Nat) (w s f x : Nat → Int32) (e z : Int32) : Prop := z = zI sz ∧ e = zI (jzE cn 16 : Nat) ∧ (∀ l, l < 16 → f (l + 1) = zI (2 * jzE cn l : Nat)) ∧ (∀ l, l < 17 → x (l + 1) = zI (jzX cn l : Nat)) ∧ (∀ i, i < sz → s i = zI (sy i : Nat)) ∧ entC cn sy w sz
theorem q_become (N : Nat) (hN : 1000 ≤ N) {cn sy : Nat → Nat} {sz : Nat} {c s w s0 f x : Nat → Int32} (hc : rCn cn c) (hs : rSy sy sz s) (hT : okT cn sy sz) : ∃ z, f_Table_become N (zI sz) c s w s0 f x = some z ∧ rTbC cn sy sz z.2.2.1 z.2.2.2.1 z.2.2.2.2.1 z.2.2.2.2.2 z.1 z.2.1 := by
  have h256 := hs.1
  obtain ⟨hX, hTw, hFt⟩ := hT
  obtain ⟨w1, w2, w3, -⟩ := q_fillI N 256 (by omega) (by omega) (0 : Int32) w
  unfold f_Table_become
  rw [w2]
  have cz : (zI (sz : Int)).toNatClampNeg = sz := by rw [zI_cl (by omega) (by omega), Int.toNat_natCast]
  have c0 : (0 : Int32).toNatClampNeg = 0 := rfl
  rw [cz, c0]
  generalize hS : va_cpy s s0 0 0 sz = S
  have hS1 : ∀ i, i < sz → S i = zI (sy i : Nat) := by
    intro i hi
    rw [← hS]
    show (if 0 ≤ i ∧ i < 0 + sz then s (0 + (i - 0)) else _) = _
    rw [if_pos (by omega), show 0 + (i - 0) = i by omega]
    exact (hs.2 i hi).2
  have hl : ∃ z, f_Table_become_L40 c (zI sz) S N N ((0 : Int32), (0 : Int32), (1 : Int32), w1, f, x) = some z ∧ z.1 = zI (jzE cn 16 : Nat) ∧ z.2.1 = zI (jzX cn 16 : Nat) ∧ entC cn sy z.2.2.1 (jzX cn 16) ∧ (∀ l, l < 16 → z.2.2.2.1 (l + 1) = zI (2 * jzE cn l : Nat)) ∧ ∀ l, l < 16 → z.2.2.2.2 (l + 1) = zI (jzX cn l : Nat) := by
    refine it_cnt (P := fun k (a : Int32 × Int32 × Int32 × (Nat → Int32) × (Nat → Int32) × (Nat → Int32)) => a.1 = zI (jzE cn k : Nat) ∧ a.2.1 = zI (jzX cn k : Nat) ∧ a.2.2.1 = zI (k + 1 : Nat) ∧ entC cn sy a.2.2.2.1 (jzX cn k) ∧ (∀ l, l < k → a.2.2.2.2.1 (l + 1) = zI (2 * jzE cn l : Nat)) ∧ ∀ l, l < k → a.2.2.2.2.2 (l + 1) = zI (jzX cn l : Nat)) (R := fun (z : Int32 × Int32 × (Nat → Int32) × (Nat → Int32) × (Nat → Int32)) => z.1 = zI (jzE cn 16 : Nat) ∧ z.2.1 = zI (jzX cn 16 : Nat) ∧ entC cn sy z.2.2.1 (jzX cn 16) ∧ (∀ l, l < 16 → z.2.2.2.1 (l + 1) = zI (2 * jzE cn l : Nat)) ∧ ∀ l, l < 16 → z.2.2.2.2 (l + 1) = zI (jzX cn l : Nat)) 16 ?_ ?_ N 0 _ ⟨rfl, rfl, rfl, ⟨fun l p _ _ _ h => absurd h (Nat.not_lt_zero _), fun s hs _ => w3 s hs⟩, fun l h => absurd h (by omega), fun l h => absurd h (by omega)⟩ (by omega) (by omega)
    · rintro g k ⟨a1, a2, a3, aw, af, ax⟩ hk ⟨q1, q2, q3, q4, q5, q6⟩ ih
      dsimp only at q1 q2 q3 q4 q5 q6
      subst q1 q2 q3
      unfold f_Table_become_L40b f_Table_become_J40_119
      obtain ⟨h1, h2⟩ := hc (k + 1) (by omega) (by omega)
      have hE := jzE_le (fun l a b => (hc l a b).1) k (by omega)
      have hp := pow16 (c := k) (by omega)
      have hPE : (2 ^ k - 1) * 255 ≤ 65536 * 255 := Nat.mul_le_mul_right _ (by omega)
      have eX : jzX cn (k + 1) = jzX cn k + cn (k + 1) := rfl
      have eE : jzE cn (k + 1) = 2 * jzE cn k + cn (k + 1) := rfl
      have hF1 := hFt (k + 1) (by omega) (by omega)
      have hXm := jzX_mono cn (c := k + 1) (d := 16) (by omega)
      have g1 : (zI ((k + 1 : Nat) : Int)).toNatClampNeg = k + 1 := by rw [zI_cl (by omega) (by omega), Int.toNat_natCast]
      have e0 : (2 : Int32) * zI ((jzE cn k : Nat) : Int) = zI ((2 * jzE cn k : Nat) : Int) := by rw [zI_lit, zI_mul]; rfl
      have inner : ∃ z, f_Table_become_L70 (zI ((k + 1 : Nat) : Int)) c (zI sz) S N N (zI ((2 * jzE cn k : Nat) : Int), zI ((jzX cn k : Nat) : Int), (0 : Int32), aw) = some z ∧ z.1 = zI (jzE cn (k + 1) : Nat) ∧ z.2.1 = zI (jzX cn (k + 1) : Nat) ∧ entC cn sy z.2.2 (jzX cn (k + 1)) := by
        refine it_cnt (P := fun i (a : Int32 × Int32 × Int32 × (Nat → Int32)) => a.1 = zI (2 * jzE cn k + i : Nat) ∧ a.2.1 = zI (jzX cn k + i : Nat) ∧ a.2.2.1 = zI i ∧ entC cn sy a.2.2.2 (jzX cn k + i)) (R := fun (z : Int32 × Int32 × (Nat → Int32)) => z.1 = zI (jzE cn (k + 1) : Nat) ∧ z.2.1 = zI (jzX cn (k + 1) : Nat) ∧ entC cn sy z.2.2 (jzX cn (k + 1))) (cn (k + 1)) ?_ ?_ N 0 _ ⟨rfl, rfl, rfl, q4⟩ (by omega) (by omega)
        · rintro g i ⟨b1, b2, b3, bw⟩ hi ⟨r1, r2, r3, r4⟩ ih
          dsimp only at r1 r2 r3 r4
          subst r1 r2 r3
          unfold f_Table_become_L70b
          dsimp only
          have hsy := (hs.2 (jzX cn k + i) (by omega)).1
          have g2 : (zI ((jzX cn k + i : Nat) : Int)).toNatClampNeg = jzX cn k + i := by rw [zI_cl (by omega) (by omega), Int.toNat_natCast]
          have g3 : (zI ((sy (jzX cn k + i) : Nat) : Int)).toNatClampNeg = sy (jzX cn k + i) := by rw [zI_cl (by omega) (by omega), Int.toNat_natCast]
          have e1 : ((1 : Int32) <<< (zI ((k + 1 : Nat) : Int) &&& 31)) ||| zI ((2 * jzE cn k + i : Nat) : Int) = zI ((2 ^ (k + 1) + (2 * jzE cn k + i) : Nat) : Int) := by
            rw [← zI_or1 (k + 1) (2 * jzE cn k + i) (by omega) (by omega)]
            congr 1
            rw [zI_lit, zI_lit, zI_shl (by omega) (by omega), Int.toNat_natCast, two_pow_c]
            congr 1
            exact Int.one_mul _
          rw [g1, g2, hS1 _ (by omega), g3, h2, e1]
          have st := entC_1 (q := jzX cn k + i) (l := k) hTw r4 (by omega) (by omega) (by omega) (by omega)
          rw [show jzX cn k + i - jzX cn k = i by omega] at st
          clear e1 hF1 hE hp hPE
          simp (disch := omega) only [zI_lit, zI_ofNat, zI_nI, zI_neg, zI_add, zI_sub, zI_mul, zI_lt, zI_le, zI_eq, zI_cl, zI_div, zI_shr, zI_shl, zI_and1, zI_and7, zI_and15, zI_and255, if_pos, if_neg, Option.bind_some, Option.bind_none, if_true, if_false, true_or, or_true, Int.toNat_natCast, pk_us]
          exact ih _ ⟨rfl, rfl, rfl, st⟩
        · rintro g ⟨b1, b2, b3, bw⟩ ⟨r1, r2, r3, r4⟩
          dsimp only at r1 r2 r3 r4
          subst r1 r2 r3
          unfold f_Table_become_L70b
          dsimp only
          rw [g1, h2]
          simp (disch := omega) only [zI_lit, zI_ofNat, zI_nI, zI_neg, zI_add, zI_sub, zI_mul, zI_lt, zI_le, zI_eq, zI_cl, zI_div, zI_shr, zI_shl, zI_and1, zI_and7, zI_and15, zI_and255, if_pos, if_neg, Option.bind_some, Option.bind_none, if_true, if_false, true_or, or_true, Int.toNat_natCast, pk_us]
          exact ⟨_, rfl, rfl, rfl, r4⟩
      obtain ⟨z, z1, z2, z3, z4⟩ := inner
      dsimp only
      rw [e0, z1, g1]
      have e3 : zI ((k + 1 : Nat) : Int) + (1 : Int32) = zI ((k + 1 + 1 : Nat) : Int) := by rw [zI_lit, zI_add]; rfl
      rw [e3, if_neg (by rw [zI_lit, zI_lt (by decide) (by decide) (by omega) (by omega)]; show ¬ ((16 : Int) < _); omega), if_neg (by rw [zI_lit, zI_lt (by omega) (by omega) (by decide) (by decide)]; show ¬ (_ < (0 : Int) ∨ _); omega), if_neg (by rw [zI_lit, zI_lt (by omega) (by omega) (by decide) (by decide)]; show ¬ (_ < (0 : Int) ∨ _); omega)]
      refine ih _ ⟨z2, z3, rfl, z4, fun l hl => ?_, fun l hl => ?_⟩
      · dsimp only
        by_cases e : l = k
        · subst e; rw [pk_us]
        · rw [pk_un (by omega)]; exact q5 l (by omega)
      · dsimp only
        by_cases e : l = k
        · subst e; rw [pk_us]
        · rw [pk_un (by omega)]; exact q6 l (by omega)
    · rintro g ⟨a1, a2, a3, aw, af, ax⟩ ⟨q1, q2, q3, q4, q5, q6⟩
      dsimp only at q1 q2 q3 q4 q5 q6
      subst q1 q2 q3
      unfold f_Table_become_L40b
      simp (disch := omega) only [zI_lit, zI_ofNat, zI_nI, zI_neg, zI_add, zI_sub, zI_mul, zI_lt, zI_le, zI_eq, zI_cl, zI_div, zI_shr, zI_shl, zI_and1, zI_and7, zI_and15, zI_and255, if_pos, if_neg, Option.bind_some, Option.bind_none, if_true, if_false, true_or, or_true, Int.toNat_natCast, pk_us]
      exact ⟨_, rfl, rfl, rfl, q4, q5, q6⟩
  obtain ⟨z, z1, z2, z3, z4, z5, z6⟩ := hl
  simp only [Option.bind_some]
  rw [z1]
  simp (disch := omega) only [zI_lit, zI_ofNat, zI_nI, zI_neg, zI_add, zI_sub, zI_mul, zI_lt, zI_le, zI_eq, zI_cl, zI_div, zI_shr, zI_shl, zI_and1, zI_and7, zI_and15, zI_and255, if_pos, if_neg, Option.bind_some, Option.bind_none, if_true, if_false, true_or, or_true, Int.toNat_natCast, pk_us]
  refine ⟨_, rfl, rfl, z2, z5, fun l hl => ?_, hS1, ?_⟩
  · dsimp only
    show upd _ 17 _ (l + 1) = _
    by_cases e : l = 16
    · subst e; rw [pk_us, z3]
    · rw [pk_un (by omega)]; exact z6 l (by omega)
  · rw [← hX]; exact z4
def entM (cn sy : Nat → Nat) (t : Nat) (ln cd : Nat → Int32) (q : Nat) : Prop := (∀ l p, l < 16 → jzX cn l ≤ p → p < jzX cn (l + 1) → p < q → ln (256 * t + sy p) = zI (l + 1 : Nat) ∧ cd (256 * t + sy p) = zI (2 * jzE cn l + (p - jzX cn l) : Nat)) ∧ ∀ s, s < 256 → (∀ p, p < q → sy p ≠ s) → ln (256 * t + s) = zI 0
theorem entM_1 {cn sy : Nat → Nat} {ln cd : Nat → Int32} {t q l sz : Nat} (hT : jzTw sy sz) (h : entM cn sy t ln cd q) (hl : l < 16) (h1 : jzX cn l ≤ q) (h2 : q < jzX cn (l + 1)) (h3 : q < sz) : entM cn sy t (upd ln (256 * t + sy q) (zI (l + 1 : Nat))) (upd cd (256 * t + sy q) (zI (2 * jzE cn l + (q - jzX cn l) : Nat))) (q + 1) := by
  refine ⟨fun l' p a1 a2 a3 a4 => ?_, fun s hs hh => ?_⟩
  · by_cases e : p = q
    · subst e
      rw [pk_us, pk_us]
      obtain rfl := jzX_lev a2 a3 h1 h2
      exact ⟨rfl, rfl⟩
    · have := hT p q (by omega) h3
      rw [pk_un (by omega), pk_un (by omega)]
      exact h.1 l' p a1 a2 a3 (by omega)
  · have := hh q (by omega)
    rw [pk_un (by omega)]
    exact h.2 s hs (fun p hp => hh p (by omega))
/-- the reference's make, where it makes a table -/
theorem q_Mmk (N : Nat) (hN : 1000 ≤ N) {cn sy : Nat → Nat} {sz : Nat} {c s ln cd : Nat → Int32} (hc : rCn cn c) (hs : rSy sy sz s) (hT : okT cn sy sz) (t : Nat) (ht : t < 8) :
    ∃ z2 z4, f_M_make_L26 (zI t) N N ((0 : Int32), ln) = some z2 ∧ f_M_make_L59 c (zI t) s N N ((0 : Int32), (0 : Int32), (1 : Int32), z2, cd) = some z4 ∧ entM cn sy t z4.1 z4.2 sz ∧ ∀ i, (i < 256 * t ∨ 256 * t + 256 ≤ i) → z4.1 i = ln i ∧ z4.2 i = cd i := by
  have h256 := hs.1
  obtain ⟨hX, hTw, hFt⟩ := hT
  have hl : ∃ z, f_M_make_L26 (zI t) N N ((0 : Int32), ln) = some z ∧ (∀ i, i < 256 → z (256 * t + i) = zI 0) ∧ ∀ i, (i < 256 * t ∨ 256 * t + 256 ≤ i) → z i = ln i := by
    refine it_cnt (P := fun k (a : Int32 × (Nat → Int32)) => a.1 = zI k ∧ (∀ i, i < k → a.2 (256 * t + i) = zI 0) ∧ ∀ i, (i < 256 * t ∨ 256 * t + 256 ≤ i) → a.2 i = ln i) (R := fun (z : Nat → Int32) => (∀ i, i < 256 → z (256 * t + i) = zI 0) ∧ ∀ i, (i < 256 * t ∨ 256 * t + 256 ≤ i) → z i = ln i) 256 ?_ ?_ N 0 _ ⟨rfl, fun i h => absurd h (by omega), fun i _ => rfl⟩ (by omega) (by omega)
    · rintro g k ⟨a, d⟩ hk ⟨q1, q2, q3⟩ ih
      dsimp only at q1 q2 q3
      subst q1
      unfold f_M_make_L26b
      have e : ((256 : Int) * t + k).toNat = 256 * t + k := by omega
      simp (disch := omega) only [zI_lit, zI_ofNat, zI_nI, zI_neg, zI_add, zI_sub, zI_mul, zI_lt, zI_le, zI_eq, zI_cl, zI_div, zI_shr, zI_shl, zI_and1, zI_and7, zI_and15, zI_and255, if_pos, if_neg, Option.bind_some, Option.bind_none, if_true, if_false, true_or, or_true, Int.toNat_natCast, pk_us]
      rw [e]
      refine ih _ ⟨rfl, fun i hi => ?_, fun i hi => ?_⟩
      · dsimp only
        by_cases e : i = k
        · subst e; rw [pk_us]
        · rw [pk_un (by omega)]; exact q2 i (by omega)
      · dsimp only
        rw [pk_un (by omega)]; exact q3 i hi
    · rintro g ⟨a, d⟩ ⟨q1, q2, q3⟩
      dsimp only at q1 q2 q3
      subst q1
      unfold f_M_make_L26b
      simp (disch := omega) only [zI_lit, zI_ofNat, zI_nI, zI_neg, zI_add, zI_sub, zI_mul, zI_lt, zI_le, zI_eq, zI_cl, zI_div, zI_shr, zI_shl, zI_and1, zI_and7, zI_and15, zI_and255, if_pos, if_neg, Option.bind_some, Option.bind_none, if_true, if_false, true_or, or_true, Int.toNat_natCast, pk_us]
      exact ⟨_, rfl, q2, q3⟩
  obtain ⟨z, y1, y2, y3⟩ := hl
  have hl2 : ∃ z4, f_M_make_L59 c (zI t) s N N ((0 : Int32), (0 : Int32), (1 : Int32), z, cd) = some z4 ∧ entM cn sy t z4.1 z4.2 (jzX cn 16) ∧ ∀ i, (i < 256 * t ∨ 256 * t + 256 ≤ i) → z4.1 i = ln i ∧ z4.2 i = cd i := by
    refine it_cnt (P := fun k (a : Int32 × Int32 × Int32 × (Nat → Int32) × (Nat → Int32)) => a.1 = zI (jzE cn k : Nat) ∧ a.2.1 = zI (jzX cn k : Nat) ∧ a.2.2.1 = zI (k + 1 : Nat) ∧ entM cn sy t a.2.2.2.1 a.2.2.2.2 (jzX cn k) ∧ ∀ i, (i < 256 * t ∨ 256 * t + 256 ≤ i) → a.2.2.2.1 i = ln i ∧ a.2.2.2.2 i = cd i) (R := fun (z4 : (Nat → Int32) × (Nat → Int32)) => entM cn sy t z4.1 z4.2 (jzX cn 16) ∧ ∀ i, (i < 256 * t ∨ 256 * t + 256 ≤ i) → z4.1 i = ln i ∧ z4.2 i = cd i) 16 ?_ ?_ N 0 _ ⟨rfl, rfl, rfl, ⟨fun l p _ _ _ h => absurd h (Nat.not_lt_zero _), fun s hs _ => y2 s hs⟩, fun i hi => ⟨y3 i hi, rfl⟩⟩ (by omega) (by omega)
    · rintro g k ⟨a1, a2, a3, al, ac⟩ hk ⟨q1, q2, q3, q4, q5⟩ ih
      dsimp only at q1 q2 q3 q4 q5
      subst q1 q2 q3
      unfold f_M_make_L59b
      obtain ⟨h1, h2⟩ := hc (k + 1) (by omega) (by omega)
      have eX : jzX cn (k + 1) = jzX cn k + cn (k + 1) := rfl
      have eE : jzE cn (k + 1) = 2 * jzE cn k + cn (k + 1) := rfl
      have hXm := jzX_mono cn (c := k + 1) (d := 16) (by omega)
      have g1 : (zI ((k + 1 : Nat) : Int)).toNatClampNeg = k + 1 := by rw [zI_cl (by omega) (by omega), Int.toNat_natCast]
      have e0 : (2 : Int32) * zI ((jzE cn k : Nat) : Int) = zI ((2 * jzE cn k : Nat) : Int) := by rw [zI_lit, zI_mul]; rfl
      have inner : ∃ z, f_M_make_L73 (zI ((k + 1 : Nat) : Int)) c (zI t) s N N (zI ((2 * jzE cn k : Nat) : Int), zI ((jzX cn k : Nat) : Int), (0 : Int32), al, ac) = some z ∧ z.1 = zI (jzE cn (k + 1) : Nat) ∧ z.2.1 = zI (jzX cn (k + 1) : Nat) ∧ entM cn sy t z.2.2.1 z.2.2.2 (jzX cn (k + 1)) ∧ ∀ i, (i < 256 * t ∨ 256 * t + 256 ≤ i) → z.2.2.1 i = ln i ∧ z.2.2.2 i = cd i := by
        refine it_cnt (P := fun i (a : Int32 × Int32 × Int32 × (Nat → Int32) × (Nat → Int32)) => a.1 = zI (2 * jzE cn k + i : Nat) ∧ a.2.1 = zI (jzX cn k + i : Nat) ∧ a.2.2.1 = zI i ∧ entM cn sy t a.2.2.2.1 a.2.2.2.2 (jzX cn k + i) ∧ ∀ i, (i < 256 * t ∨ 256 * t + 256 ≤ i) → a.2.2.2.1 i = ln i ∧ a.2.2.2.2 i = cd i) (R := fun (z : Int32 × Int32 × (Nat → Int32) × (Nat → Int32)) => z.1 = zI (jzE cn (k + 1) : Nat) ∧ z.2.1 = zI (jzX cn (k + 1) : Nat) ∧ entM cn sy t z.2.2.1 z.2.2.2 (jzX cn (k + 1)) ∧ ∀ i, (i < 256 * t ∨ 256 * t + 256 ≤ i) → z.2.2.1 i = ln i ∧ z.2.2.2 i = cd i) (cn (k + 1)) ?_ ?_ N 0 _ ⟨rfl, rfl, rfl, q4, q5⟩ (by omega) (by omega)
        · rintro g i ⟨b1, b2, b3, bl, bc⟩ hi ⟨r1, r2, r3, r4, r5⟩ ih
          dsimp only at r1 r2 r3 r4 r5
          subst r1 r2 r3
          unfold f_M_make_L73b
          dsimp only
          have hsy := hs.2 (jzX cn k + i) (by omega)
          have hsy1 := hsy.1
          have g2 : (zI ((jzX cn k + i : Nat) : Int)).toNatClampNeg = jzX cn k + i := by rw [zI_cl (by omega) (by omega), Int.toNat_natCast]
          rw [g1, g2, hsy.2, h2]
          have st := entM_1 (q := jzX cn k + i) (l := k) hTw r4 (by omega) (by omega) (by omega) (by omega)
          rw [show jzX cn k + i - jzX cn k = i by omega] at st
          have e : ((256 : Int) * t + (sy (jzX cn k + i) : Nat)).toNat = 256 * t + sy (jzX cn k + i) := by omega
          simp (disch := omega) only [zI_lit, zI_ofNat, zI_nI, zI_neg, zI_add, zI_sub, zI_mul, zI_lt, zI_le, zI_eq, zI_cl, zI_div, zI_shr, zI_shl, zI_and1, zI_and7, zI_and15, zI_and255, if_pos, if_neg, Option.bind_some, Option.bind_none, if_true, if_false, true_or, or_true, Int.toNat_natCast, pk_us]
          rw [e]
          refine ih _ ⟨rfl, rfl, rfl, st, fun j hj => ?_⟩
          dsimp only
          rw [pk_un (by omega), pk_un (by omega)]
          exact r5 j hj
        · rintro g ⟨b1, b2, b3, bl, bc⟩ ⟨r1, r2, r3, r4, r5⟩
          dsimp only at r1 r2 r3 r4 r5
          subst r1 r2 r3
          unfold f_M_make_L73b
          dsimp only
          rw [g1, h2]
          simp (disch := omega) only [zI_lit, zI_ofNat, zI_nI, zI_neg, zI_add, zI_sub, zI_mul, zI_lt, zI_le, zI_eq, zI_cl, zI_div, zI_shr, zI_shl, zI_and1, zI_and7, zI_and15, zI_and255, if_pos, if_neg, Option.bind_some, Option.bind_none, if_true, if_false, true_or, or_true, Int.toNat_natCast, pk_us]
          exact ⟨_, rfl, rfl, rfl, r4, r5⟩
      obtain ⟨z, z1, z2, z3, z4, z5⟩ := inner
      dsimp only
      rw [e0, z1]
      have e3 : zI ((k + 1 : Nat) : Int) + (1 : Int32) = zI ((k + 1 + 1 : Nat) : Int) := by rw [zI_lit, zI_add]; rfl
      rw [e3, if_neg (by rw [zI_lit, zI_lt (by decide) (by decide) (by omega) (by omega)]; show ¬ ((16 : Int) < _); omega)]
      exact ih _ ⟨z2, z3, rfl, z4, z5⟩
    · rintro g ⟨a1, a2, a3, al, ac⟩ ⟨q1, q2, q3, q4, q5⟩
      dsimp only at q1 q2 q3 q4 q5
      subst q1 q2 q3
      unfold f_M_make_L59b
      simp (disch := omega) only [zI_lit, zI_ofNat, zI_nI, zI_neg, zI_add, zI_sub, zI_mul, zI_lt, zI_le, zI_eq, zI_cl, zI_div, zI_shr, zI_shl, zI_and1, zI_and7, zI_and15, zI_and255, if_pos, if_neg, Option.bind_some, Option.bind_none, if_true, if_false, true_or, or_true, Int.toNat_natCast, pk_us]
      exact ⟨_, rfl, q4, q5⟩
  obtain ⟨z4, x1, x2, x3⟩ := hl2
  exact ⟨z, z4, y1, x1, by rw [← hX]; exact x2, x3⟩
