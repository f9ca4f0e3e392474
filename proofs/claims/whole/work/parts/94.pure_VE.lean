/-! READING: bits, both sides -/
def rDt (D : Nat → Nat) (sz nb : Nat) (sb md : Nat → Int32) : Prop := sz ≤ 16384 ∧ sz ≤ nb ∧ nb ≤ 16384 ∧ ∀ i, i < sz → D i < 256 ∧ (sb i &&& (255 : Int32)) = zI (D i : Nat) ∧ (md i &&& (255 : Int32)) = zI (D i : Nat) ∧ (md i = 0 ↔ D i = 0)
theorem dt_of {len len' : Int32} {nb : Nat} {sb md : Nat → Int32} (h : rData len nb sb len' md) : ∃ D sz, len = zI (sz : Nat) ∧ len' = zI (sz : Nat) ∧ rDt D sz nb sb md := by
  obtain ⟨h1, h2, h3, h4, h5, h6, h7, h8, h9⟩ := h
  refine ⟨fun i => ((md i).toInt % 256).toNat, len.toInt.toNat, ?_, ?_, by omega, by omega, h6, fun i hi => ?_⟩
  · rw [Int.toNat_of_nonneg h2]; exact zI_of _
  · rw [h1, Int.toNat_of_nonneg h2]; exact zI_of _
  · have e := h7 i (by omega)
    have hb := h9 i
    have hr : -128 ≤ (md i).toInt ∧ (md i).toInt ≤ 127 := by
      have k1 : (-128 : Int32).toInt = -128 := by decide
      have k2 : (127 : Int32).toInt = 127 := by decide
      have : (decide ((-128 : Int32) ≤ md i) && decide (md i ≤ (127 : Int32))) = true := hb
      rw [Bool.and_eq_true, decide_eq_true_iff, decide_eq_true_iff, i_le, i_le, k1, k2] at this
      exact this
    rw [e]
    obtain ⟨z, hz⟩ : ∃ z, (md i).toInt = z := ⟨_, rfl⟩
    have hm : md i = zI z := by rw [← hz]; exact zI_of _
    dsimp only
    rw [hz] at hr ⊢
    rw [hm]
    have ea : zI z &&& (255 : Int32) = zI (((z % 256).toNat : Nat) : Int) := by
      rw [zI_lit]
      show zI z &&& zI 255 = _
      rw [zI_and255, Int.toNat_of_nonneg (by omega)]
    refine ⟨by omega, ea, ea, ?_⟩
    rw [zI_lit, zI_eq (by omega) (by omega) (by decide) (by decide)]
    show z = (0 : Int) ↔ _
    omega
/-- one bit: the program's loop body and the reference's take -/
theorem q_one (N : Nat) {D : Nat → Nat} {sz nb : Nat} {sb md : Nat → Int32} (hD : rDt D sz nb sb md) {a p l : Nat} (ha : a ≤ sz) (hp : p < 256) (hl : l ≤ 8) {part taken : Int32} (hpt : l = 0 ∨ part = zI (p : Nat) ∧ taken = zI (p : Nat)) (v i n : Nat) (hv : v < 1000000) (hi : i < n) (hn : n ≤ 32) (g : (Int32 × Int32 × Int32 × Int32 × Int32 × Int32) → Option (Nat × Int32 × Int32 × Int32 × Int32 × Int32)) :
    (∃ f j1 j2 j3 j4 j5 j6, (f = 1 ∨ f = 6) ∧ f_BitReader_takeBits_L4b (zI n) (zI sz) nb sb N g (zI v) (zI i) (zI a) part (zI l) (zI 0) = some (0, zI v, j1, j2, j3, zI (f : Nat)) ∧ f_M_take (zI sz) (zI a) taken (zI l) (zI 0) md = some (zI 0, j4, j5, j6, zI (f : Nat))) ∨
    (∃ b a' p' l', b < 2 ∧ a' ≤ sz ∧ p' < 256 ∧ l' < 8 ∧ f_BitReader_takeBits_L4b (zI n) (zI sz) nb sb N g (zI v) (zI i) (zI a) part (zI l) (zI 0) = g (zI (2 * v + b : Nat), zI (i + 1 : Nat), zI (a' : Nat), zI (p' : Nat), zI (l' : Nat), zI 0) ∧ f_M_take (zI sz) (zI a) taken (zI l) (zI 0) md = some (zI (b : Nat), zI (a' : Nat), zI (p' : Nat), zI (l' : Nat), zI 0)) := by
  obtain ⟨d1, d2, d3, d4⟩ := hD
  have bit : ∀ p' l' : Nat, p' < 256 → 1 ≤ l' → l' ≤ 8 → (zI (p' : Int) >>> ((zI (l' : Int) - (1 : Int32)) &&& 31)) &&& (1 : Int32) = zI ((p' / 2 ^ (l' - 1) % 2 : Nat) : Int) ∧ zI (l' : Int) - (1 : Int32) = zI ((l' - 1 : Nat) : Int) := by
    intro p' l' h1 h2 h3
    have e : zI (l' : Int) - (1 : Int32) = zI ((l' - 1 : Nat) : Int) := by rw [zI_lit, zI_sub]; congr 1; show (l' : Int) - 1 = _; omega
    refine ⟨?_, e⟩
    rw [e]
    exact bit_c p' (l' - 1) h1 (by omega)
  have orv : ∀ b : Nat, b < 2 → (zI (v : Int) <<< ((1 : Int32) &&& 31)) ||| zI (b : Int) = zI ((2 * v + b : Nat) : Int) := by
    intro b hb
    have e : zI (v : Int) <<< ((1 : Int32) &&& 31) = zI ((2 * v : Nat) : Int) := by
      rw [zI_lit, zI_lit]
      show zI (v : Int) <<< (zI 1 &&& zI 31) = _
      rw [zI_shl (by omega) (by omega)]
      congr 1
      show (v : Int) * 2 ^ 1 = _
      omega
    rw [e, zI_orN _ _ (by omega) (by omega)]
    congr 2
    have h := Nat.two_pow_add_eq_or_of_lt (i := 1) (b := b) (by omega) v
    rw [Nat.pow_one] at h
    exact h.symm
  unfold f_BitReader_takeBits_L4b f_BitReader_takeBits_J4_20 f_M_take f_M_take_J34 f_M_take_J94 f_M_take_J101 f_M_take_J121 f_M_take_J131 f_M_wrong f_M_wrong_J16
  rw [if_neg (by rw [leN (by omega) (by omega)]; omega), if_pos (show zI 0 ≤ 0 by decide), suN i]
  have z0 : zI 0 = (0 : Int32) := rfl
  by_cases l0 : l = 0
  · subst l0
    rw [if_pos (show zI ((0 : Nat) : Int) = (0 : Int32) from rfl), if_pos (show zI ((0 : Nat) : Int) = (0 : Int32) from rfl)]
    unfold f_BitReader_openByte
    by_cases e1 : a = sz
    · left
      rw [if_neg (show ¬ zI (a : Int) < zI (sz : Int) by rw [ltN (by omega) (by omega)]; omega), if_pos (show zI (a : Int) = zI (sz : Int) by rw [e1])]
      exact ⟨1, _, _, _, _, _, _, Or.inl rfl, rfl, rfl⟩
    · obtain ⟨k1, k2, k3, k4⟩ := d4 a (by omega)
      unfold f_M_atRestart
      rw [if_pos (show zI (a : Int) < zI (sz : Int) by rw [ltN (by omega) (by omega)]; omega), if_neg (show ¬ zI (a : Int) = zI (sz : Int) by rw [eqN (by omega) (by omega)]; exact e1), suN a, clN a (by omega), clN (a + 1) (by omega), k2, k3, if_neg (inN a nb (by omega) (by omega))]
      have ga := inN a 16384 (by omega) (by omega)
      have c255 : zI ((255 : Nat) : Int) = (255 : Int32) := rfl
      have m1a : ((-1 : Int32) < (208 : Int32)) := by decide
      have m1b : ¬ ((-1 : Int32) = 0) := by decide
      have n60 : ¬ ((6 : Int32) = 0) := by decide
      have n10 : ¬ ((1 : Int32) = 0) := by decide
      by_cases e2 : D a = 255
      · have c1 : (255 : Int32) ≤ zI ((255 : Nat) : Int) := by decide
        rw [e2]
        by_cases e3 : sz ≤ a + 1
        · left
          have c2 : zI (sz : Int) ≤ zI ((a + 1 : Nat) : Int) := by rw [leN (by omega) (by omega)]; exact e3
          have c3 : zI ((a + 1 : Nat) : Int) = zI (sz : Int) := by rw [eqN (by omega) (by omega)]; omega
          unfold f_BitReader_openByte_J101 f_BitReader_openByte_J124 f_BitReader_openByte_J134
          simp only [if_pos c1, if_pos c2, if_pos m1a, if_neg m1b, if_neg n60, if_neg ga, if_pos c255, if_pos c3, Option.bind_some, if_pos z0, if_true]
          exact ⟨6, _, _, _, _, _, _, Or.inr rfl, rfl, rfl⟩
        · obtain ⟨n1, n2, n3, n4⟩ := d4 (a + 1) (by omega)
          have gb := inN (a + 1) 16384 (by omega) (by omega)
          have gb' := inN (a + 1) nb (by omega) (by omega)
          have c2 : ¬ zI (sz : Int) ≤ zI ((a + 1 : Nat) : Int) := by rw [leN (by omega) (by omega)]; exact e3
          have c3 : ¬ zI ((a + 1 : Nat) : Int) = zI (sz : Int) := by rw [eqN (by omega) (by omega)]; omega
          unfold f_BitReader_openByte_J101 f_BitReader_openByte_J124 f_BitReader_openByte_J134
          by_cases e4 : D (a + 1) < 208
          · have c4 : zI (D (a + 1) : Int) < (208 : Int32) := by rw [show (208 : Int32) = zI ((208 : Nat) : Int) from rfl, ltN (by omega) (by omega)]; exact e4
            by_cases e5 : D (a + 1) = 0
            · right
              have c5 : zI (D (a + 1) : Int) = 0 := by rw [e5]; rfl
              have c6 := n4.mpr e5
              simp only [if_pos c1, if_neg c2, if_neg gb', n2, n3, if_pos c4, if_pos c5, if_pos c6, if_neg ga, if_neg gb, if_pos c255, if_neg c3, Option.bind_some, if_pos z0, if_true]
              rw [show (8 : Int32) = zI ((8 : Nat) : Int) from rfl, (bit 255 8 (by omega) (by omega) (by omega)).1, (bit 255 8 (by omega) (by omega) (by omega)).2, orv _ (by omega), suN (a + 1)]
              refine ⟨255 / 2 ^ (8 - 1) % 2, a + 1 + 1, 255, 8 - 1, by omega, by omega, by omega, by omega, rfl, ?_⟩
              rw [show zI (a : Int) + (2 : Int32) = zI ((a + 1 + 1 : Nat) : Int) by rw [zI_lit, zI_add]; rfl]
            · left
              have c5 : ¬ zI (D (a + 1) : Int) = 0 := by rw [show (0 : Int32) = zI ((0 : Nat) : Int) from rfl, eqN (by omega) (by omega)]; exact e5
              have c6 : ¬ md (a + 1) = 0 := fun h => e5 (n4.mp h)
              simp only [if_pos c1, if_neg c2, if_neg gb', n2, n3, if_pos c4, if_neg c5, if_neg c6, if_neg ga, if_neg gb, if_pos c255, if_neg c3, Option.bind_some, if_pos z0, if_true, if_neg n60]
              exact ⟨6, _, _, _, _, _, _, Or.inr rfl, rfl, rfl⟩
          · left
            have c4 : ¬ zI (D (a + 1) : Int) < (208 : Int32) := by rw [show (208 : Int32) = zI ((208 : Nat) : Int) from rfl, ltN (by omega) (by omega)]; exact e4
            have c5 : ¬ zI (D (a + 1) : Int) = 0 := by rw [show (0 : Int32) = zI ((0 : Nat) : Int) from rfl, eqN (by omega) (by omega)]; omega
            have c6 : ¬ md (a + 1) = 0 := fun h => by have := n4.mp h; omega
            by_cases e6 : 215 < D (a + 1)
            · have c7 : (215 : Int32) < zI (D (a + 1) : Int) := by rw [show (215 : Int32) = zI ((215 : Nat) : Int) from rfl, ltN (by omega) (by omega)]; exact e6
              simp only [if_pos c1, if_neg c2, if_neg gb', n2, n3, if_neg c4, if_neg c5, if_neg c6, if_pos c7, if_neg ga, if_neg gb, if_pos c255, if_neg c3, Option.bind_some, if_pos z0, if_true, if_neg n60]
              exact ⟨6, _, _, _, _, _, _, Or.inr rfl, rfl, rfl⟩
            · have c7 : ¬ (215 : Int32) < zI (D (a + 1) : Int) := by rw [show (215 : Int32) = zI ((215 : Nat) : Int) from rfl, ltN (by omega) (by omega)]; exact e6
              simp only [if_pos c1, if_neg c2, if_neg gb', n2, n3, if_neg c4, if_neg c5, if_neg c6, if_neg c7, if_neg ga, if_neg gb, if_pos c255, if_neg c3, Option.bind_some, if_pos z0, if_true, if_neg n10]
              exact ⟨1, _, _, _, _, _, _, Or.inl rfl, rfl, rfl⟩
      · right
        have g255 : ¬ zI (D a : Int) = (255 : Int32) := by rw [show (255 : Int32) = zI ((255 : Nat) : Int) from rfl, eqN (by omega) (by omega)]; exact e2
        have c1 : ¬ (255 : Int32) ≤ zI (D a : Int) := by rw [show (255 : Int32) = zI ((255 : Nat) : Int) from rfl, leN (by omega) (by omega)]; omega
        have hb1 := (bit (D a) 8 (by omega) (by omega) (by omega)).1
        have hb2 := (bit (D a) 8 (by omega) (by omega) (by omega)).2
        have h8 : (8 : Int32) = zI ((8 : Nat) : Int) := rfl
        refine ⟨D a / 2 ^ (8 - 1) % 2, a + 1, D a, 8 - 1, Nat.mod_lt _ (by omega), by omega, by omega, by omega, ?_, ?_⟩
        · rw [if_neg c1]
          simp only [Option.bind_some, if_pos z0]
          rw [h8, hb1, hb2, orv _ (Nat.mod_lt _ (by omega))]
        · by_cases e3 : sz ≤ a + 1
          · have c2 : zI (sz : Int) ≤ zI ((a + 1 : Nat) : Int) := by rw [leN (by omega) (by omega)]; exact e3
            simp only [if_pos c2, Option.bind_some, if_neg ga, if_neg g255, if_true]
            rw [h8, hb1, hb2]
          · have c2 : ¬ zI (sz : Int) ≤ zI ((a + 1 : Nat) : Int) := by rw [leN (by omega) (by omega)]; exact e3
            simp only [if_neg c2, Option.bind_some, if_neg ga, if_neg g255, if_true]
            rw [h8, hb1, hb2]
  · right
    obtain ⟨rfl, rfl⟩ := hpt.resolve_left l0
    rw [if_neg (nzN (by omega) (by omega)), if_neg (nzN (by omega) (by omega)), if_pos z0, (bit p l hp (by omega) hl).1, (bit p l hp (by omega) hl).2, orv _ (Nat.mod_lt _ (by omega))]
    exact ⟨p / 2 ^ (l - 1) % 2, a, p, l - 1, Nat.mod_lt _ (by omega), ha, hp, by omega, rfl, rfl⟩
