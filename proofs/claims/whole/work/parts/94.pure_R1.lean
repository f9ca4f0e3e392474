/-! READING: bits, both sides -/
def rDt (D : Nat → Nat) (sz nb : Nat) (sb md : Nat → Int32) : Prop := sz ≤ 16384 ∧ sz ≤ nb ∧ nb ≤ 16384 ∧ ∀ i, i < sz → D i < 256 ∧ (sb i &&& (255 : Int32)) = zI (D i : Nat) ∧ (md i &&& (255 : Int32)) = zI (D i : Nat) ∧ (md i = 0 ↔ D i = 0)
theorem dt_of {len len' : Int32} {nb : Nat} {sb md : Nat → Int32} (h : rData len nb sb len' md) : ∃ D sz, len = zI (sz : Nat) ∧ len' = zI (sz : Nat) ∧ rDt D sz nb sb md := by
  obtain ⟨h1, h2, h3, h4, h5, h6, h7, h8, h9⟩ := h
  refine ⟨fun i => ((md i).toInt % 256).toNat, len.toInt.toNat, ?_, ?_, by omega, by omega, h6, fun i hi => ?_⟩
  · rw [Int.toNat_of_nonneg h2]; exact zI_of _
  · rw [h1, Int.toNat_of_nonneg h2]; exact zI_of _
  · have e := h7 i (by omega)
    have hb := h9 i
    have hr : -128 ≤ (md i).toInt ∧ (md i).toInt ≤ 127 := by
      have k1 : (-128 : Int32).toInt = -128 := by decide
      have k2 : (127 : Int32).toInt = 127 := by decide
      have : (decide ((-128 : Int32) ≤ md i) && decide (md i ≤ (127 : Int32))) = true := hb
      rw [Bool.and_eq_true, decide_eq_true_iff, decide_eq_true_iff, i_le, i_le, k1, k2] at this
      exact this
    rw [e]
    obtain ⟨z, hz⟩ : ∃ z, (md i).toInt = z := ⟨_, rfl⟩
    have hm : md i = zI z := by rw [← hz]; exact zI_of _
    dsimp only
    rw [hz] at hr ⊢
    rw [hm]
    have ea : zI z &&& (255 : Int32) = zI (((z % 256).toNat : Nat) : Int) := by
      rw [zI_lit]
      show zI z &&& zI 255 = _
      rw [zI_and255, Int.toNat_of_nonneg (by omega)]
    refine ⟨by omega, ea, ea, ?_⟩
    rw [zI_lit, zI_eq (by omega) (by omega) (by decide) (by decide)]
    show z = (0 : Int) ↔ _
    omega
/-- one bit: the program's loop body and the reference's take -/
theorem q_one (N : Nat) {D : Nat → Nat} {sz nb : Nat} {sb md : Nat → Int32} (hD : rDt D sz nb sb md) {a p l : Nat} (ha : a ≤ sz) (hp : p < 256) (hl : l ≤ 8) {part taken : Int32} (hpt : l = 0 ∨ part = zI (p : Nat) ∧ taken = zI (p : Nat)) (v i n : Nat) (hv : v < 1000000) (hi : i < n) (hn : n ≤ 32) (g : (Int32 × Int32 × Int32 × Int32 × Int32 × Int32) → Option (Nat × Int32 × Int32 × Int32 × Int32 × Int32)) :
    (∃ f j1 j2 j3 j4 j5 j6, (f = 1 ∨ f = 6) ∧ f_BitReader_takeBits_L4b (zI n) (zI sz) nb sb N g (zI v) (zI i) (zI a) part (zI l) (zI 0) = some (0, zI v, j1, j2, j3, zI (f : Nat)) ∧ f_M_take (zI sz) (zI a) taken (zI l) (zI 0) md = some (zI 0, j4, j5, j6, zI (f : Nat))) ∨
    (∃ b a' p' l', b < 2 ∧ a' ≤ sz ∧ p' < 256 ∧ l' < 8 ∧ f_BitReader_takeBits_L4b (zI n) (zI sz) nb sb N g (zI v) (zI i) (zI a) part (zI l) (zI 0) = g (zI (2 * v + b : Nat), zI (i + 1 : Nat), zI (a' : Nat), zI (p' : Nat), zI (l' : Nat), zI 0) ∧ f_M_take (zI sz) (zI a) taken (zI l) (zI 0) md = some (zI (b : Nat), zI (a' : Nat), zI (p' : Nat), zI (l' : Nat), zI 0)) := by
  obtain ⟨d1, d2, d3, d4⟩ := hD
  have bit : ∀ p' l' : Nat, p' < 256 → 1 ≤ l' → l' ≤ 8 → (zI (p' : Int) >>> ((zI (l' : Int) - (1 : Int32)) &&& 31)) &&& (1 : Int32) = zI ((p' / 2 ^ (l' - 1) % 2 : Nat) : Int) ∧ zI (l' : Int) - (1 : Int32) = zI ((l' - 1 : Nat) : Int) := by
    intro p' l' h1 h2 h3
    have e : zI (l' : Int) - (1 : Int32) = zI ((l' - 1 : Nat) : Int) := by rw [zI_lit, zI_sub]; congr 1; show (l' : Int) - 1 = _; omega
    refine ⟨?_, e⟩
    rw [e]
    exact bit_c p' (l' - 1) h1 (by omega)
  have orv : ∀ b : Nat, b < 2 → (zI (v : Int) <<< ((1 : Int32) &&& 31)) ||| zI (b : Int) = zI ((2 * v + b : Nat) : Int) := by
    intro b hb
    have e : zI (v : Int) <<< ((1 : Int32) &&& 31) = zI ((2 * v : Nat) : Int) := by
      rw [zI_lit, zI_lit]
      show zI (v : Int) <<< (zI 1 &&& zI 31) = _
      rw [zI_shl (by omega) (by omega)]
      congr 1
      show (v : Int) * 2 ^ 1 = _
      omega
    rw [e, zI_orN _ _ (by omega) (by omega)]
    congr 2
    have h := Nat.two_pow_add_eq_or_of_lt (i := 1) (b := b) (by omega) v
    rw [Nat.pow_one] at h
    exact h.symm
  unfold f_BitReader_takeBits_L4b f_BitReader_takeBits_J4_20 f_M_take f_M_take_J34 f_M_take_J94 f_M_take_J101 f_M_take_J121 f_M_take_J131 f_M_wrong f_M_wrong_J16
  rw [if_neg (by rw [leN (by omega) (by omega)]; omega), if_pos (show zI 0 ≤ 0 by decide), suN i]
  have z0 : zI 0 = (0 : Int32) := rfl
  by_cases l0 : l = 0
  · subst l0
    rw [if_pos (show zI ((0 : Nat) : Int) = (0 : Int32) from rfl), if_pos (show zI ((0 : Nat) : Int) = (0 : Int32) from rfl)]
    unfold f_BitReader_openByte
    by_cases e1 : a = sz
    · left
      rw [if_neg (show ¬ zI (a : Int) < zI (sz : Int) by rw [ltN (by omega) (by omega)]; omega), if_pos (show zI (a : Int) = zI (sz : Int) by rw [e1])]
      exact ⟨1, _, _, _, _, _, _, Or.inl rfl, rfl, rfl⟩
    · obtain ⟨k1, k2, k3, k4⟩ := d4 a (by omega)
      unfold f_M_atRestart
      rw [if_pos (show zI (a : Int) < zI (sz : Int) by rw [ltN (by omega) (by omega)]; omega), if_neg (show ¬ zI (a : Int) = zI (sz : Int) by rw [eqN (by omega) (by omega)]; exact e1), suN a, clN a (by omega), clN (a + 1) (by omega), k2, k3, if_neg (inN a nb (by omega) (by omega))]
      have ga := inN a 16384 (by omega) (by omega)
      have c255 : zI ((255 : Nat) : Int) = (255 : Int32) := rfl
      have m1a : ((-1 : Int32) < (208 : Int32)) := by decide
      have m1b : ¬ ((-1 : Int32) = 0) := by decide
      have n60 : ¬ ((6 : Int32) = 0) := by decide
      have n10 : ¬ ((1 : Int32) = 0) := by decide
      by_cases e2 : D a = 255
      · have c1 : (255 : Int32) ≤ zI ((255 : Nat) : Int) := by decide
        rw [e2]
        by_cases e3 : sz ≤ a + 1
        · left
          have c2 : zI (sz : Int) ≤ zI ((a + 1 : Nat) : Int) := by rw [leN (by omega) (by omega)]; exact e3
          have c3 : zI ((a + 1 : Nat) : Int) = zI (sz : Int) := by rw [eqN (by omega) (by omega)]; omega
          unfold f_BitReader_openByte_J101 f_BitReader_openByte_J124 f_BitReader_openByte_J134
          simp only [if_pos c1, if_pos c2, if_pos m1a, if_neg m1b, if_neg n60, if_neg ga, if_pos c255, if_pos c3, Option.bind_some, if_pos z0, if_true]
          exact ⟨6, _, _, _, _, _, _, Or.inr rfl, rfl, rfl⟩
        · obtain ⟨n1, n2, n3, n4⟩ := d4 (a + 1) (by omega)
          have gb := inN (a + 1) 16384 (by omega) (by omega)
          have gb' := inN (a + 1) nb (by omega) (by omega)
          have c2 : ¬ zI (sz : Int) ≤ zI ((a + 1 : Nat) : Int) := by rw [leN (by omega) (by omega)]; exact e3
          have c3 : ¬ zI ((a + 1 : Nat) : Int) = zI (sz : Int) := by rw [eqN (by omega) (by omega)]; omega
          unfold f_BitReader_openByte_J101 f_BitReader_openByte_J124 f_BitReader_openByte_J134
          by_cases e4 : D (a + 1) < 208
          · have c4 : zI (D (a + 1) : Int) < (208 : Int32) := by rw [show (208 : Int32) = zI ((208 : Nat) : Int) from rfl, ltN (by omega) (by omega)]; exact e4
            by_cases e5 : D (a + 1) = 0
            · right
              have c5 : zI (D (a + 1) : Int) = 0 := by rw [e5]; rfl
              have c6 := n4.mpr e5
              simp only [if_pos c1, if_neg c2, if_neg gb', n2, n3, if_pos c4, if_pos c5, if_pos c6, if_neg ga, if_neg gb, if_pos c255, if_neg c3, Option.bind_some, if_pos z0, if_true]
              rw [show (8 : Int32) = zI ((8 : Nat) : Int) from rfl, (bit 255 8 (by omega) (by omega) (by omega)).1, (bit 255 8 (by omega) (by omega) (by omega)).2, orv _ (by omega), suN (a + 1)]
              refine ⟨255 / 2 ^ (8 - 1) % 2, a + 1 + 1, 255, 8 - 1, by omega, by omega, by omega, by omega, rfl, ?_⟩
              rw [show zI (a : Int) + (2 : Int32) = zI ((a + 1 + 1 : Nat) : Int) by rw [zI_lit, zI_add]; rfl]
            · left
              have c5 : ¬ zI (D (a + 1) : Int) = 0 := by rw [show (0 : Int32) = zI ((0 : Nat) : Int) from rfl, eqN (by omega) (by omega)]; exact e5
              have c6 : ¬ md (a + 1) = 0 := fun h => e5 (n4.mp h)
              simp only [if_pos c1, if_neg c2, if_neg gb', n2, n3, if_pos c4, if_neg c5, if_neg c6, if_neg ga, if_neg gb, if_pos c255, if_neg c3, Option.bind_some, if_pos z0, if_true, if_neg n60]
              exact ⟨6, _, _, _, _, _, _, Or.inr rfl, rfl, rfl⟩
          · left
            have c4 : ¬ zI (D (a + 1) : Int) < (208 : Int32) := by rw [show (208 : Int32) = zI ((208 : Nat) : Int) from rfl, ltN (by omega) (by omega)]; exact e4
            have c5 : ¬ zI (D (a + 1) : Int) = 0 := by rw [show (0 : Int32) = zI ((0 : Nat) : Int) from rfl, eqN (by omega) (by omega)]; omega
            have c6 : ¬ md (a + 1) = 0 := fun h => by have := n4.mp h; omega
            by_cases e6 : 215 < D (a + 1)
            · have c7 : (215 : Int32) < zI (D (a + 1) : Int) := by rw [show (215 : Int32) = zI ((215 : Nat) : Int) from rfl, ltN (by omega) (by omega)]; exact e6
              simp only [if_pos c1, if_neg c2, if_neg gb', n2, n3, if_neg c4, if_neg c5, if_neg c6, if_pos c7, if_neg ga, if_neg gb, if_pos c255, if_neg c3, Option.bind_some, if_pos z0, if_true, if_neg n60]
              exact ⟨6, _, _, _, _, _, _, Or.inr rfl, rfl, rfl⟩
            · have c7 : ¬ (215 : Int32) < zI (D (a + 1) : Int) := by rw [show (215 : Int32) = zI ((215 : Nat) : Int) from rfl, ltN (by omega) (by omega)]; exact e6
              simp only [if_pos c1, if_neg c2, if_neg gb', n2, n3, if_neg c4, if_neg c5, if_neg c6, if_neg c7, if_neg ga, if_neg gb, if_pos c255, if_neg c3, Option.bind_some, if_pos z0, if_true, if_neg n10]
              exact ⟨1, _, _, _, _, _, _, Or.inl rfl, rfl, rfl⟩
      · right
        have g255 : ¬ zI (D a : Int) = (255 : Int32) := by rw [show (255 : Int32) = zI ((255 : Nat) : Int) from rfl, eqN (by omega) (by omega)]; exact e2
        have c1 : ¬ (255 : Int32) ≤ zI (D a : Int) := by rw [show (255 : Int32) = zI ((255 : Nat) : Int) from rfl, leN (by omega) (by omega)]; omega
        have hb1 := (bit (D a) 8 (by omega) (by omega) (by omega)).1
        have hb2 := (bit (D a) 8 (by omega) (by omega) (by omega)).2
        have h8 : (8 : Int32) = zI ((8 : Nat) : Int) := rfl
        refine ⟨D a / 2 ^ (8 - 1) % 2, a + 1, D a, 8 - 1, Nat.mod_lt _ (by omega), by omega, by omega, by omega, ?_, ?_⟩
        · rw [if_neg c1]
          simp only [Option.bind_some, if_pos z0]
          rw [h8, hb1, hb2, orv _ (Nat.mod_lt _ (by omega))]
        · by_cases e3 : sz ≤ a + 1
          · have c2 : zI (sz : Int) ≤ zI ((a + 1 : Nat) : Int) := by rw [leN (by omega) (by omega)]; exact e3
            simp only [if_pos c2, Option.bind_some, if_neg ga, if_neg g255, if_true]
            rw [h8, hb1, hb2]
          · have c2 : ¬ zI (sz : Int) ≤ zI ((a + 1 : Nat) : Int) := by rw [leN (by omega) (by omega)]; exact e3
            simp only [if_neg c2, Option.bind_some, if_neg ga, if_neg g255, if_true]
            rw [h8, hb1, hb2]
  · right
    obtain ⟨rfl, rfl⟩ := hpt.resolve_left l0
    rw [if_neg (nzN (by omega) (by omega)), if_neg (nzN (by omega) (by omega)), if_pos z0, (bit p l hp (by omega) hl).1, (bit p l hp (by omega) hl).2, orv _ (Nat.mod_lt _ (by omega))]
    exact ⟨p / 2 ^ (l - 1) % 2, a, p, l - 1, Nat.mod_lt _ (by omega), ha, hp, by omega, rfl, rfl⟩
/-! READING: several bits, words, numbers, both sides -/
def rR (sz : Nat) (at1 part left fl at2 tk left2 fl2 : Int32) : Prop := ∃ a p l : Nat, a ≤ sz ∧ p < 256 ∧ l ≤ 8 ∧ at1 = zI (a : Nat) ∧ at2 = zI (a : Nat) ∧ left = zI (l : Nat) ∧ left2 = zI (l : Nat) ∧ (l = 0 ∨ part = zI (p : Nat) ∧ tk = zI (p : Nat)) ∧ fl = zI 0 ∧ fl2 = zI 0
def rX (fl fl2 : Int32) : Prop := ∃ f : Nat, 1 ≤ f ∧ f ≤ 6 ∧ fl = zI (f : Nat) ∧ fl2 = zI (f : Nat)
theorem rX_nz {fl fl2 : Int32} (h : rX fl fl2) : ¬ fl = 0 ∧ ¬ fl2 = 0 ∧ ¬ fl2 ≤ 0 ∧ ¬ fl ≤ 0 := by
  obtain ⟨f, h1, h2, rfl, rfl⟩ := h
  have a : ¬ zI (f : Int) = 0 := nzN (by omega) (by omega)
  have b : ¬ zI (f : Int) ≤ 0 := by rw [show (0 : Int32) = zI ((0 : Nat) : Int) from rfl, leN (by omega) (by omega)]; omega
  exact ⟨a, a, b, b⟩
theorem rR_z {sz : Nat} {at1 part left fl at2 tk left2 fl2 : Int32} (h : rR sz at1 part left fl at2 tk left2 fl2) : fl = 0 ∧ fl2 = 0 := by
  obtain ⟨a, p, l, _, _, _, _, _, _, _, _, h1, h2⟩ := h
  exact ⟨h1, h2⟩
/-- the reference's take behind a fault -/
theorem q_takeX {size at2 tk left fl : Int32} (h : ¬ fl ≤ 0) (md : Nat → Int32) : f_M_take size at2 tk left fl md = some (zI 0, at2, tk, left, fl) := by
  unfold f_M_take
  rw [if_neg h]
  rfl
theorem q_takesX (N : Nat) {size at2 tk left fl : Int32} (h : ¬ fl ≤ 0) (md : Nat → Int32) (n : Nat) (hn : n ≤ 32) : ∀ (j i fuel : Nat) (v : Int32), i + j = n → j < fuel → ∃ v', f_M_takes_L4 (zI n) size md N fuel (v, zI i, at2, tk, left, fl) = some (v', at2, tk, left, fl)
  | 0, i, fuel, v, hi, hf => by
    obtain ⟨fuel, rfl⟩ : ∃ j, fuel = j + 1 := ⟨fuel - 1, by omega⟩
    refine ⟨v, ?_⟩
    unfold f_M_takes_L4
    rw [it_succ]
    unfold f_M_takes_L4b
    rw [if_pos (by rw [leN (by omega) (by omega)]; omega)]
  | j + 1, i, fuel, v, hi, hf => by
    obtain ⟨fuel, rfl⟩ : ∃ j, fuel = j + 1 := ⟨fuel - 1, by omega⟩
    obtain ⟨v', h'⟩ := q_takesX N (size := size) (at2 := at2) (tk := tk) (left := left) h md n hn j (i + 1) fuel ((2 : Int32) * v + zI 0) (by omega) (by omega)
    refine ⟨v', ?_⟩
    unfold f_M_takes_L4 at h' ⊢
    rw [it_succ]
    show f_M_takes_L4b _ _ _ _ _ _ _ _ _ _ _ = _
    unfold f_M_takes_L4b
    rw [if_neg (by rw [leN (by omega) (by omega)]; omega), q_takeX h]
    dsimp only [Option.bind_some]
    rw [suN i]
    exact h'
theorem q_bitsL (N : Nat) {D : Nat → Nat} {sz nb : Nat} {sb md : Nat → Int32} (hD : rDt D sz nb sb md) (n : Nat) (hn : n ≤ 16) : ∀ (j i fuel fuel' v : Nat) (at1 part left fl at2 tk left2 fl2 : Int32), i + j = n → j < fuel → j < fuel' → v < 2 ^ i → rR sz at1 part left fl at2 tk left2 fl2 →
    (∃ w at3 part3 left3 fl3 v' at4 tk4 left4 fl4, f_BitReader_takeBits_L4 (zI n) (zI sz) nb sb N fuel (zI v, zI i, at1, part, left, fl) = some (0, w, at3, part3, left3, fl3) ∧ f_M_takes_L4 (zI n) (zI sz) md N fuel' (zI v, zI i, at2, tk, left2, fl2) = some (v', at4, tk4, left4, fl4) ∧ rX fl3 fl4) ∨
    (∃ v' at3 part3 left3 fl3 at4 tk4 left4 fl4, v' < 2 ^ n ∧ f_BitReader_takeBits_L4 (zI n) (zI sz) nb sb N fuel (zI v, zI i, at1, part, left, fl) = some (1, zI (v' : Nat), at3, part3, left3, fl3) ∧ f_M_takes_L4 (zI n) (zI sz) md N fuel' (zI v, zI i, at2, tk, left2, fl2) = some (zI (v' : Nat), at4, tk4, left4, fl4) ∧ rR sz at3 part3 left3 fl3 at4 tk4 left4 fl4)
  | 0, i, fuel, fuel', v, at1, part, left, fl, at2, tk, left2, fl2, hi, hf, hf', hv, hR => by
    obtain ⟨fuel, rfl⟩ : ∃ j, fuel = j + 1 := ⟨fuel - 1, by omega⟩
    obtain ⟨fuel', rfl⟩ : ∃ j, fuel' = j + 1 := ⟨fuel' - 1, by omega⟩
    right
    refine ⟨v, at1, part, left, fl, at2, tk, left2, fl2, by rw [← hi]; exact hv, ?_, ?_, hR⟩
    · unfold f_BitReader_takeBits_L4
      rw [it_succ]
      unfold f_BitReader_takeBits_L4b
      rw [if_pos (by rw [leN (by omega) (by omega)]; omega)]
    · unfold f_M_takes_L4
      rw [it_succ]
      unfold f_M_takes_L4b
      rw [if_pos (by rw [leN (by omega) (by omega)]; omega)]
  | j + 1, i, fuel, fuel', v, at1, part, left, fl, at2, tk, left2, fl2, hi, hf, hf', hv, hR => by
    obtain ⟨fuel, rfl⟩ : ∃ j, fuel = j + 1 := ⟨fuel - 1, by omega⟩
    obtain ⟨fuel', rfl⟩ : ∃ j, fuel' = j + 1 := ⟨fuel' - 1, by omega⟩
    have h16 : 2 ^ i ≤ 65536 := pow16 (by omega)
    obtain ⟨a, p, l, r1, r2, r3, rfl, rfl, rfl, rfl, r4, rfl, rfl⟩ := hR
    have eM : f_M_takes_L4 (zI n) (zI sz) md N (fuel' + 1) (zI v, zI i, zI a, tk, zI l, zI 0) = (f_M_take (zI sz) (zI a) tk (zI l) (zI 0) md).bind fun z1 => f_M_takes_L4 (zI n) (zI sz) md N fuel' (((2 : Int32) * zI v) + z1.1, zI (i + 1 : Nat), z1.2.1, z1.2.2.1, z1.2.2.2.1, z1.2.2.2.2) := by
      conv => lhs; unfold f_M_takes_L4
      rw [it_succ]
      show f_M_takes_L4b _ _ _ _ _ _ _ _ _ _ _ = _
      unfold f_M_takes_L4b
      rw [if_neg (by rw [leN (by omega) (by omega)]; omega), suN i]
      rfl
    have eC : f_BitReader_takeBits_L4 (zI n) (zI sz) nb sb N (fuel + 1) (zI v, zI i, zI a, part, zI l, zI 0) = f_BitReader_takeBits_L4b (zI n) (zI sz) nb sb N (f_BitReader_takeBits_L4 (zI n) (zI sz) nb sb N fuel) (zI v) (zI i) (zI a) part (zI l) (zI 0) := by
      conv => lhs; unfold f_BitReader_takeBits_L4
      rw [it_succ]
      rfl
    rw [eM, eC]
    rcases q_one N hD r1 r2 r3 r4 v i n (by omega) (by omega) (by omega) (f_BitReader_takeBits_L4 (zI n) (zI sz) nb sb N fuel) with ⟨f, j1, j2, j3, j4, j5, j6, hf1, h1, h2⟩ | ⟨b, a', p', l', b1, b2, b3, b4, h1, h2⟩
    · left
      have hX : rX (zI (f : Nat)) (zI (f : Nat)) := ⟨f, by omega, by omega, rfl, rfl⟩
      obtain ⟨v', h'⟩ := q_takesX N (size := zI sz) (at2 := j4) (tk := j5) (left := j6) (rX_nz hX).2.2.1 md n (by omega) j (i + 1) fuel' ((2 : Int32) * zI v + zI 0) (by omega) (by omega)
      rw [h1, h2]
      exact ⟨_, _, _, _, _, v', _, _, _, _, rfl, h', hX⟩
    · rw [h1, h2]
      dsimp only [Option.bind_some]
      have e2 : (2 : Int32) * zI (v : Int) + zI (b : Int) = zI ((2 * v + b : Nat) : Int) := by
        rw [zI_lit, zI_mul, zI_add]; rfl
      rw [e2]
      exact q_bitsL N hD n hn j (i + 1) fuel fuel' (2 * v + b) (zI a') (zI p') (zI l') (zI 0) (zI a') (zI p') (zI l') (zI 0) (by omega) (by omega) (by omega) (by rw [Nat.pow_succ]; omega) ⟨a', p', l', b2, b3, by omega, rfl, rfl, rfl, rfl, Or.inr ⟨rfl, rfl⟩, rfl, rfl⟩
/-- several bits -/
theorem q_bits (N : Nat) (hN : 100 ≤ N) {D : Nat → Nat} {sz nb : Nat} {sb md : Nat → Int32} (hD : rDt D sz nb sb md) (n : Nat) (hn : n ≤ 16) {at1 part left fl at2 tk left2 fl2 : Int32} (hR : rR sz at1 part left fl at2 tk left2 fl2) :
    (∃ at3 part3 left3 fl3 v' at4 tk4 left4 fl4, f_BitReader_takeBits N (zI n) (zI sz) nb sb at1 part left fl = some (zI (-1), at3, part3, left3, fl3) ∧ f_M_takes N (zI n) (zI sz) at2 tk left2 fl2 md = some (v', at4, tk4, left4, fl4) ∧ rX fl3 fl4) ∨
    (∃ v' at3 part3 left3 fl3 at4 tk4 left4 fl4, v' < 2 ^ n ∧ f_BitReader_takeBits N (zI n) (zI sz) nb sb at1 part left fl = some (zI (v' : Nat), at3, part3, left3, fl3) ∧ f_M_takes N (zI n) (zI sz) at2 tk left2 fl2 md = some (zI (v' : Nat), at4, tk4, left4, fl4) ∧ rR sz at3 part3 left3 fl3 at4 tk4 left4 fl4) := by
  unfold f_BitReader_takeBits f_M_takes
  rcases q_bitsL N hD n hn n 0 N N 0 at1 part left fl at2 tk left2 fl2 (by omega) (by omega) (by omega) (by omega) hR with ⟨w, a3, p3, l3, f3, v', a4, t4, l4, f4, h1, h2, h3⟩ | ⟨v', a3, p3, l3, f3, a4, t4, l4, f4, h0, h1, h2, h3⟩
  · left
    refine ⟨a3, p3, l3, f3, v', a4, t4, l4, f4, ?_, ?_, h3⟩
    · rw [show (f_BitReader_takeBits_L4 (zI n) (zI sz) nb sb N N ((0 : Int32), (0 : Int32), at1, part, left, fl)) = some (0, w, a3, p3, l3, f3) from h1]
      rfl
    · rw [show f_M_takes_L4 (zI n) (zI sz) md N N ((0 : Int32), (0 : Int32), at2, tk, left2, fl2) = some (v', a4, t4, l4, f4) from h2]
      rfl
  · right
    refine ⟨v', a3, p3, l3, f3, a4, t4, l4, f4, h0, ?_, ?_, h3⟩
    · rw [show (f_BitReader_takeBits_L4 (zI n) (zI sz) nb sb N N ((0 : Int32), (0 : Int32), at1, part, left, fl)) = some (1, zI (v' : Nat), a3, p3, l3, f3) from h1]
      rfl
    · rw [show f_M_takes_L4 (zI n) (zI sz) md N N ((0 : Int32), (0 : Int32), at2, tk, left2, fl2) = some (zI (v' : Nat), a4, t4, l4, f4) from h2]
      rfl
/-- one bit: takeBits(1) and take -/
theorem q_bit1 (N : Nat) (hN : 100 ≤ N) {D : Nat → Nat} {sz nb : Nat} {sb md : Nat → Int32} (hD : rDt D sz nb sb md) {at1 part left fl at2 tk left2 fl2 : Int32} (hR : rR sz at1 part left fl at2 tk left2 fl2) :
    (∃ at3 part3 left3 fl3 at4 tk4 left4 fl4, f_BitReader_takeBits N (1 : Int32) (zI sz) nb sb at1 part left fl = some (zI (-1), at3, part3, left3, fl3) ∧ f_M_take (zI sz) at2 tk left2 fl2 md = some (zI 0, at4, tk4, left4, fl4) ∧ rX fl3 fl4) ∨
    (∃ v' at3 part3 left3 fl3 at4 tk4 left4 fl4, v' < 2 ∧ f_BitReader_takeBits N (1 : Int32) (zI sz) nb sb at1 part left fl = some (zI (v' : Nat), at3, part3, left3, fl3) ∧ f_M_take (zI sz) at2 tk left2 fl2 md = some (zI (v' : Nat), at4, tk4, left4, fl4) ∧ rR sz at3 part3 left3 fl3 at4 tk4 left4 fl4) := by
  obtain ⟨a, p, l, r1, r2, r3, rfl, rfl, rfl, rfl, r4, rfl, rfl⟩ := hR
  obtain ⟨M, rfl⟩ : ∃ M, N = M + 2 := ⟨N - 2, by omega⟩
  unfold f_BitReader_takeBits
  have eC : f_BitReader_takeBits_L4 (1 : Int32) (zI sz) nb sb (M + 2) (M + 2) ((0 : Int32), (0 : Int32), zI a, part, zI l, zI 0) = f_BitReader_takeBits_L4b (zI (1 : Nat)) (zI sz) nb sb (M + 2) (f_BitReader_takeBits_L4 (1 : Int32) (zI sz) nb sb (M + 2) (M + 1)) (zI (0 : Nat)) (zI (0 : Nat)) (zI a) part (zI l) (zI 0) := by
    conv => lhs; unfold f_BitReader_takeBits_L4
    rw [it_succ]
    rfl
  rw [eC]
  rcases q_one (M + 2) hD r1 r2 r3 r4 0 0 1 (by omega) (by omega) (by omega) (f_BitReader_takeBits_L4 (1 : Int32) (zI sz) nb sb (M + 2) (M + 1)) with ⟨f, j1, j2, j3, j4, j5, j6, hf1, h1, h2⟩ | ⟨b, a', p', l', b1, b2, b3, b4, h1, h2⟩
  · left
    rw [h1, h2]
    exact ⟨_, _, _, _, _, _, _, _, rfl, rfl, ⟨f, by omega, by omega, rfl, rfl⟩⟩
  · right
    rw [h1, h2]
    have e : f_BitReader_takeBits_L4 (1 : Int32) (zI sz) nb sb (M + 2) (M + 1) (zI (2 * 0 + b : Nat), zI (0 + 1 : Nat), zI (a' : Nat), zI (p' : Nat), zI (l' : Nat), zI 0) = some (1, zI (2 * 0 + b : Nat), zI (a' : Nat), zI (p' : Nat), zI (l' : Nat), zI 0) := by
      unfold f_BitReader_takeBits_L4
      rw [it_succ]
      unfold f_BitReader_takeBits_L4b
      rw [if_pos (show (1 : Int32) ≤ zI ((0 + 1 : Nat) : Int) by decide)]
    rw [e]
    refine ⟨b, _, _, _, _, _, _, _, _, b1, ?_, rfl, ⟨a', p', l', b2, b3, by omega, rfl, rfl, rfl, rfl, Or.inr ⟨rfl, rfl⟩, rfl, rfl⟩⟩
    rw [show 2 * 0 + b = b by omega]
    rfl
/-! READING: words -/
def rWd (cn sy : Nat → Nat) (sz : Nat) (L V : Nat → Nat) (t : Nat) (ln cd : Nat → Int32) : Prop :=
  (∀ s, s < 256 → ln (256 * t + s) = zI (L s : Nat) ∧ (0 < L s → cd (256 * t + s) = zI (V s : Nat)) ∧ L s ≤ 16 ∧ (0 < L s → V s < 65536)) ∧
  (∀ s, s < 256 → 0 < L s → ∃ l p, l < 16 ∧ jzX cn l ≤ p ∧ p < jzX cn (l + 1) ∧ p < sz ∧ sy p = s ∧ L s = l + 1 ∧ V s = 2 * jzE cn l + (p - jzX cn l)) ∧
  (∀ l p, l < 16 → jzX cn l ≤ p → p < jzX cn (l + 1) → p < sz → sy p < 256 ∧ L (sy p) = l + 1 ∧ V (sy p) = 2 * jzE cn l + (p - jzX cn l))
theorem wd_of {cn sy : Nat → Nat} {sz t : Nat} {ln cd : Nat → Int32} (o1 : okT cn sy sz) (o2 : okB cn sy sz) (o4 : entM cn sy t ln cd sz) : ∃ L V, rWd cn sy sz L V t ln cd := by
  obtain ⟨hX, hTw, hFt⟩ := o1
  have key : ∀ l p, l < 16 → jzX cn l ≤ p → p < jzX cn (l + 1) → p < sz → sy p < 256 ∧ (ln (256 * t + sy p)).toNatClampNeg = l + 1 ∧ (cd (256 * t + sy p)).toNatClampNeg = 2 * jzE cn l + (p - jzX cn l) ∧ ln (256 * t + sy p) = zI (l + 1 : Nat) ∧ cd (256 * t + sy p) = zI (2 * jzE cn l + (p - jzX cn l) : Nat) ∧ 2 * jzE cn l + (p - jzX cn l) < 65536 := by
    intro l p h1 h2 h3 h4
    obtain ⟨c1, c2⟩ := o4.1 l p h1 h2 h3 h4
    have f1 := hFt (l + 1) (by omega) (by omega)
    have eX : jzX cn (l + 1) = jzX cn l + cn (l + 1) := rfl
    have eE : jzE cn (l + 1) = 2 * jzE cn l + cn (l + 1) := rfl
    have hp := pow16 (show l + 1 ≤ 16 by omega)
    refine ⟨o2.2.2 p h4, ?_, ?_, c1, c2, by omega⟩
    · rw [c1, clN _ (by omega)]
    · rw [c2, clN _ (by omega)]
  refine ⟨fun s => (ln (256 * t + s)).toNatClampNeg, fun s => (cd (256 * t + s)).toNatClampNeg, fun s hs => ?_, fun s hs h0 => ?_, fun l p h1 h2 h3 h4 => ?_⟩
  · dsimp only
    by_cases hp : ∃ p, p < sz ∧ sy p = s
    · obtain ⟨p, p1, p2⟩ := hp
      obtain ⟨l, l1, l2, l3⟩ := jzX_find cn 16 p (by omega)
      obtain ⟨k1, k2, k3, k4, k5, k6⟩ := key l p l1 l2 l3 p1
      rw [p2] at k2 k3 k4 k5
      rw [k2, k3]
      exact ⟨k4, fun _ => k5, by omega, fun _ => k6⟩
    · have hn : ∀ p, p < sz → sy p ≠ s := fun p h1 h2 => hp ⟨p, h1, h2⟩
      have h0 := o4.2 s hs hn
      rw [h0, show (zI 0).toNatClampNeg = 0 from rfl]
      exact ⟨rfl, fun h => absurd h (by omega), by omega, fun h => absurd h (by omega)⟩
  · dsimp only at h0 ⊢
    by_cases hp : ∃ p, p < sz ∧ sy p = s
    · obtain ⟨p, p1, p2⟩ := hp
      obtain ⟨l, l1, l2, l3⟩ := jzX_find cn 16 p (by omega)
      obtain ⟨k1, k2, k3, k4, k5, k6⟩ := key l p l1 l2 l3 p1
      rw [p2] at k2 k3
      exact ⟨l, p, l1, l2, l3, p1, p2, k2, k3⟩
    · have hn : ∀ p, p < sz → sy p ≠ s := fun p h1 h2 => hp ⟨p, h1, h2⟩
      rw [o4.2 s hs hn] at h0
      exact absurd h0 (by decide)
  · obtain ⟨k1, k2, k3, k4, k5, k6⟩ := key l p h1 h2 h3 h4
    exact ⟨k1, k2, k3⟩
theorem jzE_up (cn : Nat → Nat) : ∀ (j n : Nat), jzE cn n * 2 ^ j ≤ jzE cn (n + j)
  | 0, n => by simp
  | j + 1, n => by
    have h := jzE_up cn j n
    show _ ≤ 2 * jzE cn (n + j) + cn (n + j + 1)
    rw [Nat.pow_succ, ← Nat.mul_assoc]
    omega
/-- no word of this length -/
theorem wd_no {cn sy : Nat → Nat} {sz : Nat} {L V : Nat → Nat} {t : Nat} {ln cd : Nat → Int32} (h : rWd cn sy sz L V t ln cd) {l v : Nat} (hv : jzE cn l ≤ v) : ∀ s, s < 256 → ¬ (0 < L s ∧ L s = l ∧ V s = v) := by
  intro s hs ⟨h0, h1, h2⟩
  obtain ⟨l', p, k1, k2, k3, k4, k5, k6, k7⟩ := h.2.1 s hs h0
  have e : l = l' + 1 := by omega
  subst e
  have eX : jzX cn (l' + 1) = jzX cn l' + cn (l' + 1) := rfl
  have eE : jzE cn (l' + 1) = 2 * jzE cn l' + cn (l' + 1) := rfl
  omega
theorem wd_yes {cn sy : Nat → Nat} {sz : Nat} {L V : Nat → Nat} {t : Nat} {ln cd : Nat → Int32} (hX : jzX cn 16 = sz) (h : rWd cn sy sz L V t ln cd) {l v : Nat} (hl : l < 16) (h1 : 2 * jzE cn l ≤ v) (h2 : v < jzE cn (l + 1)) : jzX cn l + (v - 2 * jzE cn l) < sz ∧ sy (jzX cn l + (v - 2 * jzE cn l)) < 256 ∧ ∀ s, s < 256 → ((0 < L s ∧ L s = l + 1 ∧ V s = v) ↔ s = sy (jzX cn l + (v - 2 * jzE cn l))) := by
  have eX : jzX cn (l + 1) = jzX cn l + cn (l + 1) := rfl
  have eE : jzE cn (l + 1) = 2 * jzE cn l + cn (l + 1) := rfl
  have hm := jzX_mono cn (show l + 1 ≤ 16 by omega)
  obtain ⟨c1, c2, c3⟩ := h.2.2 l (jzX cn l + (v - 2 * jzE cn l)) hl (by omega) (by omega) (by omega)
  refine ⟨by omega, c1, fun s hs => ⟨fun ⟨k0, k1, k2⟩ => ?_, fun k => ?_⟩⟩
  · obtain ⟨l', p, q1, q2, q3, q4, q5, q6, q7⟩ := h.2.1 s hs k0
    have e : l' = l := by omega
    subst e
    have ep : p = jzX cn l' + (v - 2 * jzE cn l') := by omega
    rw [← ep, q5]
  · subst k
    exact ⟨by omega, c2, by omega⟩
theorem wd_find {cn : Nat → Nat} {v l : Nat} : ∀ (j : Nat), jzE cn l ≤ v → v * 2 ^ j < jzE cn (l + j) → ∃ i, i < j ∧ 2 * jzE cn (l + i) ≤ v * 2 ^ (i + 1) ∧ v * 2 ^ (i + 1) < jzE cn (l + i + 1)
  | 0, h0, h1 => by rw [Nat.pow_zero, Nat.mul_one, Nat.add_zero] at h1; omega
  | j + 1, h0, h1 => by
    by_cases c : v * 2 ^ j < jzE cn (l + j)
    · obtain ⟨i, i1, i2⟩ := wd_find j h0 c
      exact ⟨i, by omega, i2⟩
    · refine ⟨j, by omega, ?_, h1⟩
      rw [Nat.pow_succ, ← Nat.mul_assoc]
      omega
/-- words that begin so -/
theorem wd_beg {cn sy : Nat → Nat} {sz : Nat} {L V : Nat → Nat} {t : Nat} {ln cd : Nat → Int32} (hX : jzX cn 16 = sz) (h : rWd cn sy sz L V t ln cd) {l v : Nat} (hl : l ≤ 16) (hv : jzE cn l ≤ v) : (∃ s, s < 256 ∧ l < L s ∧ V s / 2 ^ (L s - l) = v) ↔ (l < 16 ∧ v * 2 ^ (16 - l) < jzE cn 16) := by
  constructor
  · rintro ⟨s, hs, h1, h2⟩
    obtain ⟨l', p, q1, q2, q3, q4, q5, q6, q7⟩ := h.2.1 s hs (by omega)
    have eX : jzX cn (l' + 1) = jzX cn l' + cn (l' + 1) := rfl
    have eE : jzE cn (l' + 1) = 2 * jzE cn l' + cn (l' + 1) := rfl
    have hVE : V s < jzE cn (L s) := by rw [q6]; omega
    refine ⟨by omega, ?_⟩
    have a1 : v * 2 ^ (L s - l) ≤ V s := by rw [← h2]; exact Nat.div_mul_le_self _ _
    have a2 := jzE_up cn (16 - L s) (L s)
    rw [show L s + (16 - L s) = 16 by omega] at a2
    have a3 : v * 2 ^ (16 - l) = v * 2 ^ (L s - l) * 2 ^ (16 - L s) := by
      rw [Nat.mul_assoc, ← Nat.pow_add, show L s - l + (16 - L s) = 16 - l by omega]
    rw [a3]
    exact Nat.lt_of_lt_of_le ((Nat.mul_lt_mul_right (Nat.two_pow_pos _)).mpr (by omega)) a2
  · rintro ⟨h1, h2⟩
    obtain ⟨i, i1, i2, i3⟩ := wd_find (16 - l) hv (by rw [show l + (16 - l) = 16 by omega]; exact h2)
    obtain ⟨c1, c2, c3⟩ := wd_yes hX h (l := l + i) (by omega) i2 i3
    have c4 := (c3 _ c2).mpr rfl
    refine ⟨_, c2, by omega, ?_⟩
    rw [c4.2.1, c4.2.2, show l + i + 1 - l = i + 1 by omega]
    exact Nat.mul_div_cancel _ (Nat.two_pow_pos _)
theorem ix256 (t s : Nat) : ((256 : Int32) * zI (t : Int)) + zI (s : Int) = zI ((256 * t + s : Nat) : Int) := by
  rw [zI_lit, zI_mul, zI_add]; rfl
/-- the reference's look at all symbols -/
theorem q_symL (N : Nat) {cn sy : Nat → Nat} {sz : Nat} {L V : Nat → Nat} {t : Nat} {ln cd : Nat → Int32} (ht : t < 8) (h : rWd cn sy sz L V t ln cd) {l v : Nat} (hl : l ≤ 16) (hv : v < 65536) : ∀ (j i fuel g : Nat), i + j = 256 → j < fuel → g ≤ 1 →
    (∃ s g', s < 256 ∧ (0 < L s ∧ L s = l ∧ V s = v) ∧ f_M_symbol_L23 (zI t) ln (zI l) cd (zI v) N fuel (zI g, zI i) = some (0, g', zI (s : Nat))) ∨
    ((∀ s, i ≤ s → s < 256 → ¬ (0 < L s ∧ L s = l ∧ V s = v)) ∧ ∃ g' i', g' ≤ 1 ∧ (g' = 1 ↔ g = 1 ∨ ∃ s, i ≤ s ∧ s < 256 ∧ l < L s ∧ V s / 2 ^ (L s - l) = v) ∧ f_M_symbol_L23 (zI t) ln (zI l) cd (zI v) N fuel (zI g, zI i) = some (1, zI (g' : Nat), i'))
  | 0, i, fuel, g, hi, hf, hg => by
    obtain ⟨fuel, rfl⟩ : ∃ j, fuel = j + 1 := ⟨fuel - 1, by omega⟩
    right
    refine ⟨fun s h1 h2 => by omega, g, zI i, hg, ⟨Or.inl, fun h => h.elim id fun ⟨s, h1, h2, _⟩ => by omega⟩, ?_⟩
    unfold f_M_symbol_L23
    rw [it_succ]
    unfold f_M_symbol_L23b
    rw [if_pos (show (256 : Int32) ≤ zI (i : Int) by rw [show i = 256 by omega]; decide)]
  | j + 1, i, fuel, g, hi, hf, hg => by
    obtain ⟨fuel, rfl⟩ : ∃ j, fuel = j + 1 := ⟨fuel - 1, by omega⟩
    obtain ⟨k1, k2, k3, k4⟩ := h.1 i (by omega)
    have c0 : ¬ (256 : Int32) ≤ zI (i : Int) := by rw [show (256 : Int32) = zI ((256 : Nat) : Int) from rfl, leN (by omega) (by omega)]; omega
    have gi := inN (256 * t + i) 2048 (by omega) (by omega)
    have z00 : zI 0 = (0 : Int32) := rfl
    by_cases cm : 0 < L i ∧ L i = l ∧ V i = v
    · left
      refine ⟨i, zI g, by omega, cm, ?_⟩
      unfold f_M_symbol_L23
      rw [it_succ]
      show f_M_symbol_L23b _ _ _ _ _ _ _ _ _ = _
      unfold f_M_symbol_L23b
      rw [if_neg c0, ix256, clN _ (by omega), if_neg gi, k1, if_neg (show ¬ zI (L i : Int) ≤ 0 by rw [show (0 : Int32) = zI ((0 : Nat) : Int) from rfl, leN (by omega) (by omega)]; omega), if_pos (show zI (L i : Int) = zI (l : Int) by rw [cm.2.1]), if_neg gi, k2 cm.1, if_pos (show zI (V i : Int) = zI (v : Int) by rw [cm.2.2])]
    · have step : ∃ g1, g1 ≤ 1 ∧ (g1 = 1 ↔ g = 1 ∨ (l < L i ∧ V i / 2 ^ (L i - l) = v)) ∧ f_M_symbol_L23 (zI t) ln (zI l) cd (zI v) N (fuel + 1) (zI g, zI i) = f_M_symbol_L23 (zI t) ln (zI l) cd (zI v) N fuel (zI (g1 : Nat), zI (i + 1 : Nat)) := by
        have j77 : ∃ g1, g1 ≤ 1 ∧ (g1 = 1 ↔ g = 1 ∨ (l < L i ∧ V i / 2 ^ (L i - l) = v)) ∧ f_M_symbol_J23_77 N (f_M_symbol_L23 (zI t) ln (zI l) cd (zI v) N fuel) (zI g) (zI (L i : Nat)) (zI l) (zI i) (zI t) cd (zI v) = f_M_symbol_L23 (zI t) ln (zI l) cd (zI v) N fuel (zI (g1 : Nat), zI (i + 1 : Nat)) := by
          unfold f_M_symbol_J23_77 f_M_symbol_J23_114 f_M_symbol_J23_110 f_M_symbol_J23_115
          rw [suN i]
          by_cases g0 : g = 0
          · subst g0
            rw [if_pos (show zI ((0 : Nat) : Int) = 0 from rfl)]
            by_cases cl : L i ≤ l
            · rw [if_pos (by rw [leN (by omega) (by omega)]; exact cl)]
              exact ⟨0, by omega, ⟨fun h => by omega, fun h => h.elim (fun h => by omega) fun h => by omega⟩, rfl⟩
            · rw [if_neg (by rw [leN (by omega) (by omega)]; exact cl), ix256, clN _ (by omega), if_neg gi, k2 (by omega), zI_sub, show (L i : Int) - l = ((L i - l : Nat) : Int) by omega, show (31 : Int32) = zI 31 from rfl, zI_shr (by omega) (by have := k4 (by omega); omega) (by omega) (by omega), Int.toNat_natCast, p_shr]
              by_cases cv : V i / 2 ^ (L i - l) = v
              · rw [if_pos (by rw [cv])]
                exact ⟨1, by omega, ⟨fun _ => Or.inr ⟨by omega, cv⟩, fun _ => rfl⟩, rfl⟩
              · have := k4 (by omega)
                rw [if_neg (by rw [eqN (Nat.lt_of_le_of_lt (Nat.div_le_self _ _) (by omega)) (by omega)]; exact cv)]
                exact ⟨0, by omega, ⟨fun h => by omega, fun h => h.elim (fun h => by omega) fun h => absurd h.2 cv⟩, rfl⟩
          · rw [if_neg (nzN (by omega) (by omega))]
            exact ⟨1, by omega, ⟨fun _ => Or.inl (by omega), fun _ => rfl⟩, rfl⟩
        obtain ⟨g1, a1, a2, a3⟩ := j77
        refine ⟨g1, a1, a2, ?_⟩
        rw [← a3]
        conv => lhs; unfold f_M_symbol_L23
        rw [it_succ]
        show f_M_symbol_L23b _ _ _ _ _ _ _ _ _ = _
        unfold f_M_symbol_L23b
        rw [if_neg c0, ix256, clN _ (by omega), if_neg gi, k1]
        by_cases c1 : L i = 0
        · rw [if_pos (show zI (L i : Int) ≤ 0 by rw [c1]; decide)]
          rfl
        · rw [if_neg (show ¬ zI (L i : Int) ≤ 0 by rw [show (0 : Int32) = zI ((0 : Nat) : Int) from rfl, leN (by omega) (by omega)]; omega)]
          by_cases c2 : L i = l
          · have := k4 (by omega)
            rw [if_pos (show zI (L i : Int) = zI (l : Int) by rw [c2]), if_neg gi, k2 (by omega), if_neg (show ¬ zI (V i : Int) = zI (v : Int) by rw [eqN (by omega) (by omega)]; exact fun e => cm ⟨by omega, c2, e⟩)]
            rfl
          · rw [if_neg (show ¬ zI (L i : Int) = zI (l : Int) by rw [eqN (by omega) (by omega)]; exact c2)]
            rfl
      obtain ⟨g1, a1, a2, a3⟩ := step
      rw [a3]
      rcases q_symL N ht h hl hv j (i + 1) fuel g1 (by omega) (by omega) a1 with h' | ⟨h1, g', i', h2, h3, h4⟩
      · exact Or.inl h'
      · right
        refine ⟨fun s s1 s2 => ?_, g', i', h2, ?_, h4⟩
        · by_cases e : s = i
          · subst e; exact cm
          · exact h1 s (by omega) s2
        · rw [h3, a2]
          constructor
          · rintro ((h | h) | ⟨s, s1, s2, s3⟩)
            · exact Or.inl h
            · exact Or.inr ⟨i, by omega, by omega, h⟩
            · exact Or.inr ⟨s, by omega, s2, s3⟩
          · rintro (h | ⟨s, s1, s2, s3⟩)
            · exact Or.inl (Or.inl h)
            · by_cases e : s = i
              · subst e; exact Or.inl (Or.inr s3)
              · exact Or.inr ⟨s, by omega, s2, s3⟩
/-! READING: a word, both sides -/
theorem q_longer {cn sy : Nat → Nat} {sz : Nat} (o1 : okT cn sy sz) {e : Int32} (he : e = zI (jzE cn 16 : Nat)) {v l : Nat} (hl : l ≤ 16) (hv : v < 2 ^ l) : f_Table_hasLonger (zI v) (zI l) e = some (if v * 2 ^ (16 - l) < jzE cn 16 then (1 : Int32) else 0) := by
  subst he
  have hE := o1.2.2 16 (by omega) (by omega)
  have h16 : 2 ^ 16 = 65536 := rfl
  have hb : v * 2 ^ (16 - l) < 65536 := by
    have : 2 ^ l * 2 ^ (16 - l) = 65536 := by rw [← Nat.pow_add, show l + (16 - l) = 16 by omega]
    rw [← this]
    exact (Nat.mul_lt_mul_right (Nat.two_pow_pos _)).mpr hv
  unfold f_Table_hasLonger
  rw [show (16 : Int32) = zI 16 from rfl, show (31 : Int32) = zI 31 from rfl, zI_sub, show (16 : Int) - l = ((16 - l : Nat) : Int) by omega, zI_shl (by omega) (by omega), Int.toNat_natCast, show (v : Int) * 2 ^ (16 - l) = ((v * 2 ^ (16 - l) : Nat) : Int) by rw [Int.natCast_mul, Int.natCast_pow]; rfl]
  by_cases c : v * 2 ^ (16 - l) < jzE cn 16
  · rw [if_neg (by rw [leN (by omega) (by omega)]; omega), if_pos c]
  · rw [if_pos (by rw [leN (by omega) (by omega)]; omega), if_neg c]
theorem q_symOf {cn sy : Nat → Nat} {sz : Nat} (o1 : okT cn sy sz) (o2 : okB cn sy sz) {w s f x : Nat → Int32} {e z : Int32} (o3 : rTbC cn sy sz w s f x e z) {v l : Nat} (hl : l < 16) (hv : 2 * jzE cn l ≤ v) (hv2 : v < 2 ^ (l + 1)) : (v < jzE cn (l + 1) → f_Table_symbolOf (zI v) (zI (l + 1 : Nat)) s f x = some (zI (sy (jzX cn l + (v - 2 * jzE cn l)) : Nat))) ∧ (¬ v < jzE cn (l + 1) → f_Table_symbolOf (zI v) (zI (l + 1 : Nat)) s f x = some (zI (-1))) := by
  obtain ⟨-, -, hf, hx, hs, -⟩ := o3
  have eX : jzX cn (l + 1) = jzX cn l + cn (l + 1) := rfl
  have eE : jzE cn (l + 1) = 2 * jzE cn l + cn (l + 1) := rfl
  have hm := jzX_mono cn (show l + 1 ≤ 16 by omega)
  have hX : jzX cn 16 = sz := o1.1
  have hsz : sz ≤ 256 := o2.2.1
  have hp := pow16 (show l + 1 ≤ 16 by omega)
  have g1 := inN (l + 1) 17 (by omega) (by omega)
  have g2 := inN (l + 1) 18 (by omega) (by omega)
  have g3 := inN (l + 1 + 1) 18 (by omega) (by omega)
  have ev : zI (jzX cn l : Nat) + zI (v : Int) - zI (2 * jzE cn l : Nat) = zI ((jzX cn l + (v - 2 * jzE cn l) : Nat) : Int) := by
    rw [zI_add, zI_sub]; congr 1; omega
  have pre : f_Table_symbolOf (zI v) (zI (l + 1 : Nat)) s f x = if zI ((jzX cn (l + 1) : Nat) : Int) ≤ zI ((jzX cn l + (v - 2 * jzE cn l) : Nat) : Int) then some (-1 : Int32) else if zI ((jzX cn l + (v - 2 * jzE cn l) : Nat) : Int) < 0 ∨ 256 ≤ (zI ((jzX cn l + (v - 2 * jzE cn l) : Nat) : Int)).toNatClampNeg then none else some (s (zI ((jzX cn l + (v - 2 * jzE cn l) : Nat) : Int)).toNatClampNeg) := by
    unfold f_Table_symbolOf
    rw [if_neg (show ¬ zI ((l + 1 : Nat) : Int) < (1 : Int32) by rw [show (1 : Int32) = zI ((1 : Nat) : Int) from rfl, ltN (by omega) (by omega)]; omega), if_neg (show ¬ (16 : Int32) < zI ((l + 1 : Nat) : Int) by rw [show (16 : Int32) = zI ((16 : Nat) : Int) from rfl, ltN (by omega) (by omega)]; omega), clN _ (by omega), if_neg g1, hf l hl, if_pos (show zI ((2 * jzE cn l : Nat) : Int) ≤ zI (v : Int) by rw [leN (by omega) (by omega)]; exact hv), if_neg g2, if_neg g1, suN, clN _ (by omega), if_neg g3, hx l (by omega), hx (l + 1) (by omega), ev]
  rw [pre]
  constructor
  · intro c
    rw [if_neg (by rw [leN (by omega) (by omega)]; omega), clN _ (by omega), if_neg (inN _ _ (by omega) (by omega)), hs _ (by omega)]
  · intro c
    rw [if_pos (by rw [leN (by omega) (by omega)]; omega)]
    rfl
theorem q_wordL (N : Nat) (hN : 1000 ≤ N) {D : Nat → Nat} {dz nb : Nat} {sb md : Nat → Int32} (hD : rDt D dz nb sb md) {cn sy : Nat → Nat} {sz : Nat} {L V : Nat → Nat} {t : Nat} {ln cd : Nat → Int32} (ht : t < 8) (o1 : okT cn sy sz) (o2 : okB cn sy sz) {w s f x : Nat → Int32} {e z : Int32} (o3 : rTbC cn sy sz w s f x e z) (hW : rWd cn sy sz L V t ln cd) : ∀ (j l fuel fuel' v : Nat) (at1 part left fl at2 tk left2 fl2 : Int32), l + j = 16 → j < fuel → j + 1 < fuel' → jzE cn l ≤ v → v < 2 ^ l → rR dz at1 part left fl at2 tk left2 fl2 →
    (∃ k k' u u' at3 part3 left3 fl3 at4 tk4 left4 fl4, f_BitReader_takeWord_L4 e (zI dz) nb sb s f x N fuel (zI v, zI l, at1, part, left, fl) = some (k, u, at3, part3, left3, fl3) ∧ f_M_symbol_L4 (zI t) ln cd (zI dz) md N fuel' (zI v, zI l, at2, tk, left2, fl2) = some (k', u', at4, tk4, left4, fl4) ∧ ((k = 0 ∧ k' = 2 ∧ u' = 0 ∧ rX fl3 fl4) ∨ (k = 2 ∧ k' = 1 ∧ fl4 = zI 0))) ∨
    (∃ y at3 part3 left3 fl3 at4 tk4 left4 fl4, y < 256 ∧ f_BitReader_takeWord_L4 e (zI dz) nb sb s f x N fuel (zI v, zI l, at1, part, left, fl) = some (1, zI (y : Nat), at3, part3, left3, fl3) ∧ f_M_symbol_L4 (zI t) ln cd (zI dz) md N fuel' (zI v, zI l, at2, tk, left2, fl2) = some (0, zI (y : Nat), at4, tk4, left4, fl4) ∧ rR dz at3 part3 left3 fl3 at4 tk4 left4 fl4)
  | j, l, fuel, fuel', v, at1, part, left, fl, at2, tk, left2, fl2, hj, hf, hf', hE, hv, hR => by
    obtain ⟨fuel, rfl⟩ : ∃ j, fuel = j + 1 := ⟨fuel - 1, by omega⟩
    obtain ⟨fuel', rfl⟩ : ∃ j, fuel' = j + 1 := ⟨fuel' - 1, by omega⟩
    have hp := pow16 (show l ≤ 16 by omega)
    have hX : jzX cn 16 = sz := o1.1
    obtain ⟨f1, f2⟩ := rR_z hR
    have scan := q_symL N ht hW (l := l) (v := v) (by omega) (by omega) 256 0 N 0 (by omega) (by omega) (by omega)
    have no := wd_no hW hE
    rcases scan with ⟨y, g', y1, y2, -⟩ | ⟨-, g', i', h2, h3, h4⟩
    · exact absurd y2 (no y y1)
    have beg := wd_beg hX hW (l := l) (v := v) (by omega) hE
    have h3' : g' = 1 ↔ (l < 16 ∧ v * 2 ^ (16 - l) < jzE cn 16) := by
      rw [h3, ← beg]
      constructor
      · rintro (h | ⟨y, -, y2, y3⟩)
        · omega
        · exact ⟨y, y2, y3⟩
      · rintro ⟨y, y2, y3⟩
        exact Or.inr ⟨y, by omega, y2, y3⟩
    have eM : f_M_symbol_L4 (zI t) ln cd (zI dz) md N (fuel' + 1) (zI v, zI l, at2, tk, left2, fl2) = if g' = 0 then some (1, i', at2, tk, left2, fl2) else (f_M_take (zI dz) at2 tk left2 fl2 md).bind fun z2 => f_M_symbol_L4 (zI t) ln cd (zI dz) md N fuel' (((2 : Int32) * zI v) + z2.1, zI (l + 1 : Nat), z2.2.1, z2.2.2.1, z2.2.2.2.1, z2.2.2.2.2) := by
      conv => lhs; unfold f_M_symbol_L4
      rw [it_succ]
      show f_M_symbol_L4b _ _ _ _ _ _ _ _ _ _ _ _ _ = _
      unfold f_M_symbol_L4b
      rw [if_neg (show ¬ (16 : Int32) < zI (l : Int) by rw [show (16 : Int32) = zI ((16 : Nat) : Int) from rfl, ltN (by omega) (by omega)]; omega), if_pos f2, show f_M_symbol_L23 (zI t) ln (zI l) cd (zI v) N N ((0 : Int32), (0 : Int32)) = some (1, zI (g' : Nat), i') from h4]
      dsimp only [Option.bind_some]
      rw [if_neg (by omega)]
      by_cases c : g' = 0
      · rw [if_pos (by rw [c]; rfl), if_pos c]
      · rw [if_neg (nzN (by omega) (by omega)), if_neg c, suN]
        rfl
    by_cases g0 : g' = 0
    · left
      rw [eM, if_pos g0]
      refine ⟨2, 1, (0 : Int32), i', at1, part, left, fl, at2, tk, left2, fl2, ?_, rfl, Or.inr ⟨rfl, rfl, f2⟩⟩
      unfold f_BitReader_takeWord_L4
      rw [it_succ]
      show f_BitReader_takeWord_L4b _ _ _ _ _ _ _ _ _ _ _ _ _ _ _ = _
      unfold f_BitReader_takeWord_L4b
      by_cases c16 : 16 ≤ l
      · rw [if_pos (by rw [show (16 : Int32) = zI ((16 : Nat) : Int) from rfl, leN (by omega) (by omega)]; exact c16)]
      · rw [if_neg (by rw [show (16 : Int32) = zI ((16 : Nat) : Int) from rfl, leN (by omega) (by omega)]; exact c16), q_longer o1 o3.2.1 (by omega) hv, if_neg (fun c => by have := h3'.mpr ⟨by omega, c⟩; omega)]
        rfl
    · have g1 : g' = 1 := by omega
      obtain ⟨l16, lv⟩ := h3'.mp g1
      obtain ⟨j, rfl⟩ : ∃ i, j = i + 1 := ⟨j - 1, by omega⟩
      rw [eM, if_neg g0]
      have eC : f_BitReader_takeWord_L4 e (zI dz) nb sb s f x N (fuel + 1) (zI v, zI l, at1, part, left, fl) = (f_BitReader_takeBits N (1 : Int32) (zI dz) nb sb at1 part left fl).bind fun z2 => if z2.1 = (-1 : Int32) then some (0, (0 : Int32), z2.2.1, z2.2.2.1, z2.2.2.2.1, z2.2.2.2.2) else (f_Table_symbolOf ((zI v <<< ((1 : Int32) &&& 31)) ||| z2.1) (zI (l + 1 : Nat)) s f x).bind fun z3 => if z3 = (-1 : Int32) then f_BitReader_takeWord_L4 e (zI dz) nb sb s f x N fuel ((zI v <<< ((1 : Int32) &&& 31)) ||| z2.1, zI (l + 1 : Nat), z2.2.1, z2.2.2.1, z2.2.2.2.1, z2.2.2.2.2) else some (1, z3, z2.2.1, z2.2.2.1, z2.2.2.2.1, z2.2.2.2.2) := by
        conv => lhs; unfold f_BitReader_takeWord_L4
        rw [it_succ]
        show f_BitReader_takeWord_L4b _ _ _ _ _ _ _ _ _ _ _ _ _ _ _ = _
        unfold f_BitReader_takeWord_L4b
        rw [if_neg (by rw [show (16 : Int32) = zI ((16 : Nat) : Int) from rfl, leN (by omega) (by omega)]; omega), q_longer o1 o3.2.1 (by omega) hv, if_pos lv]
        dsimp only [Option.bind_some]
        rw [if_neg (by decide), suN]
        rfl
      rw [eC]
      rcases q_bit1 N (by omega) hD hR with ⟨a3, p3, l3, f3, a4, t4, l4, f4, h1, h2, hX3⟩ | ⟨b, a3, p3, l3, f3, a4, t4, l4, f4, hb, h1, h2, hR3⟩
      · left
        rw [h1, h2]
        dsimp only [Option.bind_some]
        rw [if_pos (show zI (-1) = (-1 : Int32) from rfl)]
        obtain ⟨fuel', rfl⟩ : ∃ j, fuel' = j + 1 := ⟨fuel' - 1, by omega⟩
        refine ⟨0, 2, _, (0 : Int32), _, _, _, _, a4, t4, l4, f4, rfl, ?_, Or.inl ⟨rfl, rfl, rfl, hX3⟩⟩
        unfold f_M_symbol_L4
        rw [it_succ]
        show f_M_symbol_L4b _ _ _ _ _ _ _ _ _ _ _ _ _ = _
        unfold f_M_symbol_L4b
        rw [if_neg (show ¬ (16 : Int32) < zI ((l + 1 : Nat) : Int) by rw [show (16 : Int32) = zI ((16 : Nat) : Int) from rfl, ltN (by omega) (by omega)]; omega), if_neg (rX_nz hX3).2.1]
      · rw [h1, h2]
        dsimp only [Option.bind_some]
        have nb1 : ¬ zI (b : Int) = (-1 : Int32) := by
          rw [show (-1 : Int32) = zI (-1) from rfl, zI_eq (by omega) (by omega) (by decide) (by decide)]; omega
        have e1 : (zI (v : Int) <<< ((1 : Int32) &&& 31)) ||| zI (b : Int) = zI ((2 * v + b : Nat) : Int) := by
          have e : zI (v : Int) <<< ((1 : Int32) &&& 31) = zI ((2 * v : Nat) : Int) := by
            rw [zI_lit, zI_lit]
            show zI (v : Int) <<< (zI 1 &&& zI 31) = _
            rw [zI_shl (by omega) (by omega)]
            congr 1
            show (v : Int) * 2 ^ 1 = _
            omega
          rw [e, zI_orN _ _ (by omega) (by omega)]
          congr 2
          have h := Nat.two_pow_add_eq_or_of_lt (i := 1) (b := b) (by omega) v
          rw [Nat.pow_one] at h
          exact h.symm
        have e2 : (2 : Int32) * zI (v : Int) + zI (b : Int) = zI ((2 * v + b : Nat) : Int) := by
          rw [zI_lit, zI_mul, zI_add]; rfl
        rw [if_neg nb1, e1, e2]
        have hv' : 2 * v + b < 2 ^ (l + 1) := by rw [Nat.pow_succ]; omega
        obtain ⟨s1, s2⟩ := q_symOf o1 o2 o3 (v := 2 * v + b) (l := l) l16 (by omega) hv'
        by_cases c : 2 * v + b < jzE cn (l + 1)
        · right
          obtain ⟨y1, y2, y3⟩ := wd_yes hX hW l16 (by omega) c
          have hp' := pow16 (show l + 1 ≤ 16 by omega)
          obtain ⟨fuel', rfl⟩ : ∃ j, fuel' = j + 1 := ⟨fuel' - 1, by omega⟩
          rw [s1 c]
          dsimp only [Option.bind_some]
          rw [if_neg (by rw [show (-1 : Int32) = zI (-1) from rfl, zI_eq (by omega) (by omega) (by decide) (by decide)]; omega)]
          refine ⟨sy (jzX cn l + (2 * v + b - 2 * jzE cn l)), a3, p3, l3, f3, a4, t4, l4, f4, y2, rfl, ?_, hR3⟩
          rcases q_symL N ht hW (l := l + 1) (v := 2 * v + b) (by omega) (by omega) 256 0 N 0 (by omega) (by omega) (by omega) with ⟨y, g'', k1, k2, k3⟩ | ⟨k1, -⟩
          · have ey := (y3 y k1).mp k2
            unfold f_M_symbol_L4
            rw [it_succ]
            show f_M_symbol_L4b _ _ _ _ _ _ _ _ _ _ _ _ _ = _
            unfold f_M_symbol_L4b
            rw [if_neg (show ¬ (16 : Int32) < zI ((l + 1 : Nat) : Int) by rw [show (16 : Int32) = zI ((16 : Nat) : Int) from rfl, ltN (by omega) (by omega)]; omega), if_pos (rR_z hR3).2, show f_M_symbol_L23 (zI t) ln (zI (l + 1 : Nat)) cd (zI (2 * v + b : Nat)) N N ((0 : Int32), (0 : Int32)) = some (0, g'', zI (y : Nat)) from k3]
            dsimp only [Option.bind_some]
            rw [if_pos rfl, ey]
          · exact absurd ((y3 _ y2).mpr rfl) (k1 _ (by omega) y2)
        · rw [s2 c]
          dsimp only [Option.bind_some]
          rw [if_pos (show zI (-1) = (-1 : Int32) from rfl)]
          exact q_wordL N hN hD ht o1 o2 o3 hW j (l + 1) fuel fuel' (2 * v + b) a3 p3 l3 f3 a4 t4 l4 f4 (by omega) (by omega) (by omega) (by omega) hv' hR3
/-- a word -/
theorem q_word (N : Nat) (hN : 1000 ≤ N) {D : Nat → Nat} {dz nb : Nat} {sb md : Nat → Int32} (hD : rDt D dz nb sb md) {t : Nat} (ht : t < 8) {w s f x : Nat → Int32} {e z wd : Int32} {ln cd : Nat → Int32} (hT : rTab1 t w s f x e z ln cd wd) {at1 part left fl at2 tk left2 fl2 : Int32} (hR : rR dz at1 part left fl at2 tk left2 fl2) :
    (∃ at3 part3 left3 fl3 at4 tk4 left4 fl4, f_BitReader_takeWord N (zI dz) nb sb at1 part left fl e s f x = some (zI (-1), at3, part3, left3, fl3) ∧ f_M_symbol N (zI t) (zI dz) at2 tk left2 fl2 ln cd md = some (zI 0, at4, tk4, left4, fl4) ∧ rX fl3 fl4) ∨
    (∃ y at3 part3 left3 fl3 at4 tk4 left4 fl4, y < 256 ∧ f_BitReader_takeWord N (zI dz) nb sb at1 part left fl e s f x = some (zI (y : Nat), at3, part3, left3, fl3) ∧ f_M_symbol N (zI t) (zI dz) at2 tk left2 fl2 ln cd md = some (zI (y : Nat), at4, tk4, left4, fl4) ∧ rR dz at3 part3 left3 fl3 at4 tk4 left4 fl4) := by
  obtain ⟨cn, sy, sz, o1, o2, o3, o4, -⟩ := hT
  obtain ⟨L, V, hW⟩ := wd_of o1 o2 o4
  unfold f_BitReader_takeWord f_M_symbol f_BitReader_takeWord_J66
  rcases q_wordL N hN hD ht o1 o2 o3 hW 16 0 N N 0 at1 part left fl at2 tk left2 fl2 (by omega) (by omega) (by omega) (Nat.zero_le _) (by omega) hR with ⟨k, k', u, u', a3, p3, l3, f3, a4, t4, l4, f4, h1, h2, h3⟩ | ⟨y, a3, p3, l3, f3, a4, t4, l4, f4, h0, h1, h2, h3⟩
  · left
    rw [show f_BitReader_takeWord_L4 e (zI dz) nb sb s f x N N ((0 : Int32), (0 : Int32), at1, part, left, fl) = some (k, u, a3, p3, l3, f3) from h1, show f_M_symbol_L4 (zI t) ln cd (zI dz) md N N ((0 : Int32), (0 : Int32), at2, tk, left2, fl2) = some (k', u', a4, t4, l4, f4) from h2]
    rcases h3 with ⟨rfl, rfl, rfl, hX⟩ | ⟨rfl, rfl, rfl⟩
    · exact ⟨a3, p3, l3, f3, a4, t4, l4, f4, rfl, rfl, hX⟩
    · exact ⟨a3, p3, l3, zI (2 : Nat), a4, t4, l4, zI (2 : Nat), rfl, rfl, ⟨2, by omega, by omega, rfl, rfl⟩⟩
  · right
    rw [show f_BitReader_takeWord_L4 e (zI dz) nb sb s f x N N ((0 : Int32), (0 : Int32), at1, part, left, fl) = some (1, zI (y : Nat), a3, p3, l3, f3) from h1, show f_M_symbol_L4 (zI t) ln cd (zI dz) md N N ((0 : Int32), (0 : Int32), at2, tk, left2, fl2) = some (0, zI (y : Nat), a4, t4, l4, f4) from h2]
    exact ⟨y, a3, p3, l3, f3, a4, t4, l4, f4, h0, rfl, rfl, h3⟩
/-! READING: numbers, coefficients -/
theorem q_num (N : Nat) (hN : 100 ≤ N) {D : Nat → Nat} {dz nb : Nat} {sb md : Nat → Int32} (hD : rDt D dz nb sb md) (n : Nat) (hn : n ≤ 15) {at1 part left fl at2 tk left2 fl2 : Int32} (hR : rR dz at1 part left fl at2 tk left2 fl2) :
    (∃ v at3 part3 left3 fl3 v' at4 tk4 left4 fl4, f_Decoder_takeNumber N (zI n) (zI dz) nb sb at1 part left fl = some (v, at3, part3, left3, fl3) ∧ f_M_numberOf N (zI n) (zI dz) at2 tk left2 fl2 md = some (v', at4, tk4, left4, fl4) ∧ rX fl3 fl4) ∨
    (∃ (v : Int) (at3 part3 left3 fl3 at4 tk4 left4 fl4 : Int32), -(2 ^ n : Nat) < v ∧ v < (2 ^ n : Nat) ∧ f_Decoder_takeNumber N (zI n) (zI dz) nb sb at1 part left fl = some (zI v, at3, part3, left3, fl3) ∧ f_M_numberOf N (zI n) (zI dz) at2 tk left2 fl2 md = some (zI v, at4, tk4, left4, fl4) ∧ rR dz at3 part3 left3 fl3 at4 tk4 left4 fl4) := by
  unfold f_Decoder_takeNumber f_M_numberOf f_Decoder_takeNumber_J26 f_Decoder_takeNumber_J27
  rcases q_bits N hN hD n (by omega) hR with ⟨a3, p3, l3, f3, v', a4, t4, l4, f4, h1, h2, h3⟩ | ⟨v, a3, p3, l3, f3, a4, t4, l4, f4, h0, h1, h2, h3⟩
  · left
    rw [h1, h2]
    dsimp only [Option.bind_some]
    have cl : ∀ (c : Prop) [Decidable c] (c' : Prop) [Decidable c'] (x y z : Int32), ∃ v, (if c then (if (0 : Int32) = 0 then some (x, a3, p3, l3, f3) else some (z, a3, p3, l3, f3)) else if c' then (if (1 : Int32) = 0 then some (x, a3, p3, l3, f3) else some (z, a3, p3, l3, f3)) else (if (0 : Int32) = 0 then some (x, a3, p3, l3, f3) else some (z, a3, p3, l3, f3))) = some (v, a3, p3, l3, f3) := by
      intro c _ c' _ x y z
      by_cases h : c
      · rw [if_pos h]; exact ⟨_, rfl⟩
      · rw [if_neg h]
        by_cases h' : c'
        · rw [if_pos h']; exact ⟨_, rfl⟩
        · rw [if_neg h']; exact ⟨_, rfl⟩
    have cm : ∀ (c : Prop) [Decidable c] (c' : Prop) [Decidable c'] (x y z : Int32), ∃ v, (if c then some (x, a4, t4, l4, f4) else if c' then some (y, a4, t4, l4, f4) else some (z, a4, t4, l4, f4)) = some (v, a4, t4, l4, f4) := by
      intro c _ c' _ x y z
      by_cases h : c
      · rw [if_pos h]; exact ⟨_, rfl⟩
      · rw [if_neg h]
        by_cases h' : c'
        · rw [if_pos h']; exact ⟨_, rfl⟩
        · rw [if_neg h']; exact ⟨_, rfl⟩
    obtain ⟨u, hu⟩ := cl (zI (n : Int) ≤ 0) (zI (-1) >>> ((zI (n : Int) - (1 : Int32)) &&& 31) = (1 : Int32)) ((zI (-1) - ((1 : Int32) <<< (zI (n : Int) &&& 31))) + (1 : Int32)) 0 (zI (-1))
    obtain ⟨u', hu'⟩ := cm (zI (n : Int) = 0) (v' >>> ((zI (n : Int) - (1 : Int32)) &&& 31) = (1 : Int32)) 0 v' ((v' - ((1 : Int32) <<< (zI (n : Int) &&& 31))) + (1 : Int32))
    exact ⟨u, a3, p3, l3, f3, u', a4, t4, l4, f4, hu, hu', h3⟩
  · right
    rw [h1, h2]
    dsimp only [Option.bind_some]
    have hp := pow16 (show n ≤ 16 by omega)
    have e1 : (1 : Int32) <<< (zI (n : Int) &&& 31) = zI ((2 ^ n : Nat) : Int) := by
      rw [show (1 : Int32) = zI 1 from rfl, show (31 : Int32) = zI 31 from rfl, zI_shl (by omega) (by omega), Int.toNat_natCast, Int.one_mul, Int.natCast_pow]; rfl
    have e2 : zI (v : Int) - zI ((2 ^ n : Nat) : Int) + (1 : Int32) = zI ((v : Int) - (2 ^ n : Nat) + 1) := by rw [show (1 : Int32) = zI 1 from rfl, zI_sub, zI_add]
    by_cases n0 : n = 0
    · subst n0
      have v0 : v = 0 := by simpa using h0
      subst v0
      rw [if_pos (show zI ((0 : Nat) : Int) ≤ 0 by decide), if_pos (show zI ((0 : Nat) : Int) = 0 from rfl)]
      exact ⟨0, a3, p3, l3, f3, a4, t4, l4, f4, by decide, by decide, rfl, rfl, h3⟩
    · rw [if_neg (show ¬ zI (n : Int) ≤ 0 by rw [show (0 : Int32) = zI ((0 : Nat) : Int) from rfl, leN (by omega) (by omega)]; omega), if_neg (nzN (by omega) (by omega))]
      rw [e1, e2]
      by_cases c : zI (v : Int) >>> ((zI (n : Int) - (1 : Int32)) &&& 31) = (1 : Int32)
      · rw [if_pos c, if_pos c]
        exact ⟨v, a3, p3, l3, f3, a4, t4, l4, f4, by omega, by omega, rfl, rfl, h3⟩
      · rw [if_neg c, if_neg c]
        exact ⟨(v : Int) - (2 ^ n : Nat) + 1, a3, p3, l3, f3, a4, t4, l4, f4, by omega, by omega, rfl, rfl, h3⟩
/-- the reference's number behind a fault -/
theorem q_numX (N : Nat) (hN : 100 ≤ N) {size at2 tk left fl : Int32} (h : ¬ fl ≤ 0) (md : Nat → Int32) : f_M_numberOf N (0 : Int32) size at2 tk left fl md = some (zI 0, at2, tk, left, fl) := by
  obtain ⟨v, hv⟩ := q_takesX N (size := size) (at2 := at2) (tk := tk) (left := left) h md 0 (by omega) 0 0 N (zI 0) rfl (by omega)
  unfold f_M_numberOf f_M_takes
  rw [show f_M_takes_L4 (0 : Int32) size md N N ((0 : Int32), (0 : Int32), at2, tk, left, fl) = some (v, at2, tk, left, fl) from hv]
  rfl
def rB (K : Int32) (q k : Nat) (co0 mco0 co mco : Nat → Int32) : Prop :=
  (∀ i, (i < q ∨ q + 64 ≤ i) → mco i = mco0 i) ∧
  (∀ i, k ≤ i → i < 64 → co (q + i) = mco (q + i)) ∧
  (∀ i, i < 64 → ∃ z, mco (q + i) = zI z ∧ okC i z) ∧
  ((K = zI 0 ∧ co = co0) ∨ (K = zI 1 ∧ (∀ i, (i < q ∨ q + 64 ≤ i) → co i = co0 i) ∧ ∀ i, i < 64 → co (q + i) = mco (q + i)))
theorem rB_mono {K : Int32} {q k k' : Nat} {co0 mco0 co mco : Nat → Int32} (h : rB K q k co0 mco0 co mco) (hk : k ≤ k') : rB K q k' co0 mco0 co mco :=
  ⟨h.1, fun i h1 h2 => h.2.1 i (by omega) h2, h.2.2⟩
theorem upd_at {f : Nat → Int32} {i : Nat} {v : Int32} : upd f i v i = v := by unfold upd; rw [if_pos rfl]
theorem upd_ne {f : Nat → Int32} {i j : Nat} {v : Int32} (h : j ≠ i) : upd f i v j = f j := by unfold upd; rw [if_neg h]
theorem okC_rng {i : Nat} {z : Int} (h : okC i z) : -1024 ≤ z ∧ z ≤ 1023 := ⟨h.1, h.2.1⟩
theorem rB_keep {K : Int32} {q k : Nat} {co0 mco0 co mco : Nat → Int32} (h : rB K q k co0 mco0 co mco) {nco : Nat} (hq : q + 64 ≤ nco) (hn : nco ≤ 12288) {j k' : Nat} {z : Int} (hj : j < 64) (hk : k ≤ k') (hjk : j < k') (hz : okC j z) :
    ∃ co', f_Decoder_keep (zI (q + j : Nat)) (zI z) nco co K = some co' ∧ rB K q k' co0 mco0 co' (upd mco (q + j) (zI z)) := by
  obtain ⟨b1, b2, b3, b4⟩ := h
  have hr := okC_rng hz
  have m1 : ∀ i, (i < q ∨ q + 64 ≤ i) → upd mco (q + j) (zI z) i = mco0 i := fun i hi => by rw [upd_ne (by omega), b1 i hi]
  have m3 : ∀ i, i < 64 → ∃ z', upd mco (q + j) (zI z) (q + i) = zI z' ∧ okC i z' := fun i hi => by
    by_cases e : i = j
    · subst e; exact ⟨z, upd_at, hz⟩
    · rw [upd_ne (by omega)]; exact b3 i hi
  unfold f_Decoder_keep
  rcases b4 with ⟨rfl, rfl⟩ | ⟨rfl, b5, b6⟩
  · rw [if_pos (show zI 0 = 0 from rfl)]
    refine ⟨co, rfl, m1, fun i h1 h2 => ?_, m3, Or.inl ⟨rfl, rfl⟩⟩
    rw [upd_ne (by omega), b2 i (by omega) h2]
  · rw [if_neg (show ¬ zI 1 = 0 by decide), clN _ (by omega), if_neg (inN _ _ (by omega) (by omega)), zI_short (by omega) (by omega), zI_shortN (by omega) (by omega)]
    have c6 : ∀ i, i < 64 → upd co (q + j) (zI z) (q + i) = upd mco (q + j) (zI z) (q + i) := fun i hi => by
      by_cases e : i = j
      · subst e; rw [upd_at, upd_at]
      · rw [upd_ne (by omega), upd_ne (by omega)]; exact b6 i hi
    exact ⟨_, rfl, m1, fun i _ h2 => c6 i h2, m3, Or.inr ⟨rfl, fun i hi => by rw [upd_ne (by omega)]; exact b5 i hi, c6⟩⟩
def cBe (j : Nat) (z : Int) : Prop := (if j = 0 then -1024 else -1023) ≤ z ∧ z ≤ 1023
theorem cBe_ok {j : Nat} {z : Int} (hj : j < 64) (h : cBe j z) : okC j z := by
  obtain ⟨h1, h2⟩ := h
  by_cases c : j = 0
  · rw [if_pos c] at h1; exact ⟨h1, h2, fun h => absurd c (by omega)⟩
  · rw [if_neg c] at h1; exact ⟨by omega, h2, fun _ => h1⟩
theorem q_cBe (j : Nat) (hj : j < 64) (z : Int) (h0 : -2147483648 ≤ z) (h1 : z ≤ 2147483647) : (cBe j z → f_Picture_canBe (zI j) (zI z) = some (zI 1) ∧ f_M_canBe (zI j) (zI z) = some (zI 1)) ∧ (¬ cBe j z → f_Picture_canBe (zI j) (zI z) = some (zI 0) ∧ f_M_canBe (zI j) (zI z) = some (zI 0)) := by
  have e : cBe j z ↔ ((if (j : Int) = 0 then -1024 else -1023) ≤ z ∧ z ≤ 1023) := by
    unfold cBe
    by_cases c : j = 0
    · subst c; rfl
    · rw [if_neg c, if_neg (by omega)]
  rcases q_canBe j z ⟨by omega, by omega⟩ ⟨h0, h1⟩ with ⟨c1, c2, c3, c4⟩ | ⟨c1, c3, c4⟩
  · exact ⟨fun _ => ⟨c3, c4⟩, fun h => absurd (e.mpr ⟨c1, c2⟩) h⟩
  · exact ⟨fun h => absurd (e.mp h) c1, fun _ => ⟨c3, c4⟩⟩
/-- a coefficient that can be -/
theorem q_keepY {K : Int32} {q k : Nat} {co0 mco0 co mco : Nat → Int32} (h : rB K q k co0 mco0 co mco) {nco : Nat} (hq : q + 64 ≤ nco) (hn : nco ≤ 12288) {j k' : Nat} {z : Int} (hj : j < 64) (hk : k ≤ k') (hjk : j < k') (hz : cBe j z) {c T b : Nat} (hc : c < 4) {mb : Nat → Int32} (hb : mb c = zI (T : Nat)) (hqT : q = 64 * (T + b)) {fl fl2 : Int32} (hf2 : fl2 = 0) :
    ∃ co' mco', f_Decoder_keepIfCanBe (zI q) (zI j) (zI z) nco co fl K = some (co', fl) ∧ f_M_become (zI c) (zI b) (zI j) (zI z) fl2 mb mco = some (fl2, mco') ∧ rB K q k' co0 mco0 co' mco' := by
  have hok := cBe_ok hj hz
  have hr := okC_rng hok
  obtain ⟨co', h1, h2⟩ := rB_keep h hq hn hj hk hjk hok
  have hcb := (q_cBe j hj z (by omega) (by omega)).1 hz
  refine ⟨co', upd mco (q + j) (zI z), ?_, ?_, h2⟩
  · unfold f_Decoder_keepIfCanBe
    rw [hcb.1]
    dsimp only [Option.bind_some]
    rw [if_neg (show ¬ zI 1 = 0 by decide), zI_add, show (q : Int) + j = ((q + j : Nat) : Int) by omega, h1]
    rfl
  · unfold f_M_become f_M_become_J23
    rw [if_pos hf2, hcb.2]
    dsimp only [Option.bind_some]
    rw [if_neg (show ¬ zI 1 = 0 by decide), if_pos hf2, clN c (by omega), if_neg (inN c 4 hc (by omega)), hb, ixM, clN _ (by omega), if_neg (inN _ _ (by omega) (by omega)), zI_short (by omega) (by omega), zI_shortN (by omega) (by omega), ← hqT]
/-- one that can not -/
theorem q_keepN {K : Int32} {q : Nat} {co mco : Nat → Int32} {nco : Nat} {j : Nat} {z z' : Int} (hj : j < 64) (r1 : -2147483648 ≤ z ∧ z ≤ 2147483647) (r2 : -2147483648 ≤ z' ∧ z' ≤ 2147483647) (hz : ¬ cBe j z) (hz' : ¬ cBe j z') {c b : Nat} {mb : Nat → Int32} {fl fl2 : Int32} (hf2 : fl2 = 0) :
    f_Decoder_keepIfCanBe (zI q) (zI j) (zI z) nco co fl K = some (co, zI (4 : Nat)) ∧ f_M_become (zI c) (zI b) (zI j) (zI z') fl2 mb mco = some (zI (4 : Nat), mco) := by
  have h1 := (q_cBe j hj z r1.1 r1.2).2 hz
  have h2 := (q_cBe j hj z' r2.1 r2.2).2 hz'
  constructor
  · unfold f_Decoder_keepIfCanBe
    rw [h1.1]
    rfl
  · unfold f_M_become f_M_become_J23 f_M_wrong f_M_wrong_J16
    rw [if_pos hf2, h2.2]
    dsimp only [Option.bind_some]
    rw [if_pos (show zI 0 = 0 from rfl), if_pos hf2]
    dsimp only [Option.bind_some]
    rw [if_neg (show ¬ (4 : Int32) = 0 by decide)]
    rfl
theorem q_becX {fl2 : Int32} (h : ¬ fl2 = 0) (c b k v : Int32) (mb mco : Nat → Int32) : f_M_become c b k v fl2 mb mco = some (fl2, mco) := by
  unfold f_M_become f_M_become_J23
  rw [if_neg h, if_neg h]
/-! READING: the direct coefficient -/
theorem shl_b (b : Nat) (hb : b ≤ 15) : (1 : Int32) <<< (zI (b : Int) &&& 31) = zI ((2 ^ b : Nat) : Int) := by
  rw [show (1 : Int32) = zI 1 from rfl, show (31 : Int32) = zI 31 from rfl, zI_shl (by omega) (by omega), Int.toNat_natCast, Int.one_mul, Int.natCast_pow]; rfl
theorem pow9 {b : Nat} (h : b ≤ 9) : 1 ≤ 2 ^ b ∧ 2 ^ b ≤ 512 := ⟨Nat.one_le_two_pow, Nat.pow_le_pow_right (by omega) h (n := 2)⟩
theorem mul_rng {v : Int} {x : Int} (hx : 1 ≤ x) (lo hi : Int) (h0 : lo ≤ 0) (h1 : 0 ≤ hi) (h : lo ≤ v * x ∧ v * x ≤ hi) : lo ≤ v ∧ v ≤ hi := by
  rcases Int.lt_or_le v 0 with c | c
  · have : v * x ≤ v * 1 := Int.mul_le_mul_of_nonpos_left (by omega) hx
    omega
  · have : v * 1 ≤ v * x := Int.mul_le_mul_of_nonneg_left hx c
    omega
theorem mul_bd {v x : Int} {A : Int} (hA : 0 ≤ A) (hv : -A ≤ v ∧ v ≤ A) (hx : 0 ≤ x) (hx2 : x ≤ 512) : -(A * 512) ≤ v * x ∧ v * x ≤ A * 512 := by
  have h1 : v * x ≤ A * x := Int.mul_le_mul_of_nonneg_right hv.2 hx
  have h2 : -A * x ≤ v * x := Int.mul_le_mul_of_nonneg_right hv.1 hx
  have h3 : A * x ≤ A * 512 := Int.mul_le_mul_of_nonneg_left hx2 hA
  rw [Int.neg_mul] at h2
  omega
/-- predictions, both sides -/
def rPP (p p' : Nat → Int32) : Prop := ∀ c, c < 4 → ∃ z, p c = zI z ∧ p' c = zI z ∧ -1024 ≤ z ∧ z ≤ 1023
theorem rPP_upd {p p' : Nat → Int32} (h : rPP p p') (c : Nat) (z : Int) (hz : -1024 ≤ z ∧ z ≤ 1023) : rPP (upd p c (zI z)) (upd p' c (zI z)) := by
  intro d hd
  by_cases e : d = c
  · subst e; exact ⟨z, upd_at, upd_at, hz⟩
  · rw [upd_ne e, upd_ne e]; exact h d hd
/-- behind a fault: the reference goes on with nothing -/
theorem q_dirX (N : Nat) (hN : 1000 ≤ N) {size at2 tk left fl : Int32} (hX : ¬ fl ≤ 0) (hX0 : ¬ fl = 0) (md : Nat → Int32) {c : Nat} (hc : c < 4) (p' : Nat → Int32) (p1 : Int32) (mb mco : Nat → Int32) (bits v4 : Int32) : ∃ p'', f_M_readDirect_J83 N fl v4 size at2 tk left md (zI c) p' p1 mb mco bits = some (at2, tk, left, fl, mco, p'') := by
  unfold f_M_readDirect_J83 f_M_readDirect_J97 f_M_readDirect_J133 f_M_readDirect_J148
  rw [if_neg hX, q_numX N (by omega) hX]
  dsimp only [Option.bind_some]
  rw [clN c (by omega), if_neg (inN c 4 hc (by omega))]
  simp only [if_neg (inN c 4 hc (by omega)), q_becX hX0]
  dsimp only [Option.bind_some]
  by_cases c1 : p' c + zI 0 < (-1024 : Int32)
  · rw [if_pos c1]; exact ⟨_, rfl⟩
  · rw [if_neg c1]
    by_cases c2 : p' c + zI 0 ≤ (1023 : Int32)
    · rw [if_pos c2]; exact ⟨_, rfl⟩
    · rw [if_neg c2]; exact ⟨_, rfl⟩
theorem q_tDir (N : Nat) (hN : 1000 ≤ N) {D : Nat → Nat} {dz nb : Nat} {sb md : Nat → Int32} (hD : rDt D dz nb sb md) {vw vs vf vx : Nat → Nat → Int32} {ve vz ln cd wd : Nat → Int32} (hA : rAll vw vs vf vx ve vz ln cd wd) {K : Int32} {q : Nat} {co0 mco0 co mco : Nat → Int32} (h : rB K q 64 co0 mco0 co mco) {nco : Nat} (hq : q + 64 ≤ nco) (hn : nco ≤ 12288) {c T b d bits : Nat} (hc : c < 4) {mb dt dt' : Nat → Int32} (hb : mb c = zI (T : Nat)) (hqT : q = 64 * (T + b)) (hdt : dt c = zI (d : Nat)) (hdt' : dt' c = zI (d : Nat)) (hd : d < 8) (hbits : bits ≤ 9) {p p' : Nat → Int32} (hP : rPP p p') {at1 part left fl at2 tk left2 fl2 : Int32} (hR : rR dz at1 part left fl at2 tk left2 fl2) :
    (∃ at3 part3 left3 fl3 p3 at4 tk4 left4 fl4 mco4 p4, f_Decoder_takeDirect N (zI c) (zI q) nco co (zI bits) dt (zI dz) nb sb at1 part left fl K p vs vf vx ve = some (co, at3, part3, left3, fl3, p3) ∧ f_M_readDirect N (zI c) (zI b) (zI 0) (zI bits) (zI dz) at2 tk left2 fl2 mb mco ln cd dt' md p' = some (at4, tk4, left4, fl4, mco4, p4) ∧ rX fl3 fl4) ∨
    (∃ co3 at3 part3 left3 fl3 p3 at4 tk4 left4 fl4 mco4 p4, f_Decoder_takeDirect N (zI c) (zI q) nco co (zI bits) dt (zI dz) nb sb at1 part left fl K p vs vf vx ve = some (co3, at3, part3, left3, fl3, p3) ∧ f_M_readDirect N (zI c) (zI b) (zI 0) (zI bits) (zI dz) at2 tk left2 fl2 mb mco ln cd dt' md p' = some (at4, tk4, left4, fl4, mco4, p4) ∧ rR dz at3 part3 left3 fl3 at4 tk4 left4 fl4 ∧ rB K q 64 co0 mco0 co3 mco4 ∧ rPP p3 p4) := by
  obtain ⟨pz, pz1, pz2, pz3, pz4⟩ := hP c hc
  have gc := inN c 4 hc (by omega)
  have gd := inN d 8 hd (by omega)
  unfold f_Decoder_takeDirect f_M_readDirect
  rw [clN c (by omega), if_neg gc, hdt, clN d (by omega), if_neg gd, if_neg gc, if_pos (show zI 0 ≤ 0 by decide), if_neg gc, hdt', shl_b bits (by omega)]
  have hb9 := pow9 hbits
  rcases q_word N hN hD hd (hA d hd) hR with ⟨a3, p3, l3, f3, a4, t4, l4, f4, h1, h2, hX⟩ | ⟨y, a3, p3, l3, f3, a4, t4, l4, f4, hy, h1, h2, hR3⟩
  · left
    have hx := rX_nz hX
    obtain ⟨p4, h4⟩ := q_dirX N hN (size := zI dz) (at2 := a4) (tk := t4) (left := l4) hx.2.2.1 hx.2.1 md hc p' (zI b) mb mco (zI bits) (zI 0)
    rw [h1, h2]
    dsimp only [Option.bind_some]
    rw [if_pos (show zI (-1) = (-1 : Int32) from rfl), if_pos (show zI 0 ≤ (11 : Int32) by decide), h4]
    exact ⟨a3, p3, l3, f3, p, a4, t4, l4, f4, mco, p4, rfl, rfl, hX⟩
  · rw [h1, h2]
    dsimp only [Option.bind_some]
    rw [if_neg (show ¬ zI (y : Int) = (-1 : Int32) by rw [show (-1 : Int32) = zI (-1) from rfl, zI_eq (by omega) (by omega) (by decide) (by decide)]; omega)]
    by_cases c11 : y ≤ 11
    · have i11 : zI (y : Int) ≤ (11 : Int32) := by rw [show (11 : Int32) = zI ((11 : Nat) : Int) from rfl, leN (by omega) (by omega)]; exact c11
      rw [if_pos i11, if_pos i11, if_neg gc]
      unfold f_M_readDirect_J83
      rw [(rR_z hR3).2, if_pos (show (0 : Int32) ≤ 0 by decide)]
      unfold f_M_readDirect_J97
      rcases q_num N (by omega) hD y (by omega) hR3 with ⟨v, a5, p5, l5, f5, v', a6, t6, l6, f6, k1, k2, hX⟩ | ⟨v, a5, p5, l5, f5, a6, t6, l6, f6, v1, v2, k1, k2, hR5⟩
      · left
        have hx := rX_nz hX
        rw [(rR_z hR3).2] at k2
        rw [k1, k2]
        dsimp only [Option.bind_some]
        rw [if_neg hx.1, clN c (by omega), if_neg gc]
        unfold f_M_readDirect_J133 f_M_readDirect_J148
        rw [q_becX hx.2.1, q_becX hx.2.1]
        dsimp only [Option.bind_some]
        rw [clN c (by omega), if_neg gc]
        by_cases c1 : p' c + v' < (-1024 : Int32)
        · rw [if_pos c1]; exact ⟨a5, p5, l5, f5, p, a6, t6, l6, f6, mco, _, rfl, rfl, hX⟩
        · rw [if_neg c1]
          by_cases c2 : p' c + v' ≤ (1023 : Int32)
          · rw [if_pos c2]; exact ⟨a5, p5, l5, f5, p, a6, t6, l6, f6, mco, _, rfl, rfl, hX⟩
          · rw [if_neg c2]; exact ⟨a5, p5, l5, f5, p, a6, t6, l6, f6, mco, _, rfl, rfl, hX⟩
      · have hz5 := rR_z hR5
        have h2y : 2 ^ y ≤ 2048 := Nat.pow_le_pow_right (n := 2) (by omega) c11
        rw [(rR_z hR3).2] at k2
        rw [k1, k2]
        dsimp only [Option.bind_some]
        rw [if_pos hz5.1, clN c (by omega), if_neg gc, if_neg gc, pz1, pz2, zI_add, zI_mul]
        obtain ⟨u, hu⟩ : ∃ u : Int, u = pz + v := ⟨_, rfl⟩
        rw [← hu]
        have ub : -4000 ≤ u ∧ u ≤ 4000 := by omega
        have m1 := mul_bd (A := 4000) (by omega) ub (show (0 : Int) ≤ ((2 ^ bits : Nat) : Int) by omega) (by omega)
        unfold f_M_readDirect_J133 f_M_readDirect_J148
        rw [clN c (by omega)]
        simp only [if_neg gc]
        by_cases cb : cBe 0 (u * ((2 ^ bits : Nat) : Int))
        · right
          have cr : -1024 ≤ u * ((2 ^ bits : Nat) : Int) ∧ u * ((2 ^ bits : Nat) : Int) ≤ 1023 := cb
          have ur := mul_rng (v := u) (x := ((2 ^ bits : Nat) : Int)) (by omega) (-1024) 1023 (by omega) (by omega) cr
          rw [if_neg (show ¬ zI u < (-1024 : Int32) by rw [show (-1024 : Int32) = zI (-1024) from rfl, zI_lt (by omega) (by omega) (by omega) (by omega)]; omega), if_pos (show zI u ≤ (1023 : Int32) by rw [show (1023 : Int32) = zI 1023 from rfl, zI_le (by omega) (by omega) (by omega) (by omega)]; omega), shl_b bits (by omega), zI_mul]
          obtain ⟨co', mco', q1, q2, q3⟩ := q_keepY h hq hn (j := 0) (k' := 64) (by omega) (by omega) (by omega) cb hc hb hqT (fl := f5) hz5.2
          rw [show f_Decoder_keepIfCanBe (zI q) (0 : Int32) (zI (u * ((2 ^ bits : Nat) : Int))) nco co f5 K = some (co', f5) from q1, show f_M_become (zI c) (zI b) (0 : Int32) (zI (u * ((2 ^ bits : Nat) : Int))) f6 mb mco = some (f6, mco') from q2]
          exact ⟨co', a5, p5, l5, f5, _, a6, t6, l6, f6, mco', _, rfl, rfl, hR5, q3, rPP_upd hP c u ur⟩
        · left
          have n9 : ¬ cBe 0 9999 := fun h => absurd h.2 (by omega)
          have hX4 : rX (zI (4 : Nat)) (zI (4 : Nat)) := ⟨4, by omega, by omega, rfl, rfl⟩
          by_cases c1 : u < -1024
          · rw [if_pos (show zI u < (-1024 : Int32) by rw [show (-1024 : Int32) = zI (-1024) from rfl, zI_lt (by omega) (by omega) (by omega) (by omega)]; exact c1)]
            obtain ⟨q1, q2⟩ := q_keepN (K := K) (q := q) (co := co) (mco := mco) (nco := nco) (j := 0) (z := u * ((2 ^ bits : Nat) : Int)) (z' := 9999) (by omega) (by omega) (by omega) cb n9 (c := c) (b := b) (mb := mb) (fl := f5) hz5.2
            rw [show f_Decoder_keepIfCanBe (zI q) (0 : Int32) (zI (u * ((2 ^ bits : Nat) : Int))) nco co f5 K = some (co, zI (4 : Nat)) from q1, show f_M_become (zI c) (zI b) (0 : Int32) (9999 : Int32) f6 mb mco = some (zI (4 : Nat), mco) from q2]
            exact ⟨a5, p5, l5, _, _, a6, t6, l6, _, mco, _, rfl, rfl, hX4⟩
          · rw [if_neg (show ¬ zI u < (-1024 : Int32) by rw [show (-1024 : Int32) = zI (-1024) from rfl, zI_lt (by omega) (by omega) (by omega) (by omega)]; exact c1)]
            by_cases c2 : u ≤ 1023
            · rw [if_pos (show zI u ≤ (1023 : Int32) by rw [show (1023 : Int32) = zI 1023 from rfl, zI_le (by omega) (by omega) (by omega) (by omega)]; exact c2), shl_b bits (by omega), zI_mul]
              obtain ⟨q1, q2⟩ := q_keepN (K := K) (q := q) (co := co) (mco := mco) (nco := nco) (j := 0) (z := u * ((2 ^ bits : Nat) : Int)) (z' := u * ((2 ^ bits : Nat) : Int)) (by omega) (by omega) (by omega) cb cb (c := c) (b := b) (mb := mb) (fl := f5) hz5.2
              rw [show f_Decoder_keepIfCanBe (zI q) (0 : Int32) (zI (u * ((2 ^ bits : Nat) : Int))) nco co f5 K = some (co, zI (4 : Nat)) from q1, show f_M_become (zI c) (zI b) (0 : Int32) (zI (u * ((2 ^ bits : Nat) : Int))) f6 mb mco = some (zI (4 : Nat), mco) from q2]
              exact ⟨a5, p5, l5, _, _, a6, t6, l6, _, mco, _, rfl, rfl, hX4⟩
            · rw [if_neg (show ¬ zI u ≤ (1023 : Int32) by rw [show (1023 : Int32) = zI 1023 from rfl, zI_le (by omega) (by omega) (by omega) (by omega)]; exact c2)]
              obtain ⟨q1, q2⟩ := q_keepN (K := K) (q := q) (co := co) (mco := mco) (nco := nco) (j := 0) (z := u * ((2 ^ bits : Nat) : Int)) (z' := 9999) (by omega) (by omega) (by omega) cb n9 (c := c) (b := b) (mb := mb) (fl := f5) hz5.2
              rw [show f_Decoder_keepIfCanBe (zI q) (0 : Int32) (zI (u * ((2 ^ bits : Nat) : Int))) nco co f5 K = some (co, zI (4 : Nat)) from q1, show f_M_become (zI c) (zI b) (0 : Int32) (9999 : Int32) f6 mb mco = some (zI (4 : Nat), mco) from q2]
              exact ⟨a5, p5, l5, _, _, a6, t6, l6, _, mco, _, rfl, rfl, hX4⟩
    · left
      have i11 : ¬ zI (y : Int) ≤ (11 : Int32) := by rw [show (11 : Int32) = zI ((11 : Nat) : Int) from rfl, leN (by omega) (by omega)]; exact c11
      have hX3 : rX (zI (3 : Nat)) (zI (3 : Nat)) := ⟨3, by omega, by omega, rfl, rfl⟩
      have hx := rX_nz hX3
      obtain ⟨p4, h4⟩ := q_dirX N hN (size := zI dz) (at2 := a4) (tk := t4) (left := l4) hx.2.2.1 hx.2.1 md hc p' (zI b) mb mco (zI bits) (zI y)
      rw [if_neg i11, if_neg i11]
      unfold f_M_wrong f_M_wrong_J16
      rw [if_pos (rR_z hR3).2]
      dsimp only [Option.bind_some]
      rw [show f_M_readDirect_J83 N (3 : Int32) (zI y) (zI dz) a4 t4 l4 md (zI c) p' (zI b) mb mco (zI bits) = some (a4, t4, l4, zI (3 : Nat), mco, p4) from h4]
      exact ⟨a3, p3, l3, _, p, a4, t4, l4, _, mco, p4, rfl, rfl, hX3⟩
/-! READING: refined direct coefficients; the others of a first pass -/
theorem rB_0 {K : Int32} {q k : Nat} {co0 mco0 co mco : Nat → Int32} (h : rB K q k co0 mco0 co mco) (hK : K = zI 0) : co = co0 := by
  rcases h.2.2.2 with ⟨_, h⟩ | ⟨h, _⟩
  · exact h
  · rw [hK] at h; exact absurd h (by decide)
theorem rB_same {K : Int32} {q k : Nat} {co0 mco0 co mco : Nat → Int32} (h : rB K q k co0 mco0 co mco) {j : Nat} {z : Int32} (e : mco (q + j) = z) : rB K q k co0 mco0 co (upd mco (q + j) z) := by
  have : upd mco (q + j) z = mco := by
    funext i
    by_cases c : i = q + j
    · subst c; rw [upd_at, e]
    · rw [upd_ne c]
  rw [this]; exact h
theorem or_rng (z : Int) (b : Nat) (h0 : -1024 ≤ z) (h1 : z ≤ 1023) (hb : b ≤ 9) : ∃ z', zI z ||| zI ((2 ^ b : Nat) : Int) = zI z' ∧ -1024 ≤ z' ∧ z' ≤ 1023 := by
  have hb9 := pow9 hb
  obtain ⟨w, hw⟩ : ∃ w : Int, w = (zI z ||| zI ((2 ^ b : Nat) : Int)).toInt := ⟨_, rfl⟩
  have hr := i_rng (zI z ||| zI ((2 ^ b : Nat) : Int))
  have he : zI z ||| zI ((2 ^ b : Nat) : Int) = zI w := by rw [hw]; exact zI_of _
  rw [← hw] at hr
  refine ⟨w, he, ?_⟩
  have sh : zI w >>> (zI 10 &&& zI 31) = (zI z >>> (zI 10 &&& zI 31)) ||| (zI ((2 ^ b : Nat) : Int) >>> (zI 10 &&& zI 31)) := by
    rw [← he]
    apply Int32.toBitVec_inj.mp
    simp only [Int32.toBitVec_shiftRight, Int32.toBitVec_or]
    exact BitVec.sshiftRight_or_distrib _ _ _
  rw [zI_shr (by omega) (by omega) (by decide) (by decide), zI_shr (by omega) (by omega) (by decide) (by decide), zI_shr (by omega) (by omega) (by decide) (by decide)] at sh
  have e1 : (2 : Int) ^ (10 : Int).toNat = 1024 := by decide
  rw [e1] at sh
  have e2 : ((2 ^ b : Nat) : Int) / 1024 = 0 := by omega
  rw [e2, show ∀ x : Int32, x ||| zI 0 = x from fun x => by show x ||| (0 : Int32) = x; exact Int32.or_zero, ] at sh
  have sh2 : w / 1024 = z / 1024 := by
    have := zI_eq (a := w / 1024) (b := z / 1024) (by omega) (by omega) (by omega) (by omega)
    exact this.mp sh
  omega
theorem q_rDir (N : Nat) (hN : 1000 ≤ N) {D : Nat → Nat} {dz nb : Nat} {sb md : Nat → Int32} (hD : rDt D dz nb sb md) {K : Int32} {q : Nat} {co0 mco0 co mco : Nat → Int32} (h : rB K q 64 co0 mco0 co mco) {nco : Nat} (hq : q + 64 ≤ nco) (hn : nco ≤ 12288) {c T b bits bf : Nat} (hc : c < 4) {mb : Nat → Int32} (hb : mb c = zI (T : Nat)) (hqT : q = 64 * (T + b)) (hbits : bits ≤ 9) (hbf : 0 < bf) (hbf2 : bf ≤ 100) (p' ln cd dt' : Nat → Int32) {at1 part left fl at2 tk left2 fl2 : Int32} (hR : rR dz at1 part left fl at2 tk left2 fl2) :
    (∃ at3 part3 left3 fl3 at4 tk4 left4 fl4 mco4, f_Decoder_refineDirect N (zI q) nco co (zI bits) (zI dz) nb sb at1 part left fl K = some (co, at3, part3, left3, fl3) ∧ f_M_readDirect N (zI c) (zI b) (zI bf) (zI bits) (zI dz) at2 tk left2 fl2 mb mco ln cd dt' md p' = some (at4, tk4, left4, fl4, mco4, p') ∧ rX fl3 fl4) ∨
    (∃ co3 at3 part3 left3 fl3 at4 tk4 left4 fl4 mco4, f_Decoder_refineDirect N (zI q) nco co (zI bits) (zI dz) nb sb at1 part left fl K = some (co3, at3, part3, left3, fl3) ∧ f_M_readDirect N (zI c) (zI b) (zI bf) (zI bits) (zI dz) at2 tk left2 fl2 mb mco ln cd dt' md p' = some (at4, tk4, left4, fl4, mco4, p') ∧ rR dz at3 part3 left3 fl3 at4 tk4 left4 fl4 ∧ rB K q 64 co0 mco0 co3 mco4) := by
  have gc := inN c 4 hc (by omega)
  have gq := inN q 12288 (by omega) (by omega)
  have gq' := inN q nco (by omega) (by omega)
  obtain ⟨z, z1, z2⟩ := h.2.2.1 0 (by omega)
  rw [Nat.add_zero] at z1
  have zr := okC_rng z2
  have e64 : (64 : Int32) * (zI (T : Int) + zI (b : Int)) = zI (q : Int) := by
    rw [hqT, zI_lit, zI_add, zI_mul]; rfl
  unfold f_Decoder_refineDirect f_M_readDirect f_M_readDirect_J54
  rw [clN c (by omega), if_neg gc, if_neg (show ¬ zI (bf : Int) ≤ 0 by rw [show (0 : Int32) = zI ((0 : Nat) : Int) from rfl, leN (by omega) (by omega)]; omega), hb, e64, clN q (by omega)]
  simp only [if_neg gq, if_neg gq', shl_b bits (show bits ≤ 15 by omega), z1]
  rcases q_bit1 N (by omega) hD hR with ⟨a3, p3, l3, f3, a4, t4, l4, f4, h1, h2, hX⟩ | ⟨y, a3, p3, l3, f3, a4, t4, l4, f4, hy, h1, h2, hR3⟩
  · left
    rw [h1, h2]
    dsimp only [Option.bind_some]
    have n1 : ¬ zI (-1) = (1 : Int32) := by rw [show (1 : Int32) = zI 1 from rfl, zI_eq (by decide) (by decide) (by decide) (by decide)]; decide
    rw [if_neg n1, if_neg (show ¬ zI 0 = (1 : Int32) by decide)]
    exact ⟨_, _, _, _, _, _, _, _, _, rfl, rfl, hX⟩
  · right
    rw [h1, h2]
    dsimp only [Option.bind_some]
    by_cases y1 : y = 1
    · subst y1
      rw [if_pos (show zI ((1 : Nat) : Int) = (1 : Int32) from rfl), if_pos (show zI ((1 : Nat) : Int) = (1 : Int32) from rfl)]
      obtain ⟨z', k1, k2, k3⟩ := or_rng z bits zr.1 zr.2 hbits
      rw [k1, zI_short (by omega) (by omega), zI_shortN (by omega) (by omega)]
      obtain ⟨co', m1, m2⟩ := rB_keep h hq hn (j := 0) (k' := 64) (z := z') (by omega) (by omega) (by omega) ⟨k2, k3, fun h => absurd rfl h⟩
      rw [Nat.add_zero] at m1 m2
      have : f_Decoder_keep (zI q) (co q ||| zI ((2 ^ bits : Nat) : Int)) nco co K = some co' := by
        rcases h.2.2.2 with ⟨rfl, _⟩ | ⟨rfl, _, h6⟩
        · unfold f_Decoder_keep at m1 ⊢
          rw [if_pos (show zI 0 = 0 from rfl)] at m1 ⊢
          exact m1
        · have := h6 0 (by omega)
          rw [Nat.add_zero] at this
          rw [this, z1, k1]
          exact m1
      rw [this]
      exact ⟨_, _, _, _, _, _, _, _, _, _, rfl, rfl, hR3, m2⟩
    · have y0 : ¬ zI (y : Int) = (1 : Int32) := by rw [show (1 : Int32) = zI ((1 : Nat) : Int) from rfl, eqN (by omega) (by omega)]; exact y1
      rw [if_neg y0, if_neg y0, zI_short (by omega) (by omega), zI_shortN (by omega) (by omega)]
      exact ⟨_, _, _, _, _, _, _, _, _, _, rfl, rfl, hR3, by have := rB_same h (j := 0) (z := zI z) (by rw [Nat.add_zero]; exact z1); rw [Nat.add_zero] at this; exact this⟩
theorem q_clr (N : Nat) {K : Int32} {q : Nat} {co0 mco0 : Nat → Int32} {nco : Nat} (hq : q + 64 ≤ nco) (hn : nco ≤ 12288) {c T b last : Nat} (hc : c < 4) {mb : Nat → Int32} (hb : mb c = zI (T : Nat)) (hqT : q = 64 * (T + b)) (hlast : last ≤ 63) : ∀ (j k fuel fuel' : Nat) (co mco : Nat → Int32), k + j = last + 1 → j < fuel → j < fuel' → rB K q 64 co0 mco0 co mco →
    ∃ co' mco', f_Decoder_clearOthers_L2 (zI last) (zI q) nco K N fuel (zI k, co) = some co' ∧ f_M_readOthers_L17 (zI last) (zI c) mb (zI b) N fuel' (zI k, mco) = some mco' ∧ rB K q 64 co0 mco0 co' mco'
  | 0, k, fuel, fuel', co, mco, hj, hf, hf', h => by
    obtain ⟨fuel, rfl⟩ : ∃ j, fuel = j + 1 := ⟨fuel - 1, by omega⟩
    obtain ⟨fuel', rfl⟩ : ∃ j, fuel' = j + 1 := ⟨fuel' - 1, by omega⟩
    have c1 : zI (last : Int) < zI (k : Int) := by rw [ltN (by omega) (by omega)]; omega
    refine ⟨co, mco, ?_, ?_, h⟩
    · unfold f_Decoder_clearOthers_L2
      rw [it_succ]
      unfold f_Decoder_clearOthers_L2b
      rw [if_pos c1]
    · unfold f_M_readOthers_L17
      rw [it_succ]
      unfold f_M_readOthers_L17b
      rw [if_pos c1]
  | j + 1, k, fuel, fuel', co, mco, hj, hf, hf', h => by
    obtain ⟨fuel, rfl⟩ : ∃ j, fuel = j + 1 := ⟨fuel - 1, by omega⟩
    obtain ⟨fuel', rfl⟩ : ∃ j, fuel' = j + 1 := ⟨fuel' - 1, by omega⟩
    have c1 : ¬ zI (last : Int) < zI (k : Int) := by rw [ltN (by omega) (by omega)]; omega
    obtain ⟨co1, k1, k2⟩ := rB_keep h hq hn (j := k) (k' := 64) (z := 0) (by omega) (by omega) (by omega) ⟨by omega, by omega, fun _ => by omega⟩
    obtain ⟨co2, mco2, m1, m2, m3⟩ := q_clr N hq hn hc hb hqT hlast j (k + 1) fuel fuel' co1 (upd mco (q + k) (zI 0)) (by omega) (by omega) (by omega) k2
    refine ⟨co2, mco2, ?_, ?_, m3⟩
    · rw [← m1]
      show f_Decoder_clearOthers_L2b _ _ _ _ N (f_Decoder_clearOthers_L2 _ _ _ _ N fuel) _ _ = _
      unfold f_Decoder_clearOthers_L2b
      rw [if_neg c1, zI_add, show (q : Int) + k = ((q + k : Nat) : Int) by omega, show f_Decoder_keep (zI ((q + k : Nat) : Int)) (0 : Int32) nco co K = some co1 from k1]
      dsimp only [Option.bind_some]
      rw [suN]
    · rw [← m2]
      show f_M_readOthers_L17b _ _ _ _ N (f_M_readOthers_L17 _ _ _ _ N fuel') _ _ = _
      unfold f_M_readOthers_L17b
      rw [if_neg c1, clN c (by omega), if_neg (inN c 4 hc (by omega)), hb, ixM, clN _ (by omega), if_neg (inN _ _ (by omega) (by omega)), suN, ← hqT, show vp_nar .short (0 : Int32) = zI 0 from zI_shortN (z := 0) (by omega) (by omega)]
