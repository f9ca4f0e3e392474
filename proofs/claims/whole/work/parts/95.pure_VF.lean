/-! READING: several bits, words, numbers, both sides -/
def rR (sz : Nat) (at1 part left fl at2 tk left2 fl2 : Int32) : Prop := ∃ a p l : Nat, a ≤ sz ∧ p < 256 ∧ l ≤ 8 ∧ at1 = zI (a : Nat) ∧ at2 = zI (a : Nat) ∧ left = zI (l : Nat) ∧ left2 = zI (l : Nat) ∧ (l = 0 ∨ part = zI (p : Nat) ∧ tk = zI (p : Nat)) ∧ fl = zI 0 ∧ fl2 = zI 0
def rX (fl fl2 : Int32) : Prop := ∃ f : Nat, 1 ≤ f ∧ f ≤ 6 ∧ fl = zI (f : Nat) ∧ fl2 = zI (f : Nat)
theorem rX_nz {fl fl2 : Int32} (h : rX fl fl2) : ¬ fl = 0 ∧ ¬ fl2 = 0 ∧ ¬ fl2 ≤ 0 ∧ ¬ fl ≤ 0 := by
  obtain ⟨f, h1, h2, rfl, rfl⟩ := h
  have a : ¬ zI (f : Int) = 0 := nzN (by omega) (by omega)
  have b : ¬ zI (f : Int) ≤ 0 := by rw [show (0 : Int32) = zI ((0 : Nat) : Int) from rfl, leN (by omega) (by omega)]; omega
  exact ⟨a, a, b, b⟩
theorem rR_z {sz : Nat} {at1 part left fl at2 tk left2 fl2 : Int32} (h : rR sz at1 part left fl at2 tk left2 fl2) : fl = 0 ∧ fl2 = 0 := by
  obtain ⟨a, p, l, _, _, _, _, _, _, _, _, h1, h2⟩ := h
  exact ⟨h1, h2⟩
/-- the reference's take behind a fault -/
theorem q_takeX {size at2 tk left fl : Int32} (h : ¬ fl ≤ 0) (md : Nat → Int32) : f_M_take size at2 tk left fl md = some (zI 0, at2, tk, left, fl) := by
  unfold f_M_take
  rw [if_neg h]
  rfl
theorem q_takesX (N : Nat) {size at2 tk left fl : Int32} (h : ¬ fl ≤ 0) (md : Nat → Int32) (n : Nat) (hn : n ≤ 32) : ∀ (j i fuel : Nat) (v : Int32), i + j = n → j < fuel → ∃ v', f_M_takes_L4 (zI n) size md N fuel (v, zI i, at2, tk, left, fl) = some (v', at2, tk, left, fl)
  | 0, i, fuel, v, hi, hf => by
    obtain ⟨fuel, rfl⟩ : ∃ j, fuel = j + 1 := ⟨fuel - 1, by omega⟩
    refine ⟨v, ?_⟩
    unfold f_M_takes_L4
    rw [it_succ]
    unfold f_M_takes_L4b
    rw [if_pos (by rw [leN (by omega) (by omega)]; omega)]
  | j + 1, i, fuel, v, hi, hf => by
    obtain ⟨fuel, rfl⟩ : ∃ j, fuel = j + 1 := ⟨fuel - 1, by omega⟩
    obtain ⟨v', h'⟩ := q_takesX N (size := size) (at2 := at2) (tk := tk) (left := left) h md n hn j (i + 1) fuel ((2 : Int32) * v + zI 0) (by omega) (by omega)
    refine ⟨v', ?_⟩
    unfold f_M_takes_L4 at h' ⊢
    rw [it_succ]
    show f_M_takes_L4b _ _ _ _ _ _ _ _ _ _ _ = _
    unfold f_M_takes_L4b
    rw [if_neg (by rw [leN (by omega) (by omega)]; omega), q_takeX h]
    dsimp only [Option.bind_some]
    rw [suN i]
    exact h'
theorem q_bitsL (N : Nat) {D : Nat → Nat} {sz nb : Nat} {sb md : Nat → Int32} (hD : rDt D sz nb sb md) (n : Nat) (hn : n ≤ 16) : ∀ (j i fuel fuel' v : Nat) (at1 part left fl at2 tk left2 fl2 : Int32), i + j = n → j < fuel → j < fuel' → v < 2 ^ i → rR sz at1 part left fl at2 tk left2 fl2 →
    (∃ w at3 part3 left3 fl3 v' at4 tk4 left4 fl4, f_BitReader_takeBits_L4 (zI n) (zI sz) nb sb N fuel (zI v, zI i, at1, part, left, fl) = some (0, w, at3, part3, left3, fl3) ∧ f_M_takes_L4 (zI n) (zI sz) md N fuel' (zI v, zI i, at2, tk, left2, fl2) = some (v', at4, tk4, left4, fl4) ∧ rX fl3 fl4) ∨
    (∃ v' at3 part3 left3 fl3 at4 tk4 left4 fl4, v' < 2 ^ n ∧ f_BitReader_takeBits_L4 (zI n) (zI sz) nb sb N fuel (zI v, zI i, at1, part, left, fl) = some (1, zI (v' : Nat), at3, part3, left3, fl3) ∧ f_M_takes_L4 (zI n) (zI sz) md N fuel' (zI v, zI i, at2, tk, left2, fl2) = some (zI (v' : Nat), at4, tk4, left4, fl4) ∧ rR sz at3 part3 left3 fl3 at4 tk4 left4 fl4)
  | 0, i, fuel, fuel', v, at1, part, left, fl, at2, tk, left2, fl2, hi, hf, hf', hv, hR => by
    obtain ⟨fuel, rfl⟩ : ∃ j, fuel = j + 1 := ⟨fuel - 1, by omega⟩
    obtain ⟨fuel', rfl⟩ : ∃ j, fuel' = j + 1 := ⟨fuel' - 1, by omega⟩
    right
    refine ⟨v, at1, part, left, fl, at2, tk, left2, fl2, by rw [← hi]; exact hv, ?_, ?_, hR⟩
    · unfold f_BitReader_takeBits_L4
      rw [it_succ]
      unfold f_BitReader_takeBits_L4b
      rw [if_pos (by rw [leN (by omega) (by omega)]; omega)]
    · unfold f_M_takes_L4
      rw [it_succ]
      unfold f_M_takes_L4b
      rw [if_pos (by rw [leN (by omega) (by omega)]; omega)]
  | j + 1, i, fuel, fuel', v, at1, part, left, fl, at2, tk, left2, fl2, hi, hf, hf', hv, hR => by
    obtain ⟨fuel, rfl⟩ : ∃ j, fuel = j + 1 := ⟨fuel - 1, by omega⟩
    obtain ⟨fuel', rfl⟩ : ∃ j, fuel' = j + 1 := ⟨fuel' - 1, by omega⟩
    have h16 : 2 ^ i ≤ 65536 := pow16 (by omega)
    obtain ⟨a, p, l, r1, r2, r3, rfl, rfl, rfl, rfl, r4, rfl, rfl⟩ := hR
    have eM : f_M_takes_L4 (zI n) (zI sz) md N (fuel' + 1) (zI v, zI i, zI a, tk, zI l, zI 0) = (f_M_take (zI sz) (zI a) tk (zI l) (zI 0) md).bind fun z1 => f_M_takes_L4 (zI n) (zI sz) md N fuel' (((2 : Int32) * zI v) + z1.1, zI (i + 1 : Nat), z1.2.1, z1.2.2.1, z1.2.2.2.1, z1.2.2.2.2) := by
      conv => lhs; unfold f_M_takes_L4
      rw [it_succ]
      show f_M_takes_L4b _ _ _ _ _ _ _ _ _ _ _ = _
      unfold f_M_takes_L4b
      rw [if_neg (by rw [leN (by omega) (by omega)]; omega), suN i]
      rfl
    have eC : f_BitReader_takeBits_L4 (zI n) (zI sz) nb sb N (fuel + 1) (zI v, zI i, zI a, part, zI l, zI 0) = f_BitReader_takeBits_L4b (zI n) (zI sz) nb sb N (f_BitReader_takeBits_L4 (zI n) (zI sz) nb sb N fuel) (zI v) (zI i) (zI a) part (zI l) (zI 0) := by
      conv => lhs; unfold f_BitReader_takeBits_L4
      rw [it_succ]
      rfl
    rw [eM, eC]
    rcases q_one N hD r1 r2 r3 r4 v i n (by omega) (by omega) (by omega) (f_BitReader_takeBits_L4 (zI n) (zI sz) nb sb N fuel) with ⟨f, j1, j2, j3, j4, j5, j6, hf1, h1, h2⟩ | ⟨b, a', p', l', b1, b2, b3, b4, h1, h2⟩
    · left
      have hX : rX (zI (f : Nat)) (zI (f : Nat)) := ⟨f, by omega, by omega, rfl, rfl⟩
      obtain ⟨v', h'⟩ := q_takesX N (size := zI sz) (at2 := j4) (tk := j5) (left := j6) (rX_nz hX).2.2.1 md n (by omega) j (i + 1) fuel' ((2 : Int32) * zI v + zI 0) (by omega) (by omega)
      rw [h1, h2]
      exact ⟨_, _, _, _, _, v', _, _, _, _, rfl, h', hX⟩
    · rw [h1, h2]
      dsimp only [Option.bind_some]
      have e2 : (2 : Int32) * zI (v : Int) + zI (b : Int) = zI ((2 * v + b : Nat) : Int) := by
        rw [zI_lit, zI_mul, zI_add]; rfl
      rw [e2]
      exact q_bitsL N hD n hn j (i + 1) fuel fuel' (2 * v + b) (zI a') (zI p') (zI l') (zI 0) (zI a') (zI p') (zI l') (zI 0) (by omega) (by omega) (by omega) (by rw [Nat.pow_succ]; omega) ⟨a', p', l', b2, b3, by omega, rfl, rfl, rfl, rfl, Or.inr ⟨rfl, rfl⟩, rfl, rfl⟩
/-- several bits -/
theorem q_bits (N : Nat) (hN : 100 ≤ N) {D : Nat → Nat} {sz nb : Nat} {sb md : Nat → Int32} (hD : rDt D sz nb sb md) (n : Nat) (hn : n ≤ 16) {at1 part left fl at2 tk left2 fl2 : Int32} (hR : rR sz at1 part left fl at2 tk left2 fl2) :
    (∃ at3 part3 left3 fl3 v' at4 tk4 left4 fl4, f_BitReader_takeBits N (zI n) (zI sz) nb sb at1 part left fl = some (zI (-1), at3, part3, left3, fl3) ∧ f_M_takes N (zI n) (zI sz) at2 tk left2 fl2 md = some (v', at4, tk4, left4, fl4) ∧ rX fl3 fl4) ∨
    (∃ v' at3 part3 left3 fl3 at4 tk4 left4 fl4, v' < 2 ^ n ∧ f_BitReader_takeBits N (zI n) (zI sz) nb sb at1 part left fl = some (zI (v' : Nat), at3, part3, left3, fl3) ∧ f_M_takes N (zI n) (zI sz) at2 tk left2 fl2 md = some (zI (v' : Nat), at4, tk4, left4, fl4) ∧ rR sz at3 part3 left3 fl3 at4 tk4 left4 fl4) := by
  unfold f_BitReader_takeBits f_M_takes
  rcases q_bitsL N hD n hn n 0 N N 0 at1 part left fl at2 tk left2 fl2 (by omega) (by omega) (by omega) (by omega) hR with ⟨w, a3, p3, l3, f3, v', a4, t4, l4, f4, h1, h2, h3⟩ | ⟨v', a3, p3, l3, f3, a4, t4, l4, f4, h0, h1, h2, h3⟩
  · left
    refine ⟨a3, p3, l3, f3, v', a4, t4, l4, f4, ?_, ?_, h3⟩
    · rw [show (f_BitReader_takeBits_L4 (zI n) (zI sz) nb sb N N ((0 : Int32), (0 : Int32), at1, part, left, fl)) = some (0, w, a3, p3, l3, f3) from h1]
      rfl
    · rw [show f_M_takes_L4 (zI n) (zI sz) md N N ((0 : Int32), (0 : Int32), at2, tk, left2, fl2) = some (v', a4, t4, l4, f4) from h2]
      rfl
  · right
    refine ⟨v', a3, p3, l3, f3, a4, t4, l4, f4, h0, ?_, ?_, h3⟩
    · rw [show (f_BitReader_takeBits_L4 (zI n) (zI sz) nb sb N N ((0 : Int32), (0 : Int32), at1, part, left, fl)) = some (1, zI (v' : Nat), a3, p3, l3, f3) from h1]
      rfl
    · rw [show f_M_takes_L4 (zI n) (zI sz) md N N ((0 : Int32), (0 : Int32), at2, tk, left2, fl2) = some (zI (v' : Nat), a4, t4, l4, f4) from h2]
      rfl
/-- one bit: takeBits(1) and take -/
theorem q_bit1 (N : Nat) (hN : 100 ≤ N) {D : Nat → Nat} {sz nb : Nat} {sb md : Nat → Int32} (hD : rDt D sz nb sb md) {at1 part left fl at2 tk left2 fl2 : Int32} (hR : rR sz at1 part left fl at2 tk left2 fl2) :
    (∃ at3 part3 left3 fl3 at4 tk4 left4 fl4, f_BitReader_takeBits N (1 : Int32) (zI sz) nb sb at1 part left fl = some (zI (-1), at3, part3, left3, fl3) ∧ f_M_take (zI sz) at2 tk left2 fl2 md = some (zI 0, at4, tk4, left4, fl4) ∧ rX fl3 fl4) ∨
    (∃ v' at3 part3 left3 fl3 at4 tk4 left4 fl4, v' < 2 ∧ f_BitReader_takeBits N (1 : Int32) (zI sz) nb sb at1 part left fl = some (zI (v' : Nat), at3, part3, left3, fl3) ∧ f_M_take (zI sz) at2 tk left2 fl2 md = some (zI (v' : Nat), at4, tk4, left4, fl4) ∧ rR sz at3 part3 left3 fl3 at4 tk4 left4 fl4) := by
  obtain ⟨a, p, l, r1, r2, r3, rfl, rfl, rfl, rfl, r4, rfl, rfl⟩ := hR
  obtain ⟨M, rfl⟩ : ∃ M, N = M + 2 := ⟨N - 2, by omega⟩
  unfold f_BitReader_takeBits
  have eC : f_BitReader_takeBits_L4 (1 : Int32) (zI sz) nb sb (M + 2) (M + 2) ((0 : Int32), (0 : Int32), zI a, part, zI l, zI 0) = f_BitReader_takeBits_L4b (zI (1 : Nat)) (zI sz) nb sb (M + 2) (f_BitReader_takeBits_L4 (1 : Int32) (zI sz) nb sb (M + 2) (M + 1)) (zI (0 : Nat)) (zI (0 : Nat)) (zI a) part (zI l) (zI 0) := by
    conv => lhs; unfold f_BitReader_takeBits_L4
    rw [it_succ]
    rfl
  rw [eC]
  rcases q_one (M + 2) hD r1 r2 r3 r4 0 0 1 (by omega) (by omega) (by omega) (f_BitReader_takeBits_L4 (1 : Int32) (zI sz) nb sb (M + 2) (M + 1)) with ⟨f, j1, j2, j3, j4, j5, j6, hf1, h1, h2⟩ | ⟨b, a', p', l', b1, b2, b3, b4, h1, h2⟩
  · left
    rw [h1, h2]
    exact ⟨_, _, _, _, _, _, _, _, rfl, rfl, ⟨f, by omega, by omega, rfl, rfl⟩⟩
  · right
    rw [h1, h2]
    have e : f_BitReader_takeBits_L4 (1 : Int32) (zI sz) nb sb (M + 2) (M + 1) (zI (2 * 0 + b : Nat), zI (0 + 1 : Nat), zI (a' : Nat), zI (p' : Nat), zI (l' : Nat), zI 0) = some (1, zI (2 * 0 + b : Nat), zI (a' : Nat), zI (p' : Nat), zI (l' : Nat), zI 0) := by
      unfold f_BitReader_takeBits_L4
      rw [it_succ]
      unfold f_BitReader_takeBits_L4b
      rw [if_pos (show (1 : Int32) ≤ zI ((0 + 1 : Nat) : Int) by decide)]
    rw [e]
    refine ⟨b, _, _, _, _, _, _, _, _, b1, ?_, rfl, ⟨a', p', l', b2, b3, by omega, rfl, rfl, rfl, rfl, Or.inr ⟨rfl, rfl⟩, rfl, rfl⟩⟩
    rw [show 2 * 0 + b = b by omega]
    rfl
