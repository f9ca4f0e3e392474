/-! loops that count; the frame in numbers -/
theorem it_cnt {α β : Type} {b : (α → Option β) → α → Option β} (P : Nat → α → Prop) (R : β → Prop) (n : Nat)
    (hs : ∀ (g : α → Option β) (c : Nat) (a : α), c < n → P c a → (∀ a', P (c + 1) a' → ∃ z, g a' = some z ∧ R z) → ∃ z, b g a = some z ∧ R z)
    (he : ∀ (g : α → Option β) (a : α), P n a → ∃ z, b g a = some z ∧ R z) :
    ∀ (k c : Nat) (a : α), P c a → c ≤ n → n - c < k → ∃ z, it b k a = some z ∧ R z := by
  intro k
  induction k with
  | zero => intro c a _ _ h; omega
  | succ k ih =>
    intro c a hP hc hk
    rw [it_succ]
    by_cases h : c = n
    · subst h; exact he _ a hP
    · exact hs _ c a (by omega) hP (fun a' h' => ih (c + 1) a' h' (by omega) (by omega))
theorem it_cnt1 {α β : Type} {b : (α → Option β) → α → Option β} (st : Nat → α) (z : β) (n : Nat)
    (hs : ∀ (g : α → Option β) (c : Nat), c < n → g (st (c + 1)) = some z → b g (st c) = some z)
    (he : ∀ (g : α → Option β), b g (st n) = some z) (k c : Nat) (hc : c ≤ n) (hk : n - c < k) : it b k (st c) = some z := by
  obtain ⟨y, h1, h2⟩ := it_cnt (b := b) (fun c a => a = st c) (fun y => y = z) n (fun g c a h1 h2 h3 => by
    subst h2
    obtain ⟨y, h4, h5⟩ := h3 _ rfl
    exact ⟨z, hs g c h1 (by rw [h4, h5]), rfl⟩) (fun g a h => by subst h; exact ⟨z, he g, rfl⟩) k c (st c) rfl hc hk
  rw [h1, h2]
def jzH (s c : Nat) : Nat := 1 + s / 2 ^ (2 * c) % 2
def jzM (s : Nat) : Nat → Nat
  | 0 => 1
  | n + 1 => max (jzM s n) (jzH s n)
def jzC (a b : Nat) : Nat := (a + b - 1) / b
def jzO (w h m : Nat) : Nat := jzC (jzC (w * h) m) 8
/-- where the blocks of component c begin: U x V units -/
def jzS (s u : Nat) : Nat → Nat
  | 0 => 0
  | c + 1 => jzS s u c + u * (jzH s c * jzH (s / 2) c)
theorem jzH_rng (s c : Nat) : 1 ≤ jzH s c ∧ jzH s c ≤ 2 := by unfold jzH; omega
theorem jzM_rng (s n : Nat) : 1 ≤ jzM s n ∧ jzM s n ≤ 2 := by
  induction n with
  | zero => exact ⟨Nat.le_refl 1, (by decide : 1 ≤ 2)⟩
  | succ n ih => have := jzH_rng s n; unfold jzM; omega
theorem jzM_le (s n c : Nat) (h : c < n) : jzH s c ≤ jzM s n := by
  induction n with
  | zero => omega
  | succ n ih =>
    unfold jzM
    by_cases e : c = n
    · subst e; omega
    · have := ih (by omega); omega
theorem sh_half (s c : Nat) : s / 2 / 2 ^ (2 * c) = s / 2 ^ (2 * c + 1) := by
  rw [Nat.div_div_eq_div_mul, Nat.pow_succ, Nat.mul_comm]
theorem p_shr (a k : Nat) : ((a : Int) / 2 ^ k) = ((a / 2 ^ k : Nat) : Int) := by
  rw [Int.natCast_ediv, Int.natCast_pow]; rfl
theorem q_factor (s c : Nat) (hs : s < 256) (hc : c < 4) : f_Picture_factor (zI c) (zI s) = some (zI (jzH s c : Nat)) := by
  unfold f_Picture_factor jzH
  simp (disch := omega) only [zI_lit, zI_ofNat, zI_nI, zI_neg, zI_add, zI_sub, zI_mul, zI_lt, zI_le, zI_eq, zI_cl, zI_div, zI_shr, zI_shl, zI_and1, zI_and7, zI_and15, zI_and255, if_pos, if_neg, Option.bind_some, Option.bind_none, if_true, if_false, true_or, or_true, Int.toNat_natCast, pk_us]
  rw [show ((2 : Int) * c).toNat = 2 * c by omega, p_shr]
  congr 2
theorem q_greatest (N : Nat) (hN : 100 ≤ N) (s n : Nat) (hs : s < 256) (hn : n ≤ 4) : f_Picture_greatest N (zI n) (zI s) = some (zI (jzM s n : Nat)) := by
  unfold f_Picture_greatest
  have := it_cnt1 (b := fun rec a => f_Picture_greatest_L4b (zI n) (zI s) N rec a.1 a.2) (fun c => (zI (jzM s c : Nat), zI c)) (zI (jzM s n : Nat)) n (fun g c hc hg => by
    unfold f_Picture_greatest_L4b
    have h1 := jzM_rng s c
    have h2 := jzH_rng s c
    dsimp only
    rw [q_factor s c hs (by omega)]
    simp (disch := omega) only [zI_lit, zI_ofNat, zI_nI, zI_neg, zI_add, zI_sub, zI_mul, zI_lt, zI_le, zI_eq, zI_cl, zI_div, zI_shr, zI_shl, zI_and1, zI_and7, zI_and15, zI_and255, if_pos, if_neg, Option.bind_some, Option.bind_none, if_true, if_false, true_or, or_true, Int.toNat_natCast, pk_us]
    rw [← hg]
    congr 1
    rw [show jzM s (c + 1) = max (jzM s c) (jzH s c) from rfl]
    by_cases h : jzM s c < jzH s c
    · simp (disch := omega) only [zI_lit, zI_ofNat, zI_nI, zI_neg, zI_add, zI_sub, zI_mul, zI_lt, zI_le, zI_eq, zI_cl, zI_div, zI_shr, zI_shl, zI_and1, zI_and7, zI_and15, zI_and255, if_pos, if_neg, Option.bind_some, Option.bind_none, if_true, if_false, true_or, or_true, Int.toNat_natCast, pk_us]
      rw [Nat.max_eq_right (by omega)]; rfl
    · simp (disch := omega) only [zI_lit, zI_ofNat, zI_nI, zI_neg, zI_add, zI_sub, zI_mul, zI_lt, zI_le, zI_eq, zI_cl, zI_div, zI_shr, zI_shl, zI_and1, zI_and7, zI_and15, zI_and255, if_pos, if_neg, Option.bind_some, Option.bind_none, if_true, if_false, true_or, or_true, Int.toNat_natCast, pk_us]
      rw [Nat.max_eq_left (by omega)]; rfl) (fun g => by
    unfold f_Picture_greatest_L4b
    simp (disch := omega) only [zI_lit, zI_ofNat, zI_nI, zI_neg, zI_add, zI_sub, zI_mul, zI_lt, zI_le, zI_eq, zI_cl, zI_div, zI_shr, zI_shl, zI_and1, zI_and7, zI_and15, zI_and255, if_pos, if_neg, Option.bind_some, Option.bind_none, if_true, if_false, true_or, or_true, Int.toNat_natCast, pk_us]) N 0 (by omega) (by omega)
  unfold f_Picture_greatest_L4
  show (it _ N (zI (jzM s 0 : Nat), zI (0 : Nat))).bind _ = _
  rw [this]
  rfl
