/-! WRITING: what a scan sends, as a list: (0, t, s) a word, (1, b, 0) a bit, (2, 0, 0) the end of a byte, (3, m, 0) a restart -/
def evB (v : Int) : Nat → List (Nat × Nat × Nat)
  | 0 => []
  | n + 1 => (1, (v / 2 ^ n % 2).toNat, 0) :: evB v n
def jzSz : Nat → Nat → Nat
  | 0, _ => 0
  | k + 1, a => if a = 0 then 0 else jzSz k (a / 2) + 1
def szN (a : Nat) : Nat := jzSz 32 a
theorem jzSz_0 (k : Nat) : jzSz k 0 = 0 := by cases k <;> simp [jzSz]
theorem jzSz_le : ∀ (k m a : Nat), a < 2 ^ m → jzSz k a ≤ m
  | 0, _, _, _ => Nat.zero_le _
  | k + 1, m, a, h => by
    unfold jzSz
    by_cases e : a = 0
    · rw [if_pos e]; omega
    · rw [if_neg e]
      cases m with
      | zero => simp at h; omega
      | succ m =>
        have := jzSz_le k m (a / 2) (by rw [Nat.pow_succ] at h; omega)
        omega
theorem jzSz_at : ∀ (l k a : Nat), l < k → 2 ^ l ≤ a → a < 2 ^ (l + 1) → jzSz k a = l + 1
  | 0, k, a, h0, h1, h2 => by
    obtain ⟨k, rfl⟩ : ∃ j, k = j + 1 := ⟨k - 1, by omega⟩
    have : a = 1 := by simp at h1 h2; omega
    subst this
    unfold jzSz
    rw [if_neg (by omega), jzSz_0]
  | l + 1, k, a, h0, h1, h2 => by
    obtain ⟨k, rfl⟩ : ∃ j, k = j + 1 := ⟨k - 1, by omega⟩
    have hp : 1 ≤ 2 ^ l := Nat.one_le_two_pow
    have e1 : 2 ^ (l + 1) = 2 * 2 ^ l := by rw [Nat.pow_succ]; omega
    have e2 : 2 ^ (l + 1 + 1) = 2 * (2 * 2 ^ l) := by rw [Nat.pow_succ, e1]; omega
    unfold jzSz
    rw [if_neg (by omega), jzSz_at l k (a / 2) (by omega) (by omega) (by omega)]
theorem szN_0 : szN 0 = 0 := jzSz_0 32
theorem szN_pos {a : Nat} (h : 0 < a) : 1 ≤ szN a := by
  unfold szN
  show 1 ≤ (if a = 0 then 0 else jzSz 31 (a / 2) + 1)
  rw [if_neg (by omega)]; omega
theorem szN_le {a m : Nat} (h : a < 2 ^ m) : szN a ≤ m := jzSz_le 32 m a h
theorem q_sizeL (N : Nat) : ∀ (k a c fuel : Nat), a < 2 ^ k → k < fuel → a < 2147483648 → it (fun rec x => f_SC_sizeOf_L7b N rec x.1 x.2) fuel (zI c, zI a) = some (zI (c + jzSz k a : Nat)) ∧ it (fun rec x => f_M_sizeOf_L13b N rec x.1 x.2) fuel (zI c, zI a) = some (zI (c + jzSz k a : Nat))
  | 0, a, c, fuel, h, hf, ha => by
    obtain ⟨fuel, rfl⟩ : ∃ j, fuel = j + 1 := ⟨fuel - 1, by omega⟩
    have : a = 0 := by simp at h; omega
    subst this
    rw [it_succ, it_succ, jzSz_0]
    exact ⟨rfl, rfl⟩
  | k + 1, a, c, fuel, h, hf, ha => by
    obtain ⟨fuel, rfl⟩ : ∃ j, fuel = j + 1 := ⟨fuel - 1, by omega⟩
    rw [it_succ, it_succ]
    by_cases e : a = 0
    · subst e
      rw [jzSz_0]
      exact ⟨rfl, rfl⟩
    · have ih := q_sizeL N k (a / 2) (c + 1) fuel (by rw [Nat.pow_succ] at h; omega) (by omega) (by omega)
      have e2 : c + jzSz (k + 1) a = c + 1 + jzSz k (a / 2) := by
        show c + (if a = 0 then 0 else jzSz k (a / 2) + 1) = _
        rw [if_neg e]; omega
      rw [e2]
      unfold f_SC_sizeOf_L7b f_M_sizeOf_L13b
      have e3 : (a : Int) / 2 ^ (1 : Int).toNat = ((a / 2 : Nat) : Int) := by
        show (a : Int) / 2 ^ 1 = _
        rw [p_shr]
      simp (disch := omega) only [zI_lit, zI_ofNat, zI_nI, zI_neg, zI_add, zI_sub, zI_mul, zI_lt, zI_le, zI_eq, zI_cl, zI_div, zI_shr, zI_shl, zI_and1, zI_and7, zI_and15, zI_and255, if_pos, if_neg, Option.bind_some, Option.bind_none, if_true, if_false, true_or, or_true, Int.toNat_natCast, pk_us]
      rw [e3]
      exact ih
theorem q_size (N : Nat) (hN : 100 ≤ N) (z : Int) (h0 : -2147483648 < z) (h1 : z < 2147483648) : f_SC_sizeOf N (zI z) = some (zI (szN z.natAbs : Nat)) ∧ f_M_sizeOf N (zI z) = some (zI (szN z.natAbs : Nat)) := by
  obtain ⟨l1, l2⟩ := q_sizeL N 32 z.natAbs 0 N (by omega) (by omega) (by omega)
  rw [Nat.zero_add] at l1 l2
  unfold f_SC_sizeOf f_M_sizeOf f_M_sizeOf_J12 f_SC_sizeOf_L7 f_M_sizeOf_L13
  by_cases c : 0 ≤ z
  · have e : ((z.natAbs : Nat) : Int) = z := by omega
    rw [e] at l1 l2
    have l1' : it (fun rec x => f_SC_sizeOf_L7b N rec x.1 x.2) N (zI 0, zI z) = some (zI (szN z.natAbs : Nat)) := l1
    have l2' : it (fun rec x => f_M_sizeOf_L13b N rec x.1 x.2) N (zI 0, zI z) = some (zI (szN z.natAbs : Nat)) := l2
    simp (disch := omega) only [zI_lit, zI_ofNat, zI_nI, zI_neg, zI_add, zI_sub, zI_mul, zI_lt, zI_le, zI_eq, zI_cl, zI_div, zI_shr, zI_shl, zI_and1, zI_and7, zI_and15, zI_and255, if_pos, if_neg, Option.bind_some, Option.bind_none, if_true, if_false, true_or, or_true, Int.toNat_natCast, pk_us, l1', l2']
    exact ⟨trivial, trivial⟩
  · have e : ((z.natAbs : Nat) : Int) = -z := by omega
    rw [e] at l1 l2
    have l1' : it (fun rec x => f_SC_sizeOf_L7b N rec x.1 x.2) N (zI 0, zI (0 - z)) = some (zI (szN z.natAbs : Nat)) := by rw [Int.zero_sub]; exact l1
    have l2' : it (fun rec x => f_M_sizeOf_L13b N rec x.1 x.2) N (zI 0, zI (-z)) = some (zI (szN z.natAbs : Nat)) := l2
    simp (disch := omega) only [zI_lit, zI_ofNat, zI_nI, zI_neg, zI_add, zI_sub, zI_mul, zI_lt, zI_le, zI_eq, zI_cl, zI_div, zI_shr, zI_shl, zI_and1, zI_and7, zI_and15, zI_and255, if_pos, if_neg, Option.bind_some, Option.bind_none, if_true, if_false, true_or, or_true, Int.toNat_natCast, pk_us, l1', l2']
    exact ⟨trivial, trivial⟩
def amt (d : Int) (b : Nat) : Nat := d.natAbs / 2 ^ b
/-- a run of blocks that end -/
def srE (t run : Nat) (held : List Nat) : List (Nat × Nat × Nat) := if run = 0 then [] else (0, t, 16 * (szN run - 1)) :: (evB run (szN run - 1) ++ held.map fun x => (1, x, 0))
def othE (C : Nat → Int) (t b : Nat) : Nat → Nat → Nat → List Nat → Nat → List (Nat × Nat × Nat) × Nat × List Nat × Nat
  | 0, _, run, held, z => ([], run, held, z)
  | j + 1, k, run, held, z =>
    if amt (C k) b = 0 then othE C t b j (k + 1) run held (z + 1)
    else (srE t run held ++ (List.replicate (z / 16) (0, t, 240) ++ ((0, t, 16 * (z % 16) + szN (amt (C k) b)) :: (evB (if 0 < C k then (amt (C k) b : Int) else -(amt (C k) b : Int) - 1) (szN (amt (C k) b)) ++ (othE C t b j (k + 1) 0 [] 0).1))), (othE C t b j (k + 1) 0 [] 0).2)
def zrE (t : Nat) : Nat → Nat → List Nat → List Nat → List (Nat × Nat × Nat) × Nat × List Nat × List Nat
  | 0, run, held, com => ([], run, held, com)
  | q + 1, run, held, com => (srE t run held ++ ((0, t, 240) :: ((com.map fun x => (1, x, 0)) ++ (zrE t q 0 [] []).1)), (zrE t q 0 [] []).2)
def refE (C : Nat → Int) (t b : Nat) (ln : Int) : Nat → Nat → Nat → List Nat → Nat → List Nat → List (Nat × Nat × Nat) × Nat × List Nat × Nat × List Nat
  | 0, _, run, held, z, com => ([], run, held, z, com)
  | j + 1, k, run, held, z, com =>
    if amt (C k) b = 0 then refE C t b ln j (k + 1) run held (z + 1) com
    else
      let q := if (k : Int) ≤ ln then z / 16 else 0
      let r := zrE t q run held com
      if 1 < amt (C k) b then
        let r2 := refE C t b ln j (k + 1) r.2.1 r.2.2.1 (z - 16 * q) (r.2.2.2 ++ [amt (C k) b % 2])
        (r.1 ++ r2.1, r2.2)
      else
        let r2 := refE C t b ln j (k + 1) 0 [] 0 []
        (r.1 ++ (srE t r.2.1 r.2.2.1 ++ ((0, t, 16 * (z - 16 * q) + 1) :: (1, (if C k < 0 then 0 else 1), 0) :: ((r.2.2.2.map fun x => (1, x, 0)) ++ r2.1))), r2.2)
/-- the last one that a scan makes new -/
def isLn (C : Nat → Int) (b f l : Nat) (v : Int) : Prop := (v = -1 ∧ ∀ k, f ≤ k → k ≤ l → amt (C k) b ≠ 1) ∨ (∃ x : Nat, v = x ∧ f ≤ x ∧ x ≤ l ∧ amt (C x) b = 1 ∧ ∀ k, x < k → k ≤ l → amt (C k) b ≠ 1)
theorem isLn_u {C : Nat → Int} {b f l : Nat} {v v' : Int} (h : isLn C b f l v) (h' : isLn C b f l v') : v = v' := by
  rcases h with ⟨h1, h2⟩ | ⟨x, h1, h2, h3, h4, h5⟩ <;> rcases h' with ⟨g1, g2⟩ | ⟨y, g1, g2, g3, g4, g5⟩
  · omega
  · exact absurd g4 (h2 y g2 g3)
  · exact absurd h4 (g2 x h2 h3)
  · rcases Nat.lt_trichotomy x y with e | e | e
    · exact absurd g4 (h5 y e g3)
    · omega
    · exact absurd h4 (g5 x e h3)
