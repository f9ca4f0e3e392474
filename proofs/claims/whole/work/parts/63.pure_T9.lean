/-! ones of a mask; the scan: what is kept of it -/
def jzOn (a : Int) : Nat → Int
  | 0 => 0
  | c + 1 => jzOn a c + a / 2 ^ c % 2
theorem q_ones (N : Nat) (hN : 100 ≤ N) (a : Int) (h0 : -2147483648 ≤ a) (h1 : a ≤ 2147483647) : f_M_ones N (zI a) = some (zI (jzOn a 4)) := by
  have := it_cnt1 (b := fun rec x => f_M_ones_L4b (zI a) N rec x.1 x.2) (fun c => (zI (jzOn a c), zI c)) (zI (jzOn a 4)) 4 (fun g c hc hg => by
    unfold f_M_ones_L4b
    simp (disch := omega) only [zI_lit, zI_ofNat, zI_nI, zI_neg, zI_add, zI_sub, zI_mul, zI_lt, zI_le, zI_eq, zI_cl, zI_div, zI_shr, zI_shl, zI_and1, zI_and7, zI_and15, zI_and255, if_pos, if_neg, Option.bind_some, Option.bind_none, if_true, if_false, true_or, or_true, Int.toNat_natCast, pk_us]
    exact hg) (fun g => by
    unfold f_M_ones_L4b
    simp (disch := omega) only [zI_lit, zI_ofNat, zI_nI, zI_neg, zI_add, zI_sub, zI_mul, zI_lt, zI_le, zI_eq, zI_cl, zI_div, zI_shr, zI_shl, zI_and1, zI_and7, zI_and15, zI_and255, if_pos, if_neg, Option.bind_some, Option.bind_none, if_true, if_false, true_or, or_true, Int.toNat_natCast, pk_us]) N 0 (by omega) (by omega)
  unfold f_M_ones f_M_ones_L4
  show (it _ N (zI (jzOn a 0), zI (0 : Nat))).bind _ = _
  rw [this]
  rfl
def jzN (m : Nat) : Nat := m % 2 + m / 2 % 2 + m / 4 % 2 + m / 8 % 2
theorem jzOn_n (m : Nat) : jzOn m 4 = (jzN m : Nat) := by
  unfold jzN
  simp only [jzOn]
  have h0 : (m : Int) / 2 ^ 0 % 2 = ((m % 2 : Nat) : Int) := by rw [p_shr]; simp
  have h1 : (m : Int) / 2 ^ 1 % 2 = ((m / 2 % 2 : Nat) : Int) := by rw [p_shr]; rfl
  have h2 : (m : Int) / 2 ^ 2 % 2 = ((m / 4 % 2 : Nat) : Int) := by rw [p_shr]; rfl
  have h3 : (m : Int) / 2 ^ 3 % 2 = ((m / 8 % 2 : Nat) : Int) := by rw [p_shr]; rfl
  rw [h0, h1, h2, h3]
  push_cast
  omega
theorem q_onesN (N : Nat) (hN : 100 ≤ N) (m : Nat) (h1 : m < 16) : f_M_ones N (zI m) = some (zI (jzN m : Nat)) := by
  rw [q_ones N hN m (by omega) (by omega), jzOn_n]
theorem q_bitCount : ∀ m : Nat, m < 16 → f_Integer_bitCount (zI m) = some (zI (jzN m : Nat)) := by decide
theorem jzN_1 : ∀ m : Nat, m < 16 → jzN m = 1 → ∃ c, c < 4 ∧ m = 2 ^ c := by
  have : ∀ m, m < 16 → jzN m = 1 → m = 2 ^ 0 ∨ m = 2 ^ 1 ∨ m = 2 ^ 2 ∨ m = 2 ^ 3 := by decide
  intro m hm h
  rcases this m hm h with h | h | h | h
  · exact ⟨0, by omega, h⟩
  · exact ⟨1, by omega, h⟩
  · exact ⟨2, by omega, h⟩
  · exact ⟨3, by omega, h⟩
theorem jzK_p : ∀ c, c < 4 → ∀ d, d < 4 → jzK (2 ^ c) d = if d = c then 1 else 0 := by decide
/-- blocks of a component in a unit, and which -/
def jzBI (m s c : Nat) : Nat := if jzK m c = 0 then 0 else if jzN m = 1 then 1 else jzH s c * jzH (s / 2) c
def jzBO (w n s m c u j : Nat) : Nat := if jzN m = 1 then u / jzO w (jzH s c) (jzM s n) * jzA w n s c + u % jzO w (jzH s c) (jzM s n) else (u / jzU w s n * jzH (s / 2) c + j / jzH s c) * jzA w n s c + (u % jzU w s n * jzH s c + j % jzH s c)
def jzUL (w n s m u k : Nat) : List (Nat × Nat) := (List.range k).flatMap fun c => (List.range (jzBI m s c)).map fun j => (c, jzBO w n s m c u j)
theorem flat_congr {α β : Type} {l : List α} {f g : α → List β} (h : ∀ a, a ∈ l → f a = g a) : l.flatMap f = l.flatMap g := by
  induction l with
  | nil => rfl
  | cons a l ih =>
    rw [List.flatMap_cons, List.flatMap_cons, h a (List.mem_cons_self ..), ih (fun b hb => h b (List.mem_cons_of_mem _ hb))]
theorem rowsL_map (c A l t k : Nat) (hk : 1 ≤ k) (h : Nat) : rowsL c A l t k h = (List.range (h * k)).map fun j => (c, (t + j / k) * A + (l + j % k)) := by
  induction h with
  | zero => simp [rowsL]
  | succ h ih =>
    rw [rowsL_1, ih, Nat.add_mul, Nat.one_mul, List.range_add, List.map_append, List.map_map]
    congr 1
    unfold rowL
    apply List.map_congr_left
    intro j hj
    rw [List.mem_range] at hj
    show (c, (t + h) * A + (l + j)) = (c, (t + (h * k + j) / k) * A + (l + (h * k + j) % k))
    rw [Nat.mul_comm h k, Nat.mul_add_div (by omega), Nat.mul_add_mod, Nat.div_eq_of_lt hj, Nat.mod_eq_of_lt hj, Nat.add_zero]
theorem flat_mul {α : Type} (f : Nat → List α) (b a : Nat) : ((List.range a).flatMap fun y => (List.range b).flatMap fun x => f (y * b + x)) = (List.range (a * b)).flatMap f := by
  induction a with
  | zero => simp
  | succ a ih =>
    rw [List.range_succ, List.flatMap_append, ih, Nat.add_mul, Nat.one_mul, List.range_add, List.flatMap_append, List.flatMap_map]
    simp
theorem flat_at {α : Type} (f : Nat → List α) (b : Nat) (hb : ∀ u, (f u).length = b) (a : Nat) (u i : Nat) (hu : u < a) (hi : i < b) : ((List.range a).flatMap f)[u * b + i]? = (f u)[i]? := by
  have hl : ∀ a, ((List.range a).flatMap f).length = a * b := by
    intro a
    induction a with
    | zero => simp
    | succ a ih => rw [List.range_succ, List.flatMap_append, List.length_append, ih, Nat.add_mul]; simp [hb]
  induction a with
  | zero => omega
  | succ a ih =>
    rw [List.range_succ, List.flatMap_append]
    by_cases e : u = a
    · subst e
      rw [List.getElem?_append_right (by rw [hl]; omega), hl]
      simp
    · rw [List.getElem?_append_left (by
        rw [hl]
        have : (u + 1) * b ≤ a * b := Nat.mul_le_mul_right _ (by omega)
        rw [Nat.add_mul] at this
        omega)]
      exact ih (by omega)
theorem flat_one {α : Type} (f : Nat → List α) (c0 n : Nat) (h : c0 < n) : ((List.range n).flatMap fun c => if c = c0 then f c else []) = f c0 := by
  induction n with
  | zero => omega
  | succ n ih =>
    rw [List.range_succ, List.flatMap_append]
    by_cases e : c0 = n
    · subst e
      have : ((List.range c0).flatMap fun c => if c = c0 then f c else []) = [] := by
        rw [List.flatMap_eq_nil_iff]
        intro x hx
        rw [List.mem_range] at hx
        rw [if_neg (by omega)]
      rw [this]
      simp
    · rw [ih (by omega)]
      simp [show ¬ n = c0 by omega]
theorem cL_eq {w hi n s : Nat} (hF : okF w hi n s) (m x y c : Nat) (hm : jzN m ≠ 1) (hx : x < jzU w s n) : jzcL w n s m x y c = (List.range (jzBI m s c)).map fun j => (c, jzBO w n s m c (y * jzU w s n + x) j) := by
  unfold jzcL jzBI jzBO
  rcases jzK_2 m c with e | e
  · rw [e, if_neg (by omega), if_pos rfl]; rfl
  · rw [e, if_pos rfl, if_neg (by omega), if_neg hm, rowsL_map _ _ _ _ _ (jzH_rng s c).1, Nat.mul_comm (jzH (s / 2) c)]
    apply List.map_congr_left
    intro j hj
    rw [if_neg hm, Nat.mul_comm y (jzU w s n), Nat.mul_add_div (by omega), Nat.mul_add_mod, Nat.div_eq_of_lt hx, Nat.mod_eq_of_lt hx, Nat.add_zero]
theorem unitL_eq {w hi n s : Nat} (hF : okF w hi n s) (m x y k : Nat) (hm : jzN m ≠ 1) (hx : x < jzU w s n) : unitL w n s m x y k = jzUL w n s m (y * jzU w s n + x) k := by
  unfold unitL jzUL
  congr 1
  funext c
  exact cL_eq hF m x y c hm hx
theorem yL_eq {w hi n s : Nat} (hF : okF w hi n s) (m k : Nat) (hm : jzN m ≠ 1) : yL w n s m (jzU w s n) k = (List.range (k * jzU w s n)).flatMap fun u => jzUL w n s m u n := by
  rw [← flat_mul]
  unfold yL xL
  congr 1
  funext y
  apply flat_congr
  intro x hx
  rw [List.mem_range] at hx
  exact unitL_eq hF m x y n hm hx
theorem oneL_eq {w hi n s : Nat} (hF : okF w hi n s) (c0 : Nat) (hc : c0 < n) (hm : jzN (2 ^ c0) = 1) : oneL w hi n s (2 ^ c0) n = (List.range (jzO hi (jzH (s / 2) c0) (jzM (s / 2) n) * jzO w (jzH s c0) (jzM s n))).flatMap fun u => jzUL w n s (2 ^ c0) u n := by
  have hn4 := hF.2.2.1
  have k1 : ∀ u, jzUL w n s (2 ^ c0) u n = [(c0, u / jzO w (jzH s c0) (jzM s n) * jzA w n s c0 + u % jzO w (jzH s c0) (jzM s n))] := by
    intro u
    unfold jzUL
    rw [← flat_one (fun c => [(c, u / jzO w (jzH s c) (jzM s n) * jzA w n s c + u % jzO w (jzH s c) (jzM s n))]) c0 n hc]
    apply flat_congr
    intro c hc2
    rw [List.mem_range] at hc2
    unfold jzBI jzBO
    rw [jzK_p c0 (by omega) c (by omega), hm]
    by_cases e : c = c0
    · rw [if_pos e, if_neg (by omega), if_pos rfl, if_pos e]; rfl
    · rw [if_neg e, if_pos rfl, if_neg e]; rfl
  have k2 : oneL w hi n s (2 ^ c0) n = rowsL c0 (jzA w n s c0) 0 0 (jzO w (jzH s c0) (jzM s n)) (jzO hi (jzH (s / 2) c0) (jzM (s / 2) n)) := by
    unfold oneL
    rw [← flat_one (fun c => rowsL c (jzA w n s c) 0 0 (jzO w (jzH s c) (jzM s n)) (jzO hi (jzH (s / 2) c) (jzM (s / 2) n))) c0 n hc]
    apply flat_congr
    intro c hc2
    rw [List.mem_range] at hc2
    rw [jzK_p c0 (by omega) c (by omega)]
    by_cases e : c = c0
    · rw [if_pos e, if_pos rfl, if_pos e]
    · rw [if_neg e, if_neg (by omega), if_neg e]
  rw [k2, rowsL_map _ _ _ _ _ (jzOA hF hc).1, List.map_eq_flatMap]
  congr 1
  funext u
  rw [k1, Nat.zero_add, Nat.zero_add]
theorem UL_len (w n s m u k : Nat) : (jzUL w n s m u k).length = ((List.range k).map (jzBI m s)).sum := by
  unfold jzUL
  rw [List.length_flatMap]
  simp
/-- how many units, how many blocks in each -/
def jzUn (w hi n s m : Nat) : Nat := if jzN m = 1 then (oneL w hi n s m n).length else jzU w s n * jzU hi (s / 2) n
def jzBl (n s m : Nat) : Nat := ((List.range n).map (jzBI m s)).sum
def rCrs (w hi n s m : Nat) (units bl : Int32) (ow pl : Nat → Int32) : Prop := units = zI (jzUn w hi n s m : Nat) ∧ bl = zI (jzBl n s m : Nat) ∧ ∀ (u i : Nat) (p : Nat × Nat), u < jzUn w hi n s m → (jzUL w n s m u n)[i]? = some p → ow (u * jzBl n s m + i) = zI (p.1 : Nat) ∧ pl (u * jzBl n s m + i) = zI (64 * (jzT w hi n s p.1 + p.2) : Nat)
theorem jzBl_W (n s m : Nat) (hm : jzN m ≠ 1) : jzBl n s m = jzW m s n := by
  unfold jzBl
  induction n with
  | zero => rfl
  | succ n ih =>
    rw [List.range_succ, List.map_append, List.sum_append, ih]
    show _ = jzW m s n + jzK m n * _
    congr 1
    have : jzBI m s n = jzK m n * (jzH (s / 2) n * jzH s n) := by
      unfold jzBI
      rcases jzK_2 m n with e | e <;> rw [e]
      · rw [if_pos rfl, Nat.zero_mul]
      · rw [if_neg (by omega), if_neg hm, Nat.one_mul, Nat.mul_comm]
    simp [this]
theorem jzBl_1 (n s c0 : Nat) (hc : c0 < n) (hn : n ≤ 4) (hm : jzN (2 ^ c0) = 1) : jzBl n s (2 ^ c0) = 1 := by
  unfold jzBl
  have : ∀ k, k ≤ 4 → ((List.range k).map (jzBI (2 ^ c0) s)).sum = if c0 < k then 1 else 0 := by
    intro k hk
    induction k with
    | zero => rfl
    | succ k ih =>
      rw [List.range_succ, List.map_append, List.sum_append, ih (by omega)]
      have : jzBI (2 ^ c0) s k = if k = c0 then 1 else 0 := by
        unfold jzBI
        rw [jzK_p c0 (by omega) k (by omega), hm]
        by_cases e : k = c0
        · rw [if_pos e]; rfl
        · rw [if_neg e]; rfl
      simp only [List.map_cons, List.map_nil, List.sum_cons, List.sum_nil, this]
      split <;> split <;> split <;> omega
  rw [this n hn, if_pos hc]
/-- the order of the blocks that a mask lays -/
theorem q_lay' (N : Nat) (hN : 1000 ≤ N) {w hi n s : Nat} {h v ac dn oa od st : Nat → Int32} (hF : okF w hi n s) (hf : isFr w hi n s n h v ac dn oa od st) (m : Nat) (hm0 : 0 < m) (hm : m < 2 ^ n) {ow pl : Nat → Int32} :
    ∃ z, f_Course_lay N (zI m) (zI n) (zI (jzU w s n : Nat)) (zI (jzU hi (s / 2) n : Nat)) h v ac dn oa od st ow pl = some z ∧ rCrs w hi n s m z.1 z.2.1 z.2.2.2.1 z.2.2.2.2 := by
  have hn4 := hF.2.2.1
  have hm16 : m < 16 := Nat.lt_of_lt_of_le hm (Nat.pow_le_pow_right (by omega) hn4.2 (n := 2))
  unfold f_Course_lay
  rw [q_bitCount m hm16]
  have hO : jzN m ≤ 4 := by unfold jzN; omega
  by_cases e : jzN m = 1
  · obtain ⟨z, z1, z2, z3, z4⟩ := q_layOne N hN hF hf m (by omega) (ow := ow) (pl := pl)
    simp (disch := omega) only [zI_lit, zI_ofNat, zI_nI, zI_neg, zI_add, zI_sub, zI_mul, zI_lt, zI_le, zI_eq, zI_cl, zI_div, zI_shr, zI_shl, zI_and1, zI_and7, zI_and15, zI_and255, if_pos, if_neg, Option.bind_some, Option.bind_none, if_true, if_false, true_or, or_true, Int.toNat_natCast, pk_us, e]
    rw [zI_lit] at z1
    change f_Course_layOne N (zI m) (zI n) ac dn oa od st (zI 0) ow pl = some z at z1
    rw [z1]
    refine ⟨_, rfl, ?_, ?_, ?_⟩
    · dsimp only [Option.bind_some]
      rw [z2]; unfold jzUn; rw [if_pos e]
    · obtain ⟨c0, c1, rfl⟩ := jzN_1 m hm16 e
      dsimp only
      have : c0 < n := by
        rcases Nat.lt_or_ge c0 n with h | h
        · exact h
        · exact absurd hm (by have := Nat.pow_le_pow_right (n := 2) (by omega) h; omega)
      rw [z3, jzBl_1 n s c0 this (by omega) e]; rfl
    · intro u i p hu hp
      obtain ⟨c0, c1, rfl⟩ := jzN_1 m hm16 e
      have hc : c0 < n := by
        rcases Nat.lt_or_ge c0 n with h | h
        · exact h
        · exact absurd hm (by have := Nat.pow_le_pow_right (n := 2) (by omega) h; omega)
      apply z4.2
      have hl : ∀ u, (jzUL w n s (2 ^ c0) u n).length = jzBl n s (2 ^ c0) := fun u => UL_len ..
      have hb := jzBl_1 n s c0 hc hn4.2 e
      have hi2 : i < jzBl n s (2 ^ c0) := by rw [← hl u]; exact (List.getElem?_eq_some_iff.mp hp).1
      rw [oneL_eq hF c0 hc e, ← hp]
      refine flat_at _ _ hl _ u i ?_ hi2
      have : jzUn w hi n s (2 ^ c0) = jzO hi (jzH (s / 2) c0) (jzM (s / 2) n) * jzO w (jzH s c0) (jzM s n) := by
        unfold jzUn
        rw [if_pos e, oneL_eq hF c0 hc e, List.length_flatMap]
        rw [List.map_congr_left (g := fun _ => 1) (fun a _ => by rw [hl, hb])]
        rw [List.map_const', List.sum_replicate_nat, List.length_range, Nat.mul_one]
      rw [← this]; exact hu
  · obtain ⟨z, z1, z2, z3, z4⟩ := q_laySeveral N hN hF hf m (by omega) (ow := ow) (pl := pl)
    simp (disch := omega) only [zI_lit, zI_ofNat, zI_nI, zI_neg, zI_add, zI_sub, zI_mul, zI_lt, zI_le, zI_eq, zI_cl, zI_div, zI_shr, zI_shl, zI_and1, zI_and7, zI_and15, zI_and255, if_pos, if_neg, Option.bind_some, Option.bind_none, if_true, if_false, true_or, or_true, Int.toNat_natCast, pk_us]
    rw [zI_lit] at z1
    change f_Course_laySeveral N (zI m) (zI n) (zI (jzU w s n : Nat)) (zI (jzU hi (s / 2) n : Nat)) h v ac dn st (zI 0) ow pl = some z at z1
    rw [z1]
    refine ⟨_, rfl, ?_, ?_, ?_⟩
    · dsimp only [Option.bind_some]
      rw [z2]; unfold jzUn; rw [if_neg e]
    · dsimp only
      rw [z3, jzBl_W n s m e]
    · intro u i p hu hp
      apply z4.2
      have hl : ∀ u, (jzUL w n s m u n).length = jzBl n s m := fun u => UL_len ..
      have hi2 : i < jzBl n s m := by rw [← hl u]; exact (List.getElem?_eq_some_iff.mp hp).1
      rw [yL_eq hF m _ e, ← hp]
      refine flat_at _ _ hl _ u i ?_ hi2
      unfold jzUn at hu
      rw [if_neg e, Nat.mul_comm] at hu
      exact hu
