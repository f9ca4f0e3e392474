/-! the order of the blocks: units -/
def jzBit (m c : Nat) : Prop := m / 2 ^ c % 2 = 1
theorem jzBit_dec (m c : Nat) : jzBit m c ∨ ¬ jzBit m c := Classical.em _
def jzK (m c : Nat) : Nat := m / 2 ^ c % 2
/-- blocks that components below c give a unit -/
def jzW (m s : Nat) : Nat → Nat
  | 0 => 0
  | c + 1 => jzW m s c + jzK m c * (jzH (s / 2) c * jzH s c)
def jzcL (w n s m x y c : Nat) : List (Nat × Nat) := if jzK m c = 1 then rowsL c (jzA w n s c) (x * jzH s c) (y * jzH (s / 2) c) (jzH s c) (jzH (s / 2) c) else []
def unitL (w n s m x y : Nat) (k : Nat) : List (Nat × Nat) := (List.range k).flatMap (jzcL w n s m x y)
theorem unitL_1 (w n s m x y k : Nat) : unitL w n s m x y (k + 1) = unitL w n s m x y k ++ jzcL w n s m x y k := by
  unfold unitL
  rw [List.range_succ, List.flatMap_append]
  simp
theorem jzK_2 (m c : Nat) : jzK m c = 0 ∨ jzK m c = 1 := by unfold jzK; omega
theorem unitL_len (w n s m x y k : Nat) : (unitL w n s m x y k).length = jzW m s k := by
  induction k with
  | zero => simp [unitL, jzW]
  | succ k ih =>
    rw [unitL_1, List.length_append, ih]
    show _ = jzW m s k + jzK m k * _
    congr 1
    unfold jzcL
    rcases jzK_2 m k with e | e <;> rw [e]
    · simp
    · rw [if_pos rfl, rowsL_len, Nat.one_mul]
theorem jzW_mono (m s : Nat) {c d : Nat} (h : c ≤ d) : jzW m s c ≤ jzW m s d := by
  induction d with
  | zero => obtain rfl : c = 0 := by omega
            exact Nat.le_refl _
  | succ d ih =>
    by_cases e : c = d + 1
    · subst e; exact Nat.le_refl _
    · exact Nat.le_trans (ih (by omega)) (Nat.le_add_right _ _)
theorem jzW_gS (m s u c : Nat) : u * jzW m s c ≤ jzS s u c := by
  induction c with
  | zero => exact Nat.le_refl _
  | succ c ih =>
    show u * (jzW m s c + jzK m c * (jzH (s / 2) c * jzH s c)) ≤ jzS s u c + u * (jzH s c * jzH (s / 2) c)
    rw [Nat.mul_add]
    apply Nat.add_le_add ih
    apply Nat.mul_le_mul_left
    rcases jzK_2 m c with e | e <;> rw [e]
    · rw [Nat.zero_mul]; exact Nat.zero_le _
    · rw [Nat.one_mul, Nat.mul_comm]; exact Nat.le_refl _
theorem bit_c (m c : Nat) (hm : m < 256) (hc : c < 32) : ((zI m >>> (zI c &&& 31)) &&& (1 : Int32)) = zI (jzK m c : Nat) := by
  simp (disch := omega) only [zI_lit, zI_ofNat, zI_nI, zI_neg, zI_add, zI_sub, zI_mul, zI_lt, zI_le, zI_eq, zI_cl, zI_div, zI_shr, zI_shl, zI_and1, zI_and7, zI_and15, zI_and255, if_pos, if_neg, Option.bind_some, Option.bind_none, if_true, if_false, true_or, or_true, Int.toNat_natCast, pk_us]
  rw [p_shr]; rfl
theorem q_layUnit (N : Nat) (hN : 1000 ≤ N) {w hi n s : Nat} {h v ac dn oa od st : Nat → Int32} (hF : okF w hi n s) (hf : isFr w hi n s n h v ac dn oa od st) (m x y : Nat) (hm : m < 256) (hx : x < jzU w s n) (hy : y < jzU hi (s / 2) n) (L : List (Nat × Nat)) (hL : L.length + jzW m s n ≤ 192) {laid : Int32} {ow pl : Nat → Int32} (hO : laidOK w hi n s L laid ow pl) :
    ∃ z, f_Course_layUnit N (zI m) (zI x) (zI y) (zI n) h v ac dn st laid ow pl = some z ∧ laidOK w hi n s (L ++ unitL w n s m x y n) z.1 z.2.1 z.2.2 := by
  have hn4 := hF.2.2.1
  have hl : ∃ z, f_Course_layUnit_L3 (zI n) (zI m) (zI x) h (zI y) v ac dn st N N ((0 : Int32), laid, ow, pl) = some z ∧ laidOK w hi n s (L ++ unitL w n s m x y n) z.1 z.2.1 z.2.2 := by
    refine it_cnt (P := fun c (a : Int32 × Int32 × (Nat → Int32) × (Nat → Int32)) => a.1 = zI c ∧ laidOK w hi n s (L ++ unitL w n s m x y c) a.2.1 a.2.2.1 a.2.2.2) (R := fun (z : Int32 × (Nat → Int32) × (Nat → Int32)) => laidOK w hi n s (L ++ unitL w n s m x y n) z.1 z.2.1 z.2.2) n ?_ ?_ N 0 _ ⟨rfl, by simpa [unitL] using hO⟩ (by omega) (by omega)
    · rintro g c ⟨a, la, o, p⟩ hc ⟨q1, q2⟩ ih
      dsimp only at q1 q2
      subst q1
      unfold f_Course_layUnit_L3b f_Course_layUnit_J3_67
      dsimp only
      rw [bit_c m c hm (by omega)]
      have r1 := jzH_rng s c
      have r2 := jzH_rng (s / 2) c
      obtain ⟨f1, f2, -⟩ := hf c hc
      have g1 : (zI ((c : Nat) : Int)).toNatClampNeg = c := by rw [zI_cl (by omega) (by omega), Int.toNat_natCast]
      rw [g1, f1, f2]
      rcases jzK_2 m c with e | e
      · rw [e]
        simp (disch := omega) only [zI_lit, zI_ofNat, zI_nI, zI_neg, zI_add, zI_sub, zI_mul, zI_lt, zI_le, zI_eq, zI_cl, zI_div, zI_shr, zI_shl, zI_and1, zI_and7, zI_and15, zI_and255, if_pos, if_neg, Option.bind_some, Option.bind_none, if_true, if_false, true_or, or_true, Int.toNat_natCast, pk_us]
        refine ih _ ⟨rfl, ?_⟩
        rw [unitL_1]
        unfold jzcL
        rw [e, if_neg (by omega), List.append_nil]
        exact q2
      · rw [e]
        have w1 : jzW m s (c + 1) = jzW m s c + jzK m c * (jzH (s / 2) c * jzH s c) := rfl
        rw [e, Nat.one_mul] at w1
        have w2 := jzW_mono m s (c := c + 1) (d := n) hc
        have e1 : zI (x : Int) * zI ((jzH s c : Nat) : Int) = zI ((x * jzH s c : Nat) : Int) := by rw [zI_mul]; rfl
        have e2 : zI (y : Int) * zI ((jzH (s / 2) c : Nat) : Int) = zI ((y * jzH (s / 2) c : Nat) : Int) := by rw [zI_mul]; rfl
        have b1 : x * jzH s c + jzH s c ≤ jzA w n s c := by
          have : (x + 1) * jzH s c ≤ jzU w s n * jzH s c := Nat.mul_le_mul_right _ hx
          rw [Nat.add_mul, Nat.one_mul, Nat.mul_comm (jzU w s n)] at this
          exact this
        have b2 : y * jzH (s / 2) c + jzH (s / 2) c ≤ jzD hi n s c := by
          have : (y + 1) * jzH (s / 2) c ≤ jzU hi (s / 2) n * jzH (s / 2) c := Nat.mul_le_mul_right _ hy
          rw [Nat.add_mul, Nat.one_mul, Nat.mul_comm (jzU hi (s / 2) n)] at this
          exact this
        obtain ⟨z, z1, z2⟩ := q_layRows N hN hF hf c (x * jzH s c) (y * jzH (s / 2) c) (jzH s c) (jzH (s / 2) c) hc b2 b1 (L ++ unitL w n s m x y c) (by rw [List.length_append, unitL_len]; omega) q2
        rw [e1, e2, z1]
        simp (disch := omega) only [zI_lit, zI_ofNat, zI_nI, zI_neg, zI_add, zI_sub, zI_mul, zI_lt, zI_le, zI_eq, zI_cl, zI_div, zI_shr, zI_shl, zI_and1, zI_and7, zI_and15, zI_and255, if_pos, if_neg, Option.bind_some, Option.bind_none, if_true, if_false, true_or, or_true, Int.toNat_natCast, pk_us]
        refine ih _ ⟨rfl, ?_⟩
        rw [unitL_1]
        unfold jzcL
        rw [e, if_pos rfl, ← List.append_assoc]
        exact z2
    · rintro g ⟨a, la, o, p⟩ ⟨q1, q2⟩
      dsimp only at q1 q2
      subst q1
      unfold f_Course_layUnit_L3b
      simp (disch := omega) only [zI_lit, zI_ofNat, zI_nI, zI_neg, zI_add, zI_sub, zI_mul, zI_lt, zI_le, zI_eq, zI_cl, zI_div, zI_shr, zI_shl, zI_and1, zI_and7, zI_and15, zI_and255, if_pos, if_neg, Option.bind_some, Option.bind_none, if_true, if_false, true_or, or_true, Int.toNat_natCast, pk_us]
      exact ⟨_, rfl, q2⟩
  obtain ⟨z, z1, z2⟩ := hl
  unfold f_Course_layUnit
  rw [z1]
  exact ⟨_, rfl, z2⟩
theorem jzO_rng (w h m : Nat) (h1 : 1 ≤ h) (h2 : h ≤ m) (h3 : m ≤ 2) (h4 : 1 ≤ w) (h5 : w ≤ 64) : 1 ≤ jzO w h m ∧ jzO w h m ≤ h * jzC w (8 * m) := by
  unfold jzO jzC
  rcases (by omega : h = 1 ∨ h = 2) with rfl | rfl <;> rcases (by omega : m = 1 ∨ m = 2) with rfl | rfl <;> omega
def oneL (w hi n s m k : Nat) : List (Nat × Nat) := (List.range k).flatMap fun c => if jzK m c = 1 then rowsL c (jzA w n s c) 0 0 (jzO w (jzH s c) (jzM s n)) (jzO hi (jzH (s / 2) c) (jzM (s / 2) n)) else []
theorem oneL_1 (w hi n s m k : Nat) : oneL w hi n s m (k + 1) = oneL w hi n s m k ++ if jzK m k = 1 then rowsL k (jzA w n s k) 0 0 (jzO w (jzH s k) (jzM s n)) (jzO hi (jzH (s / 2) k) (jzM (s / 2) n)) else [] := by
  unfold oneL
  rw [List.range_succ, List.flatMap_append]
  simp
theorem jzOA {w hi n s c : Nat} (hF : okF w hi n s) (hc : c < n) : 1 ≤ jzO w (jzH s c) (jzM s n) ∧ jzO w (jzH s c) (jzM s n) ≤ jzA w n s c := jzO_rng w _ _ (jzH_rng s c).1 (jzM_le s n c hc) (jzM_rng s n).2 hF.1.1 hF.1.2
theorem jzOD {w hi n s c : Nat} (hF : okF w hi n s) (hc : c < n) : 1 ≤ jzO hi (jzH (s / 2) c) (jzM (s / 2) n) ∧ jzO hi (jzH (s / 2) c) (jzM (s / 2) n) ≤ jzD hi n s c := jzO_rng hi _ _ (jzH_rng (s / 2) c).1 (jzM_le (s / 2) n c hc) (jzM_rng (s / 2) n).2 hF.2.1.1 hF.2.1.2
theorem jzOO {w hi n s c : Nat} (hF : okF w hi n s) (hc : c < n) : jzO hi (jzH (s / 2) c) (jzM (s / 2) n) * jzO w (jzH s c) (jzM s n) ≤ jzA w n s c * jzD hi n s c := by
  rw [Nat.mul_comm (jzA w n s c)]
  exact Nat.mul_le_mul (jzOD hF hc).2 (jzOA hF hc).2
theorem oneL_len {w hi n s : Nat} (hF : okF w hi n s) (m k : Nat) (hk : k ≤ n) : (oneL w hi n s m k).length ≤ jzT w hi n s k := by
  induction k with
  | zero => simp [oneL]
  | succ k ih =>
    rw [oneL_1, List.length_append, jzT_1]
    apply Nat.add_le_add (ih (by omega))
    split
    · rw [rowsL_len]; exact jzOO hF (by omega)
    · exact Nat.zero_le _
theorem q_layOne (N : Nat) (hN : 1000 ≤ N) {w hi n s : Nat} {h v ac dn oa od st : Nat → Int32} (hF : okF w hi n s) (hf : isFr w hi n s n h v ac dn oa od st) (m : Nat) (hm : m < 256) {ow pl : Nat → Int32} :
    ∃ z, f_Course_layOne N (zI m) (zI n) ac dn oa od st (0 : Int32) ow pl = some z ∧ z.1 = zI ((oneL w hi n s m n).length : Nat) ∧ z.2.1 = zI 1 ∧ laidOK w hi n s (oneL w hi n s m n) z.2.2.1 z.2.2.2.1 z.2.2.2.2 := by
  have hn4 := hF.2.2.1
  have hl : ∃ z, f_Course_layOne_L2 (zI n) (zI m) oa od ac dn st N N ((0 : Int32), (0 : Int32), ow, pl) = some z ∧ laidOK w hi n s (oneL w hi n s m n) z.1 z.2.1 z.2.2 := by
    refine it_cnt (P := fun c (a : Int32 × Int32 × (Nat → Int32) × (Nat → Int32)) => a.1 = zI c ∧ laidOK w hi n s (oneL w hi n s m c) a.2.1 a.2.2.1 a.2.2.2) (R := fun (z : Int32 × (Nat → Int32) × (Nat → Int32)) => laidOK w hi n s (oneL w hi n s m n) z.1 z.2.1 z.2.2) n ?_ ?_ N 0 _ ⟨rfl, rfl, fun i p hp => by simp [oneL] at hp⟩ (by omega) (by omega)
    · rintro g c ⟨a, la, o, p⟩ hc ⟨q1, q2⟩ ih
      dsimp only at q1 q2
      subst q1
      unfold f_Course_layOne_L2b f_Course_layOne_J2_47
      dsimp only
      rw [bit_c m c hm (by omega)]
      obtain ⟨-, -, -, -, f5, f6, -⟩ := hf c hc
      have g1 : (zI ((c : Nat) : Int)).toNatClampNeg = c := by rw [zI_cl (by omega) (by omega), Int.toNat_natCast]
      rw [g1, f5, f6]
      rcases jzK_2 m c with e | e
      · rw [e]
        simp (disch := omega) only [zI_lit, zI_ofNat, zI_nI, zI_neg, zI_add, zI_sub, zI_mul, zI_lt, zI_le, zI_eq, zI_cl, zI_div, zI_shr, zI_shl, zI_and1, zI_and7, zI_and15, zI_and255, if_pos, if_neg, Option.bind_some, Option.bind_none, if_true, if_false, true_or, or_true, Int.toNat_natCast, pk_us]
        refine ih _ ⟨rfl, ?_⟩
        rw [oneL_1]
        rw [e, if_neg (by omega), List.append_nil]
        exact q2
      · rw [e]
        have l1 := oneL_len hF m c (by omega)
        have l2 := jzT_192 hF hc
        have l3 := jzOO hF hc
        have l4 := jzOA hF hc
        have l5 := jzOD hF hc
        obtain ⟨z, z1, z2⟩ := q_layRows N hN hF hf c 0 0 (jzO w (jzH s c) (jzM s n)) (jzO hi (jzH (s / 2) c) (jzM (s / 2) n)) hc (by omega) (by omega) (oneL w hi n s m c) (by omega) q2
        have z1' : f_Course_layRows N (zI c) (0 : Int32) (0 : Int32) (zI (jzO w (jzH s c) (jzM s n) : Nat)) (zI (jzO hi (jzH (s / 2) c) (jzM (s / 2) n) : Nat)) (zI n) ac dn st la o p = some z := z1
        rw [z1']
        simp (disch := omega) only [zI_lit, zI_ofNat, zI_nI, zI_neg, zI_add, zI_sub, zI_mul, zI_lt, zI_le, zI_eq, zI_cl, zI_div, zI_shr, zI_shl, zI_and1, zI_and7, zI_and15, zI_and255, if_pos, if_neg, Option.bind_some, Option.bind_none, if_true, if_false, true_or, or_true, Int.toNat_natCast, pk_us]
        refine ih _ ⟨rfl, ?_⟩
        rw [oneL_1]
        rw [e, if_pos rfl]
        exact z2
    · rintro g ⟨a, la, o, p⟩ ⟨q1, q2⟩
      dsimp only at q1 q2
      subst q1
      unfold f_Course_layOne_L2b
      simp (disch := omega) only [zI_lit, zI_ofNat, zI_nI, zI_neg, zI_add, zI_sub, zI_mul, zI_lt, zI_le, zI_eq, zI_cl, zI_div, zI_shr, zI_shl, zI_and1, zI_and7, zI_and15, zI_and255, if_pos, if_neg, Option.bind_some, Option.bind_none, if_true, if_false, true_or, or_true, Int.toNat_natCast, pk_us]
      exact ⟨_, rfl, q2⟩
  obtain ⟨z, z1, z2⟩ := hl
  unfold f_Course_layOne
  rw [z1]
  exact ⟨_, rfl, z2.1, rfl, z2⟩
def xL (w n s m y k : Nat) : List (Nat × Nat) := (List.range k).flatMap fun x => unitL w n s m x y n
def yL (w n s m u k : Nat) : List (Nat × Nat) := (List.range k).flatMap fun y => xL w n s m y u
theorem xL_1 (w n s m y k : Nat) : xL w n s m y (k + 1) = xL w n s m y k ++ unitL w n s m k y n := by
  unfold xL
  rw [List.range_succ, List.flatMap_append]
  simp
theorem yL_1 (w n s m u k : Nat) : yL w n s m u (k + 1) = yL w n s m u k ++ xL w n s m k u := by
  unfold yL
  rw [List.range_succ, List.flatMap_append]
  simp
theorem xL_len (w n s m y k : Nat) : (xL w n s m y k).length = k * jzW m s n := by
  induction k with
  | zero => simp [xL]
  | succ k ih => rw [xL_1, List.length_append, ih, unitL_len, Nat.add_mul]; omega
theorem yL_len (w n s m u k : Nat) : (yL w n s m u k).length = k * (u * jzW m s n) := by
  induction k with
  | zero => simp [yL]
  | succ k ih => rw [yL_1, List.length_append, ih, xL_len, Nat.add_mul]; omega
theorem q_laySeveral (N : Nat) (hN : 1000 ≤ N) {w hi n s : Nat} {h v ac dn oa od st : Nat → Int32} (hF : okF w hi n s) (hf : isFr w hi n s n h v ac dn oa od st) (m : Nat) (hm : m < 256) {ow pl : Nat → Int32} :
    ∃ z, f_Course_laySeveral N (zI m) (zI n) (zI (jzU w s n : Nat)) (zI (jzU hi (s / 2) n : Nat)) h v ac dn st (0 : Int32) ow pl = some z ∧ z.1 = zI (jzU w s n * jzU hi (s / 2) n : Nat) ∧ z.2.1 = zI (jzW m s n : Nat) ∧ laidOK w hi n s (yL w n s m (jzU w s n) (jzU hi (s / 2) n)) z.2.2.1 z.2.2.2.1 z.2.2.2.2 := by
  have hn4 := hF.2.2.1
  have a1 := jzU_rng w s n hF.1.1 hF.1.2
  have a2 := jzU_rng hi (s / 2) n hF.2.1.1 hF.2.1.2
  have a3 := jzUV w hi s n hF.1.1 hF.1.2 hF.2.1.1 hF.2.1.2
  have tot : jzU hi (s / 2) n * (jzU w s n * jzW m s n) ≤ 192 := by
    have := jzW_gS m s (jzU w s n * jzU hi (s / 2) n) n
    have h2 := hF.2.2.2.2
    unfold jzT at h2
    have e : jzU hi (s / 2) n * (jzU w s n * jzW m s n) = jzU w s n * jzU hi (s / 2) n * jzW m s n := by ac_rfl
    omega
  have hl : ∃ z, f_Course_laySeveral_L21 (zI (jzU hi (s / 2) n : Nat)) (zI (jzU w s n : Nat)) (zI m) (zI n) h v ac dn st N N ((0 : Int32), (0 : Int32), ow, pl) = some z ∧ laidOK w hi n s (yL w n s m (jzU w s n) (jzU hi (s / 2) n)) z.1 z.2.1 z.2.2 := by
    refine it_cnt (P := fun y (a : Int32 × Int32 × (Nat → Int32) × (Nat → Int32)) => a.1 = zI y ∧ laidOK w hi n s (yL w n s m (jzU w s n) y) a.2.1 a.2.2.1 a.2.2.2) (R := fun (z : Int32 × (Nat → Int32) × (Nat → Int32)) => laidOK w hi n s (yL w n s m (jzU w s n) (jzU hi (s / 2) n)) z.1 z.2.1 z.2.2) (jzU hi (s / 2) n) ?_ ?_ N 0 _ ⟨rfl, rfl, fun i p hp => by simp [yL] at hp⟩ (by omega) (by omega)
    · rintro g y ⟨a, la, o, p⟩ hy ⟨q1, q2⟩ ih
      dsimp only at q1 q2
      subst q1
      unfold f_Course_laySeveral_L21b
      dsimp only
      have ty : (y + 1) * (jzU w s n * jzW m s n) ≤ jzU hi (s / 2) n * (jzU w s n * jzW m s n) := Nat.mul_le_mul_right _ hy
      rw [Nat.add_mul, Nat.one_mul] at ty
      have hl2 : ∃ z, f_Course_laySeveral_L34 (zI (jzU w s n : Nat)) (zI m) (zI y) (zI n) h v ac dn st N N ((0 : Int32), la, o, p) = some z ∧ laidOK w hi n s (yL w n s m (jzU w s n) y ++ xL w n s m y (jzU w s n)) z.1 z.2.1 z.2.2 := by
        refine it_cnt (P := fun x (a : Int32 × Int32 × (Nat → Int32) × (Nat → Int32)) => a.1 = zI x ∧ laidOK w hi n s (yL w n s m (jzU w s n) y ++ xL w n s m y x) a.2.1 a.2.2.1 a.2.2.2) (R := fun (z : Int32 × (Nat → Int32) × (Nat → Int32)) => laidOK w hi n s (yL w n s m (jzU w s n) y ++ xL w n s m y (jzU w s n)) z.1 z.2.1 z.2.2) (jzU w s n) ?_ ?_ N 0 _ ⟨rfl, by simpa [xL] using q2⟩ (by omega) (by omega)
        · rintro g x ⟨a, la, o, p⟩ hx ⟨q1, q2⟩ ih
          dsimp only at q1 q2
          subst q1
          unfold f_Course_laySeveral_L34b
          dsimp only
          have tx : (x + 1) * jzW m s n ≤ jzU w s n * jzW m s n := Nat.mul_le_mul_right _ hx
          rw [Nat.add_mul, Nat.one_mul] at tx
          obtain ⟨z, z1, z2⟩ := q_layUnit N hN hF hf m x y hm hx hy _ (by rw [List.length_append, xL_len, yL_len]; omega) q2
          rw [z1]
          simp (disch := omega) only [zI_lit, zI_ofNat, zI_nI, zI_neg, zI_add, zI_sub, zI_mul, zI_lt, zI_le, zI_eq, zI_cl, zI_div, zI_shr, zI_shl, zI_and1, zI_and7, zI_and15, zI_and255, if_pos, if_neg, Option.bind_some, Option.bind_none, if_true, if_false, true_or, or_true, Int.toNat_natCast, pk_us]
          exact ih _ ⟨rfl, by rw [xL_1, ← List.append_assoc]; exact z2⟩
        · rintro g ⟨a, la, o, p⟩ ⟨q1, q2⟩
          dsimp only at q1 q2
          subst q1
          unfold f_Course_laySeveral_L34b
          simp (disch := omega) only [zI_lit, zI_ofNat, zI_nI, zI_neg, zI_add, zI_sub, zI_mul, zI_lt, zI_le, zI_eq, zI_cl, zI_div, zI_shr, zI_shl, zI_and1, zI_and7, zI_and15, zI_and255, if_pos, if_neg, Option.bind_some, Option.bind_none, if_true, if_false, true_or, or_true, Int.toNat_natCast, pk_us]
          exact ⟨_, rfl, q2⟩
      obtain ⟨z, z1, z2⟩ := hl2
      rw [z1]
      simp (disch := omega) only [zI_lit, zI_ofNat, zI_nI, zI_neg, zI_add, zI_sub, zI_mul, zI_lt, zI_le, zI_eq, zI_cl, zI_div, zI_shr, zI_shl, zI_and1, zI_and7, zI_and15, zI_and255, if_pos, if_neg, Option.bind_some, Option.bind_none, if_true, if_false, true_or, or_true, Int.toNat_natCast, pk_us]
      exact ih _ ⟨rfl, by rw [yL_1]; exact z2⟩
    · rintro g ⟨a, la, o, p⟩ ⟨q1, q2⟩
      dsimp only at q1 q2
      subst q1
      unfold f_Course_laySeveral_L21b
      simp (disch := omega) only [zI_lit, zI_ofNat, zI_nI, zI_neg, zI_add, zI_sub, zI_mul, zI_lt, zI_le, zI_eq, zI_cl, zI_div, zI_shr, zI_shl, zI_and1, zI_and7, zI_and15, zI_and255, if_pos, if_neg, Option.bind_some, Option.bind_none, if_true, if_false, true_or, or_true, Int.toNat_natCast, pk_us]
      exact ⟨_, rfl, q2⟩
  obtain ⟨z, z1, z2⟩ := hl
  unfold f_Course_laySeveral f_Course_laySeveral_J86
  rw [z1]
  have e1 : zI ((jzU w s n : Nat) : Int) * zI ((jzU hi (s / 2) n : Nat) : Int) = zI ((jzU w s n * jzU hi (s / 2) n : Nat) : Int) := by rw [zI_mul]; rfl
  have e2 := z2.1
  rw [yL_len] at e2
  have e3 : zI ((jzU hi (s / 2) n * (jzU w s n * jzW m s n) : Nat) : Int) / zI ((jzU w s n * jzU hi (s / 2) n : Nat) : Int) = zI (jzW m s n : Nat) := by
    rw [zI_div (by omega) (by omega) (by omega) (by omega), ← Int.natCast_ediv]
    congr 2
    rw [show jzU hi (s / 2) n * (jzU w s n * jzW m s n) = jzU w s n * jzU hi (s / 2) n * jzW m s n by ac_rfl, Nat.mul_div_cancel_left _ (by omega)]
  rw [e1]
  simp only [Option.bind_some]
  rw [e2, e3, ← e2]
  rw [if_pos (by rw [zI_lit, zI_le (by decide) (by decide) (by omega) (by omega)]; show (1 : Int) ≤ _; omega), if_neg (by rw [zI_lit, zI_eq (by omega) (by omega) (by decide) (by decide)]; show ¬ _ = (0 : Int); omega)]
  exact ⟨_, rfl, rfl, rfl, z2⟩
