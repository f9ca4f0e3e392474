/-! WRITING: a scan as both sides hold it -/
theorem UL_in {w hi n s : Nat} (hF : okF w hi n s) {m u : Nat} (hm0 : 0 < m) (hm : m < 2 ^ n) (hu : u < jzUn w hi n s m) {q : Nat × Nat} (hq : q ∈ jzUL w n s m u n) : q.1 < n ∧ jzK m q.1 = 1 ∧ q.2 < jzA w n s q.1 * jzD hi n s q.1 := by
  have h16 := m_lt16 hF.2.2.1.2 hm
  unfold jzUL at hq
  rw [List.mem_flatMap] at hq
  obtain ⟨c, hc, hq⟩ := hq
  rw [List.mem_range] at hc
  rw [List.mem_map] at hq
  obtain ⟨j, hj, rfl⟩ := hq
  rw [List.mem_range] at hj
  unfold jzBI at hj
  rcases jzK_2 m c with e | e
  · rw [if_pos e] at hj; omega
  · rw [if_neg (by omega)] at hj
    refine ⟨hc, e, ?_⟩
    dsimp only
    have fin : ∀ x y, x < jzA w n s c → y < jzD hi n s c → y * jzA w n s c + x < jzA w n s c * jzD hi n s c := fun x y hx hy => by
      have : (y + 1) * jzA w n s c ≤ jzD hi n s c * jzA w n s c := Nat.mul_le_mul_right _ hy
      rw [Nat.add_mul, Nat.mul_comm (jzD hi n s c)] at this
      omega
    unfold jzBO
    by_cases e1 : jzN m = 1
    · rw [if_pos e1]
      obtain ⟨c0, c1, rfl⟩ := jzN_1 m h16 e1
      have hcc : c = c0 := by
        rw [jzK_p c0 c1 c (by have := hF.2.2.1; omega)] at e
        by_cases h : c = c0
        · exact h
        · rw [if_neg h] at e; omega
      subst hcc
      rw [jzUn_1 hF c hc e1] at hu
      have l4 := jzOA hF hc
      have l5 := jzOD hF hc
      apply fin
      · exact Nat.lt_of_lt_of_le (Nat.mod_lt _ (by omega)) l4.2
      · exact Nat.lt_of_lt_of_le (Nat.div_lt_of_lt_mul (by rw [Nat.mul_comm]; exact hu)) l5.2
    · rw [if_neg e1]
      rw [if_neg e1] at hj
      unfold jzUn at hu
      rw [if_neg e1] at hu
      have r1 := jzH_rng s c
      have r2 := jzH_rng (s / 2) c
      have a1 := jzU_rng w s n hF.1.1 hF.1.2
      have a2 := jzU_rng hi (s / 2) n hF.2.1.1 hF.2.1.2
      have m1 : u % jzU w s n < jzU w s n := Nat.mod_lt _ (by omega)
      have m2 : u / jzU w s n < jzU hi (s / 2) n := Nat.div_lt_of_lt_mul hu
      have m3 : j % jzH s c < jzH s c := Nat.mod_lt _ (by omega)
      have m4 : j / jzH s c < jzH (s / 2) c := Nat.div_lt_of_lt_mul hj
      apply fin
      · have : (u % jzU w s n + 1) * jzH s c ≤ jzU w s n * jzH s c := Nat.mul_le_mul_right _ m1
        rw [Nat.add_mul, Nat.one_mul, Nat.mul_comm (jzU w s n)] at this
        unfold jzA
        omega
      · have : (u / jzU w s n + 1) * jzH (s / 2) c ≤ jzU hi (s / 2) n * jzH (s / 2) c := Nat.mul_le_mul_right _ m2
        rw [Nat.add_mul, Nat.one_mul, Nat.mul_comm (jzU hi (s / 2) n)] at this
        unfold jzD
        omega
theorem jzX_find (cn : Nat → Nat) : ∀ (n p : Nat), p < jzX cn n → ∃ l, l < n ∧ jzX cn l ≤ p ∧ p < jzX cn (l + 1)
  | 0, p, h => absurd h (Nat.not_lt_zero _)
  | n + 1, p, h => by
    by_cases c : p < jzX cn n
    · obtain ⟨l, h1, h2⟩ := jzX_find cn n p c
      exact ⟨l, by omega, h2⟩
    · exact ⟨n, by omega, by omega, h⟩
theorem if_aux {L V X Y : Nat} (hX : X = L) (hY : 0 < L → Y = V) : (if L = 0 then 0 else 2 ^ L + V) = (if X = 0 then 0 else 2 ^ X + Y) := by
  subst hX
  by_cases h : X = 0
  · rw [if_pos h, if_pos h]
  · rw [if_neg h, if_neg h, hY (by omega)]
/-- words of both sides -/
theorem codes_of {vw vs vf vx : Nat → Nat → Int32} {ve vz ln cd wd : Nat → Int32} (hA : rAll vw vs vf vx ve vz ln cd wd) : ∃ Lc Vc : Nat → Nat → Nat, okLV Lc Vc ∧ rVw Lc Vc vw ∧ rLC Lc Vc ln cd := by
  have key : ∀ t s, t < 8 → s < 256 → ∃ L V : Nat, L ≤ 16 ∧ V < 2 ^ L ∧ ln (256 * t + s) = zI (L : Nat) ∧ (0 < L → cd (256 * t + s) = zI (V : Nat)) ∧ vw t s = zI (if L = 0 then 0 else 2 ^ L + V : Nat) := by
    intro t s ht hs
    obtain ⟨cn, sy, sz, o1, o2, o3, o4, -⟩ := hA t ht
    obtain ⟨hX, hTw, hFt⟩ := o1
    obtain ⟨-, -, -, -, -, hC⟩ := o3
    by_cases hp : ∃ p, p < sz ∧ sy p = s
    · obtain ⟨p, p1, p2⟩ := hp
      obtain ⟨l, l1, l2, l3⟩ := jzX_find cn 16 p (by omega)
      have c1 := hC.1 l p l1 l2 l3 p1
      have c2 := o4.1 l p l1 l2 l3 p1
      have f1 := hFt (l + 1) (by omega) (by omega)
      have eX : jzX cn (l + 1) = jzX cn l + cn (l + 1) := rfl
      have eE : jzE cn (l + 1) = 2 * jzE cn l + cn (l + 1) := rfl
      rw [p2] at c1 c2
      refine ⟨l + 1, 2 * jzE cn l + (p - jzX cn l), by omega, by omega, c2.1, fun _ => c2.2, ?_⟩
      rw [if_neg (by omega)]
      exact c1
    · have hn : ∀ p, p < sz → sy p ≠ s := fun p h1 h2 => hp ⟨p, h1, h2⟩
      refine ⟨0, 0, by omega, by omega, o4.2 s hs hn, fun h => absurd h (by omega), ?_⟩
      rw [if_pos rfl]
      exact hC.2 s hs hn
  refine ⟨fun t s => if t < 8 ∧ s < 256 then (ln (256 * t + s)).toNatClampNeg else 0, fun t s => if t < 8 ∧ s < 256 ∧ 0 < (ln (256 * t + s)).toNatClampNeg then (cd (256 * t + s)).toNatClampNeg else 0, fun t s => ?_, fun t s ht hs => ?_, fun t s ht hs => ?_⟩
  · dsimp only
    by_cases h : t < 8 ∧ s < 256
    · obtain ⟨L, V, k1, k2, k3, k4, k5⟩ := key t s h.1 h.2
      have hp := pow16 k1
      rw [if_pos h, k3, clN L (by omega)]
      by_cases h0 : 0 < L
      · rw [if_pos ⟨h.1, h.2, h0⟩, k4 h0, clN V (by omega)]
        exact ⟨k1, k2⟩
      · rw [if_neg (fun h9 => h0 h9.2.2)]
        exact ⟨k1, Nat.two_pow_pos _⟩
    · rw [if_neg h, if_neg (fun h9 => h ⟨h9.1, h9.2.1⟩)]
      exact ⟨by omega, Nat.two_pow_pos _⟩
  · obtain ⟨L, V, k1, k2, k3, k4, k5⟩ := key t s ht hs
    have hp := pow16 k1
    have hLL : (if t < 8 ∧ s < 256 then (ln (256 * t + s)).toNatClampNeg else 0) = L := by rw [if_pos ⟨ht, hs⟩, k3, clN L (by omega)]
    have hVV : 0 < L → (if t < 8 ∧ s < 256 ∧ 0 < (ln (256 * t + s)).toNatClampNeg then (cd (256 * t + s)).toNatClampNeg else 0) = V := fun h0 => by
      rw [if_pos ⟨ht, hs, by rw [k3, clN L (by omega)]; exact h0⟩, k4 h0, clN V (by omega)]
    rw [k5, if_aux hLL hVV]
  · obtain ⟨L, V, k1, k2, k3, k4, k5⟩ := key t s ht hs
    have hp := pow16 k1
    dsimp only
    rw [if_pos (show t < 8 ∧ s < 256 from ⟨ht, hs⟩), k3, clN L (by omega)]
    refine ⟨rfl, fun h0 => ?_⟩
    rw [if_pos ⟨ht, hs, h0⟩, k4 h0, clN V (by omega)]
def rCC (B : Nat) (CC : Nat → Int) (co co' : Nat → Int32) : Prop := (∀ i, i < 64 * B → co i = zI (CC i) ∧ co' i = zI (CC i)) ∧ ∀ i, -1024 ≤ CC i ∧ CC i ≤ 1023
theorem cc_of {B : Nat} {co co' : Nat → Int32} (h : rCo B co co') : ∃ CC, rCC B CC co co' := by
  refine ⟨fun i => if i < 64 * B then (co i).toInt else 0, fun i hi => ?_, fun i => ?_⟩
  · dsimp only
    rw [if_pos hi, ← (h i hi).1]
    exact ⟨zI_of _, zI_of _⟩
  · dsimp only
    by_cases hi : i < 64 * B
    · rw [if_pos hi]
      obtain ⟨-, z, z1, z2, z3, -⟩ := h i hi
      rw [z1, zI_toInt (by omega) (by omega)]
      exact ⟨z2, z3⟩
    · rw [if_neg hi]; constructor <;> decide
theorem tb_of {dt ot dt' ot' : Nat → Int32} (h : rTabs dt ot dt' ot') : ∃ D O : Nat → Nat, ∀ c, c < 4 → dt c = zI (D c : Nat) ∧ dt' c = zI (D c : Nat) ∧ ot c = zI (O c : Nat) ∧ ot' c = zI (O c : Nat) ∧ D c < 8 ∧ O c < 8 := by
  refine ⟨fun c => (dt c).toInt.toNat, fun c => (ot c).toInt.toNat, fun c hc => ?_⟩
  obtain ⟨h1, h2, h3, h4, h5, h6⟩ := h c hc
  dsimp only
  rw [Int.toNat_of_nonneg h3, Int.toNat_of_nonneg (by omega), ← h1, ← h2]
  exact ⟨zI_of _, zI_of _, zI_of _, zI_of _, by omega, by omega⟩
theorem oks_K {n m k f l b bf : Nat} (h : okS n m k f l b bf) : okK k f l b ∧ okKM k f l b bf ∧ (3 ≤ k → jzN m = 1) := by
  obtain ⟨-, -, hb, h⟩ := h
  refine ⟨⟨hb, ?_⟩, ⟨hb, ?_⟩, fun hk => ?_⟩
  · rcases h with h | h | h | h | h
    · exact Or.inl (by omega)
    · exact Or.inr (Or.inl (by omega))
    · exact Or.inr (Or.inr (Or.inl (by omega)))
    · exact Or.inr (Or.inr (Or.inr (Or.inl (by omega))))
    · exact Or.inr (Or.inr (Or.inr (Or.inr (by omega))))
  · rcases h with h | h | h | h | h
    · exact Or.inl (by omega)
    · exact Or.inr (Or.inl (by omega))
    · exact Or.inr (Or.inr (Or.inl (by omega)))
    · exact Or.inr (Or.inr (Or.inr (Or.inl (by omega))))
    · exact Or.inr (Or.inr (Or.inr (Or.inr (by omega))))
  · rcases h with h | h | h | h | h
    · omega
    · omega
    · omega
    · exact h.2.2.2.2.2
    · exact h.2.2.2.2.2
theorem UL_c0 {w hi n s : Nat} (hF : okF w hi n s) {m u : Nat} (hm0 : 0 < m) (hm : m < 2 ^ n) (hu : u < jzUn w hi n s m) {q : Nat × Nat} (hq : q ∈ jzUL w n s m u n) (h1 : jzN m = 1) : q.1 = jzC0 m := by
  have h16 := m_lt16 hF.2.2.1.2 hm
  obtain ⟨i1, i2, -⟩ := UL_in hF hm0 hm hu hq
  obtain ⟨c0, c1, rfl⟩ := jzN_1 m h16 h1
  rw [jzC0_p c0 c1]
  rw [jzK_p c0 c1 q.1 (by have := hF.2.2.1; omega)] at i2
  by_cases h : q.1 = c0
  · exact h
  · rw [if_neg h] at i2; omega
theorem sum_c {n : Nat} {f : Nat → Int32} {g : Nat → Nat} (h : ∀ i, i < n → f i = zI (g i : Nat)) : smI f n = zI (((List.range n).map g).sum : Nat) := by
  induction n with
  | zero => rfl
  | succ n ih =>
    show smI f n + f n = _
    rw [ih (fun i hi => h i (by omega)), h n (by omega), List.range_succ, List.map_append, List.sum_append, zI_add]
    simp
theorem cW_sum (M : Nat) : ∀ (es : List (Nat × Nat × Nat)), (∀ e, e ∈ es → e.1 = 0 → 256 * e.2.1 + e.2.2 < M) → ((List.range M).map (cWi es)).sum = cW es
  | [], _ => by
    have : (List.range M).map (cWi []) = (List.range M).map fun _ => 0 := by
      apply List.map_congr_left; intro i _; rfl
    rw [this, List.map_const', List.sum_replicate_nat]; rfl
  | e :: es, h => by
    have ih := cW_sum M es (fun x hx => h x (List.mem_cons_of_mem _ hx))
    have he := h e (List.mem_cons_self ..)
    have one : ∀ n k, k < n → ((List.range n).map fun i => if k = i then 1 else 0).sum = 1 := by
      intro n
      induction n with
      | zero => intro k hk; omega
      | succ n ih2 =>
        intro k hk
        rw [List.range_succ, List.map_append, List.sum_append]
        by_cases e2 : k = n
        · have z : ((List.range n).map fun i => if k = i then 1 else 0) = (List.range n).map fun _ => 0 := by
            apply List.map_congr_left; intro i hi; rw [List.mem_range] at hi; rw [if_neg (by omega)]
          rw [z, List.map_const', List.sum_replicate_nat]
          simp [e2]
        · rw [ih2 k (by omega)]
          simp [e2]
    have add : ∀ (n : Nat) (f g : Nat → Nat), ((List.range n).map fun i => f i + g i).sum = ((List.range n).map f).sum + ((List.range n).map g).sum := by
      intro n f g
      induction n with
      | zero => rfl
      | succ n ih2 => rw [List.range_succ, List.map_append, List.map_append, List.map_append, List.sum_append, List.sum_append, List.sum_append, ih2]; simp; omega
    by_cases w : e.1 = 0
    · have hk := he w
      have ec : ∀ i, cWi (e :: es) i = cWi es i + if 256 * e.2.1 + e.2.2 = i then 1 else 0 := fun i => by
        unfold cWi
        rw [List.countP_cons]
        congr 1
        by_cases e2 : 256 * e.2.1 + e.2.2 = i
        · rw [if_pos e2, if_pos (by simp [w, e2])]
        · rw [if_neg e2, if_neg (by simp [w, e2])]
      have e3 : (List.range M).map (cWi (e :: es)) = (List.range M).map fun i => cWi es i + if 256 * e.2.1 + e.2.2 = i then 1 else 0 := by
        apply List.map_congr_left; intro i _; exact ec i
      rw [e3, add, ih, one M _ hk]
      unfold cW
      rw [List.countP_cons, if_pos (by simp [w])]
    · have e3 : (List.range M).map (cWi (e :: es)) = (List.range M).map (cWi es) := by
        apply List.map_congr_left; intro i _
        unfold cWi
        rw [List.countP_cons, if_neg (by simp [w])]; rfl
      rw [e3, ih]
      unfold cW
      rw [List.countP_cons, if_neg (by simp [w])]; rfl
