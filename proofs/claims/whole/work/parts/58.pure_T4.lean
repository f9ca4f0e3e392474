/-! the frame: what both sides keep of it -/
def isFr (w hi n s : Nat) (m : Nat) (h v ac dn oa od st : Nat → Int32) : Prop := ∀ c, c < m → h c = zI (jzH s c : Nat) ∧ v c = zI (jzH (s / 2) c : Nat) ∧ ac c = zI (jzH s c * jzU w s n : Nat) ∧ dn c = zI (jzH (s / 2) c * jzU hi (s / 2) n : Nat) ∧ oa c = zI (jzO w (jzH s c) (jzM s n) : Nat) ∧ od c = zI (jzO hi (jzH (s / 2) c) (jzM (s / 2) n) : Nat) ∧ st c = zI (jzS s (jzU w s n * jzU hi (s / 2) n) c : Nat)
theorem isFr_up {w hi n s c : Nat} {h v ac dn oa od st : Nat → Int32} (H : isFr w hi n s c h v ac dn oa od st) :
    isFr w hi n s (c + 1) (upd h c (zI (jzH s c : Nat))) (upd v c (zI (jzH (s / 2) c : Nat))) (upd ac c (zI (jzH s c * jzU w s n : Nat))) (upd dn c (zI (jzH (s / 2) c * jzU hi (s / 2) n : Nat))) (upd oa c (zI (jzO w (jzH s c) (jzM s n) : Nat))) (upd od c (zI (jzO hi (jzH (s / 2) c) (jzM (s / 2) n) : Nat))) (upd st c (zI (jzS s (jzU w s n * jzU hi (s / 2) n) c : Nat))) := by
  intro j hj
  by_cases e : j = c
  · subst e
    simp only [pk_us]
    exact ⟨trivial, trivial, trivial, trivial, trivial, trivial, trivial⟩
  · simp only [pk_un e]
    exact H j (by omega)
theorem q_become_L (N : Nat) (hN : 100 ≤ N) (w hi n s : Nat) (hw : 1 ≤ w ∧ w ≤ 64) (hh : 1 ≤ hi ∧ hi ≤ 64) (hn : n ≤ 4) (hs : s < 256) (h v ac dn oa od st : Nat → Int32) :
    ∃ z, f_Picture_become_L57 (zI n) (zI s) (zI w) (zI (jzM s n : Nat)) (zI hi) (zI (jzM (s / 2) n : Nat)) (zI (jzU w s n : Nat)) (zI (jzU hi (s / 2) n : Nat)) N N ((0 : Int32), (0 : Int32), h, v, ac, dn, oa, od, st) = some z ∧ z.1 = zI (jzS s (jzU w s n * jzU hi (s / 2) n) n : Nat) ∧ isFr w hi n s n z.2.1 z.2.2.1 z.2.2.2.1 z.2.2.2.2.1 z.2.2.2.2.2.1 z.2.2.2.2.2.2.1 z.2.2.2.2.2.2.2 := by
  have m1 := jzM_rng s n
  have m2 := jzM_rng (s / 2) n
  refine it_cnt (P := fun c (a : Int32 × Int32 × (Nat → Int32) × (Nat → Int32) × (Nat → Int32) × (Nat → Int32) × (Nat → Int32) × (Nat → Int32) × (Nat → Int32)) => a.1 = zI c ∧ a.2.1 = zI (jzS s (jzU w s n * jzU hi (s / 2) n) c : Nat) ∧ isFr w hi n s c a.2.2.1 a.2.2.2.1 a.2.2.2.2.1 a.2.2.2.2.2.1 a.2.2.2.2.2.2.1 a.2.2.2.2.2.2.2.1 a.2.2.2.2.2.2.2.2) (R := fun (z : Int32 × (Nat → Int32) × (Nat → Int32) × (Nat → Int32) × (Nat → Int32) × (Nat → Int32) × (Nat → Int32) × (Nat → Int32)) => z.1 = zI (jzS s (jzU w s n * jzU hi (s / 2) n) n : Nat) ∧ isFr w hi n s n z.2.1 z.2.2.1 z.2.2.2.1 z.2.2.2.2.1 z.2.2.2.2.2.1 z.2.2.2.2.2.2.1 z.2.2.2.2.2.2.2) n ?_ ?_ N 0 _ ⟨rfl, rfl, fun c hc => absurd hc (by omega)⟩ (by omega) (by omega)
  · rintro g c ⟨a, b, h, v, ac, dn, oa, od, st⟩ hc ⟨q1, q2, q3⟩ ih
    dsimp only at q1 q2 q3
    subst q1 q2
    have r1 := jzH_rng s c
    have r2 := jzH_rng (s / 2) c
    unfold f_Picture_become_L57b
    dsimp only
    rw [half_c s hs, q_factor s c hs (by omega), q_factor (s / 2) c (by omega) (by omega)]
    have o1 : w * jzH s c ≤ 64 * 2 := Nat.mul_le_mul hw.2 r1.2
    have o2 : hi * jzH (s / 2) c ≤ 64 * 2 := Nat.mul_le_mul hh.2 r2.2
    have l1 := jzC_le (w * jzH s c) (jzM s n) m1.1
    have l2 := jzC_le (hi * jzH (s / 2) c) (jzM (s / 2) n) m2.1
    have d1 : f_Picture_divideUp (zI (w : Int) * zI ((jzH s c : Nat) : Int)) (zI (jzM s n : Nat)) = some (zI (jzC (w * jzH s c) (jzM s n) : Nat)) := by
      rw [zI_mul, ← Int.natCast_mul]; exact q_divideUp _ _ (by omega) (by omega) (by omega)
    have d2 : f_Picture_divideUp (zI (hi : Int) * zI ((jzH (s / 2) c : Nat) : Int)) (zI (jzM (s / 2) n : Nat)) = some (zI (jzC (hi * jzH (s / 2) c) (jzM (s / 2) n) : Nat)) := by
      rw [zI_mul, ← Int.natCast_mul]; exact q_divideUp _ _ (by omega) (by omega) (by omega)
    have d3 : ∀ a : Nat, a ≤ 10000 → f_Picture_divideUp (zI (a : Int)) (8 : Int32) = some (zI (jzC a 8 : Nat)) := fun a ha => q_divideUp a 8 ha (by omega) (by omega)
    simp only [Option.bind_some, zI_cl (show (0 : Int) ≤ c by omega) (show (c : Int) < 2147483648 by omega), Int.toNat_natCast, pk_us, d1, d2]
    rw [d3 _ (by omega), d3 _ (by omega)]
    simp only [Option.bind_some]
    have g1 : ¬ (zI (c : Int) < 0 ∨ 4 ≤ c) := by rw [zI_lit]; simp (disch := omega) only [zI_lit, zI_ofNat, zI_nI, zI_neg, zI_add, zI_sub, zI_mul, zI_lt, zI_le, zI_eq, zI_cl, zI_div, zI_shr, zI_shl, zI_and1, zI_and7, zI_and15, zI_and255, if_pos, if_neg, Option.bind_some, Option.bind_none, if_true, if_false, true_or, or_true, Int.toNat_natCast, pk_us]; omega
    simp only [if_neg g1]
    rw [if_neg (by simp (disch := omega) only [zI_lit, zI_ofNat, zI_nI, zI_neg, zI_add, zI_sub, zI_mul, zI_lt, zI_le, zI_eq, zI_cl, zI_div, zI_shr, zI_shl, zI_and1, zI_and7, zI_and15, zI_and255, if_pos, if_neg, Option.bind_some, Option.bind_none, if_true, if_false, true_or, or_true, Int.toNat_natCast, pk_us]; omega)]
    have u1 : zI ((jzH s c : Nat) : Int) * zI ((jzU w s n : Nat) : Int) = zI ((jzH s c * jzU w s n : Nat) : Int) := by rw [zI_mul]; rfl
    have u2 : zI ((jzH (s / 2) c : Nat) : Int) * zI ((jzU hi (s / 2) n : Nat) : Int) = zI ((jzH (s / 2) c * jzU hi (s / 2) n : Nat) : Int) := by rw [zI_mul]; rfl
    rw [u1, u2]
    refine ih _ ⟨by rw [zI_lit, zI_add]; rfl, ?_, isFr_up q3⟩
    dsimp only
    rw [zI_mul, zI_add, show jzS s (jzU w s n * jzU hi (s / 2) n) (c + 1) = jzS s (jzU w s n * jzU hi (s / 2) n) c + (jzU w s n * jzU hi (s / 2) n) * (jzH s c * jzH (s / 2) c) from rfl]
    congr 1
    push_cast
    congr 1
    ac_rfl
  · rintro g ⟨a, b, h, v, ac, dn, oa, od, st⟩ ⟨q1, q2, q3⟩
    dsimp only at q1 q2 q3
    subst q1 q2
    unfold f_Picture_become_L57b
    dsimp only
    rw [if_pos (by rw [i_le]; exact Int.le_refl _)]
    exact ⟨_, rfl, rfl, q3⟩
theorem q_lay_L9 (N : Nat) (hN : 100 ≤ N) (s n : Nat) (hs : s < 256) (hn : n ≤ 4) : f_M_lay_L9 (zI n) (zI s) N N ((1 : Int32), (1 : Int32), (0 : Int32)) = some (zI (jzM s n : Nat), zI (jzM (s / 2) n : Nat)) := by
  have := it_cnt1 (b := fun rec a => f_M_lay_L9b (zI n) (zI s) N rec a.1 a.2.1 a.2.2) (fun c => (zI (jzM s c : Nat), zI (jzM (s / 2) c : Nat), zI c)) (zI (jzM s n : Nat), zI (jzM (s / 2) n : Nat)) n (fun g c hc hg => by
    unfold f_M_lay_L9b f_M_lay_J9_34 f_M_lay_J9_57
    have h1 := jzM_rng s c
    have h2 := jzM_rng (s / 2) c
    have e1 : ((zI s >>> (((2 : Int32) * zI c) &&& 31)) &&& (1 : Int32)) = zI ((s / 2 ^ (2 * c) % 2 : Nat) : Int) := by
      simp (disch := omega) only [zI_lit, zI_ofNat, zI_nI, zI_neg, zI_add, zI_sub, zI_mul, zI_lt, zI_le, zI_eq, zI_cl, zI_div, zI_shr, zI_shl, zI_and1, zI_and7, zI_and15, zI_and255, if_pos, if_neg, Option.bind_some, Option.bind_none, if_true, if_false, true_or, or_true, Int.toNat_natCast, pk_us]
      rw [show ((2 : Int) * c).toNat = 2 * c by omega, p_shr]; rfl
    have e2 : ((zI s >>> ((((2 : Int32) * zI c) + (1 : Int32)) &&& 31)) &&& (1 : Int32)) = zI ((s / 2 / 2 ^ (2 * c) % 2 : Nat) : Int) := by
      simp (disch := omega) only [zI_lit, zI_ofNat, zI_nI, zI_neg, zI_add, zI_sub, zI_mul, zI_lt, zI_le, zI_eq, zI_cl, zI_div, zI_shr, zI_shl, zI_and1, zI_and7, zI_and15, zI_and255, if_pos, if_neg, Option.bind_some, Option.bind_none, if_true, if_false, true_or, or_true, Int.toNat_natCast, pk_us]
      rw [show ((2 : Int) * c + 1).toNat = 2 * c + 1 by omega, p_shr, sh_half]; rfl
    dsimp only
    rw [e1, e2]
    rw [show jzM s (c + 1) = max (jzM s c) (jzH s c) from rfl, show jzM (s / 2) (c + 1) = max (jzM (s / 2) c) (jzH (s / 2) c) from rfl] at hg
    unfold jzH at hg
    have hx : s / 2 ^ (2 * c) % 2 < 2 := Nat.mod_lt _ (by omega)
    have hy : s / 2 / 2 ^ (2 * c) % 2 < 2 := Nat.mod_lt _ (by omega)
    generalize s / 2 ^ (2 * c) % 2 = x at hg hx ⊢
    generalize s / 2 / 2 ^ (2 * c) % 2 = y at hg hy ⊢
    have hz : ∀ m : Nat, 1 ≤ m → m ≤ 2 → max m (1 + 0) = m ∧ max m (1 + 1) = 2 := fun m _ _ => by omega
    rcases (by omega : x = 0 ∨ x = 1) with rfl | rfl <;> rcases (by omega : y = 0 ∨ y = 1) with rfl | rfl <;> simp only [(hz _ h1.1 h1.2).1, (hz _ h1.1 h1.2).2, (hz _ h2.1 h2.2).1, (hz _ h2.1 h2.2).2] at hg <;> simp (disch := omega) only [zI_lit, zI_ofNat, zI_nI, zI_neg, zI_add, zI_sub, zI_mul, zI_lt, zI_le, zI_eq, zI_cl, zI_div, zI_shr, zI_shl, zI_and1, zI_and7, zI_and15, zI_and255, if_pos, if_neg, Option.bind_some, Option.bind_none, if_true, if_false, true_or, or_true, Int.toNat_natCast, pk_us] <;> exact hg) (fun g => by
    unfold f_M_lay_L9b
    dsimp only
    rw [if_pos (by rw [i_le]; exact Int.le_refl _)]) N 0 (by omega) (by omega)
  exact this
theorem q_lay_L93 (N : Nat) (hN : 100 ≤ N) (s n u v : Nat) (hs : s < 256) (hn : n ≤ 4) : f_M_lay_L93 (zI n) (zI u) (zI v) (zI s) N N ((0 : Int32), (0 : Int32)) = some (zI (jzS s (u * v) n : Nat)) := by
  have := it_cnt1 (b := fun rec a => f_M_lay_L93b (zI n) (zI u) (zI v) (zI s) N rec a.1 a.2) (fun c => (zI (jzS s (u * v) c : Nat), zI c)) (zI (jzS s (u * v) n : Nat)) n (fun g c hc hg => by
    unfold f_M_lay_L93b
    have e1 : ((zI s >>> (((2 : Int32) * zI c) &&& 31)) &&& (1 : Int32)) = zI ((s / 2 ^ (2 * c) % 2 : Nat) : Int) := by
      simp (disch := omega) only [zI_lit, zI_ofNat, zI_nI, zI_neg, zI_add, zI_sub, zI_mul, zI_lt, zI_le, zI_eq, zI_cl, zI_div, zI_shr, zI_shl, zI_and1, zI_and7, zI_and15, zI_and255, if_pos, if_neg, Option.bind_some, Option.bind_none, if_true, if_false, true_or, or_true, Int.toNat_natCast, pk_us]
      rw [show ((2 : Int) * c).toNat = 2 * c by omega, p_shr]; rfl
    have e2 : ((zI s >>> ((((2 : Int32) * zI c) + (1 : Int32)) &&& 31)) &&& (1 : Int32)) = zI ((s / 2 / 2 ^ (2 * c) % 2 : Nat) : Int) := by
      simp (disch := omega) only [zI_lit, zI_ofNat, zI_nI, zI_neg, zI_add, zI_sub, zI_mul, zI_lt, zI_le, zI_eq, zI_cl, zI_div, zI_shr, zI_shl, zI_and1, zI_and7, zI_and15, zI_and255, if_pos, if_neg, Option.bind_some, Option.bind_none, if_true, if_false, true_or, or_true, Int.toNat_natCast, pk_us]
      rw [show ((2 : Int) * c + 1).toNat = 2 * c + 1 by omega, p_shr, sh_half]; rfl
    dsimp only
    rw [e1, e2]
    simp (disch := omega) only [zI_lit, zI_ofNat, zI_nI, zI_neg, zI_add, zI_sub, zI_mul, zI_lt, zI_le, zI_eq, zI_cl, zI_div, zI_shr, zI_shl, zI_and1, zI_and7, zI_and15, zI_and255, if_pos, if_neg, Option.bind_some, Option.bind_none, if_true, if_false, true_or, or_true, Int.toNat_natCast, pk_us]
    rw [← hg]
    rw [show jzS s (u * v) (c + 1) = jzS s (u * v) c + u * v * (jzH s c * jzH (s / 2) c) from rfl]
    unfold jzH
    congr 3
    push_cast
    rw [Int.mul_assoc]) (fun g => by
    unfold f_M_lay_L93b
    dsimp only
    rw [if_pos (by rw [i_le]; exact Int.le_refl _)]) N 0 (by omega) (by omega)
  exact this
theorem q_lay_L185 (N : Nat) (hN : 100 ≤ N) (w hi n s : Nat) (hw : 1 ≤ w ∧ w ≤ 64) (hh : 1 ≤ hi ∧ hi ≤ 64) (hn : n ≤ 4) (hs : s < 256) (h v ac dn oa od st : Nat → Int32) :
    ∃ z, f_M_lay_L185 (zI n) (zI w) (zI s) (zI (jzM s n : Nat)) (zI hi) (zI (jzM (s / 2) n : Nat)) (zI (jzU w s n : Nat)) (zI (jzU hi (s / 2) n : Nat)) N N ((0 : Int32), (0 : Int32), h, v, ac, dn, oa, od, st) = some z ∧ isFr w hi n s n z.1 z.2.1 z.2.2.1 z.2.2.2.1 z.2.2.2.2.1 z.2.2.2.2.2.1 z.2.2.2.2.2.2 := by
  have m1 := jzM_rng s n
  have m2 := jzM_rng (s / 2) n
  refine it_cnt (P := fun c (a : Int32 × Int32 × (Nat → Int32) × (Nat → Int32) × (Nat → Int32) × (Nat → Int32) × (Nat → Int32) × (Nat → Int32) × (Nat → Int32)) => a.2.1 = zI c ∧ a.1 = zI (jzS s (jzU w s n * jzU hi (s / 2) n) c : Nat) ∧ isFr w hi n s c a.2.2.1 a.2.2.2.1 a.2.2.2.2.1 a.2.2.2.2.2.1 a.2.2.2.2.2.2.1 a.2.2.2.2.2.2.2.1 a.2.2.2.2.2.2.2.2) (R := fun (z : (Nat → Int32) × (Nat → Int32) × (Nat → Int32) × (Nat → Int32) × (Nat → Int32) × (Nat → Int32) × (Nat → Int32)) => isFr w hi n s n z.1 z.2.1 z.2.2.1 z.2.2.2.1 z.2.2.2.2.1 z.2.2.2.2.2.1 z.2.2.2.2.2.2) n ?_ ?_ N 0 _ ⟨rfl, rfl, fun c hc => absurd hc (by omega)⟩ (by omega) (by omega)
  · rintro g c ⟨b, a, h, v, ac, dn, oa, od, st⟩ hc ⟨q1, q2, q3⟩ ih
    dsimp only at q1 q2 q3
    subst q1 q2
    have r1 := jzH_rng s c
    have r2 := jzH_rng (s / 2) c
    unfold f_M_lay_L185b
    dsimp only
    have e1 : (1 : Int32) + ((zI s >>> (((2 : Int32) * zI c) &&& 31)) &&& (1 : Int32)) = zI ((jzH s c : Nat) : Int) := by
      simp (disch := omega) only [zI_lit, zI_ofNat, zI_nI, zI_neg, zI_add, zI_sub, zI_mul, zI_lt, zI_le, zI_eq, zI_cl, zI_div, zI_shr, zI_shl, zI_and1, zI_and7, zI_and15, zI_and255, if_pos, if_neg, Option.bind_some, Option.bind_none, if_true, if_false, true_or, or_true, Int.toNat_natCast, pk_us]
      rw [show ((2 : Int) * c).toNat = 2 * c by omega, p_shr]; rfl
    have e2 : (1 : Int32) + ((zI s >>> ((((2 : Int32) * zI c) + (1 : Int32)) &&& 31)) &&& (1 : Int32)) = zI ((jzH (s / 2) c : Nat) : Int) := by
      unfold jzH
      rw [sh_half]
      simp (disch := omega) only [zI_lit, zI_ofNat, zI_nI, zI_neg, zI_add, zI_sub, zI_mul, zI_lt, zI_le, zI_eq, zI_cl, zI_div, zI_shr, zI_shl, zI_and1, zI_and7, zI_and15, zI_and255, if_pos, if_neg, Option.bind_some, Option.bind_none, if_true, if_false, true_or, or_true, Int.toNat_natCast, pk_us]
      rw [show ((2 : Int) * c + 1).toNat = 2 * c + 1 by omega, p_shr]; rfl
    rw [e1, e2]
    have o1 : w * jzH s c ≤ 64 * 2 := Nat.mul_le_mul hw.2 r1.2
    have o2 : hi * jzH (s / 2) c ≤ 64 * 2 := Nat.mul_le_mul hh.2 r2.2
    have l1 := jzC_le (w * jzH s c) (jzM s n) m1.1
    have l2 := jzC_le (hi * jzH (s / 2) c) (jzM (s / 2) n) m2.1
    have d1 : f_M_up (zI (w : Int) * zI ((jzH s c : Nat) : Int)) (zI (jzM s n : Nat)) = some (zI (jzC (w * jzH s c) (jzM s n) : Nat)) := by
      rw [zI_mul, ← Int.natCast_mul]; exact q_up _ _ (by omega) (by omega) (by omega)
    have d2 : f_M_up (zI (hi : Int) * zI ((jzH (s / 2) c : Nat) : Int)) (zI (jzM (s / 2) n : Nat)) = some (zI (jzC (hi * jzH (s / 2) c) (jzM (s / 2) n) : Nat)) := by
      rw [zI_mul, ← Int.natCast_mul]; exact q_up _ _ (by omega) (by omega) (by omega)
    have d3 : ∀ a : Nat, a ≤ 10000 → f_M_up (zI (a : Int)) (8 : Int32) = some (zI (jzC a 8 : Nat)) := fun a ha => q_up a 8 ha (by omega) (by omega)
    simp only [Option.bind_some, zI_cl (show (0 : Int) ≤ c by omega) (show (c : Int) < 2147483648 by omega), Int.toNat_natCast, pk_us, d1, d2]
    rw [d3 _ (by omega), d3 _ (by omega)]
    simp only [Option.bind_some]
    have g1 : ¬ (zI (c : Int) < 0 ∨ 4 ≤ c) := by rw [zI_lit]; simp (disch := omega) only [zI_lit, zI_ofNat, zI_nI, zI_neg, zI_add, zI_sub, zI_mul, zI_lt, zI_le, zI_eq, zI_cl, zI_div, zI_shr, zI_shl, zI_and1, zI_and7, zI_and15, zI_and255, if_pos, if_neg, Option.bind_some, Option.bind_none, if_true, if_false, true_or, or_true, Int.toNat_natCast, pk_us]; omega
    simp only [if_neg g1]
    rw [if_neg (by simp (disch := omega) only [zI_lit, zI_ofNat, zI_nI, zI_neg, zI_add, zI_sub, zI_mul, zI_lt, zI_le, zI_eq, zI_cl, zI_div, zI_shr, zI_shl, zI_and1, zI_and7, zI_and15, zI_and255, if_pos, if_neg, Option.bind_some, Option.bind_none, if_true, if_false, true_or, or_true, Int.toNat_natCast, pk_us]; omega)]
    have u1 : zI ((jzU w s n : Nat) : Int) * zI ((jzH s c : Nat) : Int) = zI ((jzH s c * jzU w s n : Nat) : Int) := by rw [zI_mul, Int.mul_comm]; rfl
    have u2 : zI ((jzU hi (s / 2) n : Nat) : Int) * zI ((jzH (s / 2) c : Nat) : Int) = zI ((jzH (s / 2) c * jzU hi (s / 2) n : Nat) : Int) := by rw [zI_mul, Int.mul_comm]; rfl
    rw [u1, u2]
    refine ih _ ⟨by rw [zI_lit, zI_add]; rfl, ?_, isFr_up q3⟩
    dsimp only
    rw [zI_mul, zI_add, show jzS s (jzU w s n * jzU hi (s / 2) n) (c + 1) = jzS s (jzU w s n * jzU hi (s / 2) n) c + (jzU w s n * jzU hi (s / 2) n) * (jzH s c * jzH (s / 2) c) from rfl]
    congr 1
    push_cast
    congr 1
    ac_rfl
  · rintro g ⟨b, a, h, v, ac, dn, oa, od, st⟩ ⟨q1, q2, q3⟩
    dsimp only at q1 q2 q3
    subst q1 q2
    unfold f_M_lay_L185b
    dsimp only
    rw [if_pos (by rw [i_le]; exact Int.le_refl _)]
    exact ⟨_, rfl, q3⟩
theorem q_lay (N : Nat) (hN : 100 ≤ N) (w hi n s : Nat) (hw : 1 ≤ w ∧ w ≤ 64) (hh : 1 ≤ hi ∧ hi ≤ 64) (hn : n ≤ 4) (hs : s < 256) (mw mh mm mua mud : Int32) (h v ac dn oa od st : Nat → Int32) :
    (192 < jzS s (jzU w s n * jzU hi (s / 2) n) n ∧ f_M_lay N (zI w) (zI hi) (zI n) (zI s) mw mh mm mua mud h v ac dn oa od st = some (zI (jzS s (jzU w s n * jzU hi (s / 2) n) n : Nat), mw, mh, mm, mua, mud, h, v, ac, dn, oa, od, st)) ∨
    (jzS s (jzU w s n * jzU hi (s / 2) n) n ≤ 192 ∧ ∃ h' v' ac' dn' oa' od' st', f_M_lay N (zI w) (zI hi) (zI n) (zI s) mw mh mm mua mud h v ac dn oa od st = some (zI (jzS s (jzU w s n * jzU hi (s / 2) n) n : Nat), zI w, zI hi, zI n, zI (jzU w s n : Nat), zI (jzU hi (s / 2) n : Nat), h', v', ac', dn', oa', od', st') ∧ isFr w hi n s n h' v' ac' dn' oa' od' st') := by
  have m1 := jzM_rng s n
  have m2 := jzM_rng (s / 2) n
  unfold f_M_lay
  have e1 : (8 : Int32) * zI ((jzM s n : Nat) : Int) = zI ((8 * jzM s n : Nat) : Int) := by simp (disch := omega) only [zI_lit, zI_ofNat, zI_nI, zI_neg, zI_add, zI_sub, zI_mul, zI_lt, zI_le, zI_eq, zI_cl, zI_div, zI_shr, zI_shl, zI_and1, zI_and7, zI_and15, zI_and255, if_pos, if_neg, Option.bind_some, Option.bind_none, if_true, if_false, true_or, or_true, Int.toNat_natCast, pk_us]; rfl
  have e2 : (8 : Int32) * zI ((jzM (s / 2) n : Nat) : Int) = zI ((8 * jzM (s / 2) n : Nat) : Int) := by simp (disch := omega) only [zI_lit, zI_ofNat, zI_nI, zI_neg, zI_add, zI_sub, zI_mul, zI_lt, zI_le, zI_eq, zI_cl, zI_div, zI_shr, zI_shl, zI_and1, zI_and7, zI_and15, zI_and255, if_pos, if_neg, Option.bind_some, Option.bind_none, if_true, if_false, true_or, or_true, Int.toNat_natCast, pk_us]; rfl
  have b1 := jzUV w hi s n (by omega) (by omega) (by omega) (by omega)
  have b2 := jzS_le s (jzU w s n * jzU hi (s / 2) n) n
  have b3 : n * (4 * (jzU w s n * jzU hi (s / 2) n)) ≤ 4 * (4 * 64) := Nat.mul_le_mul (by omega) (by omega)
  rw [q_lay_L9 N hN s n hs hn]
  simp only [Option.bind_some]
  rw [e1, e2, q_up w _ (by omega) (by omega) (by omega), q_up hi _ (by omega) (by omega) (by omega)]
  simp only [Option.bind_some]
  rw [q_lay_L93 N hN s n _ _ hs hn]
  simp only [Option.bind_some]
  change (192 < jzS s (jzU w s n * jzU hi (s / 2) n) n ∧ (if zI ((jzS s (jzU w s n * jzU hi (s / 2) n) n : Nat) : Int) ≤ (192 : Int32) then _ else _) = _) ∨ (_ ∧ ∃ h' v' ac' dn' oa' od' st', (if zI ((jzS s (jzU w s n * jzU hi (s / 2) n) n : Nat) : Int) ≤ (192 : Int32) then _ else _) = _ ∧ _)
  by_cases c : 192 < jzS s (jzU w s n * jzU hi (s / 2) n) n
  · refine Or.inl ⟨c, ?_⟩
    rw [if_neg (by rw [zI_lit, zI_le (by omega) (by omega) (by decide) (by decide)]; show ¬ _ ≤ (192 : Int); omega)]
    rfl
  · refine Or.inr ⟨by omega, ?_⟩
    rw [if_pos (by rw [zI_lit, zI_le (by omega) (by omega) (by decide) (by decide)]; show _ ≤ (192 : Int); omega)]
    obtain ⟨z, z1, z2⟩ := q_lay_L185 N hN w hi n s hw hh hn hs h v ac dn oa od st
    refine ⟨_, _, _, _, _, _, _, ?_, z2⟩
    change (f_M_lay_L185 _ _ _ _ _ _ (zI (jzU w s n : Nat)) (zI (jzU hi (s / 2) n : Nat)) _ _ _).bind _ = _
    rw [z1]
    rfl
