/-! WRITING: the reference, units -/
theorem dvN (a b : Nat) (ha : a < 2147483648) (hb : 0 < b) (hb2 : b < 2147483648) : zI (a : Int) / zI (b : Int) = zI ((a / b : Nat) : Int) := by
  rw [zI_div (by omega) (by omega) (by omega) (by omega)]; rfl
theorem mdN (a b : Nat) (ha : a < 2147483648) (hb : 0 < b) (hb2 : b < 2147483648) : zI (a : Int) - zI (a : Int) / zI (b : Int) * zI (b : Int) = zI ((a % b : Nat) : Int) := by
  rw [dvN a b ha hb hb2, zI_mul, zI_sub]
  congr 1
  have := Nat.div_add_mod a b
  rw [Nat.mul_comm] at this
  push_cast
  rw [Int.emod_def, Int.mul_comm (b : Int)]
theorem nzN {b : Nat} (hb : 0 < b) (hb2 : b < 2147483648) : ¬ zI (b : Int) = (0 : Int32) := by
  rw [zI_lit, zI_eq (by omega) (by omega) (by decide) (by decide)]; show ¬ _ = (0 : Int); omega
theorem q_blockOf (N : Nat) (hN : 20000 ≤ N) {w hi n s : Nat} {h v ac dn oa od st : Nat → Int32} (hF : okF w hi n s) (hf : isFr w hi n s n h v ac dn oa od st) (m c u j : Nat) (hm : m < 16) (hc : c < n) (hu : u ≤ 1000) (hj : j ≤ 1000) : f_M_blockOf N (zI c) (zI u) (zI j) (zI (jzU w s n : Nat)) (zI m) h v ac oa = some (zI (jzBO w n s m c u j : Nat)) := by
  have hn4 := hF.2.2.1
  obtain ⟨f1, f2, f3, f4, f5, f6, f7⟩ := hf c hc
  have r1 := jzH_rng s c
  have r2 := jzH_rng (s / 2) c
  have r3 := jzOA hF hc
  have r4 := jzU_rng w s n hF.1.1 hF.1.2
  have f3' : ac c = zI (jzA w n s c : Nat) := f3
  have hA : jzA w n s c ≤ 16 := by
    have : jzH s c * jzU w s n ≤ 2 * 8 := Nat.mul_le_mul r1.2 r4.2
    exact this
  unfold f_M_blockOf jzBO
  have hO : jzN m ≤ 4 := by unfold jzN; omega
  rw [q_onesN N (by omega) m hm, clN c (by omega), f5, f3', f1, f2]
  dsimp only [Option.bind_some]
  have gc := inN c 4 (by omega) (by omega)
  by_cases e : jzN m = 1
  · rw [if_pos (by rw [e]; rfl), if_pos e, if_neg gc, if_neg (nzN (by omega) (by omega)), if_neg gc, if_neg gc, if_neg (nzN (by omega) (by omega)), mdN u _ (by omega) (by omega) (by omega), dvN u _ (by omega) (by omega) (by omega), zI_mul, zI_add]
    rfl
  · rw [if_neg (by rw [zI_lit, zI_eq (by omega) (by omega) (by decide) (by decide)]; show ¬ _ = (1 : Int); omega), if_neg e, if_neg (nzN (by omega) (by omega)), if_neg gc, if_neg gc, if_neg (nzN (by omega) (by omega)), if_neg (nzN (by omega) (by omega)), if_neg gc, if_neg gc, if_neg (nzN (by omega) (by omega)), if_neg gc, mdN u _ (by omega) (by omega) (by omega), mdN j _ (by omega) (by omega) (by omega), dvN u _ (by omega) (by omega) (by omega), dvN j _ (by omega) (by omega) (by omega)]
    simp only [zI_mul, zI_add]
    rfl
theorem q_blocksIn (N : Nat) (hN : 20000 ≤ N) {w hi n s : Nat} {h v ac dn oa od st : Nat → Int32} (hF : okF w hi n s) (hf : isFr w hi n s n h v ac dn oa od st) (m c : Nat) (hm : m < 16) (hc : c < n) : f_M_blocksIn N (zI c) (zI m) h v = some (zI (jzBI m s c : Nat)) := by
  have hn4 := hF.2.2.1
  obtain ⟨f1, f2, -⟩ := hf c hc
  have hO : jzN m ≤ 4 := by unfold jzN; omega
  unfold f_M_blocksIn jzBI
  rw [bit_c m c (by omega) (by omega), q_onesN N (by omega) m hm, clN c (by omega), f1, f2]
  dsimp only [Option.bind_some]
  have gc := inN c 4 (by omega) (by omega)
  rcases jzK_2 m c with e | e
  · rw [e]; rfl
  · rw [e, if_neg (show ¬ zI ((1 : Nat) : Int) = (0 : Int32) by decide), if_neg (show ¬ (1 : Nat) = 0 by decide)]
    by_cases e1 : jzN m = 1
    · rw [if_pos (by rw [e1]; rfl), if_pos e1]; rfl
    · rw [if_neg (by rw [zI_lit, zI_eq (by omega) (by omega) (by decide) (by decide)]; show ¬ _ = (1 : Int); omega), if_neg e1, if_neg gc, if_neg gc, zI_mul]; rfl
theorem seqE_app (kd f l b : Nat) (CC : Nat → Int) (T D O : Nat → Nat) : ∀ (L1 L2 : List (Nat × Nat)) (P : Nat → Int) (run : Nat) (held : List Nat), seqE kd f l b CC T D O (L1 ++ L2) P run held = ((seqE kd f l b CC T D O L1 P run held).1 ++ (seqE kd f l b CC T D O L2 (seqE kd f l b CC T D O L1 P run held).2.1 (seqE kd f l b CC T D O L1 P run held).2.2.1 (seqE kd f l b CC T D O L1 P run held).2.2.2).1, (seqE kd f l b CC T D O L2 (seqE kd f l b CC T D O L1 P run held).2.1 (seqE kd f l b CC T D O L1 P run held).2.2.1 (seqE kd f l b CC T D O L1 P run held).2.2.2).2)
  | [], L2, P, run, held => by simp [seqE]
  | q :: L1, L2, P, run, held => by
    rw [List.cons_append, seqE_cons, seqE_cons, seqE_app kd f l b CC T D O L1 L2]
    simp only [List.append_assoc]
/-- the reference's state while it writes -/
def rMS (Lc Vc : Nat → Nat → Nat) (cm : Int32) (kd : Nat) (es : List (Nat × Nat × Nat)) (P : Nat → Int) (run : Nat) (held : List Nat) (z : Int32 × Int32 × Int32 × Int32 × Int32 × Int32 × Int32 × (Nat → Int32) × (Nat → Int32) × (Nat → Int32) × (Nat → Int32) × (Nat → Int32)) : Prop :=
  rMo Lc Vc cm es z.1 z.2.1 z.2.2.1 z.2.2.2.1 z.2.2.2.2.2.2.2.1 z.2.2.2.2.2.2.2.2.1 ∧ z.2.2.2.2.1 = zI (run : Nat) ∧ z.2.2.2.2.2.1 = zI (held.length : Nat) ∧ rP z.2.2.2.2.2.2.2.2.2.1 P ∧ okR run held ∧ (kd < 3 → run = 0) ∧ rHeld z.2.2.2.2.2.2.2.2.2.2.1 held
set_option maxHeartbeats 1000000 in
theorem q_Mjs (N : Nat) (hN : 20000 ≤ N) {Lc Vc : Nat → Nat → Nat} (hL : okLV Lc Vc) {ln cd : Nat → Int32} (hc : rLC Lc Vc ln cd) {cm : Int32} {w hi n s : Nat} {h v ac dn oa od st : Nat → Int32} (hF : okF w hi n s) (hf : isFr w hi n s n h v ac dn oa od st) {CC : Nat → Int} {T D O : Nat → Nat} {mco dt ot : Nat → Int32} {kd f l b bf m c u : Nat} (hK : okKM kd f l b bf) (hm : m < 16) (hcn : c < n) (hu : u ≤ 192) (hq : ∀ j, j < jzBI m s c → okBM CC T D O st mco dt ot (c, jzBO w n s m c u j)) (hBI : jzBI m s c ≤ 4) : ∀ (k i fuel : Nat) (es : List (Nat × Nat × Nat)) (P : Nat → Int) (run : Nat) (held : List Nat) (z : Int32 × Int32 × Int32 × Int32 × Int32 × Int32 × Int32 × (Nat → Int32) × (Nat → Int32) × (Nat → Int32) × (Nat → Int32) × (Nat → Int32)), i + k = jzBI m s c → k < fuel → rMS Lc Vc cm kd es P run held z →
    ∃ z1, f_M_writeAll_L217 (zI c) (zI m) h v (zI u) (zI (jzU w s n : Nat)) ac oa (zI f) (zI l) (zI bf) (zI b) cm st mco ln cd dt ot N fuel (zI i, z) = some z1 ∧ rMS Lc Vc cm kd (es ++ (seqE kd f l b CC T D O (((List.range (jzBI m s c)).map fun j => (c, jzBO w n s m c u j)).drop i) P run held).1) (seqE kd f l b CC T D O (((List.range (jzBI m s c)).map fun j => (c, jzBO w n s m c u j)).drop i) P run held).2.1 (seqE kd f l b CC T D O (((List.range (jzBI m s c)).map fun j => (c, jzBO w n s m c u j)).drop i) P run held).2.2.1 (seqE kd f l b CC T D O (((List.range (jzBI m s c)).map fun j => (c, jzBO w n s m c u j)).drop i) P run held).2.2.2 z1
  | 0, i, fuel, es, P, run, held, z, hi, hfu, hS => by
    obtain ⟨fuel, rfl⟩ : ∃ j, fuel = j + 1 := ⟨fuel - 1, by omega⟩
    have e : f_M_writeAll_L217 (zI c) (zI m) h v (zI u) (zI (jzU w s n : Nat)) ac oa (zI f) (zI l) (zI bf) (zI b) cm st mco ln cd dt ot N (fuel + 1) (zI i, z) = f_M_writeAll_L217b (zI c) (zI m) h v (zI u) (zI (jzU w s n : Nat)) ac oa (zI f) (zI l) (zI bf) (zI b) cm st mco ln cd dt ot N (f_M_writeAll_L217 (zI c) (zI m) h v (zI u) (zI (jzU w s n : Nat)) ac oa (zI f) (zI l) (zI bf) (zI b) cm st mco ln cd dt ot N fuel) (zI i) z.1 z.2.1 z.2.2.1 z.2.2.2.1 z.2.2.2.2.1 z.2.2.2.2.2.1 z.2.2.2.2.2.2.1 z.2.2.2.2.2.2.2.1 z.2.2.2.2.2.2.2.2.1 z.2.2.2.2.2.2.2.2.2.1 z.2.2.2.2.2.2.2.2.2.2.1 z.2.2.2.2.2.2.2.2.2.2.2 := rfl
    rw [e]
    unfold f_M_writeAll_L217b
    rw [q_blocksIn N hN hF hf m c hm hcn]
    dsimp only [Option.bind_some]
    rw [if_pos (by rw [leN (by omega) (by omega)]; omega)]
    refine ⟨_, rfl, ?_⟩
    rw [List.drop_of_length_le (by simp; omega)]
    show rMS Lc Vc cm kd (es ++ []) P run held _
    rw [List.append_nil]
    exact hS
  | k + 1, i, fuel, es, P, run, held, z, hi, hfu, hS => by
    obtain ⟨fuel, rfl⟩ : ∃ j, fuel = j + 1 := ⟨fuel - 1, by omega⟩
    have e : f_M_writeAll_L217 (zI c) (zI m) h v (zI u) (zI (jzU w s n : Nat)) ac oa (zI f) (zI l) (zI bf) (zI b) cm st mco ln cd dt ot N (fuel + 1) (zI i, z) = f_M_writeAll_L217b (zI c) (zI m) h v (zI u) (zI (jzU w s n : Nat)) ac oa (zI f) (zI l) (zI bf) (zI b) cm st mco ln cd dt ot N (f_M_writeAll_L217 (zI c) (zI m) h v (zI u) (zI (jzU w s n : Nat)) ac oa (zI f) (zI l) (zI bf) (zI b) cm st mco ln cd dt ot N fuel) (zI i) z.1 z.2.1 z.2.2.1 z.2.2.2.1 z.2.2.2.2.1 z.2.2.2.2.2.1 z.2.2.2.2.2.2.1 z.2.2.2.2.2.2.2.1 z.2.2.2.2.2.2.2.2.1 z.2.2.2.2.2.2.2.2.2.1 z.2.2.2.2.2.2.2.2.2.2.1 z.2.2.2.2.2.2.2.2.2.2.2 := rfl
    obtain ⟨ou, pa, pd, fa, ru, rm, cms, out, tm, p, rb, tc⟩ := z
    obtain ⟨s1, s2, s3, s4, s5, s6, s7⟩ := hS
    dsimp only at s1 s2 s3 s4 s5 s6 s7
    subst s2 s3
    have hq1 := hq i (by omega)
    obtain ⟨ou1, pa1, pd1, fa1, co1, out1, tm1, p1, rb1, tc1, w1, r1, hP1, her1⟩ := q_Mblk N hN hL hc (kd := kd) (f := f) (l := l) (b := b) (bf := bf) hK hq1 s4 s5 s6 s7 tc cms s1
    have hR1 := blkE_ok (k := kd) (f := f) (l := l) (b := b) (C := fun k => CC (64 * (T c + jzBO w n s m c u i) + k)) (d := D c) (t := O c) (p := P c) s5
    have hlow1 : kd < 3 → (blkE kd f l b (fun k => CC (64 * (T c + jzBO w n s m c u i) + k)) (D c) (O c) (P c) run held).2.2.1 = 0 := fun hk => by rw [(blkE_low hk).1]; exact s6 hk
    obtain ⟨z2, w2, r2⟩ := q_Mjs N hN hL hc hF hf hK hm hcn hu hq hBI k (i + 1) fuel _ _ _ _ (ou1, pa1, pd1, fa1, zI ((blkE kd f l b (fun k => CC (64 * (T c + jzBO w n s m c u i) + k)) (D c) (O c) (P c) run held).2.2.1 : Nat), zI ((blkE kd f l b (fun k => CC (64 * (T c + jzBO w n s m c u i) + k)) (D c) (O c) (P c) run held).2.2.2.length : Nat), co1, out1, tm1, p1, rb1, tc1) (by omega) (by omega) ⟨r1, rfl, rfl, hP1, hR1, hlow1, her1⟩
    have ed : ((List.range (jzBI m s c)).map fun j => (c, jzBO w n s m c u j)).drop i = (c, jzBO w n s m c u i) :: ((List.range (jzBI m s c)).map fun j => (c, jzBO w n s m c u j)).drop (i + 1) := by
      rw [List.drop_eq_getElem_cons (by simp; omega)]
      simp
    rw [e]
    unfold f_M_writeAll_L217b
    rw [q_blocksIn N hN hF hf m c hm hcn]
    dsimp only [Option.bind_some]
    rw [if_neg (by rw [leN (by omega) (by omega)]; omega), q_blockOf N hN hF hf m c u i hm hcn (by omega) (by omega)]
    dsimp only [Option.bind_some]
    rw [w1]
    dsimp only [Option.bind_some]
    rw [suN i, w2]
    refine ⟨z2, rfl, ?_⟩
    rw [ed, seqE_cons]
    rw [List.append_assoc] at r2
    exact r2
set_option maxHeartbeats 1000000 in
theorem q_Mcs (N : Nat) (hN : 20000 ≤ N) {Lc Vc : Nat → Nat → Nat} (hL : okLV Lc Vc) {ln cd : Nat → Int32} (hc : rLC Lc Vc ln cd) {cm : Int32} {w hi n s : Nat} {h v ac dn oa od st : Nat → Int32} (hF : okF w hi n s) (hf : isFr w hi n s n h v ac dn oa od st) {CC : Nat → Int} {T D O : Nat → Nat} {mco dt ot : Nat → Int32} {kd f l b bf m u : Nat} (hK : okKM kd f l b bf) (hm : m < 16) (hu : u ≤ 192) (hq : ∀ q, q ∈ jzUL w n s m u n → okBM CC T D O st mco dt ot q) {es : List (Nat × Nat × Nat)} {P : Nat → Int} {run : Nat} {held : List Nat} {z : Int32 × Int32 × Int32 × Int32 × Int32 × Int32 × Int32 × (Nat → Int32) × (Nat → Int32) × (Nat → Int32) × (Nat → Int32) × (Nat → Int32)} (hS : rMS Lc Vc cm kd es P run held z) :
    ∃ z1, f_M_writeAll_L205 (zI n) (zI m) h v (zI u) (zI (jzU w s n : Nat)) ac oa (zI f) (zI l) (zI bf) (zI b) cm st mco ln cd dt ot N N ((0 : Int32), z) = some z1 ∧ rMS Lc Vc cm kd (es ++ (seqE kd f l b CC T D O (jzUL w n s m u n) P run held).1) (seqE kd f l b CC T D O (jzUL w n s m u n) P run held).2.1 (seqE kd f l b CC T D O (jzUL w n s m u n) P run held).2.2.1 (seqE kd f l b CC T D O (jzUL w n s m u n) P run held).2.2.2 z1 := by
  have hn4 := hF.2.2.1
  have hBI : ∀ c, jzBI m s c ≤ 4 := fun c => by
    unfold jzBI
    have r1 := jzH_rng s c
    have r2 := jzH_rng (s / 2) c
    have : jzH s c * jzH (s / 2) c ≤ 2 * 2 := Nat.mul_le_mul r1.2 r2.2
    split
    · omega
    · split <;> omega
  have hUL : ∀ k, jzUL w n s m u (k + 1) = jzUL w n s m u k ++ (List.range (jzBI m s k)).map fun j => (k, jzBO w n s m k u j) := fun k => by
    unfold jzUL
    rw [List.range_succ, List.flatMap_append]
    simp
  refine it_cnt (P := fun c (a : Int32 × Int32 × Int32 × Int32 × Int32 × Int32 × Int32 × Int32 × (Nat → Int32) × (Nat → Int32) × (Nat → Int32) × (Nat → Int32) × (Nat → Int32)) => a.1 = zI c ∧ rMS Lc Vc cm kd (es ++ (seqE kd f l b CC T D O (jzUL w n s m u c) P run held).1) (seqE kd f l b CC T D O (jzUL w n s m u c) P run held).2.1 (seqE kd f l b CC T D O (jzUL w n s m u c) P run held).2.2.1 (seqE kd f l b CC T D O (jzUL w n s m u c) P run held).2.2.2 a.2) (R := fun z1 => rMS Lc Vc cm kd (es ++ (seqE kd f l b CC T D O (jzUL w n s m u n) P run held).1) (seqE kd f l b CC T D O (jzUL w n s m u n) P run held).2.1 (seqE kd f l b CC T D O (jzUL w n s m u n) P run held).2.2.1 (seqE kd f l b CC T D O (jzUL w n s m u n) P run held).2.2.2 z1) n ?_ ?_ N 0 _ ⟨rfl, ?_⟩ (by omega) (by omega)
  · rintro g c ⟨a, y⟩ hcn ⟨q1, q2⟩ ih
    dsimp only at q1 q2
    subst q1
    have hq1 : ∀ j, j < jzBI m s c → okBM CC T D O st mco dt ot (c, jzBO w n s m c u j) := fun j hj => by
      apply hq
      unfold jzUL
      rw [List.mem_flatMap]
      exact ⟨c, List.mem_range.mpr hcn, List.mem_map.mpr ⟨j, List.mem_range.mpr hj, rfl⟩⟩
    obtain ⟨z1, w1, r1⟩ := q_Mjs N hN hL hc hF hf hK hm hcn hu hq1 (hBI c) (jzBI m s c) 0 N _ _ _ _ y (by omega) (by have := hBI c; omega) q2
    rw [List.drop_zero] at r1
    unfold f_M_writeAll_L205b
    dsimp only
    rw [if_neg (by rw [leN (by omega) (by omega)]; omega), show f_M_writeAll_L217 (zI c) (zI m) h v (zI u) (zI (jzU w s n : Nat)) ac oa (zI f) (zI l) (zI bf) (zI b) cm st mco ln cd dt ot N N ((0 : Int32), y.1, y.2.1, y.2.2.1, y.2.2.2.1, y.2.2.2.2.1, y.2.2.2.2.2.1, y.2.2.2.2.2.2.1, y.2.2.2.2.2.2.2.1, y.2.2.2.2.2.2.2.2.1, y.2.2.2.2.2.2.2.2.2.1, y.2.2.2.2.2.2.2.2.2.2.1, y.2.2.2.2.2.2.2.2.2.2.2) = some z1 from w1]
    dsimp only [Option.bind_some]
    refine ih _ ⟨suN c, ?_⟩
    rw [hUL c, seqE_app]
    rw [List.append_assoc] at r1
    exact r1
  · rintro g ⟨a, y⟩ ⟨q1, q2⟩
    dsimp only at q1 q2
    subst q1
    unfold f_M_writeAll_L205b
    dsimp only
    rw [if_pos (by rw [leN (by omega) (by omega)]; exact Nat.le_refl _)]
    exact ⟨_, rfl, q2⟩
  · show rMS Lc Vc cm kd (es ++ []) P run held z
    rw [List.append_nil]; exact hS
