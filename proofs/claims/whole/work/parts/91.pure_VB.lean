/-! WRITING: how much a scan sends -/
theorem srE_len {t run : Nat} {held : List Nat} (h1 : run ≤ 32767) (h2 : held.length ≤ 1000) : (srE t run held).length ≤ 1020 := by
  unfold srE
  split
  · simp
  · have : szN run ≤ 15 := szN_le (by omega)
    simp only [List.length_cons, List.length_append, evB_len, List.length_map]
    omega
theorem okR_len {t run : Nat} {held : List Nat} (h : okR run held) : (srE t run held).length ≤ 1020 := srE_len (by have := h.1; omega) (by have := h.2.1; omega)
theorem othE_len (C : Nat → Int) (t b : Nat) (hC : ∀ k, k ≤ 63 → -1024 ≤ C k ∧ C k ≤ 1024) : ∀ (j k run : Nat) (held : List Nat) (z : Nat), okR run held → k + j ≤ 64 → z ≤ 64 → z + j ≤ 64 → (othE C t b j k run held z).1.length ≤ j * 1100
  | 0, _, _, _, _, _, _, _, _ => by simp [othE]
  | j + 1, k, run, held, z, h, hk, hz, hzj => by
    unfold othE
    by_cases e : amt (C k) b = 0
    · rw [if_pos e]
      exact Nat.le_trans (othE_len C t b hC j (k + 1) run held (z + 1) h (by omega) (by omega) (by omega)) (Nat.mul_le_mul_right _ (by omega))
    · rw [if_neg e]
      have h1 := othE_len C t b hC j (k + 1) 0 [] 0 okR_0 (by omega) (by omega) (by omega)
      have h2 := okR_len (t := t) h
      have h3 := hC k (by omega)
      have h4 := szN_11 (amt_le (b := b) h3.1 h3.2)
      simp only [List.length_append, List.length_cons, List.length_replicate, evB_len]
      generalize (othE C t b j (k + 1) 0 [] 0).1.length = x1 at h1 ⊢
      generalize (srE t run held).length = x2 at h2 ⊢
      omega
theorem zrE0_len (t : Nat) : ∀ q, (zrE t q 0 [] []).1.length = q
  | 0 => rfl
  | q + 1 => by
    show (srE t 0 [] ++ ((0, t, 240) :: (List.map (fun x => (1, x, 0)) [] ++ (zrE t q 0 [] []).1))).length = _
    rw [srE_0]
    simp [zrE0_len t q]
theorem zrE_len {t q run : Nat} {held com : List Nat} (h : okR run held) (hc : com.length ≤ 64) : (zrE t q run held com).1.length ≤ 1090 + q := by
  cases q with
  | zero => simp [zrE]
  | succ q =>
    show (srE t run held ++ ((0, t, 240) :: ((com.map fun x => (1, x, 0)) ++ (zrE t q 0 [] []).1))).length ≤ _
    have h2 := okR_len (t := t) h
    simp only [List.length_append, List.length_cons, List.length_map, zrE0_len]
    omega
theorem refE_len (C : Nat → Int) (t b : Nat) (ln : Int) : ∀ (j k run : Nat) (held : List Nat) (z : Nat) (com : List Nat), okR run held → (∀ x, x ∈ com → x < 2) → z + j ≤ 64 → com.length + j ≤ 64 → (refE C t b ln j k run held z com).1.length ≤ j * 2300
  | 0, _, _, _, _, _, _, _, _, _ => by simp [refE]
  | j + 1, k, run, held, z, com, h, hc, hz, hcl => by
    unfold refE
    by_cases e : amt (C k) b = 0
    · rw [if_pos e]
      exact Nat.le_trans (refE_len C t b ln j (k + 1) run held (z + 1) com h hc (by omega) (by omega)) (Nat.mul_le_mul_right _ (by omega))
    · rw [if_neg e]
      dsimp only
      obtain ⟨z1, z2, z3⟩ := zrE_ok (t := t) (q := if (k : Int) ≤ ln then z / 16 else 0) h hc
      have hq : (if (k : Int) ≤ ln then z / 16 else 0) ≤ 4 := by split <;> omega
      have h4 := zrE_len (t := t) (q := if (k : Int) ≤ ln then z / 16 else 0) h (by omega : com.length ≤ 64)
      by_cases e1 : 1 < amt (C k) b
      · rw [if_pos e1]
        have h5 := refE_len C t b ln j (k + 1) (zrE t (if (k : Int) ≤ ln then z / 16 else 0) run held com).2.1 (zrE t (if (k : Int) ≤ ln then z / 16 else 0) run held com).2.2.1 (z - 16 * (if (k : Int) ≤ ln then z / 16 else 0)) ((zrE t (if (k : Int) ≤ ln then z / 16 else 0) run held com).2.2.2 ++ [amt (C k) b % 2]) z1 (fun x hx => by
          rw [List.mem_append, List.mem_singleton] at hx
          rcases hx with hx | rfl
          · exact z2 x hx
          · omega) (by omega) (by rw [List.length_append]; simp only [List.length_cons, List.length_nil]; omega)
        simp only [List.length_append]
        generalize (refE C t b ln j (k + 1) (zrE t (if (k : Int) ≤ ln then z / 16 else 0) run held com).2.1 (zrE t (if (k : Int) ≤ ln then z / 16 else 0) run held com).2.2.1 (z - 16 * (if (k : Int) ≤ ln then z / 16 else 0)) ((zrE t (if (k : Int) ≤ ln then z / 16 else 0) run held com).2.2.2 ++ [amt (C k) b % 2])).1.length = x1 at h5 ⊢
        generalize (zrE t (if (k : Int) ≤ ln then z / 16 else 0) run held com).1.length = x2 at h4 ⊢
        omega
      · rw [if_neg e1]
        have h5 := refE_len C t b ln j (k + 1) 0 [] 0 [] okR_0 (fun x hx => by simp at hx) (by omega) (by simp; omega)
        have h6 := okR_len (t := t) z1
        simp only [List.length_append, List.length_cons, List.length_map]
        generalize (refE C t b ln j (k + 1) 0 [] 0 []).1.length = x1 at h5 ⊢
        generalize (zrE t (if (k : Int) ≤ ln then z / 16 else 0) run held com).1.length = x2 at h4 ⊢
        generalize (zrE t (if (k : Int) ≤ ln then z / 16 else 0) run held com).2.2.2.length = x3 at z3 ⊢
        generalize (srE t (zrE t (if (k : Int) ≤ ln then z / 16 else 0) run held com).2.1 (zrE t (if (k : Int) ≤ ln then z / 16 else 0) run held com).2.2.1).length = x4 at h6 ⊢
        omega
theorem finE_len {t run : Nat} {held : List Nat} (h1 : run ≤ 32767) (h2 : held.length ≤ 1000) : (finE t run held).1.length ≤ 1020 := by
  unfold finE
  split
  · exact srE_len h1 h2
  · simp
theorem dirE_len {C : Nat → Int} {d b : Nat} {p : Int} (h0 : -1024 ≤ C 0 ∧ C 0 ≤ 1023) (hp : -1024 ≤ p ∧ p ≤ 1023) : (dirE C d b p).length ≤ 20 := by
  have hv := floor_rng (b := b) h0.1 h0.2
  unfold dirE
  have : szN (C 0 / 2 ^ b - p).natAbs ≤ 11 := szN_le (by omega)
  simp only [List.length_cons, evB_len]
  omega
theorem blkE_len {kd f l b : Nat} {C : Nat → Int} {d t : Nat} {p : Int} {run : Nat} {held : List Nat} (hK : okK kd f l b) (hC : ∀ k, k ≤ 63 → -1024 ≤ C k ∧ C k ≤ 1023) (hp : -1024 ≤ p ∧ p ≤ 1023) (h : okR run held) : (blkE kd f l b C d t p run held).1.length ≤ 150000 ∧ -1024 ≤ (blkE kd f l b C d t p run held).2.1 ∧ (blkE kd f l b C d t p run held).2.1 ≤ 1023 := by
  obtain ⟨hb, hK⟩ := hK
  have hC' : ∀ k, k ≤ 63 → -1024 ≤ C k ∧ C k ≤ 1024 := fun k hk => by have := hC k hk; omega
  have hd := dirE_len (C := C) (d := d) (b := b) (hC 0 (by omega)) hp
  have hv := floor_rng (b := b) (hC 0 (by omega)).1 (hC 0 (by omega)).2
  rcases hK with ⟨rfl, rfl, rfl, rfl⟩ | ⟨rfl, rfl, rfl⟩ | ⟨rfl, rfl, rfl⟩ | ⟨rfl, hf1, hfl, hl⟩ | ⟨rfl, hf1, hfl, hl⟩
  · refine ⟨?_, hv⟩
    show (dirE C d 0 p ++ ((othE C t 0 63 1 0 [] 0).1 ++ if (othE C t 0 63 1 0 [] 0).2.2.2 = 0 then [] else [(0, t, 0)])).length ≤ _
    have h1 := othE_len C t 0 hC' 63 1 0 [] 0 okR_0 (by omega) (by omega) (by omega)
    simp only [List.length_append]
    split <;> simp <;> omega
  · exact ⟨by show (dirE C d b p).length ≤ _; omega, hv⟩
  · exact ⟨by show [(1, (C 0 / 2 ^ b % 2).toNat, 0)].length ≤ _; simp, hp⟩
  · have h1 := othE_len C t b hC' (l + 1 - f) f run held 0 h (by omega) (by omega) (by omega)
    have ho := othE_ok (C := C) (t := t) (b := b) (j := l + 1 - f) (k := f) (z := 0) h
    by_cases z0 : (othE C t b (l + 1 - f) f run held 0).2.2.2 = 0
    · rw [blkE_3a z0]
      exact ⟨by dsimp only; omega, hp⟩
    · rw [blkE_3b (by omega)]
      have h2 := finE_len (t := t) (run := (othE C t b (l + 1 - f) f run held 0).2.1 + 1) (held := (othE C t b (l + 1 - f) f run held 0).2.2.1) (by have := ho.1; omega) (by have := ho.2.1; omega)
      refine ⟨?_, hp⟩
      simp only [List.length_append]
      omega
  · obtain ⟨k1, k2, k3, k4⟩ := refE_ok C t b (lnF C b (l + 1 - f) f) (l + 1 - f) f run held 0 [] h (fun x hx => by simp at hx)
    have h1 := refE_len C t b (lnF C b (l + 1 - f) f) (l + 1 - f) f run held 0 [] h (fun x hx => by simp at hx) (by omega) (by simp; omega)
    simp only [List.length_nil] at k3
    by_cases z0 : (refE C t b (lnF C b (l + 1 - f) f) (l + 1 - f) f run held 0 []).2.2.2.1 = 0 ∧ (refE C t b (lnF C b (l + 1 - f) f) (l + 1 - f) f run held 0 []).2.2.2.2 = []
    · rw [blkE_4a z0]
      exact ⟨by dsimp only; omega, hp⟩
    · rw [blkE_4b z0]
      have h2 := finE_len (t := t) (run := (refE C t b (lnF C b (l + 1 - f) f) (l + 1 - f) f run held 0 []).2.1 + 1) (held := (refE C t b (lnF C b (l + 1 - f) f) (l + 1 - f) f run held 0 []).2.2.1 ++ (refE C t b (lnF C b (l + 1 - f) f) (l + 1 - f) f run held 0 []).2.2.2.2) (by have := k1.1; omega) (by rw [List.length_append]; have := k1.2.1; omega)
      refine ⟨?_, hp⟩
      simp only [List.length_append]
      omega
theorem seqE_len {kd f l b : Nat} {CC : Nat → Int} {T D O : Nat → Nat} (hK : okK kd f l b) (hCC : ∀ i, -1024 ≤ CC i ∧ CC i ≤ 1023) : ∀ (L : List (Nat × Nat)) (P : Nat → Int) (run : Nat) (held : List Nat), (∀ c, -1024 ≤ P c ∧ P c ≤ 1023) → okR run held → (seqE kd f l b CC T D O L P run held).1.length ≤ L.length * 150000 ∧ (∀ c, -1024 ≤ (seqE kd f l b CC T D O L P run held).2.1 c ∧ (seqE kd f l b CC T D O L P run held).2.1 c ≤ 1023) ∧ okR (seqE kd f l b CC T D O L P run held).2.2.1 (seqE kd f l b CC T D O L P run held).2.2.2
  | [], P, run, held, hP, hR => ⟨by simp [seqE], hP, hR⟩
  | q :: L, P, run, held, hP, hR => by
    rw [seqE_cons]
    obtain ⟨b1, b2⟩ := blkE_len (d := D q.1) (t := O q.1) (p := P q.1) (C := fun k => CC (64 * (T q.1 + q.2) + k)) hK (fun k _ => hCC _) (hP q.1) hR
    have hR2 := blkE_ok (k := kd) (f := f) (l := l) (b := b) (C := fun k => CC (64 * (T q.1 + q.2) + k)) (d := D q.1) (t := O q.1) (p := P q.1) hR
    have hPn : ∀ c, -1024 ≤ (fun x => if x = q.1 then (blkE kd f l b (fun k => CC (64 * (T q.1 + q.2) + k)) (D q.1) (O q.1) (P q.1) run held).2.1 else P x) c ∧ (fun x => if x = q.1 then (blkE kd f l b (fun k => CC (64 * (T q.1 + q.2) + k)) (D q.1) (O q.1) (P q.1) run held).2.1 else P x) c ≤ 1023 := fun c => by
      dsimp only
      by_cases e : c = q.1
      · rw [if_pos e]; exact b2
      · rw [if_neg e]; exact hP c
    obtain ⟨s1, s2, s3⟩ := seqE_len hK hCC (T := T) (D := D) (O := O) L (fun x => if x = q.1 then (blkE kd f l b (fun k => CC (64 * (T q.1 + q.2) + k)) (D q.1) (O q.1) (P q.1) run held).2.1 else P x) _ _ hPn hR2
    refine ⟨?_, s2, s3⟩
    simp only [List.length_append, List.length_cons]
    rw [Nat.add_mul, Nat.one_mul, Nat.add_comm (L.length * 150000)]
    exact Nat.add_le_add b1 s1
theorem unE_len {kd f l b : Nat} {CC : Nat → Int} {T D O : Nat → Nat} {UL : Nat → List (Nat × Nat)} {iv t0 bl : Nat} (K Q : Nat) (hQ : 1030 ≤ Q) (hs : ∀ (L : List (Nat × Nat)) (P : Nat → Int) (run : Nat) (held : List Nat), (∀ c, -1024 ≤ P c ∧ P c ≤ 1023) → okR run held → (seqE kd f l b CC T D O L P run held).1.length ≤ L.length * K ∧ (∀ c, -1024 ≤ (seqE kd f l b CC T D O L P run held).2.1 c ∧ (seqE kd f l b CC T D O L P run held).2.1 c ≤ 1023) ∧ okR (seqE kd f l b CC T D O L P run held).2.2.1 (seqE kd f l b CC T D O L P run held).2.2.2) (hU : ∀ u, (UL u).length = bl) : ∀ (j u : Nat) (P : Nat → Int) (run : Nat) (held : List Nat), (∀ c, -1024 ≤ P c ∧ P c ≤ 1023) → okR run held → (unE kd f l b CC T D O UL iv t0 j u P run held).1.length ≤ j * (bl * K + Q) ∧ okR (unE kd f l b CC T D O UL iv t0 j u P run held).2.2.1 (unE kd f l b CC T D O UL iv t0 j u P run held).2.2.2
  | 0, u, P, run, held, hP, hR => ⟨by simp [unE], hR⟩
  | j + 1, u, P, run, held, hP, hR => by
    unfold unE
    by_cases d : 0 < iv ∧ 0 < u ∧ u % iv = 0
    · rw [if_pos d]
      dsimp only
      obtain ⟨s1, s2, s3⟩ := hs (UL u) (fun _ => 0) 0 [] (fun c => by constructor <;> decide) okR_0
      obtain ⟨u1, u2⟩ := unE_len K Q hQ hs hU (iv := iv) (t0 := t0) j (u + 1) _ _ _ s2 s3
      have h2 := okR_len (t := t0) hR
      rw [hU u] at s1
      refine ⟨?_, u2⟩
      simp only [List.length_append, List.length_cons]
      rw [Nat.add_mul, Nat.one_mul]
      generalize (seqE kd f l b CC T D O (UL u) (fun _ => 0) 0 []).1.length = x1 at s1 ⊢
      generalize (unE kd f l b CC T D O UL iv t0 j (u + 1) (seqE kd f l b CC T D O (UL u) (fun _ => 0) 0 []).2.1 (seqE kd f l b CC T D O (UL u) (fun _ => 0) 0 []).2.2.1 (seqE kd f l b CC T D O (UL u) (fun _ => 0) 0 []).2.2.2).1.length = x2 at u1 ⊢
      generalize (srE t0 run held).length = x3 at h2 ⊢
      revert u1 s1
      try revert h2
      generalize j * (bl * K + Q) = y1
      generalize bl * K = y2
      clear s2 s3 u2 d hP hR hs hU
      intros
      omega
    · rw [if_neg d]
      dsimp only
      obtain ⟨s1, s2, s3⟩ := hs (UL u) P run held hP hR
      obtain ⟨u1, u2⟩ := unE_len K Q hQ hs hU (iv := iv) (t0 := t0) j (u + 1) _ _ _ s2 s3
      rw [hU u] at s1
      refine ⟨?_, u2⟩
      simp only [List.length_append]
      rw [Nat.add_mul, Nat.one_mul]
      generalize (seqE kd f l b CC T D O (UL u) P run held).1.length = x1 at s1 ⊢
      generalize (unE kd f l b CC T D O UL iv t0 j (u + 1) (seqE kd f l b CC T D O (UL u) P run held).2.1 (seqE kd f l b CC T D O (UL u) P run held).2.2.1 (seqE kd f l b CC T D O (UL u) P run held).2.2.2).1.length = x2 at u1 ⊢
      revert u1 s1
      try revert h2
      generalize j * (bl * K + Q) = y1
      generalize bl * K = y2
      clear s2 s3 u2 d hP hR hs hU
      intros
      omega
theorem allE_len {kd f l b : Nat} {CC : Nat → Int} {T D O : Nat → Nat} {UL : Nat → List (Nat × Nat)} {iv t0 bl n : Nat} (hK : okK kd f l b) (hCC : ∀ i, -1024 ≤ CC i ∧ CC i ≤ 1023) (hU : ∀ u, (UL u).length = bl) (hn : n * bl ≤ 192) (hn2 : n ≤ 192) : (allE kd f l b CC T D O UL iv t0 n).length ≤ 49999999 := by
  obtain ⟨u1, u2⟩ := unE_len 150000 1030 (by omega) (fun L P run held hP hR => seqE_len (T := T) (D := D) (O := O) hK hCC L P run held hP hR) hU (iv := iv) (t0 := t0) n 0 (fun _ => 0) 0 [] (fun c => by constructor <;> decide) okR_0
  have h2 := okR_len (t := t0) u2
  unfold allE
  simp only [List.length_append, List.length_cons, List.length_nil]
  generalize (unE kd f l b CC T D O UL iv t0 n 0 (fun _ => 0) 0 []).1.length = x1 at u1 ⊢
  generalize (srE t0 (unE kd f l b CC T D O UL iv t0 n 0 (fun _ => 0) 0 []).2.2.1 (unE kd f l b CC T D O UL iv t0 n 0 (fun _ => 0) 0 []).2.2.2).length = x2 at h2 ⊢
  have h3 : n * (bl * 150000 + 1030) = n * bl * 150000 + n * 1030 := by rw [Nat.mul_add, Nat.mul_assoc]
  rw [h3] at u1
  generalize n * bl = y at u1 hn
  omega
