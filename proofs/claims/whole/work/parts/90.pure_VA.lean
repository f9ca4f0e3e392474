/-! WRITING: the reference, units of a scan -/
set_option maxHeartbeats 4000000 in
theorem q_Mun (N : Nat) (hN : 20000 ≤ N) {Lc Vc : Nat → Nat → Nat} (hL : okLV Lc Vc) {ln cd : Nat → Int32} (hc : rLC Lc Vc ln cd) {cm : Int32} {w hi n s : Nat} {h v ac dn oa od st : Nat → Int32} (hF : okF w hi n s) (hf : isFr w hi n s n h v ac dn oa od st) {CC : Nat → Int} {T D O : Nat → Nat} {mco dt ot : Nat → Int32} {kd f l b bf m iv t0 : Nat} (hK : okKM kd f l b bf) (hm0 : 0 < m) (hm : m < 2 ^ n) (ht0 : t0 < 8) (hiv : iv ≤ 65535) (hq : ∀ u q, u < jzUn w hi n s m → q ∈ jzUL w n s m u n → okBM CC T D O st mco dt ot q) (hcm : cm = zI 0 ∨ cm = zI 1) : ∀ (j u fuel : Nat) (es : List (Nat × Nat × Nat)) (P : Nat → Int) (run : Nat) (held : List Nat) (z : Int32 × Int32 × Int32 × Int32 × Int32 × Int32 × Int32 × (Nat → Int32) × (Nat → Int32) × (Nat → Int32) × (Nat → Int32) × (Nat → Int32)), u + j = jzUn w hi n s m → j < fuel → rM0 Lc Vc cm kd es run held z → ((u = 0 ∧ P = fun _ => 0) ∨ 0 < u ∧ rP z.2.2.2.2.2.2.2.2.2.1 P) →
    ∃ z1, f_M_writeAll_L82 (zI (jzU w s n : Nat)) (zI (jzU hi (s / 2) n : Nat)) (zI m) oa od (zI iv) (zI n) h v ac (zI f) (zI l) (zI bf) (zI b) cm st mco ln cd dt ot (zI t0) N fuel (zI ((u - 1) / iv : Nat), zI u, z) = some z1 ∧ rM0 Lc Vc cm kd (es ++ (unE kd f l b CC T D O (fun u => jzUL w n s m u n) iv t0 j u P run held).1) (unE kd f l b CC T D O (fun u => jzUL w n s m u n) iv t0 j u P run held).2.2.1 (unE kd f l b CC T D O (fun u => jzUL w n s m u n) iv t0 j u P run held).2.2.2 z1
  | 0, u, fuel, es, P, run, held, z, hu, hfu, hS, hP => by
    obtain ⟨fuel, rfl⟩ : ∃ j, fuel = j + 1 := ⟨fuel - 1, by omega⟩
    have hUn := jzUn_rng hF m hm0 hm
    have e : f_M_writeAll_L82 (zI (jzU w s n : Nat)) (zI (jzU hi (s / 2) n : Nat)) (zI m) oa od (zI iv) (zI n) h v ac (zI f) (zI l) (zI bf) (zI b) cm st mco ln cd dt ot (zI t0) N (fuel + 1) (zI ((u - 1) / iv : Nat), zI u, z) = f_M_writeAll_L82b (zI (jzU w s n : Nat)) (zI (jzU hi (s / 2) n : Nat)) (zI m) oa od (zI iv) (zI n) h v ac (zI f) (zI l) (zI bf) (zI b) cm st mco ln cd dt ot (zI t0) N (f_M_writeAll_L82 (zI (jzU w s n : Nat)) (zI (jzU hi (s / 2) n : Nat)) (zI m) oa od (zI iv) (zI n) h v ac (zI f) (zI l) (zI bf) (zI b) cm st mco ln cd dt ot (zI t0) N fuel) (zI ((u - 1) / iv : Nat)) (zI u) z.1 z.2.1 z.2.2.1 z.2.2.2.1 z.2.2.2.2.1 z.2.2.2.2.2.1 z.2.2.2.2.2.2.1 z.2.2.2.2.2.2.2.1 z.2.2.2.2.2.2.2.2.1 z.2.2.2.2.2.2.2.2.2.1 z.2.2.2.2.2.2.2.2.2.2.1 z.2.2.2.2.2.2.2.2.2.2.2 := rfl
    rw [e]
    unfold f_M_writeAll_L82b
    rw [q_units N (by omega) hF hf m hm0 hm]
    dsimp only [Option.bind_some]
    rw [if_pos (by rw [leN (by omega) (by omega)]; omega)]
    refine ⟨_, rfl, ?_⟩
    show rM0 Lc Vc cm kd (es ++ []) run held _
    rw [List.append_nil]
    exact hS
  | j + 1, u, fuel, es, P, run, held, z, hu, hfu, hS, hP => by
    obtain ⟨fuel, rfl⟩ : ∃ j, fuel = j + 1 := ⟨fuel - 1, by omega⟩
    have hUn := jzUn_rng hF m hm0 hm
    have h16 := m_lt16 hF.2.2.1.2 hm
    have e : f_M_writeAll_L82 (zI (jzU w s n : Nat)) (zI (jzU hi (s / 2) n : Nat)) (zI m) oa od (zI iv) (zI n) h v ac (zI f) (zI l) (zI bf) (zI b) cm st mco ln cd dt ot (zI t0) N (fuel + 1) (zI ((u - 1) / iv : Nat), zI u, z) = f_M_writeAll_L82b (zI (jzU w s n : Nat)) (zI (jzU hi (s / 2) n : Nat)) (zI m) oa od (zI iv) (zI n) h v ac (zI f) (zI l) (zI bf) (zI b) cm st mco ln cd dt ot (zI t0) N (f_M_writeAll_L82 (zI (jzU w s n : Nat)) (zI (jzU hi (s / 2) n : Nat)) (zI m) oa od (zI iv) (zI n) h v ac (zI f) (zI l) (zI bf) (zI b) cm st mco ln cd dt ot (zI t0) N fuel) (zI ((u - 1) / iv : Nat)) (zI u) z.1 z.2.1 z.2.2.1 z.2.2.2.1 z.2.2.2.2.1 z.2.2.2.2.2.1 z.2.2.2.2.2.2.1 z.2.2.2.2.2.2.2.1 z.2.2.2.2.2.2.2.2.1 z.2.2.2.2.2.2.2.2.2.1 z.2.2.2.2.2.2.2.2.2.2.1 z.2.2.2.2.2.2.2.2.2.2.2 := rfl
    rw [e]
    obtain ⟨ou, pa, pd, fa, ru, rm, cms, out, tm, p, rb, tc⟩ := z
    obtain ⟨s1, s2, s3, s5, s6, s7⟩ := hS
    dsimp only at s1 s2 s3 s5 s6 s7 hP
    subst s2 s3
    have hsm : (u - 1) / iv ≤ 192 := Nat.le_trans (Nat.div_le_self _ _) (by omega)
    unfold f_M_writeAll_L82b
    rw [q_units N (by omega) hF hf m hm0 hm]
    dsimp only [Option.bind_some]
    rw [if_neg (by rw [leN (by omega) (by omega)]; omega)]
    -- the rest of a unit, behind a restart or not
    have tail : ∀ (ag r2 : Nat) (es2 : List (Nat × Nat × Nat)) (run2 : Nat) (held2 : List Nat) (P2 : Nat → Int) (ou pa pd fa : Int32) (out tm : Nat → Int32), ag ≤ 1 → P2 = (if u = 0 ∨ ag = 1 then fun _ => 0 else P) → r2 = u / iv → rMo Lc Vc cm es2 ou pa pd fa out tm → okR run2 held2 → (kd < 3 → run2 = 0) → rHeld rb held2 →
        ∃ z1, f_M_writeAll_J82_160 N (f_M_writeAll_L82 (zI (jzU w s n : Nat)) (zI (jzU hi (s / 2) n : Nat)) (zI m) oa od (zI iv) (zI n) h v ac (zI f) (zI l) (zI bf) (zI b) cm st mco ln cd dt ot (zI t0) N fuel) (zI u) (zI ag) p (zI n) (zI m) h v (zI (jzU w s n : Nat)) ac oa (zI f) (zI l) (zI bf) (zI b) cm st mco ln cd dt ot ou pa pd fa (zI run2) (zI (held2.length : Nat)) cms out tm rb tc (zI (r2 : Nat)) = some z1 ∧ rM0 Lc Vc cm kd (es2 ++ ((seqE kd f l b CC T D O (jzUL w n s m u n) P2 run2 held2).1 ++ (unE kd f l b CC T D O (fun u => jzUL w n s m u n) iv t0 j (u + 1) (seqE kd f l b CC T D O (jzUL w n s m u n) P2 run2 held2).2.1 (seqE kd f l b CC T D O (jzUL w n s m u n) P2 run2 held2).2.2.1 (seqE kd f l b CC T D O (jzUL w n s m u n) P2 run2 held2).2.2.2).1)) (unE kd f l b CC T D O (fun u => jzUL w n s m u n) iv t0 j (u + 1) (seqE kd f l b CC T D O (jzUL w n s m u n) P2 run2 held2).2.1 (seqE kd f l b CC T D O (jzUL w n s m u n) P2 run2 held2).2.2.1 (seqE kd f l b CC T D O (jzUL w n s m u n) P2 run2 held2).2.2.2).2.2.1 (unE kd f l b CC T D O (fun u => jzUL w n s m u n) iv t0 j (u + 1) (seqE kd f l b CC T D O (jzUL w n s m u n) P2 run2 held2).2.1 (seqE kd f l b CC T D O (jzUL w n s m u n) P2 run2 held2).2.2.1 (seqE kd f l b CC T D O (jzUL w n s m u n) P2 run2 held2).2.2.2).2.2.2 z1 := by
      intro ag r2 es2 run2 held2 P2 ou pa pd fa out tm hag hP2 hr2 hM hR2 hl2 he2
      obtain ⟨p4, w4, hp4⟩ := q_Mpred N hN u ag (by omega) hag (p := p) (P := P) (hP.elim (fun h => Or.inl h.1) (fun h => Or.inr h.2))
      rw [← hP2] at hp4
      obtain ⟨z5, w5, r5⟩ := q_Mcs N hN hL hc hF hf (CC := CC) (T := T) (D := D) (O := O) (mco := mco) (dt := dt) (ot := ot) hK h16 (by omega) (hq u · (by omega)) (z := (ou, pa, pd, fa, zI (run2 : Nat), zI (held2.length : Nat), cms, out, tm, p4, rb, tc)) ⟨hM, rfl, rfl, hp4, hR2, hl2, he2⟩
      unfold f_M_writeAll_J82_160
      rw [w4]
      dsimp only [Option.bind_some]
      rw [w5]
      dsimp only [Option.bind_some]
      obtain ⟨t1, t2, t3, t4, t5, t6, t7⟩ := r5
      obtain ⟨z6, w6, r6⟩ := q_Mun N hN hL hc hF hf hK hm0 hm ht0 hiv hq hcm j (u + 1) fuel _ (seqE kd f l b CC T D O (jzUL w n s m u n) P2 run2 held2).2.1 _ _ z5 (by omega) (by omega) ⟨t1, t2, t3, t5, t6, t7⟩ (Or.inr ⟨by omega, t4⟩)
      rw [suN u, hr2]
      rw [show u + 1 - 1 = u from rfl] at w6
      rw [w6]
      refine ⟨z6, rfl, ?_⟩
      rw [List.append_assoc] at r6
      exact r6
    have nodue : ¬ (0 < iv ∧ 0 < u ∧ u % iv = 0) → ∃ z1, f_M_writeAll_J82_114 N (f_M_writeAll_L82 (zI (jzU w s n : Nat)) (zI (jzU hi (s / 2) n : Nat)) (zI m) oa od (zI iv) (zI n) h v ac (zI f) (zI l) (zI bf) (zI b) cm st mco ln cd dt ot (zI t0) N fuel) (zI u) p (zI n) (zI m) h v (zI (jzU w s n : Nat)) ac oa (zI f) (zI l) (zI bf) (zI b) cm st mco ln cd dt ot ou pa pd fa (zI run) (zI (held.length : Nat)) cms out tm rb tc (zI ((u - 1) / iv : Nat)) (zI t0) = some z1 ∧ rM0 Lc Vc cm kd (es ++ (unE kd f l b CC T D O (fun u => jzUL w n s m u n) iv t0 (j + 1) u P run held).1) (unE kd f l b CC T D O (fun u => jzUL w n s m u n) iv t0 (j + 1) u P run held).2.2.1 (unE kd f l b CC T D O (fun u => jzUL w n s m u n) iv t0 (j + 1) u P run held).2.2.2 z1 := by
      intro nd
      have eU : unE kd f l b CC T D O (fun u => jzUL w n s m u n) iv t0 (j + 1) u P run held = ((seqE kd f l b CC T D O (jzUL w n s m u n) P run held).1 ++ (unE kd f l b CC T D O (fun u => jzUL w n s m u n) iv t0 j (u + 1) (seqE kd f l b CC T D O (jzUL w n s m u n) P run held).2.1 (seqE kd f l b CC T D O (jzUL w n s m u n) P run held).2.2.1 (seqE kd f l b CC T D O (jzUL w n s m u n) P run held).2.2.2).1, (unE kd f l b CC T D O (fun u => jzUL w n s m u n) iv t0 j (u + 1) (seqE kd f l b CC T D O (jzUL w n s m u n) P run held).2.1 (seqE kd f l b CC T D O (jzUL w n s m u n) P run held).2.2.1 (seqE kd f l b CC T D O (jzUL w n s m u n) P run held).2.2.2).2) := by
        show (if 0 < iv ∧ 0 < u ∧ u % iv = 0 then _ else _) = _
        rw [if_neg nd]
      rw [eU]
      unfold f_M_writeAll_J82_114 f_M_writeAll_J82_115
      rw [if_pos rfl]
      refine tail 0 _ es run held P ou pa pd fa out tm (by omega) ?_ ?_ s1 s5 s6 s7
      · by_cases u0 : u = 0
        · rw [if_pos (Or.inl u0)]
          rcases hP with ⟨_, hp⟩ | ⟨hp, _⟩
          · exact hp
          · omega
        · rw [if_neg (by omega)]
      · by_cases i0 : iv = 0
        · rw [i0, Nat.div_zero, Nat.div_zero]
        · by_cases u0 : u = 0
          · rw [u0]
          · have hm0 : u % iv ≠ 0 := fun h => nd ⟨by omega, by omega, h⟩
            have e1 := Nat.div_add_mod u iv
            have e2 := Nat.mod_lt u (show 0 < iv by omega)
            rw [Nat.div_eq_iff (by omega)]
            have e3 : u / iv * iv = iv * (u / iv) := Nat.mul_comm _ _
            constructor
            · omega
            · omega
    by_cases i0 : iv = 0
    · rw [if_pos (by rw [i0]; decide)]
      exact nodue (by omega)
    · rw [if_neg (by rw [zI_lit, zI_le (by omega) (by omega) (by decide) (by decide)]; show ¬ _ ≤ (0 : Int); omega)]
      by_cases u0 : u = 0
      · rw [if_pos (by rw [u0]; decide)]
        exact nodue (by omega)
      · rw [if_neg (by rw [zI_lit, zI_le (by omega) (by omega) (by decide) (by decide)]; show ¬ _ ≤ (0 : Int); omega), if_neg (nzN (by omega) (by omega)), mdN u iv (by omega) (by omega) (by omega)]
        have hmod : u % iv ≤ u := Nat.mod_le _ _
        by_cases d0 : u % iv = 0
        · rw [if_pos (by rw [d0]; rfl)]
          have eU : unE kd f l b CC T D O (fun u => jzUL w n s m u n) iv t0 (j + 1) u P run held = (srE t0 run held ++ ((2, 0, 0) :: (3, 208 + (u / iv - 1) % 8, 0) :: ((seqE kd f l b CC T D O (jzUL w n s m u n) (fun _ => 0) 0 []).1 ++ (unE kd f l b CC T D O (fun u => jzUL w n s m u n) iv t0 j (u + 1) (seqE kd f l b CC T D O (jzUL w n s m u n) (fun _ => 0) 0 []).2.1 (seqE kd f l b CC T D O (jzUL w n s m u n) (fun _ => 0) 0 []).2.2.1 (seqE kd f l b CC T D O (jzUL w n s m u n) (fun _ => 0) 0 []).2.2.2).1)), (unE kd f l b CC T D O (fun u => jzUL w n s m u n) iv t0 j (u + 1) (seqE kd f l b CC T D O (jzUL w n s m u n) (fun _ => 0) 0 []).2.1 (seqE kd f l b CC T D O (jzUL w n s m u n) (fun _ => 0) 0 []).2.2.1 (seqE kd f l b CC T D O (jzUL w n s m u n) (fun _ => 0) 0 []).2.2.2).2) := by
            show (if 0 < iv ∧ 0 < u ∧ u % iv = 0 then _ else _) = _
            rw [if_pos ⟨by omega, by omega, d0⟩]
          rw [eU]
          have hq1 : (u - 1) / iv = u / iv - 1 := by
            have e1 := Nat.div_add_mod u iv
            rw [d0, Nat.add_zero] at e1
            have hpos : 1 ≤ u / iv := by
              rcases Nat.eq_zero_or_pos (u / iv) with h | h
              · rw [h] at e1; omega
              · exact h
            obtain ⟨x, hx⟩ : ∃ x, u / iv = x + 1 := ⟨u / iv - 1, by omega⟩
            rw [hx, Nat.mul_add, Nat.mul_one] at e1
            rw [hx, Nat.div_eq_iff (by omega)]
            have e3 : (x + 1 - 1) * iv = iv * x := by rw [Nat.add_sub_cancel, Nat.mul_comm]
            constructor
            · omega
            · omega
          have hq2 : (u - 1) / iv + 1 = u / iv := by
            have hpos : 1 ≤ u / iv := by
              rcases Nat.eq_zero_or_pos (u / iv) with h | h
              · have e1 := Nat.div_add_mod u iv
                rw [d0, h] at e1; omega
              · exact h
            omega
          unfold f_M_writeAll_J82_115 f_M_writeAll_J82_157
          rw [if_neg (show ¬ (1 : Int32) = 0 by decide)]
          obtain ⟨ou2, pa2, pd2, fa2, out2, tm2, w2, r2⟩ := q_MRun N hN hL hc s1 (run := run) (held := held) (t := t0) (by have := s5.1; omega) (by have := s5.2.1; omega) s5.2.2.1 s5.2.2.2 s7 ht0
          rw [w2]
          dsimp only [Option.bind_some]
          have em : (208 : Int32) + (zI ((u - 1) / iv : Nat) - zI ((u - 1) / iv : Nat) / (8 : Int32) * (8 : Int32)) = zI ((208 + (u / iv - 1) % 8 : Nat) : Int) := by
            have := mdN ((u - 1) / iv) 8 (by omega) (by omega) (by omega)
            rw [show (8 : Int32) = zI ((8 : Nat) : Int) from rfl, this, hq1, zI_lit, zI_add]
            rfl
          rw [em, suN ((u - 1) / iv), hq2]
          rcases hcm with rfl | rfl
          · rw [if_pos (show zI 0 = (0 : Int32) from rfl)]
            obtain ⟨ou3, pa3, pd3, fa3, out3, w3, r3⟩ := q_Mal N hN hL r2
            rw [w3]
            dsimp only [Option.bind_some]
            obtain ⟨ou4, fa4, out4, ou5, fa5, out5, w4, w5, r5⟩ := q_Mrst r3 (208 + (u / iv - 1) % 8) (by omega)
            rw [w4]
            dsimp only [Option.bind_some]
            rw [w5]
            dsimp only [Option.bind_some]
            obtain ⟨z6, w6, r6⟩ := tail 1 (u / iv) _ 0 [] (fun _ => 0) ou5 pa3 pd3 fa5 out5 tm2 (by omega) (by rw [if_pos (Or.inr rfl)]) rfl r5 okR_0 (fun _ => rfl) (fun i hi => by simp at hi)
            refine ⟨z6, w6, ?_⟩
            simp only [List.append_assoc, List.cons_append, List.nil_append] at r6 ⊢
            exact r6
          · rw [if_neg (show ¬ zI 1 = (0 : Int32) by decide)]
            have r3 : rMo Lc Vc (zI 1) (es ++ srE t0 run held ++ [(2, 0, 0)] ++ [(3, 208 + (u / iv - 1) % 8, 0)]) ou2 pa2 pd2 fa2 out2 tm2 := by
              obtain ⟨h1, ⟨h2, _⟩ | ⟨_, h2, h3⟩⟩ := r2
              · exact absurd h2 (by decide)
              · refine ⟨mem_app1 (mem_app1 h1 (Or.inr (Or.inr (Or.inl rfl)))) (Or.inr (Or.inr (Or.inr ⟨rfl, by show 208 + (u / iv - 1) % 8 < 256; omega⟩))), Or.inr ⟨rfl, h2, fun i hi => ?_⟩⟩
                rw [cWi_app, cWi_app, (c_nw (l := [(2, 0, 0)]) (fun e he => by simp at he; subst he; simp) i).2, (c_nw (l := [(3, 208 + (u / iv - 1) % 8, 0)]) (fun e he => by simp at he; subst he; simp) i).2]
                exact h3 i hi
            obtain ⟨z6, w6, r6⟩ := tail 1 (u / iv) _ 0 [] (fun _ => 0) ou2 pa2 pd2 fa2 out2 tm2 (by omega) (by rw [if_pos (Or.inr rfl)]) rfl r3 okR_0 (fun _ => rfl) (fun i hi => by simp at hi)
            refine ⟨z6, w6, ?_⟩
            simp only [List.append_assoc, List.cons_append, List.nil_append] at r6 ⊢
            exact r6
        · rw [if_neg (nzN (by omega) (by omega))]
          exact nodue (by omega)
set_option maxHeartbeats 1000000 in
theorem q_MwA (N : Nat) (hN : 20000 ≤ N) {Lc Vc : Nat → Nat → Nat} (hL : okLV Lc Vc) {ln cd : Nat → Int32} (hc : rLC Lc Vc ln cd) {cm : Int32} {w hi n s : Nat} {h v ac dn oa od st : Nat → Int32} (hF : okF w hi n s) (hf : isFr w hi n s n h v ac dn oa od st) {CC : Nat → Int} {T D O : Nat → Nat} {mco dt ot : Nat → Int32} {kd f l b bf m iv t0 : Nat} (hK : okKM kd f l b bf) (hm0 : 0 < m) (hm : m < 2 ^ n) (ht0 : t0 < 8) (hot : ot (jzC0 m) = zI (t0 : Nat)) (hiv : iv ≤ 65535) (hq : ∀ u q, u < jzUn w hi n s m → q ∈ jzUL w n s m u n → okBM CC T D O st mco dt ot q) (hcm : cm = zI 0 ∨ cm = zI 1) (cms : Int32) (out tm p rb tc : Nat → Int32) :
    ∃ ou1 pa1 pd1 fa1 ru1 rm1 co1 out1 tm1 p1 rb1 tc1, f_M_writeAll N (zI n) (zI (jzU w s n : Nat)) (zI (jzU hi (s / 2) n : Nat)) (zI m) (zI f) (zI l) (zI bf) (zI b) (zI iv) cm cms h v ac oa od st mco ln cd dt ot out tm p rb tc = some (ou1, pa1, pd1, fa1, ru1, rm1, co1, out1, tm1, p1, rb1, tc1) ∧ rMo Lc Vc cm (allE kd f l b CC T D O (fun u => jzUL w n s m u n) iv t0 (jzUn w hi n s m)) ou1 pa1 pd1 fa1 out1 tm1 := by
  have h16 := m_lt16 hF.2.2.1.2 hm
  have hUn := jzUn_rng hF m hm0 hm
  have hc0 : jzC0 m < 4 := by unfold jzC0; split <;> (try split) <;> (try split) <;> omega
  have hl : ∃ tm1, f_M_writeAll_L32 cm N N ((0 : Int32), tm) = some tm1 ∧ (cm = zI 1 → ∀ i, i < 2048 → tm1 i = zI 0) := by
    refine it_cnt (P := fun c (a : Int32 × (Nat → Int32)) => a.1 = zI c ∧ (cm = zI 1 → ∀ i, i < c → a.2 i = zI 0)) (R := fun (tm1 : Nat → Int32) => cm = zI 1 → ∀ i, i < 2048 → tm1 i = zI 0) 2048 ?_ ?_ N 0 _ ⟨rfl, fun _ i hi => absurd hi (by omega)⟩ (by omega) (by omega)
    · rintro g c ⟨a, d⟩ hc ⟨q1, q2⟩ ih
      dsimp only at q1 q2
      subst q1
      unfold f_M_writeAll_L32b f_M_writeAll_J32_61
      dsimp only
      rw [clN c (by omega), suN c, if_neg (by rw [zI_lit, zI_le (by decide) (by decide) (by omega) (by omega)]; show ¬ (2048 : Int) ≤ _; omega)]
      have gc := inN c 2048 hc (by omega)
      rcases hcm with e | e
      · rw [if_pos (by rw [e]; rfl), if_neg gc, if_neg gc]
        exact ih _ ⟨rfl, fun h => by rw [e] at h; exact absurd h (by decide)⟩
      · rw [if_neg (by rw [e]; decide), if_neg gc]
        refine ih _ ⟨rfl, fun h i hi => ?_⟩
        dsimp only
        by_cases ei : i = c
        · rw [ei, pk_us]; rfl
        · rw [pk_un ei]; exact q2 h i (by omega)
    · rintro g ⟨a, d⟩ ⟨q1, q2⟩
      dsimp only at q1 q2
      subst q1
      unfold f_M_writeAll_L32b
      dsimp only
      rw [if_pos (by decide)]
      exact ⟨_, rfl, q2⟩
  obtain ⟨tm1, w1, hz⟩ := hl
  have h0 : rMo Lc Vc cm [] (zI 0) (zI 0) (zI 0) (zI 0) out tm1 := by
    refine ⟨fun e he => by simp at he, ?_⟩
    rcases hcm with e | e
    · exact Or.inl ⟨e, rfl, rfl, rfl, rfl, fun i hi => by simp [wAll] at hi⟩
    · exact Or.inr ⟨e, rfl, fun i hi => by rw [hz e i hi]; rfl⟩
  obtain ⟨z2, w2, r2⟩ := q_Mun N hN hL hc hF hf (CC := CC) (T := T) (D := D) (O := O) (mco := mco) (dt := dt) (ot := ot) (t0 := t0) hK hm0 hm ht0 hiv hq hcm (jzUn w hi n s m) 0 N [] (fun _ => 0) 0 [] (zI 0, zI 0, zI 0, zI 0, zI 0, zI 0, cms, out, tm1, p, rb, tc) (by omega) (by omega) ⟨h0, rfl, rfl, okR_0, fun _ => rfl, fun i hi => by simp at hi⟩ (Or.inl ⟨rfl, rfl⟩)
  obtain ⟨ou, pa, pd, fa, ru, rm, co, ut, tt, pp, rb2, tc2⟩ := z2
  obtain ⟨s1, s2, s3, s5, s6, s7⟩ := r2
  dsimp only at s1 s2 s3 s5 s6 s7
  subst s2 s3
  rw [List.nil_append] at s1
  unfold f_M_writeAll allE
  rw [w1]
  dsimp only [Option.bind_some]
  rw [q_single N (by omega) m hm0 h16]
  dsimp only [Option.bind_some]
  rw [clN _ (by omega), hot, if_neg (inN _ _ hc0 (by omega))]
  rw [show (0 - 1) / iv = 0 by simp] at w2
  rw [show f_M_writeAll_L82 (zI (jzU w s n : Nat)) (zI (jzU hi (s / 2) n : Nat)) (zI m) oa od (zI iv) (zI n) h v ac (zI f) (zI l) (zI bf) (zI b) cm st mco ln cd dt ot (zI t0) N N ((0 : Int32), (0 : Int32), (0 : Int32), (0 : Int32), (0 : Int32), (0 : Int32), (0 : Int32), (0 : Int32), cms, out, tm1, p, rb, tc) = _ from w2]
  dsimp only [Option.bind_some]
  obtain ⟨ou3, pa3, pd3, fa3, out3, tm3, w3, r3⟩ := q_MRun N hN hL hc s1 (t := t0) (by have := s5.1; omega) (by have := s5.2.1; omega) s5.2.2.1 s5.2.2.2 s7 ht0
  rw [w3]
  dsimp only [Option.bind_some]
  obtain ⟨ou4, pa4, pd4, fa4, out4, w4, r4⟩ := q_Mal N hN hL r3
  rw [w4]
  rw [List.append_assoc] at r4
  exact ⟨_, _, _, _, _, _, _, _, _, _, _, _, rfl, r4⟩
