/-! Promise 6: scan -/
set_option maxHeartbeats 4000000 in
theorem q_scan (N : Nat) (hN : 20000 ≤ N) (p0 p1 p2 p3 p4 : Int32) {many uA uD bk : Int32} {h v ac dn oa od st : Nat → Int32} {nco : Nat} {co : Nat → Int32} {kind first last bits units bl laid : Int32} {ow pl : Nat → Int32} {many' uA' uD' mask first' last' before' bits' : Int32} {h' v' ac' dn' oa' od' st' co' : Nat → Int32}
    (H : rFS many uA uD bk h v ac dn oa od st nco co kind first last bits units bl ow pl many' uA' uD' mask first' last' before' bits' h' v' ac' dn' oa' od' st' co') :
    ∃ a kind1 first1 last1 bits1 units1 bl1 laid1 ow1 pl1 th mask2 first2 last2 before2 bits2,
      f_SC_scan N p0 p1 p2 p3 p4 many uA uD h v ac dn oa od st kind first last bits units bl laid ow pl = some (a, kind1, first1, last1, bits1, units1, bl1, laid1, ow1, pl1) ∧ f_M_scan N p0 p1 p2 p3 p4 many' mask first' last' before' bits' = some (a, th, mask2, first2, last2, before2, bits2) ∧
      rFS many uA uD bk h v ac dn oa od st nco co kind1 first1 last1 bits1 units1 bl1 ow1 pl1 many' uA' uD' mask2 first2 last2 before2 bits2 h' v' ac' dn' oa' od' st' co' := by
  have H0 := H
  obtain ⟨w, hi, n, s, m0, k0, f0, l0, b0, bf0, hP, hS⟩ := H
  have hP0 := hP
  obtain ⟨hF, ⟨rfl, rfl, rfl, rfl⟩, hf, hnc, ⟨rfl, rfl, rfl⟩, hf', hC⟩ := hP
  have hn4 := hF.2.2.1
  obtain ⟨m, rfl, m1, m2⟩ := zI_in p0
  obtain ⟨f, rfl, f1, f2⟩ := zI_in p1
  obtain ⟨l, rfl, l1, l2⟩ := zI_in p2
  obtain ⟨bf, rfl, bf1, bf2⟩ := zI_in p3
  obtain ⟨b, rfl, b1, b2⟩ := zI_in p4
  obtain ⟨k, ek, hk⟩ := q_kindOf f l bf b ⟨f1, f2⟩ ⟨l1, l2⟩ ⟨bf1, bf2⟩ ⟨b1, b2⟩
  have hM := q_Mscan N (by omega) m f l bf b n hn4 ⟨m1, m2⟩ ⟨f1, f2⟩ ⟨l1, l2⟩ ⟨bf1, bf2⟩ ⟨b1, b2⟩ mask first' last' before' bits'
  unfold f_SC_scan
  rw [ek]
  rcases hk with ⟨rfl, hk⟩ | ⟨hb, hk⟩
  · rcases hM with ⟨g, -⟩ | ⟨-, e⟩
    · exact absurd ⟨g.1, g.2.2.2.elim Or.inl (fun h => Or.inr (h.elim Or.inl (fun h => Or.inr h.1)))⟩ hk
    · exact ⟨zI 0, kind, first, last, bits, units, bl, laid, ow, pl, _, _, _, _, _, _, rfl, e, H0⟩
  · have rk : 0 ≤ k ∧ k ≤ 4 := by
      rcases hk with h | h | h | h | h <;> omega
    rcases q_allows k m n rk ⟨m1, m2⟩ hn4 with ⟨ga, ea⟩ | ⟨ga, ea⟩
    · rcases hM with ⟨g, e⟩ | ⟨g, -⟩
      · obtain ⟨m, rfl⟩ := Int.eq_ofNat_of_zero_le (show 0 ≤ m by omega)
        have hm : m < 2 ^ n := by have := ga.2.1; omega
        rw [Int.toNat_natCast] at ga
        obtain ⟨z, z1, z2⟩ := q_lay' N (by omega) hF hf m (by omega) hm (ow := ow) (pl := pl)
        have es : ∃ k' f' l' b' bf' : Nat, k = k' ∧ f = f' ∧ l = l' ∧ b = b' ∧ bf = bf' ∧ okS n m k' f' l' b' bf' := by
          refine ⟨k.toNat, f.toNat, l.toNat, b.toNat, bf.toNat, by omega, ?_, ?_, by omega, ?_, by omega, hm, by omega, ?_⟩
          · rcases hk with h | h | h | h | h <;> omega
          · rcases hk with h | h | h | h | h <;> omega
          · rcases hk with h | h | h | h | h <;> omega
          · rcases hk with h | h | h | h | h
            · exact Or.inl (by omega)
            · exact Or.inr (Or.inl (by omega))
            · exact Or.inr (Or.inr (Or.inl (by omega)))
            · exact Or.inr (Or.inr (Or.inr (Or.inl ⟨by omega, by omega, by omega, by omega, by omega, ga.2.2 (by omega)⟩)))
            · exact Or.inr (Or.inr (Or.inr (Or.inr ⟨by omega, by omega, by omega, by omega, by omega, ga.2.2 (by omega)⟩)))
        obtain ⟨k', f', l', b', bf', rfl, rfl, rfl, rfl, rfl, oks⟩ := es
        have en : ¬ zI (k' : Int) = (-1 : Int32) := by
          rw [show (-1 : Int32) = zI (-1) from rfl, zI_eq (by omega) (by omega) (by decide) (by decide)]; omega
        refine ⟨zI 1, zI k', zI f', zI l', zI b', z.1, z.2.1, z.2.2.1, z.2.2.2.1, z.2.2.2.2, _, _, _, _, _, _, ?_, e, w, hi, n, s, m, k', f', l', b', bf', hP0, oks, ⟨rfl, rfl, rfl, rfl⟩, z2, ⟨rfl, rfl, rfl, rfl, rfl⟩⟩
        simp only [Option.bind_some]
        rw [if_neg en, ea]
        unfold f_Course_choose
        simp only [Option.bind_some]
        rw [if_neg (by decide), z1]
        rfl
      · refine absurd ⟨hb, ga.1, ga.2.1, ?_⟩ g
        rcases hk with h | h | h | h | h
        · exact Or.inl h.2
        · exact Or.inr (Or.inl ⟨h.2.1, h.2.2.1⟩)
        · exact Or.inr (Or.inl ⟨h.2.1, h.2.2.1⟩)
        · exact Or.inr (Or.inr ⟨⟨h.2.1, by omega, h.2.2.1, h.2.2.2.1⟩, ga.2.2 (by omega)⟩)
        · exact Or.inr (Or.inr ⟨⟨h.2.1, by omega, h.2.2.1, h.2.2.2.1⟩, ga.2.2 (by omega)⟩)
    · have en : ¬ zI k = (-1 : Int32) := by
        rw [show (-1 : Int32) = zI (-1) from rfl, zI_eq (by omega) (by omega) (by decide) (by decide)]; omega
      rcases hM with ⟨g, -⟩ | ⟨-, e⟩
      · refine absurd ⟨g.2.1, g.2.2.1, fun h3 => ?_⟩ ga
        rcases g.2.2.2 with h | h | h
        · rcases hk with h | h | h | h | h <;> omega
        · rcases hk with h | h | h | h | h <;> omega
        · exact h.2
      · refine ⟨zI 0, kind, first, last, bits, units, bl, laid, ow, pl, _, _, _, _, _, _, ?_, e, H0⟩
        simp only [Option.bind_some]
        rw [if_neg en, ea]
        rfl
