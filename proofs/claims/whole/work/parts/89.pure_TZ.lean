/-! WRITING: the reference, all of a scan -/
theorem b255 : ∀ n, n < 8 → ((255 : Int) / 2 ^ n % 2).toNat = 1 := by decide
theorem q_MalL (N : Nat) : ∀ (n fuel m : Nat) (W : List Nat × Nat × Nat × Nat) (ou pa pd fa : Int32) (out : Nat → Int32), 1 ≤ n → n ≤ 7 → W.2.2.1 + n = 8 → n + 1 < fuel → wOK W m → rMW W ou pa pd fa out →
    ∃ ou1 pa1 pd1 fa1 out1, f_M_align_L0 (zI 0) N fuel (ou, pa, pd, fa, out) = some (ou1, pa1, pd1, fa1, out1) ∧ rMW (wBits W 255 n) ou1 pa1 pd1 fa1 out1
  | 0, _, _, _, _, _, _, _, _, h, _, _, _, _, _ => absurd h (by omega)
  | n + 1, fuel, m, W, ou, pa, pd, fa, out, _, hn, hWn, hf, hW, h => by
    obtain ⟨fuel, rfl⟩ : ∃ j, fuel = j + 1 := ⟨fuel - 1, by omega⟩
    have e : f_M_align_L0 (zI 0) N (fuel + 1) (ou, pa, pd, fa, out) = f_M_align_L0b (zI 0) N (f_M_align_L0 (zI 0) N fuel) ou pa pd fa out := rfl
    obtain ⟨ou1, pa1, pd1, fa1, out1, a1, a2⟩ := q_Mbit hW h 1 (by omega)
    have hW1 := wBit_ok hW (x := 1) (by omega)
    have eB : wBits W 255 (n + 1) = wBits (wBit W 1) 255 n := by
      show wBits (wBit W ((255 : Int) / 2 ^ n % 2).toNat) 255 n = _
      rw [b255 n (by omega)]
    have hpd : pd = zI (W.2.2.1 : Nat) := h.2.1
    rw [e, eB]
    unfold f_M_align_L0b
    rw [if_neg (by rw [hpd, zI_lit, zI_le (by omega) (by omega) (by decide) (by decide)]; show ¬ _ ≤ (0 : Int); omega), show f_M_bit (1 : Int32) ou pa pd fa (zI 0) out = _ from a1]
    dsimp only [Option.bind_some]
    by_cases n0 : n = 0
    · subst n0
      obtain ⟨fuel, rfl⟩ : ∃ j, fuel = j + 1 := ⟨fuel - 1, by omega⟩
      have e2 : f_M_align_L0 (zI 0) N (fuel + 1) (ou1, pa1, pd1, fa1, out1) = f_M_align_L0b (zI 0) N (f_M_align_L0 (zI 0) N fuel) ou1 pa1 pd1 fa1 out1 := rfl
      have hpd1 : pd1 = zI ((wBit W 1).2.2.1 : Nat) := a2.2.1
      have hz : (wBit W 1).2.2.1 = 0 := by unfold wBit; rw [if_pos (by omega)]
      rw [hz] at hpd1
      rw [e2]
      unfold f_M_align_L0b
      rw [if_pos (by rw [hpd1]; decide)]
      exact ⟨_, _, _, _, _, rfl, a2⟩
    · have hz : (wBit W 1).2.2.1 = W.2.2.1 + 1 := by unfold wBit; rw [if_neg (by omega)]
      exact q_MalL N n fuel (m + 1) (wBit W 1) ou1 pa1 pd1 fa1 out1 (by omega) (by omega) (by omega) (by omega) hW1 a2
theorem q_Mal (N : Nat) (hN : 20000 ≤ N) {Lc Vc : Nat → Nat → Nat} (hL : okLV Lc Vc) {cm : Int32} {es : List (Nat × Nat × Nat)} {ou pa pd fa : Int32} {out tm : Nat → Int32} (h : rMo Lc Vc cm es ou pa pd fa out tm) :
    ∃ ou1 pa1 pd1 fa1 out1, f_M_align N ou pa pd fa cm out = some (ou1, pa1, pd1, fa1, out1) ∧ rMo Lc Vc cm (es ++ [(2, 0, 0)]) ou1 pa1 pd1 fa1 out1 tm := by
  have he : okE (2, 0, 0) := Or.inr (Or.inr (Or.inl rfl))
  obtain ⟨N, rfl⟩ : ∃ j, N = j + 1 := ⟨N - 1, by omega⟩
  unfold f_M_align
  obtain ⟨h1, ⟨rfl, h2⟩ | ⟨rfl, h2, h3⟩⟩ := h
  · have hW := wAll_ok hL h1
    have f8 := hW.2.1
    have eW : wAll Lc Vc (es ++ [(2, 0, 0)]) = (if (wAll Lc Vc es).2.2.1 = 0 then wAll Lc Vc es else wBits (wAll Lc Vc es) 255 (8 - (wAll Lc Vc es).2.2.1)) := by
      rw [wAll_1]
      unfold wEv
      rw [if_neg (show ¬ (2 : Nat) = 0 by decide), if_neg (show ¬ (2 : Nat) = 1 by decide), if_pos rfl]
    by_cases c : (wAll Lc Vc es).2.2.1 = 0
    · have hpd : pd = zI ((wAll Lc Vc es).2.2.1 : Nat) := h2.2.1
      rw [c] at hpd
      have e2 : f_M_align_L0 (zI 0) (N + 1) (N + 1) (ou, pa, pd, fa, out) = f_M_align_L0b (zI 0) (N + 1) (f_M_align_L0 (zI 0) (N + 1) N) ou pa pd fa out := rfl
      rw [e2]
      unfold f_M_align_L0b
      rw [if_pos (by rw [hpd]; decide)]
      refine ⟨_, _, _, _, _, rfl, mem_app1 h1 he, Or.inl ⟨rfl, ?_⟩⟩
      rw [eW, if_pos c]
      exact h2
    · obtain ⟨ou1, pa1, pd1, fa1, out1, a1, a2⟩ := q_MalL (N + 1) (8 - (wAll Lc Vc es).2.2.1) (N + 1) _ (wAll Lc Vc es) ou pa pd fa out (by omega) (by omega) (by omega) (by omega) hW h2
      rw [a1]
      refine ⟨_, _, _, _, _, rfl, mem_app1 h1 he, Or.inl ⟨rfl, ?_⟩⟩
      rw [eW, if_neg c]
      exact a2
  · have e2 : f_M_align_L0 (zI 1) (N + 1) (N + 1) (ou, pa, pd, fa, out) = f_M_align_L0b (zI 1) (N + 1) (f_M_align_L0 (zI 1) (N + 1) N) ou pa pd fa out := rfl
    rw [e2]
    unfold f_M_align_L0b
    rw [if_pos (by rw [h2]; decide)]
    refine ⟨_, _, _, _, _, rfl, mem_app1 h1 he, Or.inr ⟨rfl, h2, fun i hi => ?_⟩⟩
    rw [cWi_app, (c_nw (l := [(2, 0, 0)]) (fun e he => by simp at he; subst he; simp) i).2, Nat.add_zero]
    exact h3 i hi
theorem q_Mpred (N : Nat) (hN : 20000 ≤ N) (u ag : Nat) (hu : u ≤ 192) (hag : ag ≤ 1) {p : Nat → Int32} {P : Nat → Int} (hp : u = 0 ∨ rP p P) :
    ∃ p1, f_M_writeAll_L163 (zI u) (zI ag) N N ((0 : Int32), p) = some p1 ∧ rP p1 (if u = 0 ∨ ag = 1 then fun _ => 0 else P) := by
  refine it_cnt (P := fun c (a : Int32 × (Nat → Int32)) => a.1 = zI c ∧ (∀ i, i < 4 → (i < c → a.2 i = zI ((if u = 0 ∨ ag = 1 then fun _ => 0 else P) i) ∧ -1024 ≤ (if u = 0 ∨ ag = 1 then fun _ => 0 else P) i ∧ (if u = 0 ∨ ag = 1 then fun _ => 0 else P) i ≤ 1023) ∧ (c ≤ i → a.2 i = p i))) (R := fun (p1 : Nat → Int32) => rP p1 (if u = 0 ∨ ag = 1 then fun _ => 0 else P)) 4 ?_ ?_ N 0 _ ⟨rfl, fun i _ => ⟨fun h => absurd h (by omega), fun _ => rfl⟩⟩ (by omega) (by omega)
  · rintro g c ⟨a, d⟩ hc ⟨q1, q2⟩ ih
    dsimp only at q1 q2
    subst q1
    unfold f_M_writeAll_L163b f_M_writeAll_J163_184 f_M_writeAll_J163_195
    dsimp only
    rw [clN c (by omega), suN c, if_neg (by rw [zI_lit, zI_le (by decide) (by decide) (by omega) (by omega)]; show ¬ (4 : Int) ≤ _; omega)]
    have gc := inN c 4 hc (by omega)
    have step : ∀ x : Int32, (x = zI ((if u = 0 ∨ ag = 1 then fun _ => 0 else P) c) ∧ -1024 ≤ (if u = 0 ∨ ag = 1 then fun _ => 0 else P) c ∧ (if u = 0 ∨ ag = 1 then fun _ => 0 else P) c ≤ 1023) → ∃ z, g (zI ((c + 1 : Nat) : Int), upd d c x) = some z ∧ rP z (if u = 0 ∨ ag = 1 then fun _ => 0 else P) := by
      intro x hx
      refine ih _ ⟨rfl, fun i hi => ⟨fun h => ?_, fun h => ?_⟩⟩
      · dsimp only
        by_cases e : i = c
        · subst e; rw [pk_us]; exact hx
        · rw [pk_un e]; exact (q2 i hi).1 (by omega)
      · dsimp only
        rw [pk_un (by omega)]; exact (q2 i hi).2 (by omega)
    by_cases u0 : u = 0
    · rw [if_pos (by rw [u0]; rfl), if_neg gc]
      exact step _ (by rw [if_pos (Or.inl u0)]; exact ⟨rfl, by decide, by decide⟩)
    · rw [if_neg (nzN (by omega) (by omega))]
      by_cases a1 : ag = 0
      · rw [if_pos (by rw [a1]; rfl), if_neg gc, if_neg gc]
        refine step _ ?_
        rw [if_neg (by omega), (q2 c hc).2 (Nat.le_refl _)]
        exact (hp.resolve_left u0) c hc
      · rw [if_neg (nzN (by omega) (by omega)), if_neg gc]
        exact step _ (by rw [if_pos (Or.inr (by omega))]; exact ⟨rfl, by decide, by decide⟩)
  · rintro g ⟨a, d⟩ ⟨q1, q2⟩
    dsimp only at q1 q2
    subst q1
    unfold f_M_writeAll_L163b
    dsimp only
    rw [if_pos (by decide)]
    exact ⟨_, rfl, fun c hc => (q2 c hc).1 hc⟩
/-- as rMS, without the predictions -/
def rM0 (Lc Vc : Nat → Nat → Nat) (cm : Int32) (kd : Nat) (es : List (Nat × Nat × Nat)) (run : Nat) (held : List Nat) (z : Int32 × Int32 × Int32 × Int32 × Int32 × Int32 × Int32 × (Nat → Int32) × (Nat → Int32) × (Nat → Int32) × (Nat → Int32) × (Nat → Int32)) : Prop :=
  rMo Lc Vc cm es z.1 z.2.1 z.2.2.1 z.2.2.2.1 z.2.2.2.2.2.2.2.1 z.2.2.2.2.2.2.2.2.1 ∧ z.2.2.2.2.1 = zI (run : Nat) ∧ z.2.2.2.2.2.1 = zI (held.length : Nat) ∧ okR run held ∧ (kd < 3 → run = 0) ∧ rHeld z.2.2.2.2.2.2.2.2.2.2.1 held
theorem q_Mrst {Lc Vc : Nat → Nat → Nat} {es : List (Nat × Nat × Nat)} {ou pa pd fa : Int32} {out tm : Nat → Int32} (h : rMo Lc Vc (zI 0) es ou pa pd fa out tm) (x : Nat) (hx : x < 256) :
    ∃ ou1 fa1 out1 ou2 fa2 out2, f_M_raw (255 : Int32) ou fa out = some (ou1, fa1, out1) ∧ f_M_raw (zI x) ou1 fa1 out1 = some (ou2, fa2, out2) ∧ rMo Lc Vc (zI 0) (es ++ [(3, x, 0)]) ou2 pa pd fa2 out2 tm := by
  obtain ⟨h1, ⟨-, h2⟩ | ⟨h2, -⟩⟩ := h
  · obtain ⟨r1, r2, r3, r4, r5⟩ := h2
    obtain ⟨ou1, fa1, out1, a1, a2, a3, a4⟩ := q_raw r3 r4 r5 255
    obtain ⟨ou2, fa2, out2, b1, b2, b3, b4⟩ := q_raw a2 a3 a4 x
    refine ⟨ou1, fa1, out1, ou2, fa2, out2, a1, b1, mem_app1 h1 (Or.inr (Or.inr (Or.inr ⟨rfl, hx⟩))), Or.inl ⟨rfl, ?_⟩⟩
    have eW : wAll Lc Vc (es ++ [(3, x, 0)]) = ((wAll Lc Vc es).1 ++ [255] ++ [x], (wAll Lc Vc es).2) := by
      rw [wAll_1]
      unfold wEv
      rw [if_neg (show ¬ (3 : Nat) = 0 by decide), if_neg (show ¬ (3 : Nat) = 1 by decide), if_neg (show ¬ (3 : Nat) = 2 by decide), List.append_assoc]
      rfl
    rw [eW]
    exact ⟨r1, r2, b2, b3, b4⟩
  · exact absurd h2 (by decide)
