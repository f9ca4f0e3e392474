/-- an index between 0 and what there is -/
theorem i_in {a : Int32} {n : Nat} (h0 : 0 ≤ a.toInt) (h1 : a.toInt < n) : ¬ (a < 0 ∨ n ≤ a.toNatClampNeg) := by
  rintro (h | h)
  · rw [i_lt] at h
    have : (0 : Int32).toInt = 0 := rfl
    omega
  · have := i_cl h0
    omega
theorem i_nn {a : Int32} (h : ¬ a < 0) : 0 ≤ a.toInt := by
  rw [i_lt] at h
  have : (0 : Int32).toInt = 0 := rfl
  omega
/-- the data of both sides -/
def rData (n : Int32) (nb : Nat) (sb : Nat → Int32) (n' : Int32) (md : Nat → Int32) : Prop :=
  n' = n ∧ 0 ≤ n.toInt ∧ n.toInt ≤ 16384 ∧ n.toInt ≤ nb ∧ 64 ≤ nb ∧ nb ≤ 16384 ∧ (∀ i : Nat, (i : Int) < n.toInt → sb i = md i) ∧ (∀ i, fits .byte (.int (sb i)) = true) ∧ ∀ i, fits .byte (.int (md i)) = true
/-- Promise 17 -/
theorem q_data (p0 : Int32) {n n' : Int32} {nb : Nat} {sb md : Nat → Int32} (h : rData n nb sb n' md) : ∃ z z', f_SC_data p0 n nb sb = some z ∧ f_M_data p0 n' md = some z' ∧ z = z'.1 := by
  obtain ⟨rfl, h0, h1, h2, -, -, h3, -, -⟩ := h
  unfold f_SC_data f_M_data f_Store_byteAt
  by_cases c1 : p0 < 0
  · rw [if_pos c1, if_pos c1]
    exact ⟨_, _, rfl, rfl, rfl⟩
  · rw [if_neg c1, if_neg c1]
    by_cases c2 : p0 < n'
    · rw [if_pos c2, if_pos c2]
      have e1 := i_nn c1
      have e2 := i_lt.mp c2
      rw [if_neg (i_in e1 (by omega)), if_neg (i_in e1 (by omega))]
      refine ⟨_, _, rfl, rfl, ?_⟩
      rw [h3 p0.toNatClampNeg (by rw [i_cl e1]; exact e2)]
    · rw [if_neg c2, if_neg c2]
      exact ⟨_, _, rfl, rfl, rfl⟩
/-- Promise 14 -/
theorem q_often (p0 p1 : Int32) {ct mt : Nat → Int32} (h : ∀ i, i < 2048 → ct i = mt i) : ∃ z z', f_SC_often p0 p1 ct = some z ∧ f_M_often p0 p1 mt = some z' ∧ z = z'.1 := by
  unfold f_SC_often f_M_often
  have k8 : (8 : Int32).toInt = 8 := rfl
  have k7 : (7 : Int32).toInt = 7 := rfl
  have k256 : (256 : Int32).toInt = 256 := rfl
  have k255 : (255 : Int32).toInt = 255 := rfl
  by_cases c1 : p0 < 0
  · rw [if_pos c1, if_pos c1]
    exact ⟨_, _, rfl, rfl, rfl⟩
  · rw [if_neg c1, if_neg c1]
    have e1 := i_nn c1
    by_cases c2 : (8 : Int32) ≤ p0
    · have c2' : (7 : Int32) < p0 := by rw [i_lt]; rw [i_le] at c2; omega
      rw [if_pos c2, if_pos c2']
      exact ⟨_, _, rfl, rfl, rfl⟩
    · have c2' : ¬ (7 : Int32) < p0 := by rw [i_lt]; rw [i_le] at c2; omega
      rw [if_neg c2, if_neg c2']
      by_cases c3 : p1 < 0
      · rw [if_pos c3, if_pos c3]
        exact ⟨_, _, rfl, rfl, rfl⟩
      · rw [if_neg c3, if_neg c3]
        have e3 := i_nn c3
        by_cases c4 : p1 < (256 : Int32)
        · have c4' : p1 ≤ (255 : Int32) := by rw [i_le]; rw [i_lt] at c4; omega
          rw [if_pos c4, if_pos c4', Int32.mul_comm (256 : Int32) p0]
          rw [i_le] at c2
          rw [i_lt] at c4
          have m1 : (p0 * 256).toInt = p0.toInt * 256 := by rw [i_mul (by rw [k256]; omega) (by rw [k256]; omega), k256]
          have m2 : (p0 * 256 + p1).toInt = p0.toInt * 256 + p1.toInt := by rw [i_add (by rw [m1]; omega) (by rw [m1]; omega), m1]
          have g1 : ¬ (p0 * 256 + p1 < 0 ∨ 2048 ≤ (p0 * 256 + p1).toNatClampNeg) := i_in (by rw [m2]; omega) (by rw [m2]; omega)
          rw [if_neg g1, if_neg g1]
          refine ⟨_, _, rfl, rfl, h _ ?_⟩
          have := i_cl (a := p0 * 256 + p1) (by rw [m2]; omega)
          omega
        · have c4' : ¬ p1 ≤ (255 : Int32) := by rw [i_le]; rw [i_lt] at c4; omega
          rw [if_neg c4, if_neg c4']
          exact ⟨_, _, rfl, rfl, rfl⟩
/-- tables of components: both sides the same, in their ranges -/
def rTabs (dt ot dt' ot' : Nat → Int32) : Prop := ∀ c, c < 4 → dt c = dt' c ∧ ot c = ot' c ∧ 0 ≤ (dt c).toInt ∧ (dt c).toInt ≤ 3 ∧ 4 ≤ (ot c).toInt ∧ (ot c).toInt ≤ 7
/-- Promise 7 -/
theorem q_tables (p0 p1 p2 : Int32) {many : Int32} {dt ot dt' ot' : Nat → Int32} (hm : 1 ≤ many.toInt ∧ many.toInt ≤ 4) (h : rTabs dt ot dt' ot') : ∃ z z', f_SC_tables p0 p1 p2 many dt ot = some z ∧ f_M_tables p0 p1 p2 many dt' ot' = some z' ∧ z.1 = z'.1 ∧ rTabs z.2.1 z.2.2 z'.2.2.1 z'.2.2.2 := by
  unfold f_SC_tables f_M_tables
  have k3 : (3 : Int32).toInt = 3 := rfl
  have k4 : (4 : Int32).toInt = 4 := rfl
  have k7 : (7 : Int32).toInt = 7 := rfl
  have k8 : (8 : Int32).toInt = 8 := rfl
  by_cases c1 : p0 < 0
  · rw [if_pos c1, if_pos c1]; exact ⟨_, _, rfl, rfl, rfl, h⟩
  rw [if_neg c1, if_neg c1]
  have e1 := i_nn c1
  by_cases c2 : many ≤ p0
  · rw [if_pos c2, if_pos c2]; exact ⟨_, _, rfl, rfl, rfl, h⟩
  rw [if_neg c2, if_neg c2]
  by_cases c3 : p1 < 0
  · rw [if_pos c3, if_pos c3]; exact ⟨_, _, rfl, rfl, rfl, h⟩
  rw [if_neg c3, if_neg c3]
  have e3 := i_nn c3
  by_cases c4 : (4 : Int32) ≤ p1
  · have c4' : (3 : Int32) < p1 := by rw [i_lt]; rw [i_le] at c4; omega
    rw [if_pos c4, if_pos c4']; exact ⟨_, _, rfl, rfl, rfl, h⟩
  have c4' : ¬ (3 : Int32) < p1 := by rw [i_lt]; rw [i_le] at c4; omega
  rw [if_neg c4, if_neg c4']
  by_cases c5 : p2 < (4 : Int32)
  · rw [if_pos c5, if_pos c5]; exact ⟨_, _, rfl, rfl, rfl, h⟩
  rw [if_neg c5, if_neg c5]
  by_cases c6 : p2 < (8 : Int32)
  · have c6' : p2 ≤ (7 : Int32) := by rw [i_le]; rw [i_lt] at c6; omega
    rw [i_le] at c2
    have g : ¬ (p0 < 0 ∨ 4 ≤ p0.toNatClampNeg) := i_in e1 (by omega)
    rw [if_pos c6, if_pos c6', if_neg g, if_neg g, if_neg g, if_neg g]
    refine ⟨_, _, rfl, rfl, rfl, fun c hc => ?_⟩
    rw [i_le] at c4
    rw [i_lt] at c5 c6
    by_cases hcp : c = p0.toNatClampNeg
    · subst hcp
      simp only [pk_us]
      exact ⟨trivial, trivial, e3, by omega, by omega, by omega⟩
    · simp only [pk_un hcp]
      exact h c hc
  · have c6' : ¬ p2 ≤ (7 : Int32) := by rw [i_le]; rw [i_lt] at c6; omega
    rw [if_neg c6, if_neg c6']; exact ⟨_, _, rfl, rfl, rfl, h⟩
