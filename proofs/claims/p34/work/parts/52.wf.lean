/-! 52: the water of a tick is as the law has it -/
theorem i32_aba (a b : Int32) : a + b - a = b := by
  rw [Int32.add_comm a b, Int32.add_sub_cancel]
theorem i32_ab5 (c t a b e : Int32) : (c - t + a + b) - e = (((c + a) + b) - t) - e := by
  simp only [Int32.sub_eq_add_neg]
  ac_rfl
theorem i32_ssb (a b : Int32) : a - (a - b) = b := by
  have h := i32_aba (a - b) b
  rw [Int32.sub_add_cancel] at h
  exact h
theorem wf_tick {B : Int} {S X Y Z A1 A2 : xS} {sp : Int32} (hb : Bnd X) (hw : WT B X Z sp A1 A2) (hk : KP S X 8) (hG : Lk 34 LG X) (hp : Lp X) (h4 : Y 4 = X 4) (h34 : Y 34 = X 34) (h35 : Y 35 = X 35) (h39 : Y 39 = X 39) (hZ : ∀ f, 5 < f → f < 11 → Y f = Z f) : WF Y (came X) (thr A1) (spe A2) := by
  obtain ⟨⟨-, bl⟩, -, -, t4, t5, t6, t7, t8, t9, t10, t11, t12⟩ := hw
  obtain ⟨k1, -, k3, -⟩ := hk
  intro j hj
  obtain ⟨q4, q5, q6, q7⟩ := k3 j hj
  rw [← k1 6 (by decide) (by decide)] at q4
  rw [← k1 9 (by decide) (by decide)] at q5
  rw [← k1 10 (by decide) (by decide)] at q6
  rw [← k1 12 (by decide) (by decide)] at q7
  have g0 : X 34 0 (nI (8 * j + 0)) = X 4 0 (nI j) := hG 0 4 (by decide) j hj
  have g1 : X 34 0 (nI (8 * j + 1)) = X 5 0 (nI j) := hG 1 5 (by decide) j hj
  have g2 : X 34 0 (nI (8 * j + 2)) = X 11 0 (nI j) := hG 2 11 (by decide) j hj
  have g3 : X 34 0 (nI (8 * j + 3)) = X 7 0 (nI j) := hG 3 7 (by decide) j hj
  rw [h34, h35, h39, g0, g1, g2, g3, q4, q5, q6, q7, hZ 9 (by decide) (by decide), hZ 10 (by decide) (by decide), hZ 6 (by decide) (by decide), t6 j hj, t7 j hj]
  have e6 := t8 j hj
  have er := t10 j hj
  obtain ⟨s0, s1⟩ := t9 j hj
  refine ⟨⟨i32_aba _ _, i32_aba _ _, ?_⟩, fun c => ?_, fun c => ?_, ?_, ?_, ?_, ?_, ?_, ?_, ?_⟩
  · rw [hp.1]
    rfl
  · rw [t4 j hj]
    by_cases z : came X j < X 12 0 (nI j) * X 11 0 (nI j)
    · rw [if_pos z]
    · rw [if_neg z]
      exact Int32.le_antisymm (Int32.not_lt.mp z) c
  · rw [t4 j hj, if_neg (fun z => c (Int32.le_of_lt z))]
  · rw [e6, t11 j hj]
    exact i32_ab5 _ _ _ _ _
  · rw [bal_eq (hZ 8 (by decide) (by decide)) (hZ 9 (by decide) (by decide)) (hZ 10 (by decide) (by decide))]
    exact (Bal_of bl (nI j) (in8 hj)).symm
  · rw [e6, s1, ← er]
    by_cases z : spv A2 j ≤ rmo A2 j
    · rw [if_pos z, Int32.sub_zero]
      exact Int32.not_lt.mpr z
    · rw [if_neg z, i32_ssb]
      exact fun q => Int32.lt_irrefl q
  · rw [e6, s1, ← er]
    by_cases z : spv A2 j ≤ rmo A2 j
    · rw [if_pos z]
      exact Or.inl rfl
    · rw [if_neg z, i32_ssb]
      exact Or.inr rfl
  · rw [Int32.lt_iff_toInt_lt, xt0]
    omega
  · unfold fX2_levelOf
    rw [h4, hZ 6 (by decide) (by decide), if_pos]
    rw [Int32.le_iff_toInt_le, xt1]
    exact (hb j hj).1.1
  · intro z
    have := (hb j hj).1.1
    rw [z, xt0] at this
    omega
