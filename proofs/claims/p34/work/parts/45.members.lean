/-! 45: what the law asks of the members -/
theorem lv_pos {S : xS} {j : Nat} (hN : Bnd S) (hV : 0 ≤ vol S j) (hj : j < 8) : 0 ≤ (fX2_levelOf (nI j) S).toInt := by
  have b4 := (hN j hj).1
  have hv : vol S j = (S 6 0 (nI j)).toInt := rfl
  obtain ⟨a, ha, ea⟩ := nI_of (x := S 6 0 (nI j)) (by rw [Int32.lt_iff_toInt_lt, xt0]; omega)
  obtain ⟨b, hb, eb⟩ := nI_of (x := S 4 0 (nI j)) (by rw [Int32.lt_iff_toInt_lt, xt0]; omega)
  unfold fX2_levelOf
  rw [ea, eb]
  rw [eb, nI_toInt hb] at b4
  split
  · rw [pk_div ha (by omega) hb, nI_toInt (by have := Nat.div_le_self a b; omega)]
    generalize a / b = q
    omega
  · rw [xt0]
    omega
theorem up_eq {S : xS} {j : Nat} (hH : Lk 35 LH S) (hj : j < 8) : jL_areMembers_41 S (nI j) = if S 19 0 (nI j) = 0 then 1 else 0 := by
  unfold jL_areMembers_41
  rw [e8_1, hH 1 19 (by decide) j hj]
def frP (V : Int32 → Int32) (x : Int32 × Int32) (y : Int32) : Prop := vp_in y 8 ∧ x = if V y ≤ 0 then (-1, 0) else (y, V y)
theorem fr_step {V : Int32 → Int32} {S : xS} {k y j : Int32} {x : Int32 × Int32} (hj : vp_in j 8) (hV : ∀ z, V z = S 28 z k) (h : frP V x y) : frP V (bX1_freshestOf_7 k S j x) (jL_areMembers_92 y S j k) := by
  obtain ⟨q1, q2⟩ := h
  subst q2
  unfold bX1_freshestOf_7 jL_areMembers_92 frP fX3_version
  rw [← hV, ← hV]
  by_cases a : V y ≤ 0
  · simp only [if_pos a]
    by_cases b : V j ≤ V y
    · rw [if_pos (Int32.le_trans b a), if_pos b]
      exact ⟨q1, by rw [if_pos a]⟩
    · rw [if_neg b]
      refine ⟨hj, ?_⟩
      by_cases d : V j ≤ 0
      · rw [if_pos d]
      · rw [if_neg d]
  · simp only [if_neg a]
    by_cases b : V j ≤ V y
    · rw [if_pos b, if_pos b]
      exact ⟨q1, by rw [if_neg a]⟩
    · rw [if_neg b, if_neg b]
      refine ⟨hj, ?_⟩
      have hd : ¬ V j ≤ 0 := fun d => b (Int32.le_trans d (Int32.le_of_lt (Int32.not_le.mp a)))
      simp only [if_neg hd]
def inP (S : xS) (i : Nat) (y0 : Int32) (n : Nat) (y : Int32 × Int32 × Int32 × Int32) : Prop :=
  y.1 = xfold (bX1_believersOf_5 (nI i) (fX2_levelOf (nI i) S) S) n (0 : Int32) ∧
  ((n = 0 → y.2.1 = 0) ∧ (1 ≤ n → frP (fun z => S 28 z (nI i)) (xfold (bX1_freshestOf_7 (nI i) S) n ((-1 : Int32), (0 : Int32))) y.2.1)) ∧
  (∃ k : Nat, k ≤ n ∧ xfold (bX1_countHolders_5 (nI i) (0 : Int32) S) n (0 : Int32) = nI k ∧ (y.2.2.1 = 0 ↔ k = 0)) ∧
  y.2.2.2 = y0 + (if S 19 0 (nI i) = 0 then xfold (bX1_countHolders_5 (nI i) (2 : Int32) S) n (0 : Int32) else 0)
set_option maxHeartbeats 4000000 in
theorem in_all {S : xS} {i : Nat} {y0 : Int32} (hH : Lk 35 LH S) (hl : 0 ≤ (fX2_levelOf (nI i) S).toInt) (hi : i < 8) : inP S i y0 8 (xfold (bL_areMembers_34 (nI i) S) 8 ((0 : Int32), (0 : Int32), (0 : Int32), y0)) := by
  refine xfold_I (inP S i y0) 8 _ ⟨rfl, ⟨fun _ => rfl, fun h => absurd h (by decide)⟩, ⟨0, Nat.le_refl _, nI_0.symm, by simp⟩, ?_⟩ (fun j hj y ⟨h1, ⟨h2, h3⟩, ⟨k, k1, k2, k3⟩, h4⟩ => ?_)
  · show y0 = y0 + (if S 19 0 (nI i) = 0 then (0 : Int32) else 0)
    rw [ite_self, Int32.add_zero]
  · have hu := up_eq hH hj
    have hd : S 35 0 (((8 : Int32) * nI i) + (1 : Int32)) = S 19 0 (nI i) := by rw [e8_1]; exact hH 1 19 (by decide) i hi
    unfold bL_areMembers_34
    refine ⟨?_, ⟨fun z => absurd z (by omega), fun _ => ?_⟩, ?_, ?_⟩
    · show y.1 + jL_areMembers_62 (jL_areMembers_41 S (nI j)) S (nI j) (nI i) = bX1_believersOf_5 (nI i) (fX2_levelOf (nI i) S) S (nI j) (xfold (bX1_believersOf_5 (nI i) (fX2_levelOf (nI i) S) S) j (0 : Int32))
      rw [← h1, hu]
      unfold jL_areMembers_62 bX1_believersOf_5 fX3_believed
      by_cases u : S 19 0 (nI j) = 0
      · rw [if_pos u, if_pos u, if_neg (by decide)]
        by_cases z : fX1_hasNews (nI j) (nI i) S = 0
        · rw [if_pos z, if_pos z, if_neg, Int32.add_zero]
          intro q
          have q2 : (fX2_levelOf (nI i) S).toInt = -1 := by
            have e : fX2_levelOf (nI i) S = -1 := q.symm
            rw [e]; rfl
          omega
        · rw [if_neg z, if_neg z]
          show y.1 + (if S 29 (nI j) (nI i) = fX2_levelOf (nI i) S then (1 : Int32) else 0) = _
          by_cases q : S 29 (nI j) (nI i) = fX2_levelOf (nI i) S
          · rw [if_pos q, if_pos q]
          · rw [if_neg q, if_neg q, Int32.add_zero]
      · rw [if_neg u, if_neg u, if_pos rfl, Int32.add_zero]
    · show frP (fun z => S 28 z (nI i)) (bX1_freshestOf_7 (nI i) S (nI j) (xfold (bX1_freshestOf_7 (nI i) S) j ((-1 : Int32), (0 : Int32)))) (jL_areMembers_92 y.2.1 S (nI j) (nI i))
      by_cases z : j = 0
      · subst z
        rw [h2 rfl, nI_0]
        show frP _ (bX1_freshestOf_7 (nI i) S (0 : Int32) ((-1 : Int32), (0 : Int32))) _
        unfold bX1_freshestOf_7 jL_areMembers_92 frP
        rw [if_pos (Int32.le_refl _)]
        refine ⟨by rw [← nI_0]; exact in8 (by decide), rfl⟩
      · exact fr_step (in8 hj) (fun _ => rfl) (h3 (by omega))
    · show ∃ k : Nat, k ≤ j + 1 ∧ bX1_countHolders_5 (nI i) (0 : Int32) S (nI j) (xfold (bX1_countHolders_5 (nI i) (0 : Int32) S) j (0 : Int32)) = nI k ∧ (jL_areMembers_120 (jL_areMembers_41 S (nI j)) y.2.2.1 S (nI j) (nI i) = 0 ↔ k = 0)
      rw [k2, hu]
      unfold bX1_countHolders_5 jL_areMembers_120 fX3_status
      by_cases u : S 19 0 (nI j) = 0
      · rw [if_pos u, if_pos u]
        by_cases t : S 33 (nI j) (nI i) = 0
        · rw [if_pos t]
          refine ⟨k + 1, by omega, nI_1 k, ?_⟩
          rw [if_neg (show ¬ (1 : Int32) = 0 by decide), if_pos t]
          split <;> simp
        · rw [if_neg t]
          refine ⟨k, by omega, rfl, ?_⟩
          rw [if_neg (show ¬ (1 : Int32) = 0 by decide), if_neg t]
          split
          · next z => exact ⟨fun _ => k3.mp z, fun _ => rfl⟩
          · next z => exact ⟨fun h => absurd h (by decide), fun h => absurd (k3.mpr h) z⟩
      · rw [if_neg u, if_neg u, if_pos rfl]
        refine ⟨k, by omega, rfl, ?_⟩
        split
        · next z => exact ⟨fun _ => k3.mp z, fun _ => rfl⟩
        · next z => exact ⟨fun h => absurd h (by decide), fun h => absurd (k3.mpr h) z⟩
    · show y.2.2.2 + jL_areMembers_149 (jL_areMembers_41 S (nI j)) S (nI j) (nI i) = y0 + (if S 19 0 (nI i) = 0 then bX1_countHolders_5 (nI i) (2 : Int32) S (nI j) (xfold (bX1_countHolders_5 (nI i) (2 : Int32) S) j (0 : Int32)) else 0)
      rw [h4, hu]
      unfold jL_areMembers_149 bX1_countHolders_5 fX3_status
      rw [hd]
      by_cases u : S 19 0 (nI j) = 0
      · rw [if_pos u, if_pos u, if_neg (show ¬ (1 : Int32) = 0 by decide)]
        by_cases w : S 19 0 (nI i) = 0
        · rw [if_pos w, if_pos w, if_pos w]
          by_cases t : S 33 (nI j) (nI i) = 2
          · rw [if_pos t, if_pos t, Int32.add_assoc]
          · rw [if_neg t, if_neg t, Int32.add_zero]
        · rw [if_neg w, if_neg w, if_neg w, Int32.add_zero]
      · rw [if_neg u, if_neg u, if_pos rfl, Int32.add_zero]
theorem called_ok {S : xS} {m t : Int32} : fX1_calledBy m t S = -1 ∨ (vp_in (fX1_calledBy m t S) 8 ∧ fX1_calledBy m t S ≠ m ∧ (¬ (t - t / (4 : Int32) * (4 : Int32)) = 0 → ¬ S 33 m (fX1_calledBy m t S) = 2)) := by
  have key : ∀ n i x, i + n = 8 → xrun (bX1_calledBy_68 m t S) (fun (x : Int32) => (-1 : Int32)) n i x = -1 ∨ (vp_in (xrun (bX1_calledBy_68 m t S) (fun (x : Int32) => (-1 : Int32)) n i x) 8 ∧ xrun (bX1_calledBy_68 m t S) (fun (x : Int32) => (-1 : Int32)) n i x ≠ m ∧ (¬ (t - t / (4 : Int32) * (4 : Int32)) = 0 → ¬ S 33 m (xrun (bX1_calledBy_68 m t S) (fun (x : Int32) => (-1 : Int32)) n i x) = 2)) := by
    intro n
    induction n with
    | zero => exact fun i x _ => Or.inl rfl
    | succ n ih =>
      intro i x hi
      unfold xrun
      unfold bX1_calledBy_68
      by_cases z : fX1_isCallable m (nI i) (jX1_calledBy_3 m t) S = 0
      · rw [if_pos z]
        exact ih (i + 1) x (by omega)
      · rw [if_neg z]
        by_cases y : x = 0
        · rw [if_pos y]
          refine Or.inr ⟨in8 (by omega), fun q => z ?_, fun q1 q2 => z ?_⟩
          · unfold fX1_isCallable
            exact if_pos q
          · unfold fX1_isCallable
            by_cases w : nI i = m
            · exact if_pos w
            · rw [if_neg w, if_pos, if_pos q2]
              unfold jX1_calledBy_3
              exact if_neg q1
        · rw [if_neg y]
          exact ih (i + 1) _ (by omega)
  unfold fX1_calledBy
  by_cases q : (1 : Int32) ≤ (xfold (bX1_calledBy_18 m t S) 8 (0 : Int32))
  · rw [if_pos q]
    exact key 8 0 _ rfl
  · rw [if_neg q]
    exact Or.inl rfl
theorem m225 {S : xS} {k : Nat} {ag be : Int32} (hk : k < 8) (hH : Lk 35 LH S) (hst : ∀ o : Nat, o < 8 → S 33 (nI k) (nI o) = 0 ∨ S 33 (nI k) (nI o) = 1 ∨ S 33 (nI k) (nI o) = 2) (h1 : fX3_agree (nI k) S = ag) (h2 : fX3_freshest (nI k) S = if fX3_version be (nI k) S ≤ (0 : Int32) then (-1 : Int32) else be) : jL_areMembers_225 ag be (fX3_partner (nI k) S) S (nI k) = 1 := by
  have hd : S 35 0 (((8 : Int32) * nI k) + (1 : Int32)) = S 19 0 (nI k) := by rw [e8_1]; exact hH 1 19 (by decide) k hk
  have core : (if fX3_partner (nI k) S < (-1 : Int32) then (0 : Int32) else if (8 : Int32) ≤ fX3_partner (nI k) S then (0 : Int32) else if fX3_partner (nI k) S = nI k then (0 : Int32) else if fX3_partner (nI k) S < (0 : Int32) then (1 : Int32) else if S 35 0 (((8 : Int32) * nI k) + (1 : Int32)) = (0 : Int32) then (if (((fX3_time S) + (1 : Int32)) - ((fX3_time S) + (1 : Int32)) / (4 : Int32) * (4 : Int32)) = (0 : Int32) then (1 : Int32) else if (2 : Int32) ≤ (fX3_status (nI k) (fX3_partner (nI k) S) S) then (0 : Int32) else (1 : Int32)) else (0 : Int32)) = 1 := by
    rw [hd]
    have none : ∀ p : Int32, p = -1 → (if p < (-1 : Int32) then (0 : Int32) else if (8 : Int32) ≤ p then (0 : Int32) else if p = nI k then (0 : Int32) else if p < (0 : Int32) then (1 : Int32) else if S 19 0 (nI k) = (0 : Int32) then (if (((fX3_time S) + (1 : Int32)) - ((fX3_time S) + (1 : Int32)) / (4 : Int32) * (4 : Int32)) = (0 : Int32) then (1 : Int32) else if (2 : Int32) ≤ (fX3_status (nI k) p S) then (0 : Int32) else (1 : Int32)) else (0 : Int32)) = 1 := fun p hp => by
      subst hp
      rw [if_neg (by decide), if_neg (by decide), if_neg, if_pos (by decide)]
      intro z
      have e := congrArg Int32.toInt z
      rw [nI_toInt (by omega), show (-1 : Int32).toInt = -1 from rfl] at e
      omega
    by_cases u : S 19 0 (nI k) = 0
    · have ep : fX3_partner (nI k) S = fX1_calledBy (nI k) ((S 0 0 (nI 3)) + (1 : Int32)) S := by
        unfold fX3_partner
        exact if_pos u
      rcases called_ok (S := S) (m := nI k) (t := (S 0 0 (nI 3)) + (1 : Int32)) with c | ⟨c1, c2, c3⟩
      · exact none _ (ep.trans c)
      · rw [ep]
        obtain ⟨o, ho, eo⟩ := xin_j c1
        rw [eo] at c2 c3 ⊢
        rw [if_neg (by rw [Int32.lt_iff_toInt_lt, nI_toInt (by omega), show (-1 : Int32).toInt = -1 from rfl]; omega), if_neg (by rw [Int32.le_iff_toInt_le, nI_toInt (by omega), xt8]; omega), if_neg c2, if_neg (by rw [Int32.lt_iff_toInt_lt, nI_toInt (by omega), xt0]; omega), if_pos u]
        by_cases w : (((fX3_time S) + (1 : Int32)) - ((fX3_time S) + (1 : Int32)) / (4 : Int32) * (4 : Int32)) = (0 : Int32)
        · rw [if_pos w]
        · rw [if_neg w, if_neg]
          have c4 := c3 w
          unfold fX3_status
          rcases hst o ho with q | q | q
          · rw [q]; decide
          · rw [q]; decide
          · exact absurd q c4
    · refine none _ ?_
      unfold fX3_partner
      exact if_neg u
  unfold jL_areMembers_225
  rw [if_pos h1]
  by_cases z : fX3_version be (nI k) S ≤ (0 : Int32)
  · rw [if_pos z] at h2 ⊢
    rw [if_pos h2]
    exact core
  · rw [if_neg z] at h2 ⊢
    rw [if_pos h2]
    exact core
set_option maxHeartbeats 4000000 in
theorem inv_mem (c t : Nat) (S : xS) (_ : c ≤ 90) (_ : t ≤ 1350) (h : Inv c t S) : okM S := by
  obtain ⟨⟨hB, hN, hK, hS⟩, ⟨hT, hE⟩, ⟨hG, hH⟩, hZ, hP, hW⟩ := h
  refine ⟨fun n x => x.1 = xfold (bX1_countUnnoticed_4 S) n (0 : Int32) ∧ x.2.1 = xfold (bX1_countMistaken_4 S) n (0 : Int32) ∧ x.2.2 = 1, ⟨rfl, rfl, rfl⟩, fun i hi x ⟨h1, h2, h3⟩ => ?_, fun i x h => h.2.2, fun x h => ⟨h.1.symm, h.2.1.symm⟩⟩
  have key := in_all (S := S) (i := i) (y0 := x.2.1) hH (lv_pos hN (hK.1.1 i hi).1 hi) hi
  unfold bL_areMembers_10
  generalize xfold (bL_areMembers_34 (nI i) S) 8 ((0 : Int32), (0 : Int32), (0 : Int32), x.2.1) = y at key
  obtain ⟨k1, ⟨-, k2⟩, ⟨k, k3, k4, k5⟩, k6⟩ := key
  have hd : S 35 0 (((8 : Int32) * nI i) + (1 : Int32)) = S 19 0 (nI i) := by rw [e8_1]; exact hH 1 19 (by decide) i hi
  refine ⟨?_, ?_, ?_⟩
  · show x.1 + jL_areMembers_192 y.2.2.1 S (nI i) = bX1_countUnnoticed_4 S (nI i) (xfold (bX1_countUnnoticed_4 S) i (0 : Int32))
    rw [← h1]
    unfold jL_areMembers_192 bX1_countUnnoticed_4
    have ec : fX1_countHolders (nI i) (0 : Int32) S = nI k := k4
    have hk0 : (nI k ≤ (0 : Int32)) ↔ k = 0 := by
      rw [Int32.le_iff_toInt_le, nI_toInt (by omega), xt0]
      omega
    rw [ec, hd]
    rcases (hB i hi).2.1 with u | u
    · rw [if_pos u]
      by_cases z : y.2.2.1 = 0
      · rw [if_pos z, Int32.add_zero]
      · rw [if_neg z, u, if_neg (by decide), Int32.add_zero]
    · rw [if_neg (show ¬ S 19 0 (nI i) = 0 by rw [u]; decide), if_pos u]
      by_cases z : y.2.2.1 = 0
      · rw [if_pos z, if_pos (hk0.mpr (k5.mp z)), Int32.add_zero]
      · rw [if_neg z, if_neg (fun q => z (k5.mpr (hk0.mp q)))]
  · show y.2.2.2 = bX1_countMistaken_4 S (nI i) (xfold (bX1_countMistaken_4 S) i (0 : Int32))
    rw [k6, ← h2]
    unfold bX1_countMistaken_4
    by_cases u : S 19 0 (nI i) = 0
    · rw [if_pos u, if_pos u]
      rfl
    · rw [if_neg u, if_neg u, Int32.add_zero]
  · show jL_areMembers_225 y.1 y.2.1 (fX3_partner (nI i) S) S (nI i) = 1
    refine m225 hi hH (fun o ho => (hE.2 i o hi ho).2.2.2.2.2) k1.symm ?_
    obtain ⟨-, q2⟩ := k2 (by decide)
    unfold fX3_freshest fX1_freshestOf fX3_version
    rw [q2]
    by_cases z : S 28 y.2.1 (nI i) ≤ 0
    · simp only [if_pos z]
    · simp only [if_neg z]
