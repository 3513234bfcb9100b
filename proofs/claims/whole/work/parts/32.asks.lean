/-! 32: the calls that only ask (plansim2.py) -/
theorem xfold_cong {σ : Type} {b b' : Int32 → σ → σ} : ∀ (n : Nat) (x : σ), (∀ i, i < n → ∀ x, b (nI i) x = b' (nI i) x) → xfold b n x = xfold b' n x
  | 0, _, _ => rfl
  | n + 1, x, h => by
    show b (nI n) (xfold b n x) = b' (nI n) (xfold b' n x)
    rw [xfold_cong n x (fun i hi => h i (by omega)), h n (by omega)]
theorem xfoldD_cong {σ : Type} {b b' : Int32 → σ → σ} : ∀ (n : Nat) (x : σ), (∀ i, i < n → ∀ x, b (nI i) x = b' (nI i) x) → xfoldD b n x = xfoldD b' n x
  | 0, _, _ => rfl
  | n + 1, x, h => by
    show xfoldD b n (b (nI n) x) = xfoldD b' n (b' (nI n) x)
    rw [h n (by omega), xfoldD_cong n _ (fun i hi => h i (by omega))]
/-- two loops in step -/
theorem xfold_2 {σ τ : Type} (P : σ → τ → Prop) {b : Int32 → σ → σ} {b' : Int32 → τ → τ} : ∀ (n : Nat) (x : σ) (y : τ), P x y → (∀ i, i < n → ∀ x y, P x y → P (b (nI i) x) (b' (nI i) y)) → P (xfold b n x) (xfold b' n y)
  | 0, _, _, h, _ => h
  | n + 1, x, y, h, hs => hs n (by omega) _ _ (xfold_2 P n x y h (fun i hi => hs i (by omega)))
theorem in8 {i : Nat} (h : i < 8) : vp_in (nI i) 8 := vp_in_nI h (by decide)
theorem hn_eq {S M : xS} {a b : Int32} (h : AA S M) (h1 : vp_in a 8) (h2 : vp_in b 8) : fX4_hasNews a b M = fX1_hasNews a b S := by
  unfold fX4_hasNews fX1_hasNews
  rw [h.two (f := 28) (g := 19) (by decide) h1 h2]
theorem lv_eq {S M : xS} {a : Int32} (h : AA S M) (hB : Bnd S) (h1 : vp_in a 8) : fX2_levelOf a S = fX4_levelOf a M := by
  unfold fX4_levelOf fX2_levelOf
  rw [← h.one (f := 6) (g := 3) (by decide) h1, ← h.one (f := 4) (g := 1) (by decide) h1, if_pos]
  obtain ⟨j, hj, rfl⟩ := xin_j h1
  rw [Int32.le_iff_toInt_le, xt1]
  exact (hB j hj).1.1
theorem g_volume {S M : xS} {a1 : Int32} (h : AA S M) (c1 : vp_in a1 8) : fX4_volume a1 M = ((xu M 0 0 (nI 29) (0 : Int32)), fX3_volume a1 S) := by
  unfold fX4_volume fX3_volume
  rw [asks_1 c1, h.one (f := 6) (g := 3) (by decide) c1]
  refine (if_neg (show ¬ (1 : Int32) = 0 by decide)).trans ?_
  show ((xu M 0 0 (nI 29) (0 : Int32)), (xu M 0 0 (nI 29) (0 : Int32)) 3 0 a1) = _
  rw [xu_ne (by decide)]
theorem g_flowed {S M : xS} {a1 : Int32} (h : AA S M) (c1 : vp_in a1 8) : fX4_flowed a1 M = ((xu M 0 0 (nI 29) (0 : Int32)), fX3_flowed a1 S) := by
  unfold fX4_flowed fX3_flowed
  rw [asks_1 c1, h.one (f := 9) (g := 8) (by decide) c1]
  refine (if_neg (show ¬ (1 : Int32) = 0 by decide)).trans ?_
  show ((xu M 0 0 (nI 29) (0 : Int32)), (xu M 0 0 (nI 29) (0 : Int32)) 8 0 a1) = _
  rw [xu_ne (by decide)]
theorem g_spilled {S M : xS} {a1 : Int32} (h : AA S M) (c1 : vp_in a1 8) : fX4_spilled a1 M = ((xu M 0 0 (nI 29) (0 : Int32)), fX3_spilled a1 S) := by
  unfold fX4_spilled fX3_spilled
  rw [asks_1 c1, h.one (f := 10) (g := 9) (by decide) c1]
  refine (if_neg (show ¬ (1 : Int32) = 0 by decide)).trans ?_
  show ((xu M 0 0 (nI 29) (0 : Int32)), (xu M 0 0 (nI 29) (0 : Int32)) 9 0 a1) = _
  rw [xu_ne (by decide)]
theorem g_opening {S M : xS} {a1 : Int32} (h : AA S M) (c1 : vp_in a1 8) : fX4_opening a1 M = ((xu M 0 0 (nI 29) (0 : Int32)), fX3_opening a1 S) := by
  unfold fX4_opening fX3_opening
  rw [asks_1 c1, h.one (f := 12) (g := 4) (by decide) c1]
  refine (if_neg (show ¬ (1 : Int32) = 0 by decide)).trans ?_
  show ((xu M 0 0 (nI 29) (0 : Int32)), (xu M 0 0 (nI 29) (0 : Int32)) 4 0 a1) = _
  rw [xu_ne (by decide)]
theorem g_safety {S M : xS} {a1 : Int32} (h : AA S M) (c1 : vp_in a1 8) : fX4_safety a1 M = ((xu M 0 0 (nI 29) (0 : Int32)), fX3_safety a1 S) := by
  unfold fX4_safety fX3_safety
  rw [asks_1 c1, h.one (f := 17) (g := 15) (by decide) c1]
  refine (if_neg (show ¬ (1 : Int32) = 0 by decide)).trans ?_
  show ((xu M 0 0 (nI 29) (0 : Int32)), (xu M 0 0 (nI 29) (0 : Int32)) 15 0 a1) = _
  rw [xu_ne (by decide)]
theorem g_volumeByBalance {S M : xS} {a1 : Int32} (h : AA S M) (hB : Bal S) (c1 : vp_in a1 8) : fX4_volumeByBalance a1 M = ((xu M 0 0 (nI 29) (0 : Int32)), fX3_volumeByBalance a1 S) := by
  unfold fX4_volumeByBalance fX3_volumeByBalance
  rw [asks_1 c1, ← hB a1 c1, h.one (f := 6) (g := 3) (by decide) c1]
  refine (if_neg (show ¬ (1 : Int32) = 0 by decide)).trans ?_
  show ((xu M 0 0 (nI 29) (0 : Int32)), (xu M 0 0 (nI 29) (0 : Int32)) 3 0 a1) = _
  rw [xu_ne (by decide)]
theorem g_level {S M : xS} {a1 : Int32} (h : AA S M) (hB : Bnd S) (c1 : vp_in a1 8) : fX4_level a1 M = ((xu M 0 0 (nI 29) (0 : Int32)), fX3_level a1 S) := by
  unfold fX4_level fX3_level
  rw [asks_1 c1, lv_eq (AA_thrown (v := 0) h) hB c1]
  exact if_neg (show ¬ (1 : Int32) = 0 by decide)
theorem g_version {S M : xS} {a1 a2 : Int32} (h : AA S M) (c1 : vp_in a1 8) (c2 : vp_in a2 8) : fX4_version a1 a2 M = ((xu M 0 0 (nI 29) (0 : Int32)), fX3_version a1 a2 S) := by
  unfold fX4_version fX3_version
  rw [ask_1 c1 c2, h.two (f := 28) (g := 19) (by decide) c1 c2]
  refine (if_neg (show ¬ (1 : Int32) = 0 by decide)).trans ?_
  show ((xu M 0 0 (nI 29) (0 : Int32)), (xu M 0 0 (nI 29) (0 : Int32)) 19 0 _) = _
  rw [xu_ne (by decide)]
theorem g_beat {S M : xS} {a1 a2 : Int32} (h : AA S M) (c1 : vp_in a1 8) (c2 : vp_in a2 8) : fX4_beat a1 a2 M = ((xu M 0 0 (nI 29) (0 : Int32)), fX3_beat a1 a2 S) := by
  unfold fX4_beat fX3_beat
  rw [ask_1 c1 c2, h.two (f := 31) (g := 22) (by decide) c1 c2]
  refine (if_neg (show ¬ (1 : Int32) = 0 by decide)).trans ?_
  show ((xu M 0 0 (nI 29) (0 : Int32)), (xu M 0 0 (nI 29) (0 : Int32)) 22 0 _) = _
  rw [xu_ne (by decide)]
theorem g_status {S M : xS} {a1 a2 : Int32} (h : AA S M) (c1 : vp_in a1 8) (c2 : vp_in a2 8) : fX4_status a1 a2 M = ((xu M 0 0 (nI 29) (0 : Int32)), fX3_status a1 a2 S) := by
  unfold fX4_status fX3_status
  rw [ask_1 c1 c2, h.two (f := 33) (g := 24) (by decide) c1 c2]
  refine (if_neg (show ¬ (1 : Int32) = 0 by decide)).trans ?_
  show ((xu M 0 0 (nI 29) (0 : Int32)), (xu M 0 0 (nI 29) (0 : Int32)) 24 0 _) = _
  rw [xu_ne (by decide)]
theorem g_believed {S M : xS} {a1 a2 : Int32} (h : AA S M) (c1 : vp_in a1 8) (c2 : vp_in a2 8) : fX4_believed a1 a2 M = ((xu M 0 0 (nI 29) (0 : Int32)), fX3_believed a1 a2 S) := by
  unfold fX4_believed fX3_believed
  rw [ask_1 c1 c2]
  refine (if_neg (show ¬ (1 : Int32) = 0 by decide)).trans ?_
  show (if fX4_hasNews a1 a2 (xu M 0 0 (nI 29) (0 : Int32)) = 0 then ((xu M 0 0 (nI 29) (0 : Int32)), (-1 : Int32)) else ((xu M 0 0 (nI 29) (0 : Int32)), (xu M 0 0 (nI 29) (0 : Int32)) 20 0 (fX4_at a1 a2))) = _
  rw [hn_eq (AA_thrown (v := 0) h) c1 c2, h.two (f := 29) (g := 20) (by decide) c1 c2]
  by_cases q : fX1_hasNews a1 a2 S = 0
  · rw [if_pos q, if_pos q]
  · rw [if_neg q, if_neg q, xu_ne (by decide)]
theorem ao_eq {S M : xS} {a b : Int32} (h : AA S M) (h1 : vp_in a 8) (h2 : vp_in b 8) : fX4_ageOf a b M = if fX1_hasNews a b S = 0 then (-1 : Int32) else S 0 0 (nI 3) - S 30 a b := by
  unfold fX4_ageOf
  rw [hn_eq h h1 h2, h.two (f := 30) (g := 21) (by decide) h1 h2, h.1.2.2.2.2]
theorem g_age {S M : xS} {a1 a2 : Int32} (h : AA S M) (c1 : vp_in a1 8) (c2 : vp_in a2 8) : fX4_age a1 a2 M = ((xu M 0 0 (nI 29) (0 : Int32)), fX3_age a1 a2 S) := by
  unfold fX4_age fX3_age
  rw [ask_1 c1 c2]
  refine (if_neg (show ¬ (1 : Int32) = 0 by decide)).trans ?_
  show ((xu M 0 0 (nI 29) (0 : Int32)), fX4_ageOf a1 a2 (xu M 0 0 (nI 29) (0 : Int32))) = _
  rw [ao_eq (AA_thrown (v := 0) h) c1 c2]
theorem g_agree {S M : xS} {a1 : Int32} (h : AA S M) (hB : Bnd S) (c1 : vp_in a1 8) : fX4_agree a1 M = ((xu M 0 0 (nI 29) (0 : Int32)), fX3_agree a1 S) := by
  have h' := AA_thrown (v := 0) h
  unfold fX4_agree fX3_agree fX1_believersOf
  rw [asks_1 c1, lv_eq h' hB c1]
  refine (if_neg (show ¬ (1 : Int32) = 0 by decide)).trans ?_
  show ((xu M 0 0 (nI 29) (0 : Int32)), xfold (bX4_agree_14 a1 (xu M 0 0 (nI 29) (0 : Int32))) 8 (0 : Int32)) = _
  refine congrArg (Prod.mk _) (xfold_cong 8 _ fun i hi x => ?_)
  unfold bX4_agree_14 bX1_believersOf_5
  rw [hn_eq h' (in8 hi) c1, ← h'.one (f := 19) (g := 16) (by decide) (in8 hi), ← h'.two (f := 29) (g := 20) (by decide) (in8 hi) c1, Int32.add_zero]
def frP (V : Int32 → Int32) (x : Int32 × Int32) (y : Int32) : Prop := vp_in y 8 ∧ x = if V y ≤ 0 then (-1, 0) else (y, V y)
theorem g_freshest {S M : xS} {a1 : Int32} (h : AA S M) (c1 : vp_in a1 8) : fX4_freshest a1 M = ((xu M 0 0 (nI 29) (0 : Int32)), fX3_freshest a1 S) := by
  have h' := AA_thrown (v := 0) h
  unfold fX4_freshest fX3_freshest fX1_freshestOf
  rw [asks_1 c1]
  refine (if_neg (show ¬ (1 : Int32) = 0 by decide)).trans ?_
  have key : ∀ n : Nat, n ≤ 7 → frP (fun i => S 28 i a1) (xfold (bX1_freshestOf_7 a1 S) (n + 1) ((-1 : Int32), (0 : Int32))) (xfoldF (bX4_freshest_14 a1 (xu M 0 0 (nI 29) (0 : Int32))) n 1 (0 : Int32)) := by
    have tail : ∀ n i (y : Int32), xfoldF (bX4_freshest_14 a1 (xu M 0 0 (nI 29) (0 : Int32))) (n + 1) i y = bX4_freshest_14 a1 (xu M 0 0 (nI 29) (0 : Int32)) (nI (i + n)) (xfoldF (bX4_freshest_14 a1 (xu M 0 0 (nI 29) (0 : Int32))) n i y) := by
      intro n
      induction n with
      | zero => intro i y; rfl
      | succ n ih => intro i y; show xfoldF _ (n + 1) (i + 1) _ = _; rw [ih (i + 1) _]; show _ = bX4_freshest_14 a1 (xu M 0 0 (nI 29) (0 : Int32)) (nI (i + (n + 1))) (xfoldF _ n (i + 1) _); rw [show i + 1 + n = i + (n + 1) by omega]
    intro n
    induction n with
    | zero =>
      intro _
      refine ⟨in8 (i := 0) (by decide), ?_⟩
      show bX1_freshestOf_7 a1 S (nI 0) ((-1 : Int32), (0 : Int32)) = if S 28 (0 : Int32) a1 ≤ 0 then (-1, 0) else (0, S 28 (0 : Int32) a1)
      rw [nI_0]
      rfl
    | succ n ih =>
      intro hn
      obtain ⟨q1, q2⟩ := ih (by omega)
      rw [tail]
      show frP _ (bX1_freshestOf_7 a1 S (nI (n + 1)) (xfold (bX1_freshestOf_7 a1 S) (n + 1) ((-1 : Int32), (0 : Int32)))) _
      rw [q2]
      generalize xfoldF (bX4_freshest_14 a1 (xu M 0 0 (nI 29) (0 : Int32))) n 1 (0 : Int32) = y at q1 q2
      have hi : vp_in (nI (n + 1)) 8 := in8 (by omega)
      rw [show 1 + n = n + 1 by omega]
      unfold bX4_freshest_14 bX1_freshestOf_7 frP
      rw [← h'.two (f := 28) (g := 19) (by decide) hi c1, ← h'.two (f := 28) (g := 19) (by decide) q1 c1]
      by_cases a : S 28 y a1 ≤ 0
      · simp only [if_pos a]
        by_cases b : S 28 (nI (n + 1)) a1 ≤ S 28 y a1
        · rw [if_pos (Int32.le_trans b a), if_pos b]
          exact ⟨q1, by rw [if_pos a]⟩
        · rw [if_neg b]
          refine ⟨hi, ?_⟩
          by_cases d : S 28 (nI (n + 1)) a1 ≤ 0
          · rw [if_pos d]
          · rw [if_neg d]
      · simp only [if_neg a]
        by_cases b : S 28 (nI (n + 1)) a1 ≤ S 28 y a1
        · rw [if_pos b, if_pos b]
          exact ⟨q1, by rw [if_neg a]⟩
        · rw [if_neg b, if_neg b]
          refine ⟨hi, ?_⟩
          rw [if_neg (fun d => b (Int32.le_trans d (Int32.le_of_lt (Int32.not_le.mp a))))]
  obtain ⟨q1, q2⟩ := key 7 (by decide)
  rw [q2]
  generalize xfoldF (bX4_freshest_14 a1 (xu M 0 0 (nI 29) (0 : Int32))) 7 1 (0 : Int32) = y at q1
  show (if fX4_hasNews y a1 (xu M 0 0 (nI 29) (0 : Int32)) = 0 then ((xu M 0 0 (nI 29) (0 : Int32)), (-1 : Int32)) else ((xu M 0 0 (nI 29) (0 : Int32)), y)) = _
  rw [hn_eq h' q1 c1]
  unfold fX1_hasNews
  by_cases a : S 28 y a1 ≤ 0
  · simp only [if_pos a, if_true]
  · simp only [if_neg a]
    rw [if_neg (by decide)]
set_option maxHeartbeats 4000000 in
theorem s_volume : sim_volume Rel := by
  intro c S M o a1 hc hR
  by_cases c1 : vp_in a1 8
  · have e := g_volume hR.1 c1
    have e1 : (fX4_volume a1 M).1 = (xu M 0 0 (nI 29) (0 : Int32)) := xfst e
    have e2 : (fX4_volume a1 M).2 = fX3_volume a1 S := xsnd e
    exact ⟨0, S, (fX3_volume a1 S).toInt64, (fX4_volume a1 M).1, (fX4_volume a1 M).2, 3, 63, Or.inl ⟨c1, rfl, rfl, rfl⟩, by decide, by decide, (fun l Gm hap => kX4_volume l hap a1 M), by rw [e1]; exact xu_same, fun _ => by rw [e2], by rw [e1]; exact Rel_M hR⟩
  · have e : fX4_volume a1 M = (xu M 0 0 (nI 29) (1 : Int32), (0 : Int32)) := by
      unfold fX4_volume
      rw [asks_0 c1]
      exact if_pos rfl
    have e1 : (fX4_volume a1 M).1 = xu M 0 0 (nI 29) (1 : Int32) := xfst e
    exact ⟨1, S, o, (fX4_volume a1 M).1, (fX4_volume a1 M).2, 3, 63, Or.inr ⟨c1, rfl, rfl, rfl⟩, by decide, by decide, (fun l Gm hap => kX4_volume l hap a1 M), by rw [e1]; exact xu_same, fun h => absurd h (by decide), by rw [e1]; exact Rel_M hR⟩
set_option maxHeartbeats 4000000 in
theorem s_flowed : sim_flowed Rel := by
  intro c S M o a1 hc hR
  by_cases c1 : vp_in a1 8
  · have e := g_flowed hR.1 c1
    have e1 : (fX4_flowed a1 M).1 = (xu M 0 0 (nI 29) (0 : Int32)) := xfst e
    have e2 : (fX4_flowed a1 M).2 = fX3_flowed a1 S := xsnd e
    exact ⟨0, S, (fX3_flowed a1 S).toInt64, (fX4_flowed a1 M).1, (fX4_flowed a1 M).2, 3, 63, Or.inl ⟨c1, rfl, rfl, rfl⟩, by decide, by decide, (fun l Gm hap => kX4_flowed l hap a1 M), by rw [e1]; exact xu_same, fun _ => by rw [e2], by rw [e1]; exact Rel_M hR⟩
  · have e : fX4_flowed a1 M = (xu M 0 0 (nI 29) (1 : Int32), (0 : Int32)) := by
      unfold fX4_flowed
      rw [asks_0 c1]
      exact if_pos rfl
    have e1 : (fX4_flowed a1 M).1 = xu M 0 0 (nI 29) (1 : Int32) := xfst e
    exact ⟨1, S, o, (fX4_flowed a1 M).1, (fX4_flowed a1 M).2, 3, 63, Or.inr ⟨c1, rfl, rfl, rfl⟩, by decide, by decide, (fun l Gm hap => kX4_flowed l hap a1 M), by rw [e1]; exact xu_same, fun h => absurd h (by decide), by rw [e1]; exact Rel_M hR⟩
set_option maxHeartbeats 4000000 in
theorem s_spilled : sim_spilled Rel := by
  intro c S M o a1 hc hR
  by_cases c1 : vp_in a1 8
  · have e := g_spilled hR.1 c1
    have e1 : (fX4_spilled a1 M).1 = (xu M 0 0 (nI 29) (0 : Int32)) := xfst e
    have e2 : (fX4_spilled a1 M).2 = fX3_spilled a1 S := xsnd e
    exact ⟨0, S, (fX3_spilled a1 S).toInt64, (fX4_spilled a1 M).1, (fX4_spilled a1 M).2, 3, 63, Or.inl ⟨c1, rfl, rfl, rfl⟩, by decide, by decide, (fun l Gm hap => kX4_spilled l hap a1 M), by rw [e1]; exact xu_same, fun _ => by rw [e2], by rw [e1]; exact Rel_M hR⟩
  · have e : fX4_spilled a1 M = (xu M 0 0 (nI 29) (1 : Int32), (0 : Int32)) := by
      unfold fX4_spilled
      rw [asks_0 c1]
      exact if_pos rfl
    have e1 : (fX4_spilled a1 M).1 = xu M 0 0 (nI 29) (1 : Int32) := xfst e
    exact ⟨1, S, o, (fX4_spilled a1 M).1, (fX4_spilled a1 M).2, 3, 63, Or.inr ⟨c1, rfl, rfl, rfl⟩, by decide, by decide, (fun l Gm hap => kX4_spilled l hap a1 M), by rw [e1]; exact xu_same, fun h => absurd h (by decide), by rw [e1]; exact Rel_M hR⟩
set_option maxHeartbeats 4000000 in
theorem s_opening : sim_opening Rel := by
  intro c S M o a1 hc hR
  by_cases c1 : vp_in a1 8
  · have e := g_opening hR.1 c1
    have e1 : (fX4_opening a1 M).1 = (xu M 0 0 (nI 29) (0 : Int32)) := xfst e
    have e2 : (fX4_opening a1 M).2 = fX3_opening a1 S := xsnd e
    exact ⟨0, S, (fX3_opening a1 S).toInt64, (fX4_opening a1 M).1, (fX4_opening a1 M).2, 3, 63, Or.inl ⟨c1, rfl, rfl, rfl⟩, by decide, by decide, (fun l Gm hap => kX4_opening l hap a1 M), by rw [e1]; exact xu_same, fun _ => by rw [e2], by rw [e1]; exact Rel_M hR⟩
  · have e : fX4_opening a1 M = (xu M 0 0 (nI 29) (1 : Int32), (0 : Int32)) := by
      unfold fX4_opening
      rw [asks_0 c1]
      exact if_pos rfl
    have e1 : (fX4_opening a1 M).1 = xu M 0 0 (nI 29) (1 : Int32) := xfst e
    exact ⟨1, S, o, (fX4_opening a1 M).1, (fX4_opening a1 M).2, 3, 63, Or.inr ⟨c1, rfl, rfl, rfl⟩, by decide, by decide, (fun l Gm hap => kX4_opening l hap a1 M), by rw [e1]; exact xu_same, fun h => absurd h (by decide), by rw [e1]; exact Rel_M hR⟩
set_option maxHeartbeats 4000000 in
theorem s_safety : sim_safety Rel := by
  intro c S M o a1 hc hR
  by_cases c1 : vp_in a1 8
  · have e := g_safety hR.1 c1
    have e1 : (fX4_safety a1 M).1 = (xu M 0 0 (nI 29) (0 : Int32)) := xfst e
    have e2 : (fX4_safety a1 M).2 = fX3_safety a1 S := xsnd e
    exact ⟨0, S, (fX3_safety a1 S).toInt64, (fX4_safety a1 M).1, (fX4_safety a1 M).2, 3, 63, Or.inl ⟨c1, rfl, rfl, rfl⟩, by decide, by decide, (fun l Gm hap => kX4_safety l hap a1 M), by rw [e1]; exact xu_same, fun _ => by rw [e2], by rw [e1]; exact Rel_M hR⟩
  · have e : fX4_safety a1 M = (xu M 0 0 (nI 29) (1 : Int32), (0 : Int32)) := by
      unfold fX4_safety
      rw [asks_0 c1]
      exact if_pos rfl
    have e1 : (fX4_safety a1 M).1 = xu M 0 0 (nI 29) (1 : Int32) := xfst e
    exact ⟨1, S, o, (fX4_safety a1 M).1, (fX4_safety a1 M).2, 3, 63, Or.inr ⟨c1, rfl, rfl, rfl⟩, by decide, by decide, (fun l Gm hap => kX4_safety l hap a1 M), by rw [e1]; exact xu_same, fun h => absurd h (by decide), by rw [e1]; exact Rel_M hR⟩
set_option maxHeartbeats 4000000 in
theorem s_freshest : sim_freshest Rel := by
  intro c S M o a1 hc hR
  by_cases c1 : vp_in a1 8
  · have e := g_freshest hR.1 c1
    have e1 : (fX4_freshest a1 M).1 = (xu M 0 0 (nI 29) (0 : Int32)) := xfst e
    have e2 : (fX4_freshest a1 M).2 = fX3_freshest a1 S := xsnd e
    exact ⟨0, S, (fX3_freshest a1 S).toInt64, (fX4_freshest a1 M).1, (fX4_freshest a1 M).2, 3, 63, Or.inl ⟨c1, rfl, rfl, rfl⟩, by decide, by decide, (fun l Gm hap => kX4_freshest l hap a1 M), by rw [e1]; exact xu_same, fun _ => by rw [e2], by rw [e1]; exact Rel_M hR⟩
  · have e : fX4_freshest a1 M = (xu M 0 0 (nI 29) (1 : Int32), (0 : Int32)) := by
      unfold fX4_freshest
      rw [asks_0 c1]
      exact if_pos rfl
    have e1 : (fX4_freshest a1 M).1 = xu M 0 0 (nI 29) (1 : Int32) := xfst e
    exact ⟨1, S, o, (fX4_freshest a1 M).1, (fX4_freshest a1 M).2, 3, 63, Or.inr ⟨c1, rfl, rfl, rfl⟩, by decide, by decide, (fun l Gm hap => kX4_freshest l hap a1 M), by rw [e1]; exact xu_same, fun h => absurd h (by decide), by rw [e1]; exact Rel_M hR⟩
set_option maxHeartbeats 4000000 in
theorem s_volumeByBalance : sim_volumeByBalance Rel := by
  intro c S M o a1 hc hR
  by_cases c1 : vp_in a1 8
  · have e := g_volumeByBalance hR.1 hR.2.1.2.2.2.1 c1
    have e1 : (fX4_volumeByBalance a1 M).1 = (xu M 0 0 (nI 29) (0 : Int32)) := xfst e
    have e2 : (fX4_volumeByBalance a1 M).2 = fX3_volumeByBalance a1 S := xsnd e
    exact ⟨0, S, (fX3_volumeByBalance a1 S).toInt64, (fX4_volumeByBalance a1 M).1, (fX4_volumeByBalance a1 M).2, 3, 63, Or.inl ⟨c1, rfl, rfl, rfl⟩, by decide, by decide, (fun l Gm hap => kX4_volumeByBalance l hap a1 M), by rw [e1]; exact xu_same, fun _ => by rw [e2], by rw [e1]; exact Rel_M hR⟩
  · have e : fX4_volumeByBalance a1 M = (xu M 0 0 (nI 29) (1 : Int32), (0 : Int32)) := by
      unfold fX4_volumeByBalance
      rw [asks_0 c1]
      exact if_pos rfl
    have e1 : (fX4_volumeByBalance a1 M).1 = xu M 0 0 (nI 29) (1 : Int32) := xfst e
    exact ⟨1, S, o, (fX4_volumeByBalance a1 M).1, (fX4_volumeByBalance a1 M).2, 3, 63, Or.inr ⟨c1, rfl, rfl, rfl⟩, by decide, by decide, (fun l Gm hap => kX4_volumeByBalance l hap a1 M), by rw [e1]; exact xu_same, fun h => absurd h (by decide), by rw [e1]; exact Rel_M hR⟩
set_option maxHeartbeats 4000000 in
theorem s_level : sim_level Rel := by
  intro c S M o a1 hc hR
  by_cases c1 : vp_in a1 8
  · have e := g_level hR.1 hR.2.1.1 c1
    have e1 : (fX4_level a1 M).1 = (xu M 0 0 (nI 29) (0 : Int32)) := xfst e
    have e2 : (fX4_level a1 M).2 = fX3_level a1 S := xsnd e
    exact ⟨0, S, (fX3_level a1 S).toInt64, (fX4_level a1 M).1, (fX4_level a1 M).2, 3, 63, Or.inl ⟨c1, rfl, rfl, rfl⟩, by decide, by decide, (fun l Gm hap => kX4_level l hap a1 M hR.hA), by rw [e1]; exact xu_same, fun _ => by rw [e2], by rw [e1]; exact Rel_M hR⟩
  · have e : fX4_level a1 M = (xu M 0 0 (nI 29) (1 : Int32), (0 : Int32)) := by
      unfold fX4_level
      rw [asks_0 c1]
      exact if_pos rfl
    have e1 : (fX4_level a1 M).1 = xu M 0 0 (nI 29) (1 : Int32) := xfst e
    exact ⟨1, S, o, (fX4_level a1 M).1, (fX4_level a1 M).2, 3, 63, Or.inr ⟨c1, rfl, rfl, rfl⟩, by decide, by decide, (fun l Gm hap => kX4_level l hap a1 M hR.hA), by rw [e1]; exact xu_same, fun h => absurd h (by decide), by rw [e1]; exact Rel_M hR⟩
set_option maxHeartbeats 4000000 in
theorem s_agree : sim_agree Rel := by
  intro c S M o a1 hc hR
  by_cases c1 : vp_in a1 8
  · have e := g_agree hR.1 hR.2.1.1 c1
    have e1 : (fX4_agree a1 M).1 = (xu M 0 0 (nI 29) (0 : Int32)) := xfst e
    have e2 : (fX4_agree a1 M).2 = fX3_agree a1 S := xsnd e
    exact ⟨0, S, (fX3_agree a1 S).toInt64, (fX4_agree a1 M).1, (fX4_agree a1 M).2, 3, 63, Or.inl ⟨c1, rfl, rfl, rfl⟩, by decide, by decide, (fun l Gm hap => kX4_agree l hap a1 M hR.hA), by rw [e1]; exact xu_same, fun _ => by rw [e2], by rw [e1]; exact Rel_M hR⟩
  · have e : fX4_agree a1 M = (xu M 0 0 (nI 29) (1 : Int32), (0 : Int32)) := by
      unfold fX4_agree
      rw [asks_0 c1]
      exact if_pos rfl
    have e1 : (fX4_agree a1 M).1 = xu M 0 0 (nI 29) (1 : Int32) := xfst e
    exact ⟨1, S, o, (fX4_agree a1 M).1, (fX4_agree a1 M).2, 3, 63, Or.inr ⟨c1, rfl, rfl, rfl⟩, by decide, by decide, (fun l Gm hap => kX4_agree l hap a1 M hR.hA), by rw [e1]; exact xu_same, fun h => absurd h (by decide), by rw [e1]; exact Rel_M hR⟩
set_option maxHeartbeats 4000000 in
theorem s_believed : sim_believed Rel := by
  intro c S M o a1 a2 hc hR
  by_cases c1 : vp_in a1 8 ∧ vp_in a2 8
  · have e := g_believed hR.1 c1.1 c1.2
    have e1 : (fX4_believed a1 a2 M).1 = (xu M 0 0 (nI 29) (0 : Int32)) := xfst e
    have e2 : (fX4_believed a1 a2 M).2 = fX3_believed a1 a2 S := xsnd e
    exact ⟨0, S, (fX3_believed a1 a2 S).toInt64, (fX4_believed a1 a2 M).1, (fX4_believed a1 a2 M).2, 3, 64, Or.inl ⟨c1, rfl, rfl, rfl⟩, by decide, by decide, (fun l Gm hap => kX4_believed l hap a1 a2 M), by rw [e1]; exact xu_same, fun _ => by rw [e2], by rw [e1]; exact Rel_M hR⟩
  · have e : fX4_believed a1 a2 M = (xu M 0 0 (nI 29) (1 : Int32), (0 : Int32)) := by
      unfold fX4_believed
      rw [ask_0 c1]
      exact if_pos rfl
    have e1 : (fX4_believed a1 a2 M).1 = xu M 0 0 (nI 29) (1 : Int32) := xfst e
    exact ⟨1, S, o, (fX4_believed a1 a2 M).1, (fX4_believed a1 a2 M).2, 3, 64, Or.inr ⟨c1, rfl, rfl, rfl⟩, by decide, by decide, (fun l Gm hap => kX4_believed l hap a1 a2 M), by rw [e1]; exact xu_same, fun h => absurd h (by decide), by rw [e1]; exact Rel_M hR⟩
set_option maxHeartbeats 4000000 in
theorem s_version : sim_version Rel := by
  intro c S M o a1 a2 hc hR
  by_cases c1 : vp_in a1 8 ∧ vp_in a2 8
  · have e := g_version hR.1 c1.1 c1.2
    have e1 : (fX4_version a1 a2 M).1 = (xu M 0 0 (nI 29) (0 : Int32)) := xfst e
    have e2 : (fX4_version a1 a2 M).2 = fX3_version a1 a2 S := xsnd e
    exact ⟨0, S, (fX3_version a1 a2 S).toInt64, (fX4_version a1 a2 M).1, (fX4_version a1 a2 M).2, 3, 64, Or.inl ⟨c1, rfl, rfl, rfl⟩, by decide, by decide, (fun l Gm hap => kX4_version l hap a1 a2 M), by rw [e1]; exact xu_same, fun _ => by rw [e2], by rw [e1]; exact Rel_M hR⟩
  · have e : fX4_version a1 a2 M = (xu M 0 0 (nI 29) (1 : Int32), (0 : Int32)) := by
      unfold fX4_version
      rw [ask_0 c1]
      exact if_pos rfl
    have e1 : (fX4_version a1 a2 M).1 = xu M 0 0 (nI 29) (1 : Int32) := xfst e
    exact ⟨1, S, o, (fX4_version a1 a2 M).1, (fX4_version a1 a2 M).2, 3, 64, Or.inr ⟨c1, rfl, rfl, rfl⟩, by decide, by decide, (fun l Gm hap => kX4_version l hap a1 a2 M), by rw [e1]; exact xu_same, fun h => absurd h (by decide), by rw [e1]; exact Rel_M hR⟩
set_option maxHeartbeats 4000000 in
theorem s_age : sim_age Rel := by
  intro c S M o a1 a2 hc hR
  by_cases c1 : vp_in a1 8 ∧ vp_in a2 8
  · have e := g_age hR.1 c1.1 c1.2
    have e1 : (fX4_age a1 a2 M).1 = (xu M 0 0 (nI 29) (0 : Int32)) := xfst e
    have e2 : (fX4_age a1 a2 M).2 = fX3_age a1 a2 S := xsnd e
    exact ⟨0, S, (fX3_age a1 a2 S).toInt64, (fX4_age a1 a2 M).1, (fX4_age a1 a2 M).2, 3, 65, Or.inl ⟨c1, rfl, rfl, rfl⟩, by decide, by decide, (fun l Gm hap => kX4_age l hap a1 a2 M), by rw [e1]; exact xu_same, fun _ => by rw [e2], by rw [e1]; exact Rel_M hR⟩
  · have e : fX4_age a1 a2 M = (xu M 0 0 (nI 29) (1 : Int32), (0 : Int32)) := by
      unfold fX4_age
      rw [ask_0 c1]
      exact if_pos rfl
    have e1 : (fX4_age a1 a2 M).1 = xu M 0 0 (nI 29) (1 : Int32) := xfst e
    exact ⟨1, S, o, (fX4_age a1 a2 M).1, (fX4_age a1 a2 M).2, 3, 65, Or.inr ⟨c1, rfl, rfl, rfl⟩, by decide, by decide, (fun l Gm hap => kX4_age l hap a1 a2 M), by rw [e1]; exact xu_same, fun h => absurd h (by decide), by rw [e1]; exact Rel_M hR⟩
set_option maxHeartbeats 4000000 in
theorem s_beat : sim_beat Rel := by
  intro c S M o a1 a2 hc hR
  by_cases c1 : vp_in a1 8 ∧ vp_in a2 8
  · have e := g_beat hR.1 c1.1 c1.2
    have e1 : (fX4_beat a1 a2 M).1 = (xu M 0 0 (nI 29) (0 : Int32)) := xfst e
    have e2 : (fX4_beat a1 a2 M).2 = fX3_beat a1 a2 S := xsnd e
    exact ⟨0, S, (fX3_beat a1 a2 S).toInt64, (fX4_beat a1 a2 M).1, (fX4_beat a1 a2 M).2, 3, 64, Or.inl ⟨c1, rfl, rfl, rfl⟩, by decide, by decide, (fun l Gm hap => kX4_beat l hap a1 a2 M), by rw [e1]; exact xu_same, fun _ => by rw [e2], by rw [e1]; exact Rel_M hR⟩
  · have e : fX4_beat a1 a2 M = (xu M 0 0 (nI 29) (1 : Int32), (0 : Int32)) := by
      unfold fX4_beat
      rw [ask_0 c1]
      exact if_pos rfl
    have e1 : (fX4_beat a1 a2 M).1 = xu M 0 0 (nI 29) (1 : Int32) := xfst e
    exact ⟨1, S, o, (fX4_beat a1 a2 M).1, (fX4_beat a1 a2 M).2, 3, 64, Or.inr ⟨c1, rfl, rfl, rfl⟩, by decide, by decide, (fun l Gm hap => kX4_beat l hap a1 a2 M), by rw [e1]; exact xu_same, fun h => absurd h (by decide), by rw [e1]; exact Rel_M hR⟩
set_option maxHeartbeats 4000000 in
theorem s_status : sim_status Rel := by
  intro c S M o a1 a2 hc hR
  by_cases c1 : vp_in a1 8 ∧ vp_in a2 8
  · have e := g_status hR.1 c1.1 c1.2
    have e1 : (fX4_status a1 a2 M).1 = (xu M 0 0 (nI 29) (0 : Int32)) := xfst e
    have e2 : (fX4_status a1 a2 M).2 = fX3_status a1 a2 S := xsnd e
    exact ⟨0, S, (fX3_status a1 a2 S).toInt64, (fX4_status a1 a2 M).1, (fX4_status a1 a2 M).2, 3, 64, Or.inl ⟨c1, rfl, rfl, rfl⟩, by decide, by decide, (fun l Gm hap => kX4_status l hap a1 a2 M), by rw [e1]; exact xu_same, fun _ => by rw [e2], by rw [e1]; exact Rel_M hR⟩
  · have e : fX4_status a1 a2 M = (xu M 0 0 (nI 29) (1 : Int32), (0 : Int32)) := by
      unfold fX4_status
      rw [ask_0 c1]
      exact if_pos rfl
    have e1 : (fX4_status a1 a2 M).1 = xu M 0 0 (nI 29) (1 : Int32) := xfst e
    exact ⟨1, S, o, (fX4_status a1 a2 M).1, (fX4_status a1 a2 M).2, 3, 64, Or.inr ⟨c1, rfl, rfl, rfl⟩, by decide, by decide, (fun l Gm hap => kX4_status l hap a1 a2 M), by rw [e1]; exact xu_same, fun h => absurd h (by decide), by rw [e1]; exact Rel_M hR⟩
