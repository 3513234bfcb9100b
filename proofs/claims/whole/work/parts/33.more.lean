/-! 33: setStuck, byHand, fall, comeUp; unnoticed, mistaken, vain, time -/
set_option maxHeartbeats 4000000 in
theorem s_setStuck : sim_setStuck Rel := by
  intro c S M o a1 a2 hc hR hb
  have hA := hR.1
  have hz : ∀ r, narrow .boolean (.int (M 18 0 r)) = .int (M 18 0 r) := fun r => xn01 (hR.2.2.2 r)
  by_cases c1 : vp_in a1 8
  · have e : fX4_setStuck a1 a2 M = (xu (xu M 0 0 (nI 29) 0) 18 0 a1 a2, xu M 0 0 (nI 29) 0 18 0 a1) := by
      unfold fX4_setStuck
      rw [asks_1 c1]
      exact if_neg (show ¬ (1 : Int32) = 0 by decide)
    have e1 : (fX4_setStuck a1 a2 M).1 = xu (xu M 0 0 (nI 29) 0) 18 0 a1 a2 := xfst e
    have e2 : (fX4_setStuck a1 a2 M).2 = xu M 0 0 (nI 29) 0 18 0 a1 := xsnd e
    have e3 : (fX3_setStuck a1 a2 S).2 = (fX4_setStuck a1 a2 M).2 := by
      rw [e2, xu_ne (by decide)]
      exact hA.one (f := 20) (g := 18) (by decide) c1
    refine ⟨0, (fX3_setStuck a1 a2 S).1, (if (fX3_setStuck a1 a2 S).2 = (0 : Int32) then (0 : Int64) else (1 : Int64)), (fX4_setStuck a1 a2 M).1, (fX4_setStuck a1 a2 M).2, 3, 63, Or.inl ⟨c1, rfl, rfl, rfl⟩, by decide, by decide, (fun l Gm hap => kX4_setStuck l hap a1 a2 M hz (xn01 hb)), ?_, fun _ => by rw [e3], xn01 (hR.2.2.1 a1), ?_, ?_, ?_, ?_⟩
    · rw [e1, xu_ne (by decide), xu_same]
    · rw [e1]; exact AA_1 (f := 20) (g := 18) (by decide) (AA_thrown hA)
    · show Inv (c + 1) (xu S 20 0 a1 a2)
      exact Inv_B (xu_nf (by decide)) (xu_nf (by decide)) (xu_nf (by decide)) (xu_nf (by decide)) (xu_nf (by decide)) (xu_nf (by decide)) (xu_nf (by decide)) (Bnd_eq (xu_nf (by decide)) (xu_nf (by decide)) (xu_nf (by decide)) (xu_nf (by decide)) hR.2.1.1) hR.2.1.mono
    · intro r
      show xu S 20 0 a1 a2 20 0 r = 0 ∨ xu S 20 0 a1 a2 20 0 r = 1
      rw [xu_row]
      split
      · exact hb
      · exact hR.2.2.1 r
    · intro r
      rw [e1, xu_row]
      split
      · exact hb
      · rw [xu_ne (by decide)]; exact hR.2.2.2 r
  · have e : fX4_setStuck a1 a2 M = (xu M 0 0 (nI 29) 1, 0) := by
      unfold fX4_setStuck
      rw [asks_0 c1]
      exact if_pos rfl
    have e1 : (fX4_setStuck a1 a2 M).1 = xu M 0 0 (nI 29) 1 := xfst e
    exact ⟨1, S, o, (fX4_setStuck a1 a2 M).1, (fX4_setStuck a1 a2 M).2, 3, 63, Or.inr ⟨c1, rfl, rfl, rfl⟩, by decide, by decide, (fun l Gm hap => kX4_setStuck l hap a1 a2 M hz (xn01 hb)), by rw [e1]; exact xu_same, fun h => absurd h (by decide), xn01 (hR.2.2.1 a1), by rw [e1]; exact Rel_M hR⟩
set_option maxHeartbeats 4000000 in
theorem s_fall : sim_fall Rel := by
  intro c S M o a1 hc hR
  have hA := hR.1
  by_cases c1 : vp_in a1 8
  · have q := hA.one (f := 19) (g := 16) (by decide) c1
    by_cases d : S 19 0 a1 = 0
    · have e : fX4_fall a1 M = xu (xu M 0 0 (nI 29) 0) 16 0 a1 1 := by
        unfold fX4_fall
        rw [if_neg (isOne_1 c1), if_pos (by rw [← q]; exact d)]
      exact ⟨0, fX3_fall a1 S, o, fX4_fall a1 M, 0, 2, 42, Or.inl ⟨c1, d, rfl, rfl, rfl⟩, by decide, by decide, (fun l Gm hap => kX4_fall l hap a1 M), by rw [e, xu_ne (by decide), xu_same], by rw [e]; exact AA_1 (f := 19) (g := 16) (by decide) (AA_thrown hA), Inv_B (xu_nf (by decide)) (xu_nf (by decide)) (xu_nf (by decide)) (xu_nf (by decide)) (xu_nf (by decide)) (xu_nf (by decide)) (xu_nf (by decide)) (Bnd_eq (xu_nf (by decide)) (xu_nf (by decide)) (xu_nf (by decide)) (xu_nf (by decide)) hR.2.1.1) hR.2.1.mono, Stk_eq hR.2.2 (xu_nf (by decide)) (by rw [e, xu_nf (by decide), xu_nf (by decide)])⟩
    · have e : fX4_fall a1 M = xu M 0 0 (nI 29) 2 := by
        unfold fX4_fall
        rw [if_neg (isOne_1 c1), if_neg (by rw [← q]; exact d)]
      exact ⟨2, S, o, fX4_fall a1 M, 0, 2, 42, Or.inr (Or.inr ⟨c1, d, rfl, rfl, rfl⟩), by decide, by decide, (fun l Gm hap => kX4_fall l hap a1 M), by rw [e, xu_same], by rw [e]; exact Rel_M hR⟩
  · have e : fX4_fall a1 M = xu M 0 0 (nI 29) 1 := by
      unfold fX4_fall
      rw [if_pos (isOne_0.mpr c1)]
    exact ⟨1, S, o, fX4_fall a1 M, 0, 2, 42, Or.inr (Or.inl ⟨c1, rfl, rfl, rfl⟩), by decide, by decide, (fun l Gm hap => kX4_fall l hap a1 M), by rw [e, xu_same], by rw [e]; exact Rel_M hR⟩
theorem fill_2 {S M : xS} {a1 v : Int32} (h : AA S M) (c1 : vp_in a1 8) (ht : M 0 0 (nI 28) = v) : AA (fJ7_fill_53178 a1 v S) (xfold (bX4_comeUp_41 a1) 8 M) ∧ (∀ f, f ≠ 32 → fJ7_fill_53178 a1 v S f = S f) ∧ (∀ g, g ≠ 23 → xfold (bX4_comeUp_41 a1) 8 M g = M g) := by
  unfold fJ7_fill_53178
  have key := xfold_2 (b := bJ7_fill_53178_5 a1 v) (b' := bX4_comeUp_41 a1) (fun (x y : xS) => AA x y ∧ (∀ f, f ≠ 32 → x f = S f) ∧ (∀ g, g ≠ 23 → y g = M g)) 8 S M ⟨h, fun _ _ => rfl, fun _ _ => rfl⟩ (fun i hi x y ⟨q1, q2, q3⟩ => by
    unfold bJ7_fill_53178_5 bX4_comeUp_41
    rw [show y 0 0 (nI 28) = v by rw [q3 0 (by decide)]; exact ht]
    exact ⟨AA_2 (f := 32) (g := 23) (by decide) c1 (in8 hi) q1, fun f hf => by rw [xu_nf hf]; exact q2 f hf, fun g hg => by rw [xu_nf hg]; exact q3 g hg⟩)
  exact key
set_option maxHeartbeats 4000000 in
theorem s_comeUp : sim_comeUp Rel := by
  intro c S M o a1 hc hR
  have hA := hR.1
  by_cases c1 : vp_in a1 8
  · have q := hA.one (f := 19) (g := 16) (by decide) c1
    by_cases d : S 19 0 a1 = 0
    · have e : fX4_comeUp a1 M = xu M 0 0 (nI 29) 2 := by
        unfold fX4_comeUp
        rw [if_neg (isOne_1 c1), if_pos (by rw [← q]; exact d)]
      exact ⟨2, S, o, fX4_comeUp a1 M, 0, 2, 42, Or.inr (Or.inr ⟨c1, d, rfl, rfl, rfl⟩), by decide, by decide, (fun l Gm hap => kX4_comeUp l hap a1 M), by rw [e, xu_same], by rw [e]; exact Rel_M hR⟩
    · have e : fX4_comeUp a1 M = xfold (bX4_comeUp_41 a1) 8 (xu (xu M 0 0 (nI 29) 0) 16 0 a1 0) := by
        unfold fX4_comeUp
        rw [if_neg (isOne_1 c1), if_neg (by rw [← q]; exact d)]
      obtain ⟨k1, k2, k3⟩ := fill_2 (v := S 0 0 (nI 3)) (AA_1 (f := 19) (g := 16) (v := 0) (r := a1) (by decide) (AA_thrown (v := 0) hA)) c1 (by rw [xu_ne (by decide), xu_ni (by decide)]; exact hA.1.2.2.2.2.symm)
      rw [← e] at k1 k3
      have kk : ∀ f, f ≠ 32 → f ≠ 19 → fX3_comeUp a1 S f = S f := fun f h1 h2 => (k2 f h1).trans (xu_nf h2)
      exact ⟨0, fX3_comeUp a1 S, o, fX4_comeUp a1 M, 0, 2, 42, Or.inl ⟨c1, d, rfl, rfl, rfl⟩, by decide, by decide, (fun l Gm hap => kX4_comeUp l hap a1 M), by rw [k3 0 (by decide), xu_ne (by decide), xu_same], k1, Inv_B (kk _ (by decide) (by decide)) (kk _ (by decide) (by decide)) (kk _ (by decide) (by decide)) (kk _ (by decide) (by decide)) (kk _ (by decide) (by decide)) (kk _ (by decide) (by decide)) (kk _ (by decide) (by decide)) (Bnd_eq (kk _ (by decide) (by decide)) (kk _ (by decide) (by decide)) (kk _ (by decide) (by decide)) (kk _ (by decide) (by decide)) hR.2.1.1) hR.2.1.mono, Stk_eq hR.2.2 (kk _ (by decide) (by decide)) (by rw [k3 18 (by decide), xu_nf (by decide), xu_nf (by decide)])⟩
  · have e : fX4_comeUp a1 M = xu M 0 0 (nI 29) 1 := by
      unfold fX4_comeUp
      rw [if_pos (isOne_0.mpr c1)]
    exact ⟨1, S, o, fX4_comeUp a1 M, 0, 2, 42, Or.inr (Or.inl ⟨c1, rfl, rfl, rfl⟩), by decide, by decide, (fun l Gm hap => kX4_comeUp l hap a1 M), by rw [e, xu_same], by rw [e]; exact Rel_M hR⟩
set_option maxHeartbeats 4000000 in
theorem s_byHand : sim_byHand Rel := by
  intro c S M o a1 a2 hc hR
  have hA := hR.1
  have con := (fun (l : Launch) (Gm : xG) (hap : xAp xYm Gm) => kX4_byHand l hap a1 a2 M)
  by_cases c1 : vp_in a1 8
  · have q := hA.one (f := 18) (g := 14) (by decide) c1
    have q4 := hA.one (f := 12) (g := 4) (by decide) c1
    by_cases c2 : ¬ a2 < (-1 : Int32) ∧ a2 ≤ (10 : Int32)
    · by_cases d : a2 = (-1 : Int32)
      · by_cases d2 : S 18 0 a1 = 0
        · have e : fX4_byHand a1 a2 M = (xu M 0 0 (nI 29) 2, 0) := by
            unfold fX4_byHand
            rw [if_neg (isOne_1 c1), if_neg (isIn_1 c2), if_pos d, if_pos (by rw [← q]; exact d2)]
          have e1 : (fX4_byHand a1 a2 M).1 = xu M 0 0 (nI 29) 2 := xfst e
          exact ⟨2, S, o, (fX4_byHand a1 a2 M).1, (fX4_byHand a1 a2 M).2, 2, 42, Or.inr (Or.inr ⟨⟨c1, c2⟩, ⟨d, d2⟩, rfl, rfl, rfl⟩), by decide, by decide, con, by rw [e1, xu_same], fun h => absurd h (by decide), by rw [e1]; exact Rel_M hR⟩
        · have e : fX4_byHand a1 a2 M = (xu (xu (xu M 0 0 (nI 29) 0) 14 0 a1 0) 4 0 a1 (M 4 0 a1), M 4 0 a1) := by
            unfold fX4_byHand
            rw [if_neg (isOne_1 c1), if_neg (isIn_1 c2), if_pos d, if_neg (by rw [← q]; exact d2)]
          have e1 : (fX4_byHand a1 a2 M).1 = xu (xu M 0 0 (nI 29) 0) 14 0 a1 0 := by
            rw [xfst e]
            have z : M 4 0 a1 = xu (xu M 0 0 (nI 29) 0) 14 0 a1 0 4 0 a1 := by rw [xu_ne (by decide), xu_ne (by decide)]
            rw [z]
            exact xu_id
          have e2 : (fX4_byHand a1 a2 M).2 = M 4 0 a1 := xsnd e
          have f : fX3_byHand a1 a2 S = (xu S 18 0 a1 0, S 12 0 a1) := by
            unfold fX3_byHand
            rw [if_pos d]
          have f1 : (fX3_byHand a1 a2 S).1 = xu S 18 0 a1 0 := xfst f
          have f2 : (fX3_byHand a1 a2 S).2 = S 12 0 a1 := xsnd f
          exact ⟨0, (fX3_byHand a1 a2 S).1, (fX3_byHand a1 a2 S).2.toInt64, (fX4_byHand a1 a2 M).1, (fX4_byHand a1 a2 M).2, 2, 42, Or.inl ⟨⟨c1, c2⟩, fun _ => d2, rfl, rfl, rfl⟩, by decide, by decide, con, by rw [e1, xu_ne (by decide), xu_same], fun _ => by rw [f2, e2, q4], by rw [e1, f1]; exact AA_1 (f := 18) (g := 14) (by decide) (AA_thrown hA), by rw [f1]; exact Inv_B (xu_nf (by decide)) (xu_nf (by decide)) (xu_nf (by decide)) (xu_nf (by decide)) (xu_nf (by decide)) (xu_nf (by decide)) (xu_nf (by decide)) (Bnd_eq (xu_nf (by decide)) (xu_nf (by decide)) (xu_nf (by decide)) (xu_nf (by decide)) hR.2.1.1) hR.2.1.mono, Stk_eq hR.2.2 (by rw [f1, xu_nf (by decide)]) (by rw [e1, xu_nf (by decide), xu_nf (by decide)])⟩
      · have e : fX4_byHand a1 a2 M = (xu (xu (xu M 0 0 (nI 29) 0) 14 0 a1 1) 4 0 a1 a2, M 4 0 a1) := by
          unfold fX4_byHand
          rw [if_neg (isOne_1 c1), if_neg (isIn_1 c2), if_neg d]
        have e1 := xfst e
        have e2 := xsnd e
        have f : fX3_byHand a1 a2 S = (xu (xu S 18 0 a1 1) 12 0 a1 a2, S 12 0 a1) := by
          unfold fX3_byHand
          rw [if_neg d]
        have f1 := xfst f
        have f2 := xsnd f
        have hr : 0 ≤ a2.toInt ∧ a2.toInt ≤ 10 := by
          have h := xrange c2
          have e9 : (-1 : Int32).toInt = -1 := rfl
          have e8 : (10 : Int32).toInt = 10 := rfl
          have : a2.toInt ≠ -1 := fun z => d (Int32.toInt_inj.mp (by rw [z, e9]))
          omega
        have hb : Bnd (xu (xu S 18 0 a1 1) 12 0 a1 a2) := Bnd_12 (Bnd_eq (xu_nf (by decide)) (xu_nf (by decide)) (xu_nf (by decide)) (xu_nf (by decide)) hR.2.1.1) c1 hr
        refine ⟨0, (fX3_byHand a1 a2 S).1, (fX3_byHand a1 a2 S).2.toInt64, (fX4_byHand a1 a2 M).1, (fX4_byHand a1 a2 M).2, 2, 42, Or.inl ⟨⟨c1, c2⟩, fun z => absurd z d, rfl, rfl, rfl⟩, by decide, by decide, con, ?_, fun _ => by rw [f2, e2, q4], ?_, ?_, ?_⟩
        · rw [e1, xu_ne (by decide), xu_ne (by decide), xu_same]
        · rw [e1, f1]; exact AA_1 (f := 12) (g := 4) (by decide) (AA_1 (f := 18) (g := 14) (by decide) (AA_thrown hA))
        · rw [f1]
          exact Inv_B (by rw [xu_nf (by decide), xu_nf (by decide)]) (by rw [xu_nf (by decide), xu_nf (by decide)]) (by rw [xu_nf (by decide), xu_nf (by decide)]) (by rw [xu_nf (by decide), xu_nf (by decide)]) (by rw [xu_nf (by decide), xu_nf (by decide)]) (by rw [xu_nf (by decide), xu_nf (by decide)]) (by rw [xu_nf (by decide), xu_nf (by decide)]) hb hR.2.1.mono
        · exact Stk_eq hR.2.2 (by rw [f1, xu_nf (by decide), xu_nf (by decide)]) (by rw [e1, xu_nf (by decide), xu_nf (by decide), xu_nf (by decide)])
    · have e : fX4_byHand a1 a2 M = (xu M 0 0 (nI 29) 1, 0) := by
        unfold fX4_byHand
        rw [if_neg (isOne_1 c1), if_pos (isIn_0.mpr c2)]
      have e1 : (fX4_byHand a1 a2 M).1 = xu M 0 0 (nI 29) 1 := xfst e
      exact ⟨1, S, o, (fX4_byHand a1 a2 M).1, (fX4_byHand a1 a2 M).2, 2, 42, Or.inr (Or.inl ⟨fun h => c2 h.2, rfl, rfl, rfl⟩), by decide, by decide, con, by rw [e1, xu_same], fun h => absurd h (by decide), by rw [e1]; exact Rel_M hR⟩
  · have e : fX4_byHand a1 a2 M = (xu M 0 0 (nI 29) 1, 0) := by
      unfold fX4_byHand
      rw [if_pos (isOne_0.mpr c1)]
    have e1 : (fX4_byHand a1 a2 M).1 = xu M 0 0 (nI 29) 1 := xfst e
    exact ⟨1, S, o, (fX4_byHand a1 a2 M).1, (fX4_byHand a1 a2 M).2, 2, 42, Or.inr (Or.inl ⟨fun h => c1 h.1, rfl, rfl, rfl⟩), by decide, by decide, con, by rw [e1, xu_same], fun h => absurd h (by decide), by rw [e1]; exact Rel_M hR⟩
theorem s_vain : sim_vain Rel := fun c S M hc hR => ⟨hR.1.1.2.2.2.1.trans (xsnd (rfl : fX4_vain M = (_, _))).symm, by rw [xfst (rfl : fX4_vain M = (_, _))]; exact Rel_M hR⟩
theorem s_time : sim_time Rel := fun c S M hc hR => ⟨hR.1.1.2.2.2.2.trans (xsnd (rfl : fX4_time M = (_, _))).symm, by rw [xfst (rfl : fX4_time M = (_, _))]; exact Rel_M hR⟩
theorem xfold_2I {σ τ : Type} (P : Nat → σ → τ → Prop) {b : Int32 → σ → σ} {b' : Int32 → τ → τ} : ∀ (n : Nat) (x : σ) (y : τ), P 0 x y → (∀ i, i < n → ∀ x y, P i x y → P (i + 1) (b (nI i) x) (b' (nI i) y)) → P n (xfold b n x) (xfold b' n y)
  | 0, _, _, h, _ => h
  | n + 1, x, y, h, hs => hs n (by omega) _ _ (xfold_2I P n x y h (fun i hi => hs i (by omega)))
theorem s_unnoticed : sim_unnoticed Rel := by
  intro c S M hc hR
  have hA := hR.1
  refine ⟨?_, by rw [xfst (rfl : fX4_unnoticed M = (_, _))]; exact Rel_M hR⟩
  rw [xsnd (rfl : fX4_unnoticed M = (_, _))]
  unfold fX3_unnoticed fX1_countUnnoticed
  refine xfold_cong 8 _ fun i hi x => ?_
  have key : ∃ k : Nat, k ≤ 8 ∧ fX1_countHolders (nI i) (0 : Int32) S = nI k ∧ (xfold (bX4_unnoticed_20 (nI i) M) 8 (0 : Int32) = 0 ↔ k = 0) := by
    unfold fX1_countHolders
    refine xfold_2I (fun n (x y : Int32) => ∃ k : Nat, k ≤ n ∧ x = nI k ∧ (y = 0 ↔ k = 0)) 8 _ _ ⟨0, Nat.le_refl _, nI_0.symm, by simp⟩ (fun j hj x y ⟨k, k1, k2, k3⟩ => ?_)
    unfold bX1_countHolders_5 bX4_unnoticed_20
    rw [← hA.one (f := 19) (g := 16) (by decide) (in8 hj), ← hA.two (f := 33) (g := 24) (by decide) (in8 hj) (in8 hi)]
    by_cases u : S 19 0 (nI j) = 0
    · rw [if_pos u, if_pos u]
      by_cases t : S 33 (nI j) (nI i) = 0
      · rw [if_pos t, if_pos t]
        refine ⟨k + 1, by omega, by rw [k2]; exact nI_1 k, ?_⟩
        split <;> simp
      · rw [if_neg t, if_neg t]
        refine ⟨k, by omega, k2, ?_⟩
        split
        · next z => exact ⟨fun _ => k3.mp z, fun _ => rfl⟩
        · next z => exact ⟨fun h => absurd h (by decide), fun h => absurd (k3.mpr h) z⟩
    · rw [if_neg u, if_neg u]
      refine ⟨k, by omega, k2, ?_⟩
      split
      · next z => exact ⟨fun _ => k3.mp z, fun _ => rfl⟩
      · next z => exact ⟨fun h => absurd h (by decide), fun h => absurd (k3.mpr h) z⟩
  obtain ⟨k, k1, k2, k3⟩ := key
  unfold bX1_countUnnoticed_4 bX4_unnoticed_9
  rw [k2, ← hA.one (f := 19) (g := 16) (by decide) (in8 hi), Int32.add_zero]
  have hk : (nI k ≤ (0 : Int32)) ↔ k = 0 := by
    rw [Int32.le_iff_toInt_le, nI_toInt (by omega), xt0]
    omega
  by_cases u : S 19 0 (nI i) = 0
  · rw [if_pos u, if_pos u]
    split <;> rfl
  · rw [if_neg u, if_neg u]
    by_cases z : k = 0
    · rw [if_pos (hk.mpr z), if_pos (k3.mpr z)]
    · rw [if_neg (fun h => z (hk.mp h)), if_neg (fun h => z (k3.mp h))]
/-! sums -/
def sm : Nat → (Nat → Int32) → Int32
  | 0, _ => 0
  | n + 1, w => sm n w + w n
theorem sm_cong {w w' : Nat → Int32} : ∀ n, (∀ i, i < n → w i = w' i) → sm n w = sm n w'
  | 0, _ => rfl
  | n + 1, h => by
    show sm n w + w n = sm n w' + w' n
    rw [sm_cong n (fun i hi => h i (by omega)), h n (by omega)]
theorem sm_fold {b : Int32 → Int32 → Int32} {w : Nat → Int32} : ∀ n (x : Int32), (∀ i, i < n → ∀ x, b (nI i) x = x + w i) → xfold b n x = x + sm n w
  | 0, x, _ => by show x = x + 0; rw [Int32.add_zero]
  | n + 1, x, h => by
    show b (nI n) (xfold b n x) = x + (sm n w + w n)
    rw [h n (by omega), sm_fold n x (fun i hi => h i (by omega)), Int32.add_assoc]
theorem sm_plus (u v : Nat → Int32) : ∀ n, sm n (fun j => u j + v j) = sm n u + sm n v
  | 0 => by show (0 : Int32) = 0 + 0; decide
  | n + 1 => by
    show sm n (fun j => u j + v j) + (u n + v n) = (sm n u + u n) + (sm n v + v n)
    rw [sm_plus u v n]
    ac_rfl
theorem sm_zero : ∀ n, sm n (fun _ => 0) = 0
  | 0 => rfl
  | n + 1 => by
    show sm n (fun _ => 0) + 0 = 0
    rw [sm_zero n]
    decide
theorem sm_fub (h : Nat → Nat → Int32) (b : Nat) : ∀ a, sm a (fun i => sm b (fun j => h i j)) = sm b (fun j => sm a (fun i => h i j))
  | 0 => by
    show (0 : Int32) = sm b (fun _ => 0)
    rw [sm_zero]
  | a + 1 => by
    show sm a (fun i => sm b (fun j => h i j)) + sm b (fun j => h a j) = sm b (fun j => sm a (fun i => h i j) + h a j)
    rw [sm_plus, sm_fub h b a]
theorem sm_app (w : Nat → Int32) (a : Nat) : ∀ b, sm (a + b) w = sm a w + sm b (fun j => w (a + j))
  | 0 => by show sm a w = sm a w + 0; rw [Int32.add_zero]
  | b + 1 => by
    show sm (a + b) w + w (a + b) = sm a w + (sm b (fun j => w (a + j)) + w (a + b))
    rw [sm_app w a b, Int32.add_assoc]
theorem sm_8 (w : Nat → Int32) : ∀ a, sm (8 * a) w = sm a (fun m => sm 8 (fun o => w (8 * m + o)))
  | 0 => rfl
  | a + 1 => by
    show sm (8 * a + 8) w = sm a (fun m => sm 8 (fun o => w (8 * m + o))) + sm 8 (fun o => w (8 * a + o))
    rw [sm_app w (8 * a) 8, sm_8 w a]
theorem at_nI {m o : Nat} (hm : m < 8) (ho : o < 8) : fX4_at (nI m) (nI o) = nI (8 * m + o) := by
  apply Int32.toInt_inj.mp
  rw [xat_int8 (in8 hm) (in8 ho), nI_toInt (by omega), nI_toInt (by omega), nI_toInt (by omega)]
  omega
theorem s_mistaken : sim_mistaken Rel := by
  intro c S M hc hR
  have hA := hR.1
  refine ⟨?_, by rw [xfst (rfl : fX4_mistaken M = (_, _))]; exact Rel_M hR⟩
  rw [xsnd (rfl : fX4_mistaken M = (_, _))]
  unfold fX3_mistaken fX1_countMistaken
  let h : Nat → Nat → Int32 := fun m o => if S 19 0 (nI m) = 0 then if S 19 0 (nI o) = 0 then if S 33 (nI m) (nI o) = 2 then 1 else 0 else 0 else 0
  have e1 : xfold (bX1_countMistaken_4 S) 8 (0 : Int32) = 0 + sm 8 (fun o => sm 8 (fun m => h m o)) := by
    refine sm_fold 8 0 fun o ho x => ?_
    unfold bX1_countMistaken_4
    by_cases u : S 19 0 (nI o) = 0
    · rw [if_pos u]
      refine congrArg (fun z => x + z) ?_
      unfold fX1_countHolders
      rw [sm_fold (w := fun m => h m o) 8 0 (fun m hm y => ?_), Int32.zero_add]
      unfold bX1_countHolders_5
      show _ = y + (if S 19 0 (nI m) = 0 then if S 19 0 (nI o) = 0 then if S 33 (nI m) (nI o) = 2 then 1 else 0 else 0 else 0)
      rw [if_pos u]
      by_cases v : S 19 0 (nI m) = 0
      · rw [if_pos v, if_pos v]
        split
        · rfl
        · rw [Int32.add_zero]
      · rw [if_neg v, if_neg v, Int32.add_zero]
    · rw [if_neg u, sm_cong (w' := fun _ => 0) 8 (fun m hm => ?_), sm_zero, Int32.add_zero]
      show (if S 19 0 (nI m) = 0 then if S 19 0 (nI o) = 0 then if S 33 (nI m) (nI o) = 2 then 1 else 0 else 0 else 0) = (0 : Int32)
      rw [if_neg u]
      split <;> rfl
  have e2 : xfold (bX4_mistaken_9 M) 64 (0 : Int32) = 0 + sm 64 (fun k => h (k / 8) (k % 8)) := by
    refine sm_fold 64 0 fun k hk x => ?_
    have d1 : nI k / (8 : Int32) = nI (k / 8) := pk_div (by omega) (by decide) (by decide)
    have d2 : nI k - nI k / (8 : Int32) * (8 : Int32) = nI (k % 8) := pk_rem (by omega) (by decide) (by decide)
    have b1 : k / 8 < 8 := by omega
    have b2 : k % 8 < 8 := by omega
    unfold bX4_mistaken_9
    rw [d2, d1, ← hA.one (f := 19) (g := 16) (by decide) (in8 b1), ← hA.one (f := 19) (g := 16) (by decide) (in8 b2)]
    have e : M 24 0 (nI k) = S 33 (nI (k / 8)) (nI (k % 8)) := by
      rw [hA.two (f := 33) (g := 24) (by decide) (in8 b1) (in8 b2), at_nI b1 b2, show 8 * (k / 8) + k % 8 = k by omega]
    rw [e]
    show _ = x + (if S 19 0 (nI (k / 8)) = 0 then if S 19 0 (nI (k % 8)) = 0 then if S 33 (nI (k / 8)) (nI (k % 8)) = 2 then 1 else 0 else 0 else 0)
    split
    · split
      · split <;> rfl
      · rfl
    · rfl
  rw [e1, e2, ← sm_fub h 8 8]
  refine congrArg (fun z => (0 : Int32) + z) ?_
  show _ = sm (8 * 8) (fun k => h (k / 8) (k % 8))
  rw [sm_8]
  refine sm_cong 8 fun m hm => sm_cong 8 fun o ho => ?_
  rw [show (8 * m + o) / 8 = m by omega, show (8 * m + o) % 8 = o by omega]
