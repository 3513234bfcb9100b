/-! 31: what is kept; the simple calls (plansim.py) -/
theorem Stk_eq {S M S' M' : xS} (h : Stk S M) (h1 : S' 20 = S 20) (h2 : M' 18 = M 18) : Stk S' M' := ⟨fun r => by rw [h1]; exact h.1 r, fun r => by rw [h2]; exact h.2 r⟩
theorem Inv_B {c : Nat} {S S' : xS} (h0 : S' 0 = S 0) (h1 : S' 1 = S 1) (h6 : S' 6 = S 6) (h7 : S' 7 = S 7) (h8 : S' 8 = S 8) (h9 : S' 9 = S 9) (h10 : S' 10 = S 10) (hB : Bnd S') (hI : Inv c S) : Inv c S' := by
  obtain ⟨-, h2, h3, h4, h5⟩ := hI
  unfold Wat Src Bal Clk vol cld clk fX2_balanceOf at *
  refine ⟨hB, ?_, ?_, ?_, ?_⟩
  · unfold Wat vol cld clk; rw [h0, h6, h7]; exact h2
  · unfold Src; rw [h1]; exact h3
  · unfold Bal fX2_balanceOf; rw [h6, h8, h9, h10]; exact h4
  · unfold Clk clk; rw [h0]; exact h5
theorem Bnd_eq {S S' : xS} (h4 : S' 4 = S 4) (h5 : S' 5 = S 5) (h11 : S' 11 = S 11) (h12 : S' 12 = S 12) (h : Bnd S) : Bnd S' := by
  unfold Bnd at *
  rw [h4, h5, h11, h12]
  exact h
theorem xrange {a lo hi : Int32} (h : ¬ a < lo ∧ a ≤ hi) : lo.toInt ≤ a.toInt ∧ a.toInt ≤ hi.toInt := by
  obtain ⟨h1, h2⟩ := h
  rw [Int32.lt_iff_toInt_lt] at h1
  rw [Int32.le_iff_toInt_le] at h2
  omega
theorem xu_row {S : xS} {f : Nat} {r v i : Int32} : xu S f 0 r v f 0 i = if i = r then v else S f 0 i := by
  rw [xu_self]
  simp
theorem xu_id {S : xS} {f : Nat} {r i : Int32} : xu S f r i (S f r i) = S := by
  funext f' r' i'
  unfold xu
  by_cases h : f' = f
  · subst h
    rw [if_pos rfl]
    by_cases h2 : r' = r ∧ i' = i
    · simp only [h2, and_self, if_true]
    · simp only [if_neg h2]
  · rw [if_neg h]
theorem isOne_1 {a : Int32} (h : vp_in a 8) : ¬ fX4_isOne a = 0 := fun z => isOne_0.mp z h
theorem isIn_1 {a lo hi : Int32} (h : ¬ a < lo ∧ a ≤ hi) : ¬ fX4_isIn a lo hi = 0 := fun z => isIn_0.mp z h
theorem Rel_M {c : Nat} {S M : xS} {v : Int32} (h : Rel c S M) : Rel (c + 1) S (xu M 0 0 (nI 29) v) := ⟨AA_thrown h.1, h.2.1.mono, Stk_eq h.2.2 rfl (xu_nf (by decide))⟩
theorem Rel.hA {c : Nat} {S M : xS} (h : Rel c S M) : ∀ r, vp_in r 8 → ¬ M 1 0 r = (0 : Int32) := fun r hr z => by
  obtain ⟨j, hj, rfl⟩ := xin_j hr
  have h1 := (h.2.1.1 j hj).1.1
  rw [h.1.one (f := 4) (g := 1) (by decide) hr, z] at h1
  exact absurd h1 (by decide)
theorem asks_1 {a : Int32} {M : xS} (h : vp_in a 8) : fX4_asks a M = (xu M 0 0 (nI 29) 0, 1) := by
  unfold fX4_asks
  rw [if_neg (isOne_1 h)]
theorem asks_0 {a : Int32} {M : xS} (h : ¬ vp_in a 8) : fX4_asks a M = (xu M 0 0 (nI 29) 1, 0) := by
  unfold fX4_asks
  rw [if_pos (isOne_0.mpr h)]
theorem ask_1 {a b : Int32} {M : xS} (h : vp_in a 8) (h2 : vp_in b 8) : fX4_ask a b M = (xu M 0 0 (nI 29) 0, 1) := by
  unfold fX4_ask
  rw [if_neg (isOne_1 h), if_neg (isOne_1 h2)]
theorem ask_0 {a b : Int32} {M : xS} (h : ¬ (vp_in a 8 ∧ vp_in b 8)) : fX4_ask a b M = (xu M 0 0 (nI 29) 1, 0) := by
  unfold fX4_ask
  by_cases h1 : vp_in a 8
  · rw [if_neg (isOne_1 h1), if_pos (isOne_0.mpr (fun z => h ⟨h1, z⟩))]
  · rw [if_pos (isOne_0.mpr h1)]
theorem Bnd_4 {S : xS} {r v : Int32} (h : Bnd S) (hr : vp_in r 8) (hv : 1 ≤ v.toInt ∧ v.toInt ≤ 100) : Bnd (xu S 4 0 r v) := by
  intro j hj
  obtain ⟨b4, b5, b11, b12⟩ := h j hj
  refine ⟨?_, ?_, ?_, ?_⟩
  · rw [xu_row]
    split
    · exact hv
    · exact b4
  · rw [xu_ne (by decide)]
    exact b5
  · rw [xu_ne (by decide)]
    exact b11
  · rw [xu_ne (by decide)]
    exact b12
theorem Bnd_5 {S : xS} {r v : Int32} (h : Bnd S) (hr : vp_in r 8) (hv : 1 ≤ v.toInt ∧ v.toInt ≤ 1000) : Bnd (xu S 5 0 r v) := by
  intro j hj
  obtain ⟨b4, b5, b11, b12⟩ := h j hj
  refine ⟨?_, ?_, ?_, ?_⟩
  · rw [xu_ne (by decide)]
    exact b4
  · rw [xu_row]
    split
    · exact hv
    · exact b5
  · rw [xu_ne (by decide)]
    exact b11
  · rw [xu_ne (by decide)]
    exact b12
theorem Bnd_11 {S : xS} {r v : Int32} (h : Bnd S) (hr : vp_in r 8) (hv : 1 ≤ v.toInt ∧ v.toInt ≤ 50) : Bnd (xu S 11 0 r v) := by
  intro j hj
  obtain ⟨b4, b5, b11, b12⟩ := h j hj
  refine ⟨?_, ?_, ?_, ?_⟩
  · rw [xu_ne (by decide)]
    exact b4
  · rw [xu_ne (by decide)]
    exact b5
  · rw [xu_row]
    split
    · exact hv
    · exact b11
  · rw [xu_ne (by decide)]
    exact b12
theorem Bnd_12 {S : xS} {r v : Int32} (h : Bnd S) (hr : vp_in r 8) (hv : 0 ≤ v.toInt ∧ v.toInt ≤ 10) : Bnd (xu S 12 0 r v) := by
  intro j hj
  obtain ⟨b4, b5, b11, b12⟩ := h j hj
  refine ⟨?_, ?_, ?_, ?_⟩
  · rw [xu_ne (by decide)]
    exact b4
  · rw [xu_ne (by decide)]
    exact b5
  · rw [xu_ne (by decide)]
    exact b11
  · rw [xu_row]
    split
    · exact hv
    · exact b12
theorem Inv_src {c : Nat} {S : xS} {v : Int32} (hI : Inv c S) (hv : 0 ≤ v.toInt ∧ v.toInt ≤ 1000) : Inv c (xu S 1 0 (nI 7) v) := by
  obtain ⟨h1, h2, h3, h4, h5⟩ := hI
  refine ⟨?_, ?_, ?_, ?_, ?_⟩
  · unfold Bnd at *; (repeat rw [xu_nf (by decide)]); exact h1
  · unfold Wat vol cld clk at *; (repeat rw [xu_nf (by decide)]); exact h2
  · unfold Src; rw [xu_same]; exact hv
  · unfold Bal fX2_balanceOf at *; (repeat rw [xu_nf (by decide)]); exact h4
  · unfold Clk clk at *; (repeat rw [xu_nf (by decide)]); exact h5
theorem sum8_upd (g : Nat → Int) (v : Int) {i : Nat} (hi : i < 8) : sum8 (fun j => if j = i then v else g j) = sum8 g - g i + v := by
  unfold sum8
  match i, hi with
  | 0, _ => simp; omega
  | 1, _ => simp; omega
  | 2, _ => simp; omega
  | 3, _ => simp; omega
  | 4, _ => simp; omega
  | 5, _ => simp; omega
  | 6, _ => simp; omega
  | 7, _ => simp
  | j + 8, hj => exact absurd hj (by omega)
theorem sum8_cong {g g' : Nat → Int} (h : ∀ j, j < 8 → g j = g' j) : sum8 g = sum8 g' := by
  unfold sum8
  rw [h 0 (by decide), h 1 (by decide), h 2 (by decide), h 3 (by decide), h 4 (by decide), h 5 (by decide), h 6 (by decide), h 7 (by decide)]
theorem sum8_pos {g : Nat → Int} (h : ∀ j, j < 8 → 0 ≤ g j) : 0 ≤ sum8 g := by
  unfold sum8
  have h0 := h 0 (by decide)
  have h1 := h 1 (by decide)
  have h2 := h 2 (by decide)
  have h3 := h 3 (by decide)
  have h4 := h 4 (by decide)
  have h5 := h 5 (by decide)
  have h6 := h 6 (by decide)
  have h7 := h 7 (by decide)
  omega
theorem sum8_le {g : Nat → Int} (h : ∀ j, j < 8 → 0 ≤ g j) {i : Nat} (hi : i < 8) : g i ≤ sum8 g := by
  have h0 := h 0 (by decide)
  have h1 := h 1 (by decide)
  have h2 := h 2 (by decide)
  have h3 := h 3 (by decide)
  have h4 := h 4 (by decide)
  have h5 := h 5 (by decide)
  have h6 := h 6 (by decide)
  have h7 := h 7 (by decide)
  unfold sum8
  match i, hi with
  | 0, _ => omega
  | 1, _ => omega
  | 2, _ => omega
  | 3, _ => omega
  | 4, _ => omega
  | 5, _ => omega
  | 6, _ => omega
  | 7, _ => omega
  | j + 8, hj => exact absurd hj (by omega)
theorem Inv_rain {c : Nat} {S : xS} {r v : Int32} (hI : Inv c S) (hr : vp_in r 8) (hv : 1 ≤ v.toInt ∧ v.toInt ≤ 10000) (hc : c < 512) : Inv (c + 1) (xu S 7 0 r (S 7 0 r + v)) := by
  obtain ⟨h1, ⟨h2, h2s⟩, h3, h4, h5⟩ := hI
  obtain ⟨i, hi, rfl⟩ := xin_j hr
  have b1 := sum8_le (fun j hj => (h2 j hj).2) hi
  have b2 := sum8_pos (fun j hj => (h2 j hj).1)
  have b3 := (h2 i hi).2
  have hck : clk (xu S 7 0 (nI i) (S 7 0 (nI i) + v)) = clk S := by unfold clk; rw [xu_nf (by decide)]
  have h5' := h5
  unfold Clk at h5'
  have ea : (S 7 0 (nI i) + v).toInt = cld S i + v.toInt := by
    have hd : cld S i = (S 7 0 (nI i)).toInt := rfl
    rw [xtadd (by omega) (by omega), hd]
  have ec : ∀ j, j < 8 → cld (xu S 7 0 (nI i) (S 7 0 (nI i) + v)) j = if j = i then cld S i + v.toInt else cld S j := fun j hj => by
    show (xu S 7 0 (nI i) (S 7 0 (nI i) + v) 7 0 (nI j)).toInt = _
    rw [xu_row]
    by_cases h : j = i
    · rw [if_pos (by rw [h]), if_pos h, ea]
    · rw [if_neg (fun z => h ((xnj hj hi).mp z)), if_neg h]; rfl
  have ev : vol (xu S 7 0 (nI i) (S 7 0 (nI i) + v)) = vol S := by unfold vol; rw [xu_nf (by decide)]
  refine ⟨Bnd_eq (xu_nf (by decide)) (xu_nf (by decide)) (xu_nf (by decide)) (xu_nf (by decide)) h1, ⟨fun j hj => ⟨by rw [ev]; exact (h2 j hj).1, ?_⟩, ?_⟩, ?_, ?_, ?_⟩
  · rw [ec j hj]
    split
    · omega
    · exact (h2 j hj).2
  · rw [ev, sum8_cong ec, sum8_upd _ _ hi, hck]
    omega
  · unfold Src; rw [xu_nf (by decide)]; exact h3
  · unfold Bal fX2_balanceOf at *; (repeat rw [xu_nf (by decide)]); exact h4
  · unfold Clk; rw [hck]; exact h5
set_option maxHeartbeats 4000000 in
theorem s_shape : sim_shape Rel := by
  intro c S M o a1 a2 a3 hc hR
  have hA := hR.1
  have hI := hR.2.1
  by_cases c1 : vp_in a1 8
  · by_cases c2 : ¬ a2 < (1 : Int32) ∧ a2 ≤ (100 : Int32)
    · by_cases c3 : ¬ a3 < (1 : Int32) ∧ a3 ≤ (1000 : Int32)
      · have e : fX4_shape a1 a2 a3 M = (xu (xu (xu M 0 0 (nI 29) (0 : Int32)) 1 0 a1 a2) 2 0 a1 a3) := by
          unfold fX4_shape
          rw [if_neg (isOne_1 c1), if_neg (isIn_1 c2), if_neg (isIn_1 c3)]
        have e1 := e
        exact ⟨0, (fX3_shape a1 a2 a3 S), o, (fX4_shape a1 a2 a3 M), (0 : Int32), 2, 42, Or.inl ⟨⟨c1, c2, c3⟩, rfl, rfl, rfl⟩, by decide, by decide, (fun l Gm hap => kX4_shape l hap a1 a2 a3 M), by rw [e1]; exact (by rw [xu_ne (by decide), xu_ne (by decide), xu_same]), ⟨by rw [e1]; exact AA_1 (f := 5) (g := 2) (by decide) (AA_1 (f := 4) (g := 1) (by decide) (AA_thrown hA)), Inv_B (by (try unfold fX3_shape); (try dsimp only); (repeat rw [xu_nf (by decide)])) (by (try unfold fX3_shape); (try dsimp only); (repeat rw [xu_nf (by decide)])) (by (try unfold fX3_shape); (try dsimp only); (repeat rw [xu_nf (by decide)])) (by (try unfold fX3_shape); (try dsimp only); (repeat rw [xu_nf (by decide)])) (by (try unfold fX3_shape); (try dsimp only); (repeat rw [xu_nf (by decide)])) (by (try unfold fX3_shape); (try dsimp only); (repeat rw [xu_nf (by decide)])) (by (try unfold fX3_shape); (try dsimp only); (repeat rw [xu_nf (by decide)])) (Bnd_5 (Bnd_4 hI.1 c1 (xrange c2)) c1 (xrange c3)) hI.mono, by rw [e1]; exact Stk_eq hR.2.2 (by (try unfold fX3_shape); (try dsimp only); (repeat rw [xu_nf (by decide)])) (by (repeat rw [xu_nf (by decide)]))⟩⟩
      · have e : fX4_shape a1 a2 a3 M = (xu M 0 0 (nI 29) (1 : Int32)) := by
          unfold fX4_shape
          rw [if_neg (isOne_1 c1), if_neg (isIn_1 c2), if_pos (isIn_0.mpr c3)]
        have e1 := e
        exact ⟨1, S, o, (fX4_shape a1 a2 a3 M), (0 : Int32), 2, 42, Or.inr ⟨fun h => c3 h.2.2, rfl, rfl, rfl⟩, by decide, by decide, (fun l Gm hap => kX4_shape l hap a1 a2 a3 M), by rw [e1]; exact xu_same, by rw [e1]; exact Rel_M hR⟩
    · have e : fX4_shape a1 a2 a3 M = (xu M 0 0 (nI 29) (1 : Int32)) := by
        unfold fX4_shape
        rw [if_neg (isOne_1 c1), if_pos (isIn_0.mpr c2)]
      have e1 := e
      exact ⟨1, S, o, (fX4_shape a1 a2 a3 M), (0 : Int32), 2, 42, Or.inr ⟨fun h => c2 h.2.1, rfl, rfl, rfl⟩, by decide, by decide, (fun l Gm hap => kX4_shape l hap a1 a2 a3 M), by rw [e1]; exact xu_same, by rw [e1]; exact Rel_M hR⟩
  · have e : fX4_shape a1 a2 a3 M = (xu M 0 0 (nI 29) (1 : Int32)) := by
      unfold fX4_shape
      rw [if_pos (isOne_0.mpr c1)]
    have e1 := e
    exact ⟨1, S, o, (fX4_shape a1 a2 a3 M), (0 : Int32), 2, 42, Or.inr ⟨fun h => c1 h.1, rfl, rfl, rfl⟩, by decide, by decide, (fun l Gm hap => kX4_shape l hap a1 a2 a3 M), by rw [e1]; exact xu_same, by rw [e1]; exact Rel_M hR⟩
set_option maxHeartbeats 4000000 in
theorem s_setGauge : sim_setGauge Rel := by
  intro c S M o a1 a2 hc hR
  have hA := hR.1
  have hI := hR.2.1
  by_cases c1 : vp_in a1 8
  · by_cases c2 : ¬ a2 < (1 : Int32) ∧ a2 ≤ (50 : Int32)
    · have e : fX4_setGauge a1 a2 M = ((xu (xu M 0 0 (nI 29) (0 : Int32)) 5 0 a1 a2), M 5 0 a1) := by
        unfold fX4_setGauge
        rw [if_neg (isOne_1 c1), if_neg (isIn_1 c2)]
      have e1 : (fX4_setGauge a1 a2 M).1 = (xu (xu M 0 0 (nI 29) (0 : Int32)) 5 0 a1 a2) := xfst e
      have e2 : (fX4_setGauge a1 a2 M).2 = M 5 0 a1 := xsnd e
      exact ⟨0, (fX3_setGauge a1 a2 S).1, (fX3_setGauge a1 a2 S).2.toInt64, (fX4_setGauge a1 a2 M).1, (fX4_setGauge a1 a2 M).2, 2, 42, Or.inl ⟨⟨c1, c2⟩, rfl, rfl, rfl⟩, by decide, by decide, (fun l Gm hap => kX4_setGauge l hap a1 a2 M), by rw [e1]; exact (by rw [xu_ne (by decide), xu_same]), (fun _ => by rw [e2]; exact congrArg Int32.toInt64 (hA.one (f := 11) (g := 5) (by decide) c1)), ⟨by rw [e1]; exact AA_1 (f := 11) (g := 5) (by decide) (AA_thrown hA), Inv_B (by (try unfold fX3_setGauge); (try dsimp only); (repeat rw [xu_nf (by decide)])) (by (try unfold fX3_setGauge); (try dsimp only); (repeat rw [xu_nf (by decide)])) (by (try unfold fX3_setGauge); (try dsimp only); (repeat rw [xu_nf (by decide)])) (by (try unfold fX3_setGauge); (try dsimp only); (repeat rw [xu_nf (by decide)])) (by (try unfold fX3_setGauge); (try dsimp only); (repeat rw [xu_nf (by decide)])) (by (try unfold fX3_setGauge); (try dsimp only); (repeat rw [xu_nf (by decide)])) (by (try unfold fX3_setGauge); (try dsimp only); (repeat rw [xu_nf (by decide)])) (Bnd_11 hI.1 c1 (xrange c2)) hI.mono, by rw [e1]; exact Stk_eq hR.2.2 (by (try unfold fX3_setGauge); (try dsimp only); (repeat rw [xu_nf (by decide)])) (by (repeat rw [xu_nf (by decide)]))⟩⟩
    · have e : fX4_setGauge a1 a2 M = ((xu M 0 0 (nI 29) (1 : Int32)), (0 : Int32)) := by
        unfold fX4_setGauge
        rw [if_neg (isOne_1 c1), if_pos (isIn_0.mpr c2)]
      have e1 : (fX4_setGauge a1 a2 M).1 = (xu M 0 0 (nI 29) (1 : Int32)) := xfst e
      have e2 : (fX4_setGauge a1 a2 M).2 = (0 : Int32) := xsnd e
      exact ⟨1, S, o, (fX4_setGauge a1 a2 M).1, (fX4_setGauge a1 a2 M).2, 2, 42, Or.inr ⟨fun h => c2 h.2, rfl, rfl, rfl⟩, by decide, by decide, (fun l Gm hap => kX4_setGauge l hap a1 a2 M), by rw [e1]; exact xu_same, (fun h => absurd h (by decide)), by rw [e1]; exact Rel_M hR⟩
  · have e : fX4_setGauge a1 a2 M = ((xu M 0 0 (nI 29) (1 : Int32)), (0 : Int32)) := by
      unfold fX4_setGauge
      rw [if_pos (isOne_0.mpr c1)]
    have e1 : (fX4_setGauge a1 a2 M).1 = (xu M 0 0 (nI 29) (1 : Int32)) := xfst e
    have e2 : (fX4_setGauge a1 a2 M).2 = (0 : Int32) := xsnd e
    exact ⟨1, S, o, (fX4_setGauge a1 a2 M).1, (fX4_setGauge a1 a2 M).2, 2, 42, Or.inr ⟨fun h => c1 h.1, rfl, rfl, rfl⟩, by decide, by decide, (fun l Gm hap => kX4_setGauge l hap a1 a2 M), by rw [e1]; exact xu_same, (fun h => absurd h (by decide)), by rw [e1]; exact Rel_M hR⟩
set_option maxHeartbeats 4000000 in
theorem s_setRule : sim_setRule Rel := by
  intro c S M o a1 a2 a3 a4 a5 hc hR
  have hA := hR.1
  have hI := hR.2.1
  by_cases c1 : vp_in a1 8
  · by_cases c2 : ¬ a2 < (0 : Int32) ∧ a2 ≤ (1000 : Int32)
    · by_cases c3 : ¬ a3 < a2 ∧ a3 ≤ (1000 : Int32)
      · by_cases c4 : ¬ a4 < (0 : Int32) ∧ a4 ≤ (1000 : Int32)
        · by_cases c5 : ¬ a5 < (0 : Int32) ∧ a5 ≤ (100 : Int32)
          · have e : fX4_setRule a1 a2 a3 a4 a5 M = (xu (xu (xu (xu (xu M 0 0 (nI 29) (0 : Int32)) 10 0 a1 a2) 11 0 a1 a3) 12 0 a1 a4) 13 0 a1 a5) := by
              unfold fX4_setRule
              rw [if_neg (isOne_1 c1), if_neg (isIn_1 c2), if_neg (isIn_1 c3), if_neg (isIn_1 c4), if_neg (isIn_1 c5)]
            have e1 := e
            exact ⟨0, (fX3_setRule a1 a2 a3 a4 a5 S), o, (fX4_setRule a1 a2 a3 a4 a5 M), (0 : Int32), 2, 42, Or.inl ⟨⟨c1, c2, c3, c4, c5⟩, rfl, rfl, rfl⟩, by decide, by decide, (fun l Gm hap => kX4_setRule l hap a1 a2 a3 a4 a5 M), by rw [e1]; exact (by rw [xu_ne (by decide), xu_ne (by decide), xu_ne (by decide), xu_ne (by decide), xu_same]), ⟨by rw [e1]; exact AA_1 (f := 16) (g := 13) (by decide) (AA_1 (f := 15) (g := 12) (by decide) (AA_1 (f := 14) (g := 11) (by decide) (AA_1 (f := 13) (g := 10) (by decide) (AA_thrown hA)))), Inv_B (by (try unfold fX3_setRule); (try dsimp only); (repeat rw [xu_nf (by decide)])) (by (try unfold fX3_setRule); (try dsimp only); (repeat rw [xu_nf (by decide)])) (by (try unfold fX3_setRule); (try dsimp only); (repeat rw [xu_nf (by decide)])) (by (try unfold fX3_setRule); (try dsimp only); (repeat rw [xu_nf (by decide)])) (by (try unfold fX3_setRule); (try dsimp only); (repeat rw [xu_nf (by decide)])) (by (try unfold fX3_setRule); (try dsimp only); (repeat rw [xu_nf (by decide)])) (by (try unfold fX3_setRule); (try dsimp only); (repeat rw [xu_nf (by decide)])) (Bnd_eq (by (try unfold fX3_setRule); (try dsimp only); (repeat rw [xu_nf (by decide)])) (by (try unfold fX3_setRule); (try dsimp only); (repeat rw [xu_nf (by decide)])) (by (try unfold fX3_setRule); (try dsimp only); (repeat rw [xu_nf (by decide)])) (by (try unfold fX3_setRule); (try dsimp only); (repeat rw [xu_nf (by decide)])) hI.1) hI.mono, by rw [e1]; exact Stk_eq hR.2.2 (by (try unfold fX3_setRule); (try dsimp only); (repeat rw [xu_nf (by decide)])) (by (repeat rw [xu_nf (by decide)]))⟩⟩
          · have e : fX4_setRule a1 a2 a3 a4 a5 M = (xu M 0 0 (nI 29) (1 : Int32)) := by
              unfold fX4_setRule
              rw [if_neg (isOne_1 c1), if_neg (isIn_1 c2), if_neg (isIn_1 c3), if_neg (isIn_1 c4), if_pos (isIn_0.mpr c5)]
            have e1 := e
            exact ⟨1, S, o, (fX4_setRule a1 a2 a3 a4 a5 M), (0 : Int32), 2, 42, Or.inr ⟨fun h => c5 h.2.2.2.2, rfl, rfl, rfl⟩, by decide, by decide, (fun l Gm hap => kX4_setRule l hap a1 a2 a3 a4 a5 M), by rw [e1]; exact xu_same, by rw [e1]; exact Rel_M hR⟩
        · have e : fX4_setRule a1 a2 a3 a4 a5 M = (xu M 0 0 (nI 29) (1 : Int32)) := by
            unfold fX4_setRule
            rw [if_neg (isOne_1 c1), if_neg (isIn_1 c2), if_neg (isIn_1 c3), if_pos (isIn_0.mpr c4)]
          have e1 := e
          exact ⟨1, S, o, (fX4_setRule a1 a2 a3 a4 a5 M), (0 : Int32), 2, 42, Or.inr ⟨fun h => c4 h.2.2.2.1, rfl, rfl, rfl⟩, by decide, by decide, (fun l Gm hap => kX4_setRule l hap a1 a2 a3 a4 a5 M), by rw [e1]; exact xu_same, by rw [e1]; exact Rel_M hR⟩
      · have e : fX4_setRule a1 a2 a3 a4 a5 M = (xu M 0 0 (nI 29) (1 : Int32)) := by
          unfold fX4_setRule
          rw [if_neg (isOne_1 c1), if_neg (isIn_1 c2), if_pos (isIn_0.mpr c3)]
        have e1 := e
        exact ⟨1, S, o, (fX4_setRule a1 a2 a3 a4 a5 M), (0 : Int32), 2, 42, Or.inr ⟨fun h => c3 h.2.2.1, rfl, rfl, rfl⟩, by decide, by decide, (fun l Gm hap => kX4_setRule l hap a1 a2 a3 a4 a5 M), by rw [e1]; exact xu_same, by rw [e1]; exact Rel_M hR⟩
    · have e : fX4_setRule a1 a2 a3 a4 a5 M = (xu M 0 0 (nI 29) (1 : Int32)) := by
        unfold fX4_setRule
        rw [if_neg (isOne_1 c1), if_pos (isIn_0.mpr c2)]
      have e1 := e
      exact ⟨1, S, o, (fX4_setRule a1 a2 a3 a4 a5 M), (0 : Int32), 2, 42, Or.inr ⟨fun h => c2 h.2.1, rfl, rfl, rfl⟩, by decide, by decide, (fun l Gm hap => kX4_setRule l hap a1 a2 a3 a4 a5 M), by rw [e1]; exact xu_same, by rw [e1]; exact Rel_M hR⟩
  · have e : fX4_setRule a1 a2 a3 a4 a5 M = (xu M 0 0 (nI 29) (1 : Int32)) := by
      unfold fX4_setRule
      rw [if_pos (isOne_0.mpr c1)]
    have e1 := e
    exact ⟨1, S, o, (fX4_setRule a1 a2 a3 a4 a5 M), (0 : Int32), 2, 42, Or.inr ⟨fun h => c1 h.1, rfl, rfl, rfl⟩, by decide, by decide, (fun l Gm hap => kX4_setRule l hap a1 a2 a3 a4 a5 M), by rw [e1]; exact xu_same, by rw [e1]; exact Rel_M hR⟩
set_option maxHeartbeats 4000000 in
theorem s_setGroup : sim_setGroup Rel := by
  intro c S M o a1 a2 hc hR
  have hA := hR.1
  have hI := hR.2.1
  by_cases c1 : vp_in a1 8
  · by_cases c2 : ¬ a2 < (0 : Int32) ∧ a2 ≤ (3 : Int32)
    · have e : fX4_setGroup a1 a2 M = ((xu (xu M 0 0 (nI 29) (0 : Int32)) 17 0 a1 a2), M 17 0 a1) := by
        unfold fX4_setGroup
        rw [if_neg (isOne_1 c1), if_neg (isIn_1 c2)]
      have e1 : (fX4_setGroup a1 a2 M).1 = (xu (xu M 0 0 (nI 29) (0 : Int32)) 17 0 a1 a2) := xfst e
      have e2 : (fX4_setGroup a1 a2 M).2 = M 17 0 a1 := xsnd e
      exact ⟨0, (fX3_setGroup a1 a2 S).1, (fX3_setGroup a1 a2 S).2.toInt64, (fX4_setGroup a1 a2 M).1, (fX4_setGroup a1 a2 M).2, 2, 42, Or.inl ⟨⟨c1, c2⟩, rfl, rfl, rfl⟩, by decide, by decide, (fun l Gm hap => kX4_setGroup l hap a1 a2 M), by rw [e1]; exact (by rw [xu_ne (by decide), xu_same]), (fun _ => by rw [e2]; exact congrArg Int32.toInt64 (hA.one (f := 21) (g := 17) (by decide) c1)), ⟨by rw [e1]; exact AA_1 (f := 21) (g := 17) (by decide) (AA_thrown hA), Inv_B (by (try unfold fX3_setGroup); (try dsimp only); (repeat rw [xu_nf (by decide)])) (by (try unfold fX3_setGroup); (try dsimp only); (repeat rw [xu_nf (by decide)])) (by (try unfold fX3_setGroup); (try dsimp only); (repeat rw [xu_nf (by decide)])) (by (try unfold fX3_setGroup); (try dsimp only); (repeat rw [xu_nf (by decide)])) (by (try unfold fX3_setGroup); (try dsimp only); (repeat rw [xu_nf (by decide)])) (by (try unfold fX3_setGroup); (try dsimp only); (repeat rw [xu_nf (by decide)])) (by (try unfold fX3_setGroup); (try dsimp only); (repeat rw [xu_nf (by decide)])) (Bnd_eq (by (try unfold fX3_setGroup); (try dsimp only); (repeat rw [xu_nf (by decide)])) (by (try unfold fX3_setGroup); (try dsimp only); (repeat rw [xu_nf (by decide)])) (by (try unfold fX3_setGroup); (try dsimp only); (repeat rw [xu_nf (by decide)])) (by (try unfold fX3_setGroup); (try dsimp only); (repeat rw [xu_nf (by decide)])) hI.1) hI.mono, by rw [e1]; exact Stk_eq hR.2.2 (by (try unfold fX3_setGroup); (try dsimp only); (repeat rw [xu_nf (by decide)])) (by (repeat rw [xu_nf (by decide)]))⟩⟩
    · have e : fX4_setGroup a1 a2 M = ((xu M 0 0 (nI 29) (1 : Int32)), (0 : Int32)) := by
        unfold fX4_setGroup
        rw [if_neg (isOne_1 c1), if_pos (isIn_0.mpr c2)]
      have e1 : (fX4_setGroup a1 a2 M).1 = (xu M 0 0 (nI 29) (1 : Int32)) := xfst e
      have e2 : (fX4_setGroup a1 a2 M).2 = (0 : Int32) := xsnd e
      exact ⟨1, S, o, (fX4_setGroup a1 a2 M).1, (fX4_setGroup a1 a2 M).2, 2, 42, Or.inr ⟨fun h => c2 h.2, rfl, rfl, rfl⟩, by decide, by decide, (fun l Gm hap => kX4_setGroup l hap a1 a2 M), by rw [e1]; exact xu_same, (fun h => absurd h (by decide)), by rw [e1]; exact Rel_M hR⟩
  · have e : fX4_setGroup a1 a2 M = ((xu M 0 0 (nI 29) (1 : Int32)), (0 : Int32)) := by
      unfold fX4_setGroup
      rw [if_pos (isOne_0.mpr c1)]
    have e1 : (fX4_setGroup a1 a2 M).1 = (xu M 0 0 (nI 29) (1 : Int32)) := xfst e
    have e2 : (fX4_setGroup a1 a2 M).2 = (0 : Int32) := xsnd e
    exact ⟨1, S, o, (fX4_setGroup a1 a2 M).1, (fX4_setGroup a1 a2 M).2, 2, 42, Or.inr ⟨fun h => c1 h.1, rfl, rfl, rfl⟩, by decide, by decide, (fun l Gm hap => kX4_setGroup l hap a1 a2 M), by rw [e1]; exact xu_same, (fun h => absurd h (by decide)), by rw [e1]; exact Rel_M hR⟩
set_option maxHeartbeats 4000000 in
theorem s_setTimes : sim_setTimes Rel := by
  intro c S M o a1 a2 hc hR
  have hA := hR.1
  have hI := hR.2.1
  by_cases c1 : ¬ a1 < (1 : Int32) ∧ a1 ≤ (50 : Int32)
  · by_cases c2 : ¬ a2 < a1 ∧ a2 ≤ (100 : Int32)
    · have e : fX4_setTimes a1 a2 M = (xu (xu (xu M 0 0 (nI 29) (0 : Int32)) 0 0 (nI 25) a1) 0 0 (nI 26) a2) := by
        unfold fX4_setTimes
        rw [if_neg (isIn_1 c1), if_neg (isIn_1 c2)]
      have e1 := e
      exact ⟨0, (fX3_setTimes a1 a2 S), o, (fX4_setTimes a1 a2 M), (0 : Int32), 1, 22, Or.inl ⟨⟨c1, c2⟩, rfl, rfl, rfl⟩, by decide, by decide, (fun l Gm hap => kX4_setTimes l hap a1 a2 M), by rw [e1]; exact (by rw [xu_ni (by decide), xu_ni (by decide), xu_same]), ⟨by rw [e1]; exact AA_dea (AA_sus (AA_thrown hA)), Inv_B (by (try unfold fX3_setTimes); (try dsimp only); (repeat rw [xu_nf (by decide)])) (by (try unfold fX3_setTimes); (try dsimp only); (repeat rw [xu_nf (by decide)])) (by (try unfold fX3_setTimes); (try dsimp only); (repeat rw [xu_nf (by decide)])) (by (try unfold fX3_setTimes); (try dsimp only); (repeat rw [xu_nf (by decide)])) (by (try unfold fX3_setTimes); (try dsimp only); (repeat rw [xu_nf (by decide)])) (by (try unfold fX3_setTimes); (try dsimp only); (repeat rw [xu_nf (by decide)])) (by (try unfold fX3_setTimes); (try dsimp only); (repeat rw [xu_nf (by decide)])) (Bnd_eq (by (try unfold fX3_setTimes); (try dsimp only); (repeat rw [xu_nf (by decide)])) (by (try unfold fX3_setTimes); (try dsimp only); (repeat rw [xu_nf (by decide)])) (by (try unfold fX3_setTimes); (try dsimp only); (repeat rw [xu_nf (by decide)])) (by (try unfold fX3_setTimes); (try dsimp only); (repeat rw [xu_nf (by decide)])) hI.1) hI.mono, by rw [e1]; exact Stk_eq hR.2.2 (by (try unfold fX3_setTimes); (try dsimp only); (repeat rw [xu_nf (by decide)])) (by (repeat rw [xu_nf (by decide)]))⟩⟩
    · have e : fX4_setTimes a1 a2 M = (xu M 0 0 (nI 29) (1 : Int32)) := by
        unfold fX4_setTimes
        rw [if_neg (isIn_1 c1), if_pos (isIn_0.mpr c2)]
      have e1 := e
      exact ⟨1, S, o, (fX4_setTimes a1 a2 M), (0 : Int32), 1, 22, Or.inr ⟨fun h => c2 h.2, rfl, rfl, rfl⟩, by decide, by decide, (fun l Gm hap => kX4_setTimes l hap a1 a2 M), by rw [e1]; exact xu_same, by rw [e1]; exact Rel_M hR⟩
  · have e : fX4_setTimes a1 a2 M = (xu M 0 0 (nI 29) (1 : Int32)) := by
      unfold fX4_setTimes
      rw [if_pos (isIn_0.mpr c1)]
    have e1 := e
    exact ⟨1, S, o, (fX4_setTimes a1 a2 M), (0 : Int32), 1, 22, Or.inr ⟨fun h => c1 h.1, rfl, rfl, rfl⟩, by decide, by decide, (fun l Gm hap => kX4_setTimes l hap a1 a2 M), by rw [e1]; exact xu_same, by rw [e1]; exact Rel_M hR⟩
set_option maxHeartbeats 4000000 in
theorem s_setSource : sim_setSource Rel := by
  intro c S M o a1 hc hR
  have hA := hR.1
  have hI := hR.2.1
  by_cases c1 : ¬ a1 < (0 : Int32) ∧ a1 ≤ (1000 : Int32)
  · have e : fX4_setSource a1 M = ((xu (xu M 0 0 (nI 29) (0 : Int32)) 0 0 (nI 9) a1), M 0 0 (nI 9)) := by
      unfold fX4_setSource
      rw [if_neg (isIn_1 c1)]
    have e1 : (fX4_setSource a1 M).1 = (xu (xu M 0 0 (nI 29) (0 : Int32)) 0 0 (nI 9) a1) := xfst e
    have e2 : (fX4_setSource a1 M).2 = M 0 0 (nI 9) := xsnd e
    exact ⟨0, (fX3_setSource a1 S).1, (fX3_setSource a1 S).2.toInt64, (fX4_setSource a1 M).1, (fX4_setSource a1 M).2, 1, 22, Or.inl ⟨c1, rfl, rfl, rfl⟩, by decide, by decide, (fun l Gm hap => kX4_setSource l hap a1 M), by rw [e1]; exact (by rw [xu_ni (by decide), xu_same]), (fun _ => by rw [e2]; exact congrArg Int32.toInt64 (hA.1.1)), ⟨by rw [e1]; exact AA_src (AA_thrown hA), Inv_src hI.mono (xrange c1), by rw [e1]; exact Stk_eq hR.2.2 (by (try unfold fX3_setSource); (try dsimp only); (repeat rw [xu_nf (by decide)])) (by (repeat rw [xu_nf (by decide)]))⟩⟩
  · have e : fX4_setSource a1 M = ((xu M 0 0 (nI 29) (1 : Int32)), (0 : Int32)) := by
      unfold fX4_setSource
      rw [if_pos (isIn_0.mpr c1)]
    have e1 : (fX4_setSource a1 M).1 = (xu M 0 0 (nI 29) (1 : Int32)) := xfst e
    have e2 : (fX4_setSource a1 M).2 = (0 : Int32) := xsnd e
    exact ⟨1, S, o, (fX4_setSource a1 M).1, (fX4_setSource a1 M).2, 1, 22, Or.inr ⟨fun h => c1 h, rfl, rfl, rfl⟩, by decide, by decide, (fun l Gm hap => kX4_setSource l hap a1 M), by rw [e1]; exact xu_same, (fun h => absurd h (by decide)), by rw [e1]; exact Rel_M hR⟩
set_option maxHeartbeats 4000000 in
theorem s_rain : sim_rain Rel := by
  intro c S M o a1 a2 hc hR
  have hA := hR.1
  have hI := hR.2.1
  by_cases c1 : vp_in a1 8
  · by_cases c2 : ¬ a2 < (1 : Int32) ∧ a2 ≤ (10000 : Int32)
    · have e : fX4_rain a1 a2 M = ((xu (xu M 0 0 (nI 29) (0 : Int32)) 6 0 a1 (M 6 0 a1 + a2)), M 6 0 a1 + a2) := by
        unfold fX4_rain
        rw [if_neg (isOne_1 c1), if_neg (isIn_1 c2)]
      have e1 : (fX4_rain a1 a2 M).1 = (xu (xu M 0 0 (nI 29) (0 : Int32)) 6 0 a1 (M 6 0 a1 + a2)) := xfst e
      have e2 : (fX4_rain a1 a2 M).2 = M 6 0 a1 + a2 := xsnd e
      exact ⟨0, (fX3_rain a1 a2 S).1, (fX3_rain a1 a2 S).2.toInt64, (fX4_rain a1 a2 M).1, (fX4_rain a1 a2 M).2, 2, 42, Or.inl ⟨⟨c1, c2⟩, rfl, rfl, rfl⟩, by decide, by decide, (fun l Gm hap => kX4_rain l hap a1 a2 M), by rw [e1]; exact (by rw [xu_ne (by decide), xu_same]), (fun _ => by rw [e2]; exact congrArg Int32.toInt64 ((by show S 7 0 a1 + a2 = M 6 0 a1 + a2; rw [hA.one (f := 7) (g := 6) (by decide) c1]))), ⟨by rw [e1]; exact (by rw [← hA.one (f := 7) (g := 6) (by decide) c1]; exact AA_1 (f := 7) (g := 6) (by decide) (AA_thrown hA)), Inv_rain hI c1 (xrange c2) hc, by rw [e1]; exact Stk_eq hR.2.2 (by (try unfold fX3_rain); (try dsimp only); (repeat rw [xu_nf (by decide)])) (by (repeat rw [xu_nf (by decide)]))⟩⟩
    · have e : fX4_rain a1 a2 M = ((xu M 0 0 (nI 29) (1 : Int32)), (0 : Int32)) := by
        unfold fX4_rain
        rw [if_neg (isOne_1 c1), if_pos (isIn_0.mpr c2)]
      have e1 : (fX4_rain a1 a2 M).1 = (xu M 0 0 (nI 29) (1 : Int32)) := xfst e
      have e2 : (fX4_rain a1 a2 M).2 = (0 : Int32) := xsnd e
      exact ⟨1, S, o, (fX4_rain a1 a2 M).1, (fX4_rain a1 a2 M).2, 2, 42, Or.inr ⟨fun h => c2 h.2, rfl, rfl, rfl⟩, by decide, by decide, (fun l Gm hap => kX4_rain l hap a1 a2 M), by rw [e1]; exact xu_same, (fun h => absurd h (by decide)), by rw [e1]; exact Rel_M hR⟩
  · have e : fX4_rain a1 a2 M = ((xu M 0 0 (nI 29) (1 : Int32)), (0 : Int32)) := by
      unfold fX4_rain
      rw [if_pos (isOne_0.mpr c1)]
    have e1 : (fX4_rain a1 a2 M).1 = (xu M 0 0 (nI 29) (1 : Int32)) := xfst e
    have e2 : (fX4_rain a1 a2 M).2 = (0 : Int32) := xsnd e
    exact ⟨1, S, o, (fX4_rain a1 a2 M).1, (fX4_rain a1 a2 M).2, 2, 42, Or.inr ⟨fun h => c1 h.1, rfl, rfl, rfl⟩, by decide, by decide, (fun l Gm hap => kX4_rain l hap a1 a2 M), by rw [e1]; exact xu_same, (fun h => absurd h (by decide)), by rw [e1]; exact Rel_M hR⟩
