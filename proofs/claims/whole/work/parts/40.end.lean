/-! 40: one tick, and all (planend.py) -/
theorem KW_eq {B : Int} {S x : xS} (h6 : x 6 = S 6) (h7 : x 7 = S 7) (h8 : x 8 = S 8) (h9 : x 9 = S 9) (h10 : x 10 = S 10) (h : KW B S) : KW B x := by
  unfold KW Wat Bl inn vol cld at *
  rw [h6, h7, h8, h9, h10]
  exact h
def TK (B : Int) (n : Int) (S M x y : xS) : Prop := (AA x y ∧ Bnd x ∧ KW B x ∧ Src x) ∧ (clk x = n ∧ Stk x y) ∧ y 0 0 (nI 29) = M 0 0 (nI 29)
set_option maxHeartbeats 4000000 in
theorem tick_1 {B n : Int} {S M : xS} (hB : B + 5000 < 2147483648) (h : AA S M) (hb : Bnd S) (hk : KW B S) (hs : Src S) (hst : Stk S M) (hn : clk S = n) (h0 : 0 ≤ n) (h1 : n ≤ 4999) : TK (B + 1000) (n + 1) S M (fX3_passOneTick S).1 (fX4_ticks M).1 ∧ (fX3_passOneTick S).2 = (fX4_ticks M).2 := by
  have c1 : (fX3_passOneTick S).1 = sX3_passOneTick_74 S := xfst (rfl : fX3_passOneTick S = (_, _))
  have c2 : (fX3_passOneTick S).2 = (fX2_spillOver (sX3_passOneTick_25 S)).2 := xsnd (rfl : fX3_passOneTick S = (_, _))
  have m1 : (fX4_ticks M).1 = xfold bX4_ticks_37 8 (sX4_ticks_32 M) := xfst (rfl : fX4_ticks M = (_, _))
  have m2 : (fX4_ticks M).2 = (fX4_spills (sX4_ticks_15 M)).2 := xsnd (rfl : fX4_ticks M = (_, _))
  rw [c1, c2, m1, m2]
  -- the clock
  have a1 : AA (xu S 0 0 (nI 3) (S 0 0 (nI 3) + (1 : Int32))) (xu M 0 0 (nI 28) (M 0 0 (nI 28) + (1 : Int32))) := by
    rw [← h.1.2.2.2.2]
    exact AA_time h
  have k1 : KW B (xu S 0 0 (nI 3) (S 0 0 (nI 3) + (1 : Int32))) := KW_eq (xu_nf (by decide)) (xu_nf (by decide)) (xu_nf (by decide)) (xu_nf (by decide)) (xu_nf (by decide)) hk
  have s1 : Src (xu S 0 0 (nI 3) (S 0 0 (nI 3) + (1 : Int32))) := by
    unfold Src
    rw [xu_nf (by decide)]
    exact hs
  -- rain and source
  have a2 : AA (sX3_passOneTick_14 S) (sX4_ticks_11 M) := takeIn_AA a1
  have k2 : KW (B + 1000) (sX3_passOneTick_14 S) := KW_takeIn (by omega) k1 s1
  have f2 : ∀ f, f ≠ 0 → f ≠ 6 → f ≠ 7 → f ≠ 8 → sX3_passOneTick_14 S f = S f := fun f f0 f6 f7 f8 => (takeIn_keep f6 f7 f8).trans (xu_nf f0)
  have t2 : sX3_passOneTick_14 S 0 0 (nI 3) = S 0 0 (nI 3) + (1 : Int32) := by
    have e : sX3_passOneTick_14 S 0 = xu S 0 0 (nI 3) (S 0 0 (nI 3) + (1 : Int32)) 0 := takeIn_keep (by decide) (by decide) (by decide)
    rw [e, xu_same]
  have b2 : Bnd (sX3_passOneTick_14 S) := Bnd_eq (f2 4 (by decide) (by decide) (by decide) (by decide)) (f2 5 (by decide) (by decide) (by decide) (by decide)) (f2 11 (by decide) (by decide) (by decide) (by decide)) (f2 12 (by decide) (by decide) (by decide) (by decide)) hb
  have g2 : ∀ g, g ≠ 0 → g ≠ 3 → g ≠ 6 → sX4_ticks_11 M g = M g := fun g g0 g3 g6 => (falls_keep g3 g6).trans (xu_nf g0)
  have g20 : sX4_ticks_11 M 0 0 (nI 29) = M 0 0 (nI 29) := by
    have e : sX4_ticks_11 M 0 = xu M 0 0 (nI 28) (M 0 0 (nI 28) + (1 : Int32)) 0 := falls_keep (by decide) (by decide)
    rw [e, xu_ni (by decide)]
  -- the flow
  have a3 : AA (sX3_passOneTick_25 S) (sX4_ticks_15 M) := flow_AA a2
  have k3 : KW (B + 1000) (sX3_passOneTick_25 S) := KW_flow (by omega) b2 k2
  have f3 : ∀ f, f ≠ 6 → f ≠ 9 → sX3_passOneTick_25 S f = sX3_passOneTick_14 S f := (LT_all (sX3_passOneTick_14 S)).1
  have b3 : Bnd (sX3_passOneTick_25 S) := Bnd_eq (f3 4 (by decide) (by decide)) (f3 5 (by decide) (by decide)) (f3 11 (by decide) (by decide)) (f3 12 (by decide) (by decide)) b2
  have g3 : ∀ g, g ≠ 3 → g ≠ 7 → g ≠ 8 → sX4_ticks_15 M g = sX4_ticks_11 M g := (FM_all (sX4_ticks_11 M)).1
  -- the spill
  obtain ⟨⟨a4, e4⟩, k4, f4, g4⟩ := spill_2 (B := B + 1000) (by omega) b3 a3 k3
  have b4 : Bnd (sX3_passOneTick_32 S) := Bnd_eq (f4 4 (by decide) (by decide)) (f4 5 (by decide) (by decide)) (f4 11 (by decide) (by decide)) (f4 12 (by decide) (by decide)) b3
  have a4' : AA (sX3_passOneTick_32 S) (sX4_ticks_19 M) := a4
  -- measuring
  obtain ⟨a5, f5, g5⟩ := meas_2 a4' b4
  have t5 : sX3_passOneTick_48 S 0 0 (nI 3) = S 0 0 (nI 3) + (1 : Int32) := by
    have e1 : sX3_passOneTick_48 S 0 = sX3_passOneTick_32 S 0 := f5 0 (by decide) (by decide)
    have e2 : sX3_passOneTick_32 S 0 = sX3_passOneTick_25 S 0 := f4 0 (by decide) (by decide)
    rw [e1, e2, f3 0 (by decide) (by decide), t2]
  have tt : (S 0 0 (nI 3) + (1 : Int32)).toInt = n + 1 := by
    unfold clk at hn
    rw [xtadd (by rw [xt1]; omega) (by rw [xt1]; omega), xt1, hn]
  have hC : Clk (sX3_passOneTick_48 S) := by
    unfold Clk clk
    rw [t5, tt]
    omega
  -- calling
  obtain ⟨a6, f6, g6⟩ := calls_2 (S := sX3_passOneTick_48 S) (M := sX4_ticks_24 M) hC a5
  -- looking
  obtain ⟨a7, f7, g7⟩ := looks_2 (S := sX3_passOneTick_59 S) (M := sX4_ticks_28 M) a6
  have q7 : ∀ f, f < 28 → f ≠ 3 → sX3_passOneTick_70 S f = sX3_passOneTick_32 S f := fun f hf h3 => (f7 f (by omega)).trans ((f6 f hf h3).trans (f5 f hf h3))
  have b7 : Bnd (sX3_passOneTick_70 S) := Bnd_eq (q7 4 (by decide) (by decide)) (q7 5 (by decide) (by decide)) (q7 11 (by decide) (by decide)) (q7 12 (by decide) (by decide)) b4
  -- ruling
  obtain ⟨a8, b8, f8, g8⟩ := rules_2 (S := sX3_passOneTick_70 S) (M := sX4_ticks_32 M) a7 b7
  have q8 : ∀ f, f < 28 → f ≠ 3 → f ≠ 12 → f ≠ 17 → sX3_passOneTick_74 S f = sX3_passOneTick_32 S f := fun f hf h3 h12 h17 => (f8 f h12 h17).trans (q7 f hf h3)
  have q9 : ∀ f, f < 28 → f ≠ 0 → f ≠ 3 → f ≠ 6 → f ≠ 7 → f ≠ 8 → f ≠ 9 → f ≠ 10 → f ≠ 12 → f ≠ 17 → sX3_passOneTick_74 S f = S f := fun f hf h0 h3 h6 h7 h8 h9 h10 h12 h17 => (q8 f hf h3 h12 h17).trans ((f4 f h6 h10).trans ((f3 f h6 h9).trans (f2 f h0 h6 h7 h8)))
  refine ⟨⟨⟨a8, b8, KW_eq (q8 6 (by decide) (by decide) (by decide) (by decide)) (q8 7 (by decide) (by decide) (by decide) (by decide)) (q8 8 (by decide) (by decide) (by decide) (by decide)) (q8 9 (by decide) (by decide) (by decide) (by decide)) (q8 10 (by decide) (by decide) (by decide) (by decide)) k4, ?_⟩, ⟨?_, Stk_eq hst (q9 20 (by decide) (by decide) (by decide) (by decide) (by decide) (by decide) (by decide) (by decide) (by decide) (by decide)) ?_⟩, ?_⟩, e4⟩
  · unfold Src
    rw [q9 1 (by decide) (by decide) (by decide) (by decide) (by decide) (by decide) (by decide) (by decide) (by decide) (by decide)]
    exact hs
  · unfold clk
    have e2 : sX3_passOneTick_32 S 0 = sX3_passOneTick_25 S 0 := f4 0 (by decide) (by decide)
    rw [q8 0 (by decide) (by decide) (by decide) (by decide), e2, f3 0 (by decide) (by decide), t2, tt]
  · have e1 : sX4_ticks_24 M 18 = sX4_ticks_19 M 18 := g5.2
    have e2 : sX4_ticks_28 M 18 = sX4_ticks_24 M 18 := g6.2
    have e3 : sX4_ticks_32 M 18 = sX4_ticks_28 M 18 := g7 18 (by decide)
    have e4 : sX4_ticks_19 M 18 = sX4_ticks_15 M 18 := g4 18 (by decide) (by decide)
    rw [g8 18 (by decide) (by decide), e3, e2, e1, e4, g3 18 (by decide) (by decide) (by decide), g2 18 (by decide) (by decide) (by decide)]
  · have e1 : sX4_ticks_24 M 0 0 (nI 29) = sX4_ticks_19 M 0 0 (nI 29) := g5.1
    have e2 : sX4_ticks_28 M 0 0 (nI 29) = sX4_ticks_24 M 0 0 (nI 29) := g6.1
    have e3 : sX4_ticks_32 M 0 = sX4_ticks_28 M 0 := g7 0 (by decide)
    have e4 : sX4_ticks_19 M 0 = sX4_ticks_15 M 0 := g4 0 (by decide) (by decide)
    rw [g8 0 (by decide) (by decide), e3, e2, e1, e4, g3 0 (by decide) (by decide) (by decide), g20]
def TT (B : Int) (n : Int) (M : xS) (k : Nat) (x y : xS × Int32) : Prop := ((AA x.1 y.1 ∧ Bnd x.1 ∧ KW (B + 1000 * k) x.1 ∧ Src x.1) ∧ (clk x.1 = n + k ∧ Stk x.1 y.1) ∧ y.1 0 0 (nI 29) = M 0 0 (nI 29)) ∧ x.2 = y.2
theorem tick_z {B n : Int} {S M : xS} (h : AA S M) (hb : Bnd S) (hk : KW B S) (hs : Src S) (hst : Stk S M) (hn : clk S = n) : TT B n M 0 (S, (0 : Int32)) (M, (0 : Int32)) := ⟨⟨⟨h, hb, by simpa using hk, hs⟩, ⟨by simpa using hn, hst⟩, rfl⟩, rfl⟩
theorem tick_n {B n : Int} {S M : xS} {T : Nat} (hB : B + 1000 * T + 5000 < 2147483648) (h : AA S M) (hb : Bnd S) (hk : KW B S) (hs : Src S) (hst : Stk S M) (hn : clk S = n) (h0 : 0 ≤ n) (h1 : n + T ≤ 5000) : TT B n M T (xfold (bX3_tick_33 T) T (S, (0 : Int32))) (xfold (bX4_tick_44 T) T (M, (0 : Int32))) := by
  refine xfold_2I (TT B n M) T (S, (0 : Int32)) (M, (0 : Int32)) (tick_z h hb hk hs hst hn) fun i hi x y ⟨⟨⟨p1, p2, p3, p4⟩, ⟨p5, p6⟩, p7⟩, p8⟩ => ?_
  have key := tick_1 (B := B + 1000 * i) (n := n + i) (by omega) p1 p2 p3 p4 p6 p5 (by omega) (by omega)
  have e1 : bX3_tick_33 T (nI i) x = ((fX3_passOneTick x.1).1, x.2 + (fX3_passOneTick x.1).2) := by unfold bX3_tick_33; rfl
  have e2 : bX4_tick_44 T (nI i) y = ((fX4_ticks y.1).1, y.2 + (fX4_ticks y.1).2) := by unfold bX4_tick_44; rfl
  rw [e1, e2]
  generalize fX3_passOneTick x.1 = X at key ⊢
  generalize fX4_ticks y.1 = Y at key ⊢
  obtain ⟨⟨⟨q1, q2, q3, q4⟩, ⟨q5, q6⟩, q7⟩, q8⟩ := key
  refine ⟨⟨⟨q1, q2, ?_, q4⟩, ⟨?_, q6⟩, q7.trans p7⟩, ?_⟩
  · have e : B + 1000 * ((i + 1 : Nat) : Int) = B + 1000 * i + 1000 := by omega
    rw [e]
    exact q3
  · show clk X.1 = n + ((i + 1 : Nat) : Int)
    rw [q5]
    omega
  · show x.2 + X.2 = y.2 + Y.2
    rw [p8, q8]
set_option maxHeartbeats 4000000 in
theorem s_tick : sim_tick Rel := by
  intro c S M o a1 hc hR
  by_cases c1 : ¬ a1 < (1 : Int32) ∧ a1 ≤ (100 : Int32)
  · have hr := xrange c1
    have e1 : (1 : Int32).toInt = 1 := rfl
    have e100 : (100 : Int32).toInt = 100 := rfl
    obtain ⟨T, hT, rfl⟩ := vp_in_of (n := 101) (x := a1) (by rw [vp_in_iff]; omega) (by decide)
    have hTi : (nI T).toInt = T := nI_toInt (by omega)
    have hT1 : 1 ≤ T := by omega
    have hT2 : T ≤ 100 := by omega
    have ec : clk S = (S 0 0 (nI 3)).toInt := rfl
    have hC := hR.2.1.2.2.2.2
    unfold Clk at hC
    have es : (S 0 0 (nI 3) + nI T).toInt = clk S + T := by rw [xtadd (by omega) (by omega), hTi, ec]
    by_cases c2 : (S 0 0 (nI 3)) + nI T ≤ (5000 : Int32)
    · have c3 : clk S + T ≤ 5000 := by
        have q := c2
        rw [Int32.le_iff_toInt_le, es, show (5000 : Int32).toInt = 5000 from rfl] at q
        exact q
      have e : fX4_tick T M = ((xfold (bX4_tick_44 T) T ((xu M 0 0 (nI 29) (0 : Int32)), (0 : Int32))).1, (xfold (bX4_tick_44 T) T ((xu M 0 0 (nI 29) (0 : Int32)), (0 : Int32))).2) := by
        unfold fX4_tick
        rw [if_neg (isIn_1 c1), if_pos (by rw [← hR.1.1.2.2.2.2]; exact c2)]
      have f1 : (fX4_tick T M).1 = (xfold (bX4_tick_44 T) T ((xu M 0 0 (nI 29) (0 : Int32)), (0 : Int32))).1 := xfst e
      have f2 : (fX4_tick T M).2 = (xfold (bX4_tick_44 T) T ((xu M 0 0 (nI 29) (0 : Int32)), (0 : Int32))).2 := xsnd e
      have d : fX3_tick T S = ((xfold (bX3_tick_33 T) T (S, (0 : Int32))).1, (xfold (bX3_tick_33 T) T (S, (0 : Int32))).2) := by
        unfold fX3_tick
        rfl
      have d1 : (fX3_tick T S).1 = (xfold (bX3_tick_33 T) T (S, (0 : Int32))).1 := xfst d
      have d2 : (fX3_tick T S).2 = (xfold (bX3_tick_33 T) T (S, (0 : Int32))).2 := xsnd d
      obtain ⟨⟨⟨q1, q2, q3, q4⟩, ⟨q5, q6⟩, q7⟩, q8⟩ := tick_n (B := 10000 * c + 1000 * clk S) (n := clk S) (T := T) (by omega) (AA_thrown (v := 0) hR.1) hR.2.1.1 ⟨hR.2.1.2.1, Bl_of hR.2.1.2.2.2.1⟩ hR.2.1.2.2.1 (Stk_eq hR.2.2 rfl (xu_nf (by decide))) rfl hC.1 c3
      rw [← d1, ← f1] at q1 q6
      rw [← d1] at q2 q3 q4 q5
      rw [← f1, xu_same] at q7
      rw [← d2, ← f2] at q8
      have hI : Inv c (fX3_tick T S).1 := by
        refine ⟨q2, ?_, q4, Bal_of q3.2, ?_⟩
        · rw [q5]
          have e9 : 10000 * (c : Int) + 1000 * (clk S + T) = 10000 * c + 1000 * clk S + 1000 * T := by omega
          rw [e9]
          exact q3.1
        · unfold Clk
          rw [q5]
          omega
      exact ⟨0, (fX3_tick T S).1, (fX3_tick T S).2.toInt64, (fX4_tick T M).1, (fX4_tick T M).2, 5, 116, Or.inl ⟨T, rfl, hT1, hT2, c2, rfl, rfl, rfl⟩, by decide, by decide, (fun l Gm hap => kX4_tick l hap T M hT2 hR.hA), q7, fun _ => by rw [q8], q1, hI.mono, q6⟩
    · have e : fX4_tick T M = (xu M 0 0 (nI 29) (2 : Int32), (0 : Int32)) := by
        unfold fX4_tick
        rw [if_neg (isIn_1 c1), if_neg (by rw [← hR.1.1.2.2.2.2]; exact c2)]
      have f1 : (fX4_tick T M).1 = xu M 0 0 (nI 29) (2 : Int32) := xfst e
      exact ⟨2, S, o, (fX4_tick T M).1, (fX4_tick T M).2, 5, 116, Or.inr (Or.inr ⟨c1, c2, rfl, rfl, rfl⟩), by decide, by decide, (fun l Gm hap => kX4_tick l hap T M hT2 hR.hA), by rw [f1, xu_same], fun h => absurd h (by decide), by rw [f1]; exact Rel_M hR⟩
  · have f1 : (fX4_tickno a1 M).1 = xu M 0 0 (nI 29) (1 : Int32) := xfst (rfl : fX4_tickno a1 M = (_, _))
    exact ⟨1, S, o, (fX4_tickno a1 M).1, (fX4_tickno a1 M).2, 1, 22, Or.inr (Or.inl ⟨c1, rfl, rfl, rfl⟩), by decide, by decide, (fun l Gm hap => kX4_tickno l hap a1 M (isIn_0.mpr c1)), by rw [f1, xu_same], fun h => absurd h (by decide), by rw [f1]; exact Rel_M hR⟩
theorem sims : simAll Rel := ⟨s_shape, s_setGauge, s_setSource, s_rain, s_volume, s_volumeByBalance, s_level, s_flowed, s_spilled, s_setRule, s_byHand, s_opening, s_safety, s_fall, s_comeUp, s_setGroup, s_setStuck, s_setTimes, s_believed, s_version, s_age, s_beat, s_status, s_partner, s_freshest, s_agree, s_unnoticed, s_mistaken, s_vain, s_tick, s_time, fun c S M h => h.mono⟩
/-! the start -/
set_option maxRecDepth 100000 in
theorem st_0 : A0 xS0c (fX4_init xS0m) := by
  unfold A0
  decide +kernel
set_option maxRecDepth 100000 in
theorem st_1 : ∀ p ∈ R1, ∀ j, j < 8 → xS0c p.1 0 (nI j) = fX4_init xS0m p.2 0 (nI j) := by decide +kernel
set_option maxRecDepth 100000 in
theorem st_2 : ∀ p ∈ R2, ∀ m, m < 8 → ∀ o, o < 8 → xS0c p.1 (nI m) (nI o) = fX4_init xS0m p.2 0 (fX4_at (nI m) (nI o)) := by decide +kernel
theorem st_b : ∀ j : Nat, j < 8 → (1 ≤ (xS0c 4 0 (nI j)).toInt ∧ (xS0c 4 0 (nI j)).toInt ≤ 100) ∧ (1 ≤ (xS0c 5 0 (nI j)).toInt ∧ (xS0c 5 0 (nI j)).toInt ≤ 1000) ∧ (1 ≤ (xS0c 11 0 (nI j)).toInt ∧ (xS0c 11 0 (nI j)).toInt ≤ 50) ∧ (0 ≤ (xS0c 12 0 (nI j)).toInt ∧ (xS0c 12 0 (nI j)).toInt ≤ 10) := by decide +kernel
theorem st_w : (∀ j : Nat, j < 8 → 0 ≤ vol xS0c j ∧ 0 ≤ cld xS0c j) ∧ sum8 (vol xS0c) + sum8 (cld xS0c) ≤ 10000 * ((0 : Nat) : Int) + 1000 * clk xS0c := by decide +kernel
theorem st_bl : ∀ j, j < 8 → xS0c 6 0 (nI j) + xS0c 9 0 (nI j) + xS0c 10 0 (nI j) = xS0c 8 0 (nI j) + inn xS0c j := by decide +kernel
theorem st_s : 0 ≤ (xS0c 1 0 (nI 7)).toInt ∧ (xS0c 1 0 (nI 7)).toInt ≤ 1000 := by decide +kernel
theorem st_c : 0 ≤ clk xS0c ∧ clk xS0c ≤ 5000 := by decide +kernel
theorem st_k : fX4_init xS0m 18 = xS0m 18 := by
  unfold fX4_init
  refine xfold_T (fun (x : xS) => x 18 = xS0m 18) _ 8 _ (fun i hi x hx => ?_) rfl
  unfold bX4_init_209
  rw [xu_nf (by decide), xu_nf (by decide), xu_nf (by decide), xu_nf (by decide), xu_nf (by decide), xu_nf (by decide), xu_nf (by decide)]
  exact hx
theorem rel_0 : Rel 0 xS0c (fX4_init xS0m) := by
  refine ⟨⟨st_0, fun f g hm r hr => ?_, fun f g hm m o hm8 ho8 => ?_⟩, ⟨st_b, st_w, st_s, Bal_of st_bl, st_c⟩, fun r => Or.inl rfl, fun r => ?_⟩
  · obtain ⟨j, hj, rfl⟩ := xin_j hr
    exact st_1 (f, g) hm j hj
  · obtain ⟨m, hm1, rfl⟩ := xin_j hm8
    obtain ⟨o, ho1, rfl⟩ := xin_j ho8
    exact st_2 (f, g) hm m hm1 o ho1
  · rw [st_k]
    exact Or.inl rfl
