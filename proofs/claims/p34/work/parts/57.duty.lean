/-! 57: the duty of a tick, together -/
set_option maxHeartbeats 4000000 in
theorem tick_duty (c t : Nat) (S : xS) (hc : c < 90) (ht : t < 1350) (h : Inv c t S) : okT S ∧ Inv c (t + 1) (fL_isTicked S).1 := by
  obtain ⟨⟨iBits, iB, iK, iS⟩, ⟨⟨⟨c0, c1⟩, v0, v1⟩, iN⟩, ⟨iG, iH⟩, iz, ip, iw⟩ := h
  have kp := kp_all S
  have eF : fL_isTicked S = ((fL_areGates (fL_areBeats (fL_isWater (fX3_tick 1 (fL_keeps S)).2 (fX3_tick 1 (fL_keeps S)).1).1).1).1, (1 : Int32)) := rfl
  rw [xfst eF]
  unfold okT
  generalize fL_keeps S = X at kp
  have kp' := kp
  obtain ⟨kf, k35, -, k36⟩ := kp'
  have xc : clk X = clk S := clk_eq (kf 0 (by decide) (by decide))
  have xv : vn X = vn S := by unfold vn; rw [kf 3 (by decide) (by decide)]
  have xB : Bnd X := Bnd_eq (kf 4 (by decide) (by decide)) (kf 5 (by decide) (by decide)) (kf 11 (by decide) (by decide)) (kf 12 (by decide) (by decide)) iB
  have xK : KW (10000 * c + 1000 * clk X) X := KWc_eq (kf 0 (by decide) (by decide)) (kf 6 (by decide) (by decide)) (kf 7 (by decide) (by decide)) (kf 8 (by decide) (by decide)) (kf 9 (by decide) (by decide)) (kf 10 (by decide) (by decide)) iK
  have xS : Src X := Src_eq (kf 1 (by decide) (by decide)) iS
  have xN : NetC (clk X) X := Net_eq (kf 0 (by decide) (by decide)) (kf 28 (by decide) (by decide)) (kf 29 (by decide) (by decide)) (kf 30 (by decide) (by decide)) (kf 31 (by decide) (by decide)) (kf 33 (by decide) (by decide)) iN
  have xG : Lk 34 LG X := Lk_eq (kf 34 (by decide) (by decide)) (fun p hp => kf p.2 (by have := (LGf p hp).1; have := (LGf p hp).2; omega) (by have := (LGf p hp).1; have := (LGf p hp).2; omega)) iG
  have xH : ∀ q f, (q, f) ∈ LH → ∀ j : Nat, j < 8 → X 35 0 (nI (8 * j + q)) = X f 0 (nI j) := fun q f hq j hj => by
    have b := LHf (q, f) hq
    rw [k35 j q hj b.1, kf f (by omega) (by omega)]
    exact iH q f hq j hj
  have xp : Lp X := Lp_eq (kf 39 (by decide) (by decide)) (kf 1 (by decide) (by decide)) (kf 3 (by decide) (by decide)) ip
  have xz : ∀ j : Nat, j < 8 → X 38 0 (nI j) = X 17 0 (nI j) := fun j hj => by
    rw [kf 38 (by decide) (by decide), kf 17 (by decide) (by decide)]
    exact iz j hj
  have x37 : ∀ m o : Nat, m < 8 → o < 8 → X 37 0 (nI (8 * m + o)) = X 32 (nI m) (nI o) := fun m o hm ho => by
    rw [kf 37 (by decide) (by decide), kf 32 (by decide) (by decide)]
    exact iw m o hm ho
  have x36 : ∀ m o : Nat, m < 8 → o < 8 → X 36 0 (nI (8 * m + o)) = X 31 (nI m) (nI o) := fun m o hm ho => by
    rw [k36 m o hm ho, kf 31 (by decide) (by decide)]
  have x357 : ∀ j : Nat, j < 8 → X 35 0 (nI (8 * j + 7)) = X 12 0 (nI j) := fun j hj => by
    rw [(kp.2.2.1 j hj).2.2.2, kf 12 (by decide) (by decide)]
  have xBits : Bits X := Bits_eq (kf 18 (by decide) (by decide)) (kf 19 (by decide) (by decide)) (kf 20 (by decide) (by decide)) iBits
  have hc1 : (c : Int) < 90 := by omega
  have ht1 : (t : Int) < 1350 := by omega
  have hBB : 10000 * (c : Int) + 1000 * clk X + 5000 < 2147483648 := by omega
  have wat := wat_all hBB xB xK xS
  have wle := wat_le hBB xB xK xS
  have tk := tk_all hBB xB xK xS (by omega) (by omega) xN
  have rg := rg_all (sX3_passOneTick_70 X)
  have et1 : (fX3_tick 1 X).1 = fX3_ruleGates (sX3_passOneTick_70 X) := (tk_1 X).1.trans rfl
  have et2 : (fX3_tick 1 X).2 = sm 8 (spe (sX3_passOneTick_25 X)) := by
    have e := wat.2.2.2.2.2.2.2.2.2.2.2
    rw [(tk_1 X).2, e, Int32.zero_add]
  rw [et1, et2]
  have wat' := wat
  obtain ⟨zK, zf, zt, -, z7, -, -, -, zsp, -⟩ := wat'
  generalize sX3_passOneTick_32 X = Z at wat zK zf zt z7 tk
  generalize sX3_passOneTick_70 X = A at tk rg
  obtain ⟨af, a0, az, aN, ⟨a3, av1, av2⟩, aNB⟩ := tk
  obtain ⟨yf, y12, y17⟩ := rg
  have hub := ups_b X 8
  -- the rows that neither the tick nor the law changes
  have yx : ∀ f, f ≠ 0 → f ≠ 3 → (f < 6 ∨ 10 < f) → (f < 28 ∨ 33 < f) → f ≠ 12 → f ≠ 17 → fX3_ruleGates A f = X f := fun f f0 f3 f6 f28 f12 f17 => (yf f f12 f17).trans (af f f0 f3 f6 f28)
  generalize fX3_ruleGates A = Y2 at yf y12 y17 yx
  have wf := wf_tick (Y := Y2) xB wat kp xG xp (yx 4 (by decide) (by decide) (by decide) (by decide) (by decide) (by decide)) (yx 34 (by decide) (by decide) (by decide) (by decide) (by decide) (by decide)) (yx 35 (by decide) (by decide) (by decide) (by decide) (by decide) (by decide)) (yx 39 (by decide) (by decide) (by decide) (by decide) (by decide) (by decide)) (fun f f5 f11 => (yf f (by omega) (by omega)).trans (az f f5 f11))
  obtain ⟨w3, w34⟩ := W_end (a1 := sm 8 (spe (sX3_passOneTick_25 X))) wf
  have oW := okW_of wf
  have spos := sm_pos (w := spe (sX3_passOneTick_25 X)) (b := 10000 * (c : Int) + 1000 * clk X + 1000) 8 (by omega) (by omega) (fun j hj => ⟨(zsp j hj).1, wle j hj⟩)
  generalize sm 8 (spe (sX3_passOneTick_25 X)) = sp at *
  generalize (fL_isWater sp Y2).1 = Y3 at w3 w34
  have eT : (X 0 0 (nI 3) + (1 : Int32)).toInt = clk X + 1 := by
    have ec : clk X = (X 0 0 (nI 3)).toInt := rfl
    rw [xtadd (by rw [xt1]; omega) (by rw [xt1]; omega), xt1, ec]
  -- the beats
  have y3a : ∀ f, f ≠ 34 → f ≠ 12 → f ≠ 17 → Y3 f = A f := fun f f34 f12 f17 => (w3 f f34).trans (yf f f12 f17)
  have y3N : NetC (clk X + 1) Y3 := NetC_eq (y3a 28 (by decide) (by decide) (by decide)) (y3a 29 (by decide) (by decide) (by decide)) (y3a 30 (by decide) (by decide) (by decide)) (y3a 31 (by decide) (by decide) (by decide)) (y3a 33 (by decide) (by decide) (by decide)) aN
  have n911 : nI 9 ≠ nI 11 := by decide
  have n1011 : nI 10 ≠ nI 11 := by decide
  have y335 : ∀ i, Y3 35 0 i = X 35 0 i := fun i => by rw [y3a 35 (by decide) (by decide) (by decide), af 35 (by decide) (by decide) (by decide) (by decide)]
  have hBF : BF X Y3 (X 0 0 (nI 3) + (1 : Int32)) (clk X + 1) := by
    refine ⟨y3N, ⟨by omega, by omega, eT⟩, ?_, ⟨?_, ?_⟩, fun m hm => ?_, fun m o hm ho => ⟨?_, ?_, ?_⟩⟩
    · rw [y3a 0 (by decide) (by decide) (by decide), a0]
    · rw [y3a 39 (by decide) (by decide) (by decide), af 39 (by decide) (by decide) (by decide) (by decide), y3a 3 (by decide) (by decide) (by decide), a3 _ n911]
      exact xp.2.1
    · rw [y3a 39 (by decide) (by decide) (by decide), af 39 (by decide) (by decide) (by decide) (by decide), y3a 3 (by decide) (by decide) (by decide), a3 _ n1011]
      exact xp.2.2
    · rw [y335]
      exact xH 1 19 (by decide) m hm
    · rw [y3a 36 (by decide) (by decide) (by decide), af 36 (by decide) (by decide) (by decide) (by decide)]
      exact x36 m o hm ho
    · rw [y3a 37 (by decide) (by decide) (by decide), af 37 (by decide) (by decide) (by decide) (by decide)]
      exact x37 m o hm ho
    · exact NB_eq (y3a 3 (by decide) (by decide) (by decide)) (y3a 28 (by decide) (by decide) (by decide)) (y3a 31 (by decide) (by decide) (by decide)) (y3a 32 (by decide) (by decide) (by decide)) (y3a 33 (by decide) (by decide) (by decide)) (aNB m o hm ho)
  have oB := okB_of hBF
  obtain ⟨b4, b437⟩ := B_end hBF
  generalize (fL_areBeats Y3).1 = Y4 at b4 b437
  -- the gates
  have y4a : ∀ f, f ≠ 37 → f ≠ 34 → f ≠ 12 → f ≠ 17 → Y4 f = A f := fun f f37 f34 f12 f17 => (b4 f f37).trans (y3a f f34 f12 f17)
  have y412 : ∀ j : Nat, j < 8 → Y4 12 0 (nI j) = (gO A j).1 := fun j hj => by
    rw [b4 12 (by decide), w3 12 (by decide), y12 j hj, if_pos hj]
  have y417 : ∀ j : Nat, j < 8 → Y4 17 0 (nI j) = (gO A j).2 := fun j hj => by
    rw [b4 17 (by decide), w3 17 (by decide), y17 j hj, if_pos hj]
  have y434 : ∀ j q : Nat, j < 8 → q < 8 → Y4 34 0 (nI (8 * j + q)) = if q = 3 then 0 else X 34 0 (nI (8 * j + q)) := fun j q hj hq => by
    rw [b4 34 (by decide), w34 j q hj hq, yx 34 (by decide) (by decide) (by decide) (by decide) (by decide) (by decide)]
  have y435 : ∀ i, Y4 35 0 i = X 35 0 i := fun i => by rw [b4 35 (by decide), y335]
  have hGF : GF X A Y4 (clk X + 1) := by
    refine ⟨NetC_eq (y4a 28 (by decide) (by decide) (by decide) (by decide)) (y4a 29 (by decide) (by decide) (by decide) (by decide)) (y4a 30 (by decide) (by decide) (by decide) (by decide)) (y4a 31 (by decide) (by decide) (by decide) (by decide)) (y4a 33 (by decide) (by decide) (by decide) (by decide)) aN, ⟨y4a 0 (by decide) (by decide) (by decide) (by decide), y4a 28 (by decide) (by decide) (by decide) (by decide), y4a 29 (by decide) (by decide) (by decide) (by decide), y4a 30 (by decide) (by decide) (by decide) (by decide)⟩, ⟨af 12 (by decide) (by decide) (by decide) (by decide), af 13 (by decide) (by decide) (by decide) (by decide), af 14 (by decide) (by decide) (by decide) (by decide), af 15 (by decide) (by decide) (by decide) (by decide), af 16 (by decide) (by decide) (by decide) (by decide), af 17 (by decide) (by decide) (by decide) (by decide), af 18 (by decide) (by decide) (by decide) (by decide), af 19 (by decide) (by decide) (by decide) (by decide)⟩, fun j hj => ⟨⟨y412 j hj, y417 j hj⟩, ⟨?_, ?_, ?_⟩, ⟨?_, ?_, ?_, ?_⟩, ?_, (xB j hj).2.2.2, fun u => ((aNB j j hj hj).2.1 rfl |>.1 u).2⟩⟩
    · rw [y435]
      exact xH 0 18 (by decide) j hj
    · rw [y435]
      exact xH 1 19 (by decide) j hj
    · rw [y435]
      exact x357 j hj
    · rw [y434 j 4 hj (by decide), if_neg (by decide)]
      exact xG 4 13 (by decide) j hj
    · rw [y434 j 5 hj (by decide), if_neg (by decide)]
      exact xG 5 14 (by decide) j hj
    · rw [y434 j 6 hj (by decide), if_neg (by decide)]
      exact xG 6 15 (by decide) j hj
    · rw [y434 j 7 hj (by decide), if_neg (by decide)]
      exact xG 7 16 (by decide) j hj
    · rw [y4a 38 (by decide) (by decide) (by decide) (by decide), af 38 (by decide) (by decide) (by decide) (by decide)]
      exact xz j hj
  have oG := okG_of hGF
  obtain ⟨g5, g538⟩ := G_end hGF
  generalize (fL_areGates Y4).1 = Y5 at g5 g538
  have vA : vn A = (Y2 3 0 (nI 11)).toInt := by unfold vn; rw [yf 3 (by decide) (by decide)]
  have vX : vn X = (X 3 0 (nI 11)).toInt := rfl
  have uf := up_fold (X := X) (fun j hj => xH 1 19 (by decide) j hj) 8 (Nat.le_refl _)
  refine ⟨⟨?_, ?_, ?_, ?_, ?_, oW, oB, oG⟩, ?_⟩
  · rw [Int32.le_iff_toInt_le, eT, show (5000 : Int32).toInt = 5000 from rfl]
    omega
  · rw [Int32.lt_iff_toInt_lt, xt0]
    omega
  · show Y2 0 0 (nI 3) = X 0 0 (nI 3) + (1 : Int32)
    rw [yf 0 (by decide) (by decide), a0]
  · show ¬ Y2 3 0 (nI 11) < X 3 0 (nI 11)
    rw [Int32.lt_iff_toInt_lt]
    omega
  · show Y2 3 0 (nI 11) ≤ X 3 0 (nI 11) + xfold (bL_isTicked_24 X) 8 (0 : Int32)
    rw [Int32.le_iff_toInt_le, xtadd (by omega) (by omega), uf]
    omega
  · have y5a : ∀ f, f ≠ 38 → f ≠ 37 → f ≠ 34 → f ≠ 12 → f ≠ 17 → Y5 f = A f := fun f f38 f37 f34 f12 f17 => (g5 f f38).trans (y4a f f37 f34 f12 f17)
    have y5x : ∀ f, f ≠ 0 → f ≠ 3 → (f < 6 ∨ 10 < f) → (f < 28 ∨ 33 < f) → f ≠ 38 → f ≠ 37 → f ≠ 34 → f ≠ 12 → f ≠ 17 → Y5 f = X f := fun f f0 f3 f6 f28 f38 f37 f34 f12 f17 => (y5a f f38 f37 f34 f12 f17).trans (af f f0 f3 f6 f28)
    have y5z : ∀ f, 5 < f → f < 11 → Y5 f = Z f := fun f f5 f11 => (y5a f (by omega) (by omega) (by omega) (by omega) (by omega)).trans (az f f5 f11)
    have y5c : clk Y5 = clk X + 1 := by
      show (Y5 0 0 (nI 3)).toInt = _
      rw [y5a 0 (by decide) (by decide) (by decide) (by decide) (by decide), a0, eT]
    have y5v : vn Y5 = vn A := by unfold vn; rw [y5a 3 (by decide) (by decide) (by decide) (by decide) (by decide)]
    refine ⟨⟨Bits_eq (y5x 18 (by decide) (by decide) (by decide) (by decide) (by decide) (by decide) (by decide) (by decide) (by decide)) (y5x 19 (by decide) (by decide) (by decide) (by decide) (by decide) (by decide) (by decide) (by decide) (by decide)) (y5x 20 (by decide) (by decide) (by decide) (by decide) (by decide) (by decide) (by decide) (by decide) (by decide)) xBits, fun j hj => ?_, ?_, Src_eq (y5x 1 (by decide) (by decide) (by decide) (by decide) (by decide) (by decide) (by decide) (by decide) (by decide)) xS⟩, ⟨⟨⟨?_, ?_⟩, ?_, ?_⟩, ?_⟩, ⟨fun q f hq j hj => ?_, fun q f hq j hj => ?_⟩, fun j hj => ?_, ⟨?_, ?_, ?_⟩, fun m o hm ho => ?_⟩
    · rw [y5x 4 (by decide) (by decide) (by decide) (by decide) (by decide) (by decide) (by decide) (by decide) (by decide), y5x 5 (by decide) (by decide) (by decide) (by decide) (by decide) (by decide) (by decide) (by decide) (by decide), y5x 11 (by decide) (by decide) (by decide) (by decide) (by decide) (by decide) (by decide) (by decide) (by decide), g5 12 (by decide), y412 j hj]
      obtain ⟨p1, p2, p3, p4⟩ := xB j hj
      refine ⟨p1, p2, p3, gO_b ?_⟩
      rw [af 12 (by decide) (by decide) (by decide) (by decide)]
      exact p4
    · rw [y5c]
      exact (KW_eq (y5z 6 (by decide) (by decide)) (y5z 7 (by decide) (by decide)) (y5z 8 (by decide) (by decide)) (y5z 9 (by decide) (by decide)) (y5z 10 (by decide) (by decide)) zK).up (by omega)
    · omega
    · omega
    · omega
    · omega
    · rw [NetC_iff, y5c]
      exact NetC_eq (y5a 28 (by decide) (by decide) (by decide) (by decide) (by decide)) (y5a 29 (by decide) (by decide) (by decide) (by decide) (by decide)) (y5a 30 (by decide) (by decide) (by decide) (by decide) (by decide)) (y5a 31 (by decide) (by decide) (by decide) (by decide) (by decide)) (y5a 33 (by decide) (by decide) (by decide) (by decide) (by decide)) aN
    · have b := LGf (q, f) hq
      have b8 : q < 8 := (LGb (q, f) hq (q, f) hq).2.1
      rw [g5 34 (by decide), y434 j q hj b8]
      by_cases e : q = 3
      · have ef : f = 7 := b.1 e
        rw [if_pos e, ef, y5z 7 (by decide) (by decide), z7 j hj]
      · obtain ⟨b1, b2, b3, b4', b5, b6⟩ := b.2 e
        rw [if_neg e, y5x f b1 b2 b3 (Or.inl b4') (by omega) (by omega) (by omega) b5 b6]
        exact xG q f hq j hj
    · have b := LHf (q, f) hq
      rw [g5 35 (by decide), y435, y5x f (by omega) (by omega) (by omega) (by omega) (by omega) (by omega) (by omega) (by omega) (by omega)]
      exact xH q f hq j hj
    · rw [g538 j hj, g5 17 (by decide)]
    · rw [y5x 39 (by decide) (by decide) (by decide) (by decide) (by decide) (by decide) (by decide) (by decide) (by decide), y5x 1 (by decide) (by decide) (by decide) (by decide) (by decide) (by decide) (by decide) (by decide) (by decide)]
      exact xp.1
    · rw [y5x 39 (by decide) (by decide) (by decide) (by decide) (by decide) (by decide) (by decide) (by decide) (by decide), y5a 3 (by decide) (by decide) (by decide) (by decide) (by decide), a3 _ n911]
      exact xp.2.1
    · rw [y5x 39 (by decide) (by decide) (by decide) (by decide) (by decide) (by decide) (by decide) (by decide) (by decide), y5a 3 (by decide) (by decide) (by decide) (by decide) (by decide), a3 _ n1011]
      exact xp.2.2
    · rw [g5 37 (by decide), b437 m o hm ho, y5a 32 (by decide) (by decide) (by decide) (by decide) (by decide), y3a 32 (by decide) (by decide) (by decide)]
theorem inv_ok : HInv Inv := ⟨inv_0, inv_mem, fun c t S _ _ h => inv_ref c t S h, Inv.mono, tick_duty, ci_A, ci_B, ci_C, ci_D, ci_E, ci_Fz, ci_Fp, ci_G, ci_H, ci_I, ci_J⟩
