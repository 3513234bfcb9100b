/-! 55: the law's look at the gates -/
theorem m264 {o : Int32} (h : 0 ≤ o.toInt ∧ o.toInt ≤ 10) : jL_areGates_264 o = gMi o := by
  unfold jL_areGates_264 gMi
  have e1 : (o - (1 : Int32)).toInt = o.toInt - 1 := by rw [xtsub (by rw [xt1]; omega) (by rw [xt1]; omega), xt1]
  by_cases z : o ≤ 0
  · rw [if_pos z, if_pos]
    rw [Int32.le_iff_toInt_le, xt0] at z
    rw [Int32.lt_iff_toInt_lt, e1, xt0]
    omega
  · rw [if_neg z, if_neg]
    rw [Int32.le_iff_toInt_le, xt0] at z
    rw [Int32.lt_iff_toInt_lt, e1, xt0]
    omega
theorem xt10 : (10 : Int32).toInt = 10 := rfl
theorem xt8' : (8 : Int32).toInt = 8 := rfl
theorem xt2' : (2 : Int32).toInt = 2 := rfl
theorem m218 {o : Int32} (h : 0 ≤ o.toInt ∧ o.toInt ≤ 10) : jL_areGates_218 o = gPl 1 o := by
  unfold jL_areGates_218 gPl
  have e1 : (o + (1 : Int32)).toInt = o.toInt + 1 := by rw [xtadd (by rw [xt1]; omega) (by rw [xt1]; omega), xt1]
  by_cases z : (10 : Int32) ≤ o
  · rw [if_pos z, if_pos]
    rw [Int32.le_iff_toInt_le, xt10] at z
    rw [Int32.lt_iff_toInt_lt, e1, xt10]
    omega
  · rw [if_neg z, if_neg]
    rw [Int32.le_iff_toInt_le, xt10] at z
    rw [Int32.lt_iff_toInt_lt, e1, xt10]
    omega
theorem m134 {o i : Int32} (h : 0 ≤ o.toInt ∧ o.toInt ≤ 10) : jL_areGates_134 o i = gPl 2 o := by
  unfold jL_areGates_134 gPl
  have e1 : (o + (2 : Int32)).toInt = o.toInt + 2 := by rw [xtadd (by rw [xt2']; omega) (by rw [xt2']; omega), xt2']
  by_cases z : o ≤ (8 : Int32)
  · rw [if_pos z, if_neg]
    rw [Int32.le_iff_toInt_le, xt8'] at z
    rw [Int32.lt_iff_toInt_lt, e1, xt10]
    omega
  · rw [if_neg z, if_pos]
    rw [Int32.le_iff_toInt_le, xt8'] at z
    rw [Int32.lt_iff_toInt_lt, e1, xt10]
    omega
theorem j279 {due i : Int32} {S : xS} (h1 : S 12 0 i = due) (h2 : S 17 0 i = S 38 0 i) : jL_areGates_279 due S i = (1 : Int32) := by
  unfold jL_areGates_279 fX3_opening fX3_safety
  rw [if_pos h1, if_pos h2]
def GF (X A Y : xS) (k : Int) : Prop := NetC k Y ∧ (Y 0 = A 0 ∧ Y 28 = A 28 ∧ Y 29 = A 29 ∧ Y 30 = A 30) ∧ (A 12 = X 12 ∧ A 13 = X 13 ∧ A 14 = X 14 ∧ A 15 = X 15 ∧ A 16 = X 16 ∧ A 17 = X 17 ∧ A 18 = X 18 ∧ A 19 = X 19) ∧
  ∀ j : Nat, j < 8 → (Y 12 0 (nI j) = (gO A j).1 ∧ Y 17 0 (nI j) = (gO A j).2) ∧ (Y 35 0 (nI (8 * j + 0)) = X 18 0 (nI j) ∧ Y 35 0 (nI (8 * j + 1)) = X 19 0 (nI j) ∧ Y 35 0 (nI (8 * j + 7)) = X 12 0 (nI j)) ∧ (Y 34 0 (nI (8 * j + 4)) = X 13 0 (nI j) ∧ Y 34 0 (nI (8 * j + 5)) = X 14 0 (nI j) ∧ Y 34 0 (nI (8 * j + 6)) = X 15 0 (nI j) ∧ Y 34 0 (nI (8 * j + 7)) = X 16 0 (nI j)) ∧
    Y 38 0 (nI j) = X 17 0 (nI j) ∧ (0 ≤ (X 12 0 (nI j)).toInt ∧ (X 12 0 (nI j)).toInt ≤ 10) ∧ (X 19 0 (nI j) = 0 → 1 ≤ (A 28 (nI j) (nI j)).toInt)
def gJ (X Y : xS) (i : Nat) (x : xS × Int32) : Prop := (∀ f, f ≠ 38 → x.1 f = Y f) ∧ (∀ j : Nat, j < 8 → x.1 38 0 (nI j) = if j < i then Y 17 0 (nI j) else X 17 0 (nI j)) ∧ x.2 = (1 : Int32)
theorem gJ_n {X Y : xS} {i : Nat} {x : xS × Int32} {due : Int32} (hi : i < 8) (hx : gJ X Y i x) (h1 : Y 12 0 (nI i) = due) (h2 : Y 17 0 (nI i) = X 17 0 (nI i)) : gJ X Y (i + 1) (x.1, jL_areGates_279 due x.1 (nI i)) := by
  obtain ⟨x1, x2, x3⟩ := hx
  refine ⟨x1, fun j hj => ?_, ?_⟩
  · show x.1 38 0 (nI j) = _
    rw [x2 j hj]
    by_cases z : j = i
    · subst z
      rw [if_neg (Nat.lt_irrefl _), if_pos (Nat.lt_succ_self _), h2]
    · by_cases y : j < i
      · rw [if_pos y, if_pos (by omega)]
      · rw [if_neg y, if_neg (by omega)]
  · show jL_areGates_279 due x.1 (nI i) = 1
    refine j279 ?_ ?_
    · rw [x1 12 (by decide)]
      exact h1
    · rw [x1 17 (by decide), x2 i hi, if_neg (Nat.lt_irrefl _)]
      exact h2
theorem gJ_u {X Y : xS} {i : Nat} {x : xS × Int32} {due : Int32} (hi : i < 8) (hx : gJ X Y i x) (h1 : Y 12 0 (nI i) = due) (h2 : Y 17 0 (nI i) = X 17 0 (nI i) + (1 : Int32)) : gJ X Y (i + 1) ((xu x.1 38 0 (nI i) ((x.1 38 0 (nI i)) + (1 : Int32))), jL_areGates_279 due (xu x.1 38 0 (nI i) ((x.1 38 0 (nI i)) + (1 : Int32))) (nI i)) := by
  obtain ⟨x1, x2, x3⟩ := hx
  have e : x.1 38 0 (nI i) = X 17 0 (nI i) := by rw [x2 i hi, if_neg (Nat.lt_irrefl _)]
  rw [e]
  refine ⟨fun f hf => ?_, fun j hj => ?_, ?_⟩
  · show xu x.1 38 0 (nI i) (X 17 0 (nI i) + (1 : Int32)) f = Y f
    rw [xu_nf hf]
    exact x1 f hf
  · show xu x.1 38 0 (nI i) (X 17 0 (nI i) + (1 : Int32)) 38 0 (nI j) = _
    rw [xrow_nI hi hj, x2 j hj]
    by_cases z : j = i
    · subst z
      rw [if_pos rfl, if_pos (Nat.lt_succ_self _), h2]
    · rw [if_neg z]
      by_cases y : j < i
      · rw [if_pos y, if_pos (by omega)]
      · rw [if_neg y, if_neg (by omega)]
  · show jL_areGates_279 due (xu x.1 38 0 (nI i) (X 17 0 (nI i) + (1 : Int32))) (nI i) = 1
    refine j279 ?_ ?_
    · rw [xu_ne (by decide), x1 12 (by decide)]
      exact h1
    · rw [xu_ne (by decide), x1 17 (by decide), xu_same]
      exact h2
set_option maxHeartbeats 4000000 in
theorem gJ_s {X A Y : xS} {k : Int} (H : GF X A Y k) (i : Nat) (hi : i < 8) (x : xS × Int32) (hx : gJ X Y i x) : gJ X Y (i + 1) (bL_areGates_6 (nI i) x) := by
  obtain ⟨⟨n1, n2⟩, ⟨y0, y28, y29, y30⟩, ⟨a12, a13, a14, a15, a16, a17, a18, a19⟩, hj⟩ := H
  obtain ⟨⟨g1, g2⟩, ⟨r0, r1, r7⟩, ⟨s4, s5, s6, s7⟩, -, hO, hU⟩ := hj i hi
  have x1 := hx.1
  have x34 := x1 34 (by decide)
  have x35 := x1 35 (by decide)
  have e7 : (7 : Int32) ≤ nI i ↔ i = 7 := ge7 hi
  have e8 : (8 : Int32) ≤ nI i + (1 : Int32) ↔ i = 7 := by
    rw [nI_1, Int32.le_iff_toInt_le, xt8', nI_toInt (by omega)]
    omega
  have e7' : nI i = (7 : Int32) ↔ i = 7 := by
    rw [show (7 : Int32) = nI 7 by decide]
    exact xnj hi (by decide)
  have c34 : jL_areGates_34 x.1 (nI i) = if X 18 0 (nI i) = 0 then (if X 19 0 (nI i) = 0 then 1 else 0) else 0 := by
    unfold jL_areGates_34
    rw [e8_1, e8_z, x35, r0, r1]
  have bel : ∀ p q : Int32, fX3_believed p q x.1 = if A 28 p q ≤ 0 then -1 else A 29 p q := fun p q => by
    unfold fX3_believed fX1_hasNews
    rw [x1 28 (by decide), x1 29 (by decide), y28, y29]
    by_cases z : A 28 p q ≤ 0
    · rw [if_pos z, if_pos z, if_pos rfl]
    · rw [if_neg z, if_neg z, if_neg (by decide)]
  have age : ∀ p q : Int32, fX3_age p q x.1 = if A 28 p q ≤ 0 then -1 else A 0 0 (nI 3) - A 30 p q := fun p q => by
    unfold fX3_age fX1_hasNews
    rw [x1 28 (by decide), x1 30 (by decide), x1 0 (by decide), y28, y30, y0]
    by_cases z : A 28 p q ≤ 0
    · rw [if_pos z, if_pos z, if_pos rfl]
    · rw [if_neg z, if_neg z, if_neg (by decide)]
  have c63 : i ≠ 7 → jL_areGates_63 x.1 (nI i) = fX1_isOld (nI i) (nI i + (1 : Int32)) (A 0 0 (nI 3)) (X 16 0 (nI i)) A := fun z => by
    unfold jL_areGates_63 fX1_isOld fX1_hasNews
    rw [if_neg (fun q => z (e7.mp q)), bel, age, e8_7, x34, s7]
    by_cases q : A 28 (nI i) (nI i + (1 : Int32)) ≤ 0
    · rw [if_pos q, if_pos (show (-1 : Int32) < 0 by decide), if_pos q, if_pos rfl]
    · rw [if_neg q, if_neg q, if_neg q, if_neg (show ¬ (1 : Int32) = 0 by decide), if_neg]
      rw [Int32.lt_iff_toInt_lt, xt0, nI_1, ← y29]
      have := (n2 i (i + 1) hi (by omega)).2.2.2.1
      omega
  have c63' : i = 7 → jL_areGates_63 x.1 (nI i) = 0 := fun z => by
    unfold jL_areGates_63
    rw [if_pos (e7.mpr z)]
  unfold bL_areGates_6
  rw [c34, e8_7, e8_5, e8_4, e8_6, x35, x34, r7, s4, s5, s6]
  unfold gO at g1 g2
  rw [a12, a13, a14, a15, a16, a17, a18, a19] at g1 g2
  by_cases h : X 18 0 (nI i) = 0
  · rw [if_pos h]
    by_cases u : X 19 0 (nI i) = 0
    · rw [if_pos u, if_neg (show ¬ (1 : Int32) = 0 by decide)]
      rw [if_pos u, if_pos h] at g1 g2
      have hn : ¬ A 28 (nI i) (nI i) ≤ 0 := by
        rw [Int32.le_iff_toInt_le, xt0]
        have := hU u
        omega
      have bii : fX3_believed (nI i) (nI i) x.1 = A 29 (nI i) (nI i) := by rw [bel, if_neg hn]
      rw [bii]
      by_cases z : i = 7
      · rw [c63' z, if_pos (Eq.refl (0 : Int32))]
        rw [if_pos (e8.mpr z)] at g1 g2
        unfold gFo at g1
        by_cases b1 : A 29 (nI i) (nI i) ≤ X 14 0 (nI i)
        · rw [if_pos b1]
          rw [if_pos b1] at g1
          by_cases b2 : X 13 0 (nI i) ≤ A 29 (nI i) (nI i)
          · rw [if_pos b2]
            rw [if_pos b2] at g1
            exact gJ_n hi hx g1 g2
          · rw [if_neg b2, m264 hO]
            rw [if_neg b2] at g1
            exact gJ_n hi hx g1 g2
        · rw [if_neg b1, if_pos (e7'.mpr z), m218 hO]
          rw [if_neg b1, if_neg (show ¬ (1 : Int32) = 0 by decide)] at g1
          exact gJ_n hi hx g1 g2
      · rw [c63 z]
        rw [if_neg (fun q => z (e8.mp q))] at g1 g2
        by_cases old : fX1_isOld (nI i) (nI i + (1 : Int32)) (A 0 0 (nI 3)) (X 16 0 (nI i)) A = 0
        · rw [if_pos old]
          rw [if_pos old] at g1 g2
          have hn2 : ¬ A 28 (nI i) (nI i + (1 : Int32)) ≤ 0 := fun q => by
            unfold fX1_isOld fX1_hasNews at old
            rw [if_pos q, if_pos rfl] at old
            exact absurd old (by decide)
          have bi1 : fX3_believed (nI i) (nI i + (1 : Int32)) x.1 = A 29 (nI i) (nI i + (1 : Int32)) := by rw [bel, if_neg hn2]
          rw [bi1, if_neg (fun q => z (e7'.mp q))]
          have g2' : Y 17 0 (nI i) = X 17 0 (nI i) := by
            rw [g2]
            split <;> rfl
          by_cases b1 : A 29 (nI i) (nI i) ≤ X 14 0 (nI i)
          · have g1' : Y 12 0 (nI i) = if X 13 0 (nI i) ≤ A 29 (nI i) (nI i) then X 12 0 (nI i) else gMi (X 12 0 (nI i)) := by
              rw [g1]
              unfold gFo
              rw [if_pos b1, if_pos b1]
              split <;> rfl
            rw [if_pos b1]
            by_cases b2 : X 13 0 (nI i) ≤ A 29 (nI i) (nI i)
            · rw [if_pos b2]
              rw [if_pos b2] at g1'
              exact gJ_n hi hx g1' g2'
            · rw [if_neg b2, m264 hO]
              rw [if_neg b2] at g1'
              exact gJ_n hi hx g1' g2'
          · rw [if_neg b1]
            by_cases b3 : X 15 0 (nI i) ≤ A 29 (nI i) (nI i + (1 : Int32))
            · rw [if_pos b3]
              rw [if_pos b3] at g1
              have g1' : Y 12 0 (nI i) = if X 13 0 (nI i) ≤ A 29 (nI i) (nI i) then X 12 0 (nI i) else gMi (X 12 0 (nI i)) := by
                rw [g1]
                unfold gFo
                rw [if_neg b1, if_pos rfl]
              by_cases b2 : X 13 0 (nI i) ≤ A 29 (nI i) (nI i)
              · rw [if_pos b2]
                rw [if_pos b2] at g1'
                exact gJ_n hi hx g1' g2'
              · rw [if_neg b2, m264 hO]
                rw [if_neg b2] at g1'
                exact gJ_n hi hx g1' g2'
            · rw [if_neg b3, m218 hO]
              rw [if_neg b3] at g1
              have g1' : Y 12 0 (nI i) = gPl 1 (X 12 0 (nI i)) := by
                rw [g1]
                unfold gFo
                rw [if_neg b1, if_neg (show ¬ (1 : Int32) = 0 by decide)]
              exact gJ_n hi hx g1' g2'
        · rw [if_neg old]
          rw [if_neg old] at g1 g2
          rw [m134 hO]
          exact gJ_u hi hx g1 g2
    · rw [if_neg u, if_pos (Eq.refl (0 : Int32))]
      rw [if_neg u] at g1 g2
      exact gJ_n hi hx g1 g2
  · rw [if_neg h, if_pos (Eq.refl (0 : Int32))]
    rw [if_neg h, ite_self] at g1 g2
    exact gJ_n hi hx g1 g2
theorem gJ_0 {X A Y : xS} {k : Int} (H : GF X A Y k) : gJ X Y 0 (Y, (1 : Int32)) := ⟨fun _ _ => rfl, fun j hj => by
  rw [if_neg (Nat.not_lt_zero _)]
  exact (H.2.2.2 j hj).2.2.2.1, rfl⟩
theorem okG_of {X A Y : xS} {k : Int} (H : GF X A Y k) : okG Y := ⟨gJ X Y, gJ_0 H, fun i hi x hx => gJ_s H i hi x hx, fun _ _ hx => hx.2.2⟩
theorem G_end {X A Y : xS} {k : Int} (H : GF X A Y k) : (∀ f, f ≠ 38 → (fL_areGates Y).1 f = Y f) ∧ ∀ j : Nat, j < 8 → (fL_areGates Y).1 38 0 (nI j) = Y 17 0 (nI j) := by
  have e : fL_areGates Y = ((xfold bL_areGates_6 8 (Y, (1 : Int32))).1, (xfold bL_areGates_6 8 (Y, (1 : Int32))).2) := rfl
  rw [xfst e]
  obtain ⟨k1, k2, -⟩ := xfold_I (gJ X Y) (b := bL_areGates_6) 8 (Y, (1 : Int32)) (gJ_0 H) (fun i hi x hx => gJ_s H i hi x hx)
  exact ⟨k1, fun j hj => by rw [k2 j hj, if_pos hj]⟩
