/-! 51: the law's look at the water -/
theorem jw_one {a1 cm flow most spill room flowed ov i : Int32} {S : xS} (h1 : cm ≤ most → flow = cm) (h2 : ¬ cm ≤ most → flow = most) (hv : S 6 0 i = ((((cm + flowed) + ov) - flow) - spill)) (hb : fX2_balanceOf i S = S 6 0 i) (hr : ¬ room < S 6 0 i) (hs : spill = 0 ∨ S 6 0 i = room) (hn : ¬ spill < (0 : Int32)) (hl : fX2_levelOf i S = S 6 0 i / S 34 0 ((8 : Int32) * i)) : jL_isWater_139 a1 cm flow most spill room flowed ov S i = (1 : Int32) := by
  unfold jL_isWater_139 fX3_volume fX3_volumeByBalance fX3_level
  rw [hb, hl, if_pos hv]
  have core : (if S 6 0 i = S 6 0 i then if room < S 6 0 i then (0 : Int32) else if spill = (0 : Int32) then if spill < (0 : Int32) then (0 : Int32) else if S 6 0 i / S 34 0 ((8 : Int32) * i) = S 6 0 i / S 34 0 ((8 : Int32) * i) then (1 : Int32) else (0 : Int32) else if S 6 0 i = room then if spill < (0 : Int32) then (0 : Int32) else if S 6 0 i / S 34 0 ((8 : Int32) * i) = S 6 0 i / S 34 0 ((8 : Int32) * i) then (1 : Int32) else (0 : Int32) else (0 : Int32) else (0 : Int32)) = 1 := by
    rw [if_pos (Eq.refl (S 6 0 i)), if_neg hr]
    by_cases z : spill = 0
    · rw [if_pos z, if_neg hn, if_pos (Eq.refl (S 6 0 i / S 34 0 ((8 : Int32) * i)))]
    · rw [if_neg z, if_pos (hs.resolve_left z), if_neg hn, if_pos (Eq.refl (S 6 0 i / S 34 0 ((8 : Int32) * i)))]
  by_cases c : cm ≤ most
  · rw [if_pos c, if_pos (h1 c)]
    exact core
  · rw [if_neg c, if_pos (h2 c)]
    exact core
def WF (Y : xS) (cm u w : Nat → Int32) : Prop := ∀ j : Nat, j < 8 →
  (Y 9 0 (nI j) - Y 35 0 (nI (8 * j + 5)) = u j ∧ Y 10 0 (nI j) - Y 35 0 (nI (8 * j + 6)) = w j ∧ (Y 35 0 (nI (8 * j + 4)) + Y 34 0 (nI (8 * j + 3))) + (if j = 0 then Y 39 0 (0 : Int32) else 0) = cm j) ∧
  (cm j ≤ Y 35 0 (nI (8 * j + 7)) * Y 34 0 (nI (8 * j + 2)) → u j = cm j) ∧ (¬ cm j ≤ Y 35 0 (nI (8 * j + 7)) * Y 34 0 (nI (8 * j + 2)) → u j = Y 35 0 (nI (8 * j + 7)) * Y 34 0 (nI (8 * j + 2))) ∧
  Y 6 0 (nI j) = ((((cm j + (if j = 0 then 0 else u (j - 1))) + (if j = 0 then 0 else w (j - 1))) - u j) - w j) ∧ fX2_balanceOf (nI j) Y = Y 6 0 (nI j) ∧
  ¬ Y 34 0 (nI (8 * j + 0)) * Y 34 0 (nI (8 * j + 1)) < Y 6 0 (nI j) ∧ (w j = 0 ∨ Y 6 0 (nI j) = Y 34 0 (nI (8 * j + 0)) * Y 34 0 (nI (8 * j + 1))) ∧ ¬ w j < (0 : Int32) ∧ fX2_levelOf (nI j) Y = Y 6 0 (nI j) / Y 34 0 (nI (8 * j + 0)) ∧ ¬ Y 34 0 (nI (8 * j + 0)) = 0
def wJ (Y : xS) (u w : Nat → Int32) (i : Nat) (x : xS × Int32 × Int32 × Int32 × Int32) : Prop :=
  (∀ f, f ≠ 34 → x.1 f = Y f) ∧ (∀ j c : Nat, j < 8 → c < 8 → x.1 34 0 (nI (8 * j + c)) = if c = 3 ∧ j < i then 0 else Y 34 0 (nI (8 * j + c))) ∧ x.2.1 = sm i w ∧ x.2.2.1 = (if i = 0 then 0 else u (i - 1)) ∧ x.2.2.2.1 = (if i = 0 then 0 else w (i - 1)) ∧ x.2.2.2.2 = (1 : Int32)
theorem bal_eq {S S' : xS} {r : Int32} (h8 : S' 8 = S 8) (h9 : S' 9 = S 9) (h10 : S' 10 = S 10) : fX2_balanceOf r S' = fX2_balanceOf r S := by
  unfold fX2_balanceOf
  rw [h8, h9, h10]
theorem lev_eq {S S' : xS} {r : Int32} (h4 : S' 4 = S 4) (h6 : S' 6 = S 6) : fX2_levelOf r S' = fX2_levelOf r S := by
  unfold fX2_levelOf
  rw [h4, h6]
theorem wJ_0 (Y : xS) (u w : Nat → Int32) : wJ Y u w 0 (Y, (0 : Int32), (0 : Int32), (0 : Int32), (1 : Int32)) := ⟨fun _ _ => rfl, fun j c _ _ => by rw [if_neg (by omega)], rfl, rfl, rfl, rfl⟩
theorem e8_z {j : Nat} : ((8 : Int32) * nI j) = nI (8 * j + 0) := e8_0
theorem wJ_s {Y : xS} {cm u w : Nat → Int32} {a1 : Int32} (H : WF Y cm u w) (i : Nat) (hi : i < 8) (x : xS × Int32 × Int32 × Int32 × Int32) (hx : wJ Y u w i x) : wJ Y u w (i + 1) (bL_isWater_15 a1 (nI i) x) := by
  obtain ⟨x1, x2, x3, x4, x5, x6⟩ := hx
  obtain ⟨⟨w1, w2, w3⟩, w4, w5, w6, w7, w8, w9, w10, w11, w12⟩ := H i hi
  have g0 : x.1 34 0 (nI (8 * i + 0)) = Y 34 0 (nI (8 * i + 0)) := by rw [x2 i 0 hi (by decide), if_neg (by omega)]
  have g1 : x.1 34 0 (nI (8 * i + 1)) = Y 34 0 (nI (8 * i + 1)) := by rw [x2 i 1 hi (by decide), if_neg (by omega)]
  have g2 : x.1 34 0 (nI (8 * i + 2)) = Y 34 0 (nI (8 * i + 2)) := by rw [x2 i 2 hi (by decide), if_neg (by omega)]
  have g3 : x.1 34 0 (nI (8 * i + 3)) = Y 34 0 (nI (8 * i + 3)) := by rw [x2 i 3 hi (by decide), if_neg (by omega)]
  have f6 := x1 6 (by decide)
  have f9 := x1 9 (by decide)
  have f10 := x1 10 (by decide)
  have f35 := x1 35 (by decide)
  have f39 := x1 39 (by decide)
  have e46 : jL_isWater_46 a1 x.1 (nI i) = if i = 0 then Y 39 0 (0 : Int32) else 0 := by
    unfold jL_isWater_46
    rw [f39]
    by_cases z : i = 0
    · rw [if_pos z, if_pos (by rw [z]; exact nI_0)]
    · rw [if_neg z, if_neg (fun q => z ((xnj hi (show 0 < 8 by decide)).mp (q.trans nI_0.symm)))]
  have a1' : fX3_flowed (nI i) x.1 - x.1 35 0 (((8 : Int32) * nI i) + (5 : Int32)) = u i := by
    unfold fX3_flowed
    rw [e8_5, f9, f35]
    exact w1
  have a2' : fX3_spilled (nI i) x.1 - x.1 35 0 (((8 : Int32) * nI i) + (6 : Int32)) = w i := by
    unfold fX3_spilled
    rw [e8_6, f10, f35]
    exact w2
  have a3' : ((x.1 35 0 (((8 : Int32) * nI i) + (4 : Int32))) + (x.1 34 0 (((8 : Int32) * nI i) + (3 : Int32)))) + (jL_isWater_46 a1 x.1 (nI i)) = cm i := by
    rw [e46, e8_4, e8_3, f35, g3]
    exact w3
  unfold bL_isWater_15
  rw [a1', a2', a3']
  refine ⟨fun f hf => ?_, fun j c hj hc => ?_, ?_, ?_, ?_, ?_⟩
  · show xu x.1 34 0 (((8 : Int32) * nI i) + (3 : Int32)) (0 : Int32) f = Y f
    rw [xu_nf hf]
    exact x1 f hf
  · show xu x.1 34 0 (((8 : Int32) * nI i) + (3 : Int32)) (0 : Int32) 34 0 (nI (8 * j + c)) = _
    rw [e8_3, xrowN (by omega) (by omega), x2 j c hj hc]
    by_cases z : c = 3 ∧ j = i
    · rw [if_pos (by omega), if_pos ⟨z.1, by omega⟩]
    · rw [if_neg (by omega)]
      by_cases q : c = 3 ∧ j < i
      · rw [if_pos q, if_pos ⟨q.1, by omega⟩]
      · rw [if_neg q, if_neg (by omega)]
  · show x.2.1 + w i = sm (i + 1) w
    rw [x3]
    rfl
  · show u i = _
    rw [if_neg (by omega)]
    rfl
  · show w i = _
    rw [if_neg (by omega)]
    rfl
  · show jL_isWater_139 a1 (cm i) (u i) ((x.1 35 0 (((8 : Int32) * nI i) + (7 : Int32))) * (x.1 34 0 (((8 : Int32) * nI i) + (2 : Int32)))) (w i) ((x.1 34 0 ((8 : Int32) * nI i)) * (x.1 34 0 (((8 : Int32) * nI i) + (1 : Int32)))) x.2.2.1 x.2.2.2.1 x.1 (nI i) = 1
    rw [e8_7, e8_2, e8_1, e8_z, f35, g2, g0, g1, x4, x5]
    refine jw_one w4 w5 ?_ ?_ ?_ ?_ w10 ?_
    · rw [f6]
      exact w6
    · rw [bal_eq (x1 8 (by decide)) f9 f10, f6]
      exact w7
    · rw [f6]
      exact w8
    · rw [f6]
      exact w9
    · rw [e8_z, lev_eq (x1 4 (by decide)) f6, f6, g0]
      exact w11
theorem okW_of {Y : xS} {cm u w : Nat → Int32} (H : WF Y cm u w) : okW (sm 8 w) Y := by
  refine ⟨wJ Y u w, wJ_0 Y u w, fun i hi x hx => wJ_s H i hi x hx, fun i x hx => hx.2.2.2.2.2, fun x hx => hx.2.2.1, fun i hi x hx => ?_⟩
  rw [e8_z, hx.2.1 i 0 hi (by decide), if_neg (by omega)]
  exact (H i hi).2.2.2.2.2.2.2.2.2
theorem W_end {Y : xS} {cm u w : Nat → Int32} {a1 : Int32} (H : WF Y cm u w) : (∀ f, f ≠ 34 → (fL_isWater a1 Y).1 f = Y f) ∧ ∀ j c : Nat, j < 8 → c < 8 → (fL_isWater a1 Y).1 34 0 (nI (8 * j + c)) = if c = 3 then 0 else Y 34 0 (nI (8 * j + c)) := by
  have key := xfold_I (wJ Y u w) (b := bL_isWater_15 a1) 8 (Y, (0 : Int32), (0 : Int32), (0 : Int32), (1 : Int32)) (wJ_0 Y u w) (fun i hi x hx => wJ_s H i hi x hx)
  obtain ⟨k1, k2, -⟩ := key
  have e : fL_isWater a1 Y = ((xfold (bL_isWater_15 a1) 8 (Y, (0 : Int32), (0 : Int32), (0 : Int32), (1 : Int32))).1, (1 : Int32)) := rfl
  rw [xfst e]
  refine ⟨k1, fun j c hj hc => ?_⟩
  rw [k2 j c hj hc]
  by_cases z : c = 3
  · rw [if_pos z, if_pos ⟨z, hj⟩]
  · rw [if_neg z, if_neg (fun q => z q.1)]
