/-! 54: the law's look at the beats, the loop -/
theorem bJ_0 {X Y : xS} {T : Int32} {k : Int} (H : BF X Y T k) : bJ X Y 0 (Y, (1 : Int32)) := ⟨fun _ _ => rfl, fun m o hm ho => by
  rw [if_neg (Nat.not_lt_zero _)]
  exact (H.2.2.2.2.2 m o hm ho).2.1, rfl⟩
set_option maxHeartbeats 4000000 in
theorem bJ_s {X Y : xS} {T : Int32} {k : Int} (H : BF X Y T k) {m o : Nat} (hm : m < 8) (ho : o < 8) (x : xS × Int32) (hx : bJ X Y (8 * m + o) x) : bJ X Y (8 * m + o + 1) (bL_areBeats_12 T (nI (8 * m + o)) x) := by
  obtain ⟨x1, x2, x3⟩ := hx
  obtain ⟨e1, e2⟩ := nI_s8 hm ho
  obtain ⟨⟨n1, n2⟩, ⟨hk0, hk1, hT⟩, h0, ⟨h91, h92⟩, h35, hmo⟩ := H
  obtain ⟨p36, p37, b1, b2, b3⟩ := hmo m o hm ho
  obtain ⟨⟨v1, v2⟩, -⟩ := n2 m o hm ho
  have v3 := (n1 o ho).2.1
  have y37 : x.1 37 0 (nI (8 * m + o)) = X 32 (nI m) (nI o) := by rw [x2 m o hm ho, if_neg (Nat.lt_irrefl _)]
  have beat : fX3_beat (nI (8 * m + o) / (8 : Int32)) (nI (8 * m + o) - nI (8 * m + o) / (8 : Int32) * (8 : Int32)) x.1 = Y 31 (nI m) (nI o) := by
    unfold fX3_beat
    rw [e2, e1, x1 31 (by decide)]
  have up : jL_areBeats_38 x.1 (nI (8 * m + o)) = if X 19 0 (nI m) = 0 then 1 else 0 := by
    unfold jL_areBeats_38
    rw [e1, x1 35 (by decide), e8_1, h35 m hm]
  have grew : jL_areBeats_67 (Y 31 (nI m) (nI o)) x.1 (nI (8 * m + o)) = if Y 31 (nI m) (nI o) ≤ X 31 (nI m) (nI o) then 0 else 1 := by
    unfold jL_areBeats_67
    rw [x1 36 (by decide), p36]
  have w : jL_areBeats_86 T (if Y 31 (nI m) (nI o) ≤ X 31 (nI m) (nI o) then 0 else 1) x.1 (nI (8 * m + o)) = Y 32 (nI m) (nI o) := by
    unfold jL_areBeats_86
    rw [y37]
    rcases b1 with ⟨q1, q2⟩ | ⟨q1, q2, -⟩
    · rw [if_pos (show Y 31 (nI m) (nI o) ≤ X 31 (nI m) (nI o) by rw [q1]; exact Int32.le_refl _), if_pos rfl, q2]
    · rw [if_neg (show ¬ Y 31 (nI m) (nI o) ≤ X 31 (nI m) (nI o) by rw [Int32.le_iff_toInt_le]; omega), if_neg (by decide), q2]
  unfold bL_areBeats_12
  rw [beat, up, grew, w]
  have z1 : ∀ f, f ≠ 37 → xu x.1 37 0 (nI (8 * m + o)) (Y 32 (nI m) (nI o)) f = Y f := fun f hf => by
    rw [xu_nf hf]
    exact x1 f hf
  have z2 : ∀ m' o' : Nat, m' < 8 → o' < 8 → xu x.1 37 0 (nI (8 * m + o)) (Y 32 (nI m) (nI o)) 37 0 (nI (8 * m' + o')) = if 8 * m' + o' < 8 * m + o + 1 then Y 32 (nI m') (nI o') else X 32 (nI m') (nI o') := fun m' o' hm' ho' => by
    rw [xrowN (by omega) (by omega), x2 m' o' hm' ho']
    by_cases z : 8 * m' + o' = 8 * m + o
    · have zm : m' = m := by omega
      have zo : o' = o := by omega
      subst zm
      subst zo
      rw [if_pos rfl, if_pos (by omega)]
    · rw [if_neg z]
      by_cases y : 8 * m' + o' < 8 * m + o
      · rw [if_pos y, if_pos (by omega)]
      · rw [if_neg y, if_neg (by omega)]
  generalize xu x.1 37 0 (nI (8 * m + o)) (Y 32 (nI m) (nI o)) = x' at z1 z2
  have l318 := bJ_318 (x := x') ⟨⟨n1, n2⟩, ⟨hk0, hk1, hT⟩, h0, ⟨h91, h92⟩, h35, hmo⟩ hm ho z1
  have bo : fX3_beat (nI (8 * m + o) - nI (8 * m + o) / (8 : Int32) * (8 : Int32)) (nI (8 * m + o) - nI (8 * m + o) / (8 : Int32) * (8 : Int32)) x' = Y 31 (nI o) (nI o) := by
    unfold fX3_beat
    rw [e2, z1 31 (by decide)]
  have l101 : jL_areBeats_101 (if X 19 0 (nI m) = 0 then 1 else 0) (Y 31 (nI m) (nI o)) (if Y 31 (nI m) (nI o) ≤ X 31 (nI m) (nI o) then 0 else 1) x' (nI (8 * m + o)) = (1 : Int32) := by
    refine j101 ?_ (fun g => ?_) ?_ ?_
    · rw [z1 36 (by decide), p36, Int32.lt_iff_toInt_lt]
      rcases b1 with ⟨q1, -⟩ | ⟨q1, -, -⟩
      · rw [q1]
        omega
      · omega
    · rcases b1 with ⟨q1, -⟩ | ⟨q1, -, q3⟩
      · rw [if_pos (show Y 31 (nI m) (nI o) ≤ X 31 (nI m) (nI o) by rw [q1]; exact Int32.le_refl _)] at g
        exact absurd rfl g
      · rw [if_pos q3]
        decide
    · rw [bo, Int32.lt_iff_toInt_lt]
      omega
    · rw [bo, Int32.le_iff_toInt_le, xtadd (by rw [xt1]; omega) (by rw [xt1]; omega), xt1]
      omega
  rw [l101]
  by_cases d : m = o
  · subst d
    have c : nI (8 * m + m) / (8 : Int32) = nI (8 * m + m) - nI (8 * m + m) / (8 : Int32) * (8 : Int32) := by rw [e2, e1]
    rw [if_pos c]
    have l174 : jL_areBeats_174 (1 : Int32) (if X 19 0 (nI m) = 0 then 1 else 0) (Y 31 (nI m) (nI m)) (if Y 31 (nI m) (nI m) ≤ X 31 (nI m) (nI m) then 0 else 1) x' (nI (8 * m + m)) = (1 : Int32) := by
      obtain ⟨c1, c2⟩ := b2 rfl
      refine j174 ?_ ?_ ?_ (fun u => ?_)
      · by_cases u : X 19 0 (nI m) = 0
        · rw [if_pos u, if_neg]
          intro q
          rcases b1 with ⟨q1, -⟩ | ⟨q1, -, -⟩
          · have r := congrArg Int32.toInt (q1.symm.trans (c1 u).1)
            rw [q1] at v1 v2
            have v4 := v3
            rw [q1] at v4
            rw [xtadd (by rw [xt1]; omega) (by rw [xt1]; omega), xt1] at r
            omega
          · rw [Int32.le_iff_toInt_le] at q
            omega
        · rw [if_neg u, if_pos]
          rw [c2 u]
          exact Int32.le_refl _
      · unfold fX3_status
        rw [e2, e1, z1 33 (by decide)]
        exact (n1 m hm).2.2
      · unfold fX3_version
        rw [e1, z1 28 (by decide)]
        exact (n1 m hm).1
      · rw [z1 36 (by decide), p36]
        by_cases q : X 19 0 (nI m) = 0
        · exact (c1 q).1
        · rw [if_neg q] at u
          exact absurd rfl u
    rw [l174, l318]
    exact ⟨z1, z2, rfl⟩
  · have c : ¬ nI (8 * m + o) / (8 : Int32) = nI (8 * m + o) - nI (8 * m + o) / (8 : Int32) * (8 : Int32) := by
      rw [e2, e1]
      exact fun q => d ((xnj hm ho).mp q)
    rw [if_neg c]
    by_cases u : X 19 0 (nI m) = 0
    · have l250 : jL_areBeats_250 (1 : Int32) (T - Y 32 (nI m) (nI o)) x' (nI (8 * m + o)) = (1 : Int32) := by
        refine j250 ?_
        unfold fX3_status
        rw [e2, e1, z1 33 (by decide), b3 d u, z1 39 (by decide), h91, h92]
        rfl
      rw [if_pos u, if_neg (show ¬ (1 : Int32) = 0 by decide), l250, l318]
      exact ⟨z1, z2, rfl⟩
    · rw [if_neg u, if_pos (Eq.refl (0 : Int32)), l318]
      exact ⟨z1, z2, rfl⟩
theorem bJ_t {X Y : xS} {T : Int32} {k : Int} (H : BF X Y T k) (i : Nat) (hi : i < 64) (x : xS × Int32) (hx : bJ X Y i x) : bJ X Y (i + 1) (bL_areBeats_12 T (nI i) x) := by
  have e : i = 8 * (i / 8) + i % 8 := by omega
  rw [e] at hx ⊢
  exact bJ_s H (by omega) (by omega) x hx
theorem okB_of {X Y : xS} {T : Int32} {k : Int} (H : BF X Y T k) : okB Y := by
  have e : fX3_time Y = T := H.2.2.1
  unfold okB
  rw [e]
  exact ⟨bJ X Y, bJ_0 H, fun i hi x hx => bJ_t H i hi x hx, fun i x hx => hx.2.2⟩
theorem B_end {X Y : xS} {T : Int32} {k : Int} (H : BF X Y T k) : (∀ f, f ≠ 37 → (fL_areBeats Y).1 f = Y f) ∧ ∀ m o : Nat, m < 8 → o < 8 → (fL_areBeats Y).1 37 0 (nI (8 * m + o)) = Y 32 (nI m) (nI o) := by
  have et : fX3_time Y = T := H.2.2.1
  have e : fL_areBeats Y = ((xfold (bL_areBeats_12 (fX3_time Y)) 64 (Y, (1 : Int32))).1, (xfold (bL_areBeats_12 (fX3_time Y)) 64 (Y, (1 : Int32))).2) := rfl
  rw [xfst e, et]
  obtain ⟨k1, k2, -⟩ := xfold_I (bJ X Y) (b := bL_areBeats_12 T) 64 (Y, (1 : Int32)) (bJ_0 H) (fun i hi x hx => bJ_t H i hi x hx)
  refine ⟨k1, fun m o hm ho => ?_⟩
  rw [k2 m o hm ho, if_pos (by omega)]
