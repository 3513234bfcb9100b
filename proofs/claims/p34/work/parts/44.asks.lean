/-! 44: the cases: what they ask, and what they keep (plan44.py) -/
theorem nIr {n a b : Nat} (h1 : a ≤ n) (h2 : n ≤ b) (hb : b < 2147483648) : (a : Int) ≤ (nI n).toInt ∧ (nI n).toInt ≤ (b : Int) := by
  rw [nI_toInt (by omega)]
  omega
theorem nIb {n : Nat} (h : n < 2) : b01 (nI n) := by
  have : n = 0 ∨ n = 1 := by omega
  rcases this with rfl | rfl
  · exact Or.inl nI_0
  · exact Or.inr rfl
theorem r_g2 (a b : Int32) (X : xS) : (fX3_setGauge a b X).2 = X 11 0 a := rfl
theorem r_g1 (a b : Int32) (X : xS) : (fX3_setGauge a b X).1 = xu X 11 0 a b := rfl
theorem r_s2 (a : Int32) (X : xS) : (fX3_setSource a X).2 = X 1 0 (nI 7) := rfl
theorem r_s1 (a : Int32) (X : xS) : (fX3_setSource a X).1 = xu X 1 0 (nI 7) a := rfl
theorem r_r2 (a b : Int32) (X : xS) : (fX3_rain a b X).2 = X 7 0 a + b := rfl
theorem r_r1 (a b : Int32) (X : xS) : (fX3_rain a b X).1 = xu X 7 0 a (X 7 0 a + b) := rfl
theorem r_p2 (a b : Int32) (X : xS) : (fX3_setGroup a b X).2 = X 21 0 a := rfl
theorem r_p1 (a b : Int32) (X : xS) : (fX3_setGroup a b X).1 = xu X 21 0 a b := rfl
theorem r_op (a : Int32) (X : xS) : fX3_opening a X = X 12 0 a := rfl
theorem shape_34 {S : xS} {kk : Nat} {A D : Int32} : (fX3_shape (nI kk) A D (xu (xu S 34 0 ((8 : Int32) * (nI kk)) A) 34 0 (((8 : Int32) * (nI kk)) + (1 : Int32)) D)) 34 0 ((8 : Int32) * (nI kk)) = A := by
  unfold fX3_shape
  rw [xu_ne (by decide), xu_ne (by decide), xu_08 (by decide), xu_same]
theorem shape_lv {S : xS} {kk : Nat} {A D : Int32} (hA : (1 : Int32) ≤ A) : fX3_level (nI kk) (fX3_shape (nI kk) A D (xu (xu S 34 0 ((8 : Int32) * (nI kk)) A) 34 0 (((8 : Int32) * (nI kk)) + (1 : Int32)) D)) = (fX3_volume (nI kk) (fX3_shape (nI kk) A D (xu (xu S 34 0 ((8 : Int32) * (nI kk)) A) 34 0 (((8 : Int32) * (nI kk)) + (1 : Int32)) D))) / ((fX3_shape (nI kk) A D (xu (xu S 34 0 ((8 : Int32) * (nI kk)) A) 34 0 (((8 : Int32) * (nI kk)) + (1 : Int32)) D)) 34 0 ((8 : Int32) * (nI kk))) := by
  rw [shape_34]
  have e4 : (fX3_shape (nI kk) A D (xu (xu S 34 0 ((8 : Int32) * (nI kk)) A) 34 0 (((8 : Int32) * (nI kk)) + (1 : Int32)) D)) 4 0 (nI kk) = A := by
    unfold fX3_shape
    rw [xu_ne (by decide), xu_same]
  show fX2_levelOf (nI kk) _ = _
  unfold fX2_levelOf
  rw [e4, if_pos hA]
  rfl
/-- rows of 32 and 37 written alike -/
theorem inv_w {c t : Nat} {S Z : xS} (h : Inv c t S) (hf : ∀ f, f ≠ 32 → f ≠ 37 → Z f = S f) (hw : Lw Z) : Inv c t Z := by
  obtain ⟨⟨hB, hN, hK, hS⟩, ⟨hT, hE⟩, ⟨hG, hH⟩, hZ, hP, hW⟩ := h
  have q : ∀ f, f ≠ 32 → f ≠ 37 → Z f = S f := hf
  refine ⟨⟨Bits_eq (q _ (by decide) (by decide)) (q _ (by decide) (by decide)) (q _ (by decide) (by decide)) hB, Bnd_eq (q _ (by decide) (by decide)) (q _ (by decide) (by decide)) (q _ (by decide) (by decide)) (q _ (by decide) (by decide)) hN, KWc_eq (q _ (by decide) (by decide)) (q _ (by decide) (by decide)) (q _ (by decide) (by decide)) (q _ (by decide) (by decide)) (q _ (by decide) (by decide)) (q _ (by decide) (by decide)) hK, Src_eq (q _ (by decide) (by decide)) hS⟩, ⟨Tm_eq (q _ (by decide) (by decide)) (by rw [q 3 (by decide) (by decide)]) hT, Net_eq (q _ (by decide) (by decide)) (q _ (by decide) (by decide)) (q _ (by decide) (by decide)) (q _ (by decide) (by decide)) (q _ (by decide) (by decide)) (q _ (by decide) (by decide)) hE⟩, ⟨LkG_eq (q _ (by decide) (by decide)) (q _ (by decide) (by decide)) (q _ (by decide) (by decide)) (q _ (by decide) (by decide)) (q _ (by decide) (by decide)) (q _ (by decide) (by decide)) (q _ (by decide) (by decide)) (q _ (by decide) (by decide)) (q _ (by decide) (by decide)) hG, LkH_eq (q _ (by decide) (by decide)) (q _ (by decide) (by decide)) (q _ (by decide) (by decide)) (q _ (by decide) (by decide)) (q _ (by decide) (by decide)) hH⟩, Lz_eq (q _ (by decide) (by decide)) (q _ (by decide) (by decide)) hZ, Lp_eq (q _ (by decide) (by decide)) (q _ (by decide) (by decide)) (q _ (by decide) (by decide)) hP, hw⟩
theorem fill_32 {X : xS} {kk : Nat} {v : Int32} (hk : kk < 8) : (∀ f, f ≠ 32 → fJ7_fill_53178 (nI kk) v X f = X f) ∧ ∀ m o : Nat, m < 8 → o < 8 → fJ7_fill_53178 (nI kk) v X 32 (nI m) (nI o) = if m = kk then v else X 32 (nI m) (nI o) := by
  unfold fJ7_fill_53178
  have key := xfold_I (fun n (x : xS) => (∀ f, f ≠ 32 → x f = X f) ∧ ∀ m o : Nat, m < 8 → o < 8 → x 32 (nI m) (nI o) = if m = kk ∧ o < n then v else X 32 (nI m) (nI o)) (b := bJ7_fill_53178_5 (nI kk) v) 8 X ⟨fun _ _ => rfl, fun m o _ _ => by rw [if_neg (by omega)]⟩ (fun i hi x ⟨h1, h2⟩ => by
    unfold bJ7_fill_53178_5
    refine ⟨fun f hf => by rw [xu_nf hf]; exact h1 f hf, fun m o hm ho => ?_⟩
    rw [xrow2 hk hi hm ho, h2 m o hm ho]
    by_cases z : m = kk ∧ o = i
    · rw [if_pos z, if_pos (by omega)]
    · rw [if_neg z]
      by_cases z2 : m = kk ∧ o < i
      · rw [if_pos z2, if_pos (by omega)]
      · rw [if_neg z2, if_neg (by omega)])
  refine ⟨key.1, fun m o hm ho => ?_⟩
  rw [key.2 m o hm ho]
  by_cases z : m = kk
  · rw [if_pos ⟨z, ho⟩, if_pos z]
  · rw [if_neg (fun q => z q.1), if_neg z]
theorem loop_37 {X : xS} {kk : Nat} (hk : kk < 8) : (∀ f, f ≠ 37 → xfold (bL_law_874 (nI kk)) 8 X f = X f) ∧ ∀ m o : Nat, m < 8 → o < 8 → xfold (bL_law_874 (nI kk)) 8 X 37 0 (nI (8 * m + o)) = if m = kk then X 0 0 (nI 3) else X 37 0 (nI (8 * m + o)) := by
  have key := xfold_I (fun n (x : xS) => (∀ f, f ≠ 37 → x f = X f) ∧ ∀ m o : Nat, m < 8 → o < 8 → x 37 0 (nI (8 * m + o)) = if m = kk ∧ o < n then X 0 0 (nI 3) else X 37 0 (nI (8 * m + o))) (b := bL_law_874 (nI kk)) 8 X ⟨fun _ _ => rfl, fun m o _ _ => by rw [if_neg (by omega)]⟩ (fun i hi x ⟨h1, h2⟩ => by
    unfold bL_law_874 fX3_time
    rw [e8_n]
    refine ⟨fun f hf => by rw [xu_nf hf]; exact h1 f hf, fun m o hm ho => ?_⟩
    rw [xrowN (by omega) (by omega), h2 m o hm ho, h1 0 (by decide)]
    by_cases z : m = kk ∧ o = i
    · rw [if_pos (by omega), if_pos (by omega)]
    · rw [if_neg (by omega)]
      by_cases z2 : m = kk ∧ o < i
      · rw [if_pos z2, if_pos (by omega)]
      · rw [if_neg z2, if_neg (by omega)])
  refine ⟨key.1, fun m o hm ho => ?_⟩
  rw [key.2 m o hm ho]
  by_cases z : m = kk
  · rw [if_pos ⟨z, ho⟩, if_pos z]
  · rw [if_neg (fun q => z q.1), if_neg z]
set_option maxHeartbeats 1000000 in
theorem ci_A (c t : Nat) (S : xS) (v kk : Nat) (hc : c < 90) (ht : t ≤ 1350) (hv : v < 67108864) (hkk : kk < 8) (h : Inv c t S) : cO_A v kk S ∧ Inv (c + 1) t (cS_A v kk S) := by
  have hI := h
  obtain ⟨⟨hB, hN, hK, hS⟩, ⟨hT, hE⟩, ⟨hG, hH⟩, hZ, hP, hW⟩ := h
  refine ⟨⟨(fun p1 p2 => nI_nlt (b := 1) (by omega) (by omega)),
    (fun p1 p2 => nI_le (b := 100) (by omega) (by decide)),
    (fun p1 p2 => nI_nlt (b := 1) (by omega) (by omega)),
    (fun p1 p2 => nI_le (b := 1000) (by omega) (by decide)),
    (fun p1 p2 => by rw [shape_34]; exact nI_ne (by omega) (by omega)),
    (fun p1 p2 => shape_lv (nI_le (a := 1) (by omega) (by omega))),
    (fun p1 p2 => nI_nlt (b := 1) (by omega) (by omega)),
    (fun p1 p2 => nI_le (b := 100) (by omega) (by decide)),
    (fun p1 p2 => nI_nlt (b := 1) (by omega) (by omega)),
    (fun p1 p2 => nI_le (b := 1000) (by omega) (by decide)),
    (fun p1 p2 => by rw [shape_34]; exact nI_ne (by omega) (by omega)),
    (fun p1 p2 => shape_lv (nI_le (a := 1) (by omega) (by omega))),
    (fun p1 p2 => nI_nlt (b := 1) (by omega) (by omega)),
    (fun p1 p2 => nI_le (b := 100) (by omega) (by decide)),
    (fun p1 p2 => nI_nlt (b := 1) (by omega) (by omega)),
    (fun p1 p2 => nI_le (b := 1000) (by omega) (by decide)),
    (fun p1 p2 => by rw [shape_34]; exact nI_ne (by omega) (by omega)),
    (fun p1 p2 => shape_lv (nI_le (a := 1) (by omega) (by omega))),
    (fun p1 p2 => nI_nlt (b := 1) (by omega) (by omega)),
    (fun p1 p2 => nI_le (b := 100) (by omega) (by decide)),
    (fun p1 p2 => nI_nlt (b := 1) (by omega) (by omega)),
    (fun p1 p2 => nI_le (b := 1000) (by omega) (by decide)),
    (fun p1 p2 => by rw [shape_34]; exact nI_ne (by omega) (by omega)),
    (fun p1 p2 => shape_lv (nI_le (a := 1) (by omega) (by omega)))⟩, ?_⟩
  unfold cS_A
  split
  · split
    · unfold fX3_shape
      rw [e8_1, e8_0]
      exact Inv.mono _ _ _ _ _ (Nat.le_succ c) (Nat.le_refl t) (inv_shape hI hkk (by rw [nI_toInt (by omega)]; omega) (by rw [nI_toInt (by omega)]; omega))
    · unfold fX3_shape
      rw [e8_1, e8_0]
      exact Inv.mono _ _ _ _ _ (Nat.le_succ c) (Nat.le_refl t) (inv_shape hI hkk (by rw [nI_toInt (by omega)]; omega) (by rw [nI_toInt (by omega)]; omega))
  · split
    · unfold fX3_shape
      rw [e8_1, e8_0]
      exact Inv.mono _ _ _ _ _ (Nat.le_succ c) (Nat.le_refl t) (inv_shape hI hkk (by rw [nI_toInt (by omega)]; omega) (by rw [nI_toInt (by omega)]; omega))
    · unfold fX3_shape
      rw [e8_1, e8_0]
      exact Inv.mono _ _ _ _ _ (Nat.le_succ c) (Nat.le_refl t) (inv_shape hI hkk (by rw [nI_toInt (by omega)]; omega) (by rw [nI_toInt (by omega)]; omega))
set_option maxHeartbeats 1000000 in
theorem ci_B (c t : Nat) (S : xS) (v kk : Nat) (hc : c < 90) (ht : t ≤ 1350) (hv : v < 67108864) (hkk : kk < 8) (h : Inv c t S) : cO_B v kk S ∧ Inv (c + 1) t (cS_B v kk S) := by
  have hI := h
  obtain ⟨⟨hB, hN, hK, hS⟩, ⟨hT, hE⟩, ⟨hG, hH⟩, hZ, hP, hW⟩ := h
  refine ⟨⟨(nI_nlt (b := 1) (by omega) (by omega)),
    (nI_le (b := 50) (by omega) (by decide)),
    (by rw [r_g2, xu_ne (by decide), e8_2]; exact (hG 2 11 (by decide) kk hkk).symm)⟩, ?_⟩
  unfold cS_B
  rw [r_g1, e8_2]
  exact Inv.mono _ _ _ _ _ (Nat.le_succ c) (Nat.le_refl t) (inv_gauge hI hkk (by rw [nI_toInt (by omega)]; omega))
set_option maxHeartbeats 1000000 in
theorem ci_C (c t : Nat) (S : xS) (v kk : Nat) (hc : c < 90) (ht : t ≤ 1350) (hv : v < 67108864) (hkk : kk < 8) (h : Inv c t S) : cO_C v kk S ∧ Inv (c + 1) t (cS_C v kk S) := by
  have hI := h
  obtain ⟨⟨hB, hN, hK, hS⟩, ⟨hT, hE⟩, ⟨hG, hH⟩, hZ, hP, hW⟩ := h
  refine ⟨⟨(fun p1 => nI_nlt (b := 0) (by omega) (by omega)),
    (fun p1 => nI_le (b := 1000) (by omega) (by decide)),
    (fun p1 => by rw [r_s2, xu_ne (by decide)]; exact hP.1.symm),
    (fun p1 => nI_nlt (b := 0) (by omega) (by omega)),
    (fun p1 => nI_le (b := 1000) (by omega) (by decide)),
    (fun p1 => by rw [r_s2, xu_ne (by decide)]; exact hP.1.symm)⟩, ?_⟩
  unfold cS_C
  split
  · rw [r_s1]
    exact Inv.mono _ _ _ _ _ (Nat.le_succ c) (Nat.le_refl t) (inv_source (kk := kk) hI hkk (by rw [nI_toInt (by omega)]; omega))
  · rw [r_s1]
    exact Inv.mono _ _ _ _ _ (Nat.le_succ c) (Nat.le_refl t) (inv_source (kk := kk) hI hkk (by rw [nI_toInt (by omega)]; omega))
set_option maxHeartbeats 1000000 in
theorem ci_D (c t : Nat) (S : xS) (v kk : Nat) (hc : c < 90) (ht : t ≤ 1350) (hv : v < 67108864) (hkk : kk < 8) (h : Inv c t S) : cO_D v kk S ∧ Inv (c + 1) t (cS_D v kk S) := by
  have hI := h
  obtain ⟨⟨hB, hN, hK, hS⟩, ⟨hT, hE⟩, ⟨hG, hH⟩, hZ, hP, hW⟩ := h
  refine ⟨⟨(fun p1 => nI_nlt (b := 1) (by omega) (by omega)),
    (fun p1 => nI_le (b := 10000) (by omega) (by decide)),
    (fun p1 => by rw [r_r2, r_r1, xu_ne (f' := 7) (by decide), xu_ne (f' := 34) (by decide), xu_same, e8_3, hG 3 7 (by decide) kk hkk]),
    (fun p1 => nI_nlt (b := 1) (by omega) (by omega)),
    (fun p1 => nI_le (b := 10000) (by omega) (by decide)),
    (fun p1 => by rw [r_r2, r_r1, xu_ne (f' := 7) (by decide), xu_ne (f' := 34) (by decide), xu_same, e8_3, hG 3 7 (by decide) kk hkk])⟩, ?_⟩
  unfold cS_D
  split
  · rw [r_r1, xu_ne (by decide), e8_3]
    exact inv_rain hI hkk (by rw [nI_toInt (by omega)]; omega) hc ht
  · rw [r_r1, xu_ne (by decide), e8_3]
    exact inv_rain hI hkk (by rw [nI_toInt (by omega)]; omega) hc ht
set_option maxHeartbeats 1000000 in
theorem ci_E (c t : Nat) (S : xS) (v kk : Nat) (hc : c < 90) (ht : t ≤ 1350) (hv : v < 67108864) (hkk : kk < 8) (h : Inv c t S) : cO_E v kk S ∧ Inv (c + 1) t (cS_E v kk S) := by
  have hI := h
  obtain ⟨⟨hB, hN, hK, hS⟩, ⟨hT, hE⟩, ⟨hG, hH⟩, hZ, hP, hW⟩ := h
  refine ⟨⟨(fun p1 => nI_nlt (b := 0) (by omega) (by omega)),
    (fun p1 => nI_le (b := 1000) (by omega) (by decide)),
    (fun p1 => nI_nlt (by omega) (by omega)),
    (fun p1 => nI_le (b := 1000) (by omega) (by decide)),
    (fun p1 => nI_nlt (b := 0) (by omega) (by omega)),
    (fun p1 => nI_le (b := 1000) (by omega) (by decide)),
    (fun p1 => nI_nlt (b := 0) (by omega) (by omega)),
    (fun p1 => nI_le (b := 100) (by omega) (by decide)),
    (fun p1 => nI_nlt (b := 0) (by omega) (by omega)),
    (fun p1 => nI_le (b := 1000) (by omega) (by decide)),
    (fun p1 => nI_nlt (by omega) (by omega)),
    (fun p1 => nI_le (b := 1000) (by omega) (by decide)),
    (fun p1 => nI_nlt (b := 0) (by omega) (by omega)),
    (fun p1 => nI_le (b := 1000) (by omega) (by decide)),
    (fun p1 => nI_nlt (b := 0) (by omega) (by omega)),
    (fun p1 => nI_le (b := 100) (by omega) (by decide))⟩, ?_⟩
  unfold cS_E
  split
  · unfold fX3_setRule
    rw [e8_4, e8_5, e8_6, e8_7]
    exact Inv.mono _ _ _ _ _ (Nat.le_succ c) (Nat.le_refl t) (inv_rule hI hkk)
  · unfold fX3_setRule
    rw [e8_4, e8_5, e8_6, e8_7]
    exact Inv.mono _ _ _ _ _ (Nat.le_succ c) (Nat.le_refl t) (inv_rule hI hkk)
set_option maxHeartbeats 1000000 in
theorem ci_Fz (c t : Nat) (S : xS) (v kk : Nat) (hc : c < 90) (ht : t ≤ 1350) (hv : v < 67108864) (hkk : kk < 8) (hsub : v / 8 % 12 = 0) (h : Inv c t S) : cO_Fz v kk S ∧ Inv (c + 1) t (cS_Fz v kk S) := by
  have hI := h
  obtain ⟨⟨hB, hN, hK, hS⟩, ⟨hT, hE⟩, ⟨hG, hH⟩, hZ, hP, hW⟩ := h
  have hz := (hB kk hkk).1
  have eH : S 35 0 ((8 : Int32) * (nI kk)) = S 18 0 (nI kk) := by rw [e8_0]; exact hH 0 18 (by decide) kk hkk
  have hbh : ∀ X : xS, fX3_byHand (nI kk) (-1 : Int32) X = (xu X 18 0 (nI kk) (0 : Int32), X 12 0 (nI kk)) := fun X => by unfold fX3_byHand; exact if_pos rfl
  refine ⟨⟨(fun p1 => by rw [xu_ne (by decide)]; exact hz.resolve_right (fun q => p1 (by rw [eH]; exact q))),
    (fun p1 => by rw [r_op, r_op, xu_ne (by decide)]),
    (fun p1 => (by decide)),
    (fun p1 => (by decide)),
    (fun p1 p2 => by rw [xu_ne (by decide)]; intro q; rw [eH, q] at p1; exact absurd p1 (by decide)),
    (fun p1 => by rw [xsnd (hbh _), r_op, xu_ne (by decide)]),
    (fun p1 => by rw [xfst (hbh _), r_op, r_op, xu_ne (by decide), xu_ne (by decide)])⟩, ?_⟩
  unfold cS_Fz
  split
  · rw [hbh, e8_0]
    exact Inv.mono _ _ _ _ _ (Nat.le_succ c) (Nat.le_refl t) (inv_hand hI hkk (Or.inl rfl))
  · next q =>
    have e0 : S 35 0 ((8 : Int32) * (nI kk)) = 0 := by rw [eH]; exact hz.resolve_right (fun z => q (by rw [eH]; exact z))
    have e1 : xu S 35 0 ((8 : Int32) * (nI kk)) (0 : Int32) = S := by
      have := xu_id (S := S) (f := 35) (r := 0) (i := (8 : Int32) * (nI kk))
      rwa [e0] at this
    rw [e1]
    exact Inv.mono _ _ _ _ _ (Nat.le_succ c) (Nat.le_refl t) (hI)
set_option maxHeartbeats 1000000 in
theorem ci_Fp (c t : Nat) (S : xS) (v kk : Nat) (hc : c < 90) (ht : t ≤ 1350) (hv : v < 67108864) (hkk : kk < 8) (hsub : 1 ≤ v / 8 % 12) (h : Inv c t S) : cO_Fp v kk S ∧ Inv (c + 1) t (cS_Fp v kk S) := by
  have hI := h
  obtain ⟨⟨hB, hN, hK, hS⟩, ⟨hT, hE⟩, ⟨hG, hH⟩, hZ, hP, hW⟩ := h
  have hne : ¬ nI (v / 8 % 12 - 1) = (-1 : Int32) := fun z => by
    have e := congrArg Int32.toInt z
    rw [nI_toInt (by omega), show (-1 : Int32).toInt = -1 from rfl] at e
    omega
  have hbh : ∀ X : xS, fX3_byHand (nI kk) (nI (v / 8 % 12 - 1)) X = (xu (xu X 18 0 (nI kk) (1 : Int32)) 12 0 (nI kk) (nI (v / 8 % 12 - 1)), X 12 0 (nI kk)) := fun X => by unfold fX3_byHand; exact if_neg hne
  refine ⟨⟨(nI_le (a := 0) (by omega) (by omega)),
    (nI_le (a := 0) (by omega) (by omega)),
    ((by rw [Int32.lt_iff_toInt_lt, nI_toInt (by omega), show (-1 : Int32).toInt = -1 from rfl]; omega)),
    (nI_le (b := 10) (by omega) (by decide)),
    (fun p1 => absurd p1 hne),
    (by rw [xsnd (hbh _), r_op, xu_ne (by decide)]),
    (nI_le (a := 0) (by omega) (by omega)),
    (by rw [xfst (hbh _), r_op, xu_same])⟩, ?_⟩
  unfold cS_Fp
  rw [hbh, e8_0]
  exact Inv.mono _ _ _ _ _ (Nat.le_succ c) (Nat.le_refl t) (inv_open (inv_hand hI hkk (Or.inr rfl)) hkk (by rw [nI_toInt (by omega)]; omega))
set_option maxHeartbeats 1000000 in
theorem ci_G (c t : Nat) (S : xS) (v kk : Nat) (hc : c < 90) (ht : t ≤ 1350) (hv : v < 67108864) (hkk : kk < 8) (h : Inv c t S) : cO_G v kk S ∧ Inv (c + 1) t (cS_G v kk S) := by
  have hI := h
  obtain ⟨⟨hB, hN, hK, hS⟩, ⟨hT, hE⟩, ⟨hG, hH⟩, hZ, hP, hW⟩ := h
  have eH : S 35 0 (((8 : Int32) * (nI kk)) + (1 : Int32)) = S 19 0 (nI kk) := by rw [e8_1]; exact hH 1 19 (by decide) kk hkk
  refine ⟨⟨(fun p1 => by rw [(loop_37 hkk).1 19 (by decide), xu_ne (by decide), ← eH]; exact p1),
    (fun p1 => by rw [xu_ne (by decide), ← eH]; exact p1)⟩, ?_⟩
  unfold cS_G
  split
  · show Inv (c + 1) t (xu (xu S 35 0 (((8 : Int32) * (nI kk)) + (1 : Int32)) (1 : Int32)) 19 0 (nI kk) (1 : Int32))
    rw [e8_1]
    exact Inv.mono _ _ _ _ _ (Nat.le_succ c) (Nat.le_refl t) (inv_down hI hkk (Or.inr rfl))
  · have hY : Inv c t (xu (xu S 35 0 (nI (8 * kk + 1)) (0 : Int32)) 19 0 (nI kk) (0 : Int32)) := inv_down hI hkk (Or.inl rfl)
    rw [e8_1]
    obtain ⟨a1, a2⟩ := loop_37 (X := xu S 35 0 (nI (8 * kk + 1)) (0 : Int32)) hkk
    generalize hX : xfold (bL_law_874 (nI kk)) 8 (xu S 35 0 (nI (8 * kk + 1)) (0 : Int32)) = X at a1 a2
    obtain ⟨b1, b2⟩ := fill_32 (X := xu X 19 0 (nI kk) (0 : Int32)) (v := X 0 0 (nI 3)) hkk
    refine Inv.mono _ _ _ _ _ (Nat.le_succ c) (Nat.le_refl t) (inv_w hY (fun f f32 f37 => ?_) (fun m o hm ho => ?_))
    · show fJ7_fill_53178 (nI kk) (X 0 0 (nI 3)) (xu X 19 0 (nI kk) (0 : Int32)) f = _
      rw [b1 f f32]
      by_cases z : f = 19
      · subst z
        funext r i
        unfold xu
        simp only [if_true]
        rw [a1 19 (by decide)]
        unfold xu
        rfl
      · rw [xu_nf z, xu_nf z, a1 f f37]
    · show fJ7_fill_53178 (nI kk) (X 0 0 (nI 3)) (xu X 19 0 (nI kk) (0 : Int32)) 37 0 (nI (8 * m + o)) = fJ7_fill_53178 (nI kk) (X 0 0 (nI 3)) (xu X 19 0 (nI kk) (0 : Int32)) 32 (nI m) (nI o)
      rw [b1 37 (by decide), xu_ne (by decide), a2 m o hm ho, b2 m o hm ho, a1 0 (by decide)]
      by_cases z : m = kk
      · rw [if_pos z, if_pos z]
      · rw [if_neg z, if_neg z, xu_ne (by decide), xu_ne (by decide), a1 32 (by decide), xu_ne (by decide)]
        exact hW m o hm ho
set_option maxHeartbeats 1000000 in
theorem ci_H (c t : Nat) (S : xS) (v kk : Nat) (hc : c < 90) (ht : t ≤ 1350) (hv : v < 67108864) (hkk : kk < 8) (h : Inv c t S) : cO_H v kk S ∧ Inv (c + 1) t (cS_H v kk S) := by
  have hI := h
  obtain ⟨⟨hB, hN, hK, hS⟩, ⟨hT, hE⟩, ⟨hG, hH⟩, hZ, hP, hW⟩ := h
  refine ⟨⟨(fun p1 => (by decide)),
    (fun p1 => (by decide)),
    (fun p1 => by rw [r_p2, xu_ne (by decide), e8_3]; exact (hH 3 21 (by decide) kk hkk).symm),
    (fun p1 => nI_nlt (b := 0) (by omega) (by omega)),
    (fun p1 => nI_le (b := 3) (by omega) (by decide)),
    (fun p1 => by rw [r_p2, xu_ne (by decide), e8_3]; exact (hH 3 21 (by decide) kk hkk).symm)⟩, ?_⟩
  unfold cS_H
  split
  · rw [r_p1, e8_3]
    exact Inv.mono _ _ _ _ _ (Nat.le_succ c) (Nat.le_refl t) (inv_group hI hkk)
  · rw [r_p1, e8_3]
    exact Inv.mono _ _ _ _ _ (Nat.le_succ c) (Nat.le_refl t) (inv_group hI hkk)
set_option maxHeartbeats 1000000 in
theorem ci_I (c t : Nat) (S : xS) (v kk : Nat) (hc : c < 90) (ht : t ≤ 1350) (hv : v < 67108864) (hkk : kk < 8) (h : Inv c t S) : cO_I v kk S ∧ Inv (c + 1) t (cS_I v kk S) := by
  have hI := h
  obtain ⟨⟨hB, hN, hK, hS⟩, ⟨hT, hE⟩, ⟨hG, hH⟩, hZ, hP, hW⟩ := h
  have hb := (hB kk hkk).2.2
  have hj : jL_act5_75 (nI kk) (nI (v / 8 % 2)) = nI (v / 8 % 2) := by
    have q : b01 (nI (v / 8 % 2)) := nIb (by omega)
    unfold jL_act5_75
    rcases q with q | q <;> rw [q] <;> rfl
  have h0 : ∀ X : xS, b01 (X 20 0 (nI kk)) → fL_act5 (nI kk) (nI (v / 8 % 2)) X = (xu X 20 0 (nI kk) (nI (v / 8 % 2)), X 20 0 (nI kk)) := fun X hx => by
    have e2 : ∀ a, (fX3_setStuck (nI kk) a X).2 = X 20 0 (nI kk) := fun a => rfl
    have e1 : ∀ a, (fX3_setStuck (nI kk) a X).1 = xu X 20 0 (nI kk) a := fun a => rfl
    unfold fL_act5
    rw [e2, e1, hj]
    rcases hx with q | q
    · rw [if_pos q, q]
    · rw [if_neg (by rw [q]; decide), q]
  have h5 : (fL_act5 (nI kk) (nI (v / 8 % 2)) (xu S 35 0 (((8 : Int32) * (nI kk)) + (2 : Int32)) (nI (v / 8 % 2)))).2 = (xu S 35 0 (((8 : Int32) * (nI kk)) + (2 : Int32)) (nI (v / 8 % 2))) 20 0 (nI kk) := xsnd (h0 _ (by rw [xu_ne (by decide)]; exact hb))
  have h6 : (fL_act5 (nI kk) (nI (v / 8 % 2)) (xu S 35 0 (((8 : Int32) * (nI kk)) + (2 : Int32)) (nI (v / 8 % 2)))).1 = xu (xu S 35 0 (((8 : Int32) * (nI kk)) + (2 : Int32)) (nI (v / 8 % 2))) 20 0 (nI kk) (nI (v / 8 % 2)) := xfst (h0 _ (by rw [xu_ne (by decide)]; exact hb))
  refine ⟨⟨(xn01 (by rw [xu_ne (by decide)]; exact hb)),
    (by rw [h5]; rw [xu_ne (by decide), e8_2, hH 2 20 (by decide) kk hkk])⟩, ?_⟩
  unfold cS_I
  rw [h6, e8_2]
  exact Inv.mono _ _ _ _ _ (Nat.le_succ c) (Nat.le_refl t) (inv_stuck hI hkk (nIb (by omega)))
set_option maxHeartbeats 1000000 in
theorem ci_J (c t : Nat) (S : xS) (v kk : Nat) (hc : c < 90) (ht : t ≤ 1350) (hv : v < 67108864) (hkk : kk < 8) (h : Inv c t S) : cO_J v kk S ∧ Inv (c + 1) t (cS_J v kk S) := by
  have hI := h
  obtain ⟨⟨hB, hN, hK, hS⟩, ⟨hT, hE⟩, ⟨hG, hH⟩, hZ, hP, hW⟩ := h
  refine ⟨⟨(fun p1 => nI_nlt (b := 1) (by omega) (by omega)),
    (fun p1 => nI_le (b := 50) (by omega) (by decide)),
    (fun p1 => nI_nlt (by omega) (by omega)),
    (fun p1 => nI_le (b := 100) (by omega) (by decide)),
    (fun p1 => nI_nlt (b := 1) (by omega) (by omega)),
    (fun p1 => nI_le (b := 50) (by omega) (by decide)),
    (fun p1 => nI_nlt (by omega) (by omega)),
    (fun p1 => nI_le (b := 100) (by omega) (by decide))⟩, ?_⟩
  unfold cS_J
  split
  · unfold fX3_setTimes
    exact Inv.mono _ _ _ _ _ (Nat.le_succ c) (Nat.le_refl t) (inv_times (kk := kk) hI hkk)
  · unfold fX3_setTimes
    exact Inv.mono _ _ _ _ _ (Nat.le_succ c) (Nat.le_refl t) (inv_times (kk := kk) hI hkk)
