/-! 35: the water's way in one tick -/
theorem xu_comm {S : xS} {f f' : Nat} {r i v r' i' v' : Int32} (h : f ≠ f') : xu (xu S f r i v) f' r' i' v' = xu (xu S f' r' i' v') f r i v := by
  funext g s k
  unfold xu
  by_cases h1 : g = f'
  · subst h1
    rw [if_pos rfl, if_neg (Ne.symm h), if_neg (Ne.symm h), if_pos rfl]
  · rw [if_neg h1]
    by_cases h2 : g = f
    · subst h2
      rw [if_pos rfl, if_pos rfl, if_neg h]
    · rw [if_neg h2, if_neg h2, if_neg h1]
theorem takeIn_AA {S M : xS} (h : AA S M) : AA (fX2_takeIn S) (fX4_falls M) := by
  have z8 : vp_in (0 : Int32) 8 := in8 (i := 0) (by decide)
  unfold fX2_takeIn fX4_falls
  refine xfold_2 AA 8 _ _ ?_ fun i hi x y q => ?_
  · unfold fX2_receive
    rw [← h.one (f := 6) (g := 3) (by decide) z8, ← h.1.1]
    exact AA_S (AA_1 (f := 6) (g := 3) (by decide) h) (by decide)
  · unfold bX2_takeIn_11 bX4_falls_15 fX2_receive
    rw [← q.one (f := 6) (g := 3) (by decide) (in8 hi), ← q.one (f := 7) (g := 6) (by decide) (in8 hi)]
    exact AA_1 (f := 7) (g := 6) (by decide) (AA_S (AA_1 (f := 6) (g := 3) (by decide) q) (by decide))
theorem takeIn_keep {S : xS} {f : Nat} (h6 : f ≠ 6) (h7 : f ≠ 7) (h8 : f ≠ 8) : fX2_takeIn S f = S f := by
  unfold fX2_takeIn
  refine xfold_T (fun (x : xS) => x f = S f) _ 8 _ (fun i hi x hx => ?_) ?_
  · unfold bX2_takeIn_11 fX2_receive
    rw [xu_nf h7, xu_nf h8, xu_nf h6]
    exact hx
  · unfold fX2_receive
    rw [xu_nf h8, xu_nf h6]
theorem falls_keep {M : xS} {g : Nat} (h3 : g ≠ 3) (h6 : g ≠ 6) : fX4_falls M g = M g := by
  unfold fX4_falls
  refine xfold_T (fun (x : xS) => x g = M g) _ 8 _ (fun i hi x hx => ?_) ?_
  · unfold bX4_falls_15
    rw [xu_nf h6, xu_nf h3]
    exact hx
  · rw [xu_nf h3]
/-! the balance, by sums -/
def inn (S : xS) (j : Nat) : Int32 := if j = 0 then 0 else S 9 0 (nI (j - 1)) + S 10 0 (nI (j - 1))
def Bl (S : xS) : Prop := ∀ j, j < 8 → S 6 0 (nI j) + S 9 0 (nI j) + S 10 0 (nI j) = S 8 0 (nI j) + inn S j
theorem i32_out (a b c : Int32) : a - b - c + b + c = a := by
  rw [Int32.add_assoc, Int32.add_comm b c, ← Int32.add_assoc, Int32.sub_add_cancel, Int32.sub_add_cancel]
theorem i32_in (a b c : Int32) : a + b + c - b - c = a := by
  rw [Int32.add_assoc, Int32.add_comm b c, ← Int32.add_assoc, Int32.add_sub_cancel, Int32.add_sub_cancel]
theorem i32_mv (a b t : Int32) : (a - t) + (b + t) = a + b := by
  rw [Int32.add_comm b t, ← Int32.add_assoc, Int32.sub_add_cancel]
theorem nI_pr8 {j : Nat} (h : 0 < j) (hj : j < 8) : nI j - (1 : Int32) = nI (j - 1) := by
  apply Int32.toInt_inj.mp
  rw [xtsub (by rw [nI_toInt (by omega), xt1]; omega) (by rw [nI_toInt (by omega), xt1]; omega), nI_toInt (by omega), nI_toInt (by omega), xt1]
  omega
theorem bal_nI {S : xS} {j : Nat} (hj : j < 8) : fX2_balanceOf (nI j) S = S 8 0 (nI j) + inn S j - S 9 0 (nI j) - S 10 0 (nI j) := by
  unfold fX2_balanceOf inn
  have e : (nI j ≤ (0 : Int32)) ↔ j = 0 := by
    rw [Int32.le_iff_toInt_le, nI_toInt (by omega), xt0]
    omega
  by_cases h : j = 0
  · rw [if_pos (e.mpr h), if_pos h, Int32.add_zero]
  · rw [if_neg (fun z => h (e.mp z)), if_neg h, nI_pr8 (by omega) hj]
theorem Bl_of {S : xS} (h : Bal S) : Bl S := fun j hj => by
  rw [h (nI j) (in8 hj), bal_nI hj]
  exact i32_out _ _ _
theorem Bal_of {S : xS} (h : Bl S) : Bal S := fun r hr => by
  obtain ⟨j, hj, rfl⟩ := xin_j hr
  rw [bal_nI hj, ← h j hj]
  exact (i32_in _ _ _).symm
theorem xrow_nI {S : xS} {f : Nat} {v : Int32} {i j : Nat} (hi : i < 8) (hj : j < 8) : xu S f 0 (nI i) v f 0 (nI j) = if j = i then v else S f 0 (nI j) := by
  rw [xu_row]
  by_cases h : j = i
  · rw [if_pos (by rw [h]), if_pos h]
  · rw [if_neg (fun z => h ((xnj hj hi).mp z)), if_neg h]
def KW (B : Int) (S : xS) : Prop := Wat B S ∧ Bl S
theorem KW_receive {B : Int} {S : xS} {i : Nat} {a : Int32} (hB : B + 2000 < 2147483648) (hi : i < 8) (ha : 0 ≤ a.toInt) (haB : a.toInt ≤ 2000) (h : KW B S) : KW (B + a.toInt) (fX2_receive (nI i) a S) := by
  obtain ⟨⟨h1, h2⟩, h3⟩ := h
  have b1 := sum8_le (fun j hj => (h1 j hj).1) hi
  have b2 := sum8_pos (fun j hj => (h1 j hj).2)
  have b3 := (h1 i hi).1
  have hv : vol S i = (S 6 0 (nI i)).toInt := rfl
  have ea : (S 6 0 (nI i) + a).toInt = vol S i + a.toInt := by rw [xtadd (by omega) (by omega), hv]
  have ev : ∀ j, j < 8 → vol (fX2_receive (nI i) a S) j = if j = i then vol S i + a.toInt else vol S j := fun j hj => by
    show (fX2_receive (nI i) a S 6 0 (nI j)).toInt = _
    unfold fX2_receive
    rw [xu_ne (by decide), xrow_nI hi hj]
    split
    · exact ea
    · rfl
  have ec : cld (fX2_receive (nI i) a S) = cld S := by
    unfold cld fX2_receive
    rw [xu_nf (by decide), xu_nf (by decide)]
  refine ⟨⟨fun j hj => ⟨?_, by rw [ec]; exact (h1 j hj).2⟩, ?_⟩, fun j hj => ?_⟩
  · rw [ev j hj]
    split
    · omega
    · exact (h1 j hj).1
  · rw [sum8_cong ev, sum8_upd _ _ hi, ec]
    omega
  · have e0 : inn (fX2_receive (nI i) a S) j = inn S j := by
      unfold inn fX2_receive
      rw [xu_nf (by decide), xu_nf (by decide), xu_nf (by decide), xu_nf (by decide)]
    rw [e0]
    unfold fX2_receive
    rw [xu_ne (f' := 6) (by decide), xrow_nI hi hj, xu_ne (f' := 9) (by decide), xu_ne (f' := 9) (by decide), xu_ne (f' := 10) (by decide), xu_ne (f' := 10) (by decide), xrow_nI hi hj]
    have q := h3 j hj
    by_cases z : j = i
    · subst z
      rw [if_pos rfl, if_pos rfl, show S 8 0 (nI j) + a + inn S j = (S 8 0 (nI j) + inn S j) + a by ac_rfl, ← q]
      ac_rfl
    · rw [if_neg z, if_neg z]
      exact q
theorem KW_cloud {B : Int} {S : xS} {i : Nat} (hB : B + 2000 < 2147483648) (hi : i < 8) (h : KW B S) : KW B (bX2_takeIn_11 (nI i) S) := by
  obtain ⟨⟨h1, h2⟩, h3⟩ := h
  have b1 := sum8_le (fun j hj => (h1 j hj).1) hi
  have b2 := sum8_le (fun j hj => (h1 j hj).2) hi
  have b3 := (h1 i hi).1
  have b4 := (h1 i hi).2
  have hv : vol S i = (S 6 0 (nI i)).toInt := rfl
  have hc : cld S i = (S 7 0 (nI i)).toInt := rfl
  have ea : (S 6 0 (nI i) + S 7 0 (nI i)).toInt = vol S i + cld S i := by rw [xtadd (by omega) (by omega), hv, hc]
  have ev : ∀ j, j < 8 → vol (bX2_takeIn_11 (nI i) S) j = if j = i then vol S i + cld S i else vol S j := fun j hj => by
    show (bX2_takeIn_11 (nI i) S 6 0 (nI j)).toInt = _
    unfold bX2_takeIn_11 fX2_receive
    rw [xu_ne (by decide), xu_ne (by decide), xrow_nI hi hj]
    split
    · exact ea
    · rfl
  have ec : ∀ j, j < 8 → cld (bX2_takeIn_11 (nI i) S) j = if j = i then 0 else cld S j := fun j hj => by
    show (bX2_takeIn_11 (nI i) S 7 0 (nI j)).toInt = _
    unfold bX2_takeIn_11
    rw [xrow_nI hi hj]
    split
    · rfl
    · unfold fX2_receive
      rw [xu_ne (by decide), xu_ne (by decide)]
      rfl
  refine ⟨⟨fun j hj => ⟨?_, ?_⟩, ?_⟩, fun j hj => ?_⟩
  · rw [ev j hj]
    split
    · omega
    · exact (h1 j hj).1
  · rw [ec j hj]
    split
    · omega
    · exact (h1 j hj).2
  · rw [sum8_cong ev, sum8_cong ec, sum8_upd _ _ hi, sum8_upd _ _ hi]
    omega
  · have e0 : inn (bX2_takeIn_11 (nI i) S) j = inn S j := by
      unfold inn bX2_takeIn_11 fX2_receive
      (repeat rw [xu_nf (by decide)])
    rw [e0]
    unfold bX2_takeIn_11 fX2_receive
    rw [xu_ne (f' := 6) (by decide), xu_ne (f' := 6) (by decide), xrow_nI hi hj, xu_ne (f' := 9) (by decide), xu_ne (f' := 9) (by decide), xu_ne (f' := 9) (by decide), xu_ne (f' := 10) (by decide), xu_ne (f' := 10) (by decide), xu_ne (f' := 10) (by decide), xu_ne (f' := 8) (by decide), xrow_nI hi hj]
    have q := h3 j hj
    by_cases z : j = i
    · subst z
      rw [if_pos rfl, if_pos rfl, show S 8 0 (nI j) + S 7 0 (nI j) + inn S j = (S 8 0 (nI j) + inn S j) + S 7 0 (nI j) by ac_rfl, ← q]
      ac_rfl
    · rw [if_neg z, if_neg z]
      exact q
theorem KW_takeIn {B : Int} {S : xS} (hB : B + 4000 < 2147483648) (h : KW B S) (hs : Src S) : KW (B + 1000) (fX2_takeIn S) := by
  unfold fX2_takeIn
  unfold Src at hs
  refine xfold_T (KW (B + 1000)) _ 8 _ (fun i hi x hx => KW_cloud (by omega) hi hx) ?_
  have k := KW_receive (i := 0) (a := S 1 0 (nI 7)) (by omega) (by decide) hs.1 (by omega) h
  rw [nI_0] at k
  exact ⟨⟨k.1.1, by have := k.1.2; omega⟩, k.2⟩
