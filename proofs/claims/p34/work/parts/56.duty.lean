/-! 56: the duty of a tick -/
theorem sp_le {B : Int} {A : xS} (hB : B + 2000 < 2147483648) (hb : Bnd A) (hk : KW B A) : ∀ j, j < 8 → (spe A j).toInt ≤ B := by
  have key := xfold_I (fun n x => SpI B A n x ∧ ∀ j, j < n → (spe A j).toInt ≤ B) (b := bX2_spillOver_4) 8 (A, (0 : Int32)) ⟨⟨hk, fun _ _ _ => rfl, fun j _ => by rw [if_neg (by omega)], fun j hj => by
    rw [if_neg (by omega)]
    by_cases z : j = 0
    · subst z
      rw [if_pos rfl]
      rfl
    · rw [if_neg z], rfl, fun j hj => absurd hj (by omega)⟩, fun j hj => absurd hj (by omega)⟩ (fun i hi x ⟨hx, hl⟩ => by
    refine ⟨sp_step hB hb hi hx, fun j hj => ?_⟩
    by_cases z : j = i
    · subst z
      obtain ⟨h1, h2, h3, h4, -⟩ := hx
      have e6 : x.1 6 0 (nI j) = spv A j := by rw [h4 j hi, if_neg (Nat.lt_irrefl _), if_pos rfl]
      have hbx : Bnd x.1 := Bnd_eq (h2 4 (by decide) (by decide)) (h2 5 (by decide) (by decide)) (h2 11 (by decide) (by decide)) (h2 12 (by decide) (by decide)) hb
      have eo : ov x.1 (nI j) = spe A j := by
        unfold ov spe exc rmo
        rw [e6, h2 4 (by decide) (by decide), h2 5 (by decide) (by decide)]
      obtain ⟨⟨-, o2⟩, -⟩ := ov_facts hi hbx (h1.1.1 j hi).1
      rw [eo] at o2
      have l1 := sum8_le (fun j hj => (h1.1.1 j hj).1) hi
      have l2 := sum8_pos (fun j hj => (h1.1.1 j hj).2)
      have l3 := h1.1.2
      omega
    · exact hl j (by omega))
  exact key.2
theorem wat_le {B : Int} {X : xS} (hB : B + 5000 < 2147483648) (hb : Bnd X) (hk : KW B X) (hs : Src X) : ∀ j, j < 8 → (spe (sX3_passOneTick_25 X) j).toInt ≤ B + 1000 := by
  have k0 : KW B (xu X 0 0 (nI 3) ((X 0 0 (nI 3)) + (1 : Int32))) := KW_eq (xu_nf (by decide)) (xu_nf (by decide)) (xu_nf (by decide)) (xu_nf (by decide)) (xu_nf (by decide)) hk
  have s0 : Src (xu X 0 0 (nI 3) ((X 0 0 (nI 3)) + (1 : Int32))) := by
    unfold Src
    rw [xu_nf (by decide)]
    exact hs
  have a0 : ∀ f, f ≠ 0 → xu X 0 0 (nI 3) ((X 0 0 (nI 3)) + (1 : Int32)) f = X f := fun f hf => xu_nf hf
  have k1 := KW_takeIn (by omega) k0 s0
  obtain ⟨p1, -⟩ := take_all (xu X 0 0 (nI 3) ((X 0 0 (nI 3)) + (1 : Int32)))
  have d1 : sX3_passOneTick_14 X = fX2_takeIn (xu X 0 0 (nI 3) ((X 0 0 (nI 3)) + (1 : Int32))) := rfl
  rw [← d1] at k1 p1
  have f1 : ∀ f, f ≠ 0 → f ≠ 6 → f ≠ 7 → f ≠ 8 → sX3_passOneTick_14 X f = X f := fun f h0 h6 h7 h8 => (p1 f h6 h7 h8).trans (a0 f h0)
  have b1 : Bnd (sX3_passOneTick_14 X) := Bnd_eq (f1 _ (by decide) (by decide) (by decide) (by decide)) (f1 _ (by decide) (by decide) (by decide) (by decide)) (f1 _ (by decide) (by decide) (by decide) (by decide)) (f1 _ (by decide) (by decide) (by decide) (by decide)) hb
  have k2 := KW_flow (by omega) b1 k1
  obtain ⟨q1, -⟩ := LT_all (sX3_passOneTick_14 X)
  have d2 : sX3_passOneTick_25 X = fX2_letThrough (sX3_passOneTick_14 X) := rfl
  rw [← d2] at k2 q1
  have b2 : Bnd (sX3_passOneTick_25 X) := Bnd_eq (q1 _ (by decide) (by decide)) (q1 _ (by decide) (by decide)) (q1 _ (by decide) (by decide)) (q1 _ (by decide) (by decide)) b1
  exact sp_le (by omega) b2 k2
theorem sm_pos {w : Nat → Int32} {b : Int} : ∀ n : Nat, (n : Int) * b < 2147483648 → 0 ≤ b → (∀ j, j < n → 0 ≤ (w j).toInt ∧ (w j).toInt ≤ b) → 0 ≤ (sm n w).toInt ∧ (sm n w).toInt ≤ n * b
  | 0, _, _, _ => by
    show 0 ≤ (0 : Int32).toInt ∧ (0 : Int32).toInt ≤ _
    rw [xt0]
    omega
  | n + 1, h, hb, hw => by
    have e : ((n + 1 : Nat) : Int) * b = n * b + b := by
      rw [Int.natCast_add, Int.add_mul]
      simp
    rw [e] at h ⊢
    have i := sm_pos n (by omega) hb (fun j hj => hw j (by omega))
    have j := hw n (by omega)
    show 0 ≤ (sm n w + w n).toInt ∧ (sm n w + w n).toInt ≤ _
    rw [xtadd (by omega) (by omega)]
    omega
theorem up_fold {X : xS} (h : ∀ j, j < 8 → X 35 0 (nI (8 * j + 1)) = X 19 0 (nI j)) : ∀ n, n ≤ 8 → (xfold (bL_isTicked_24 X) n (0 : Int32)).toInt = ups X n
  | 0, _ => xt0
  | n + 1, hn => by
    show (xfold (bL_isTicked_24 X) n (0 : Int32) + jL_isTicked_33 X (nI n)).toInt = ups X n + (if X 19 0 (nI n) = 0 then 1 else 0)
    have i := up_fold h n (by omega)
    have b := ups_b X n
    unfold jL_isTicked_33
    rw [e8_1, h n (by omega)]
    by_cases z : X 19 0 (nI n) = 0
    · rw [if_pos z, if_pos z, xtadd (by rw [i, xt1]; omega) (by rw [i, xt1]; omega), i, xt1]
    · rw [if_neg z, if_neg z, xtadd (by rw [i, xt0]; omega) (by rw [i, xt0]; omega), i, xt0]
theorem LGf : ∀ p ∈ LG, (p.1 = 3 → p.2 = 7) ∧ (p.1 ≠ 3 → p.2 ≠ 0 ∧ p.2 ≠ 3 ∧ (p.2 < 6 ∨ 10 < p.2) ∧ p.2 < 28 ∧ p.2 ≠ 12 ∧ p.2 ≠ 17) := by decide
theorem LHf : ∀ p ∈ LH, p.1 < 4 ∧ 17 < p.2 ∧ p.2 < 28 := by decide
