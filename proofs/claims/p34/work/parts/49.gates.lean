/-! 49: the gates of the class in one tick -/
def gMi (o : Int32) : Int32 := if (o - (1 : Int32)) < (0 : Int32) then (0 : Int32) else (o - (1 : Int32))
def gPl (d o : Int32) : Int32 := if (10 : Int32) < (o + d) then (10 : Int32) else (o + d)
def gFo (b lo hi o c : Int32) : Int32 := if b ≤ hi then (if lo ≤ b then o else gMi o) else if c = (0 : Int32) then (if lo ≤ b then o else gMi o) else gPl 1 o
theorem xu_id2 {S : xS} {f : Nat} {r i v : Int32} (h : v = S f r i) : xu S f r i v = S := by
  subst h
  exact xu_id
theorem fo_form (i b c : Int32) (x : xS) : fX0_follow i b c x = xu x 12 0 i (gFo b (x 13 0 i) (x 14 0 i) (x 12 0 i) c) := by
  unfold fX0_follow gFo gMi gPl
  by_cases h1 : b ≤ x 14 0 i
  · rw [if_pos h1, if_pos h1]
    by_cases h2 : x 13 0 i ≤ b
    · rw [if_pos h2, if_pos h2, xu_id]
    · rw [if_neg h2, if_neg h2]
  · rw [if_neg h1, if_neg h1]
    by_cases h3 : c = 0
    · rw [if_pos h3, if_pos h3]
      by_cases h2 : x 13 0 i ≤ b
      · rw [if_pos h2, if_pos h2, xu_id]
      · rw [if_neg h2, if_neg h2]
    · rw [if_neg h3, if_neg h3]
def gO (A : xS) (j : Nat) : Int32 × Int32 :=
  if A 19 0 (nI j) = (0 : Int32) then
    if A 18 0 (nI j) = (0 : Int32) then
      if (8 : Int32) ≤ nI j + (1 : Int32) then (gFo (A 29 (nI j) (nI j)) (A 13 0 (nI j)) (A 14 0 (nI j)) (A 12 0 (nI j)) 1, A 17 0 (nI j))
      else if fX1_isOld (nI j) (nI j + (1 : Int32)) (A 0 0 (nI 3)) (A 16 0 (nI j)) A = (0 : Int32) then
        if A 15 0 (nI j) ≤ A 29 (nI j) (nI j + (1 : Int32)) then (gFo (A 29 (nI j) (nI j)) (A 13 0 (nI j)) (A 14 0 (nI j)) (A 12 0 (nI j)) 0, A 17 0 (nI j))
        else (gFo (A 29 (nI j) (nI j)) (A 13 0 (nI j)) (A 14 0 (nI j)) (A 12 0 (nI j)) 1, A 17 0 (nI j))
      else (gPl 2 (A 12 0 (nI j)), A 17 0 (nI j) + (1 : Int32))
    else (A 12 0 (nI j), A 17 0 (nI j))
  else (A 12 0 (nI j), A 17 0 (nI j))
theorem gate_eq (x : xS) (j : Nat) : bX3_ruleGates_2 (nI j) x = xu (xu x 12 0 (nI j) (gO x j).1) 17 0 (nI j) (gO x j).2 := by
  have n17 : ∀ V, xu x 12 0 (nI j) V 17 0 (nI j) = x 17 0 (nI j) := fun V => xu_ne (by decide)
  unfold bX3_ruleGates_2 fX3_ruleGate gO
  by_cases u : x 19 0 (nI j) = 0
  · rw [if_pos u, if_pos u]
    by_cases h : x 18 0 (nI j) = 0
    · rw [if_pos h, if_pos h]
      by_cases e : (8 : Int32) ≤ nI j + (1 : Int32)
      · rw [if_pos e, if_pos e, fo_form]
        exact (xu_id2 (n17 _).symm).symm
      · rw [if_neg e, if_neg e]
        by_cases o : fX1_isOld (nI j) (nI j + (1 : Int32)) (x 0 0 (nI 3)) (x 16 0 (nI j)) x = 0
        · rw [if_pos o, if_pos o]
          by_cases w : x 15 0 (nI j) ≤ x 29 (nI j) (nI j + (1 : Int32))
          · rw [if_pos w, if_pos w, fo_form]
            exact (xu_id2 (n17 _).symm).symm
          · rw [if_neg w, if_neg w, fo_form]
            exact (xu_id2 (n17 _).symm).symm
        · rw [if_neg o, if_neg o]
          rfl
    · rw [if_neg h, if_neg h]
      exact ((xu_id2 (n17 _).symm).trans xu_id).symm
  · rw [if_neg u, if_neg u]
    exact ((xu_id2 (n17 _).symm).trans xu_id).symm
theorem gO_cong {x A : xS} {j : Nat} (h : ∀ f, f ≠ 12 → f ≠ 17 → x f = A f) (h2 : x 12 0 (nI j) = A 12 0 (nI j)) (h7 : x 17 0 (nI j) = A 17 0 (nI j)) : gO x j = gO A j := by
  unfold gO fX1_isOld fX1_hasNews
  rw [h2, h7, h 19 (by decide) (by decide), h 18 (by decide) (by decide), h 29 (by decide) (by decide), h 13 (by decide) (by decide), h 14 (by decide) (by decide), h 15 (by decide) (by decide), h 16 (by decide) (by decide), h 28 (by decide) (by decide), h 30 (by decide) (by decide), h 0 (by decide) (by decide)]
def RG (A : xS) (n : Nat) (x : xS) : Prop := (∀ f, f ≠ 12 → f ≠ 17 → x f = A f) ∧ (∀ j : Nat, j < 8 → x 12 0 (nI j) = if j < n then (gO A j).1 else A 12 0 (nI j)) ∧ ∀ j : Nat, j < 8 → x 17 0 (nI j) = if j < n then (gO A j).2 else A 17 0 (nI j)
theorem rg_all (A : xS) : RG A 8 (fX3_ruleGates A) := by
  unfold fX3_ruleGates
  refine xfold_I (RG A) (b := bX3_ruleGates_2) 8 A ⟨fun _ _ _ => rfl, fun j _ => by rw [if_neg (Nat.not_lt_zero _)], fun j _ => by rw [if_neg (Nat.not_lt_zero _)]⟩ (fun i hi x ⟨h1, h2, h3⟩ => ?_)
  have e2 : x 12 0 (nI i) = A 12 0 (nI i) := by rw [h2 i hi, if_neg (Nat.lt_irrefl _)]
  have e3 : x 17 0 (nI i) = A 17 0 (nI i) := by rw [h3 i hi, if_neg (Nat.lt_irrefl _)]
  rw [gate_eq, gO_cong h1 e2 e3]
  refine ⟨fun f f2 f7 => by rw [xu_nf f7, xu_nf f2]; exact h1 f f2 f7, fun j hj => ?_, fun j hj => ?_⟩
  · rw [xu_ne (by decide), xrow_nI hi hj, h2 j hj]
    by_cases z : j = i
    · subst z
      rw [if_pos rfl, if_pos (by omega)]
    · rw [if_neg z]
      by_cases w : j < i
      · rw [if_pos w, if_pos (by omega)]
      · rw [if_neg w, if_neg (by omega)]
  · rw [xrow_nI hi hj, xu_ne (by decide), h3 j hj]
    by_cases z : j = i
    · subst z
      rw [if_pos rfl, if_pos (by omega)]
    · rw [if_neg z]
      by_cases w : j < i
      · rw [if_pos w, if_pos (by omega)]
      · rw [if_neg w, if_neg (by omega)]
theorem gFo_b {b lo hi o c : Int32} (h : 0 ≤ o.toInt ∧ o.toInt ≤ 10) : 0 ≤ (gFo b lo hi o c).toInt ∧ (gFo b lo hi o c).toInt ≤ 10 := by
  unfold gFo
  have m : 0 ≤ (gMi o).toInt ∧ (gMi o).toInt ≤ 10 := vm_b h
  have p : 0 ≤ (gPl 1 o).toInt ∧ (gPl 1 o).toInt ≤ 10 := vp_b ⟨by decide, by decide⟩ h
  (repeat' split) <;> first | exact h | exact m | exact p
theorem gO_or (A : xS) (j : Nat) : (gO A j).1 = A 12 0 (nI j) ∨ (gO A j).1 = gPl 2 (A 12 0 (nI j)) ∨ ∃ b lo hi c, (gO A j).1 = gFo b lo hi (A 12 0 (nI j)) c := by
  unfold gO
  by_cases u : A 19 0 (nI j) = 0
  · rw [if_pos u]
    by_cases h : A 18 0 (nI j) = 0
    · rw [if_pos h]
      by_cases e : (8 : Int32) ≤ nI j + (1 : Int32)
      · rw [if_pos e]
        exact Or.inr (Or.inr ⟨_, _, _, _, rfl⟩)
      · rw [if_neg e]
        by_cases o : fX1_isOld (nI j) (nI j + (1 : Int32)) (A 0 0 (nI 3)) (A 16 0 (nI j)) A = 0
        · rw [if_pos o]
          by_cases w : A 15 0 (nI j) ≤ A 29 (nI j) (nI j + (1 : Int32))
          · rw [if_pos w]
            exact Or.inr (Or.inr ⟨_, _, _, _, rfl⟩)
          · rw [if_neg w]
            exact Or.inr (Or.inr ⟨_, _, _, _, rfl⟩)
        · rw [if_neg o]
          exact Or.inr (Or.inl rfl)
    · rw [if_neg h]
      exact Or.inl rfl
  · rw [if_neg u]
    exact Or.inl rfl
theorem gO_b {A : xS} {j : Nat} (h : 0 ≤ (A 12 0 (nI j)).toInt ∧ (A 12 0 (nI j)).toInt ≤ 10) : 0 ≤ (gO A j).1.toInt ∧ (gO A j).1.toInt ≤ 10 := by
  rcases gO_or A j with e | e | ⟨b, lo, hi, c, e⟩
  · rw [e]
    exact h
  · rw [e]
    exact vp_b ⟨by decide, by decide⟩ h
  · rw [e]
    exact gFo_b h
