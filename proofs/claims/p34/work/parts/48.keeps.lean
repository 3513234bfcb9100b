/-! 48: what the law keeps before a tick -/
def kR (i : Nat) (x : xS) : xS := xu (xu (xu (xu x 35 0 (nI (8 * i + 4)) (x 6 0 (nI i))) 35 0 (nI (8 * i + 5)) (x 9 0 (nI i))) 35 0 (nI (8 * i + 6)) (x 10 0 (nI i))) 35 0 (nI (8 * i + 7)) (x 12 0 (nI i))
theorem kp_R (i : Nat) (x : xS) : bL_keeps_2 (nI i) x = xfold (bL_keeps_65 (nI i)) 8 (kR i x) := by
  unfold bL_keeps_2 kR fX3_volume fX3_flowed fX3_spilled fX3_opening
  simp only [e8_4, e8_5, e8_6, e8_7, xu_ne (show (9 : Nat) ≠ 35 by decide), xu_ne (show (10 : Nat) ≠ 35 by decide), xu_ne (show (12 : Nat) ≠ 35 by decide)]
def kJ (i : Nat) (R : xS) (n : Nat) (y : xS) : Prop := (∀ f, f ≠ 36 → y f = R f) ∧ ∀ m o : Nat, m < 8 → o < 8 → y 36 0 (nI (8 * m + o)) = if m = i ∧ o < n then R 31 (nI i) (nI o) else R 36 0 (nI (8 * m + o))
theorem kp_in {i : Nat} (hi : i < 8) (R : xS) : kJ i R 8 (xfold (bL_keeps_65 (nI i)) 8 R) := by
  refine xfold_I (kJ i R) (b := bL_keeps_65 (nI i)) 8 R ⟨fun _ _ => rfl, fun m o _ _ => by rw [if_neg (by omega)]⟩ (fun k hk y ⟨h1, h2⟩ => ?_)
  unfold bL_keeps_65 fX3_beat
  rw [e8_n]
  refine ⟨fun f hf => by rw [xu_nf hf]; exact h1 f hf, fun m o hm ho => ?_⟩
  rw [xrowN (by omega) (by omega), h2 m o hm ho, h1 31 (by decide)]
  by_cases z : 8 * m + o = 8 * i + k
  · have z1 : m = i := by omega
    have z2 : o = k := by omega
    subst z1
    subst z2
    rw [if_pos rfl, if_pos ⟨rfl, by omega⟩]
  · rw [if_neg z]
    by_cases w : m = i ∧ o < k
    · rw [if_pos w, if_pos ⟨w.1, by omega⟩]
    · rw [if_neg w, if_neg (by omega)]
/-- the kept rows -/
def KP (S X : xS) (n : Nat) : Prop := (∀ f, f ≠ 35 → f ≠ 36 → X f = S f) ∧ (∀ j c : Nat, j < 8 → c < 4 → X 35 0 (nI (8 * j + c)) = S 35 0 (nI (8 * j + c))) ∧
  (∀ j : Nat, j < n → X 35 0 (nI (8 * j + 4)) = S 6 0 (nI j) ∧ X 35 0 (nI (8 * j + 5)) = S 9 0 (nI j) ∧ X 35 0 (nI (8 * j + 6)) = S 10 0 (nI j) ∧ X 35 0 (nI (8 * j + 7)) = S 12 0 (nI j)) ∧
  ∀ m o : Nat, m < n → o < 8 → X 36 0 (nI (8 * m + o)) = S 31 (nI m) (nI o)
theorem kR_35 {i j c : Nat} (hi : i < 8) (hj : j < 8) (hc : c < 8) (x : xS) : kR i x 35 0 (nI (8 * j + c)) = if j = i then (if c = 7 then x 12 0 (nI i) else if c = 6 then x 10 0 (nI i) else if c = 5 then x 9 0 (nI i) else if c = 4 then x 6 0 (nI i) else x 35 0 (nI (8 * j + c))) else x 35 0 (nI (8 * j + c)) := by
  unfold kR
  rw [xrowN (by omega) (by omega), xrowN (by omega) (by omega), xrowN (by omega) (by omega), xrowN (by omega) (by omega)]
  by_cases z : j = i
  · subst z
    rw [if_pos rfl]
    by_cases c7 : c = 7
    · subst c7
      rw [if_pos rfl, if_pos rfl]
    · rw [if_neg c7, if_neg (show ¬ 8 * j + c = 8 * j + 7 by omega)]
      by_cases c6 : c = 6
      · subst c6
        rw [if_pos rfl, if_pos rfl]
      · rw [if_neg c6, if_neg (show ¬ 8 * j + c = 8 * j + 6 by omega)]
        by_cases c5 : c = 5
        · subst c5
          rw [if_pos rfl, if_pos rfl]
        · rw [if_neg c5, if_neg (show ¬ 8 * j + c = 8 * j + 5 by omega)]
          by_cases c4 : c = 4
          · subst c4
            rw [if_pos rfl, if_pos rfl]
          · rw [if_neg c4, if_neg (show ¬ 8 * j + c = 8 * j + 4 by omega)]
  · rw [if_neg z, if_neg (show ¬ 8 * j + c = 8 * i + 7 by omega), if_neg (show ¬ 8 * j + c = 8 * i + 6 by omega), if_neg (show ¬ 8 * j + c = 8 * i + 5 by omega), if_neg (show ¬ 8 * j + c = 8 * i + 4 by omega)]
theorem kR_f {i f : Nat} (hf : f ≠ 35) (x : xS) : kR i x f = x f := by
  unfold kR
  rw [xu_nf hf, xu_nf hf, xu_nf hf, xu_nf hf]
theorem kp_all (S : xS) : KP S (fL_keeps S) 8 := by
  unfold fL_keeps
  refine xfold_I (fun n x => KP S x n) (b := bL_keeps_2) 8 S ⟨fun _ _ _ => rfl, fun _ _ _ _ => rfl, fun j hj => absurd hj (Nat.not_lt_zero _), fun m _ hm => absurd hm (Nat.not_lt_zero _)⟩ (fun i hi x ⟨h1, h2, h3, h4⟩ => ?_)
  rw [kp_R]
  obtain ⟨k1, k2⟩ := kp_in hi (kR i x)
  generalize xfold (bL_keeps_65 (nI i)) 8 (kR i x) = y at k1 k2
  refine ⟨fun f f5 f6 => by rw [k1 f f6, kR_f f5]; exact h1 f f5 f6, fun j c hj hc => ?_, fun j hj => ?_, fun m o hm ho => ?_⟩
  · rw [k1 35 (by decide), kR_35 hi hj (by omega)]
    rw [if_neg (show ¬ c = 7 by omega), if_neg (show ¬ c = 6 by omega), if_neg (show ¬ c = 5 by omega), if_neg (show ¬ c = 4 by omega), ite_self]
    exact h2 j c hj hc
  · rw [k1 35 (by decide), kR_35 hi (show j < 8 by omega) (show 4 < 8 by omega), kR_35 hi (show j < 8 by omega) (show 5 < 8 by omega), kR_35 hi (show j < 8 by omega) (show 6 < 8 by omega), kR_35 hi (show j < 8 by omega) (show 7 < 8 by omega)]
    by_cases z : j = i
    · subst z
      rw [h1 6 (by decide) (by decide), h1 9 (by decide) (by decide), h1 10 (by decide) (by decide), h1 12 (by decide) (by decide)]
      exact ⟨(if_pos rfl).trans rfl, (if_pos rfl).trans rfl, (if_pos rfl).trans rfl, (if_pos rfl).trans rfl⟩
    · rw [if_neg z, if_neg z, if_neg z, if_neg z]
      exact h3 j (by omega)
  · rw [k2 m o (by omega) ho]
    by_cases z : m = i
    · subst z
      rw [if_pos ⟨rfl, ho⟩, kR_f (by decide), h1 31 (by decide) (by decide)]
    · rw [if_neg (fun w => z w.1), kR_f (by decide)]
      exact h4 m o (by omega) ho
