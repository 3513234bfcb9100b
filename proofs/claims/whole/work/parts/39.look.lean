/-! 39: looking, ruling -/
def LI (S : xS) (m t : Int32) (n : Nat) (x : xS) : Prop := (∀ f, f ≠ 33 → x f = S f) ∧ ∀ (r : Int32) (j : Nat), j < 8 → x 33 r (nI j) = if r = m ∧ j < n ∧ nI j ≠ m then fX1_statusAfter (t - S 32 m (nI j)) S else S 33 r (nI j)
theorem st_eq {S x : xS} (h : x 3 = S 3) (d : Int32) : fX1_statusAfter d x = fX1_statusAfter d S := by
  unfold fX1_statusAfter
  rw [h]
theorem LI_all (S : xS) (m t : Int32) : LI S m t 8 (fX1_lookAtOthers m t S) := by
  unfold fX1_lookAtOthers
  refine xfold_I (LI S m t) 8 S ⟨fun _ _ => rfl, fun r j _ => by rw [if_neg (fun z => Nat.not_lt_zero _ z.2.1)]⟩ fun i hi x ⟨h1, h2⟩ => ?_
  unfold bX1_lookAtOthers_2
  by_cases a : nI i = m
  · rw [if_pos a]
    refine ⟨h1, fun r j hj => ?_⟩
    rw [h2 r j hj]
    by_cases c : r = m ∧ j < i ∧ nI j ≠ m
    · rw [if_pos c, if_pos ⟨c.1, by omega, c.2.2⟩]
    · rw [if_neg c, if_neg]
      rintro ⟨d1, d2, d3⟩
      refine c ⟨d1, ?_, d3⟩
      have : j ≠ i := fun z => d3 (by rw [z]; exact a)
      omega
  · rw [if_neg a, h1 32 (by decide), st_eq (h1 3 (by decide))]
    refine ⟨fun f hf => by rw [xu_nf hf]; exact h1 f hf, fun r j hj => ?_⟩
    rw [xu_self, h2 r j hj]
    by_cases c : r = m ∧ nI j = nI i
    · have e : j = i := (xnj hj hi).mp c.2
      rw [if_pos c, if_pos ⟨c.1, by omega, by rw [c.2]; exact a⟩, e]
    · rw [if_neg c]
      by_cases d : r = m ∧ j < i ∧ nI j ≠ m
      · rw [if_pos d, if_pos ⟨d.1, by omega, d.2.2⟩]
      · rw [if_neg d, if_neg]
        rintro ⟨d1, d2, d3⟩
        refine d ⟨d1, ?_, d3⟩
        have : j ≠ i := fun z => c ⟨d1, by rw [z]⟩
        omega
def LA (S : xS) (t : Int32) (n : Nat) (x : xS) : Prop := (∀ f, f ≠ 33 → x f = S f) ∧ ∀ r j : Nat, r < 8 → j < 8 → x 33 (nI r) (nI j) = if r < n ∧ S 19 0 (nI r) = 0 ∧ j ≠ r then fX1_statusAfter (t - S 32 (nI r) (nI j)) S else S 33 (nI r) (nI j)
theorem LA_all (S : xS) (t : Int32) : LA S t 8 (fX1_lookAll t S) := by
  unfold fX1_lookAll
  refine xfold_I (LA S t) 8 S ⟨fun _ _ => rfl, fun r j _ _ => by rw [if_neg (fun z => Nat.not_lt_zero _ z.1)]⟩ fun i hi x ⟨h1, h2⟩ => ?_
  unfold bX1_lookAll_2
  rw [h1 19 (by decide)]
  by_cases a : S 19 0 (nI i) = 0
  · rw [if_pos a]
    obtain ⟨k1, k2⟩ := LI_all x (nI i) t
    refine ⟨fun f hf => (k1 f hf).trans (h1 f hf), fun r j hr hj => ?_⟩
    rw [k2 (nI r) j hj, h2 r j hr hj, h1 32 (by decide), st_eq (h1 3 (by decide))]
    by_cases c : r = i
    · subst c
      by_cases d : j = r
      · subst d
        rw [if_neg (fun z => z.2.2 rfl), if_neg (fun z => z.2.2 rfl), if_neg (fun z => z.2.2 rfl)]
      · rw [if_pos ⟨rfl, hj, fun z => d ((xnj hj hr).mp z)⟩, if_pos ⟨by omega, a, d⟩]
    · rw [if_neg (fun z => c ((xnj hr hi).mp z.1))]
      by_cases d : r < i ∧ S 19 0 (nI r) = 0 ∧ j ≠ r
      · rw [if_pos d, if_pos ⟨by omega, d.2⟩]
      · rw [if_neg d, if_neg]
        exact fun z => d ⟨by omega, z.2⟩
  · rw [if_neg a]
    refine ⟨h1, fun r j hr hj => ?_⟩
    rw [h2 r j hr hj]
    by_cases d : r < i ∧ S 19 0 (nI r) = 0 ∧ j ≠ r
    · rw [if_pos d, if_pos ⟨by omega, d.2⟩]
    · rw [if_neg d, if_neg]
      intro z
      have : r ≠ i := fun w => a (by rw [← w]; exact z.2.1)
      exact d ⟨by omega, z.2⟩
def stM (M : xS) (d : Int32) : Int32 := if d ≤ M 0 0 (nI 26) then if d ≤ M 0 0 (nI 25) then 0 else 1 else 2
theorem look_eq {y : xS} {q : Nat} (hq : q < 64) : bX4_looks_2 (nI q) y = if y 16 0 (nI (q / 8)) = 0 ∧ q / 8 ≠ q % 8 then xu y 24 0 (nI q) (stM y (y 0 0 (nI 28) - y 23 0 (nI q))) else y := by
  have d1 : nI q / (8 : Int32) = nI (q / 8) := pk_div (by omega) (by decide) (by decide)
  have d2 : nI q - nI q / (8 : Int32) * (8 : Int32) = nI (q % 8) := pk_rem (by omega) (by decide) (by decide)
  have d3 : nI (q / 8) = nI (q % 8) ↔ q / 8 = q % 8 := xnj (by omega) (by omega)
  unfold bX4_looks_2 stM
  rw [d2, d1, xu_id]
  by_cases u : y 16 0 (nI (q / 8)) = 0
  · by_cases w : q / 8 = q % 8
    · have hc : ¬ (y 16 0 (nI (q / 8)) = 0 ∧ q / 8 ≠ q % 8) := fun z => z.2 w
      simp only [if_pos u, if_pos (d3.mpr w), if_neg hc, ite_self]
    · have hc : y 16 0 (nI (q / 8)) = 0 ∧ q / 8 ≠ q % 8 := ⟨u, w⟩
      have hw : ¬ nI (q / 8) = nI (q % 8) := fun z => w (d3.mp z)
      simp only [if_pos u, if_neg hw, if_pos hc]
      by_cases A : y 0 0 (nI 28) - y 23 0 (nI q) ≤ y 0 0 (nI 26)
      · rw [if_pos A, if_pos A]
        by_cases B : y 0 0 (nI 28) - y 23 0 (nI q) ≤ y 0 0 (nI 25)
        · rw [if_pos B, if_pos B]
        · rw [if_neg B, if_neg B]
      · rw [if_neg A, if_neg A]
  · have hc : ¬ (y 16 0 (nI (q / 8)) = 0 ∧ q / 8 ≠ q % 8) := fun z => u z.1
    simp only [if_neg u, if_neg hc, ite_self]
def LM (M : xS) (n : Nat) (y : xS) : Prop := (∀ g, g ≠ 24 → y g = M g) ∧ ∀ q : Nat, q < 64 → y 24 0 (nI q) = if q < n ∧ M 16 0 (nI (q / 8)) = 0 ∧ q / 8 ≠ q % 8 then stM M (M 0 0 (nI 28) - M 23 0 (nI q)) else M 24 0 (nI q)
theorem LM_all (M : xS) : LM M 64 (fX4_looks M) := by
  unfold fX4_looks
  refine xfold_I (LM M) 64 M ⟨fun _ _ => rfl, fun q _ => by rw [if_neg (fun z => Nat.not_lt_zero _ z.1)]⟩ fun i hi y ⟨h1, h2⟩ => ?_
  have e : stM y (y 0 0 (nI 28) - y 23 0 (nI i)) = stM M (M 0 0 (nI 28) - M 23 0 (nI i)) := by
    unfold stM
    rw [h1 0 (by decide), h1 23 (by decide)]
  rw [look_eq hi, e, h1 16 (by decide)]
  by_cases a : M 16 0 (nI (i / 8)) = 0 ∧ i / 8 ≠ i % 8
  · rw [if_pos a]
    refine ⟨fun g hg => by rw [xu_nf hg]; exact h1 g hg, fun q hq => ?_⟩
    rw [xu_row, h2 q hq]
    by_cases c : q = i
    · subst c
      rw [if_pos rfl, if_pos ⟨by omega, a⟩]
    · rw [if_neg (fun z => c ((nI_eq (by omega) (by omega)).mp z))]
      by_cases d : q < i ∧ M 16 0 (nI (q / 8)) = 0 ∧ q / 8 ≠ q % 8
      · rw [if_pos d, if_pos ⟨by omega, d.2⟩]
      · rw [if_neg d, if_neg (fun z => d ⟨by omega, z.2⟩)]
  · rw [if_neg a]
    refine ⟨h1, fun q hq => ?_⟩
    rw [h2 q hq]
    by_cases d : q < i ∧ M 16 0 (nI (q / 8)) = 0 ∧ q / 8 ≠ q % 8
    · rw [if_pos d, if_pos ⟨by omega, d.2⟩]
    · rw [if_neg d, if_neg]
      intro z
      have : q ≠ i := fun w => a (by rw [← w]; exact z.2)
      exact d ⟨by omega, z.2⟩
theorem R1_y : ∀ p ∈ R1, p.1 ≠ 33 ∧ p.2 ≠ 24 := by decide
theorem R2_y : ∀ p ∈ R2, (p.1 = 33 ↔ p.2 = 24) := by decide
theorem looks_2 {S M : xS} (h : AA S M) : AA (fX1_lookAll (S 0 0 (nI 3)) S) (fX4_looks M) ∧ (∀ f, f ≠ 33 → fX1_lookAll (S 0 0 (nI 3)) S f = S f) ∧ (∀ g, g ≠ 24 → fX4_looks M g = M g) := by
  obtain ⟨a1, a2⟩ := LA_all S (S 0 0 (nI 3))
  obtain ⟨b1, b2⟩ := LM_all M
  refine ⟨⟨?_, fun f g hm r hr => ?_, fun f g hm m o hm8 ho8 => ?_⟩, a1, b1⟩
  · unfold A0
    rw [a1 1 (by decide), a1 3 (by decide), a1 0 (by decide), b1 0 (by decide)]
    exact h.1
  · obtain ⟨x1, x2⟩ := R1_y _ hm
    rw [a1 f x1, b1 g x2]
    exact h.2.1 f g hm r hr
  · have x := R2_y _ hm
    by_cases f3 : f = 33
    · have g4 : g = 24 := x.mp f3
      subst f3
      subst g4
      obtain ⟨r, hr, rfl⟩ := xin_j hm8
      obtain ⟨j, hj, rfl⟩ := xin_j ho8
      rw [a2 r j hr hj, at_nI hr hj, b2 (8 * r + j) (by omega), show (8 * r + j) / 8 = r by omega, show (8 * r + j) % 8 = j by omega, h.one (f := 19) (g := 16) (by decide) hm8, ← at_nI hr hj, ← h.two (f := 33) (g := 24) (by decide) hm8 ho8, ← h.two (f := 32) (g := 23) (by decide) hm8 ho8, ← h.1.2.2.2.2]
      have es : ∀ d, stM M d = fX1_statusAfter d S := fun d => by
        unfold stM fX1_statusAfter
        rw [h.1.2.1, h.1.2.2.1]
      rw [es]
      by_cases c : M 16 0 (nI r) = 0 ∧ j ≠ r
      · rw [if_pos ⟨hr, c⟩, if_pos ⟨by omega, c.1, Ne.symm c.2⟩]
      · rw [if_neg (fun z => c z.2), if_neg (fun z => c ⟨z.2.1, Ne.symm z.2.2⟩)]
    · rw [a1 f f3, b1 g (fun z => f3 (x.mpr z))]
      exact h.2.2 f g hm m o hm8 ho8
/-! ruling -/
theorem rl_z {y : xS} {a o : Int32} (h : o = y 4 0 a) (h0 : 0 ≤ o.toInt ∧ o.toInt ≤ 10) : (if (0 : Int32) ≤ (o + (0 : Int32)) then if (o + (0 : Int32)) ≤ (10 : Int32) then (xu y 4 0 a (o + (0 : Int32))) else (xu y 4 0 a (10 : Int32)) else (xu y 4 0 a (0 : Int32))) = y := by
  rw [Int32.add_zero, if_pos, if_pos, h, xu_id]
  · rw [Int32.le_iff_toInt_le, show (10 : Int32).toInt = 10 from rfl]; exact h0.2
  · rw [Int32.le_iff_toInt_le, xt0]; exact h0.1
theorem rl_m {y : xS} {a o : Int32} (h0 : 0 ≤ o.toInt ∧ o.toInt ≤ 10) : (if (0 : Int32) ≤ (o + (-1 : Int32)) then if (o + (-1 : Int32)) ≤ (10 : Int32) then (xu y 4 0 a (o + (-1 : Int32))) else (xu y 4 0 a (10 : Int32)) else (xu y 4 0 a (0 : Int32))) = xu y 4 0 a (if (o - (1 : Int32)) < (0 : Int32) then (0 : Int32) else (o - (1 : Int32))) := by
  have e : o + (-1 : Int32) = o - (1 : Int32) := by rw [Int32.sub_eq_add_neg]
  have e1 : (o - (1 : Int32)).toInt = o.toInt - 1 := by rw [xtsub (by rw [xt1]; omega) (by rw [xt1]; omega), xt1]
  rw [e]
  by_cases c : o - (1 : Int32) < 0
  · rw [if_pos c, if_neg (Int32.not_le.mpr c)]
  · rw [if_neg c, if_pos (Int32.not_lt.mp c), if_pos]
    rw [Int32.le_iff_toInt_le, e1, show (10 : Int32).toInt = 10 from rfl]
    omega
theorem rl_p {y : xS} {a o : Int32} (h0 : 0 ≤ o.toInt ∧ o.toInt ≤ 10) : (if (0 : Int32) ≤ (o + (1 : Int32)) then if (o + (1 : Int32)) ≤ (10 : Int32) then (xu y 4 0 a (o + (1 : Int32))) else (xu y 4 0 a (10 : Int32)) else (xu y 4 0 a (0 : Int32))) = xu y 4 0 a (if (10 : Int32) < (o + (1 : Int32)) then (10 : Int32) else (o + (1 : Int32))) := by
  have e1 : (o + (1 : Int32)).toInt = o.toInt + 1 := by rw [xtadd (by rw [xt1]; omega) (by rw [xt1]; omega), xt1]
  rw [if_pos (show (0 : Int32) ≤ o + (1 : Int32) by rw [Int32.le_iff_toInt_le, e1, xt0]; omega)]
  by_cases c : (10 : Int32) < o + (1 : Int32)
  · rw [if_pos c, if_neg (Int32.not_le.mpr c)]
  · rw [if_neg c, if_pos (Int32.not_lt.mp c)]
theorem rl_2 {y : xS} {a o w : Int32} : (if (10 : Int32) ≤ (o + (2 : Int32)) then (xu (xu y 4 0 a (10 : Int32)) 15 0 a w) else (xu (xu y 4 0 a (o + (2 : Int32))) 15 0 a w)) = xu (xu y 4 0 a (if (10 : Int32) < (o + (2 : Int32)) then (10 : Int32) else (o + (2 : Int32)))) 15 0 a w := by
  by_cases c : (10 : Int32) < o + (2 : Int32)
  · rw [if_pos c, if_pos (Int32.le_of_lt c)]
  · rw [if_neg c]
    by_cases d : (10 : Int32) ≤ o + (2 : Int32)
    · rw [if_pos d, Int32.le_antisymm d (Int32.not_lt.mp c)]
    · rw [if_neg d]
def RP (S M x y : xS) : Prop := AA x y ∧ Bnd x ∧ (∀ f, f ≠ 12 → f ≠ 17 → x f = S f) ∧ ∀ g, g ≠ 4 → g ≠ 15 → y g = M g
theorem RP_1 {S M x y : xS} {a v : Int32} (ha : vp_in a 8) (hv : 0 ≤ v.toInt ∧ v.toInt ≤ 10) (h : RP S M x y) : RP S M (xu x 12 0 a v) (xu y 4 0 a v) := by
  obtain ⟨h1, h2, h3, h4⟩ := h
  exact ⟨AA_1 (f := 12) (g := 4) (by decide) h1, Bnd_12 h2 ha hv, fun f a1 a2 => by rw [xu_nf a1]; exact h3 f a1 a2, fun g a1 a2 => by rw [xu_nf a1]; exact h4 g a1 a2⟩
theorem RP_2 {S M x y : xS} {a v w : Int32} (ha : vp_in a 8) (hv : 0 ≤ v.toInt ∧ v.toInt ≤ 10) (h : RP S M x y) : RP S M (xu (xu x 12 0 a v) 17 0 a w) (xu (xu y 4 0 a v) 15 0 a w) := by
  obtain ⟨h1, h2, h3, h4⟩ := RP_1 ha hv h
  exact ⟨AA_1 (f := 17) (g := 15) (by decide) h1, Bnd_eq (xu_nf (by decide)) (xu_nf (by decide)) (xu_nf (by decide)) (xu_nf (by decide)) h2, fun f a1 a2 => by rw [xu_nf a2]; exact h3 f a1 a2, fun g a1 a2 => by rw [xu_nf a2]; exact h4 g a1 a2⟩
theorem vm_b {o : Int32} (h0 : 0 ≤ o.toInt ∧ o.toInt ≤ 10) : 0 ≤ (if (o - (1 : Int32)) < (0 : Int32) then (0 : Int32) else (o - (1 : Int32))).toInt ∧ (if (o - (1 : Int32)) < (0 : Int32) then (0 : Int32) else (o - (1 : Int32))).toInt ≤ 10 := by
  have e1 : (o - (1 : Int32)).toInt = o.toInt - 1 := by rw [xtsub (by rw [xt1]; omega) (by rw [xt1]; omega), xt1]
  split
  · exact ⟨by decide, by decide⟩
  · next z =>
    rw [Int32.lt_iff_toInt_lt, e1, xt0] at z
    rw [e1]
    omega
theorem vp_b {o d : Int32} (hd : 0 ≤ d.toInt ∧ d.toInt ≤ 2) (h0 : 0 ≤ o.toInt ∧ o.toInt ≤ 10) : 0 ≤ (if (10 : Int32) < (o + d) then (10 : Int32) else (o + d)).toInt ∧ (if (10 : Int32) < (o + d) then (10 : Int32) else (o + d)).toInt ≤ 10 := by
  have e1 : (o + d).toInt = o.toInt + d.toInt := by rw [xtadd (by omega) (by omega)]
  split
  · exact ⟨by decide, by decide⟩
  · next z =>
    rw [Int32.lt_iff_toInt_lt, e1, show (10 : Int32).toInt = 10 from rfl] at z
    rw [e1]
    omega
set_option maxHeartbeats 4000000 in
theorem rule_2 {S M x y : xS} {i : Nat} (hi : i < 8) (h : RP S M x y) : RP S M (fX3_ruleGate (nI i) x) (fX4_rules (nI i) y) := by
  have i8 := in8 hi
  obtain ⟨q1, q2, q3, q4⟩ := id h
  have ho := (q2 i hi).2.2.2
  have o4 := q1.one (f := 12) (g := 4) (by decide) i8
  have hz := rl_z (y := y) (a := nI i) (o := x 12 0 (nI i)) o4 ho
  have hm := rl_m (y := y) (a := nI i) (o := x 12 0 (nI i)) ho
  have hp := rl_p (y := y) (a := nI i) (o := x 12 0 (nI i)) ho
  have vm := vm_b ho
  have v1 := vp_b (d := (1 : Int32)) (by decide) ho
  have v2 := vp_b (d := (2 : Int32)) (by decide) ho
  unfold fX3_ruleGate fX4_rules
  rw [← o4, ← q1.two (f := 29) (g := 20) (by decide) i8 i8, ← q1.one (f := 14) (g := 11) (by decide) i8, ← q1.one (f := 13) (g := 10) (by decide) i8, ← q1.one (f := 15) (g := 12) (by decide) i8, ← q1.one (f := 16) (g := 13) (by decide) i8, ← q1.one (f := 17) (g := 15) (by decide) i8, hz, hm, hp, rl_2]
  have g7 : (nI i = (7 : Int32)) ↔ i = 7 := xnj hi (by decide)
  have fol1 : RP S M (fX0_follow (nI i) (x 29 (nI i) (nI i)) (1 : Int32) x) (if x 29 (nI i) (nI i) ≤ x 14 0 (nI i) then if x 13 0 (nI i) ≤ x 29 (nI i) (nI i) then y else xu y 4 0 (nI i) (if (x 12 0 (nI i) - (1 : Int32)) < (0 : Int32) then (0 : Int32) else (x 12 0 (nI i) - (1 : Int32))) else xu y 4 0 (nI i) (if (10 : Int32) < (x 12 0 (nI i) + (1 : Int32)) then (10 : Int32) else (x 12 0 (nI i) + (1 : Int32)))) := by
    unfold fX0_follow
    by_cases c1 : x 29 (nI i) (nI i) ≤ x 14 0 (nI i)
    · rw [if_pos c1, if_pos c1]
      by_cases c2 : x 13 0 (nI i) ≤ x 29 (nI i) (nI i)
      · rw [if_pos c2, if_pos c2]
        exact h
      · rw [if_neg c2, if_neg c2]
        exact RP_1 i8 vm h
    · rw [if_neg c1, if_neg c1, if_neg (by decide)]
      exact RP_1 i8 v1 h
  have fol0 : RP S M (fX0_follow (nI i) (x 29 (nI i) (nI i)) (0 : Int32) x) (if x 13 0 (nI i) ≤ x 29 (nI i) (nI i) then y else xu y 4 0 (nI i) (if (x 12 0 (nI i) - (1 : Int32)) < (0 : Int32) then (0 : Int32) else (x 12 0 (nI i) - (1 : Int32)))) := by
    unfold fX0_follow
    by_cases c1 : x 29 (nI i) (nI i) ≤ x 14 0 (nI i)
    · rw [if_pos c1]
      by_cases c2 : x 13 0 (nI i) ≤ x 29 (nI i) (nI i)
      · rw [if_pos c2, if_pos c2]
        exact h
      · rw [if_neg c2, if_neg c2]
        exact RP_1 i8 vm h
    · rw [if_neg c1, if_pos rfl]
      by_cases c2 : x 13 0 (nI i) ≤ x 29 (nI i) (nI i)
      · rw [if_pos c2, if_pos c2]
        exact h
      · rw [if_neg c2, if_neg c2]
        exact RP_1 i8 vm h
  by_cases z : i = 7
  · rw [if_pos ((last8 hi).mpr z), if_pos (g7.mpr z)]
    exact fol1
  · have j8 : vp_in (nI (i + 1)) 8 := in8 (by omega)
    rw [if_neg (fun w => z ((last8 hi).mp w)), if_neg (fun w => z (g7.mp w)), nI_1, hn_eq q1 i8 j8, ao_eq q1 i8 j8, ← q1.two (f := 29) (g := 20) (by decide) i8 j8]
    unfold fX1_isOld
    by_cases n : fX1_hasNews (nI i) (nI (i + 1)) x = 0
    · rw [if_pos n, if_pos n, if_neg (by decide)]
      exact RP_2 i8 v2 h
    · rw [if_neg n, if_neg n, if_neg n]
      by_cases ag : x 0 0 (nI 3) - x 30 (nI i) (nI (i + 1)) ≤ x 16 0 (nI i)
      · rw [if_pos ag, if_pos ag, if_pos rfl]
        by_cases bd : x 15 0 (nI i) ≤ x 29 (nI i) (nI (i + 1))
        · rw [if_pos bd, if_pos bd, ite_self]
          exact fol0
        · rw [if_neg bd, if_neg bd]
          exact fol1
      · rw [if_neg ag, if_neg ag, if_neg (by decide)]
        exact RP_2 i8 v2 h
theorem rules_2 {S M : xS} (h : AA S M) (hb : Bnd S) : RP S M (fX3_ruleGates S) (xfold bX4_ticks_37 8 M) := by
  unfold fX3_ruleGates
  refine xfold_2 (RP S M) (b := bX3_ruleGates_2) (b' := bX4_ticks_37) 8 S M ⟨h, hb, fun _ _ _ => rfl, fun _ _ _ => rfl⟩ fun i hi x y q => ?_
  unfold bX3_ruleGates_2 bX4_ticks_37
  rw [← q.1.one (f := 19) (g := 16) (by decide) (in8 hi), ← q.1.one (f := 18) (g := 14) (by decide) (in8 hi)]
  by_cases a : x 19 0 (nI i) = 0
  · rw [if_pos a, if_pos a]
    by_cases b : x 18 0 (nI i) = 0
    · rw [if_pos b, if_pos b]
      exact rule_2 hi q
    · rw [if_neg b, if_neg b]
      exact q
  · rw [if_neg a, if_neg a]
    exact q
