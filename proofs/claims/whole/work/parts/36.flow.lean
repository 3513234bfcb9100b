/-! 36: the flow through the gates -/
theorem xfold_I {σ : Type} (P : Nat → σ → Prop) {b : Int32 → σ → σ} : ∀ (n : Nat) (x : σ), P 0 x → (∀ i, i < n → ∀ x, P i x → P (i + 1) (b (nI i) x)) → P n (xfold b n x)
  | 0, _, h, _ => h
  | n + 1, x, h, hs => hs n (by omega) _ (xfold_I P n x h (fun i hi => hs i (by omega)))
theorem xfoldD_I {σ : Type} (P : Nat → σ → Prop) {b : Int32 → σ → σ} : ∀ (n : Nat) (x : σ), P n x → (∀ i, i < n → ∀ x, P (i + 1) x → P i (b (nI i) x)) → P 0 (xfoldD b n x)
  | 0, _, h, _ => h
  | n + 1, x, h, hs => xfoldD_I P n _ (hs n (by omega) x h) (fun i hi => hs i (by omega))
def thr (S : xS) (j : Nat) : Int32 := if S 6 0 (nI j) < S 12 0 (nI j) * S 11 0 (nI j) then S 6 0 (nI j) else S 12 0 (nI j) * S 11 0 (nI j)
def LT (S : xS) (n : Nat) (x : xS) : Prop := (∀ f, f ≠ 6 → f ≠ 9 → x f = S f) ∧ (∀ j, j < 8 → x 9 0 (nI j) = if n ≤ j then S 9 0 (nI j) + thr S j else S 9 0 (nI j)) ∧ (∀ j, j < 8 → x 6 0 (nI j) = if j < n then S 6 0 (nI j) else if j = n then S 6 0 (nI j) - thr S j else S 6 0 (nI j) - thr S j + thr S (j - 1))
theorem last8 {n : Nat} (hn : n < 8) : ((8 : Int32) ≤ nI n + (1 : Int32)) ↔ n = 7 := by
  rw [nI_1, Int32.le_iff_toInt_le, nI_toInt (by omega), xt8]
  omega
theorem LT_step {S x : xS} {n : Nat} (hn : n < 8) (h : LT S (n + 1) x) : LT S n (bX2_letThrough_3 (nI n) x) := by
  obtain ⟨h1, h2, h3⟩ := h
  have e6 : x 6 0 (nI n) = S 6 0 (nI n) := by rw [h3 n hn, if_pos (by omega)]
  have et : (if (x 6 0 (nI n)) < (fX0_mostThrough (nI n) x) then (x 6 0 (nI n)) else (fX0_mostThrough (nI n) x)) = thr S n := by
    unfold fX0_mostThrough thr
    rw [h1 12 (by decide) (by decide), h1 11 (by decide) (by decide), e6]
  unfold bX2_letThrough_3
  rw [et]
  unfold fX2_moveOn
  have hl := last8 hn
  by_cases z : n = 7
  · rw [if_pos (hl.mpr z)]
    refine ⟨fun f f6 f9 => ?_, fun j hj => ?_, fun j hj => ?_⟩
    · rw [xu_nf f6, xu_nf f9]
      exact h1 f f6 f9
    · rw [xu_ne (by decide), xrow_nI hn hj, h2 n hn, h2 j hj]
      by_cases q : j = n
      · subst q
        rw [if_pos rfl, if_neg (by omega), if_pos (Nat.le_refl _)]
      · rw [if_neg q]
        by_cases q2 : n + 1 ≤ j
        · omega
        · rw [if_neg q2, if_neg (by omega)]
    · rw [xrow_nI hn hj, xu_ne (by decide), xu_ne (by decide), h3 j hj, e6]
      by_cases q : j = n
      · subst q
        rw [if_pos rfl, if_neg (by omega), if_pos rfl]
      · rw [if_neg q, if_pos (by omega), if_pos (by omega)]
  · rw [if_neg (fun q => z (hl.mp q)), nI_1]
    have hn1 : n + 1 < 8 := by omega
    refine ⟨fun f f6 f9 => ?_, fun j hj => ?_, fun j hj => ?_⟩
    · rw [xu_nf f6, xu_nf f6, xu_nf f9]
      exact h1 f f6 f9
    · rw [xu_ne (by decide), xu_ne (by decide), xrow_nI hn hj, h2 n hn, h2 j hj]
      by_cases q : j = n
      · subst q
        rw [if_pos rfl, if_neg (by omega), if_pos (Nat.le_refl _)]
      · rw [if_neg q]
        by_cases q2 : n + 1 ≤ j
        · rw [if_pos q2, if_pos (by omega)]
        · rw [if_neg q2, if_neg (by omega)]
    · rw [xrow_nI hn1 hj, xrow_nI hn hn1, if_neg (show ¬ n + 1 = n by omega), xrow_nI hn hj, xu_ne (by decide), xu_ne (by decide), xu_ne (by decide), h3 j hj, h3 (n + 1) hn1, e6, if_neg (Nat.lt_irrefl _), if_pos rfl]
      by_cases q : j = n + 1
      · subst q
        rw [if_pos rfl, if_neg (by omega), if_neg (by omega), show n + 1 - 1 = n by omega]
      · rw [if_neg q]
        by_cases q2 : j = n
        · subst q2
          rw [if_pos rfl, if_neg (by omega), if_pos rfl]
        · rw [if_neg q2]
          by_cases q3 : j < n
          · rw [if_pos (by omega), if_pos q3]
          · rw [if_neg (by omega), if_neg q, if_neg q3, if_neg q2]
theorem LT_all (S : xS) : LT S 0 (fX2_letThrough S) := by
  unfold fX2_letThrough
  refine xfoldD_I (LT S) 8 S ⟨fun _ _ _ => rfl, fun j hj => by rw [if_neg (by omega)], fun j hj => by rw [if_pos hj]⟩ (fun i hi x hx => LT_step hi hx)
def thm (M : xS) (j : Nat) : Int32 := if M 3 0 (nI j) ≤ M 4 0 (nI j) * M 5 0 (nI j) then M 3 0 (nI j) else M 4 0 (nI j) * M 5 0 (nI j)
theorem flow_1 (M : xS) : (∀ g, g ≠ 7 → xfold bX4_flowsOn_2 8 M g = M g) ∧ ∀ j, j < 8 → xfold bX4_flowsOn_2 8 M 7 0 (nI j) = thm M j := by
  have key := xfold_I (b := bX4_flowsOn_2) (fun n (y : xS) => (∀ g, g ≠ 7 → y g = M g) ∧ ∀ j, j < n → j < 8 → y 7 0 (nI j) = thm M j) 8 M ⟨fun _ _ => rfl, fun j h => absurd h (Nat.not_lt_zero _)⟩ (fun i hi y ⟨h1, h2⟩ => by
    have e : bX4_flowsOn_2 (nI i) y = xu y 7 0 (nI i) (thm M i) := by
      unfold bX4_flowsOn_2 thm
      rw [h1 3 (by decide), h1 4 (by decide), h1 5 (by decide)]
      split <;> rfl
    rw [e]
    refine ⟨fun g hg => by rw [xu_nf hg]; exact h1 g hg, fun j hj hj8 => ?_⟩
    rw [xrow_nI hi hj8]
    by_cases q : j = i
    · rw [if_pos q, q]
    · rw [if_neg q]
      exact h2 j (by omega) hj8)
  exact ⟨key.1, fun j hj => key.2 j hj hj⟩
def FM (M : xS) (n : Nat) (y : xS) : Prop := (∀ g, g ≠ 3 → g ≠ 7 → g ≠ 8 → y g = M g) ∧ (∀ j, j < 8 → y 7 0 (nI j) = thm M j) ∧ (∀ j, j < 8 → y 8 0 (nI j) = if j < n then M 8 0 (nI j) + thm M j else M 8 0 (nI j)) ∧ (∀ j, j < 8 → y 3 0 (nI j) = if j < n then M 3 0 (nI j) + ((if j = 0 then 0 else thm M (j - 1)) - thm M j) else M 3 0 (nI j))
theorem FM_step {M y : xS} {n : Nat} (hn : n < 8) (h : FM M n y) : FM M (n + 1) (bX4_flowsOn_56 (nI n) y) := by
  obtain ⟨h1, h2, h3, h4⟩ := h
  have e : bX4_flowsOn_56 (nI n) y = xu (xu y 3 0 (nI n) (M 3 0 (nI n) + ((if n = 0 then 0 else thm M (n - 1)) - thm M n))) 8 0 (nI n) (M 8 0 (nI n) + thm M n) := by
    unfold bX4_flowsOn_56
    rw [h2 n hn, h3 n hn, h4 n hn, if_neg (Nat.lt_irrefl n), if_neg (Nat.lt_irrefl n)]
    by_cases z : n = 0
    · subst z
      rw [if_pos nI_0, if_pos rfl]
    · rw [if_neg (fun q => z ((xnj hn (by decide)).mp (q.trans nI_0.symm))), if_neg z, nI_pr8 (by omega) hn, h2 (n - 1) (by omega)]
  rw [e]
  refine ⟨fun g g3 g7 g8 => by rw [xu_nf g8, xu_nf g3]; exact h1 g g3 g7 g8, fun j hj => by rw [xu_ne (by decide), xu_ne (by decide)]; exact h2 j hj, fun j hj => ?_, fun j hj => ?_⟩
  · rw [xrow_nI hn hj, xu_ne (by decide), h3 j hj]
    by_cases q : j = n
    · subst q
      rw [if_pos rfl, if_pos (show j < j + 1 by omega)]
    · rw [if_neg q]
      by_cases q2 : j < n
      · rw [if_pos q2, if_pos (show j < n + 1 by omega)]
      · rw [if_neg q2, if_neg (show ¬ j < n + 1 by omega)]
  · rw [xu_ne (by decide), xrow_nI hn hj, h4 j hj]
    by_cases q : j = n
    · subst q
      rw [if_pos rfl, if_pos (show j < j + 1 by omega)]
    · rw [if_neg q]
      by_cases q2 : j < n
      · rw [if_pos q2, if_pos (show j < n + 1 by omega)]
      · rw [if_neg q2, if_neg (show ¬ j < n + 1 by omega)]
theorem FM_all (M : xS) : FM M 8 (fX4_flowsOn M) := by
  unfold fX4_flowsOn
  obtain ⟨k1, k2⟩ := flow_1 M
  refine xfold_I (FM M) 8 _ ⟨fun g _ g7 _ => k1 g g7, k2, fun j hj => by rw [k1 8 (by decide), if_neg (by omega)], fun j hj => by rw [k1 3 (by decide), if_neg (by omega)]⟩ (fun i hi y hy => FM_step hi hy)
theorem thr_eq {S M : xS} {j : Nat} (h : AA S M) (hj : j < 8) : thr S j = thm M j := by
  unfold thr thm
  rw [h.one (f := 6) (g := 3) (by decide) (in8 hj), h.one (f := 12) (g := 4) (by decide) (in8 hj), h.one (f := 11) (g := 5) (by decide) (in8 hj)]
  generalize M 3 0 (nI j) = v
  generalize M 4 0 (nI j) * M 5 0 (nI j) = w
  by_cases a : v < w
  · rw [if_pos a, if_pos (Int32.le_of_lt a)]
  · rw [if_neg a]
    by_cases b : v ≤ w
    · rw [if_pos b]
      exact Int32.le_antisymm (Int32.not_lt.mp a) b
    · rw [if_neg b]
theorem i32_flow (v s t : Int32) : v - t + s = v + (s - t) := by
  rw [Int32.sub_eq_add_neg, Int32.sub_eq_add_neg]
  ac_rfl
theorem R1_x : ∀ p ∈ R1, (p.1 = 6 ↔ p.2 = 3) ∧ (p.1 = 9 ↔ p.2 = 8) ∧ p.2 ≠ 7 ∧ p.2 ≠ 0 := by decide
theorem R2_x : ∀ p ∈ R2, p.1 ≠ 6 ∧ p.1 ≠ 9 ∧ p.2 ≠ 3 ∧ p.2 ≠ 8 ∧ p.2 ≠ 7 := by decide
theorem flow_AA {S M : xS} (h : AA S M) : AA (fX2_letThrough S) (fX4_flowsOn M) := by
  obtain ⟨a1, a2, a3⟩ := LT_all S
  obtain ⟨b1, b2, b3, b4⟩ := FM_all M
  refine ⟨?_, fun f g hm r hr => ?_, fun f g hm m o hm8 ho8 => ?_⟩
  · unfold A0
    rw [a1 1 (by decide) (by decide), a1 3 (by decide) (by decide), a1 0 (by decide) (by decide), b1 0 (by decide) (by decide) (by decide)]
    exact h.1
  · obtain ⟨x1, x2, x3, x4⟩ := R1_x _ hm
    by_cases f6 : f = 6
    · have g3 : g = 3 := x1.mp f6
      subst f6
      subst g3
      obtain ⟨j, hj, rfl⟩ := xin_j hr
      rw [a3 j hj, b4 j hj, if_neg (Nat.not_lt_zero _), if_pos hj, h.one (f := 6) (g := 3) (by decide) hr, thr_eq h hj]
      by_cases z : j = 0
      · rw [if_pos z, if_pos z, ← i32_flow, Int32.add_zero]
      · rw [if_neg z, if_neg z, thr_eq h (by omega), i32_flow]
    · by_cases f9 : f = 9
      · have g8 : g = 8 := x2.mp f9
        subst f9
        subst g8
        obtain ⟨j, hj, rfl⟩ := xin_j hr
        rw [a2 j hj, b3 j hj, if_pos (Nat.zero_le _), if_pos hj, h.one (f := 9) (g := 8) (by decide) hr, thr_eq h hj]
      · rw [a1 f f6 f9, b1 g (fun z => f6 (x1.mpr z)) x3 (fun z => f9 (x2.mpr z))]
        exact h.2.1 f g hm r hr
  · obtain ⟨x1, x2, x3, x4, x5⟩ := R2_x _ hm
    have e1 : f ≠ 6 := x1
    have e2 : f ≠ 9 := x2
    rw [a1 f e1 e2, b1 g x3 x5 x4]
    exact h.2.2 f g hm m o hm8 ho8
theorem xmulb {a b : Int32} {A B : Int} (h1 : 0 ≤ a.toInt) (h2 : a.toInt ≤ A) (h3 : 0 ≤ b.toInt) (h4 : b.toInt ≤ B) (hAB : A * B < 2147483648) : (a * b).toInt = a.toInt * b.toInt ∧ 0 ≤ a.toInt * b.toInt ∧ a.toInt * b.toInt ≤ A * B := by
  have p1 : 0 ≤ a.toInt * b.toInt := Int.mul_nonneg h1 h3
  have p2 : a.toInt * b.toInt ≤ A * B := Int.mul_le_mul h2 h4 h3 (by omega)
  exact ⟨xtmul (by omega) (by omega), p1, p2⟩
theorem thr_b {S : xS} {j : Nat} (hB : Bnd S) (hj : j < 8) (h0 : 0 ≤ vol S j) : 0 ≤ (thr S j).toInt ∧ (thr S j).toInt ≤ vol S j := by
  obtain ⟨-, -, b11, b12⟩ := hB j hj
  obtain ⟨m1, m2, m3⟩ := xmulb b12.1 b12.2 (by omega) b11.2 (by decide)
  have hv : vol S j = (S 6 0 (nI j)).toInt := rfl
  unfold thr
  split
  · exact ⟨h0, Int.le_refl _⟩
  · next z =>
    rw [Int32.lt_iff_toInt_lt] at z
    omega
theorem KW_flow {B : Int} {S : xS} (hB : B + 2000 < 2147483648) (hb : Bnd S) (h : KW B S) : KW B (fX2_letThrough S) := by
  obtain ⟨⟨h1, h2⟩, h3⟩ := h
  obtain ⟨a1, a2, a3⟩ := LT_all S
  have ec : cld (fX2_letThrough S) = cld S := by
    unfold cld
    rw [a1 7 (by decide) (by decide)]
  have p0 := sum8_pos (fun j hj => (h1 j hj).2)
  have T : ∀ j, j < 8 → 0 ≤ (thr S j).toInt ∧ (thr S j).toInt ≤ vol S j := fun j hj => thr_b hb hj (h1 j hj).1
  have L : ∀ j, j < 8 → vol S j ≤ B := fun j hj => by
    have := sum8_le (fun j hj => (h1 j hj).1) hj
    omega
  have P : ∀ i j, i < 8 → j < 8 → i ≠ j → vol S i + vol S j ≤ B := fun i j hi hj hij => by
    have q := sum8_upd (vol S) 0 hi
    have q2 := sum8_le (g := fun k => if k = i then 0 else vol S k) (fun k hk => by
      show 0 ≤ if k = i then 0 else vol S k
      split
      · omega
      · exact (h1 k hk).1) hj
    rw [q] at q2
    have q3 : (if j = i then (0 : Int) else vol S j) = vol S j := if_neg (Ne.symm hij)
    have q4 : (if j = i then (0 : Int) else vol S j) ≤ sum8 (vol S) - vol S i + 0 := q2
    omega
  have ev : ∀ j, j < 8 → vol (fX2_letThrough S) j = vol S j - (thr S j).toInt + (if j = 0 then 0 else (thr S (j - 1)).toInt) := fun j hj => by
    have t1 := T j hj
    have hv : vol S j = (S 6 0 (nI j)).toInt := rfl
    have l1 := L j hj
    show (fX2_letThrough S 6 0 (nI j)).toInt = _
    rw [a3 j hj, if_neg (Nat.not_lt_zero _)]
    have e1 : (S 6 0 (nI j) - thr S j).toInt = vol S j - (thr S j).toInt := by rw [xtsub (by omega) (by omega), hv]
    by_cases z : j = 0
    · rw [if_pos z, if_pos z, e1]
      omega
    · have t2 := T (j - 1) (by omega)
      have l2 := P j (j - 1) hj (by omega) (by omega)
      rw [if_neg z, if_neg z, xtadd (by omega) (by omega), e1]
  refine ⟨⟨fun j hj => ⟨?_, by rw [ec]; exact (h1 j hj).2⟩, ?_⟩, fun j hj => ?_⟩
  · rw [ev j hj]
    have t1 := T j hj
    split
    · omega
    · have t2 := T (j - 1) (by omega)
      omega
  · rw [ec, sum8_cong ev]
    have t7 := T 7 (by decide)
    unfold sum8 at *
    simp
    omega
  · have q := h3 j hj
    have e0 : inn (fX2_letThrough S) j = inn S j + (if j = 0 then 0 else thr S (j - 1)) := by
      unfold inn
      by_cases z : j = 0
      · rw [if_pos z, if_pos z, if_pos z, Int32.add_zero]
      · rw [if_neg z, if_neg z, if_neg z, a2 (j - 1) (by omega), if_pos (Nat.zero_le _), a1 10 (by decide) (by decide)]
        ac_rfl
    rw [e0, a2 j hj, if_pos (Nat.zero_le _), a1 10 (by decide) (by decide), a1 8 (by decide) (by decide), a3 j hj, if_neg (Nat.not_lt_zero _), ← Int32.add_assoc (S 8 0 (nI j)), ← q]
    by_cases z : j = 0
    · rw [if_pos z, if_pos z, i32_mv, Int32.add_zero]
    · rw [if_neg z, if_neg z, show S 6 0 (nI j) - thr S j + thr S (j - 1) + (S 9 0 (nI j) + thr S j) + S 10 0 (nI j) = (S 6 0 (nI j) - thr S j + (S 9 0 (nI j) + thr S j)) + S 10 0 (nI j) + thr S (j - 1) by ac_rfl, i32_mv]
