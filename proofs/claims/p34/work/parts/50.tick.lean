/-! 50: one tick of the class, what the law looks at -/
theorem ups_eq {S S' : xS} (h : S' 19 = S 19) : ∀ n, ups S' n = ups S n
  | 0 => rfl
  | n + 1 => by
    show ups S' n + (if S' 19 0 (nI n) = 0 then 1 else 0) = ups S n + (if S 19 0 (nI n) = 0 then 1 else 0)
    rw [ups_eq h n, h]
/-- news of member o at member m, before and after -/
def NB (X A : xS) (T : Int32) (m o : Nat) : Prop :=
  ((A 31 (nI m) (nI o) = X 31 (nI m) (nI o) ∧ A 32 (nI m) (nI o) = X 32 (nI m) (nI o)) ∨ ((X 31 (nI m) (nI o)).toInt < (A 31 (nI m) (nI o)).toInt ∧ A 32 (nI m) (nI o) = T ∧ X 19 0 (nI m) = 0)) ∧
  (m = o → (X 19 0 (nI m) = 0 → A 31 (nI m) (nI o) = X 31 (nI m) (nI o) + 1 ∧ 1 ≤ (A 28 (nI m) (nI o)).toInt) ∧ (¬ X 19 0 (nI m) = 0 → A 31 (nI m) (nI o) = X 31 (nI m) (nI o))) ∧
  (m ≠ o → X 19 0 (nI m) = 0 → A 33 (nI m) (nI o) = fX1_statusAfter (T - A 32 (nI m) (nI o)) A)
def TK (X Z A : xS) : Prop :=
  (∀ f, f ≠ 0 → f ≠ 3 → (f < 6 ∨ 10 < f) → (f < 28 ∨ 33 < f) → A f = X f) ∧ A 0 0 (nI 3) = X 0 0 (nI 3) + (1 : Int32) ∧ (∀ f, 5 < f → f < 11 → A f = Z f) ∧ NetC (clk X + 1) A ∧
  ((∀ i, i ≠ nI 11 → A 3 0 i = X 3 0 i) ∧ vn X ≤ vn A ∧ vn A ≤ vn X + ups X 8) ∧ ∀ m o : Nat, m < 8 → o < 8 → NB X A (X 0 0 (nI 3) + (1 : Int32)) m o
set_option maxHeartbeats 4000000 in
theorem tk_all {B : Int} {X : xS} (hB : B + 5000 < 2147483648) (hb : Bnd X) (hk : KW B X) (hs : Src X) (hc : 0 ≤ clk X ∧ clk X ≤ 5000) (hv : 0 ≤ vn X ∧ vn X ≤ 100000) (hn : NetC (clk X) X) : TK X (sX3_passOneTick_32 X) (sX3_passOneTick_70 X) := by
  obtain ⟨z1, z2, z3, -⟩ := wat_all hB hb hk hs
  have eT : (X 0 0 (nI 3) + (1 : Int32)).toInt = clk X + 1 := by
    have ec : clk X = (X 0 0 (nI 3)).toInt := rfl
    rw [xtadd (by rw [xt1]; omega) (by rw [xt1]; omega), xt1, ec]
  have t3 : sX3_passOneTick_32 X 0 0 (nI 3) = X 0 0 (nI 3) + (1 : Int32) := by rw [z3, if_pos rfl]
  have e48 : sX3_passOneTick_48 X = fX1_measureAll (sX3_passOneTick_32 X 0 0 (nI 3)) (sX3_passOneTick_32 X) := rfl
  have e59 : sX3_passOneTick_59 X = fX1_callAll (sX3_passOneTick_48 X 0 0 (nI 3)) (sX3_passOneTick_48 X) := rfl
  have e70 : sX3_passOneTick_70 X = fX1_lookAll (sX3_passOneTick_59 X 0 0 (nI 3)) (sX3_passOneTick_59 X) := rfl
  generalize sX3_passOneTick_32 X = Z at z1 z2 z3 t3 e48
  rw [t3] at e48
  have nZ : NetC (clk X) Z := NetC_eq (z2 28 (by decide) (by decide) (by decide) (by decide) (by decide) (by decide)) (z2 29 (by decide) (by decide) (by decide) (by decide) (by decide) (by decide)) (z2 30 (by decide) (by decide) (by decide) (by decide) (by decide) (by decide)) (z2 31 (by decide) (by decide) (by decide) (by decide) (by decide) (by decide)) (z2 33 (by decide) (by decide) (by decide) (by decide) (by decide) (by decide)) hn
  have bZ : Bnd Z := Bnd_eq (z2 4 (by decide) (by decide) (by decide) (by decide) (by decide) (by decide)) (z2 5 (by decide) (by decide) (by decide) (by decide) (by decide) (by decide)) (z2 11 (by decide) (by decide) (by decide) (by decide) (by decide) (by decide)) (z2 12 (by decide) (by decide) (by decide) (by decide) (by decide) (by decide)) hb
  have me := me_all Z (X 0 0 (nI 3) + (1 : Int32))
  rw [← e48] at me
  have n4 := NetC_meas hc eT (fun m hm => lv_pos bZ (z1.1.1 m hm).1 hm) nZ me
  generalize sX3_passOneTick_48 X = A4 at me n4 e59
  obtain ⟨m1, m2, m3⟩ := me
  rw [m1 0 (Or.inl (by decide)), t3] at e59
  have e43 : A4 3 = X 3 := (m1 3 (Or.inl (by decide))).trans (z2 3 (by decide) (by decide) (by decide) (by decide) (by decide) (by decide))
  have e419 : A4 19 = X 19 := (m1 19 (Or.inl (by decide))).trans (z2 19 (by decide) (by decide) (by decide) (by decide) (by decide) (by decide))
  have v4 : vn A4 = vn X := by unfold vn; rw [e43]
  have cv := cv_all (T := X 0 0 (nI 3) + (1 : Int32)) (by rw [v4]; exact hv) n4
  rw [← e59] at cv
  generalize sX3_passOneTick_59 X = A5 at cv e70
  obtain ⟨⟨c1, n5, c3, c4⟩, c5, c6, c7⟩ := cv
  rw [v4] at c6 c7
  rw [ups_eq e419] at c7
  rw [c1 0 (by decide) (Or.inl (by decide)), m1 0 (Or.inl (by decide)), t3] at e70
  have n6 := NetC_look (T := X 0 0 (nI 3) + (1 : Int32)) n5
  obtain ⟨l1, l2⟩ := LA_all A5 (X 0 0 (nI 3) + (1 : Int32))
  rw [← e70] at n6 l1 l2
  generalize sX3_passOneTick_70 X = A at n6 l1 l2
  refine ⟨fun f f0 f3 f6 f28 => ?_, ?_, fun f f5 f11 => ?_, n6, ⟨fun i hi => ?_, ?_, ?_⟩, fun m o hm ho => ?_⟩
  · rw [l1 f (by omega), c1 f f3 f28, m1 f (by omega)]
    exact z2 f f0 (by omega) (by omega) (by omega) (by omega) (by omega)
  · rw [l1 0 (by decide), c1 0 (by decide) (Or.inl (by decide)), m1 0 (Or.inl (by decide))]
    exact t3
  · rw [l1 f (by omega), c1 f (by omega) (by omega), m1 f (by omega)]
  · rw [l1 3 (by decide), c5 i hi, e43]
  · unfold vn at *
    rw [l1 3 (by decide)]
    exact c6
  · unfold vn at *
    rw [l1 3 (by decide)]
    exact c7
  · have zf : ∀ f, 27 < f → Z f = X f := fun f hf => z2 f (by omega) (by omega) (by omega) (by omega) (by omega) (by omega)
    have d19 : A5 19 = X 19 := (c1 19 (by decide) (Or.inl (by decide))).trans e419
    refine ⟨?_, fun e => ?_, fun e hu => ?_⟩
    · rw [l1 31 (by decide), l1 32 (by decide)]
      by_cases z : m = o
      · subst z
        rw [c3 31 m (by decide) (by decide) hm, c3 32 m (by decide) (by decide) hm]
        obtain ⟨p1, p2⟩ := m3 m hm
        by_cases u : Z 19 0 (nI m) = 0
        · obtain ⟨-, q2, -, q4, -⟩ := p1 ⟨u, hm⟩
          obtain ⟨-, r2, -⟩ := hn.1 m hm
          obtain ⟨⟨r3, -⟩, -⟩ := hn.2 m m hm hm
          refine Or.inr ⟨?_, q4, by rw [← z2 19 (by decide) (by decide) (by decide) (by decide) (by decide) (by decide)]; exact u⟩
          rw [q2, zf 31 (by decide), xtadd (by rw [xt1]; omega) (by rw [xt1]; omega), xt1]
          omega
        · obtain ⟨-, q2, -, q4, -⟩ := p2 (fun w => u w.1)
          rw [q2, q4, zf 31 (by decide), zf 32 (by decide)]
          exact Or.inl ⟨rfl, rfl⟩
      · have q := c4 m o hm ho
        rw [m2 31 m o hm ho z, m2 32 m o hm ho z, zf 31 (by decide), zf 32 (by decide), e419] at q
        exact q
    · subst e
      obtain ⟨p1, p2⟩ := m3 m hm
      rw [z2 19 (by decide) (by decide) (by decide) (by decide) (by decide) (by decide)] at p1 p2
      rw [l1 31 (by decide), l1 28 (by decide), c3 31 m (by decide) (by decide) hm, c3 28 m (by decide) (by decide) hm]
      refine ⟨fun u => ?_, fun u => ?_⟩
      · obtain ⟨q1, q2, -⟩ := p1 ⟨u, hm⟩
        obtain ⟨r1, r2, -⟩ := hn.1 m hm
        obtain ⟨-, ⟨r3, -⟩, -⟩ := hn.2 m m hm hm
        have r4 := congrArg Int32.toInt r1
        rw [q1, q2, zf 31 (by decide), zf 28 (by decide), xtadd (a := X 28 (nI m) (nI m)) (by rw [xt1]; omega) (by rw [xt1]; omega), xt1]
        exact ⟨rfl, by omega⟩
      · obtain ⟨-, q2, -⟩ := p2 (fun w => u w.1)
        rw [q2, zf 31 (by decide)]
    · rw [l2 m o hm ho, if_pos ⟨hm, by rw [d19]; exact hu, fun w => e w.symm⟩, l1 32 (by decide), st_eq (l1 3 (by decide))]
