/-! 46: the water of one tick, reach by reach -/
theorem tk_1 (X : xS) : (fX3_tick 1 X).1 = sX3_passOneTick_74 X ∧ (fX3_tick 1 X).2 = (0 : Int32) + (fX2_spillOver (sX3_passOneTick_25 X)).2 := by
  have e1 : fX3_tick 1 X = ((bX3_tick_33 1 (nI 0) (X, (0 : Int32))).1, (bX3_tick_33 1 (nI 0) (X, (0 : Int32))).2) := rfl
  have e2 : bX3_tick_33 1 (nI 0) (X, (0 : Int32)) = ((fX3_passOneTick X).1, (0 : Int32) + (fX3_passOneTick X).2) := rfl
  have e3 : fX3_passOneTick X = (sX3_passOneTick_74 X, (fX2_spillOver (sX3_passOneTick_25 X)).2) := rfl
  rw [xfst e1, xsnd e1, xfst e2, xsnd e2, xfst e3, xsnd e3]
  exact ⟨rfl, rfl⟩
def came (X : xS) (j : Nat) : Int32 := X 6 0 (nI j) + X 7 0 (nI j) + (if j = 0 then X 1 0 (nI 7) else 0)
theorem take_all (X : xS) : (∀ f, f ≠ 6 → f ≠ 7 → f ≠ 8 → fX2_takeIn X f = X f) ∧ (∀ j, j < 8 → fX2_takeIn X 6 0 (nI j) = came X j) ∧ ∀ j, j < 8 → fX2_takeIn X 7 0 (nI j) = 0 := by
  refine ⟨fun f h6 h7 h8 => takeIn_keep h6 h7 h8, ?_⟩
  unfold fX2_takeIn
  have r6 : ∀ j, j < 8 → fX2_receive (0 : Int32) (X 1 0 (nI 7)) X 6 0 (nI j) = X 6 0 (nI j) + (if j = 0 then X 1 0 (nI 7) else 0) := fun j hj => by
    unfold fX2_receive
    rw [xu_ne (by decide), show (0 : Int32) = nI 0 from nI_0.symm, show xu X 6 (nI 0) (nI 0) (X 6 (nI 0) (nI 0) + X 1 (nI 0) (nI 7)) 6 (nI 0) (nI j) = xu X 6 0 (nI 0) (X 6 (nI 0) (nI 0) + X 1 (nI 0) (nI 7)) 6 0 (nI j) from by rw [nI_0], xrow_nI (by decide) hj]
    by_cases z : j = 0
    · subst z
      rw [if_pos rfl, if_pos rfl]
    · rw [if_neg z, if_neg z, nI_0, Int32.add_zero]
  have r7 : fX2_receive (0 : Int32) (X 1 0 (nI 7)) X 7 = X 7 := by
    unfold fX2_receive
    rw [xu_nf (by decide), xu_nf (by decide)]
  generalize fX2_receive (0 : Int32) (X 1 0 (nI 7)) X = R at r6 r7
  have key := xfold_I (b := bX2_takeIn_11) (fun n (x : xS) => (∀ j, j < 8 → x 6 0 (nI j) = if j < n then R 6 0 (nI j) + R 7 0 (nI j) else R 6 0 (nI j)) ∧ ∀ j, j < 8 → x 7 0 (nI j) = if j < n then 0 else R 7 0 (nI j)) 8 R ⟨fun j _ => by rw [if_neg (by omega)], fun j _ => by rw [if_neg (by omega)]⟩ (fun i hi x ⟨h1, h2⟩ => by
    unfold bX2_takeIn_11 fX2_receive
    refine ⟨fun j hj => ?_, fun j hj => ?_⟩
    · rw [xu_ne (by decide), xu_ne (by decide), xrow_nI hi hj, h1 i hi, h2 i hi, h1 j hj, if_neg (Nat.lt_irrefl i), if_neg (Nat.lt_irrefl i)]
      by_cases z : j = i
      · subst z
        rw [if_pos rfl, if_pos (by omega)]
      · rw [if_neg z]
        by_cases z2 : j < i
        · rw [if_pos z2, if_pos (by omega)]
        · rw [if_neg z2, if_neg (by omega)]
    · rw [xrow_nI hi hj]
      by_cases z : j = i
      · rw [if_pos z, if_pos (by omega)]
      · rw [if_neg z, xu_ne (by decide), xu_ne (by decide), h2 j hj]
        by_cases z2 : j < i
        · rw [if_pos z2, if_pos (by omega)]
        · rw [if_neg z2, if_neg (by omega)])
  refine ⟨fun j hj => ?_, fun j hj => ?_⟩
  · rw [key.1 j hj, if_pos hj, r6 j hj, r7]
    unfold came
    ac_rfl
  · rw [key.2 j hj, if_pos hj]
/-! the spill -/
def exc (v r : Int32) : Int32 := if v - r < (0 : Int32) then (0 : Int32) else v - r
def rmo (A : xS) (j : Nat) : Int32 := A 4 0 (nI j) * A 5 0 (nI j)
def spv (A : xS) : Nat → Int32
  | 0 => A 6 0 (nI 0)
  | j + 1 => A 6 0 (nI (j + 1)) + exc (spv A j) (rmo A j)
def spe (A : xS) (j : Nat) : Int32 := exc (spv A j) (rmo A j)
def SpF (A : xS) (j : Nat) : Prop := 0 ≤ (spe A j).toInt ∧ spe A j = if spv A j ≤ rmo A j then 0 else spv A j - rmo A j
def SpI (B : Int) (A : xS) (n : Nat) (x : xS × Int32) : Prop := KW B x.1 ∧ (∀ f, f ≠ 6 → f ≠ 10 → x.1 f = A f) ∧ (∀ j, j < 8 → x.1 10 0 (nI j) = if j < n then A 10 0 (nI j) + spe A j else A 10 0 (nI j)) ∧ (∀ j, j < 8 → x.1 6 0 (nI j) = if j < n then spv A j - spe A j else if j = n then spv A j else A 6 0 (nI j)) ∧ x.2 = sm n (spe A) ∧ ∀ j, j < n → SpF A j
theorem sp_step {B : Int} {A : xS} {x : xS × Int32} {n : Nat} (hB : B + 2000 < 2147483648) (hb : Bnd A) (hn : n < 8) (h : SpI B A n x) : SpI B A (n + 1) (bX2_spillOver_4 (nI n) x) := by
  obtain ⟨h1, h2, h3, h4, h5, h6⟩ := h
  have e6 : x.1 6 0 (nI n) = spv A n := by rw [h4 n hn, if_neg (Nat.lt_irrefl _), if_pos rfl]
  have hbx : Bnd x.1 := Bnd_eq (h2 4 (by decide) (by decide)) (h2 5 (by decide) (by decide)) (h2 11 (by decide) (by decide)) (h2 12 (by decide) (by decide)) hb
  have eo : ov x.1 (nI n) = spe A n := by
    unfold ov spe exc rmo
    rw [e6, h2 4 (by decide) (by decide), h2 5 (by decide) (by decide)]
  obtain ⟨⟨o1, o2⟩, o3⟩ := ov_facts hn hbx (h1.1.1 n hn).1
  rw [eo] at o1 o2 o3
  have eb : bX2_spillOver_4 (nI n) x = (fX2_moveOn (nI n) (ov x.1 (nI n)) (xu x.1 10 0 (nI n) (x.1 10 0 (nI n) + ov x.1 (nI n))), x.2 + ov x.1 (nI n)) := rfl
  rw [eb, eo]
  refine ⟨KW_spill hB hn h1 o1 o2, ?_, ?_, ?_, ?_, ?_⟩
  · intro f f6 f10
    show fX2_moveOn (nI n) (spe A n) (xu x.1 10 0 (nI n) (x.1 10 0 (nI n) + spe A n)) f = A f
    rw [mv_eq hn]
    split
    · rw [xu_nf f10, xu_nf f6]
      exact h2 f f6 f10
    · rw [xu_nf f6, xu_nf f10, xu_nf f6]
      exact h2 f f6 f10
  · intro j hj
    show fX2_moveOn (nI n) (spe A n) (xu x.1 10 0 (nI n) (x.1 10 0 (nI n) + spe A n)) 10 0 (nI j) = _
    rw [mv_eq hn]
    have core : (if j = n then x.1 10 0 (nI n) + spe A n else x.1 10 0 (nI j)) = if j < n + 1 then A 10 0 (nI j) + spe A j else A 10 0 (nI j) := by
      by_cases z : j = n
      · subst z
        rw [if_pos rfl, if_pos (by omega), h3 j hj, if_neg (Nat.lt_irrefl _)]
      · rw [if_neg z, h3 j hj]
        by_cases z2 : j < n
        · rw [if_pos z2, if_pos (by omega)]
        · rw [if_neg z2, if_neg (by omega)]
    split
    · rw [xrow_nI hn hj, xu_ne (by decide)]
      exact core
    · rw [xu_ne (by decide), xrow_nI hn hj, xu_ne (by decide)]
      exact core
  · intro j hj
    show fX2_moveOn (nI n) (spe A n) (xu x.1 10 0 (nI n) (x.1 10 0 (nI n) + spe A n)) 6 0 (nI j) = _
    rw [mv_eq hn, e6]
    by_cases z7 : n = 7
    · rw [if_pos z7, xu_ne (by decide), xrow_nI hn hj, h4 j hj]
      by_cases z : j = n
      · subst z
        rw [if_pos rfl, if_pos (by omega)]
      · rw [if_neg z, if_pos (by omega), if_pos (by omega)]
    · have hn1 : n + 1 < 8 := by omega
      have en : x.1 6 0 (nI (n + 1)) = A 6 0 (nI (n + 1)) := by rw [h4 (n + 1) hn1, if_neg (by omega), if_neg (by omega)]
      rw [if_neg z7, xrow_nI hn1 hj, en]
      by_cases z1 : j = n + 1
      · subst z1
        rw [if_pos rfl, if_neg (by omega), if_pos rfl]
        rfl
      · rw [if_neg z1, xu_ne (by decide), xrow_nI hn hj, h4 j hj]
        by_cases z : j = n
        · subst z
          rw [if_pos rfl, if_pos (by omega)]
        · rw [if_neg z]
          by_cases z2 : j < n
          · rw [if_pos z2, if_pos (by omega)]
          · rw [if_neg z2, if_neg z, if_neg (by omega), if_neg z1]
  · show x.2 + spe A n = sm (n + 1) (spe A)
    rw [h5]
    rfl
  · intro j hj
    by_cases z : j = n
    · subst z
      refine ⟨o1, ?_⟩
      rw [o3, e6, h2 4 (by decide) (by decide), h2 5 (by decide) (by decide)]
      rfl
    · exact h6 j (by omega)
theorem sp_all {B : Int} {A : xS} (hB : B + 2000 < 2147483648) (hb : Bnd A) (hk : KW B A) : SpI B A 8 ((fX2_spillOver A).1, (fX2_spillOver A).2) := by
  have e : fX2_spillOver A = ((xfold bX2_spillOver_4 8 (A, (0 : Int32))).1, (xfold bX2_spillOver_4 8 (A, (0 : Int32))).2) := rfl
  rw [xfst e, xsnd e]
  have key := xfold_I (SpI B A) (b := bX2_spillOver_4) 8 (A, (0 : Int32)) ⟨hk, fun _ _ _ => rfl, fun j _ => by rw [if_neg (by omega)], fun j hj => by
    rw [if_neg (by omega)]
    by_cases z : j = 0
    · subst z
      rw [if_pos rfl]
      rfl
    · rw [if_neg z], rfl, fun j hj => absurd hj (by omega)⟩ (fun i hi x hx => sp_step hB hb hi hx)
  exact key
/-! what the three steps do together -/
def WT (B : Int) (X Z : xS) (sp : Int32) (A1 A2 : xS) : Prop := KW B Z ∧ (∀ f, f ≠ 0 → f ≠ 6 → f ≠ 7 → f ≠ 8 → f ≠ 9 → f ≠ 10 → Z f = X f) ∧ (∀ i, Z 0 0 i = if i = nI 3 then X 0 0 (nI 3) + 1 else X 0 0 i) ∧
  (∀ j, j < 8 → thr A1 j = if came X j < X 12 0 (nI j) * X 11 0 (nI j) then came X j else X 12 0 (nI j) * X 11 0 (nI j)) ∧
  (∀ j, j < 8 → Z 7 0 (nI j) = 0) ∧ (∀ j, j < 8 → Z 9 0 (nI j) = X 9 0 (nI j) + thr A1 j) ∧ (∀ j, j < 8 → Z 10 0 (nI j) = X 10 0 (nI j) + spe A2 j) ∧
  (∀ j, j < 8 → Z 6 0 (nI j) = spv A2 j - spe A2 j) ∧ (∀ j, j < 8 → SpF A2 j) ∧ (∀ j, j < 8 → rmo A2 j = X 4 0 (nI j) * X 5 0 (nI j)) ∧
  (∀ j, j < 8 → spv A2 j = came X j - thr A1 j + (if j = 0 then 0 else thr A1 (j - 1)) + (if j = 0 then 0 else spe A2 (j - 1))) ∧ sp = sm 8 (spe A2)
theorem wat_all {B : Int} {X : xS} (hB : B + 5000 < 2147483648) (hb : Bnd X) (hk : KW B X) (hs : Src X) : WT (B + 1000) X (sX3_passOneTick_32 X) (fX2_spillOver (sX3_passOneTick_25 X)).2 (sX3_passOneTick_14 X) (sX3_passOneTick_25 X) := by
  have k0 : KW B (xu X 0 0 (nI 3) ((X 0 0 (nI 3)) + (1 : Int32))) := KW_eq (xu_nf (by decide)) (xu_nf (by decide)) (xu_nf (by decide)) (xu_nf (by decide)) (xu_nf (by decide)) hk
  have s0 : Src (xu X 0 0 (nI 3) ((X 0 0 (nI 3)) + (1 : Int32))) := by
    unfold Src
    rw [xu_nf (by decide)]
    exact hs
  have a0 : ∀ f, f ≠ 0 → xu X 0 0 (nI 3) ((X 0 0 (nI 3)) + (1 : Int32)) f = X f := fun f hf => xu_nf hf
  have c0 : ∀ j, came (xu X 0 0 (nI 3) ((X 0 0 (nI 3)) + (1 : Int32))) j = came X j := fun j => by
    unfold came
    rw [a0 6 (by decide), a0 7 (by decide), a0 1 (by decide)]
  have t0 : ∀ i, xu X 0 0 (nI 3) ((X 0 0 (nI 3)) + (1 : Int32)) 0 0 i = if i = nI 3 then X 0 0 (nI 3) + 1 else X 0 0 i := fun i => xu_row
  have k1 := KW_takeIn (by omega) k0 s0
  obtain ⟨p1, p2, p3⟩ := take_all (xu X 0 0 (nI 3) ((X 0 0 (nI 3)) + (1 : Int32)))
  have d1 : sX3_passOneTick_14 X = fX2_takeIn (xu X 0 0 (nI 3) ((X 0 0 (nI 3)) + (1 : Int32))) := rfl
  rw [← d1] at k1 p1 p2 p3
  have f1 : ∀ f, f ≠ 0 → f ≠ 6 → f ≠ 7 → f ≠ 8 → sX3_passOneTick_14 X f = X f := fun f h0 h6 h7 h8 => (p1 f h6 h7 h8).trans (a0 f h0)
  have b1 : Bnd (sX3_passOneTick_14 X) := Bnd_eq (f1 _ (by decide) (by decide) (by decide) (by decide)) (f1 _ (by decide) (by decide) (by decide) (by decide)) (f1 _ (by decide) (by decide) (by decide) (by decide)) (f1 _ (by decide) (by decide) (by decide) (by decide)) hb
  have k2 := KW_flow (by omega) b1 k1
  obtain ⟨q1, q2, q3⟩ := LT_all (sX3_passOneTick_14 X)
  have d2 : sX3_passOneTick_25 X = fX2_letThrough (sX3_passOneTick_14 X) := rfl
  rw [← d2] at k2 q1 q2 q3
  have b2 : Bnd (sX3_passOneTick_25 X) := Bnd_eq (q1 _ (by decide) (by decide)) (q1 _ (by decide) (by decide)) (q1 _ (by decide) (by decide)) (q1 _ (by decide) (by decide)) b1
  obtain ⟨r1, r2, r3, r4, r5, r6⟩ := sp_all (by omega) b2 k2
  have d3 : sX3_passOneTick_32 X = (fX2_spillOver (sX3_passOneTick_25 X)).1 := rfl
  refine ⟨r1, ?_, ?_, ?_, ?_, ?_, ?_, ?_, fun j hj => r6 j hj, ?_, ?_, r5⟩
  · intro f h0 h6 h7 h8 h9 h10
    rw [d3]
    exact (r2 f h6 h10).trans ((q1 f h6 h9).trans (f1 f h0 h6 h7 h8))
  · intro i
    rw [d3, r2 0 (by decide) (by decide), q1 0 (by decide) (by decide), p1 0 (by decide) (by decide) (by decide)]
    exact t0 i
  · intro j hj
    unfold thr
    rw [p2 j hj, c0 j, f1 12 (by decide) (by decide) (by decide) (by decide), f1 11 (by decide) (by decide) (by decide) (by decide)]
  · intro j hj
    rw [d3, r2 7 (by decide) (by decide), q1 7 (by decide) (by decide)]
    exact p3 j hj
  · intro j hj
    rw [d3, r2 9 (by decide) (by decide), q2 j hj, if_pos (Nat.zero_le _), f1 9 (by decide) (by decide) (by decide) (by decide)]
  · intro j hj
    rw [d3]
    refine (r3 j hj).trans ?_
    rw [if_pos hj, q1 10 (by decide) (by decide), f1 10 (by decide) (by decide) (by decide) (by decide)]
  · intro j hj
    rw [d3]
    refine (r4 j hj).trans ?_
    rw [if_pos hj]
  · intro j hj
    unfold rmo
    rw [q1 4 (by decide) (by decide), q1 5 (by decide) (by decide), f1 4 (by decide) (by decide) (by decide) (by decide), f1 5 (by decide) (by decide) (by decide) (by decide)]
  · intro j hj
    have e6 := q3 j hj
    rw [if_neg (Nat.not_lt_zero _), p2 j hj, c0 j] at e6
    match j, hj, e6 with
    | 0, _, e6 =>
      rw [if_pos rfl] at e6
      show sX3_passOneTick_25 X 6 0 (nI 0) = _
      rw [e6, if_pos rfl, if_pos rfl, Int32.add_zero, Int32.add_zero]
    | j + 1, hj, e6 =>
      rw [if_neg (by omega)] at e6
      show sX3_passOneTick_25 X 6 0 (nI (j + 1)) + spe (sX3_passOneTick_25 X) j = _
      rw [e6, if_neg (by omega), if_neg (by omega), show j + 1 - 1 = j by omega]
