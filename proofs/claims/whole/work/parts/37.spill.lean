/-! 37: the spill -/
def ov (x : xS) (i : Int32) : Int32 := if ((x 6 0 i) - ((x 4 0 i) * (x 5 0 i))) < (0 : Int32) then (0 : Int32) else ((x 6 0 i) - ((x 4 0 i) * (x 5 0 i)))
theorem ov_facts {x : xS} {i : Nat} (hi : i < 8) (hb : Bnd x) (h0 : 0 ≤ vol x i) : (0 ≤ (ov x (nI i)).toInt ∧ (ov x (nI i)).toInt ≤ vol x i) ∧ ov x (nI i) = if x 6 0 (nI i) ≤ x 4 0 (nI i) * x 5 0 (nI i) then 0 else x 6 0 (nI i) - x 4 0 (nI i) * x 5 0 (nI i) := by
  obtain ⟨b4, b5, -, -⟩ := hb i hi
  obtain ⟨m1, m2, m3⟩ := xmulb (by omega) b4.2 (by omega) b5.2 (by decide)
  have hv : vol x i = (x 6 0 (nI i)).toInt := rfl
  have hup : (x 6 0 (nI i)).toInt < 2147483648 := Int32.toInt_lt _
  generalize hw : x 4 0 (nI i) * x 5 0 (nI i) = w at *
  have e : (x 6 0 (nI i) - w).toInt = vol x i - w.toInt := by
    rw [xtsub (by omega) (by omega), hv]
  unfold ov
  rw [hw]
  by_cases a : x 6 0 (nI i) - w < 0
  · rw [if_pos a]
    rw [Int32.lt_iff_toInt_lt, e, xt0] at a
    refine ⟨⟨by decide, by rw [xt0]; exact h0⟩, ?_⟩
    rw [if_pos]
    rw [Int32.le_iff_toInt_le]
    omega
  · rw [if_neg a]
    rw [Int32.lt_iff_toInt_lt, e, xt0] at a
    refine ⟨by omega, ?_⟩
    by_cases b : x 6 0 (nI i) ≤ w
    · rw [if_pos b]
      rw [Int32.le_iff_toInt_le] at b
      apply Int32.toInt_inj.mp
      rw [e, xt0]
      omega
    · rw [if_neg b]
theorem mv_eq {x : xS} {i : Nat} (hi : i < 8) (E : Int32) : fX2_moveOn (nI i) E (xu x 10 0 (nI i) (x 10 0 (nI i) + E)) = if i = 7 then xu (xu x 6 0 (nI i) (x 6 0 (nI i) - E)) 10 0 (nI i) (x 10 0 (nI i) + E) else xu (xu (xu x 6 0 (nI i) (x 6 0 (nI i) - E)) 10 0 (nI i) (x 10 0 (nI i) + E)) 6 0 (nI (i + 1)) (x 6 0 (nI (i + 1)) + E) := by
  unfold fX2_moveOn
  have hl := last8 hi
  by_cases z : i = 7
  · rw [if_pos (hl.mpr z), if_pos z, xu_ne (f' := 6) (by decide), xu_comm (by decide)]
  · rw [if_neg (fun q => z (hl.mp q)), if_neg z, nI_1, xu_ne (f' := 6) (f := 10) (by decide), xrow_nI hi (show i + 1 < 8 by omega), if_neg (show ¬ i + 1 = i by omega), xu_ne (f' := 6) (f := 10) (by decide), xu_comm (f := 10) (f' := 6) (by decide)]
theorem KW_spill {B : Int} {x : xS} {i : Nat} {E : Int32} (hB : B + 2000 < 2147483648) (hi : i < 8) (h : KW B x) (h0 : 0 ≤ E.toInt) (hE : E.toInt ≤ vol x i) : KW B (fX2_moveOn (nI i) E (xu x 10 0 (nI i) (x 10 0 (nI i) + E))) := by
  obtain ⟨⟨h1, h2⟩, h3⟩ := h
  have p0 := sum8_pos (fun j hj => (h1 j hj).2)
  have hv : ∀ j, vol x j = (x 6 0 (nI j)).toInt := fun _ => rfl
  have li := sum8_le (fun j hj => (h1 j hj).1) hi
  have e1 : (x 6 0 (nI i) - E).toInt = vol x i - E.toInt := by
    have := hv i
    rw [xtsub (by omega) (by omega), hv]
  rw [mv_eq hi]
  by_cases z : i = 7
  · rw [if_pos z]
    have ev : ∀ j, j < 8 → vol (xu (xu x 6 0 (nI i) (x 6 0 (nI i) - E)) 10 0 (nI i) (x 10 0 (nI i) + E)) j = if j = i then vol x i - E.toInt else vol x j := fun j hj => by
      show (xu (xu x 6 0 (nI i) (x 6 0 (nI i) - E)) 10 0 (nI i) (x 10 0 (nI i) + E) 6 0 (nI j)).toInt = _
      rw [xu_ne (by decide), xrow_nI hi hj]
      split
      · exact e1
      · rfl
    refine ⟨⟨fun j hj => ⟨?_, ?_⟩, ?_⟩, fun j hj => ?_⟩
    · rw [ev j hj]
      split
      · omega
      · exact (h1 j hj).1
    · unfold cld
      rw [xu_ne (by decide), xu_ne (by decide)]
      exact (h1 j hj).2
    · have ec : cld (xu (xu x 6 0 (nI i) (x 6 0 (nI i) - E)) 10 0 (nI i) (x 10 0 (nI i) + E)) = cld x := by
        unfold cld
        rw [xu_nf (by decide), xu_nf (by decide)]
      rw [sum8_cong ev, sum8_upd _ _ hi, ec]
      omega
    · have q := h3 j hj
      have e0 : inn (xu (xu x 6 0 (nI i) (x 6 0 (nI i) - E)) 10 0 (nI i) (x 10 0 (nI i) + E)) j = inn x j := by
        unfold inn
        by_cases w : j = 0
        · rw [if_pos w, if_pos w]
        · rw [if_neg w, if_neg w, xu_ne (f' := 9) (by decide), xu_ne (f' := 9) (by decide), xrow_nI hi (show j - 1 < 8 by omega), if_neg (show ¬ j - 1 = i by omega), xu_ne (by decide)]
      rw [e0, xu_ne (f' := 6) (by decide), xrow_nI hi hj, xu_ne (f' := 9) (by decide), xu_ne (f' := 9) (by decide), xrow_nI hi hj, xu_ne (f' := 8) (by decide), xu_ne (f' := 8) (by decide), ← q]
      by_cases w : j = i
      · rw [if_pos w, if_pos w, w, show x 6 0 (nI i) - E + x 9 0 (nI i) + (x 10 0 (nI i) + E) = ((x 6 0 (nI i) - E) + (x 10 0 (nI i) + E)) + x 9 0 (nI i) by ac_rfl, i32_mv]
        ac_rfl
      · rw [if_neg w, if_neg w, xu_ne (by decide)]
  · have hi1 : i + 1 < 8 := by omega
    have l2 : vol x i + vol x (i + 1) ≤ B := by
      have q := sum8_upd (vol x) 0 hi
      have q2 := sum8_le (g := fun k => if k = i then 0 else vol x k) (fun k hk => by
        show 0 ≤ if k = i then 0 else vol x k
        split
        · omega
        · exact (h1 k hk).1) hi1
      rw [q] at q2
      have q3 : (if i + 1 = i then (0 : Int) else vol x (i + 1)) = vol x (i + 1) := if_neg (by omega)
      have q4 : (if i + 1 = i then (0 : Int) else vol x (i + 1)) ≤ sum8 (vol x) - vol x i + 0 := q2
      omega
    have b1 := (h1 (i + 1) hi1).1
    have e2 : (x 6 0 (nI (i + 1)) + E).toInt = vol x (i + 1) + E.toInt := by
      have := hv (i + 1)
      rw [xtadd (by omega) (by omega), hv]
    rw [if_neg z]
    generalize hX : xu (xu (xu x 6 0 (nI i) (x 6 0 (nI i) - E)) 10 0 (nI i) (x 10 0 (nI i) + E)) 6 0 (nI (i + 1)) (x 6 0 (nI (i + 1)) + E) = X
    have x6 : ∀ j, j < 8 → X 6 0 (nI j) = if j = i + 1 then x 6 0 (nI (i + 1)) + E else if j = i then x 6 0 (nI i) - E else x 6 0 (nI j) := fun j hj => by
      rw [← hX, xrow_nI hi1 hj, xu_ne (by decide), xrow_nI hi hj]
    have x10 : ∀ j, j < 8 → X 10 0 (nI j) = if j = i then x 10 0 (nI i) + E else x 10 0 (nI j) := fun j hj => by
      rw [← hX, xu_ne (by decide), xrow_nI hi hj, xu_ne (by decide)]
    have xf : ∀ f, f ≠ 6 → f ≠ 10 → X f = x f := fun f f6 f10 => by
      rw [← hX, xu_nf f6, xu_nf f10, xu_nf f6]
    have ev : ∀ j, j < 8 → vol X j = (fun j => if j = i + 1 then vol x (i + 1) + E.toInt else (fun j => if j = i then vol x i - E.toInt else vol x j) j) j := fun j hj => by
      show (X 6 0 (nI j)).toInt = if j = i + 1 then vol x (i + 1) + E.toInt else if j = i then vol x i - E.toInt else vol x j
      rw [x6 j hj]
      split
      · exact e2
      · split
        · exact e1
        · rfl
    have ec : cld X = cld x := by
      unfold cld
      rw [xf 7 (by decide) (by decide)]
    refine ⟨⟨fun j hj => ⟨?_, by rw [ec]; exact (h1 j hj).2⟩, ?_⟩, fun j hj => ?_⟩
    · rw [ev j hj]
      show 0 ≤ if j = i + 1 then vol x (i + 1) + E.toInt else if j = i then vol x i - E.toInt else vol x j
      split
      · omega
      · split
        · omega
        · exact (h1 j hj).1
    · rw [sum8_cong ev, sum8_upd _ _ hi1, sum8_upd _ _ hi, ec]
      have q : (if i + 1 = i then vol x i - E.toInt else vol x (i + 1)) = vol x (i + 1) := if_neg (by omega)
      show sum8 (vol x) - vol x i + (vol x i - E.toInt) - (if i + 1 = i then vol x i - E.toInt else vol x (i + 1)) + (vol x (i + 1) + E.toInt) + sum8 (cld x) ≤ B
      rw [q]
      omega
    · have q := h3 j hj
      have e0 : inn X j = inn x j + if j = i + 1 then E else 0 := by
        unfold inn
        by_cases w : j = 0
        · rw [if_pos w, if_pos w, if_neg (by omega), Int32.add_zero]
        · rw [if_neg w, if_neg w, xf 9 (by decide) (by decide), x10 (j - 1) (by omega)]
          by_cases u : j = i + 1
          · subst u
            rw [if_pos (by omega), if_pos rfl, show i + 1 - 1 = i by omega]
            ac_rfl
          · rw [if_neg (by omega), if_neg u, Int32.add_zero]
      rw [e0, x6 j hj, xf 9 (by decide) (by decide), x10 j hj, xf 8 (by decide) (by decide), ← Int32.add_assoc (x 8 0 (nI j)), ← q]
      by_cases w : j = i + 1
      · subst w
        rw [if_pos rfl, if_neg (show ¬ i + 1 = i by omega), if_pos rfl]
        ac_rfl
      · rw [if_neg w, if_neg w, Int32.add_zero]
        by_cases u : j = i
        · subst u
          rw [if_pos rfl, if_pos rfl, show x 6 0 (nI j) - E + x 9 0 (nI j) + (x 10 0 (nI j) + E) = ((x 6 0 (nI j) - E) + (x 10 0 (nI j) + E)) + x 9 0 (nI j) by ac_rfl, i32_mv]
          ac_rfl
        · rw [if_neg u, if_neg u]
theorem ge7 {i : Nat} (hi : i < 8) : ((7 : Int32) ≤ nI i) ↔ i = 7 := by
  rw [Int32.le_iff_toInt_le, nI_toInt (by omega), xt7]
  omega
theorem sp_eq {y : xS × Int32} {i : Nat} {E : Int32} (hi : i < 8) (hE : E = if y.1 3 0 (nI i) ≤ y.1 1 0 (nI i) * y.1 2 0 (nI i) then 0 else y.1 3 0 (nI i) - y.1 1 0 (nI i) * y.1 2 0 (nI i)) : bX4_spills_4 (nI i) y = ((if i = 7 then xu (xu y.1 3 0 (nI i) (y.1 3 0 (nI i) - E)) 9 0 (nI i) (y.1 9 0 (nI i) + E) else xu (xu (xu y.1 3 0 (nI i) (y.1 3 0 (nI i) - E)) 9 0 (nI i) (y.1 9 0 (nI i) + E)) 3 0 (nI (i + 1)) (y.1 3 0 (nI (i + 1)) + E)), y.2 + E) := by
  unfold bX4_spills_4
  have g := ge7 hi
  have k : ∀ (v : Int32), i ≠ 7 → xu y.1 3 0 (nI i) v 3 0 (nI i + (1 : Int32)) = y.1 3 0 (nI (i + 1)) := fun v z => by
    rw [nI_1, xrow_nI hi (show i + 1 < 8 by omega), if_neg (show ¬ i + 1 = i by omega)]
  by_cases a : y.1 3 0 (nI i) ≤ y.1 1 0 (nI i) * y.1 2 0 (nI i)
  · rw [if_pos a] at hE
    rw [if_pos a]
    subst hE
    by_cases z : i = 7
    · rw [if_pos (g.mpr z), if_pos z]
    · rw [if_neg (fun q => z (g.mp q)), if_neg z, k _ z, nI_1]
  · rw [if_neg a] at hE
    rw [if_neg a]
    subst hE
    by_cases z : i = 7
    · rw [if_pos (g.mpr z), if_pos z]
    · rw [if_neg (fun q => z (g.mp q)), if_neg z, k _ z, nI_1]
def SpP (B : Int) (S M : xS) (x y : xS × Int32) : Prop := (AA x.1 y.1 ∧ x.2 = y.2) ∧ KW B x.1 ∧ (∀ f, f ≠ 6 → f ≠ 10 → x.1 f = S f) ∧ ∀ g, g ≠ 3 → g ≠ 9 → y.1 g = M g
theorem SpP_eta {B : Int} {S M : xS} {X Y : xS × Int32} (h : SpP B S M X Y) : SpP B S M (X.1, X.2) (Y.1, Y.2) := h
theorem spill_1 {B : Int} {S M : xS} (hB : B + 2000 < 2147483648) (hb : Bnd S) (h : AA S M) (hk : KW B S) : SpP B S M (xfold bX2_spillOver_4 8 (S, (0 : Int32))) (xfold bX4_spills_4 8 (M, (0 : Int32))) := by
  refine xfold_2 (SpP B S M) (b := bX2_spillOver_4) (b' := bX4_spills_4) 8 (S, (0 : Int32)) (M, (0 : Int32)) ⟨⟨h, rfl⟩, hk, fun _ _ _ => rfl, fun _ _ _ => rfl⟩ fun i hi x y ⟨⟨q1, q2⟩, q3, q4, q5⟩ => ?_
  have hb' : Bnd x.1 := Bnd_eq (q4 4 (by decide) (by decide)) (q4 5 (by decide) (by decide)) (q4 11 (by decide) (by decide)) (q4 12 (by decide) (by decide)) hb
  obtain ⟨⟨o1, o2⟩, o3⟩ := ov_facts hi hb' (q3.1.1 i hi).1
  have e1 : bX2_spillOver_4 (nI i) x = (fX2_moveOn (nI i) (ov x.1 (nI i)) (xu x.1 10 0 (nI i) (x.1 10 0 (nI i) + ov x.1 (nI i))), x.2 + ov x.1 (nI i)) := rfl
  have e2 := sp_eq (y := y) (E := ov x.1 (nI i)) hi (by rw [o3, q1.one (f := 6) (g := 3) (by decide) (in8 hi), q1.one (f := 4) (g := 1) (by decide) (in8 hi), q1.one (f := 5) (g := 2) (by decide) (in8 hi)])
  have kw := KW_spill hB hi q3 o1 o2
  rw [e1, e2]
  generalize ov x.1 (nI i) = E at *
  refine ⟨⟨?_, by rw [q2]⟩, kw, fun f f6 f10 => ?_, fun g g3 g9 => ?_⟩
  · show AA (fX2_moveOn (nI i) E (xu x.1 10 0 (nI i) (x.1 10 0 (nI i) + E))) _
    rw [mv_eq hi, ← q1.one (f := 6) (g := 3) (by decide) (in8 hi), ← q1.one (f := 10) (g := 9) (by decide) (in8 hi)]
    by_cases z : i = 7
    · rw [if_pos z]
      show AA _ (if i = 7 then _ else _)
      rw [if_pos z]
      exact AA_1 (f := 10) (g := 9) (by decide) (AA_1 (f := 6) (g := 3) (by decide) q1)
    · rw [if_neg z]
      show AA _ (if i = 7 then _ else _)
      rw [if_neg z, ← q1.one (f := 6) (g := 3) (by decide) (in8 (show i + 1 < 8 by omega))]
      exact AA_1 (f := 6) (g := 3) (by decide) (AA_1 (f := 10) (g := 9) (by decide) (AA_1 (f := 6) (g := 3) (by decide) q1))
  · show fX2_moveOn (nI i) E (xu x.1 10 0 (nI i) (x.1 10 0 (nI i) + E)) f = S f
    rw [mv_eq hi]
    split
    · rw [xu_nf f10, xu_nf f6]
      exact q4 f f6 f10
    · rw [xu_nf f6, xu_nf f10, xu_nf f6]
      exact q4 f f6 f10
  · show (if i = 7 then xu (xu y.1 3 0 (nI i) (y.1 3 0 (nI i) - E)) 9 0 (nI i) (y.1 9 0 (nI i) + E) else xu (xu (xu y.1 3 0 (nI i) (y.1 3 0 (nI i) - E)) 9 0 (nI i) (y.1 9 0 (nI i) + E)) 3 0 (nI (i + 1)) (y.1 3 0 (nI (i + 1)) + E)) g = M g
    split
    · rw [xu_nf g9, xu_nf g3]
      exact q5 g g3 g9
    · rw [xu_nf g3, xu_nf g9, xu_nf g3]
      exact q5 g g3 g9
theorem spill_2 {B : Int} {S M : xS} (hB : B + 2000 < 2147483648) (hb : Bnd S) (h : AA S M) (hk : KW B S) : SpP B S M (fX2_spillOver S) (fX4_spills M) := SpP_eta (spill_1 hB hb h hk)
