/-! 38: measuring and calling -/
def KS (S x : xS) : Prop := ∀ f, f < 28 → f ≠ 3 → x f = S f
def KT (M y : xS) : Prop := y 0 0 (nI 29) = M 0 0 (nI 29) ∧ y 18 = M 18
theorem KS.bnd {S x : xS} (h : KS S x) (hb : Bnd S) : Bnd x := Bnd_eq (h 4 (by decide) (by decide)) (h 5 (by decide) (by decide)) (h 11 (by decide) (by decide)) (h 12 (by decide) (by decide)) hb
theorem KS.time {S x y : xS} (h : KS S x) (hA : AA x y) : y 0 0 (nI 28) = S 0 0 (nI 3) := by
  rw [← hA.1.2.2.2.2, h 0 (by decide) (by decide)]
def TP (S M x y : xS) : Prop := AA x y ∧ KS S x ∧ KT M y
theorem meas_2 {S M : xS} (h : AA S M) (hb : Bnd S) : TP S M (fX1_measureAll (S 0 0 (nI 3)) S) (fX4_measures M) := by
  unfold fX1_measureAll fX4_measures
  refine xfold_2 (TP S M) (b := bX1_measureAll_2 (S 0 0 (nI 3))) (b' := bX4_measures_2) 8 S M ⟨h, fun _ _ _ => rfl, rfl, rfl⟩ fun i hi x y ⟨q1, q2, q3⟩ => ?_
  have i8 := in8 hi
  unfold bX1_measureAll_2 bX4_measures_2
  rw [← lv_eq q1 (q2.bnd hb) i8, q2.time q1, ← q1.one (f := 19) (g := 16) (by decide) i8, ← q1.one (f := 20) (g := 18) (by decide) i8, ← q1.two (f := 28) (g := 19) (by decide) i8 i8, ← q1.two (f := 31) (g := 22) (by decide) i8 i8]
  by_cases a : x 19 0 (nI i) = 0
  · rw [if_pos a, if_pos a]
    unfold fX1_measure
    by_cases b : x 20 0 (nI i) = 0
    · rw [if_pos b, if_pos b, xu_comm (f := 30) (f' := 28) (by decide)]
      refine ⟨AA_2 (f := 32) (g := 23) (by decide) i8 i8 (AA_2 (f := 31) (g := 22) (by decide) i8 i8 (AA_2 (f := 30) (g := 21) (by decide) i8 i8 (AA_2 (f := 28) (g := 19) (by decide) i8 i8 (AA_2 (f := 29) (g := 20) (by decide) i8 i8 q1)))), fun f hf h3 => ?_, ?_, ?_⟩
      · rw [xu_nf (by omega), xu_nf (by omega), xu_nf (by omega), xu_nf (by omega), xu_nf (by omega)]
        exact q2 f hf h3
      · rw [xu_ne (by decide), xu_ne (by decide), xu_ne (by decide), xu_ne (by decide), xu_ne (by decide)]
        exact q3.1
      · rw [xu_nf (by decide), xu_nf (by decide), xu_nf (by decide), xu_nf (by decide), xu_nf (by decide)]
        exact q3.2
    · rw [if_neg b, if_neg b, xu_id, xu_comm (f := 30) (f' := 28) (by decide)]
      refine ⟨AA_2 (f := 32) (g := 23) (by decide) i8 i8 (AA_2 (f := 31) (g := 22) (by decide) i8 i8 (AA_2 (f := 30) (g := 21) (by decide) i8 i8 (AA_2 (f := 28) (g := 19) (by decide) i8 i8 q1))), fun f hf h3 => ?_, ?_, ?_⟩
      · rw [xu_nf (by omega), xu_nf (by omega), xu_nf (by omega), xu_nf (by omega)]
        exact q2 f hf h3
      · rw [xu_ne (by decide), xu_ne (by decide), xu_ne (by decide), xu_ne (by decide)]
        exact q3.1
      · rw [xu_nf (by decide), xu_nf (by decide), xu_nf (by decide), xu_nf (by decide)]
        exact q3.2
  · rw [if_neg a, if_neg a]
    exact ⟨q1, q2, q3⟩
theorem xu_ri {S : xS} {f f' : Nat} {r i v r' i' : Int32} (h : ¬ (r' = r ∧ i' = i)) : xu S f r i v f' r' i' = S f' r' i' := by
  unfold xu
  by_cases hf : f' = f
  · rw [if_pos hf, if_neg h, hf]
  · rw [if_neg hf]
/-! a step at one column -/
abbrev xCol : Type := Nat → Int32 → Int32
def opn (G : xCol → xCol) (k : Int32) (x : xS) : xS := fun f r j => if j = k then G (fun f r => x f r k) f r else x f r j
theorem opn_comp (G G' : xCol → xCol) (k : Int32) (x : xS) : opn G k (opn G' k x) = opn (fun c => G (G' c)) k x := by
  funext f r j
  unfold opn
  by_cases h : j = k
  · simp only [if_pos h, if_true]
  · simp only [if_neg h]
theorem opn_ne (G G' : xCol → xCol) {k k' : Int32} (h : k ≠ k') (x : xS) : opn G k (opn G' k' x) = opn G' k' (opn G k x) := by
  funext f r j
  unfold opn
  by_cases h1 : j = k
  · subst h1
    simp only [if_true, if_neg h]
  · by_cases h2 : j = k'
    · subst h2
      simp only [if_true, if_neg h1]
    · simp only [if_neg h1, if_neg h2]
theorem opn_past (G G' : xCol → xCol) (k : Nat) (hk : k < 8) : ∀ n, n ≤ k → ∀ x, xfold (opn G) n (opn G' (nI k) x) = opn G' (nI k) (xfold (opn G) n x)
  | 0, _, _ => rfl
  | n + 1, hn, x => by
    show opn G (nI n) (xfold (opn G) n (opn G' (nI k) x)) = opn G' (nI k) (opn G (nI n) (xfold (opn G) n x))
    rw [opn_past G G' k hk n (by omega) x]
    exact opn_ne G G' (fun z => by have := (xnj (show n < 8 by omega) hk).mp z; omega) _
theorem opn_two (G G' : xCol → xCol) : ∀ n, n ≤ 8 → ∀ x, xfold (opn G) n (xfold (opn G') n x) = xfold (opn (fun c => G (G' c))) n x
  | 0, _, _ => rfl
  | n + 1, hn, x => by
    show opn G (nI n) (xfold (opn G) n (opn G' (nI n) (xfold (opn G') n x))) = opn (fun c => G (G' c)) (nI n) (xfold (opn (fun c => G (G' c))) n x)
    rw [opn_past G G' n (by omega) n (Nat.le_refl _), opn_two G G' n (by omega) x, opn_comp]
def gN (a b : Int32) (c : xCol) : xCol := fun f r => if c 28 b ≤ c 28 a then c f r else if r = a ∧ (f = 28 ∨ f = 29 ∨ f = 30) then c f b else c f r
def gB (a b t : Int32) (c : xCol) : xCol := fun f r => if c 31 b ≤ c 31 a then c f r else if r = a ∧ f = 31 then c 31 b else if r = a ∧ f = 32 then t else if r = a ∧ f = 33 then 0 else c f r
theorem news_op (a b k : Int32) (x : xS) : fX1_takeNews a b k x = opn (gN a b) k x := by
  funext f r j
  unfold fX1_takeNews opn gN
  by_cases c : x 28 b k ≤ x 28 a k
  · simp only [if_pos c]
    by_cases h : j = k
    · rw [if_pos h, h]
    · rw [if_neg h]
  · simp only [if_neg c]
    by_cases h : j = k
    · subst h
      rw [if_pos rfl]
      by_cases hr : r = a
      · subst hr
        by_cases f30 : f = 30
        · subst f30
          simp [xu]
        · by_cases f29 : f = 29
          · subst f29
            simp [xu]
          · by_cases f28 : f = 28
            · subst f28
              simp [xu]
            · simp [xu, f30, f29, f28]
      · rw [xu_ri (fun z => hr z.1), xu_ri (fun z => hr z.1), xu_ri (fun z => hr z.1)]
        simp [hr]
    · rw [if_neg h, xu_ri (fun z => h z.2), xu_ri (fun z => h z.2), xu_ri (fun z => h z.2)]
theorem beat_op (a b k t : Int32) (x : xS) : fX1_takeBeat a b k t x = opn (gB a b t) k x := by
  funext f r j
  unfold fX1_takeBeat opn gB
  by_cases c : x 31 b k ≤ x 31 a k
  · simp only [if_pos c]
    by_cases h : j = k
    · rw [if_pos h, h]
    · rw [if_neg h]
  · simp only [if_neg c]
    by_cases h : j = k
    · subst h
      rw [if_pos rfl]
      by_cases hr : r = a
      · subst hr
        by_cases f33 : f = 33
        · subst f33
          simp [xu]
        · by_cases f32 : f = 32
          · subst f32
            simp [xu]
          · by_cases f31 : f = 31
            · subst f31
              simp [xu]
            · simp [xu, f31, f32, f33]
      · rw [xu_ri (fun z => hr z.1), xu_ri (fun z => hr z.1), xu_ri (fun z => hr z.1)]
        simp [hr]
    · rw [if_neg h, xu_ri (fun z => h z.2), xu_ri (fun z => h z.2), xu_ri (fun z => h z.2)]
theorem nb_comm (a b t : Int32) (c : xCol) : gN b a (gB a b t c) = gB a b t (gN b a c) := by
  have e1 : ∀ r, gB a b t c 28 r = c 28 r := fun r => by simp [gB]
  have e2 : ∀ r, gN b a c 31 r = c 31 r := fun r => by simp [gN]
  funext f r
  show (if gB a b t c 28 a ≤ gB a b t c 28 b then gB a b t c f r else if r = b ∧ (f = 28 ∨ f = 29 ∨ f = 30) then gB a b t c f a else gB a b t c f r) = (if gN b a c 31 b ≤ gN b a c 31 a then gN b a c f r else if r = a ∧ f = 31 then gN b a c 31 b else if r = a ∧ f = 32 then t else if r = a ∧ f = 33 then 0 else gN b a c f r)
  rw [e1, e1, e2, e2]
  unfold gB gN
  by_cases h1 : c 28 a ≤ c 28 b
  · simp only [if_pos h1]
  · simp only [if_neg h1]
    by_cases h2 : c 31 b ≤ c 31 a
    · simp only [if_pos h2]
    · simp only [if_neg h2]
      by_cases f1 : f = 28 ∨ f = 29 ∨ f = 30
      · have n1 : f ≠ 31 := by omega
        have n2 : f ≠ 32 := by omega
        have n3 : f ≠ 33 := by omega
        simp [f1, n1, n2, n3]
      · simp [f1]
def cT (a b t : Int32) (x : xS) : xS := xfold (fun k x => fX1_takeBeat a b k t (fX1_takeNews a b k x)) 8 x
theorem cT_op (a b t : Int32) (x : xS) : cT a b t x = xfold (opn (fun c => gB a b t (gN a b c))) 8 x := by
  unfold cT
  refine xfold_cong 8 x fun i hi x => ?_
  rw [news_op, beat_op, opn_comp]
theorem tell_eq (a b t : Int32) (x : xS) : fX1_tellOneAnother a b t x = cT b a t (cT a b t x) := by
  rw [cT_op, cT_op, opn_two _ _ 8 (Nat.le_refl _)]
  unfold fX1_tellOneAnother
  refine xfold_cong 8 x fun i hi x => ?_
  unfold bX1_tellOneAnother_3
  rw [news_op, news_op, beat_op, beat_op, opn_comp, opn_comp, opn_comp]
  refine congrArg (fun G => opn G (nI i) x) ?_
  funext c
  rw [nb_comm]
theorem takes_2 {S M x y : xS} {a b : Int32} (ha : vp_in a 8) (hb : vp_in b 8) (h : TP S M x y) : TP S M (cT a b (S 0 0 (nI 3)) x) (fX4_takes a b y) := by
  unfold cT fX4_takes
  refine xfold_2 (TP S M) (b := fun k x => fX1_takeBeat a b k (S 0 0 (nI 3)) (fX1_takeNews a b k x)) (b' := bX4_takes_2 a b) 8 x y h fun i hi x y ⟨q1, q2, q3⟩ => ?_
  have i8 := in8 hi
  have news : TP S M (fX1_takeNews a b (nI i) x) (if (y 19 0 (fX4_at b (nI i))) ≤ (y 19 0 (fX4_at a (nI i))) then y else (xu (xu (xu y 19 0 (fX4_at a (nI i)) (y 19 0 (fX4_at b (nI i)))) 20 0 (fX4_at a (nI i)) (y 20 0 (fX4_at b (nI i)))) 21 0 (fX4_at a (nI i)) (y 21 0 (fX4_at b (nI i))))) := by
    unfold fX1_takeNews
    rw [← q1.two (f := 28) (g := 19) (by decide) hb i8, ← q1.two (f := 28) (g := 19) (by decide) ha i8, ← q1.two (f := 29) (g := 20) (by decide) hb i8, ← q1.two (f := 30) (g := 21) (by decide) hb i8]
    by_cases c : x 28 b (nI i) ≤ x 28 a (nI i)
    · rw [if_pos c, if_pos c]
      exact ⟨q1, q2, q3⟩
    · rw [if_neg c, if_neg c]
      refine ⟨AA_2 (f := 30) (g := 21) (by decide) ha i8 (AA_2 (f := 29) (g := 20) (by decide) ha i8 (AA_2 (f := 28) (g := 19) (by decide) ha i8 q1)), fun f hf h3 => ?_, ?_, ?_⟩
      · rw [xu_nf (by omega), xu_nf (by omega), xu_nf (by omega)]
        exact q2 f hf h3
      · rw [xu_ne (by decide), xu_ne (by decide), xu_ne (by decide)]
        exact q3.1
      · rw [xu_nf (by decide), xu_nf (by decide), xu_nf (by decide)]
        exact q3.2
  have e : bX4_takes_2 a b (nI i) y = (fun z : xS => if (z 22 0 (fX4_at b (nI i))) ≤ (z 22 0 (fX4_at a (nI i))) then z else (xu (xu (xu z 22 0 (fX4_at a (nI i)) (z 22 0 (fX4_at b (nI i)))) 23 0 (fX4_at a (nI i)) (z 0 0 (nI 28))) 24 0 (fX4_at a (nI i)) (0 : Int32))) (if (y 19 0 (fX4_at b (nI i))) ≤ (y 19 0 (fX4_at a (nI i))) then y else (xu (xu (xu y 19 0 (fX4_at a (nI i)) (y 19 0 (fX4_at b (nI i)))) 20 0 (fX4_at a (nI i)) (y 20 0 (fX4_at b (nI i)))) 21 0 (fX4_at a (nI i)) (y 21 0 (fX4_at b (nI i))))) := by
    unfold bX4_takes_2
    by_cases c : (y 19 0 (fX4_at b (nI i))) ≤ (y 19 0 (fX4_at a (nI i)))
    · rw [if_pos c, if_pos c]
    · rw [if_neg c, if_neg c]
      show _ = if xu (xu (xu y 19 0 _ _) 20 0 _ _) 21 0 _ _ 22 0 _ ≤ xu (xu (xu y 19 0 _ _) 20 0 _ _) 21 0 _ _ 22 0 _ then _ else _
      have k : ∀ r, xu (xu (xu y 19 0 (fX4_at a (nI i)) (y 19 0 (fX4_at b (nI i)))) 20 0 (fX4_at a (nI i)) (y 20 0 (fX4_at b (nI i)))) 21 0 (fX4_at a (nI i)) (y 21 0 (fX4_at b (nI i))) 22 0 r = y 22 0 r := fun r => by rw [xu_ne (by decide), xu_ne (by decide), xu_ne (by decide)]
      have k0 : xu (xu (xu y 19 0 (fX4_at a (nI i)) (y 19 0 (fX4_at b (nI i)))) 20 0 (fX4_at a (nI i)) (y 20 0 (fX4_at b (nI i)))) 21 0 (fX4_at a (nI i)) (y 21 0 (fX4_at b (nI i))) 0 0 (nI 28) = y 0 0 (nI 28) := by rw [xu_ne (by decide), xu_ne (by decide), xu_ne (by decide)]
      rw [k, k, k0]
  rw [e]
  revert news
  show TP S M (fX1_takeNews a b (nI i) x) _ → TP S M (fX1_takeBeat a b (nI i) (S 0 0 (nI 3)) (fX1_takeNews a b (nI i) x)) _
  generalize fX1_takeNews a b (nI i) x = x'
  generalize (if (y 19 0 (fX4_at b (nI i))) ≤ (y 19 0 (fX4_at a (nI i))) then y else (xu (xu (xu y 19 0 (fX4_at a (nI i)) (y 19 0 (fX4_at b (nI i)))) 20 0 (fX4_at a (nI i)) (y 20 0 (fX4_at b (nI i)))) 21 0 (fX4_at a (nI i)) (y 21 0 (fX4_at b (nI i))))) = y'
  rintro ⟨p1, p2, p3⟩
  show TP S M _ (if (y' 22 0 (fX4_at b (nI i))) ≤ (y' 22 0 (fX4_at a (nI i))) then y' else (xu (xu (xu y' 22 0 (fX4_at a (nI i)) (y' 22 0 (fX4_at b (nI i)))) 23 0 (fX4_at a (nI i)) (y' 0 0 (nI 28))) 24 0 (fX4_at a (nI i)) (0 : Int32)))
  unfold fX1_takeBeat
  rw [← p1.two (f := 31) (g := 22) (by decide) hb i8, ← p1.two (f := 31) (g := 22) (by decide) ha i8, p2.time p1]
  by_cases c : x' 31 b (nI i) ≤ x' 31 a (nI i)
  · rw [if_pos c, if_pos c]
    exact ⟨p1, p2, p3⟩
  · rw [if_neg c, if_neg c]
    refine ⟨AA_2 (f := 33) (g := 24) (by decide) ha i8 (AA_2 (f := 32) (g := 23) (by decide) ha i8 (AA_2 (f := 31) (g := 22) (by decide) ha i8 p1)), fun f hf h3 => ?_, ?_, ?_⟩
    · rw [xu_nf (by omega), xu_nf (by omega), xu_nf (by omega)]
      exact p2 f hf h3
    · rw [xu_ne (by decide), xu_ne (by decide), xu_ne (by decide)]
      exact p3.1
    · rw [xu_nf (by decide), xu_nf (by decide), xu_nf (by decide)]
      exact p3.2
theorem vain_2 {S M x y : xS} (h : TP S M x y) : TP S M (xu x 3 0 (nI 11) ((x 3 0 (nI 11)) + (1 : Int32))) (xu y 0 0 (nI 27) ((y 0 0 (nI 27)) + (1 : Int32))) := by
  obtain ⟨p1, p2, p3⟩ := h
  rw [← p1.1.2.2.2.1]
  refine ⟨AA_vain p1, fun f hf h3 => by rw [xu_nf h3]; exact p2 f hf h3, by rw [xu_ni (by decide)]; exact p3.1, by rw [xu_nf (by decide)]; exact p3.2⟩
theorem calls_2 {S M : xS} (hC : Clk S) (h : AA S M) : TP S M (fX1_callAll (S 0 0 (nI 3)) S) (fX4_calls M) := by
  unfold fX1_callAll fX4_calls
  refine xfold_2 (TP S M) (b := bX1_callAll_2 (S 0 0 (nI 3))) (b' := bX4_calls_2) 8 S M ⟨h, fun _ _ _ => rfl, rfl, rfl⟩ fun i hi x y q => ?_
  obtain ⟨q1, q2, q3⟩ := id q
  have i8 := in8 hi
  have ht : vp_in (S 0 0 (nI 3)) 6001 := by
    rw [vp_in_iff]
    unfold Clk clk at hC
    omega
  have z : xu y 0 0 (nI 27) (y 0 0 (nI 27) + (0 : Int32)) = y := by
    rw [Int32.add_zero]
    exact xu_id
  unfold bX1_callAll_2 bX4_calls_2
  rw [z, q2.time q1, called_eq q1 i8 ht, ← q1.one (f := 19) (g := 16) (by decide) i8]
  by_cases a : x 19 0 (nI i) = 0
  · rw [if_pos a, if_pos a]
    unfold fX1_call
    by_cases b : (0 : Int32) ≤ fX1_calledBy (nI i) (S 0 0 (nI 3)) x
    · obtain ⟨c8, cne⟩ := called_in i8 b
      rw [if_pos b, if_neg (show ¬ fX1_calledBy (nI i) (S 0 0 (nI 3)) x = (-1 : Int32) from fun w => by rw [w] at b; exact absurd b (by decide))]
      generalize fX1_calledBy (nI i) (S 0 0 (nI 3)) x = p at *
      rw [← q1.one (f := 19) (g := 16) (by decide) c8, ← q1.one (f := 21) (g := 17) (by decide) c8, ← q1.one (f := 21) (g := 17) (by decide) i8]
      by_cases d : x 19 0 p = 0
      · rw [if_pos d, if_pos d]
        by_cases e : x 21 0 p = x 21 0 (nI i)
        · rw [if_pos e, if_pos e, tell_eq]
          exact takes_2 c8 i8 (takes_2 i8 c8 q)
        · rw [if_neg e, if_neg e]
          exact vain_2 q
      · rw [if_neg d, if_neg d]
        exact vain_2 q
    · rw [if_neg b, if_pos (called_no i8 b)]
      exact q
  · rw [if_neg a, if_neg a]
    exact q
