/-! 47: the net in one tick -/
def NetC (k : Int) (S : xS) : Prop := (∀ o : Nat, o < 8 → S 28 (nI o) (nI o) = S 31 (nI o) (nI o) ∧ (S 31 (nI o) (nI o)).toInt ≤ k ∧ S 33 (nI o) (nI o) = 0) ∧
  ∀ m o : Nat, m < 8 → o < 8 → (0 ≤ (S 31 (nI m) (nI o)).toInt ∧ (S 31 (nI m) (nI o)).toInt ≤ (S 31 (nI o) (nI o)).toInt) ∧ (0 ≤ (S 28 (nI m) (nI o)).toInt ∧ (S 28 (nI m) (nI o)).toInt ≤ (S 28 (nI o) (nI o)).toInt) ∧
    (S 28 (nI m) (nI o) = S 28 (nI o) (nI o) → S 29 (nI m) (nI o) = S 29 (nI o) (nI o) ∧ S 30 (nI m) (nI o) = S 30 (nI o) (nI o)) ∧ 0 ≤ (S 29 (nI m) (nI o)).toInt ∧ (0 ≤ (S 30 (nI m) (nI o)).toInt ∧ (S 30 (nI m) (nI o)).toInt ≤ k) ∧ (S 33 (nI m) (nI o) = 0 ∨ S 33 (nI m) (nI o) = 1 ∨ S 33 (nI m) (nI o) = 2)
theorem NetC_iff (S : xS) : Net S ↔ NetC (clk S) S := Iff.rfl
theorem NetC_eq {k : Int} {S S' : xS} (h28 : S' 28 = S 28) (h29 : S' 29 = S 29) (h30 : S' 30 = S 30) (h31 : S' 31 = S 31) (h33 : S' 33 = S 33) (h : NetC k S) : NetC k S' := by
  unfold NetC
  rw [h28, h29, h30, h31, h33]
  exact h
/-! measuring -/
def MD (Z : xS) (T : Int32) (x : xS) (m : Nat) (done : Prop) : Prop :=
  (Z 19 0 (nI m) = 0 ∧ done → x 28 (nI m) (nI m) = Z 28 (nI m) (nI m) + 1 ∧ x 31 (nI m) (nI m) = Z 31 (nI m) (nI m) + 1 ∧ x 30 (nI m) (nI m) = T ∧ x 32 (nI m) (nI m) = T ∧ (x 29 (nI m) (nI m) = Z 29 (nI m) (nI m) ∨ x 29 (nI m) (nI m) = fX2_levelOf (nI m) Z)) ∧
  (¬ (Z 19 0 (nI m) = 0 ∧ done) → x 28 (nI m) (nI m) = Z 28 (nI m) (nI m) ∧ x 31 (nI m) (nI m) = Z 31 (nI m) (nI m) ∧ x 30 (nI m) (nI m) = Z 30 (nI m) (nI m) ∧ x 32 (nI m) (nI m) = Z 32 (nI m) (nI m) ∧ x 29 (nI m) (nI m) = Z 29 (nI m) (nI m))
def ME (Z : xS) (T : Int32) (n : Nat) (x : xS) : Prop := (∀ f, f < 28 ∨ 32 < f → x f = Z f) ∧ (∀ f m o : Nat, m < 8 → o < 8 → m ≠ o → x f (nI m) (nI o) = Z f (nI m) (nI o)) ∧ ∀ m : Nat, m < 8 → MD Z T x m (m < n)
theorem dg_ne {S : xS} {f : Nat} {v : Int32} {i m o : Nat} (hi : i < 8) (hm : m < 8) (ho : o < 8) (h : ¬ (m = i ∧ o = i)) (f' : Nat) : xu S f (nI i) (nI i) v f' (nI m) (nI o) = S f' (nI m) (nI o) := by
  by_cases hf : f' = f
  · subst hf
    rw [xrow2 hi hi hm ho, if_neg h]
  · exact xu_ne hf
theorem ms_eff {x : xS} {T L : Int32} {i : Nat} (hi : i < 8) : (∀ f, f < 28 ∨ 32 < f → fX1_measure (nI i) L T x f = x f) ∧ (∀ f m o : Nat, m < 8 → o < 8 → ¬ (m = i ∧ o = i) → fX1_measure (nI i) L T x f (nI m) (nI o) = x f (nI m) (nI o)) ∧
    fX1_measure (nI i) L T x 28 (nI i) (nI i) = x 28 (nI i) (nI i) + 1 ∧ fX1_measure (nI i) L T x 31 (nI i) (nI i) = x 31 (nI i) (nI i) + 1 ∧ fX1_measure (nI i) L T x 30 (nI i) (nI i) = T ∧ fX1_measure (nI i) L T x 32 (nI i) (nI i) = T ∧ (fX1_measure (nI i) L T x 29 (nI i) (nI i) = x 29 (nI i) (nI i) ∨ fX1_measure (nI i) L T x 29 (nI i) (nI i) = L) := by
  unfold fX1_measure
  by_cases s : x 20 0 (nI i) = 0
  · simp only [if_pos s]
    refine ⟨fun f hf => ?_, fun f m o hm ho h => ?_, ?_, ?_, ?_, ?_, Or.inr ?_⟩
    · rw [xu_nf (by omega), xu_nf (by omega), xu_nf (by omega), xu_nf (by omega), xu_nf (by omega)]
    · rw [dg_ne hi hm ho h, dg_ne hi hm ho h, dg_ne hi hm ho h, dg_ne hi hm ho h, dg_ne hi hm ho h]
    · rw [xu_ne (by decide), xu_ne (by decide), xu_same]
    · rw [xu_ne (by decide), xu_same]
    · rw [xu_ne (by decide), xu_ne (by decide), xu_ne (by decide), xu_same]
    · rw [xu_same]
    · rw [xu_ne (by decide), xu_ne (by decide), xu_ne (by decide), xu_ne (by decide), xu_same]
  · simp only [if_neg s]
    refine ⟨fun f hf => ?_, fun f m o hm ho h => ?_, ?_, ?_, ?_, ?_, Or.inl ?_⟩
    · rw [xu_nf (by omega), xu_nf (by omega), xu_nf (by omega), xu_nf (by omega)]
    · rw [dg_ne hi hm ho h, dg_ne hi hm ho h, dg_ne hi hm ho h, dg_ne hi hm ho h]
    · rw [xu_ne (by decide), xu_ne (by decide), xu_same]
    · rw [xu_ne (by decide), xu_same]
    · rw [xu_ne (by decide), xu_ne (by decide), xu_ne (by decide), xu_same]
    · rw [xu_same]
    · rw [xu_ne (by decide), xu_ne (by decide), xu_ne (by decide), xu_ne (by decide)]
theorem md_cong {Z x y : xS} {T : Int32} {m : Nat} {d d' : Prop} (he : ∀ f, y f (nI m) (nI m) = x f (nI m) (nI m)) (hd : d' ↔ d) (h : MD Z T x m d) : MD Z T y m d' := by
  unfold MD
  rw [he, he, he, he, he, hd]
  exact h
set_option maxHeartbeats 4000000 in
theorem me_all (Z : xS) (T : Int32) : ME Z T 8 (fX1_measureAll T Z) := by
  unfold fX1_measureAll
  refine xfold_I (ME Z T) (b := bX1_measureAll_2 T) 8 Z ⟨fun _ _ => rfl, fun _ _ _ _ _ _ => rfl, fun m _ => ⟨fun h => absurd h.2 (Nat.not_lt_zero _), fun _ => ⟨rfl, rfl, rfl, rfl, rfl⟩⟩⟩ (fun i hi x ⟨h1, h2, h3⟩ => ?_)
  unfold bX1_measureAll_2
  rw [h1 19 (Or.inl (by decide))]
  have el : fX2_levelOf (nI i) x = fX2_levelOf (nI i) Z := by
    unfold fX2_levelOf
    rw [h1 4 (Or.inl (by decide)), h1 6 (Or.inl (by decide))]
  by_cases u : Z 19 0 (nI i) = 0
  · rw [if_pos u, el]
    obtain ⟨d28, d31, d30, d32, d29⟩ := (h3 i hi).2 (fun z => Nat.lt_irrefl _ z.2)
    obtain ⟨e1, e2, e28, e31, e30, e32, e29⟩ := ms_eff (x := x) (T := T) (L := fX2_levelOf (nI i) Z) hi
    generalize fX1_measure (nI i) (fX2_levelOf (nI i) Z) T x = x' at e1 e2 e28 e31 e30 e32 e29
    refine ⟨fun f hf => (e1 f hf).trans (h1 f hf), fun f m o hm ho hmo => (e2 f m o hm ho (by omega)).trans (h2 f m o hm ho hmo), fun m hm => ?_⟩
    by_cases z : m = i
    · subst z
      refine ⟨fun _ => ⟨by rw [e28, d28], by rw [e31, d31], e30, e32, ?_⟩, fun q => absurd ⟨u, Nat.lt_succ_self _⟩ q⟩
      rcases e29 with q | q
      · exact Or.inl (q.trans d29)
      · exact Or.inr q
    · exact md_cong (fun f => e2 f m m hm hm (by omega)) (by omega) (h3 m hm)
  · rw [if_neg u]
    refine ⟨h1, h2, fun m hm => ?_⟩
    by_cases z : m = i
    · subst z
      exact ⟨fun q => absurd q.1 u, fun _ => (h3 m hm).2 (fun q => u q.1)⟩
    · exact md_cong (fun f => rfl) (by omega) (h3 m hm)
theorem NetC_meas {Z A : xS} {T : Int32} {k : Int} (hk : 0 ≤ k ∧ k ≤ 5000) (hT : T.toInt = k + 1) (hl : ∀ m : Nat, m < 8 → 0 ≤ (fX2_levelOf (nI m) Z).toInt) (h : NetC k Z) (hm : ME Z T 8 A) : NetC (k + 1) A := by
  obtain ⟨n1, n2⟩ := h
  obtain ⟨m1, m2, m3⟩ := hm
  have inc : ∀ o : Nat, o < 8 → (Z 31 (nI o) (nI o) + 1).toInt = (Z 31 (nI o) (nI o)).toInt + 1 := fun o ho => by
    have a := (n2 o o ho ho).1.1
    have b := (n1 o ho).2.1
    rw [xtadd (by rw [xt1]; omega) (by rw [xt1]; omega), xt1]
  have dia : ∀ o : Nat, o < 8 → (A 28 (nI o) (nI o) = A 31 (nI o) (nI o)) ∧ ((A 31 (nI o) (nI o)).toInt = (Z 31 (nI o) (nI o)).toInt + 1 ∨ ((A 31 (nI o) (nI o)) = (Z 31 (nI o) (nI o)) ∧ A 29 (nI o) (nI o) = Z 29 (nI o) (nI o) ∧ A 30 (nI o) (nI o) = Z 30 (nI o) (nI o))) ∧ 0 ≤ (A 29 (nI o) (nI o)).toInt ∧ 0 ≤ (A 30 (nI o) (nI o)).toInt ∧ (A 30 (nI o) (nI o)).toInt ≤ k + 1 := fun o ho => by
    obtain ⟨-, -, -, a4, ⟨a5, a6⟩, -⟩ := n2 o o ho ho
    by_cases u : Z 19 0 (nI o) = 0
    · obtain ⟨e28, e31, e30, e32, e29⟩ := (m3 o ho).1 ⟨u, ho⟩
      refine ⟨by rw [e28, e31, (n1 o ho).1], Or.inl (by rw [e31]; exact inc o ho), ?_, by rw [e30]; omega, by rw [e30]; omega⟩
      rcases e29 with q | q
      · rw [q]; exact a4
      · rw [q]; exact hl o ho
    · obtain ⟨e28, e31, e30, e32, e29⟩ := (m3 o ho).2 (fun q => u q.1)
      exact ⟨by rw [e28, e31, (n1 o ho).1], Or.inr ⟨e31, e29, e30⟩, by rw [e29]; exact a4, by rw [e30]; exact a5, by rw [e30]; omega⟩
  have h33 : A 33 = Z 33 := m1 33 (Or.inr (by decide))
  refine ⟨fun o ho => ⟨(dia o ho).1, ?_, by rw [h33]; exact (n1 o ho).2.2⟩, fun m o hm ho => ?_⟩
  · have b := (n1 o ho).2.1
    rcases (dia o ho).2.1 with q | ⟨q, -⟩
    · omega
    · rw [q]; omega
  · obtain ⟨a1, a2, a3, a4, a5, a6⟩ := n2 m o hm ho
    obtain ⟨d1, d2, d3, d4, d5⟩ := dia o ho
    have z28 : (Z 28 (nI o) (nI o)).toInt = (Z 31 (nI o) (nI o)).toInt := by rw [(n1 o ho).1]
    have a28 : (A 28 (nI o) (nI o)).toInt = (A 31 (nI o) (nI o)).toInt := by rw [d1]
    have ge : (Z 31 (nI o) (nI o)).toInt ≤ (A 31 (nI o) (nI o)).toInt := by
      rcases d2 with q | ⟨q, -⟩
      · omega
      · rw [q]; exact Int.le_refl _
    by_cases z : m = o
    · subst z
      exact ⟨⟨by omega, Int.le_refl _⟩, ⟨by omega, Int.le_refl _⟩, fun _ => ⟨rfl, rfl⟩, d3, ⟨d4, d5⟩, by rw [h33]; exact a6⟩
    · rw [m2 31 m o hm ho z, m2 28 m o hm ho z, m2 29 m o hm ho z, m2 30 m o hm ho z, h33]
      refine ⟨⟨a1.1, by omega⟩, ⟨a2.1, by omega⟩, fun e => ?_, a4, ⟨a5.1, by omega⟩, a6⟩
      have ee := congrArg Int32.toInt e
      rcases d2 with q | ⟨q, q29, q30⟩
      · omega
      · rw [q29, q30]
        exact a3 (by rw [e, d1, q, (n1 o ho).1])
/-! calling -/
def CI (B : xS) (T : Int32) (k : Int) (x : xS) : Prop := (∀ f, f ≠ 3 → f < 28 ∨ 33 < f → x f = B f) ∧ NetC k x ∧ (∀ f o : Nat, 28 ≤ f → f ≤ 32 → o < 8 → x f (nI o) (nI o) = B f (nI o) (nI o)) ∧
  ∀ m o : Nat, m < 8 → o < 8 → (x 31 (nI m) (nI o) = B 31 (nI m) (nI o) ∧ x 32 (nI m) (nI o) = B 32 (nI m) (nI o)) ∨ ((B 31 (nI m) (nI o)).toInt < (x 31 (nI m) (nI o)).toInt ∧ x 32 (nI m) (nI o) = T ∧ B 19 0 (nI m) = 0)
theorem ci_news {B x : xS} {T : Int32} {k : Int} {a b j : Nat} (ha : a < 8) (hb : b < 8) (hj : j < 8) (h : CI B T k x) : CI B T k (fX1_takeNews (nI a) (nI b) (nI j) x) := by
  unfold fX1_takeNews
  by_cases q : x 28 (nI b) (nI j) ≤ x 28 (nI a) (nI j)
  · rw [if_pos q]
    exact h
  · rw [if_neg q]
    obtain ⟨h1, ⟨n1, n2⟩, h3, h4⟩ := h
    rw [Int32.le_iff_toInt_le] at q
    have haj : a ≠ j := fun z => by
      subst z
      exact q (n2 b a hb ha).2.1.2
    have r31 : ∀ m o, xu (xu (xu x 28 (nI a) (nI j) (x 28 (nI b) (nI j))) 29 (nI a) (nI j) (x 29 (nI b) (nI j))) 30 (nI a) (nI j) (x 30 (nI b) (nI j)) 31 m o = x 31 m o := fun m o => by rw [xu_ne (by decide), xu_ne (by decide), xu_ne (by decide)]
    have r33 : ∀ m o, xu (xu (xu x 28 (nI a) (nI j) (x 28 (nI b) (nI j))) 29 (nI a) (nI j) (x 29 (nI b) (nI j))) 30 (nI a) (nI j) (x 30 (nI b) (nI j)) 33 m o = x 33 m o := fun m o => by rw [xu_ne (by decide), xu_ne (by decide), xu_ne (by decide)]
    have r32 : ∀ m o, xu (xu (xu x 28 (nI a) (nI j) (x 28 (nI b) (nI j))) 29 (nI a) (nI j) (x 29 (nI b) (nI j))) 30 (nI a) (nI j) (x 30 (nI b) (nI j)) 32 m o = x 32 m o := fun m o => by rw [xu_ne (by decide), xu_ne (by decide), xu_ne (by decide)]
    have r28 : ∀ m o : Nat, m < 8 → o < 8 → xu (xu (xu x 28 (nI a) (nI j) (x 28 (nI b) (nI j))) 29 (nI a) (nI j) (x 29 (nI b) (nI j))) 30 (nI a) (nI j) (x 30 (nI b) (nI j)) 28 (nI m) (nI o) = if m = a ∧ o = j then x 28 (nI b) (nI j) else x 28 (nI m) (nI o) := fun m o hm ho => by rw [xu_ne (by decide), xu_ne (by decide), xrow2 ha hj hm ho]
    have r29 : ∀ m o : Nat, m < 8 → o < 8 → xu (xu (xu x 28 (nI a) (nI j) (x 28 (nI b) (nI j))) 29 (nI a) (nI j) (x 29 (nI b) (nI j))) 30 (nI a) (nI j) (x 30 (nI b) (nI j)) 29 (nI m) (nI o) = if m = a ∧ o = j then x 29 (nI b) (nI j) else x 29 (nI m) (nI o) := fun m o hm ho => by rw [xu_ne (by decide), xrow2 ha hj hm ho, xu_ne (by decide)]
    have r30 : ∀ m o : Nat, m < 8 → o < 8 → xu (xu (xu x 28 (nI a) (nI j) (x 28 (nI b) (nI j))) 29 (nI a) (nI j) (x 29 (nI b) (nI j))) 30 (nI a) (nI j) (x 30 (nI b) (nI j)) 30 (nI m) (nI o) = if m = a ∧ o = j then x 30 (nI b) (nI j) else x 30 (nI m) (nI o) := fun m o hm ho => by rw [xrow2 ha hj hm ho, xu_ne (by decide), xu_ne (by decide)]
    have r0 : ∀ f, f ≠ 28 → f ≠ 29 → f ≠ 30 → xu (xu (xu x 28 (nI a) (nI j) (x 28 (nI b) (nI j))) 29 (nI a) (nI j) (x 29 (nI b) (nI j))) 30 (nI a) (nI j) (x 30 (nI b) (nI j)) f = x f := fun f f8 f9 f0 => by rw [xu_nf f0, xu_nf f9, xu_nf f8]
    generalize xu (xu (xu x 28 (nI a) (nI j) (x 28 (nI b) (nI j))) 29 (nI a) (nI j) (x 29 (nI b) (nI j))) 30 (nI a) (nI j) (x 30 (nI b) (nI j)) = x' at r31 r33 r32 r28 r29 r30 r0
    refine ⟨fun f f3 hf => (r0 f (by omega) (by omega) (by omega)).trans (h1 f f3 hf), ⟨fun o ho => ?_, fun m o hm ho => ?_⟩, fun f o f1 f2 ho => ?_, fun m o hm ho => ?_⟩
    · rw [r28 o o ho ho, r31, r33, if_neg (by omega)]
      exact n1 o ho
    · rw [r31, r31, r28 m o hm ho, r28 o o ho ho, r29 m o hm ho, r29 o o ho ho, r30 m o hm ho, r30 o o ho ho, r33, if_neg (show ¬ (o = a ∧ o = j) by omega), if_neg (show ¬ (o = a ∧ o = j) by omega), if_neg (show ¬ (o = a ∧ o = j) by omega)]
      by_cases z : m = a ∧ o = j
      · rw [if_pos z, if_pos z, if_pos z]
        obtain ⟨rfl, rfl⟩ := z
        obtain ⟨-, a2, a3, a4, a5, -⟩ := n2 b o hb ho
        exact ⟨(n2 m o hm ho).1, a2, a3, a4, a5, (n2 m o hm ho).2.2.2.2.2⟩
      · rw [if_neg z, if_neg z, if_neg z]
        exact n2 m o hm ho
    · have hn : ¬ (o = a ∧ o = j) := by omega
      have key : x' f (nI o) (nI o) = x f (nI o) (nI o) := by
        by_cases f8 : f = 28
        · subst f8; rw [r28 o o ho ho, if_neg hn]
        · by_cases f9 : f = 29
          · subst f9; rw [r29 o o ho ho, if_neg hn]
          · by_cases f0 : f = 30
            · subst f0; rw [r30 o o ho ho, if_neg hn]
            · rw [r0 f f8 f9 f0]
      rw [key]
      exact h3 f o f1 f2 ho
    · rw [r31, r32]
      exact h4 m o hm ho
theorem ci_beat {B x : xS} {T : Int32} {k : Int} {a b j : Nat} (ha : a < 8) (hb : b < 8) (hj : j < 8) (hu : B 19 0 (nI a) = 0) (h : CI B T k x) : CI B T k (fX1_takeBeat (nI a) (nI b) (nI j) T x) := by
  unfold fX1_takeBeat
  by_cases q : x 31 (nI b) (nI j) ≤ x 31 (nI a) (nI j)
  · rw [if_pos q]
    exact h
  · rw [if_neg q]
    obtain ⟨h1, ⟨n1, n2⟩, h3, h4⟩ := h
    rw [Int32.le_iff_toInt_le] at q
    have haj : a ≠ j := fun z => by
      subst z
      exact q (n2 b a hb ha).1.2
    have r31 : ∀ m o : Nat, m < 8 → o < 8 → xu (xu (xu x 31 (nI a) (nI j) (x 31 (nI b) (nI j))) 32 (nI a) (nI j) T) 33 (nI a) (nI j) (0 : Int32) 31 (nI m) (nI o) = if m = a ∧ o = j then x 31 (nI b) (nI j) else x 31 (nI m) (nI o) := fun m o hm ho => by rw [xu_ne (by decide), xu_ne (by decide), xrow2 ha hj hm ho]
    have r32 : ∀ m o : Nat, m < 8 → o < 8 → xu (xu (xu x 31 (nI a) (nI j) (x 31 (nI b) (nI j))) 32 (nI a) (nI j) T) 33 (nI a) (nI j) (0 : Int32) 32 (nI m) (nI o) = if m = a ∧ o = j then T else x 32 (nI m) (nI o) := fun m o hm ho => by rw [xu_ne (by decide), xrow2 ha hj hm ho, xu_ne (by decide)]
    have r33 : ∀ m o : Nat, m < 8 → o < 8 → xu (xu (xu x 31 (nI a) (nI j) (x 31 (nI b) (nI j))) 32 (nI a) (nI j) T) 33 (nI a) (nI j) (0 : Int32) 33 (nI m) (nI o) = if m = a ∧ o = j then 0 else x 33 (nI m) (nI o) := fun m o hm ho => by rw [xrow2 ha hj hm ho, xu_ne (by decide), xu_ne (by decide)]
    have r0 : ∀ f, f ≠ 31 → f ≠ 32 → f ≠ 33 → xu (xu (xu x 31 (nI a) (nI j) (x 31 (nI b) (nI j))) 32 (nI a) (nI j) T) 33 (nI a) (nI j) (0 : Int32) f = x f := fun f f1 f2 f3 => by rw [xu_nf f3, xu_nf f2, xu_nf f1]
    generalize xu (xu (xu x 31 (nI a) (nI j) (x 31 (nI b) (nI j))) 32 (nI a) (nI j) T) 33 (nI a) (nI j) (0 : Int32) = x' at r31 r33 r32 r0
    refine ⟨fun f f3 hf => (r0 f (by omega) (by omega) (by omega)).trans (h1 f f3 hf), ⟨fun o ho => ?_, fun m o hm ho => ?_⟩, fun f o f1 f2 ho => ?_, fun m o hm ho => ?_⟩
    · rw [r0 28 (by decide) (by decide) (by decide), r31 o o ho ho, r33 o o ho ho, if_neg (by omega), if_neg (by omega)]
      exact n1 o ho
    · rw [r0 28 (by decide) (by decide) (by decide), r0 29 (by decide) (by decide) (by decide), r0 30 (by decide) (by decide) (by decide), r31 m o hm ho, r31 o o ho ho, r33 m o hm ho, if_neg (show ¬ (o = a ∧ o = j) by omega)]
      by_cases z : m = a ∧ o = j
      · rw [if_pos z, if_pos z]
        obtain ⟨rfl, rfl⟩ := z
        exact ⟨(n2 b o hb ho).1, (n2 m o hm ho).2.1, (n2 m o hm ho).2.2.1, (n2 m o hm ho).2.2.2.1, (n2 m o hm ho).2.2.2.2.1, Or.inl rfl⟩
      · rw [if_neg z, if_neg z]
        exact n2 m o hm ho
    · have hn : ¬ (o = a ∧ o = j) := by omega
      have key : x' f (nI o) (nI o) = x f (nI o) (nI o) := by
        by_cases f8 : f = 31
        · subst f8; rw [r31 o o ho ho, if_neg hn]
        · by_cases f9 : f = 32
          · subst f9; rw [r32 o o ho ho, if_neg hn]
          · rw [r0 f f8 f9 (by omega)]
      rw [key]
      exact h3 f o f1 f2 ho
    · rw [r31 m o hm ho, r32 m o hm ho]
      by_cases z : m = a ∧ o = j
      · rw [if_pos z, if_pos z]
        obtain ⟨rfl, rfl⟩ := z
        refine Or.inr ⟨?_, rfl, hu⟩
        rcases h4 m o hm ho with ⟨e, -⟩ | ⟨e, -⟩
        · rw [← e]; omega
        · omega
      · rw [if_neg z, if_neg z]
        exact h4 m o hm ho
theorem f3_news {a b j : Int32} {x : xS} : fX1_takeNews a b j x 3 = x 3 := by
  unfold fX1_takeNews
  split
  · rfl
  · rw [xu_nf (by decide), xu_nf (by decide), xu_nf (by decide)]
theorem f3_beat {a b j t : Int32} {x : xS} : fX1_takeBeat a b j t x 3 = x 3 := by
  unfold fX1_takeBeat
  split
  · rfl
  · rw [xu_nf (by decide), xu_nf (by decide), xu_nf (by decide)]
theorem ci_tell {B x : xS} {T : Int32} {k : Int} {a b : Nat} (ha : a < 8) (hb : b < 8) (hu : B 19 0 (nI a) = 0) (hw : B 19 0 (nI b) = 0) (h : CI B T k x) : CI B T k (fX1_tellOneAnother (nI a) (nI b) T x) ∧ fX1_tellOneAnother (nI a) (nI b) T x 3 = x 3 := by
  unfold fX1_tellOneAnother
  refine xfold_T (fun (y : xS) => CI B T k y ∧ y 3 = x 3) (bX1_tellOneAnother_3 (nI a) (nI b) T) 8 x (fun j hj y ⟨q, q3⟩ => ?_) ⟨h, rfl⟩
  unfold bX1_tellOneAnother_3
  exact ⟨ci_beat hb ha hj hw (ci_beat ha hb hj hu (ci_news hb ha hj (ci_news ha hb hj q))), by rw [f3_beat, f3_beat, f3_news, f3_news]; exact q3⟩
theorem ci_3 {B x : xS} {T : Int32} {k : Int} {i v : Int32} (h : CI B T k x) : CI B T k (xu x 3 0 i v) := by
  obtain ⟨h1, h2, h3, h4⟩ := h
  refine ⟨fun f f3 hf => (xu_nf f3).trans (h1 f f3 hf), NetC_eq (xu_nf (by decide)) (xu_nf (by decide)) (xu_nf (by decide)) (xu_nf (by decide)) (xu_nf (by decide)) h2, fun f o f1 f2 ho => ?_, fun m o hm ho => ?_⟩
  · rw [xu_nf (by omega)]
    exact h3 f o f1 f2 ho
  · rw [xu_nf (by decide), xu_nf (by decide)]
    exact h4 m o hm ho
/-- how many are up below n -/
def ups (B : xS) : Nat → Int
  | 0 => 0
  | n + 1 => ups B n + if B 19 0 (nI n) = 0 then 1 else 0
theorem ups_b (B : xS) : ∀ n, 0 ≤ ups B n ∧ ups B n ≤ n
  | 0 => ⟨Int.le_refl 0, Int.le_refl 0⟩
  | n + 1 => by
    have h := ups_b B n
    unfold ups
    split <;> omega
def CV (B : xS) (T : Int32) (k : Int) (n : Nat) (x : xS) : Prop := CI B T k x ∧ (∀ i, i ≠ nI 11 → x 3 0 i = B 3 0 i) ∧ vn B ≤ vn x ∧ vn x ≤ vn B + ups B n
theorem cv_call {B x : xS} {T : Int32} {k : Int} {n : Nat} (hn : n < 8) (hv : 0 ≤ vn B ∧ vn B ≤ 100000) (hu : B 19 0 (nI n) = 0) (h : CV B T k n x) : CV B T k (n + 1) (fX1_call (nI n) T x) := by
  obtain ⟨h1, h2, h3, h4⟩ := h
  have hub := ups_b B n
  have up1 : ups B (n + 1) = ups B n + 1 := by
    show ups B n + (if B 19 0 (nI n) = 0 then 1 else 0) = _
    rw [if_pos hu]
  have vain : CV B T k (n + 1) (xu x 3 0 (nI 11) ((x 3 0 (nI 11)) + (1 : Int32))) := by
    have ev : vn (xu x 3 0 (nI 11) ((x 3 0 (nI 11)) + (1 : Int32))) = vn x + 1 := by
      show (xu x 3 0 (nI 11) ((x 3 0 (nI 11)) + (1 : Int32)) 3 0 (nI 11)).toInt = _
      have hx : vn x = (x 3 0 (nI 11)).toInt := rfl
      rw [xu_same, xtadd (by rw [xt1]; omega) (by rw [xt1]; omega), xt1, hx]
    refine ⟨ci_3 h1, fun i hi => ?_, by omega, by omega⟩
    rw [xu_row, if_neg hi]
    exact h2 i hi
  unfold fX1_call
  by_cases c : (0 : Int32) ≤ fX1_calledBy (nI n) T x
  · rw [if_pos c]
    obtain ⟨c1, c2⟩ := called_in (in8 hn) c
    obtain ⟨p, hp, ep⟩ := xin_j c1
    rw [ep]
    have e19 : x 19 = B 19 := h1.1 19 (by decide) (Or.inl (by decide))
    by_cases d : x 19 0 (nI p) = 0
    · rw [if_pos d]
      by_cases g : x 21 0 (nI p) = x 21 0 (nI n)
      · rw [if_pos g]
        obtain ⟨t1, t2⟩ := ci_tell (x := x) hn hp hu (by rw [← e19]; exact d) h1
        refine ⟨t1, fun i hi => by rw [t2]; exact h2 i hi, ?_, ?_⟩
        · unfold vn at *; rw [t2]; exact h3
        · unfold vn at *; rw [t2]; omega
      · rw [if_neg g]
        exact vain
    · rw [if_neg d]
      exact vain
  · rw [if_neg c]
    exact ⟨h1, h2, h3, by omega⟩
theorem cv_all {B : xS} {T : Int32} {k : Int} (hv : 0 ≤ vn B ∧ vn B ≤ 100000) (h : NetC k B) : CV B T k 8 (fX1_callAll T B) := by
  unfold fX1_callAll
  refine xfold_I (CV B T k) (b := bX1_callAll_2 T) 8 B ⟨⟨fun _ _ _ => rfl, h, fun _ _ _ _ _ => rfl, fun _ _ _ _ => Or.inl ⟨rfl, rfl⟩⟩, fun _ _ => rfl, Int.le_refl _, by show vn B ≤ vn B + 0; omega⟩ (fun i hi x hx => ?_)
  unfold bX1_callAll_2
  rw [hx.1.1 19 (by decide) (Or.inl (by decide))]
  by_cases u : B 19 0 (nI i) = 0
  · rw [if_pos u]
    exact cv_call hi hv u hx
  · rw [if_neg u]
    obtain ⟨h1, h2, h3, h4⟩ := hx
    refine ⟨h1, h2, h3, ?_⟩
    show vn x ≤ vn B + (ups B i + (if B 19 0 (nI i) = 0 then 1 else 0))
    rw [if_neg u]
    omega
theorem st_012 (d : Int32) (S : xS) : fX1_statusAfter d S = 0 ∨ fX1_statusAfter d S = 1 ∨ fX1_statusAfter d S = 2 := by
  unfold fX1_statusAfter
  (repeat' split) <;> simp
theorem NetC_look {A : xS} {T : Int32} {k : Int} (h : NetC k A) : NetC k (fX1_lookAll T A) := by
  obtain ⟨a1, a2⟩ := LA_all A T
  obtain ⟨n1, n2⟩ := h
  refine ⟨fun o ho => ?_, fun m o hm ho => ?_⟩
  · rw [a1 28 (by decide), a1 31 (by decide), a2 o o ho ho, if_neg (fun z => z.2.2 rfl)]
    exact n1 o ho
  · rw [a1 28 (by decide), a1 31 (by decide), a1 29 (by decide), a1 30 (by decide), a2 m o hm ho]
    obtain ⟨b1, b2, b3, b4, b5, b6⟩ := n2 m o hm ho
    refine ⟨b1, b2, b3, b4, b5, ?_⟩
    split
    · exact st_012 _ _
    · exact b6
