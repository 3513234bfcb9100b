/-! 30: what the class's state and the reference's state owe each other -/
def R1 : List (Nat × Nat) := [(4, 1), (5, 2), (6, 3), (12, 4), (11, 5), (7, 6), (9, 8), (10, 9), (13, 10), (14, 11), (15, 12), (16, 13), (18, 14), (17, 15), (19, 16), (21, 17), (20, 18)]
def R2 : List (Nat × Nat) := [(28, 19), (29, 20), (30, 21), (31, 22), (32, 23), (33, 24)]
def A1 (S M : xS) : Prop := ∀ f g, (f, g) ∈ R1 → ∀ r, vp_in r 8 → S f 0 r = M g 0 r
def A2 (S M : xS) : Prop := ∀ f g, (f, g) ∈ R2 → ∀ m o, vp_in m 8 → vp_in o 8 → S f m o = M g 0 (fX4_at m o)
def A0 (S M : xS) : Prop := S 1 0 (nI 7) = M 0 0 (nI 9) ∧ S 3 0 (nI 9) = M 0 0 (nI 25) ∧ S 3 0 (nI 10) = M 0 0 (nI 26) ∧ S 3 0 (nI 11) = M 0 0 (nI 27) ∧ S 0 0 (nI 3) = M 0 0 (nI 28)
def AA (S M : xS) : Prop := A0 S M ∧ A1 S M ∧ A2 S M
theorem R1_bij : ∀ p ∈ R1, ∀ q ∈ R1, (p.1 = q.1 ↔ p.2 = q.2) := by decide
theorem R2_bij : ∀ p ∈ R2, ∀ q ∈ R2, (p.1 = q.1 ↔ p.2 = q.2) := by decide
theorem R12 : ∀ p ∈ R1, ∀ q ∈ R2, p.1 ≠ q.1 ∧ p.2 ≠ q.2 := by decide
theorem R1_0 : ∀ p ∈ R1, p.1 ≠ 0 ∧ p.1 ≠ 1 ∧ p.1 ≠ 3 ∧ p.2 ≠ 0 := by decide
theorem R2_0 : ∀ p ∈ R2, p.1 ≠ 0 ∧ p.1 ≠ 1 ∧ p.1 ≠ 3 ∧ p.2 ≠ 0 := by decide
theorem xat_int8 {m o : Int32} (hm : vp_in m 8) (ho : vp_in o 8) : (fX4_at m o).toInt = 8 * m.toInt + o.toInt := by
  rw [xti] at hm ho
  unfold fX4_at
  have e : ((8 : Int32) * m).toInt = 8 * m.toInt := by rw [xtmul (by rw [xt8]; omega) (by rw [xt8]; omega), xt8]
  rw [xtadd (by rw [e]; omega) (by rw [e]; omega), e]
theorem xat_inj {m o m' o' : Int32} (hm : vp_in m 8) (ho : vp_in o 8) (hm' : vp_in m' 8) (ho' : vp_in o' 8) : fX4_at m o = fX4_at m' o' ↔ m = m' ∧ o = o' := by
  constructor
  · intro h
    have h1 := congrArg Int32.toInt h
    rw [xat_int8 hm ho, xat_int8 hm' ho'] at h1
    rw [xti] at hm ho hm' ho'
    exact ⟨Int32.toInt_inj.mp (by omega), Int32.toInt_inj.mp (by omega)⟩
  · rintro ⟨rfl, rfl⟩
    rfl
section AAS
variable {S M : xS} {f g : Nat} {r i v m o : Int32}
theorem AA.one (h : AA S M) (hm : (f, g) ∈ R1) (hr : vp_in r 8) : S f 0 r = M g 0 r := h.2.1 f g hm r hr
theorem AA.two (h : AA S M) (hm : (f, g) ∈ R2) (h1 : vp_in m 8) (h2 : vp_in o 8) : S f m o = M g 0 (fX4_at m o) := h.2.2 f g hm m o h1 h2
theorem AA_1 (hm : (f, g) ∈ R1) (h : AA S M) : AA (xu S f 0 r v) (xu M g 0 r v) := by
  obtain ⟨h0, h1, h2⟩ := h
  obtain ⟨n0, n1, n3, m0⟩ := R1_0 _ hm
  refine ⟨?_, fun f' g' hm' r' hr' => ?_, fun f' g' hm' m o hm8 ho8 => ?_⟩
  · unfold A0
    rw [xu_nf (Ne.symm n0), xu_nf (Ne.symm n1), xu_nf (Ne.symm n3), xu_nf (Ne.symm m0)]
    exact h0
  · have hb := R1_bij _ hm' _ hm
    by_cases hf : f' = f
    · have hg : g' = g := hb.mp hf
      subst hf
      subst hg
      rw [xu_self, xu_self, h1 f' g' hm r' hr']
    · have hg : g' ≠ g := fun z => hf (hb.mpr z)
      rw [xu_ne hf, xu_ne hg]
      exact h1 f' g' hm' r' hr'
  · have hb := R12 _ hm _ hm'
    rw [xu_ne (Ne.symm hb.1), xu_ne (Ne.symm hb.2)]
    exact h2 f' g' hm' m o hm8 ho8
theorem AA_2 (hm : (f, g) ∈ R2) (hm8 : vp_in m 8) (ho8 : vp_in o 8) (h : AA S M) : AA (xu S f m o v) (xu M g 0 (fX4_at m o) v) := by
  obtain ⟨h0, h1, h2⟩ := h
  obtain ⟨n0, n1, n3, m0⟩ := R2_0 _ hm
  refine ⟨?_, fun f' g' hm' r' hr' => ?_, fun f' g' hm' m' o' hm8' ho8' => ?_⟩
  · unfold A0
    rw [xu_nf (Ne.symm n0), xu_nf (Ne.symm n1), xu_nf (Ne.symm n3), xu_nf (Ne.symm m0)]
    exact h0
  · have hb := R12 _ hm' _ hm
    rw [xu_ne hb.1, xu_ne hb.2]
    exact h1 f' g' hm' r' hr'
  · have hb := R2_bij _ hm' _ hm
    by_cases hf : f' = f
    · have hg : g' = g := hb.mp hf
      subst hf
      subst hg
      rw [xu_self, xu_self, h2 f' g' hm m' o' hm8' ho8']
      by_cases hc : m' = m ∧ o' = o
      · rw [if_pos hc, if_pos ⟨rfl, (xat_inj hm8' ho8' hm8 ho8).mpr hc⟩]
      · rw [if_neg hc, if_neg (fun z => hc ((xat_inj hm8' ho8' hm8 ho8).mp z.2))]
    · have hg : g' ≠ g := fun z => hf (hb.mpr z)
      rw [xu_ne hf, xu_ne hg]
      exact h2 f' g' hm' m' o' hm8' ho8'
theorem AA_S (h : AA S M) (hf : (∀ p ∈ R1, p.1 ≠ f) ∧ (∀ p ∈ R2, p.1 ≠ f) ∧ f ≠ 0 ∧ f ≠ 1 ∧ f ≠ 3) : AA (xu S f r i v) M := by
  obtain ⟨h0, h1, h2⟩ := h
  obtain ⟨k1, k2, n0, n1, n3⟩ := hf
  refine ⟨?_, fun f' g' hm' r' hr' => ?_, fun f' g' hm' m' o' hm8' ho8' => ?_⟩
  · unfold A0
    rw [xu_nf (Ne.symm n0), xu_nf (Ne.symm n1), xu_nf (Ne.symm n3)]
    exact h0
  · rw [xu_ne (k1 _ hm')]
    exact h1 f' g' hm' r' hr'
  · rw [xu_ne (k2 _ hm')]
    exact h2 f' g' hm' m' o' hm8' ho8'
theorem AA_M (h : AA S M) (hf : (∀ p ∈ R1, p.2 ≠ g) ∧ (∀ p ∈ R2, p.2 ≠ g) ∧ g ≠ 0) : AA S (xu M g r i v) := by
  obtain ⟨h0, h1, h2⟩ := h
  obtain ⟨k1, k2, n0⟩ := hf
  refine ⟨?_, fun f' g' hm' r' hr' => ?_, fun f' g' hm' m' o' hm8' ho8' => ?_⟩
  · unfold A0
    rw [xu_nf (Ne.symm n0)]
    exact h0
  · rw [xu_ne (k1 _ hm')]
    exact h1 f' g' hm' r' hr'
  · rw [xu_ne (k2 _ hm')]
    exact h2 f' g' hm' m' o' hm8' ho8'
theorem AA_0 {S' M' : xS} (h : AA S M) (h0 : A0 S' M') (hS : ∀ f, f ≠ 0 → f ≠ 1 → f ≠ 3 → S' f = S f) (hM : ∀ g, g ≠ 0 → M' g = M g) : AA S' M' := by
  obtain ⟨-, h1, h2⟩ := h
  refine ⟨h0, fun f' g' hm' r' hr' => ?_, fun f' g' hm' m' o' hm8' ho8' => ?_⟩
  · obtain ⟨n0, n1, n3, m0⟩ := R1_0 _ hm'
    rw [hS _ n0 n1 n3, hM _ m0]
    exact h1 f' g' hm' r' hr'
  · obtain ⟨n0, n1, n3, m0⟩ := R2_0 _ hm'
    rw [hS _ n0 n1 n3, hM _ m0]
    exact h2 f' g' hm' m' o' hm8' ho8'
theorem AA_thrown (h : AA S M) : AA S (xu M 0 0 (nI 29) v) := AA_0 h (by
  obtain ⟨a, b, c, d, e⟩ := h.1
  exact ⟨by rw [a, xu_ni (by decide)], by rw [b, xu_ni (by decide)], by rw [c, xu_ni (by decide)], by rw [d, xu_ni (by decide)], by rw [e, xu_ni (by decide)]⟩) (fun _ _ _ _ => rfl) (fun _ hg => xu_nf hg)
theorem AA_src (h : AA S M) : AA (xu S 1 0 (nI 7) v) (xu M 0 0 (nI 9) v) := AA_0 h (by
  obtain ⟨a, b, c, d, e⟩ := h.1
  exact ⟨by rw [xu_same, xu_same], by rw [xu_ne (by decide), b, xu_ni (by decide)], by rw [xu_ne (by decide), c, xu_ni (by decide)], by rw [xu_ne (by decide), d, xu_ni (by decide)], by rw [xu_ne (by decide), e, xu_ni (by decide)]⟩) (fun _ _ h1 _ => xu_nf h1) (fun _ hg => xu_nf hg)
theorem AA_sus (h : AA S M) : AA (xu S 3 0 (nI 9) v) (xu M 0 0 (nI 25) v) := AA_0 h (by
  obtain ⟨a, b, c, d, e⟩ := h.1
  exact ⟨by rw [xu_ne (by decide), a, xu_ni (by decide)], by rw [xu_same, xu_same], by rw [xu_ni (by decide), c, xu_ni (by decide)], by rw [xu_ni (by decide), d, xu_ni (by decide)], by rw [xu_ne (by decide), e, xu_ni (by decide)]⟩) (fun _ _ _ h1 => xu_nf h1) (fun _ hg => xu_nf hg)
theorem AA_dea (h : AA S M) : AA (xu S 3 0 (nI 10) v) (xu M 0 0 (nI 26) v) := AA_0 h (by
  obtain ⟨a, b, c, d, e⟩ := h.1
  exact ⟨by rw [xu_ne (by decide), a, xu_ni (by decide)], by rw [xu_ni (by decide), b, xu_ni (by decide)], by rw [xu_same, xu_same], by rw [xu_ni (by decide), d, xu_ni (by decide)], by rw [xu_ne (by decide), e, xu_ni (by decide)]⟩) (fun _ _ _ h1 => xu_nf h1) (fun _ hg => xu_nf hg)
theorem AA_vain (h : AA S M) : AA (xu S 3 0 (nI 11) v) (xu M 0 0 (nI 27) v) := AA_0 h (by
  obtain ⟨a, b, c, d, e⟩ := h.1
  exact ⟨by rw [xu_ne (by decide), a, xu_ni (by decide)], by rw [xu_ni (by decide), b, xu_ni (by decide)], by rw [xu_ni (by decide), c, xu_ni (by decide)], by rw [xu_same, xu_same], by rw [xu_ne (by decide), e, xu_ni (by decide)]⟩) (fun _ _ _ h1 => xu_nf h1) (fun _ hg => xu_nf hg)
theorem AA_time (h : AA S M) : AA (xu S 0 0 (nI 3) v) (xu M 0 0 (nI 28) v) := AA_0 h (by
  obtain ⟨a, b, c, d, e⟩ := h.1
  exact ⟨by rw [xu_ne (by decide), a, xu_ni (by decide)], by rw [xu_ne (by decide), b, xu_ni (by decide)], by rw [xu_ne (by decide), c, xu_ni (by decide)], by rw [xu_ne (by decide), d, xu_ni (by decide)], by rw [xu_same, xu_same]⟩) (fun _ h1 _ _ => xu_nf h1) (fun _ hg => xu_nf hg)
end AAS
/-! the class's own invariant -/
def sum8 (g : Nat → Int) : Int := g 0 + g 1 + g 2 + g 3 + g 4 + g 5 + g 6 + g 7
def vol (S : xS) (j : Nat) : Int := (S 6 0 (nI j)).toInt
def cld (S : xS) (j : Nat) : Int := (S 7 0 (nI j)).toInt
def clk (S : xS) : Int := (S 0 0 (nI 3)).toInt
def Bnd (S : xS) : Prop := ∀ j : Nat, j < 8 → (1 ≤ (S 4 0 (nI j)).toInt ∧ (S 4 0 (nI j)).toInt ≤ 100) ∧ (1 ≤ (S 5 0 (nI j)).toInt ∧ (S 5 0 (nI j)).toInt ≤ 1000) ∧ (1 ≤ (S 11 0 (nI j)).toInt ∧ (S 11 0 (nI j)).toInt ≤ 50) ∧ (0 ≤ (S 12 0 (nI j)).toInt ∧ (S 12 0 (nI j)).toInt ≤ 10)
def Stk (S M : xS) : Prop := (∀ r, S 20 0 r = 0 ∨ S 20 0 r = 1) ∧ ∀ r, M 18 0 r = 0 ∨ M 18 0 r = 1
def Wat (B : Int) (S : xS) : Prop := (∀ j : Nat, j < 8 → 0 ≤ vol S j ∧ 0 ≤ cld S j) ∧ sum8 (vol S) + sum8 (cld S) ≤ B
def Src (S : xS) : Prop := 0 ≤ (S 1 0 (nI 7)).toInt ∧ (S 1 0 (nI 7)).toInt ≤ 1000
def Bal (S : xS) : Prop := ∀ r, vp_in r 8 → S 6 0 r = fX2_balanceOf r S
def Clk (S : xS) : Prop := 0 ≤ clk S ∧ clk S ≤ 5000
def Inv (c : Nat) (S : xS) : Prop := Bnd S ∧ Wat (10000 * c + 1000 * clk S) S ∧ Src S ∧ Bal S ∧ Clk S
def Rel (c : Nat) (S M : xS) : Prop := AA S M ∧ Inv c S ∧ Stk S M
theorem Inv.mono {c : Nat} {S : xS} (h : Inv c S) : Inv (c + 1) S := by
  obtain ⟨h1, ⟨h2, h3⟩, h4, h5, h6⟩ := h
  exact ⟨h1, ⟨h2, by omega⟩, h4, h5, h6⟩
theorem Rel.mono {c : Nat} {S M : xS} (h : Rel c S M) : Rel (c + 1) S M := ⟨h.1, h.2.1.mono, h.2.2⟩
theorem isIn_0 {a lo hi : Int32} : fX4_isIn a lo hi = 0 ↔ ¬ (¬ a < lo ∧ a ≤ hi) := by
  unfold fX4_isIn
  by_cases h1 : a < lo
  · rw [if_pos h1]
    exact ⟨fun _ z => z.1 h1, fun _ => rfl⟩
  · rw [if_neg h1]
    by_cases h2 : hi < a
    · rw [if_pos h2]
      exact ⟨fun _ z => absurd z.2 (Int32.not_le.mpr h2), fun _ => rfl⟩
    · rw [if_neg h2]
      exact ⟨fun z => absurd z (by decide), fun z => absurd ⟨h1, Int32.not_lt.mp h2⟩ z⟩
theorem isOne_0 {a : Int32} : fX4_isOne a = 0 ↔ ¬ vp_in a 8 := by
  unfold fX4_isOne
  rw [isIn_0]
  exact not_congr ⟨fun h => xnum3 h, fun h => ⟨xnum1 h, xnum2 h⟩⟩
theorem xin_j {r : Int32} (h : vp_in r 8) : ∃ j : Nat, j < 8 ∧ r = nI j := vp_in_of h (by decide)
theorem xnj {i j : Nat} (hi : i < 8) (hj : j < 8) : nI i = nI j ↔ i = j := nI_eq (by omega) (by omega)
