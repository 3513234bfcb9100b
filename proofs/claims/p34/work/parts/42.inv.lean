/-! 42: the invariant of the law -/
theorem e8_0 {j : Nat} : ((8 : Int32) * nI j) = nI (8 * j) := by simp [nI, Int32.ofNat_mul]
theorem e8_n {j c : Nat} : (((8 : Int32) * nI j) + nI c) = nI (8 * j + c) := by rw [e8_0, nI_add]
theorem e8_1 {j : Nat} : (((8 : Int32) * nI j) + (1 : Int32)) = nI (8 * j + 1) := e8_n (c := 1)
theorem e8_2 {j : Nat} : (((8 : Int32) * nI j) + (2 : Int32)) = nI (8 * j + 2) := e8_n (c := 2)
theorem e8_3 {j : Nat} : (((8 : Int32) * nI j) + (3 : Int32)) = nI (8 * j + 3) := e8_n (c := 3)
theorem e8_4 {j : Nat} : (((8 : Int32) * nI j) + (4 : Int32)) = nI (8 * j + 4) := e8_n (c := 4)
theorem e8_5 {j : Nat} : (((8 : Int32) * nI j) + (5 : Int32)) = nI (8 * j + 5) := e8_n (c := 5)
theorem e8_6 {j : Nat} : (((8 : Int32) * nI j) + (6 : Int32)) = nI (8 * j + 6) := e8_n (c := 6)
theorem e8_7 {j : Nat} : (((8 : Int32) * nI j) + (7 : Int32)) = nI (8 * j + 7) := e8_n (c := 7)
theorem xrowN {S : xS} {f : Nat} {v : Int32} {a b : Nat} (ha : a < 100) (hb : b < 100) : xu S f 0 (nI a) v f 0 (nI b) = if b = a then v else S f 0 (nI b) := by
  rw [xu_row]
  by_cases h : b = a
  · rw [if_pos (by rw [h]), if_pos h]
  · rw [if_neg (fun z => h ((nI_eq (by omega) (by omega)).mp z)), if_neg h]
theorem xrow2 {S : xS} {f : Nat} {v : Int32} {a b m o : Nat} (ha : a < 8) (hb : b < 8) (hm : m < 8) (ho : o < 8) : xu S f (nI a) (nI b) v f (nI m) (nI o) = if m = a ∧ o = b then v else S f (nI m) (nI o) := by
  rw [xu_self]
  by_cases h : m = a ∧ o = b
  · rw [if_pos h, if_pos ⟨by rw [h.1], by rw [h.2]⟩]
  · rw [if_neg h, if_neg (fun z => h ⟨(xnj hm ha).mp z.1, (xnj ho hb).mp z.2⟩)]
/-- a bit -/
abbrev b01 (x : Int32) : Prop := x = 0 ∨ x = 1
def Bits (S : xS) : Prop := ∀ j : Nat, j < 8 → b01 (S 18 0 (nI j)) ∧ b01 (S 19 0 (nI j)) ∧ b01 (S 20 0 (nI j))
def vn (S : xS) : Int := (S 3 0 (nI 11)).toInt
def Tm (t : Nat) (S : xS) : Prop := (0 ≤ clk S ∧ clk S ≤ t) ∧ 0 ≤ vn S ∧ vn S ≤ 8 * clk S
/-- what the members keep: versions and beats are greatest with the member itself; equal versions are equal news -/
def Net (S : xS) : Prop := (∀ o : Nat, o < 8 → S 28 (nI o) (nI o) = S 31 (nI o) (nI o) ∧ (S 31 (nI o) (nI o)).toInt ≤ clk S ∧ S 33 (nI o) (nI o) = 0) ∧
  ∀ m o : Nat, m < 8 → o < 8 → (0 ≤ (S 31 (nI m) (nI o)).toInt ∧ (S 31 (nI m) (nI o)).toInt ≤ (S 31 (nI o) (nI o)).toInt) ∧ (0 ≤ (S 28 (nI m) (nI o)).toInt ∧ (S 28 (nI m) (nI o)).toInt ≤ (S 28 (nI o) (nI o)).toInt) ∧
    (S 28 (nI m) (nI o) = S 28 (nI o) (nI o) → S 29 (nI m) (nI o) = S 29 (nI o) (nI o) ∧ S 30 (nI m) (nI o) = S 30 (nI o) (nI o)) ∧ 0 ≤ (S 29 (nI m) (nI o)).toInt ∧ (0 ≤ (S 30 (nI m) (nI o)).toInt ∧ (S 30 (nI m) (nI o)).toInt ≤ clk S) ∧ (S 33 (nI m) (nI o) = 0 ∨ S 33 (nI m) (nI o) = 1 ∨ S 33 (nI m) (nI o) = 2)
def LG : List (Nat × Nat) := [(0, 4), (1, 5), (2, 11), (3, 7), (4, 13), (5, 14), (6, 15), (7, 16)]
def LH : List (Nat × Nat) := [(0, 18), (1, 19), (2, 20), (3, 21)]
/-- a row of eights that keeps what fields hold -/
def Lk (A : Nat) (l : List (Nat × Nat)) (S : xS) : Prop := ∀ c f, (c, f) ∈ l → ∀ j : Nat, j < 8 → S A 0 (nI (8 * j + c)) = S f 0 (nI j)
def Lz (S : xS) : Prop := ∀ j : Nat, j < 8 → S 38 0 (nI j) = S 17 0 (nI j)
def Lp (S : xS) : Prop := S 39 0 (0 : Int32) = S 1 0 (nI 7) ∧ S 39 0 (1 : Int32) = S 3 0 (nI 9) ∧ S 39 0 (2 : Int32) = S 3 0 (nI 10)
def Lw (S : xS) : Prop := ∀ m o : Nat, m < 8 → o < 8 → S 37 0 (nI (8 * m + o)) = S 32 (nI m) (nI o)
def Inv (c t : Nat) (S : xS) : Prop := (Bits S ∧ Bnd S ∧ KW (10000 * c + 1000 * clk S) S ∧ Src S) ∧ (Tm t S ∧ Net S) ∧ (Lk 34 LG S ∧ Lk 35 LH S) ∧ Lz S ∧ Lp S ∧ Lw S
theorem KW.up {B B' : Int} {S : xS} (h : KW B S) (hB : B ≤ B') : KW B' S := ⟨⟨h.1.1, by have := h.1.2; omega⟩, h.2⟩
theorem Inv.mono (c t c' t' : Nat) (S : xS) (hc : c ≤ c') (ht : t ≤ t') (h : Inv c t S) : Inv c' t' S := by
  obtain ⟨⟨h1, h2, h3, h4⟩, ⟨⟨h5, h6⟩, h7⟩, h8⟩ := h
  exact ⟨⟨h1, h2, h3.up (by omega), h4⟩, ⟨⟨by omega, h6⟩, h7⟩, h8⟩
theorem LGb : ∀ p ∈ LG, ∀ q ∈ LG, (p.1 = q.1 ↔ p.2 = q.2) ∧ p.1 < 8 ∧ p.2 ≠ 34 := by decide
theorem LHb : ∀ p ∈ LH, ∀ q ∈ LH, (p.1 = q.1 ↔ p.2 = q.2) ∧ p.1 < 8 ∧ p.2 ≠ 35 := by decide
theorem Lk_put {A : Nat} {l : List (Nat × Nat)} (hl : ∀ p ∈ l, ∀ q ∈ l, (p.1 = q.1 ↔ p.2 = q.2) ∧ p.1 < 8 ∧ p.2 ≠ A) {S : xS} {c f k : Nat} {v v' : Int32} (hcf : (c, f) ∈ l) (hk : k < 8) (hv : v = v') (h : Lk A l S) : Lk A l (xu (xu S A 0 (nI (8 * k + c)) v) f 0 (nI k) v') := by
  subst hv
  intro c' f' h' j hj
  obtain ⟨e1, e2, e3⟩ := hl _ h' _ hcf
  obtain ⟨-, e4, e5⟩ := hl _ hcf _ h'
  have hc' : c' < 8 := e2
  have hc : c < 8 := e4
  have hfA : f ≠ A := e5
  have hf'A : f' ≠ A := e3
  rw [xu_ne (Ne.symm hfA), xrowN (by omega) (by omega)]
  by_cases hf : f' = f
  · have hcc : c' = c := e1.mpr hf
    subst hf
    subst hcc
    rw [xrow_nI hk hj, xu_ne hfA]
    by_cases z : j = k
    · rw [if_pos (by omega), if_pos z]
    · rw [if_neg (by omega), if_neg z]
      exact h c' f' h' j hj
  · have hcc : c' ≠ c := fun z => hf (e1.mp z)
    rw [xu_ne hf, xu_ne hf'A, if_neg (by omega)]
    exact h c' f' h' j hj
theorem Lk_eq {A : Nat} {l : List (Nat × Nat)} {S S' : xS} (hA : S' A = S A) (hf : ∀ p ∈ l, S' p.2 = S p.2) (h : Lk A l S) : Lk A l S' := fun c f h' j hj => by
  rw [hA, hf _ h']
  exact h c f h' j hj
theorem Bits_eq {S S' : xS} (h1 : S' 18 = S 18) (h2 : S' 19 = S 19) (h3 : S' 20 = S 20) (h : Bits S) : Bits S' := by
  unfold Bits
  rw [h1, h2, h3]
  exact h
theorem Src_eq {S S' : xS} (h1 : S' 1 = S 1) (h : Src S) : Src S' := by
  unfold Src
  rw [h1]
  exact h
theorem clk_eq {S S' : xS} (h : S' 0 = S 0) : clk S' = clk S := by
  unfold clk
  rw [h]
theorem Tm_eq {t : Nat} {S S' : xS} (h0 : S' 0 = S 0) (h3 : S' 3 0 (nI 11) = S 3 0 (nI 11)) (h : Tm t S) : Tm t S' := by
  unfold Tm vn
  rw [clk_eq h0, h3]
  exact h
theorem Net_eq {S S' : xS} (h0 : S' 0 = S 0) (h28 : S' 28 = S 28) (h29 : S' 29 = S 29) (h30 : S' 30 = S 30) (h31 : S' 31 = S 31) (h33 : S' 33 = S 33) (h : Net S) : Net S' := by
  unfold Net
  rw [clk_eq h0, h28, h29, h30, h31, h33]
  exact h
theorem Lz_eq {S S' : xS} (h1 : S' 38 = S 38) (h2 : S' 17 = S 17) (h : Lz S) : Lz S' := by
  unfold Lz
  rw [h1, h2]
  exact h
theorem Lp_eq {S S' : xS} (h1 : S' 39 = S 39) (h2 : S' 1 = S 1) (h3 : S' 3 = S 3) (h : Lp S) : Lp S' := by
  unfold Lp
  rw [h1, h2, h3]
  exact h
theorem Lw_eq {S S' : xS} (h1 : S' 37 = S 37) (h2 : S' 32 = S 32) (h : Lw S) : Lw S' := by
  unfold Lw
  rw [h1, h2]
  exact h
theorem KWc_eq {c : Nat} {S x : xS} (h0 : x 0 = S 0) (h6 : x 6 = S 6) (h7 : x 7 = S 7) (h8 : x 8 = S 8) (h9 : x 9 = S 9) (h10 : x 10 = S 10) (h : KW (10000 * c + 1000 * clk S) S) : KW (10000 * c + 1000 * clk x) x := by
  rw [clk_eq h0]
  exact KW_eq h6 h7 h8 h9 h10 h
/-! the start -/
set_option maxRecDepth 100000 in
theorem inv_s1 : ∀ j : Nat, j < 8 → b01 (cS_init xS0c 18 0 (nI j)) ∧ b01 (cS_init xS0c 19 0 (nI j)) ∧ b01 (cS_init xS0c 20 0 (nI j)) := by decide +kernel
set_option maxRecDepth 100000 in
theorem inv_s2 : ∀ j : Nat, j < 8 → (1 ≤ (cS_init xS0c 4 0 (nI j)).toInt ∧ (cS_init xS0c 4 0 (nI j)).toInt ≤ 100) ∧ (1 ≤ (cS_init xS0c 5 0 (nI j)).toInt ∧ (cS_init xS0c 5 0 (nI j)).toInt ≤ 1000) ∧ (1 ≤ (cS_init xS0c 11 0 (nI j)).toInt ∧ (cS_init xS0c 11 0 (nI j)).toInt ≤ 50) ∧ (0 ≤ (cS_init xS0c 12 0 (nI j)).toInt ∧ (cS_init xS0c 12 0 (nI j)).toInt ≤ 10) := by decide +kernel
set_option maxRecDepth 100000 in
theorem inv_s3 : (∀ j : Nat, j < 8 → 0 ≤ vol (cS_init xS0c) j ∧ 0 ≤ cld (cS_init xS0c) j) ∧ sum8 (vol (cS_init xS0c)) + sum8 (cld (cS_init xS0c)) ≤ 10000 * ((0 : Nat) : Int) + 1000 * clk (cS_init xS0c) := by decide +kernel
set_option maxRecDepth 100000 in
theorem inv_s4 : ∀ j, j < 8 → cS_init xS0c 6 0 (nI j) + cS_init xS0c 9 0 (nI j) + cS_init xS0c 10 0 (nI j) = cS_init xS0c 8 0 (nI j) + inn (cS_init xS0c) j := by decide +kernel
set_option maxRecDepth 100000 in
theorem inv_s5 : 0 ≤ (cS_init xS0c 1 0 (nI 7)).toInt ∧ (cS_init xS0c 1 0 (nI 7)).toInt ≤ 1000 := by decide +kernel
set_option maxRecDepth 100000 in
theorem inv_s6 : (0 ≤ clk (cS_init xS0c) ∧ clk (cS_init xS0c) ≤ ((0 : Nat) : Int)) ∧ 0 ≤ vn (cS_init xS0c) ∧ vn (cS_init xS0c) ≤ 8 * clk (cS_init xS0c) := by decide +kernel
set_option maxRecDepth 100000 in
theorem inv_s8 : ∀ p ∈ LG, ∀ j : Nat, j < 8 → cS_init xS0c 34 0 (nI (8 * j + p.1)) = cS_init xS0c p.2 0 (nI j) := by decide +kernel
set_option maxRecDepth 100000 in
theorem inv_s9 : ∀ p ∈ LH, ∀ j : Nat, j < 8 → cS_init xS0c 35 0 (nI (8 * j + p.1)) = cS_init xS0c p.2 0 (nI j) := by decide +kernel
set_option maxRecDepth 100000 in
theorem inv_s10 : ∀ j : Nat, j < 8 → cS_init xS0c 38 0 (nI j) = cS_init xS0c 17 0 (nI j) := by decide +kernel
set_option maxRecDepth 100000 in
theorem inv_s11 : cS_init xS0c 39 0 (0 : Int32) = cS_init xS0c 1 0 (nI 7) ∧ cS_init xS0c 39 0 (1 : Int32) = cS_init xS0c 3 0 (nI 9) ∧ cS_init xS0c 39 0 (2 : Int32) = cS_init xS0c 3 0 (nI 10) := by decide +kernel
theorem inv_z {f : Nat} (h : 20 < f) (h2 : f ≠ 34) (h3 : f ≠ 39) : cS_init xS0c f = fun _ _ => 0 := by
  unfold cS_init
  rw [xfold_keep f bL_law_55 8 _ (fun i x => by unfold bL_law_55; simp only [xu_nf h2]), xu_nf h3, xu_nf h3]
  funext r i
  unfold xS0c
  split <;> first | rfl | omega
theorem inv_s7 : Net (cS_init xS0c) := by
  have hc : 0 ≤ clk (cS_init xS0c) := inv_s6.1.1
  unfold Net
  rw [inv_z (f := 28) (by decide) (by decide) (by decide), inv_z (f := 29) (by decide) (by decide) (by decide), inv_z (f := 30) (by decide) (by decide) (by decide), inv_z (f := 31) (by decide) (by decide) (by decide), inv_z (f := 33) (by decide) (by decide) (by decide)]
  exact ⟨fun o ho => ⟨rfl, by show (0 : Int32).toInt ≤ _; rw [xt0]; exact hc, rfl⟩, fun m o hm ho => ⟨⟨Int.le_refl 0, Int.le_refl _⟩, ⟨Int.le_refl 0, Int.le_refl _⟩, fun _ => ⟨rfl, rfl⟩, Int.le_refl 0, ⟨Int.le_refl 0, hc⟩, Or.inl rfl⟩⟩
theorem inv_0 : Inv 0 0 (cS_init xS0c) := ⟨⟨inv_s1, inv_s2, ⟨inv_s3, inv_s4⟩, inv_s5⟩, ⟨inv_s6, inv_s7⟩, ⟨fun c f h j hj => inv_s8 (c, f) h j hj, fun c f h j hj => inv_s9 (c, f) h j hj⟩, inv_s10, inv_s11, fun m o hm ho => by
  rw [inv_z (f := 37) (by decide) (by decide) (by decide), inv_z (f := 32) (by decide) (by decide) (by decide)]⟩
/-- what isRefused asks -/
theorem inv_ref (c t : Nat) (S : xS) (h : Inv c t S) : (∀ r, vp_in r 8 → (S 35 0 (((8 : Int32) * r) + (1 : Int32)) = (0 : Int32) ↔ S 19 0 r = (0 : Int32))) ∧ (∀ r, vp_in r 8 → S 35 0 ((8 : Int32) * r) = (1 : Int32) ∨ S 18 0 r = (0 : Int32)) := by
  obtain ⟨⟨h1, -⟩, -, ⟨-, h2⟩, -⟩ := h
  refine ⟨fun r hr => ?_, fun r hr => ?_⟩
  · obtain ⟨j, hj, rfl⟩ := xin_j hr
    rw [e8_1, h2 1 19 (by decide) j hj]
  · obtain ⟨j, hj, rfl⟩ := xin_j hr
    have e := h2 0 18 (by decide) j hj
    rw [e8_0]
    rw [Nat.add_zero] at e
    rw [e]
    exact (h1 j hj).1.symm
