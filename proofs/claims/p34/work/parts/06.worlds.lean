/-! 06.worlds: the world (the class's cells, the law's six arrays), and what is in range -/
def xYc : xY := [(1, .inl (3, [some 1, some 2, some 3, none])), (1, .inl (2, [some 4, some 5, some 6, some 7, some 8, some 9, some 10, none])), (1, .inl (0, [some 11, some 12, some 13, some 14, some 15, some 16, some 17, some 18])), (1, .inl (1, [some 19, some 20, some 21, some 22, some 23, some 24, some 25, some 26, some 27, none, none, none])), (1, .inr (.inl (false, 8))), (1, .inr (.inl (false, 8))), (1, .inr (.inl (false, 8))), (1, .inr (.inl (false, 8))), (1, .inr (.inl (false, 8))), (1, .inr (.inl (false, 8))), (1, .inr (.inl (false, 8))), (1, .inr (.inl (false, 8))), (1, .inr (.inl (false, 8))), (1, .inr (.inl (false, 8))), (1, .inr (.inl (false, 8))), (1, .inr (.inl (false, 8))), (1, .inr (.inl (false, 8))), (1, .inr (.inl (false, 8))), (1, .inr (.inl (true, 8))), (1, .inr (.inl (true, 8))), (1, .inr (.inl (true, 8))), (1, .inr (.inl (false, 8))), (1, .inr (.inr 28)), (1, .inr (.inr 29)), (1, .inr (.inr 30)), (1, .inr (.inr 31)), (1, .inr (.inr 32)), (1, .inr (.inr 33)), (8, .inr (.inl (false, 8))), (8, .inr (.inl (false, 8))), (8, .inr (.inl (false, 8))), (8, .inr (.inl (false, 8))), (8, .inr (.inl (false, 8))), (8, .inr (.inl (false, 8))), (1, .inr (.inl (false, 64))), (1, .inr (.inl (false, 64))), (1, .inr (.inl (false, 64))), (1, .inr (.inl (false, 64))), (1, .inr (.inl (false, 8))), (1, .inr (.inl (false, 3)))]
theorem pnX0 : plainName RX0 = true := by decide +kernel
theorem pnX1 : plainName RX1 = true := by decide +kernel
theorem pnX2 : plainName RX2 = true := by decide +kernel
theorem pnX3 : plainName RX3 = true := by decide +kernel
theorem pnL : plainName RL = true := by decide +kernel
theorem pnJ7 : plainName RJ7 = true := by decide +kernel
theorem xn01 {r : Int32} (h : r = 0 ∨ r = 1) : narrow .boolean (.int r) = .int r := by rcases h with rfl | rfl <;> rfl
theorem xti (r : Int32) : vp_in r 8 ↔ 0 ≤ r.toInt ∧ r.toInt < 8 := vp_in_iff
theorem xt1 : (1 : Int32).toInt = 1 := rfl
theorem xt7 : (7 : Int32).toInt = 7 := rfl
theorem xt8 : (8 : Int32).toInt = 8 := rfl
theorem xt0 : (0 : Int32).toInt = 0 := rfl
theorem xbm (z : Int) (h1 : -2147483648 ≤ z) (h2 : z < 2147483648) : z.bmod (2 ^ 32) = z := by
  rw [Int.bmod_def]
  split <;> omega
theorem xtadd {a b : Int32} (h1 : -2147483648 ≤ a.toInt + b.toInt) (h2 : a.toInt + b.toInt < 2147483648) : (a + b).toInt = a.toInt + b.toInt := by rw [Int32.toInt_add, xbm _ h1 h2]
theorem xtsub {a b : Int32} (h1 : -2147483648 ≤ a.toInt - b.toInt) (h2 : a.toInt - b.toInt < 2147483648) : (a - b).toInt = a.toInt - b.toInt := by rw [Int32.toInt_sub, xbm _ h1 h2]
theorem xtmul {a b : Int32} (h1 : -2147483648 ≤ a.toInt * b.toInt) (h2 : a.toInt * b.toInt < 2147483648) : (a * b).toInt = a.toInt * b.toInt := by rw [Int32.toInt_mul, xbm _ h1 h2]
theorem xin_up {r : Int32} (h : vp_in r 8) (h2 : r.toInt ≠ 7) : vp_in (r + (1 : Int32)) 8 := by
  rw [xti] at h ⊢
  rw [xtadd (by rw [xt1]; omega) (by rw [xt1]; omega), xt1]
  omega
theorem xin_a {r : Int32} (h : vp_in r 8) (h2 : ¬ (8 : Int32) ≤ (r + (1 : Int32))) : vp_in (r + (1 : Int32)) 8 := by
  have h0 := h
  rw [xti] at h0
  rw [Int32.le_iff_toInt_le, xt8, xtadd (by rw [xt1]; omega) (by rw [xt1]; omega), xt1] at h2
  exact xin_up h (by omega)
theorem xin_b {r : Int32} (h : vp_in r 8) (h2 : ¬ r = (7 : Int32)) : vp_in (r + (1 : Int32)) 8 := xin_up h (fun z => h2 (Int32.toInt_inj.mp (by rw [z, xt7])))
theorem xin_c {r : Int32} (h : vp_in r 8) (h2 : ¬ (7 : Int32) ≤ r) : vp_in (r + (1 : Int32)) 8 := by
  rw [Int32.le_iff_toInt_le, xt7] at h2
  exact xin_up h (by omega)
theorem xin_dn {r : Int32} (h : vp_in r 8) (h2 : r.toInt ≠ 0) : vp_in (r - (1 : Int32)) 8 := by
  rw [xti] at h ⊢
  rw [xtsub (by rw [xt1]; omega) (by rw [xt1]; omega), xt1]
  omega
theorem xin_d {r : Int32} (h : vp_in r 8) (h2 : ¬ r ≤ (0 : Int32)) : vp_in (r - (1 : Int32)) 8 := by
  rw [Int32.le_iff_toInt_le, xt0] at h2
  exact xin_dn h (by omega)
theorem xin_e {r : Int32} (h : vp_in r 8) (h2 : ¬ r = (0 : Int32)) : vp_in (r - (1 : Int32)) 8 := xin_dn h (fun z => h2 (Int32.toInt_inj.mp (by rw [z, xt0])))
theorem xnum1 {r : Int32} (h : vp_in r 8) : ¬ r < (0 : Int32) := fun z => h (Or.inl z)
theorem xnum2 {r : Int32} (h : vp_in r 8) : r ≤ (7 : Int32) := by
  rw [xti] at h
  rw [Int32.le_iff_toInt_le, xt7]
  omega
theorem xg_abb {F : xF} {k w pc : Nat} {L : List (Option Value)} {st : List Value} {Y : xY} {G : xG} {T T' : xS} (h : T' = T) (K : xg F k w pc L st (xP Y G T')) : xg F k w pc L st (xP Y G T) := h ▸ K
theorem xsnd {α β : Type} {p : α × β} {a : α} {b : β} (h : p = (a, b)) : p.2 = b := by rw [h]
theorem xfst {α β : Type} {p : α × β} {a : α} {b : β} (h : p = (a, b)) : p.1 = a := by rw [h]
theorem xne1 {x : Int32} (h : ¬ x < (1 : Int32)) : ¬ x = (0 : Int32) := fun z => h (by rw [z]; decide)
theorem xincv (x : Int32) : x + Int32.ofInt 1 = x + (1 : Int32) := by rw [show Int32.ofInt 1 = 1 from by decide]
theorem xne2 {x : Int32} (h : (1 : Int32) ≤ x) : ¬ x = (0 : Int32) := fun z => by
  rw [z] at h
  exact absurd h (by decide)
theorem xdecv (x : Int32) : x + Int32.ofInt (-1) = x - (1 : Int32) := by rw [show Int32.ofInt (-1) = -1 from by decide, Int32.sub_eq_add_neg]
theorem xin_div {i : Nat} (h : i < 64) : vp_in (nI i / (8 : Int32)) 8 := by
  rw [show (8 : Int32) = nI 8 from by decide, pk_div (by omega) (by decide) (by decide)]
  exact vp_in_nI (by omega) (by decide)
theorem xin_mod {i : Nat} (h : i < 64) : vp_in (nI i - nI i / (8 : Int32) * (8 : Int32)) 8 := by
  rw [show (8 : Int32) = nI 8 from by decide, pk_rem (by omega) (by decide) (by decide)]
  exact vp_in_nI (by omega) (by decide)
/-- a loop from a later start -/
def xfoldF {σ : Type} (b : Int32 → σ → σ) : Nat → Nat → σ → σ
  | 0, _, x => x
  | n + 1, i, x => xfoldF b n (i + 1) (b (nI i) x)
theorem xloopF {σ : Type} (P : Int32 → σ → Prop) (b : Int32 → σ → σ) (n i0 : Nat) (x0 : σ) (step : ∀ i, i0 ≤ i → i < i0 + n → ∀ x, P (nI (i + 1)) (b (nI i) x) → P (nI i) x) (fin : P (nI (i0 + n)) (xfoldF b n i0 x0)) : P (nI i0) x0 := by
  have key : ∀ n j, i0 ≤ j → ∀ x, (∀ i, i0 ≤ i → i < j + n → ∀ x, P (nI (i + 1)) (b (nI i) x) → P (nI i) x) → P (nI (j + n)) (xfoldF b n j x) → P (nI j) x := by
    intro n
    induction n with
    | zero => exact fun j _ x _ h => h
    | succ n ih =>
      intro j hj x hst h
      refine hst j hj (by omega) x (ih (j + 1) (by omega) _ (fun i h1 h2 => hst i h1 (by omega)) ?_)
      rw [show j + 1 + n = j + (n + 1) by omega]
      exact h
  exact key n i0 (Nat.le_refl _) x0 step fin
theorem xloopFJ {σ : Type} (P : Int32 → σ → Prop) (b : Int32 → σ → σ) (n i0 : Nat) (x0 : σ) (J : σ → Prop) (h0 : J x0) (hJ : ∀ i, i0 ≤ i → i < i0 + n → ∀ x, J x → J (b (nI i) x)) (step : ∀ i, i0 ≤ i → i < i0 + n → ∀ x, J x → P (nI (i + 1)) (b (nI i) x) → P (nI i) x) (fin : J (xfoldF b n i0 x0) → P (nI (i0 + n)) (xfoldF b n i0 x0)) : P (nI i0) x0 := by
  have key : ∀ n j, i0 ≤ j → ∀ x, J x → (∀ i, i0 ≤ i → i < j + n → ∀ x, J x → J (b (nI i) x)) → (∀ i, i0 ≤ i → i < j + n → ∀ x, J x → P (nI (i + 1)) (b (nI i) x) → P (nI i) x) → (J (xfoldF b n j x) → P (nI (j + n)) (xfoldF b n j x)) → P (nI j) x := by
    intro n
    induction n with
    | zero => exact fun j _ x hx _ _ h => h hx
    | succ n ih =>
      intro j hj x hx hJ hst h
      refine hst j hj (by omega) x hx (ih (j + 1) (by omega) _ (hJ j hj (by omega) x hx) (fun i h1 h2 => hJ i h1 (by omega)) (fun i h1 h2 => hst i h1 (by omega)) (fun q => ?_))
      rw [show j + 1 + n = j + (n + 1) by omega]
      exact h q
  exact key n i0 (Nat.le_refl _) x0 h0 hJ step fin
theorem xu_nf {S : xS} {f f' : Nat} {r i v : Int32} (h : f' ≠ f) : xu S f r i v f' = S f' := by
  unfold xu
  rw [if_neg h]
theorem xfold_T {σ : Type} (T : σ → Prop) (b : Int32 → σ → σ) : ∀ (N : Nat) (x : σ), (∀ i, i < N → ∀ x, T x → T (b (nI i) x)) → T x → T (xfold b N x)
  | 0, x, _, h => h
  | n + 1, x, hb, h => hb n (by omega) _ (xfold_T T b n x (fun i hi => hb i (by omega)) h)
theorem xfoldD_T {σ : Type} (T : σ → Prop) (b : Int32 → σ → σ) : ∀ (N : Nat) (x : σ), (∀ i, i < N → ∀ x, T x → T (b (nI i) x)) → T x → T (xfoldD b N x)
  | 0, x, _, h => h
  | n + 1, x, hb, h => xfoldD_T T b n _ (fun i hi => hb i (by omega)) (hb n (by omega) x h)
theorem xfold_keep (f : Nat) (b : Int32 → xS → xS) (N : Nat) (S : xS) (h : ∀ i x, b i x f = x f) : xfold b N S f = S f := xfold_T (fun x => x f = S f) b N S (fun i _ x hx => (h _ x).trans hx) rfl
theorem xfold_keep2 {τ : Type} (f : Nat) (b : Int32 → xS × τ → xS × τ) (N : Nat) (S : xS × τ) (h : ∀ i x, (b i x).1 f = x.1 f) : (xfold b N S).1 f = S.1 f := xfold_T (fun x => x.1 f = S.1 f) b N S (fun i _ x hx => (h _ x).trans hx) rfl
