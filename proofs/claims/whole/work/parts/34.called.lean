/-! 34: who is called (plansim3.py) -/
def pcnt (p : Nat → Bool) : Int32 := xfold (fun i x => if p i.toNatClampNeg = false then x else x + (1 : Int32)) 8 (0 : Int32)
def pup (p : Nat → Bool) (P : Int32) : Int32 := xrun (fun (i x : Int32) => if p i.toNatClampNeg = false then .inl x else if x = (0 : Int32) then .inr i else .inl (x - (1 : Int32))) (fun (_ : Int32) => (-1 : Int32)) 8 0 P
def pdn (p : Nat → Bool) (k P : Int32) : Int32 := (xfoldD (fun i (x : Int32 × Int32) => if p i.toNatClampNeg = false then (x.1 - (0 : Int32), x.2) else if x.1 - (1 : Int32) = P then (x.1 - (1 : Int32), i) else (x.1 - (1 : Int32), x.2)) 8 (k, (-1 : Int32))).2
def pb (b0 b1 b2 b3 b4 b5 b6 b7 : Bool) : Nat → Bool := fun j => match j with
  | 0 => b0 | 1 => b1 | 2 => b2 | 3 => b3 | 4 => b4 | 5 => b5 | 6 => b6 | 7 => b7 | _ => false
abbrev pok (p : Nat → Bool) : Prop := (pcnt p).toNatClampNeg ≤ 8 ∧ nI (pcnt p).toNatClampNeg = pcnt p ∧ (∀ P, P < (pcnt p).toNatClampNeg → pdn p (pcnt p) (nI P) = pup p (nI P)) ∧ (pcnt p = 0 → pdn p 0 0 = -1)
set_option maxRecDepth 100000 in
theorem pick_all : ∀ b0 b1 b2 b3 b4 b5 b6 b7 : Bool, pok (pb b0 b1 b2 b3 b4 b5 b6 b7) := by decide +kernel
theorem xrun_cong {σ ρ : Type} {b b' : Int32 → σ → σ ⊕ ρ} {d : σ → ρ} : ∀ (n i : Nat) (x : σ), (∀ j, i ≤ j → j < i + n → ∀ x, b (nI j) x = b' (nI j) x) → xrun b d n i x = xrun b' d n i x
  | 0, _, _, _ => rfl
  | n + 1, i, x, h => by
    unfold xrun
    rw [h i (Nat.le_refl _) (by omega) x]
    cases b' (nI i) x with
    | inl y => exact xrun_cong n (i + 1) y (fun j h1 h2 => h j (by omega) (by omega))
    | inr r => rfl
theorem pok_of (p : Nat → Bool) : pok p := by
  have h := pick_all (p 0) (p 1) (p 2) (p 3) (p 4) (p 5) (p 6) (p 7)
  have e : ∀ j, j < 8 → pb (p 0) (p 1) (p 2) (p 3) (p 4) (p 5) (p 6) (p 7) j = p j := fun j hj => by
    match j, hj with
    | 0, _ => rfl
    | 1, _ => rfl
    | 2, _ => rfl
    | 3, _ => rfl
    | 4, _ => rfl
    | 5, _ => rfl
    | 6, _ => rfl
    | 7, _ => rfl
    | j + 8, hj => exact absurd hj (by omega)
  have e1 : pcnt (pb (p 0) (p 1) (p 2) (p 3) (p 4) (p 5) (p 6) (p 7)) = pcnt p := xfold_cong 8 _ fun i hi x => by rw [nI_clamp (by omega), e i hi]
  have e2 : ∀ P, pup (pb (p 0) (p 1) (p 2) (p 3) (p 4) (p 5) (p 6) (p 7)) P = pup p P := fun P => xrun_cong 8 0 _ fun i _ hi x => by rw [nI_clamp (by omega), e i (by omega)]
  have e3 : ∀ k P, pdn (pb (p 0) (p 1) (p 2) (p 3) (p 4) (p 5) (p 6) (p 7)) k P = pdn p k P := fun k P => congrArg (fun z : Int32 × Int32 => z.2) (xfoldD_cong 8 _ fun i hi x => by rw [nI_clamp (by omega), e i hi])
  simp only [pok, e1, e2, e3] at h
  exact h
theorem ic_eq {S M : xS} {m i t : Int32} (h : AA S M) (hm : vp_in m 8) (hi : vp_in i 8) : fX4_isCallable m i t M = fX1_isCallable m i (jX1_calledBy_3 m t) S := by
  unfold fX4_isCallable fX1_isCallable jX1_calledBy_3
  rw [h.two (f := 33) (g := 24) (by decide) hm hi]
  by_cases a : i = m
  · rw [if_pos a, if_pos a]
  · rw [if_neg a, if_neg a]
    by_cases b : (t - t / (4 : Int32) * (4 : Int32)) = (0 : Int32)
    · rw [if_pos b, if_pos b, if_neg (by decide)]
    · rw [if_neg b, if_neg b, if_pos rfl]
theorem called_eq {S M : xS} {m t : Int32} (h : AA S M) (hm : vp_in m 8) (ht : vp_in t 6001) : fX4_called m t M = fX1_calledBy m t S := by
  obtain ⟨J, hJ, rfl⟩ := xin_j hm
  obtain ⟨T, hT, rfl⟩ := vp_in_of ht (by decide)
  let p : Nat → Bool := fun j => decide (¬ fX1_isCallable (nI J) (nI j) (jX1_calledBy_3 (nI J) (nI T)) S = 0)
  have hp : ∀ j, (p j = false ↔ fX1_isCallable (nI J) (nI j) (jX1_calledBy_3 (nI J) (nI T)) S = 0) := fun j => by
    show decide _ = false ↔ _
    simp
  have e1 : xfold (bX1_calledBy_18 (nI J) (nI T) S) 8 (0 : Int32) = pcnt p := xfold_cong 8 _ fun i hi x => by
    unfold bX1_calledBy_18
    rw [nI_clamp (by omega)]
    by_cases z : fX1_isCallable (nI J) (nI i) (jX1_calledBy_3 (nI J) (nI T)) S = 0
    · rw [if_pos z, if_pos ((hp i).mpr z)]
    · rw [if_neg z, if_neg (fun q => z ((hp i).mp q))]
  have e2 : xfold (bX4_called_5 (nI J) (nI T) M) 8 (0 : Int32) = pcnt p := xfold_cong 8 _ fun i hi x => by
    unfold bX4_called_5
    rw [nI_clamp (by omega), ic_eq h hm (in8 hi), Int32.add_zero]
    by_cases z : fX1_isCallable (nI J) (nI i) (jX1_calledBy_3 (nI J) (nI T)) S = 0
    · rw [if_pos z, if_pos ((hp i).mpr z)]
    · rw [if_neg z, if_neg (fun q => z ((hp i).mp q))]
  have e3 : ∀ P, xrun (bX1_calledBy_68 (nI J) (nI T) S) (fun (x : Int32) => (-1 : Int32)) 8 0 P = pup p P := fun P => xrun_cong 8 0 _ fun i _ hi x => by
    unfold bX1_calledBy_68
    rw [nI_clamp (by omega)]
    by_cases z : fX1_isCallable (nI J) (nI i) (jX1_calledBy_3 (nI J) (nI T)) S = 0
    · rw [if_pos z, if_pos ((hp i).mpr z)]
    · rw [if_neg z, if_neg (fun q => z ((hp i).mp q))]
  have e4 : ∀ k P, (xfoldD (bX4_called_63 (nI J) (nI T) P M) 8 (k, (-1 : Int32))).2 = pdn p k P := fun k P => congrArg (fun z : Int32 × Int32 => z.2) (xfoldD_cong 8 _ fun i hi x => by
    unfold bX4_called_63
    rw [nI_clamp (by omega), ic_eq h hm (in8 hi)]
    by_cases z : fX1_isCallable (nI J) (nI i) (jX1_calledBy_3 (nI J) (nI T)) S = 0
    · rw [if_pos z, if_pos ((hp i).mpr z)]
    · rw [if_neg z, if_neg (fun q => z ((hp i).mp q))])
  obtain ⟨k1, k2, k3, k4⟩ := pok_of p
  unfold fX4_called fX1_calledBy
  rw [e1, e2, e4, e3]
  generalize hk : (pcnt p).toNatClampNeg = k at k1 k2 k3
  have hq : ((1 : Int32) ≤ pcnt p) ↔ 1 ≤ k := by
    rw [← k2, Int32.le_iff_toInt_le, xt1, nI_toInt (by omega)]
    omega
  unfold jX4_called_38
  by_cases z : 1 ≤ k
  · rw [if_pos (hq.mpr z), if_neg (fun q => by rw [← k2, show (0 : Int32) = nI 0 from rfl, nI_eq (by omega) (by omega)] at q; omega)]
    have en : ((5 : Int32) * nI T) + ((3 : Int32) * nI J) = nI (5 * T + 3 * J) := by simp [nI, Int32.ofNat_add, Int32.ofNat_mul]
    have er : (((5 : Int32) * nI T) + ((3 : Int32) * nI J)) - (((5 : Int32) * nI T) + ((3 : Int32) * nI J)) / pcnt p * pcnt p = nI ((5 * T + 3 * J) % k) := by
      rw [en, ← k2]
      exact pk_rem (by omega) (by omega) (by omega)
    rw [er]
    exact k3 _ (Nat.mod_lt _ (by omega))
  · have k0 : k = 0 := by omega
    have e0 : pcnt p = 0 := by rw [← k2, k0, nI_0]
    rw [if_neg (fun q => z (hq.mp q)), e0, if_pos rfl]
    exact k4 e0
theorem called_in {S : xS} {m t : Int32} (hm : vp_in m 8) (h0 : (0 : Int32) ≤ fX1_calledBy m t S) : vp_in (fX1_calledBy m t S) 8 ∧ fX1_calledBy m t S ≠ m := by
  have key : ∀ n i x, i + n = 8 → xrun (bX1_calledBy_68 m t S) (fun (x : Int32) => (-1 : Int32)) n i x = -1 ∨ (vp_in (xrun (bX1_calledBy_68 m t S) (fun (x : Int32) => (-1 : Int32)) n i x) 8 ∧ xrun (bX1_calledBy_68 m t S) (fun (x : Int32) => (-1 : Int32)) n i x ≠ m) := by
    intro n
    induction n with
    | zero => exact fun i x _ => Or.inl rfl
    | succ n ih =>
      intro i x hi
      unfold xrun
      unfold bX1_calledBy_68
      by_cases z : fX1_isCallable m (nI i) (jX1_calledBy_3 m t) S = 0
      · rw [if_pos z]
        exact ih (i + 1) x (by omega)
      · rw [if_neg z]
        by_cases y : x = 0
        · rw [if_pos y]
          refine Or.inr ⟨in8 (by omega), fun q => z ?_⟩
          unfold fX1_isCallable
          exact if_pos q
        · rw [if_neg y]
          exact ih (i + 1) _ (by omega)
  unfold fX1_calledBy at *
  by_cases q : (1 : Int32) ≤ (xfold (bX1_calledBy_18 m t S) 8 (0 : Int32))
  · rw [if_pos q] at h0 ⊢
    rcases key 8 0 _ rfl with e | e
    · rw [e] at h0
      exact absurd h0 (by decide)
    · exact e
  · rw [if_neg q] at h0
    exact absurd h0 (by decide)
theorem called_no {S : xS} {m t : Int32} (hm : vp_in m 8) (h0 : ¬ (0 : Int32) ≤ fX1_calledBy m t S) : fX1_calledBy m t S = -1 := by
  have key : ∀ n i x, i + n = 8 → xrun (bX1_calledBy_68 m t S) (fun (x : Int32) => (-1 : Int32)) n i x = -1 ∨ (0 : Int32) ≤ xrun (bX1_calledBy_68 m t S) (fun (x : Int32) => (-1 : Int32)) n i x := by
    intro n
    induction n with
    | zero => exact fun i x _ => Or.inl rfl
    | succ n ih =>
      intro i x hi
      unfold xrun
      unfold bX1_calledBy_68
      by_cases z : fX1_isCallable m (nI i) (jX1_calledBy_3 m t) S = 0
      · rw [if_pos z]
        exact ih (i + 1) x (by omega)
      · rw [if_neg z]
        by_cases y : x = 0
        · rw [if_pos y]
          refine Or.inr ?_
          show (0 : Int32) ≤ nI i
          rw [Int32.le_iff_toInt_le, xt0, nI_toInt (by omega)]
          omega
        · rw [if_neg y]
          exact ih (i + 1) _ (by omega)
  unfold fX1_calledBy at *
  by_cases q : (1 : Int32) ≤ (xfold (bX1_calledBy_18 m t S) 8 (0 : Int32))
  · rw [if_pos q] at h0 ⊢
    rcases key 8 0 _ rfl with e | e
    · exact e
    · exact absurd e h0
  · rw [if_neg q]
theorem g_partner {S M : xS} {a1 : Int32} (h : AA S M) (hC : Clk S) (c1 : vp_in a1 8) : fX4_partner a1 M = ((xu M 0 0 (nI 29) (0 : Int32)), fX3_partner a1 S) := by
  have h' := AA_thrown (v := 0) h
  unfold fX4_partner fX3_partner
  rw [asks_1 c1]
  refine (if_neg (show ¬ (1 : Int32) = 0 by decide)).trans ?_
  show (if (xu M 0 0 (nI 29) (0 : Int32)) 16 0 a1 = 0 then ((xu M 0 0 (nI 29) (0 : Int32)), fX4_called a1 ((xu M 0 0 (nI 29) (0 : Int32)) 0 0 (nI 28) + 1) (xu M 0 0 (nI 29) (0 : Int32))) else ((xu M 0 0 (nI 29) (0 : Int32)), (-1 : Int32))) = _
  rw [← h'.one (f := 19) (g := 16) (by decide) c1, ← h'.1.2.2.2.2]
  by_cases d : S 19 0 a1 = 0
  · rw [if_pos d, if_pos d, called_eq h' c1]
    rw [vp_in_iff]
    unfold Clk clk at hC
    rw [xtadd (by rw [xt1]; omega) (by rw [xt1]; omega), xt1]
    omega
  · rw [if_neg d, if_neg d]
set_option maxHeartbeats 4000000 in
theorem s_partner : sim_partner Rel := by
  intro c S M o a1 hc hR
  by_cases c1 : vp_in a1 8
  · have e := g_partner hR.1 hR.2.1.2.2.2.2 c1
    have e1 : (fX4_partner a1 M).1 = (xu M 0 0 (nI 29) (0 : Int32)) := xfst e
    have e2 : (fX4_partner a1 M).2 = fX3_partner a1 S := xsnd e
    exact ⟨0, S, (fX3_partner a1 S).toInt64, (fX4_partner a1 M).1, (fX4_partner a1 M).2, 3, 71, Or.inl ⟨c1, rfl, rfl, rfl⟩, by decide, by decide, (fun l Gm hap => kX4_partner l hap a1 M), by rw [e1]; exact xu_same, fun _ => by rw [e2], by rw [e1]; exact Rel_M hR⟩
  · have e : fX4_partner a1 M = (xu M 0 0 (nI 29) (1 : Int32), (0 : Int32)) := by
      unfold fX4_partner
      rw [asks_0 c1]
      exact if_pos rfl
    have e1 : (fX4_partner a1 M).1 = xu M 0 0 (nI 29) (1 : Int32) := xfst e
    exact ⟨1, S, o, (fX4_partner a1 M).1, (fX4_partner a1 M).2, 3, 71, Or.inr ⟨c1, rfl, rfl, rfl⟩, by decide, by decide, (fun l Gm hap => kX4_partner l hap a1 M), by rw [e1]; exact xu_same, fun h => absurd h (by decide), by rw [e1]; exact Rel_M hR⟩
