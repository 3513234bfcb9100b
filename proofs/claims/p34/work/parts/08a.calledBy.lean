def jX1_calledBy_3 (a1 : Int32) (a2 : Int32) : Int32 :=
  if (a2 - a2 / (4 : Int32) * (4 : Int32)) = (0 : Int32) then
    (1 : Int32)
  else
    (0 : Int32)
def bX1_calledBy_18 (a1 : Int32) (a2 : Int32) (S : xS) (i : Int32) (x : Int32) : Int32 :=
  if (fX1_isCallable a1 i (jX1_calledBy_3 a1 a2) S) = (0 : Int32) then
    x
  else
    (x + (1 : Int32))
def bX1_calledBy_68 (a1 : Int32) (a2 : Int32) (S : xS) (i : Int32) (x : Int32) : Int32 ⊕ Int32 :=
  if (fX1_isCallable a1 i (jX1_calledBy_3 a1 a2) S) = (0 : Int32) then
    .inl x
  else
    if x = (0 : Int32) then
      .inr i
    else
      .inl (x - (1 : Int32))
def fX1_calledBy (a1 : Int32) (a2 : Int32) (S : xS) : Int32 :=
  if (1 : Int32) ≤ (xfold (bX1_calledBy_18 a1 a2 S) 8 (0 : Int32)) then
    (xrun (bX1_calledBy_68 a1 a2 S) (fun (x : Int32) => (-1 : Int32)) 8 0 ((((5 : Int32) * a2) + ((3 : Int32) * a1)) - (((5 : Int32) * a2) + ((3 : Int32) * a1)) / (xfold (bX1_calledBy_18 a1 a2 S) 8 (0 : Int32)) * (xfold (bX1_calledBy_18 a1 a2 S) 8 (0 : Int32))))
  else
    (-1 : Int32)
theorem hdX1_calledBy : yX1_calledBy.cls = RX1 ∧ yX1_calledBy.cls ≠ "java/lang/invoke/MethodHandle" ∧ yX1_calledBy.cls ≠ "java/lang/invoke/VarHandle" ∧ (parseMethodDescriptor yX1_calledBy.desc).map (fun d => d.parameters.length) = some 2 := by decide +kernel
set_option maxRecDepth 100000 in
set_option maxHeartbeats 4000000 in
theorem kX1_calledBy (l : Launch) {G : xG} (hap : xAp xYc G) (a1 : Int32) (a2 : Int32) (S : xS) (g_a1 : vp_in a1 8) : xMi l xYc G yX1_calledBy wsX1_calledBy 1 23 [.ref (G.2.2 3 0), .int a1, .int a2] S S (fX1_calledBy a1 a2 S) := by
  refine xMi_of (cc := cX1_calledBy) (maxL := 7) (ty := .int) (own := RX1) [some (.ref (G.2.2 3 0)), some (.int a1), some (.int a2), none, none, none, none] pnX1 rfl rfl rfl (xcat1 rfl) (Nat.le_of_ble_eq_true rfl) rfl hap (fun F C V E => ?_)
  refine xg_iload_n C dX1_calledBy_0 rfl ?_
  refine xg_iconst C dX1_calledBy_1 (v := (4 : Int32)) (by decide) ?_
  refine xg_irem C dX1_calledBy_2 (by decide) ?_
  suffices hj : xg F 0 0 11 [some (.ref (G.2.2 3 0)), some (.int a1), some (.int a2), none, none, none, none] [.int (jX1_calledBy_3 a1 a2)] (xP xYc G S) by
    refine xg_if_ne C 10 dX1_calledBy_3 (by decide) (fun h1 => ?_) (fun h1 => ?_)
    · refine xg_iconst C dX1_calledBy_10 (v := (0 : Int32)) (by decide) ?_
      have e : (jX1_calledBy_3 a1 a2) = (0 : Int32) := by first | (rw [jX1_calledBy_3, if_neg h1]; done) | (rw [jX1_calledBy_3, if_neg h1]; rfl)
      rw [e] at hj
      exact hj
    · refine xg_iconst C dX1_calledBy_6 (v := (1 : Int32)) (by decide) ?_
      refine xg_goto C 11 dX1_calledBy_7 (by decide) ?_
      have e : (jX1_calledBy_3 a1 a2) = (1 : Int32) := by first | (rw [jX1_calledBy_3, if_pos h1]; done) | (rw [jX1_calledBy_3, if_pos h1]; rfl)
      rw [e] at hj
      exact hj
  refine xg_istore_n C dX1_calledBy_11 (by decide) (L' := [some (.ref (G.2.2 3 0)), some (.int a1), some (.int a2), some (.int (jX1_calledBy_3 a1 a2)), none, none, none]) rfl ?_
  refine xg_iconst C dX1_calledBy_12 (v := (0 : Int32)) (by decide) ?_
  refine xg_istore C dX1_calledBy_13 (by decide) (L' := [some (.ref (G.2.2 3 0)), some (.int a1), some (.int a2), some (.int (jX1_calledBy_3 a1 a2)), some (.int (0 : Int32)), none, none]) rfl ?_
  refine xg_iconst C dX1_calledBy_15 (v := (0 : Int32)) (by decide) ?_
  refine xg_istore C dX1_calledBy_16 (by decide) (L' := [some (.ref (G.2.2 3 0)), some (.int a1), some (.int a2), some (.int (jX1_calledBy_3 a1 a2)), some (.int (0 : Int32)), some (.int (0 : Int32)), none]) rfl ?_
  refine xloop (fun (ii : Int32) (x : Int32) => xg F 0 0 18 [some (.ref (G.2.2 3 0)), some (.int a1), some (.int a2), some (.int (jX1_calledBy_3 a1 a2)), some (.int x), some (.int ii), none] [] (xP xYc G S)) (bX1_calledBy_18 a1 a2 S) 8 (0 : Int32) (fun i hi x K => ?_) ?_
  · have hi8 : vp_in (nI i) 8 := vp_in_nI hi (by decide)
    show xg F 0 0 18 [some (.ref (G.2.2 3 0)), some (.int a1), some (.int a2), some (.int (jX1_calledBy_3 a1 a2)), some (.int x), some (.int (nI i)), none] [] (xP xYc G S)
    refine xg_iload C dX1_calledBy_18 rfl ?_
    refine xg_bipush C dX1_calledBy_20 (v := (8 : Int32)) (by decide) ?_
    refine xg_icmp_ge C 45 dX1_calledBy_22 (by decide) (fun h2 => absurd h2 (nI_ge hi (by decide))) (fun h2 => ?_)
    refine xg_aload_n C dX1_calledBy_25 rfl ?_
    refine xg_iload_n C dX1_calledBy_26 rfl ?_
    refine xg_iload C dX1_calledBy_27 rfl ?_
    refine xg_iload_n C dX1_calledBy_29 rfl ?_
    refine xg_callVi C V (f := 3) (As := [.int a1, .int (nI i), .int (jX1_calledBy_3 a1 a2)]) (r := (fX1_isCallable a1 (nI i) (jX1_calledBy_3 a1 a2) S)) (fun l => kX1_isCallable l hap a1 (nI i) (jX1_calledBy_3 a1 a2) S (by assumption) (by assumption)) gX1_calledBy_X1_isCallable rfl hdX1_isCallable ⟨by decide, by decide⟩ rfl rfl rfl rfl rfl (Nat.le_of_ble_eq_true rfl) ⟨Nat.zero_le _, Nat.zero_le _⟩ dX1_calledBy_30 ?_
    refine xg_if_eq C 39 dX1_calledBy_33 (by decide) (fun h3 => ?_) (fun h3 => ?_)
    · refine xg_iinc C dX1_calledBy_39 rfl (v := (nI (i + 1))) (xinc i) (by decide) (L' := [some (.ref (G.2.2 3 0)), some (.int a1), some (.int a2), some (.int (jX1_calledBy_3 a1 a2)), some (.int x), some (.int (nI (i + 1))), none]) rfl ?_
      refine xg_goto C 18 dX1_calledBy_42 (by decide) ?_
      have e : (bX1_calledBy_18 a1 a2 S) (nI i) x = x := by first | (rw [bX1_calledBy_18, if_pos h3]; done) | (rw [bX1_calledBy_18, if_pos h3]; rfl)
      rw [e] at K
      exact xg_le K ⟨rfl, rfl, rfl, rfl, rfl, rfl, trivial⟩
    · refine xg_iinc C dX1_calledBy_36 rfl (v := (x + (1 : Int32))) (xincv _) (by decide) (L' := [some (.ref (G.2.2 3 0)), some (.int a1), some (.int a2), some (.int (jX1_calledBy_3 a1 a2)), some (.int (x + (1 : Int32))), some (.int (nI i)), none]) rfl ?_
      refine xg_iinc C dX1_calledBy_39 rfl (v := (nI (i + 1))) (xinc i) (by decide) (L' := [some (.ref (G.2.2 3 0)), some (.int a1), some (.int a2), some (.int (jX1_calledBy_3 a1 a2)), some (.int (x + (1 : Int32))), some (.int (nI (i + 1))), none]) rfl ?_
      refine xg_goto C 18 dX1_calledBy_42 (by decide) ?_
      have e : (bX1_calledBy_18 a1 a2 S) (nI i) x = (x + (1 : Int32)) := by first | (rw [bX1_calledBy_18, if_neg h3]; done) | (rw [bX1_calledBy_18, if_neg h3]; rfl)
      rw [e] at K
      exact xg_le K ⟨rfl, rfl, rfl, rfl, rfl, rfl, trivial⟩
  · show xg F 0 0 18 [some (.ref (G.2.2 3 0)), some (.int a1), some (.int a2), some (.int (jX1_calledBy_3 a1 a2)), some (.int (xfold (bX1_calledBy_18 a1 a2 S) 8 (0 : Int32))), some (.int (nI 8)), none] [] (xP xYc G S)
    refine xg_iload C dX1_calledBy_18 rfl ?_
    refine xg_bipush C dX1_calledBy_20 (v := (8 : Int32)) (by decide) ?_
    refine xg_icmp_ge C 45 dX1_calledBy_22 (by decide) (fun h4 => ?_) (fun h4 => absurd (nI_le (Nat.le_refl _) (by decide)) h4)
    refine xg_iload C dX1_calledBy_45 rfl ?_
    refine xg_iconst C dX1_calledBy_47 (v := (1 : Int32)) (by decide) ?_
    refine xg_icmp_ge C 53 dX1_calledBy_48 (by decide) (fun h5 => ?_) (fun h5 => ?_)
    · refine xg_iconst C dX1_calledBy_53 (v := (5 : Int32)) (by decide) ?_
      refine xg_iload_n C dX1_calledBy_54 rfl ?_
      refine xg_imul C dX1_calledBy_55 ?_
      refine xg_iconst C dX1_calledBy_56 (v := (3 : Int32)) (by decide) ?_
      refine xg_iload_n C dX1_calledBy_57 rfl ?_
      refine xg_imul C dX1_calledBy_58 ?_
      refine xg_iadd C dX1_calledBy_59 ?_
      refine xg_iload C dX1_calledBy_60 rfl ?_
      refine xg_irem C dX1_calledBy_62 (xne2 (by assumption)) ?_
      refine xg_istore C dX1_calledBy_63 (by decide) (L' := [some (.ref (G.2.2 3 0)), some (.int a1), some (.int a2), some (.int (jX1_calledBy_3 a1 a2)), some (.int (xfold (bX1_calledBy_18 a1 a2 S) 8 (0 : Int32))), some (.int ((((5 : Int32) * a2) + ((3 : Int32) * a1)) - (((5 : Int32) * a2) + ((3 : Int32) * a1)) / (xfold (bX1_calledBy_18 a1 a2 S) 8 (0 : Int32)) * (xfold (bX1_calledBy_18 a1 a2 S) 8 (0 : Int32)))), none]) rfl ?_
      refine xg_iconst C dX1_calledBy_65 (v := (0 : Int32)) (by decide) ?_
      refine xg_istore C dX1_calledBy_66 (by decide) (L' := [some (.ref (G.2.2 3 0)), some (.int a1), some (.int a2), some (.int (jX1_calledBy_3 a1 a2)), some (.int (xfold (bX1_calledBy_18 a1 a2 S) 8 (0 : Int32))), some (.int ((((5 : Int32) * a2) + ((3 : Int32) * a1)) - (((5 : Int32) * a2) + ((3 : Int32) * a1)) / (xfold (bX1_calledBy_18 a1 a2 S) 8 (0 : Int32)) * (xfold (bX1_calledBy_18 a1 a2 S) 8 (0 : Int32)))), some (.int (0 : Int32))]) rfl ?_
      refine xloopR (fun (ii : Int32) (x : Int32) => xg F 0 0 68 [some (.ref (G.2.2 3 0)), some (.int a1), some (.int a2), some (.int (jX1_calledBy_3 a1 a2)), some (.int (xfold (bX1_calledBy_18 a1 a2 S) 8 (0 : Int32))), some (.int x), some (.int ii)] [] (xP xYc G S)) (fun r => (fX1_calledBy a1 a2 S) = r) (bX1_calledBy_68 a1 a2 S) (fun (x : Int32) => (-1 : Int32)) 8 ((((5 : Int32) * a2) + ((3 : Int32) * a1)) - (((5 : Int32) * a2) + ((3 : Int32) * a1)) / (xfold (bX1_calledBy_18 a1 a2 S) 8 (0 : Int32)) * (xfold (bX1_calledBy_18 a1 a2 S) 8 (0 : Int32))) (by first | (rw [fX1_calledBy, if_pos h5]; done) | (rw [fX1_calledBy, if_pos h5]; rfl)) (fun i hi x K Kr => ?_) (fun x Kd => ?_)
      · have hi8 : vp_in (nI i) 8 := vp_in_nI hi (by decide)
        show xg F 0 0 68 [some (.ref (G.2.2 3 0)), some (.int a1), some (.int a2), some (.int (jX1_calledBy_3 a1 a2)), some (.int (xfold (bX1_calledBy_18 a1 a2 S) 8 (0 : Int32))), some (.int x), some (.int (nI i))] [] (xP xYc G S)
        refine xg_iload C dX1_calledBy_68 rfl ?_
        refine xg_bipush C dX1_calledBy_70 (v := (8 : Int32)) (by decide) ?_
        refine xg_icmp_ge C 103 dX1_calledBy_72 (by decide) (fun h6 => absurd h6 (nI_ge hi (by decide))) (fun h6 => ?_)
        refine xg_aload_n C dX1_calledBy_75 rfl ?_
        refine xg_iload_n C dX1_calledBy_76 rfl ?_
        refine xg_iload C dX1_calledBy_77 rfl ?_
        refine xg_iload_n C dX1_calledBy_79 rfl ?_
        refine xg_callVi C V (f := 3) (As := [.int a1, .int (nI i), .int (jX1_calledBy_3 a1 a2)]) (r := (fX1_isCallable a1 (nI i) (jX1_calledBy_3 a1 a2) S)) (fun l => kX1_isCallable l hap a1 (nI i) (jX1_calledBy_3 a1 a2) S (by assumption) (by assumption)) gX1_calledBy_X1_isCallable rfl hdX1_isCallable ⟨by decide, by decide⟩ rfl rfl rfl rfl rfl (Nat.le_of_ble_eq_true rfl) ⟨Nat.zero_le _, Nat.zero_le _⟩ dX1_calledBy_80 ?_
        refine xg_if_eq C 97 dX1_calledBy_83 (by decide) (fun h7 => ?_) (fun h7 => ?_)
        · refine xg_iinc C dX1_calledBy_97 rfl (v := (nI (i + 1))) (xinc i) (by decide) (L' := [some (.ref (G.2.2 3 0)), some (.int a1), some (.int a2), some (.int (jX1_calledBy_3 a1 a2)), some (.int (xfold (bX1_calledBy_18 a1 a2 S) 8 (0 : Int32))), some (.int x), some (.int (nI (i + 1)))]) rfl ?_
          refine xg_goto C 68 dX1_calledBy_100 (by decide) ?_
          have e : (bX1_calledBy_68 a1 a2 S) (nI i) x = .inl x := by first | (rw [bX1_calledBy_68, if_pos h7]; done) | (rw [bX1_calledBy_68, if_pos h7]; rfl)
          have K := K _ e
          exact xg_le K ⟨rfl, rfl, rfl, rfl, rfl, rfl, rfl, trivial⟩
        · refine xg_iload C dX1_calledBy_86 rfl ?_
          refine xg_if_ne C 94 dX1_calledBy_88 (by decide) (fun h8 => ?_) (fun h8 => ?_)
          · refine xg_iinc C dX1_calledBy_94 rfl (v := (x - (1 : Int32))) (xdecv _) (by decide) (L' := [some (.ref (G.2.2 3 0)), some (.int a1), some (.int a2), some (.int (jX1_calledBy_3 a1 a2)), some (.int (xfold (bX1_calledBy_18 a1 a2 S) 8 (0 : Int32))), some (.int (x - (1 : Int32))), some (.int (nI i))]) rfl ?_
            refine xg_iinc C dX1_calledBy_97 rfl (v := (nI (i + 1))) (xinc i) (by decide) (L' := [some (.ref (G.2.2 3 0)), some (.int a1), some (.int a2), some (.int (jX1_calledBy_3 a1 a2)), some (.int (xfold (bX1_calledBy_18 a1 a2 S) 8 (0 : Int32))), some (.int (x - (1 : Int32))), some (.int (nI (i + 1)))]) rfl ?_
            refine xg_goto C 68 dX1_calledBy_100 (by decide) ?_
            have e : (bX1_calledBy_68 a1 a2 S) (nI i) x = .inl (x - (1 : Int32)) := by first | (rw [bX1_calledBy_68, if_neg h7, if_neg h8]; done) | (rw [bX1_calledBy_68, if_neg h7, if_neg h8]; rfl)
            have K := K _ e
            exact xg_le K ⟨rfl, rfl, rfl, rfl, rfl, rfl, rfl, trivial⟩
          · refine xg_iload C dX1_calledBy_91 rfl ?_
            have e : (bX1_calledBy_68 a1 a2 S) (nI i) x = .inr (nI i) := by first | (rw [bX1_calledBy_68, if_neg h7, if_pos h8]; done) | (rw [bX1_calledBy_68, if_neg h7, if_pos h8]; rfl)
            exact xret_i E dX1_calledBy_93 (Kr _ e) rfl
      · show xg F 0 0 68 [some (.ref (G.2.2 3 0)), some (.int a1), some (.int a2), some (.int (jX1_calledBy_3 a1 a2)), some (.int (xfold (bX1_calledBy_18 a1 a2 S) 8 (0 : Int32))), some (.int x), some (.int (nI 8))] [] (xP xYc G S)
        refine xg_iload C dX1_calledBy_68 rfl ?_
        refine xg_bipush C dX1_calledBy_70 (v := (8 : Int32)) (by decide) ?_
        refine xg_icmp_ge C 103 dX1_calledBy_72 (by decide) (fun h9 => ?_) (fun h9 => absurd (nI_le (Nat.le_refl _) (by decide)) h9)
        refine xg_iconst C dX1_calledBy_103 (v := (-1 : Int32)) (by decide) ?_
        exact xret_i E dX1_calledBy_104 Kd rfl
    · refine xg_iconst C dX1_calledBy_51 (v := (-1 : Int32)) (by decide) ?_
      exact xret_i E dX1_calledBy_52 (by first | (rw [fX1_calledBy, if_neg h5]; done) | (rw [fX1_calledBy, if_neg h5]; rfl)) rfl
theorem xrun_T {σ ρ : Type} (T : ρ → Prop) (b : Int32 → σ → σ ⊕ ρ) (d : σ → ρ) (N : Nat) (hb : ∀ i, i < N → ∀ x r, b (nI i) x = .inr r → T r) (hd : ∀ x, T (d x)) : ∀ n i x, i + n = N → T (xrun b d n i x)
  | 0, _, x, _ => hd x
  | n + 1, i, x, h => by
    unfold xrun
    cases hx : b (nI i) x with
    | inl y => exact xrun_T T b d N hb hd n (i + 1) y (by omega)
    | inr r => exact hb i (by omega) x r hx
theorem xcalled1_T (a1 a2 : Int32) (S : xS) : fX1_calledBy a1 a2 S = (-1 : Int32) ∨ vp_in (fX1_calledBy a1 a2 S) 8 := by
  unfold fX1_calledBy
  split
  · refine xrun_T (fun r => r = (-1 : Int32) ∨ vp_in r 8) _ _ 8 (fun i hi x r h => ?_) (fun x => Or.inl rfl) 8 0 _ rfl
    unfold bX1_calledBy_68 at h
    split at h
    · cases h
    · split at h
      · cases h
        exact Or.inr (vp_in_nI hi (by decide))
      · cases h
  · exact Or.inl rfl
theorem xin_called1 {a1 a2 : Int32} {S : xS} (h : (0 : Int32) ≤ fX1_calledBy a1 a2 S) : vp_in (fX1_calledBy a1 a2 S) 8 := by
  rcases xcalled1_T a1 a2 S with h2 | h2
  · rw [h2] at h
    exact absurd h (by decide)
  · exact h2
