/-! 13: GossipGatesModel: a tick -/
theorem iX4_falls_X4 : ∀ w ∈ wsX40, w ∈ wsX4_falls := by decide +kernel
theorem qX4_falls_16 : xFr wsX4_falls RX4 16 RX4 TX4 30 2 := ⟨iX4_falls_X4, List.mem_of_getElem? (i := 1) rfl, by decide⟩
theorem qX4_falls_104 : xFr wsX4_falls RX4 104 RX4 TX4 30 9 := ⟨iX4_falls_X4, List.mem_of_getElem? (i := 2) rfl, by decide⟩
theorem qX4_falls_25 : xFr wsX4_falls RX4 25 RX4 TX4 30 5 := ⟨iX4_falls_X4, List.mem_of_getElem? (i := 3) rfl, by decide⟩
def bX4_falls_15  (i : Int32) (x : xS) : xS :=
  (xu (xu x 3 0 i ((x 3 0 i) + (x 6 0 i))) 6 0 i (0 : Int32))
def fX4_falls  (S : xS) : xS :=
  (xfold bX4_falls_15 8 (xu S 3 0 (0 : Int32) ((S 3 0 (0 : Int32)) + (S 0 0 (nI 9)))))
theorem hdX4_falls : yX4_falls.cls = RX4 ∧ yX4_falls.cls ≠ "java/lang/invoke/MethodHandle" ∧ yX4_falls.cls ≠ "java/lang/invoke/VarHandle" ∧ (parseMethodDescriptor yX4_falls.desc).map (fun d => d.parameters.length) = some 0 := by decide +kernel
set_option maxRecDepth 100000 in
set_option maxHeartbeats 4000000 in
theorem kX4_falls (l : Launch) {G : xG} (hap : xAp xYm G)  (S : xS)  : xMv l xYm G yX4_falls wsX4_falls 0 0 [.ref (G.2.2 0 0)] S (fX4_falls S) := by
  refine xMv_of (cc := cX4_falls) (maxL := 2) (own := RX4) [some (.ref (G.2.2 0 0)), none] pnX4 rfl rfl (xcat1 rfl) (Nat.le_of_ble_eq_true rfl) rfl hap (fun F C V E => ?_)
  refine xg_aload_n C dX4_falls_0 rfl ?_
  refine xg_getR C V (f := 0) qX4_falls_16 rfl rfl rfl dX4_falls_1 ?_
  refine xg_iconst C dX4_falls_4 (v := (0 : Int32)) (by decide) ?_
  refine xg_dup2 C dX4_falls_5 rfl rfl ?_
  refine xg_iald C V (f := 3) (n := 1) (N := 8) rfl (by decide) (xR_0 (by decide)) (vp_in_iff.mpr ⟨by decide, by decide⟩) dX4_falls_6 (v := (S 3 0 (0 : Int32))) rfl ?_
  refine xg_aload_n C dX4_falls_7 rfl ?_
  refine xg_getI C V (f := 0) qX4_falls_104 rfl rfl rfl dX4_falls_8 (v := (S 0 0 (nI 9))) rfl ?_
  refine xg_iadd C dX4_falls_11 ?_
  refine xg_iast C V (f := 3) (n := 1) (N := 8) rfl (by decide) (xR_0 (by decide)) (vp_in_iff.mpr ⟨by decide, by decide⟩) dX4_falls_12 ?_
  refine xg_iconst C dX4_falls_13 (v := (0 : Int32)) (by decide) ?_
  refine xg_istore_n C dX4_falls_14 (by decide) (L' := [some (.ref (G.2.2 0 0)), some (.int (0 : Int32))]) rfl ?_
  refine xloop (fun (ii : Int32) (x : xS) => xg F 0 0 15 [some (.ref (G.2.2 0 0)), some (.int ii)] [] (xP xYm G x)) bX4_falls_15 8 (xu S 3 0 (0 : Int32) ((S 3 0 (0 : Int32)) + (S 0 0 (nI 9)))) (fun i hi x K => ?_) ?_
  · have hi8 : vp_in (nI i) 8 := vp_in_nI hi (by decide)
    show xg F 0 0 15 [some (.ref (G.2.2 0 0)), some (.int (nI i))] [] (xP xYm G x)
    refine xg_iload_n C dX4_falls_15 rfl ?_
    refine xg_bipush C dX4_falls_16 (v := (8 : Int32)) (by decide) ?_
    refine xg_icmp_ge C 49 dX4_falls_18 (by decide) (fun h1 => absurd h1 (nI_ge hi (by decide))) (fun h1 => ?_)
    refine xg_aload_n C dX4_falls_21 rfl ?_
    refine xg_getR C V (f := 0) qX4_falls_16 rfl rfl rfl dX4_falls_22 ?_
    refine xg_iload_n C dX4_falls_25 rfl ?_
    refine xg_dup2 C dX4_falls_26 rfl rfl ?_
    refine xg_iald C V (f := 3) (n := 1) (N := 8) rfl (by decide) (xR_0 (by decide)) (by first | assumption | exact xin_one (by assumption) | exact xin_asks (by assumption) | exact xin_ask1 (by assumption) | exact xin_ask2 (by assumption)) dX4_falls_27 (v := (x 3 0 (nI i))) rfl ?_
    refine xg_aload_n C dX4_falls_28 rfl ?_
    refine xg_getR C V (f := 0) qX4_falls_25 rfl rfl rfl dX4_falls_29 ?_
    refine xg_iload_n C dX4_falls_32 rfl ?_
    refine xg_iald C V (f := 6) (n := 1) (N := 8) rfl (by decide) (xR_0 (by decide)) (by first | assumption | exact xin_one (by assumption) | exact xin_asks (by assumption) | exact xin_ask1 (by assumption) | exact xin_ask2 (by assumption)) dX4_falls_33 (v := (x 6 0 (nI i))) rfl ?_
    refine xg_iadd C dX4_falls_34 ?_
    refine xg_iast C V (f := 3) (n := 1) (N := 8) rfl (by decide) (xR_0 (by decide)) (by first | assumption | exact xin_one (by assumption) | exact xin_asks (by assumption) | exact xin_ask1 (by assumption) | exact xin_ask2 (by assumption)) dX4_falls_35 ?_
    refine xg_aload_n C dX4_falls_36 rfl ?_
    refine xg_getR C V (f := 0) qX4_falls_25 rfl rfl rfl dX4_falls_37 ?_
    refine xg_iload_n C dX4_falls_40 rfl ?_
    refine xg_iconst C dX4_falls_41 (v := (0 : Int32)) (by decide) ?_
    refine xg_iast C V (f := 6) (n := 1) (N := 8) rfl (by decide) (xR_0 (by decide)) (by first | assumption | exact xin_one (by assumption) | exact xin_asks (by assumption) | exact xin_ask1 (by assumption) | exact xin_ask2 (by assumption)) dX4_falls_42 ?_
    refine xg_iinc C dX4_falls_43 rfl (v := (nI (i + 1))) (xinc i) (by decide) (L' := [some (.ref (G.2.2 0 0)), some (.int (nI (i + 1)))]) rfl ?_
    refine xg_goto C 15 dX4_falls_46 (by decide) ?_
    have e : bX4_falls_15 (nI i) x = (xu (xu x 3 0 (nI i) ((x 3 0 (nI i)) + (x 6 0 (nI i)))) 6 0 (nI i) (0 : Int32)) := rfl
    rw [e] at K
    exact xg_le K ⟨rfl, rfl, trivial⟩
  · show xg F 0 0 15 [some (.ref (G.2.2 0 0)), some (.int (nI 8))] [] (xP xYm G (xfold bX4_falls_15 8 (xu S 3 0 (0 : Int32) ((S 3 0 (0 : Int32)) + (S 0 0 (nI 9))))))
    refine xg_iload_n C dX4_falls_15 rfl ?_
    refine xg_bipush C dX4_falls_16 (v := (8 : Int32)) (by decide) ?_
    refine xg_icmp_ge C 49 dX4_falls_18 (by decide) (fun h2 => ?_) (fun h2 => absurd (nI_le (Nat.le_refl _) (by decide)) h2)
    exact xret_v E dX4_falls_49 (rfl)
theorem xk_X4_falls {S : xS} : fX4_falls S 1 = S 1 := by
  unfold fX4_falls
  rw [xfold_keep 1 _ _ _ (fun i x => by unfold bX4_falls_15; simp [xu])]
  exact xu_nf (by decide)
theorem iX4_flowsOn_X4 : ∀ w ∈ wsX40, w ∈ wsX4_flowsOn := by decide +kernel
theorem qX4_flowsOn_19 : xFr wsX4_flowsOn RX4 19 RX4 TX4 30 3 := ⟨iX4_flowsOn_X4, List.mem_of_getElem? (i := 1) rfl, by decide⟩
theorem qX4_flowsOn_22 : xFr wsX4_flowsOn RX4 22 RX4 TX4 30 4 := ⟨iX4_flowsOn_X4, List.mem_of_getElem? (i := 2) rfl, by decide⟩
theorem qX4_flowsOn_28 : xFr wsX4_flowsOn RX4 28 RX4 TX4 30 6 := ⟨iX4_flowsOn_X4, List.mem_of_getElem? (i := 3) rfl, by decide⟩
theorem qX4_flowsOn_16 : xFr wsX4_flowsOn RX4 16 RX4 TX4 30 2 := ⟨iX4_flowsOn_X4, List.mem_of_getElem? (i := 4) rfl, by decide⟩
theorem qX4_flowsOn_31 : xFr wsX4_flowsOn RX4 31 RX4 TX4 30 7 := ⟨iX4_flowsOn_X4, List.mem_of_getElem? (i := 5) rfl, by decide⟩
def bX4_flowsOn_2  (i : Int32) (x : xS) : xS :=
  if (x 3 0 i) ≤ ((x 4 0 i) * (x 5 0 i)) then
    (xu x 7 0 i (x 3 0 i))
  else
    (xu x 7 0 i ((x 4 0 i) * (x 5 0 i)))
def bX4_flowsOn_56  (i : Int32) (x : xS) : xS :=
  if i = (0 : Int32) then
    (xu (xu x 3 0 i ((x 3 0 i) + ((0 : Int32) - (x 7 0 i)))) 8 0 i ((x 8 0 i) + (x 7 0 i)))
  else
    (xu (xu x 3 0 i ((x 3 0 i) + ((x 7 0 (i - (1 : Int32))) - (x 7 0 i)))) 8 0 i ((x 8 0 i) + (x 7 0 i)))
def fX4_flowsOn  (S : xS) : xS :=
  (xfold bX4_flowsOn_56 8 (xfold bX4_flowsOn_2 8 S))
theorem hdX4_flowsOn : yX4_flowsOn.cls = RX4 ∧ yX4_flowsOn.cls ≠ "java/lang/invoke/MethodHandle" ∧ yX4_flowsOn.cls ≠ "java/lang/invoke/VarHandle" ∧ (parseMethodDescriptor yX4_flowsOn.desc).map (fun d => d.parameters.length) = some 0 := by decide +kernel
set_option maxRecDepth 100000 in
set_option maxHeartbeats 4000000 in
theorem kX4_flowsOn (l : Launch) {G : xG} (hap : xAp xYm G)  (S : xS)  : xMv l xYm G yX4_flowsOn wsX4_flowsOn 0 0 [.ref (G.2.2 0 0)] S (fX4_flowsOn S) := by
  refine xMv_of (cc := cX4_flowsOn) (maxL := 3) (own := RX4) [some (.ref (G.2.2 0 0)), none, none] pnX4 rfl rfl (xcat1 rfl) (Nat.le_of_ble_eq_true rfl) rfl hap (fun F C V E => ?_)
  refine xg_iconst C dX4_flowsOn_0 (v := (0 : Int32)) (by decide) ?_
  refine xg_istore_n C dX4_flowsOn_1 (by decide) (L' := [some (.ref (G.2.2 0 0)), some (.int (0 : Int32)), none]) rfl ?_
  refine xloop (fun (ii : Int32) (x : xS) => xg F 0 0 2 [some (.ref (G.2.2 0 0)), some (.int ii), none] [] (xP xYm G x)) bX4_flowsOn_2 8 S (fun i hi x K => ?_) ?_
  · have hi8 : vp_in (nI i) 8 := vp_in_nI hi (by decide)
    show xg F 0 0 2 [some (.ref (G.2.2 0 0)), some (.int (nI i)), none] [] (xP xYm G x)
    refine xg_iload_n C dX4_flowsOn_2 rfl ?_
    refine xg_bipush C dX4_flowsOn_3 (v := (8 : Int32)) (by decide) ?_
    refine xg_icmp_ge C 54 dX4_flowsOn_5 (by decide) (fun h1 => absurd h1 (nI_ge hi (by decide))) (fun h1 => ?_)
    refine xg_aload_n C dX4_flowsOn_8 rfl ?_
    refine xg_getR C V (f := 0) qX4_flowsOn_19 rfl rfl rfl dX4_flowsOn_9 ?_
    refine xg_iload_n C dX4_flowsOn_12 rfl ?_
    refine xg_iald C V (f := 4) (n := 1) (N := 8) rfl (by decide) (xR_0 (by decide)) (by first | assumption | exact xin_one (by assumption) | exact xin_asks (by assumption) | exact xin_ask1 (by assumption) | exact xin_ask2 (by assumption)) dX4_flowsOn_13 (v := (x 4 0 (nI i))) rfl ?_
    refine xg_aload_n C dX4_flowsOn_14 rfl ?_
    refine xg_getR C V (f := 0) qX4_flowsOn_22 rfl rfl rfl dX4_flowsOn_15 ?_
    refine xg_iload_n C dX4_flowsOn_18 rfl ?_
    refine xg_iald C V (f := 5) (n := 1) (N := 8) rfl (by decide) (xR_0 (by decide)) (by first | assumption | exact xin_one (by assumption) | exact xin_asks (by assumption) | exact xin_ask1 (by assumption) | exact xin_ask2 (by assumption)) dX4_flowsOn_19 (v := (x 5 0 (nI i))) rfl ?_
    refine xg_imul C dX4_flowsOn_20 ?_
    refine xg_istore_n C dX4_flowsOn_21 (by decide) (L' := [some (.ref (G.2.2 0 0)), some (.int (nI i)), some (.int ((x 4 0 (nI i)) * (x 5 0 (nI i))))]) rfl ?_
    refine xg_aload_n C dX4_flowsOn_22 rfl ?_
    refine xg_getR C V (f := 0) qX4_flowsOn_28 rfl rfl rfl dX4_flowsOn_23 ?_
    refine xg_iload_n C dX4_flowsOn_26 rfl ?_
    refine xg_iload_n C dX4_flowsOn_27 rfl ?_
    refine xg_aload_n C dX4_flowsOn_28 rfl ?_
    refine xg_getR C V (f := 0) qX4_flowsOn_16 rfl rfl rfl dX4_flowsOn_29 ?_
    refine xg_iload_n C dX4_flowsOn_32 rfl ?_
    refine xg_iald C V (f := 3) (n := 1) (N := 8) rfl (by decide) (xR_0 (by decide)) (by first | assumption | exact xin_one (by assumption) | exact xin_asks (by assumption) | exact xin_ask1 (by assumption) | exact xin_ask2 (by assumption)) dX4_flowsOn_33 (v := (x 3 0 (nI i))) rfl ?_
    refine xg_icmp_ge C 41 dX4_flowsOn_34 (by decide) (fun h2 => ?_) (fun h2 => ?_)
    · refine xg_aload_n C dX4_flowsOn_41 rfl ?_
      refine xg_getR C V (f := 0) qX4_flowsOn_16 rfl rfl rfl dX4_flowsOn_42 ?_
      refine xg_iload_n C dX4_flowsOn_45 rfl ?_
      refine xg_iald C V (f := 3) (n := 1) (N := 8) rfl (by decide) (xR_0 (by decide)) (by first | assumption | exact xin_one (by assumption) | exact xin_asks (by assumption) | exact xin_ask1 (by assumption) | exact xin_ask2 (by assumption)) dX4_flowsOn_46 (v := (x 3 0 (nI i))) rfl ?_
      refine xg_iast C V (f := 7) (n := 1) (N := 8) rfl (by decide) (xR_0 (by decide)) (by first | assumption | exact xin_one (by assumption) | exact xin_asks (by assumption) | exact xin_ask1 (by assumption) | exact xin_ask2 (by assumption)) dX4_flowsOn_47 ?_
      refine xg_iinc C dX4_flowsOn_48 rfl (v := (nI (i + 1))) (xinc i) (by decide) (L' := [some (.ref (G.2.2 0 0)), some (.int (nI (i + 1))), some (.int ((x 4 0 (nI i)) * (x 5 0 (nI i))))]) rfl ?_
      refine xg_goto C 2 dX4_flowsOn_51 (by decide) ?_
      have e : bX4_flowsOn_2 (nI i) x = (xu x 7 0 (nI i) (x 3 0 (nI i))) := by first | (rw [bX4_flowsOn_2, if_pos h2]; done) | (rw [bX4_flowsOn_2, if_pos h2]; rfl)
      rw [e] at K
      exact xg_le K ⟨rfl, rfl, trivial⟩
    · refine xg_iload_n C dX4_flowsOn_37 rfl ?_
      refine xg_goto C 47 dX4_flowsOn_38 (by decide) ?_
      refine xg_iast C V (f := 7) (n := 1) (N := 8) rfl (by decide) (xR_0 (by decide)) (by first | assumption | exact xin_one (by assumption) | exact xin_asks (by assumption) | exact xin_ask1 (by assumption) | exact xin_ask2 (by assumption)) dX4_flowsOn_47 ?_
      refine xg_iinc C dX4_flowsOn_48 rfl (v := (nI (i + 1))) (xinc i) (by decide) (L' := [some (.ref (G.2.2 0 0)), some (.int (nI (i + 1))), some (.int ((x 4 0 (nI i)) * (x 5 0 (nI i))))]) rfl ?_
      refine xg_goto C 2 dX4_flowsOn_51 (by decide) ?_
      have e : bX4_flowsOn_2 (nI i) x = (xu x 7 0 (nI i) ((x 4 0 (nI i)) * (x 5 0 (nI i)))) := by first | (rw [bX4_flowsOn_2, if_neg h2]; done) | (rw [bX4_flowsOn_2, if_neg h2]; rfl)
      rw [e] at K
      exact xg_le K ⟨rfl, rfl, trivial⟩
  · show xg F 0 0 2 [some (.ref (G.2.2 0 0)), some (.int (nI 8)), none] [] (xP xYm G (xfold bX4_flowsOn_2 8 S))
    refine xg_iload_n C dX4_flowsOn_2 rfl ?_
    refine xg_bipush C dX4_flowsOn_3 (v := (8 : Int32)) (by decide) ?_
    refine xg_icmp_ge C 54 dX4_flowsOn_5 (by decide) (fun h3 => ?_) (fun h3 => absurd (nI_le (Nat.le_refl _) (by decide)) h3)
    refine xg_iconst C dX4_flowsOn_54 (v := (0 : Int32)) (by decide) ?_
    refine xg_istore_n C dX4_flowsOn_55 (by decide) (L' := [some (.ref (G.2.2 0 0)), some (.int (0 : Int32)), none]) rfl ?_
    refine xloop (fun (ii : Int32) (x : xS) => xg F 0 0 56 [some (.ref (G.2.2 0 0)), some (.int ii), none] [] (xP xYm G x)) bX4_flowsOn_56 8 (xfold bX4_flowsOn_2 8 S) (fun i hi x K => ?_) ?_
    · have hi8 : vp_in (nI i) 8 := vp_in_nI hi (by decide)
      show xg F 0 0 56 [some (.ref (G.2.2 0 0)), some (.int (nI i)), none] [] (xP xYm G x)
      refine xg_iload_n C dX4_flowsOn_56 rfl ?_
      refine xg_bipush C dX4_flowsOn_57 (v := (8 : Int32)) (by decide) ?_
      refine xg_icmp_ge C 115 dX4_flowsOn_59 (by decide) (fun h4 => absurd h4 (nI_ge hi (by decide))) (fun h4 => ?_)
      refine xg_aload_n C dX4_flowsOn_62 rfl ?_
      refine xg_getR C V (f := 0) qX4_flowsOn_16 rfl rfl rfl dX4_flowsOn_63 ?_
      refine xg_iload_n C dX4_flowsOn_66 rfl ?_
      refine xg_dup2 C dX4_flowsOn_67 rfl rfl ?_
      refine xg_iald C V (f := 3) (n := 1) (N := 8) rfl (by decide) (xR_0 (by decide)) (by first | assumption | exact xin_one (by assumption) | exact xin_asks (by assumption) | exact xin_ask1 (by assumption) | exact xin_ask2 (by assumption)) dX4_flowsOn_68 (v := (x 3 0 (nI i))) rfl ?_
      refine xg_iload_n C dX4_flowsOn_69 rfl ?_
      refine xg_if_ne C 77 dX4_flowsOn_70 (by decide) (fun h5 => ?_) (fun h5 => ?_)
      · refine xg_aload_n C dX4_flowsOn_77 rfl ?_
        refine xg_getR C V (f := 0) qX4_flowsOn_28 rfl rfl rfl dX4_flowsOn_78 ?_
        refine xg_iload_n C dX4_flowsOn_81 rfl ?_
        refine xg_iconst C dX4_flowsOn_82 (v := (1 : Int32)) (by decide) ?_
        refine xg_isub C dX4_flowsOn_83 ?_
        refine xg_iald C V (f := 7) (n := 1) (N := 8) rfl (by decide) (xR_0 (by decide)) (by first | exact xin_d (by assumption) (by assumption) | exact xin_e (by assumption) (by assumption)) dX4_flowsOn_84 (v := (x 7 0 ((nI i) - (1 : Int32)))) rfl ?_
        refine xg_aload_n C dX4_flowsOn_85 rfl ?_
        refine xg_getR C V (f := 0) qX4_flowsOn_28 rfl rfl rfl dX4_flowsOn_86 ?_
        refine xg_iload_n C dX4_flowsOn_89 rfl ?_
        refine xg_iald C V (f := 7) (n := 1) (N := 8) rfl (by decide) (xR_0 (by decide)) (by first | assumption | exact xin_one (by assumption) | exact xin_asks (by assumption) | exact xin_ask1 (by assumption) | exact xin_ask2 (by assumption)) dX4_flowsOn_90 (v := (x 7 0 (nI i))) rfl ?_
        refine xg_isub C dX4_flowsOn_91 ?_
        refine xg_iadd C dX4_flowsOn_92 ?_
        refine xg_iast C V (f := 3) (n := 1) (N := 8) rfl (by decide) (xR_0 (by decide)) (by first | assumption | exact xin_one (by assumption) | exact xin_asks (by assumption) | exact xin_ask1 (by assumption) | exact xin_ask2 (by assumption)) dX4_flowsOn_93 ?_
        refine xg_aload_n C dX4_flowsOn_94 rfl ?_
        refine xg_getR C V (f := 0) qX4_flowsOn_31 rfl rfl rfl dX4_flowsOn_95 ?_
        refine xg_iload_n C dX4_flowsOn_98 rfl ?_
        refine xg_dup2 C dX4_flowsOn_99 rfl rfl ?_
        refine xg_iald C V (f := 8) (n := 1) (N := 8) rfl (by decide) (xR_0 (by decide)) (by first | assumption | exact xin_one (by assumption) | exact xin_asks (by assumption) | exact xin_ask1 (by assumption) | exact xin_ask2 (by assumption)) dX4_flowsOn_100 (v := (x 8 0 (nI i))) (xu_ne (by decide)) ?_
        refine xg_aload_n C dX4_flowsOn_101 rfl ?_
        refine xg_getR C V (f := 0) qX4_flowsOn_28 rfl rfl rfl dX4_flowsOn_102 ?_
        refine xg_iload_n C dX4_flowsOn_105 rfl ?_
        refine xg_iald C V (f := 7) (n := 1) (N := 8) rfl (by decide) (xR_0 (by decide)) (by first | assumption | exact xin_one (by assumption) | exact xin_asks (by assumption) | exact xin_ask1 (by assumption) | exact xin_ask2 (by assumption)) dX4_flowsOn_106 (v := (x 7 0 (nI i))) (xu_ne (by decide)) ?_
        refine xg_iadd C dX4_flowsOn_107 ?_
        refine xg_iast C V (f := 8) (n := 1) (N := 8) rfl (by decide) (xR_0 (by decide)) (by first | assumption | exact xin_one (by assumption) | exact xin_asks (by assumption) | exact xin_ask1 (by assumption) | exact xin_ask2 (by assumption)) dX4_flowsOn_108 ?_
        refine xg_iinc C dX4_flowsOn_109 rfl (v := (nI (i + 1))) (xinc i) (by decide) (L' := [some (.ref (G.2.2 0 0)), some (.int (nI (i + 1))), none]) rfl ?_
        refine xg_goto C 56 dX4_flowsOn_112 (by decide) ?_
        have e : bX4_flowsOn_56 (nI i) x = (xu (xu x 3 0 (nI i) ((x 3 0 (nI i)) + ((x 7 0 ((nI i) - (1 : Int32))) - (x 7 0 (nI i))))) 8 0 (nI i) ((x 8 0 (nI i)) + (x 7 0 (nI i)))) := by first | (rw [bX4_flowsOn_56, if_neg h5]; done) | (rw [bX4_flowsOn_56, if_neg h5]; rfl)
        rw [e] at K
        exact xg_le K ⟨rfl, rfl, trivial⟩
      · refine xg_iconst C dX4_flowsOn_73 (v := (0 : Int32)) (by decide) ?_
        refine xg_goto C 85 dX4_flowsOn_74 (by decide) ?_
        refine xg_aload_n C dX4_flowsOn_85 rfl ?_
        refine xg_getR C V (f := 0) qX4_flowsOn_28 rfl rfl rfl dX4_flowsOn_86 ?_
        refine xg_iload_n C dX4_flowsOn_89 rfl ?_
        refine xg_iald C V (f := 7) (n := 1) (N := 8) rfl (by decide) (xR_0 (by decide)) (by first | assumption | exact xin_one (by assumption) | exact xin_asks (by assumption) | exact xin_ask1 (by assumption) | exact xin_ask2 (by assumption)) dX4_flowsOn_90 (v := (x 7 0 (nI i))) rfl ?_
        refine xg_isub C dX4_flowsOn_91 ?_
        refine xg_iadd C dX4_flowsOn_92 ?_
        refine xg_iast C V (f := 3) (n := 1) (N := 8) rfl (by decide) (xR_0 (by decide)) (by first | assumption | exact xin_one (by assumption) | exact xin_asks (by assumption) | exact xin_ask1 (by assumption) | exact xin_ask2 (by assumption)) dX4_flowsOn_93 ?_
        refine xg_aload_n C dX4_flowsOn_94 rfl ?_
        refine xg_getR C V (f := 0) qX4_flowsOn_31 rfl rfl rfl dX4_flowsOn_95 ?_
        refine xg_iload_n C dX4_flowsOn_98 rfl ?_
        refine xg_dup2 C dX4_flowsOn_99 rfl rfl ?_
        refine xg_iald C V (f := 8) (n := 1) (N := 8) rfl (by decide) (xR_0 (by decide)) (by first | assumption | exact xin_one (by assumption) | exact xin_asks (by assumption) | exact xin_ask1 (by assumption) | exact xin_ask2 (by assumption)) dX4_flowsOn_100 (v := (x 8 0 (nI i))) (xu_ne (by decide)) ?_
        refine xg_aload_n C dX4_flowsOn_101 rfl ?_
        refine xg_getR C V (f := 0) qX4_flowsOn_28 rfl rfl rfl dX4_flowsOn_102 ?_
        refine xg_iload_n C dX4_flowsOn_105 rfl ?_
        refine xg_iald C V (f := 7) (n := 1) (N := 8) rfl (by decide) (xR_0 (by decide)) (by first | assumption | exact xin_one (by assumption) | exact xin_asks (by assumption) | exact xin_ask1 (by assumption) | exact xin_ask2 (by assumption)) dX4_flowsOn_106 (v := (x 7 0 (nI i))) (xu_ne (by decide)) ?_
        refine xg_iadd C dX4_flowsOn_107 ?_
        refine xg_iast C V (f := 8) (n := 1) (N := 8) rfl (by decide) (xR_0 (by decide)) (by first | assumption | exact xin_one (by assumption) | exact xin_asks (by assumption) | exact xin_ask1 (by assumption) | exact xin_ask2 (by assumption)) dX4_flowsOn_108 ?_
        refine xg_iinc C dX4_flowsOn_109 rfl (v := (nI (i + 1))) (xinc i) (by decide) (L' := [some (.ref (G.2.2 0 0)), some (.int (nI (i + 1))), none]) rfl ?_
        refine xg_goto C 56 dX4_flowsOn_112 (by decide) ?_
        have e : bX4_flowsOn_56 (nI i) x = (xu (xu x 3 0 (nI i) ((x 3 0 (nI i)) + ((0 : Int32) - (x 7 0 (nI i))))) 8 0 (nI i) ((x 8 0 (nI i)) + (x 7 0 (nI i)))) := by first | (rw [bX4_flowsOn_56, if_pos h5]; done) | (rw [bX4_flowsOn_56, if_pos h5]; rfl)
        rw [e] at K
        exact xg_le K ⟨rfl, rfl, trivial⟩
    · show xg F 0 0 56 [some (.ref (G.2.2 0 0)), some (.int (nI 8)), none] [] (xP xYm G (xfold bX4_flowsOn_56 8 (xfold bX4_flowsOn_2 8 S)))
      refine xg_iload_n C dX4_flowsOn_56 rfl ?_
      refine xg_bipush C dX4_flowsOn_57 (v := (8 : Int32)) (by decide) ?_
      refine xg_icmp_ge C 115 dX4_flowsOn_59 (by decide) (fun h6 => ?_) (fun h6 => absurd (nI_le (Nat.le_refl _) (by decide)) h6)
      exact xret_v E dX4_flowsOn_115 (rfl)
theorem xk_X4_flowsOn {S : xS} : fX4_flowsOn S 1 = S 1 := by
  unfold fX4_flowsOn
  rw [xfold_keep 1 _ _ _ (fun i x => by unfold bX4_flowsOn_56; (repeat' split) <;> simp [xu])]
  rw [xfold_keep 1 _ _ _ (fun i x => by unfold bX4_flowsOn_2; (repeat' split) <;> simp [xu])]
theorem iX4_spills_X4 : ∀ w ∈ wsX40, w ∈ wsX4_spills := by decide +kernel
theorem qX4_spills_7 : xFr wsX4_spills RX4 7 RX4 TX4 30 0 := ⟨iX4_spills_X4, List.mem_of_getElem? (i := 1) rfl, by decide⟩
theorem qX4_spills_13 : xFr wsX4_spills RX4 13 RX4 TX4 30 1 := ⟨iX4_spills_X4, List.mem_of_getElem? (i := 2) rfl, by decide⟩
theorem qX4_spills_16 : xFr wsX4_spills RX4 16 RX4 TX4 30 2 := ⟨iX4_spills_X4, List.mem_of_getElem? (i := 3) rfl, by decide⟩
theorem qX4_spills_34 : xFr wsX4_spills RX4 34 RX4 TX4 30 8 := ⟨iX4_spills_X4, List.mem_of_getElem? (i := 4) rfl, by decide⟩
def bX4_spills_4  (i : Int32) (x : xS × Int32) : xS × Int32 :=
  if (x.1 3 0 i) ≤ ((x.1 1 0 i) * (x.1 2 0 i)) then
    if (7 : Int32) ≤ i then
      ((xu (xu x.1 3 0 i ((x.1 3 0 i) - (0 : Int32))) 9 0 i ((x.1 9 0 i) + (0 : Int32))), (x.2 + (0 : Int32)))
    else
      ((xu (xu (xu x.1 3 0 i ((x.1 3 0 i) - (0 : Int32))) 9 0 i ((x.1 9 0 i) + (0 : Int32))) 3 0 (i + (1 : Int32)) (((xu x.1 3 0 i ((x.1 3 0 i) - (0 : Int32))) 3 0 (i + (1 : Int32))) + (0 : Int32))), (x.2 + (0 : Int32)))
  else
    if (7 : Int32) ≤ i then
      ((xu (xu x.1 3 0 i ((x.1 3 0 i) - ((x.1 3 0 i) - ((x.1 1 0 i) * (x.1 2 0 i))))) 9 0 i ((x.1 9 0 i) + ((x.1 3 0 i) - ((x.1 1 0 i) * (x.1 2 0 i))))), (x.2 + ((x.1 3 0 i) - ((x.1 1 0 i) * (x.1 2 0 i)))))
    else
      ((xu (xu (xu x.1 3 0 i ((x.1 3 0 i) - ((x.1 3 0 i) - ((x.1 1 0 i) * (x.1 2 0 i))))) 9 0 i ((x.1 9 0 i) + ((x.1 3 0 i) - ((x.1 1 0 i) * (x.1 2 0 i))))) 3 0 (i + (1 : Int32)) (((xu x.1 3 0 i ((x.1 3 0 i) - ((x.1 3 0 i) - ((x.1 1 0 i) * (x.1 2 0 i))))) 3 0 (i + (1 : Int32))) + ((x.1 3 0 i) - ((x.1 1 0 i) * (x.1 2 0 i))))), (x.2 + ((x.1 3 0 i) - ((x.1 1 0 i) * (x.1 2 0 i)))))
def fX4_spills  (S : xS) : xS × Int32 :=
  ((xfold bX4_spills_4 8 (S, (0 : Int32))).1, (xfold bX4_spills_4 8 (S, (0 : Int32))).2)
theorem hdX4_spills : yX4_spills.cls = RX4 ∧ yX4_spills.cls ≠ "java/lang/invoke/MethodHandle" ∧ yX4_spills.cls ≠ "java/lang/invoke/VarHandle" ∧ (parseMethodDescriptor yX4_spills.desc).map (fun d => d.parameters.length) = some 0 := by decide +kernel
set_option maxRecDepth 100000 in
set_option maxHeartbeats 4000000 in
theorem kX4_spills (l : Launch) {G : xG} (hap : xAp xYm G)  (S : xS)  : xMi l xYm G yX4_spills wsX4_spills 0 0 [.ref (G.2.2 0 0)] S (fX4_spills S).1 (fX4_spills S).2 := by
  refine xMi_of (cc := cX4_spills) (maxL := 5) (ty := .int) (own := RX4) [some (.ref (G.2.2 0 0)), none, none, none, none] pnX4 rfl rfl rfl (xcat1 rfl) (Nat.le_of_ble_eq_true rfl) rfl hap (fun F C V E => ?_)
  refine xg_iconst C dX4_spills_0 (v := (0 : Int32)) (by decide) ?_
  refine xg_istore_n C dX4_spills_1 (by decide) (L' := [some (.ref (G.2.2 0 0)), some (.int (0 : Int32)), none, none, none]) rfl ?_
  refine xg_iconst C dX4_spills_2 (v := (0 : Int32)) (by decide) ?_
  refine xg_istore_n C dX4_spills_3 (by decide) (L' := [some (.ref (G.2.2 0 0)), some (.int (0 : Int32)), some (.int (0 : Int32)), none, none]) rfl ?_
  refine xloop (fun (ii : Int32) (x : xS × Int32) => xg F 0 0 4 [some (.ref (G.2.2 0 0)), some (.int x.2), some (.int ii), none, none] [] (xP xYm G x.1)) bX4_spills_4 8 (S, (0 : Int32)) (fun i hi x K => ?_) ?_
  · have hi8 : vp_in (nI i) 8 := vp_in_nI hi (by decide)
    show xg F 0 0 4 [some (.ref (G.2.2 0 0)), some (.int x.2), some (.int (nI i)), none, none] [] (xP xYm G x.1)
    refine xg_iload_n C dX4_spills_4 rfl ?_
    refine xg_bipush C dX4_spills_5 (v := (8 : Int32)) (by decide) ?_
    refine xg_icmp_ge C 100 dX4_spills_7 (by decide) (fun h1 => absurd h1 (nI_ge hi (by decide))) (fun h1 => ?_)
    refine xg_aload_n C dX4_spills_10 rfl ?_
    refine xg_getR C V (f := 0) qX4_spills_7 rfl rfl rfl dX4_spills_11 ?_
    refine xg_iload_n C dX4_spills_14 rfl ?_
    refine xg_iald C V (f := 1) (n := 1) (N := 8) rfl (by decide) (xR_0 (by decide)) (by first | assumption | exact xin_one (by assumption) | exact xin_asks (by assumption) | exact xin_ask1 (by assumption) | exact xin_ask2 (by assumption)) dX4_spills_15 (v := (x.1 1 0 (nI i))) rfl ?_
    refine xg_aload_n C dX4_spills_16 rfl ?_
    refine xg_getR C V (f := 0) qX4_spills_13 rfl rfl rfl dX4_spills_17 ?_
    refine xg_iload_n C dX4_spills_20 rfl ?_
    refine xg_iald C V (f := 2) (n := 1) (N := 8) rfl (by decide) (xR_0 (by decide)) (by first | assumption | exact xin_one (by assumption) | exact xin_asks (by assumption) | exact xin_ask1 (by assumption) | exact xin_ask2 (by assumption)) dX4_spills_21 (v := (x.1 2 0 (nI i))) rfl ?_
    refine xg_imul C dX4_spills_22 ?_
    refine xg_istore_n C dX4_spills_23 (by decide) (L' := [some (.ref (G.2.2 0 0)), some (.int x.2), some (.int (nI i)), some (.int ((x.1 1 0 (nI i)) * (x.1 2 0 (nI i)))), none]) rfl ?_
    refine xg_aload_n C dX4_spills_24 rfl ?_
    refine xg_getR C V (f := 0) qX4_spills_16 rfl rfl rfl dX4_spills_25 ?_
    refine xg_iload_n C dX4_spills_28 rfl ?_
    refine xg_iald C V (f := 3) (n := 1) (N := 8) rfl (by decide) (xR_0 (by decide)) (by first | assumption | exact xin_one (by assumption) | exact xin_asks (by assumption) | exact xin_ask1 (by assumption) | exact xin_ask2 (by assumption)) dX4_spills_29 (v := (x.1 3 0 (nI i))) rfl ?_
    refine xg_iload_n C dX4_spills_30 rfl ?_
    refine xg_icmp_le C 45 dX4_spills_31 (by decide) (fun h2 => ?_) (fun h2 => ?_)
    · refine xg_iconst C dX4_spills_45 (v := (0 : Int32)) (by decide) ?_
      refine xg_istore C dX4_spills_46 (by decide) (L' := [some (.ref (G.2.2 0 0)), some (.int x.2), some (.int (nI i)), some (.int ((x.1 1 0 (nI i)) * (x.1 2 0 (nI i)))), some (.int (0 : Int32))]) rfl ?_
      refine xg_aload_n C dX4_spills_48 rfl ?_
      refine xg_getR C V (f := 0) qX4_spills_16 rfl rfl rfl dX4_spills_49 ?_
      refine xg_iload_n C dX4_spills_52 rfl ?_
      refine xg_dup2 C dX4_spills_53 rfl rfl ?_
      refine xg_iald C V (f := 3) (n := 1) (N := 8) rfl (by decide) (xR_0 (by decide)) (by first | assumption | exact xin_one (by assumption) | exact xin_asks (by assumption) | exact xin_ask1 (by assumption) | exact xin_ask2 (by assumption)) dX4_spills_54 (v := (x.1 3 0 (nI i))) rfl ?_
      refine xg_iload C dX4_spills_55 rfl ?_
      refine xg_isub C dX4_spills_57 ?_
      refine xg_iast C V (f := 3) (n := 1) (N := 8) rfl (by decide) (xR_0 (by decide)) (by first | assumption | exact xin_one (by assumption) | exact xin_asks (by assumption) | exact xin_ask1 (by assumption) | exact xin_ask2 (by assumption)) dX4_spills_58 ?_
      refine xg_aload_n C dX4_spills_59 rfl ?_
      refine xg_getR C V (f := 0) qX4_spills_34 rfl rfl rfl dX4_spills_60 ?_
      refine xg_iload_n C dX4_spills_63 rfl ?_
      refine xg_dup2 C dX4_spills_64 rfl rfl ?_
      refine xg_iald C V (f := 9) (n := 1) (N := 8) rfl (by decide) (xR_0 (by decide)) (by first | assumption | exact xin_one (by assumption) | exact xin_asks (by assumption) | exact xin_ask1 (by assumption) | exact xin_ask2 (by assumption)) dX4_spills_65 (v := (x.1 9 0 (nI i))) (xu_ne (by decide)) ?_
      refine xg_iload C dX4_spills_66 rfl ?_
      refine xg_iadd C dX4_spills_68 ?_
      refine xg_iast C V (f := 9) (n := 1) (N := 8) rfl (by decide) (xR_0 (by decide)) (by first | assumption | exact xin_one (by assumption) | exact xin_asks (by assumption) | exact xin_ask1 (by assumption) | exact xin_ask2 (by assumption)) dX4_spills_69 ?_
      refine xg_iload_n C dX4_spills_70 rfl ?_
      refine xg_iload C dX4_spills_71 rfl ?_
      refine xg_iadd C dX4_spills_73 ?_
      refine xg_istore_n C dX4_spills_74 (by decide) (L' := [some (.ref (G.2.2 0 0)), some (.int (x.2 + (0 : Int32))), some (.int (nI i)), some (.int ((x.1 1 0 (nI i)) * (x.1 2 0 (nI i)))), some (.int (0 : Int32))]) rfl ?_
      refine xg_iload_n C dX4_spills_75 rfl ?_
      refine xg_bipush C dX4_spills_76 (v := (7 : Int32)) (by decide) ?_
      refine xg_icmp_ge C 94 dX4_spills_78 (by decide) (fun h3 => ?_) (fun h3 => ?_)
      · refine xg_iinc C dX4_spills_94 rfl (v := (nI (i + 1))) (xinc i) (by decide) (L' := [some (.ref (G.2.2 0 0)), some (.int (x.2 + (0 : Int32))), some (.int (nI (i + 1))), some (.int ((x.1 1 0 (nI i)) * (x.1 2 0 (nI i)))), some (.int (0 : Int32))]) rfl ?_
        refine xg_goto C 4 dX4_spills_97 (by decide) ?_
        have e : bX4_spills_4 (nI i) x = ((xu (xu x.1 3 0 (nI i) ((x.1 3 0 (nI i)) - (0 : Int32))) 9 0 (nI i) ((x.1 9 0 (nI i)) + (0 : Int32))), (x.2 + (0 : Int32))) := by first | (rw [bX4_spills_4, if_pos h2, if_pos h3]; done) | (rw [bX4_spills_4, if_pos h2, if_pos h3]; rfl)
        rw [e] at K
        try dsimp only at K
        exact xg_le K ⟨rfl, rfl, rfl, trivial⟩
      · refine xg_aload_n C dX4_spills_81 rfl ?_
        refine xg_getR C V (f := 0) qX4_spills_16 rfl rfl rfl dX4_spills_82 ?_
        refine xg_iload_n C dX4_spills_85 rfl ?_
        refine xg_iconst C dX4_spills_86 (v := (1 : Int32)) (by decide) ?_
        refine xg_iadd C dX4_spills_87 ?_
        refine xg_dup2 C dX4_spills_88 rfl rfl ?_
        refine xg_iald C V (f := 3) (n := 1) (N := 8) rfl (by decide) (xR_0 (by decide)) (by first | exact xin_a (by assumption) (by assumption) | exact xin_b (by assumption) (by assumption) | exact xin_c (by assumption) (by assumption)) dX4_spills_89 (v := ((xu x.1 3 0 (nI i) ((x.1 3 0 (nI i)) - (0 : Int32))) 3 0 ((nI i) + (1 : Int32)))) (xu_ne (by decide)) ?_
        refine xg_iload C dX4_spills_90 rfl ?_
        refine xg_iadd C dX4_spills_92 ?_
        refine xg_iast C V (f := 3) (n := 1) (N := 8) rfl (by decide) (xR_0 (by decide)) (by first | exact xin_a (by assumption) (by assumption) | exact xin_b (by assumption) (by assumption) | exact xin_c (by assumption) (by assumption)) dX4_spills_93 ?_
        refine xg_iinc C dX4_spills_94 rfl (v := (nI (i + 1))) (xinc i) (by decide) (L' := [some (.ref (G.2.2 0 0)), some (.int (x.2 + (0 : Int32))), some (.int (nI (i + 1))), some (.int ((x.1 1 0 (nI i)) * (x.1 2 0 (nI i)))), some (.int (0 : Int32))]) rfl ?_
        refine xg_goto C 4 dX4_spills_97 (by decide) ?_
        have e : bX4_spills_4 (nI i) x = ((xu (xu (xu x.1 3 0 (nI i) ((x.1 3 0 (nI i)) - (0 : Int32))) 9 0 (nI i) ((x.1 9 0 (nI i)) + (0 : Int32))) 3 0 ((nI i) + (1 : Int32)) (((xu x.1 3 0 (nI i) ((x.1 3 0 (nI i)) - (0 : Int32))) 3 0 ((nI i) + (1 : Int32))) + (0 : Int32))), (x.2 + (0 : Int32))) := by first | (rw [bX4_spills_4, if_pos h2, if_neg h3]; done) | (rw [bX4_spills_4, if_pos h2, if_neg h3]; rfl)
        rw [e] at K
        try dsimp only at K
        exact xg_le K ⟨rfl, rfl, rfl, trivial⟩
    · refine xg_aload_n C dX4_spills_34 rfl ?_
      refine xg_getR C V (f := 0) qX4_spills_16 rfl rfl rfl dX4_spills_35 ?_
      refine xg_iload_n C dX4_spills_38 rfl ?_
      refine xg_iald C V (f := 3) (n := 1) (N := 8) rfl (by decide) (xR_0 (by decide)) (by first | assumption | exact xin_one (by assumption) | exact xin_asks (by assumption) | exact xin_ask1 (by assumption) | exact xin_ask2 (by assumption)) dX4_spills_39 (v := (x.1 3 0 (nI i))) rfl ?_
      refine xg_iload_n C dX4_spills_40 rfl ?_
      refine xg_isub C dX4_spills_41 ?_
      refine xg_goto C 46 dX4_spills_42 (by decide) ?_
      refine xg_istore C dX4_spills_46 (by decide) (L' := [some (.ref (G.2.2 0 0)), some (.int x.2), some (.int (nI i)), some (.int ((x.1 1 0 (nI i)) * (x.1 2 0 (nI i)))), some (.int ((x.1 3 0 (nI i)) - ((x.1 1 0 (nI i)) * (x.1 2 0 (nI i)))))]) rfl ?_
      refine xg_aload_n C dX4_spills_48 rfl ?_
      refine xg_getR C V (f := 0) qX4_spills_16 rfl rfl rfl dX4_spills_49 ?_
      refine xg_iload_n C dX4_spills_52 rfl ?_
      refine xg_dup2 C dX4_spills_53 rfl rfl ?_
      refine xg_iald C V (f := 3) (n := 1) (N := 8) rfl (by decide) (xR_0 (by decide)) (by first | assumption | exact xin_one (by assumption) | exact xin_asks (by assumption) | exact xin_ask1 (by assumption) | exact xin_ask2 (by assumption)) dX4_spills_54 (v := (x.1 3 0 (nI i))) rfl ?_
      refine xg_iload C dX4_spills_55 rfl ?_
      refine xg_isub C dX4_spills_57 ?_
      refine xg_iast C V (f := 3) (n := 1) (N := 8) rfl (by decide) (xR_0 (by decide)) (by first | assumption | exact xin_one (by assumption) | exact xin_asks (by assumption) | exact xin_ask1 (by assumption) | exact xin_ask2 (by assumption)) dX4_spills_58 ?_
      refine xg_aload_n C dX4_spills_59 rfl ?_
      refine xg_getR C V (f := 0) qX4_spills_34 rfl rfl rfl dX4_spills_60 ?_
      refine xg_iload_n C dX4_spills_63 rfl ?_
      refine xg_dup2 C dX4_spills_64 rfl rfl ?_
      refine xg_iald C V (f := 9) (n := 1) (N := 8) rfl (by decide) (xR_0 (by decide)) (by first | assumption | exact xin_one (by assumption) | exact xin_asks (by assumption) | exact xin_ask1 (by assumption) | exact xin_ask2 (by assumption)) dX4_spills_65 (v := (x.1 9 0 (nI i))) (xu_ne (by decide)) ?_
      refine xg_iload C dX4_spills_66 rfl ?_
      refine xg_iadd C dX4_spills_68 ?_
      refine xg_iast C V (f := 9) (n := 1) (N := 8) rfl (by decide) (xR_0 (by decide)) (by first | assumption | exact xin_one (by assumption) | exact xin_asks (by assumption) | exact xin_ask1 (by assumption) | exact xin_ask2 (by assumption)) dX4_spills_69 ?_
      refine xg_iload_n C dX4_spills_70 rfl ?_
      refine xg_iload C dX4_spills_71 rfl ?_
      refine xg_iadd C dX4_spills_73 ?_
      refine xg_istore_n C dX4_spills_74 (by decide) (L' := [some (.ref (G.2.2 0 0)), some (.int (x.2 + ((x.1 3 0 (nI i)) - ((x.1 1 0 (nI i)) * (x.1 2 0 (nI i)))))), some (.int (nI i)), some (.int ((x.1 1 0 (nI i)) * (x.1 2 0 (nI i)))), some (.int ((x.1 3 0 (nI i)) - ((x.1 1 0 (nI i)) * (x.1 2 0 (nI i)))))]) rfl ?_
      refine xg_iload_n C dX4_spills_75 rfl ?_
      refine xg_bipush C dX4_spills_76 (v := (7 : Int32)) (by decide) ?_
      refine xg_icmp_ge C 94 dX4_spills_78 (by decide) (fun h4 => ?_) (fun h4 => ?_)
      · refine xg_iinc C dX4_spills_94 rfl (v := (nI (i + 1))) (xinc i) (by decide) (L' := [some (.ref (G.2.2 0 0)), some (.int (x.2 + ((x.1 3 0 (nI i)) - ((x.1 1 0 (nI i)) * (x.1 2 0 (nI i)))))), some (.int (nI (i + 1))), some (.int ((x.1 1 0 (nI i)) * (x.1 2 0 (nI i)))), some (.int ((x.1 3 0 (nI i)) - ((x.1 1 0 (nI i)) * (x.1 2 0 (nI i)))))]) rfl ?_
        refine xg_goto C 4 dX4_spills_97 (by decide) ?_
        have e : bX4_spills_4 (nI i) x = ((xu (xu x.1 3 0 (nI i) ((x.1 3 0 (nI i)) - ((x.1 3 0 (nI i)) - ((x.1 1 0 (nI i)) * (x.1 2 0 (nI i)))))) 9 0 (nI i) ((x.1 9 0 (nI i)) + ((x.1 3 0 (nI i)) - ((x.1 1 0 (nI i)) * (x.1 2 0 (nI i)))))), (x.2 + ((x.1 3 0 (nI i)) - ((x.1 1 0 (nI i)) * (x.1 2 0 (nI i)))))) := by first | (rw [bX4_spills_4, if_neg h2, if_pos h4]; done) | (rw [bX4_spills_4, if_neg h2, if_pos h4]; rfl)
        rw [e] at K
        try dsimp only at K
        exact xg_le K ⟨rfl, rfl, rfl, trivial⟩
      · refine xg_aload_n C dX4_spills_81 rfl ?_
        refine xg_getR C V (f := 0) qX4_spills_16 rfl rfl rfl dX4_spills_82 ?_
        refine xg_iload_n C dX4_spills_85 rfl ?_
        refine xg_iconst C dX4_spills_86 (v := (1 : Int32)) (by decide) ?_
        refine xg_iadd C dX4_spills_87 ?_
        refine xg_dup2 C dX4_spills_88 rfl rfl ?_
        refine xg_iald C V (f := 3) (n := 1) (N := 8) rfl (by decide) (xR_0 (by decide)) (by first | exact xin_a (by assumption) (by assumption) | exact xin_b (by assumption) (by assumption) | exact xin_c (by assumption) (by assumption)) dX4_spills_89 (v := ((xu x.1 3 0 (nI i) ((x.1 3 0 (nI i)) - ((x.1 3 0 (nI i)) - ((x.1 1 0 (nI i)) * (x.1 2 0 (nI i)))))) 3 0 ((nI i) + (1 : Int32)))) (xu_ne (by decide)) ?_
        refine xg_iload C dX4_spills_90 rfl ?_
        refine xg_iadd C dX4_spills_92 ?_
        refine xg_iast C V (f := 3) (n := 1) (N := 8) rfl (by decide) (xR_0 (by decide)) (by first | exact xin_a (by assumption) (by assumption) | exact xin_b (by assumption) (by assumption) | exact xin_c (by assumption) (by assumption)) dX4_spills_93 ?_
        refine xg_iinc C dX4_spills_94 rfl (v := (nI (i + 1))) (xinc i) (by decide) (L' := [some (.ref (G.2.2 0 0)), some (.int (x.2 + ((x.1 3 0 (nI i)) - ((x.1 1 0 (nI i)) * (x.1 2 0 (nI i)))))), some (.int (nI (i + 1))), some (.int ((x.1 1 0 (nI i)) * (x.1 2 0 (nI i)))), some (.int ((x.1 3 0 (nI i)) - ((x.1 1 0 (nI i)) * (x.1 2 0 (nI i)))))]) rfl ?_
        refine xg_goto C 4 dX4_spills_97 (by decide) ?_
        have e : bX4_spills_4 (nI i) x = ((xu (xu (xu x.1 3 0 (nI i) ((x.1 3 0 (nI i)) - ((x.1 3 0 (nI i)) - ((x.1 1 0 (nI i)) * (x.1 2 0 (nI i)))))) 9 0 (nI i) ((x.1 9 0 (nI i)) + ((x.1 3 0 (nI i)) - ((x.1 1 0 (nI i)) * (x.1 2 0 (nI i)))))) 3 0 ((nI i) + (1 : Int32)) (((xu x.1 3 0 (nI i) ((x.1 3 0 (nI i)) - ((x.1 3 0 (nI i)) - ((x.1 1 0 (nI i)) * (x.1 2 0 (nI i)))))) 3 0 ((nI i) + (1 : Int32))) + ((x.1 3 0 (nI i)) - ((x.1 1 0 (nI i)) * (x.1 2 0 (nI i)))))), (x.2 + ((x.1 3 0 (nI i)) - ((x.1 1 0 (nI i)) * (x.1 2 0 (nI i)))))) := by first | (rw [bX4_spills_4, if_neg h2, if_neg h4]; done) | (rw [bX4_spills_4, if_neg h2, if_neg h4]; rfl)
        rw [e] at K
        try dsimp only at K
        exact xg_le K ⟨rfl, rfl, rfl, trivial⟩
  · show xg F 0 0 4 [some (.ref (G.2.2 0 0)), some (.int (xfold bX4_spills_4 8 (S, (0 : Int32))).2), some (.int (nI 8)), none, none] [] (xP xYm G (xfold bX4_spills_4 8 (S, (0 : Int32))).1)
    refine xg_iload_n C dX4_spills_4 rfl ?_
    refine xg_bipush C dX4_spills_5 (v := (8 : Int32)) (by decide) ?_
    refine xg_icmp_ge C 100 dX4_spills_7 (by decide) (fun h5 => ?_) (fun h5 => absurd (nI_le (Nat.le_refl _) (by decide)) h5)
    refine xg_iload_n C dX4_spills_100 rfl ?_
    have e : (fX4_spills S) = ((xfold bX4_spills_4 8 (S, (0 : Int32))).1, (xfold bX4_spills_4 8 (S, (0 : Int32))).2) := rfl
    exact xret_i E dX4_spills_101 (xsnd e) (xfst e)
theorem xk_X4_spills {S : xS} : (fX4_spills S).1 1 = S 1 := by
  unfold fX4_spills
  rw [xfold_keep2 1 _ _ _ (fun i x => by unfold bX4_spills_4; (repeat' split) <;> simp [xu])]
theorem iX4_measures_X4 : ∀ w ∈ wsX40, w ∈ wsX4_measures := by decide +kernel
theorem qX4_measures_56 : xFr wsX4_measures RX4 56 RX4 TX4 30 16 := ⟨iX4_measures_X4, List.mem_of_getElem? (i := 1) rfl, by decide⟩
theorem qX4_measures_68 : xFr wsX4_measures RX4 68 RX4 TX4 30 20 := ⟨iX4_measures_X4, List.mem_of_getElem? (i := 2) rfl, by decide⟩
theorem qX4_measures_62 : xFr wsX4_measures RX4 62 RX4 TX4 30 18 := ⟨iX4_measures_X4, List.mem_of_getElem? (i := 3) rfl, by decide⟩
theorem qX4_measures_65 : xFr wsX4_measures RX4 65 RX4 TX4 30 19 := ⟨iX4_measures_X4, List.mem_of_getElem? (i := 4) rfl, by decide⟩
theorem qX4_measures_71 : xFr wsX4_measures RX4 71 RX4 TX4 30 21 := ⟨iX4_measures_X4, List.mem_of_getElem? (i := 5) rfl, by decide⟩
theorem qX4_measures_118 : xFr wsX4_measures RX4 118 RX4 TX4 30 28 := ⟨iX4_measures_X4, List.mem_of_getElem? (i := 6) rfl, by decide⟩
theorem qX4_measures_74 : xFr wsX4_measures RX4 74 RX4 TX4 30 22 := ⟨iX4_measures_X4, List.mem_of_getElem? (i := 7) rfl, by decide⟩
theorem qX4_measures_77 : xFr wsX4_measures RX4 77 RX4 TX4 30 23 := ⟨iX4_measures_X4, List.mem_of_getElem? (i := 8) rfl, by decide⟩
def bX4_measures_2  (i : Int32) (x : xS) : xS :=
  if (x 16 0 i) = (0 : Int32) then
    if (x 18 0 i) = (0 : Int32) then
      (xu (xu (xu (xu (xu x 20 0 (fX4_at i i) (fX4_levelOf i x)) 19 0 (fX4_at i i) ((x 19 0 (fX4_at i i)) + (1 : Int32))) 21 0 (fX4_at i i) (x 0 0 (nI 28))) 22 0 (fX4_at i i) ((x 22 0 (fX4_at i i)) + (1 : Int32))) 23 0 (fX4_at i i) (x 0 0 (nI 28)))
    else
      (xu (xu (xu (xu (xu x 20 0 (fX4_at i i) (x 20 0 (fX4_at i i))) 19 0 (fX4_at i i) ((x 19 0 (fX4_at i i)) + (1 : Int32))) 21 0 (fX4_at i i) (x 0 0 (nI 28))) 22 0 (fX4_at i i) ((x 22 0 (fX4_at i i)) + (1 : Int32))) 23 0 (fX4_at i i) (x 0 0 (nI 28)))
  else
    x
def fX4_measures  (S : xS) : xS :=
  (xfold bX4_measures_2 8 S)
theorem hdX4_measures : yX4_measures.cls = RX4 ∧ yX4_measures.cls ≠ "java/lang/invoke/MethodHandle" ∧ yX4_measures.cls ≠ "java/lang/invoke/VarHandle" ∧ (parseMethodDescriptor yX4_measures.desc).map (fun d => d.parameters.length) = some 0 := by decide +kernel
set_option maxRecDepth 100000 in
set_option maxHeartbeats 4000000 in
theorem kX4_measures (l : Launch) {G : xG} (hap : xAp xYm G)  (S : xS) (hA : ∀ r, vp_in r 8 → ¬ S 1 0 r = (0 : Int32)) : xMv l xYm G yX4_measures wsX4_measures 1 21 [.ref (G.2.2 0 0)] S (fX4_measures S) := by
  refine xMv_of (cc := cX4_measures) (maxL := 3) (own := RX4) [some (.ref (G.2.2 0 0)), none, none] pnX4 rfl rfl (xcat1 rfl) (Nat.le_of_ble_eq_true rfl) rfl hap (fun F C V E => ?_)
  refine xg_iconst C dX4_measures_0 (v := (0 : Int32)) (by decide) ?_
  refine xg_istore_n C dX4_measures_1 (by decide) (L' := [some (.ref (G.2.2 0 0)), some (.int (0 : Int32)), none]) rfl ?_
  refine xloopI (fun (ii : Int32) (x : xS) => xg F 0 0 2 [some (.ref (G.2.2 0 0)), some (.int ii), none] [] (xP xYm G x)) bX4_measures_2 8 S (fun _ (x : xS) => x 1 = S 1) rfl (fun i hi x h => by unfold bX4_measures_2; (repeat' split) <;> first | exact h | (simp only [xu_nf (show (1 : Nat) ≠ 19 by decide), xu_nf (show (1 : Nat) ≠ 20 by decide), xu_nf (show (1 : Nat) ≠ 21 by decide), xu_nf (show (1 : Nat) ≠ 22 by decide), xu_nf (show (1 : Nat) ≠ 23 by decide)]; exact h)) (fun i hi x hJ K => ?_) (fun hJ => ?_)
  · have hi8 : vp_in (nI i) 8 := vp_in_nI hi (by decide)
    have hJ2 : x 1 = S 1 := hJ
    show xg F 0 0 2 [some (.ref (G.2.2 0 0)), some (.int (nI i)), none] [] (xP xYm G x)
    refine xg_iload_n C dX4_measures_2 rfl ?_
    refine xg_bipush C dX4_measures_3 (v := (8 : Int32)) (by decide) ?_
    refine xg_icmp_ge C 98 dX4_measures_5 (by decide) (fun h1 => absurd h1 (nI_ge hi (by decide))) (fun h1 => ?_)
    refine xg_aload_n C dX4_measures_8 rfl ?_
    refine xg_getR C V (f := 0) qX4_measures_56 rfl rfl rfl dX4_measures_9 ?_
    refine xg_iload_n C dX4_measures_12 rfl ?_
    refine xg_zald C V (f := 16) (n := 1) (N := 8) rfl (by decide) (xR_0 (by decide)) (by first | assumption | exact xin_one (by assumption) | exact xin_asks (by assumption) | exact xin_ask1 (by assumption) | exact xin_ask2 (by assumption)) dX4_measures_13 (v := (x 16 0 (nI i))) rfl ?_
    refine xg_if_ne C 92 dX4_measures_14 (by decide) (fun h2 => ?_) (fun h2 => ?_)
    · refine xg_iinc C dX4_measures_92 rfl (v := (nI (i + 1))) (xinc i) (by decide) (L' := [some (.ref (G.2.2 0 0)), some (.int (nI (i + 1))), none]) rfl ?_
      refine xg_goto C 2 dX4_measures_95 (by decide) ?_
      have e : bX4_measures_2 (nI i) x = x := by first | (rw [bX4_measures_2, if_neg h2]; done) | (rw [bX4_measures_2, if_neg h2]; rfl)
      rw [e] at K
      exact xg_le K ⟨rfl, rfl, trivial⟩
    · refine xg_iload_n C dX4_measures_17 rfl ?_
      refine xg_iload_n C dX4_measures_18 rfl ?_
      refine xg_callSi C V (as := [.int (nI i), .int (nI i)]) (r := (fX4_at (nI i) (nI i))) (fun l => kX4_at l hap (nI i) (nI i) x) gX4_measures_X4_at rfl hdX4_at ⟨by decide, by decide⟩ rfl rfl (Nat.le_of_ble_eq_true rfl) ⟨Nat.zero_le _, Nat.zero_le _⟩ dX4_measures_19 ?_
      refine xg_istore_n C dX4_measures_22 (by decide) (L' := [some (.ref (G.2.2 0 0)), some (.int (nI i)), some (.int (fX4_at (nI i) (nI i)))]) rfl ?_
      refine xg_aload_n C dX4_measures_23 rfl ?_
      refine xg_getR C V (f := 0) qX4_measures_68 rfl rfl rfl dX4_measures_24 ?_
      refine xg_iload_n C dX4_measures_27 rfl ?_
      refine xg_aload_n C dX4_measures_28 rfl ?_
      refine xg_getR C V (f := 0) qX4_measures_62 rfl rfl rfl dX4_measures_29 ?_
      refine xg_iload_n C dX4_measures_32 rfl ?_
      refine xg_zald C V (f := 18) (n := 1) (N := 8) rfl (by decide) (xR_0 (by decide)) (by first | assumption | exact xin_one (by assumption) | exact xin_asks (by assumption) | exact xin_ask1 (by assumption) | exact xin_ask2 (by assumption)) dX4_measures_33 (v := (x 18 0 (nI i))) rfl ?_
      refine xg_if_eq C 46 dX4_measures_34 (by decide) (fun h3 => ?_) (fun h3 => ?_)
      · refine xg_aload_n C dX4_measures_46 rfl ?_
        refine xg_iload_n C dX4_measures_47 rfl ?_
        refine xg_callVi C V (f := 0) (As := [.int (nI i)]) (r := (fX4_levelOf (nI i) x)) (fun l => kX4_levelOf l hap (nI i) x (by first | assumption | exact xin_one (by assumption) | exact xin_asks (by assumption) | exact xin_ask1 (by assumption) | exact xin_ask2 (by assumption)) (by rw [hJ2]; exact hA _ hi8)) gX4_measures_X4_levelOf rfl hdX4_levelOf ⟨by decide, by decide⟩ rfl rfl rfl rfl rfl (Nat.le_of_ble_eq_true rfl) ⟨Nat.zero_le _, Nat.zero_le _⟩ dX4_measures_48 ?_
        refine xg_iast C V (f := 20) (n := 1) (N := 64) rfl (by decide) (xR_0 (by decide)) (xin_at (by first | assumption | exact xin_one (by assumption) | exact xin_asks (by assumption) | exact xin_ask1 (by assumption) | exact xin_ask2 (by assumption)) (by first | assumption | exact xin_one (by assumption) | exact xin_asks (by assumption) | exact xin_ask1 (by assumption) | exact xin_ask2 (by assumption))) dX4_measures_51 ?_
        refine xg_aload_n C dX4_measures_52 rfl ?_
        refine xg_getR C V (f := 0) qX4_measures_65 rfl rfl rfl dX4_measures_53 ?_
        refine xg_iload_n C dX4_measures_56 rfl ?_
        refine xg_dup2 C dX4_measures_57 rfl rfl ?_
        refine xg_iald C V (f := 19) (n := 1) (N := 64) rfl (by decide) (xR_0 (by decide)) (xin_at (by first | assumption | exact xin_one (by assumption) | exact xin_asks (by assumption) | exact xin_ask1 (by assumption) | exact xin_ask2 (by assumption)) (by first | assumption | exact xin_one (by assumption) | exact xin_asks (by assumption) | exact xin_ask1 (by assumption) | exact xin_ask2 (by assumption))) dX4_measures_58 (v := (x 19 0 (fX4_at (nI i) (nI i)))) (xu_ne (by decide)) ?_
        refine xg_iconst C dX4_measures_59 (v := (1 : Int32)) (by decide) ?_
        refine xg_iadd C dX4_measures_60 ?_
        refine xg_iast C V (f := 19) (n := 1) (N := 64) rfl (by decide) (xR_0 (by decide)) (xin_at (by first | assumption | exact xin_one (by assumption) | exact xin_asks (by assumption) | exact xin_ask1 (by assumption) | exact xin_ask2 (by assumption)) (by first | assumption | exact xin_one (by assumption) | exact xin_asks (by assumption) | exact xin_ask1 (by assumption) | exact xin_ask2 (by assumption))) dX4_measures_61 ?_
        refine xg_aload_n C dX4_measures_62 rfl ?_
        refine xg_getR C V (f := 0) qX4_measures_71 rfl rfl rfl dX4_measures_63 ?_
        refine xg_iload_n C dX4_measures_66 rfl ?_
        refine xg_aload_n C dX4_measures_67 rfl ?_
        refine xg_getI C V (f := 0) qX4_measures_118 rfl rfl rfl dX4_measures_68 (v := (x 0 0 (nI 28))) ((xu_ne (by decide)).trans (xu_ne (by decide))) ?_
        refine xg_iast C V (f := 21) (n := 1) (N := 64) rfl (by decide) (xR_0 (by decide)) (xin_at (by first | assumption | exact xin_one (by assumption) | exact xin_asks (by assumption) | exact xin_ask1 (by assumption) | exact xin_ask2 (by assumption)) (by first | assumption | exact xin_one (by assumption) | exact xin_asks (by assumption) | exact xin_ask1 (by assumption) | exact xin_ask2 (by assumption))) dX4_measures_71 ?_
        refine xg_aload_n C dX4_measures_72 rfl ?_
        refine xg_getR C V (f := 0) qX4_measures_74 rfl rfl rfl dX4_measures_73 ?_
        refine xg_iload_n C dX4_measures_76 rfl ?_
        refine xg_dup2 C dX4_measures_77 rfl rfl ?_
        refine xg_iald C V (f := 22) (n := 1) (N := 64) rfl (by decide) (xR_0 (by decide)) (xin_at (by first | assumption | exact xin_one (by assumption) | exact xin_asks (by assumption) | exact xin_ask1 (by assumption) | exact xin_ask2 (by assumption)) (by first | assumption | exact xin_one (by assumption) | exact xin_asks (by assumption) | exact xin_ask1 (by assumption) | exact xin_ask2 (by assumption))) dX4_measures_78 (v := (x 22 0 (fX4_at (nI i) (nI i)))) (((xu_ne (by decide)).trans (xu_ne (by decide))).trans (xu_ne (by decide))) ?_
        refine xg_iconst C dX4_measures_79 (v := (1 : Int32)) (by decide) ?_
        refine xg_iadd C dX4_measures_80 ?_
        refine xg_iast C V (f := 22) (n := 1) (N := 64) rfl (by decide) (xR_0 (by decide)) (xin_at (by first | assumption | exact xin_one (by assumption) | exact xin_asks (by assumption) | exact xin_ask1 (by assumption) | exact xin_ask2 (by assumption)) (by first | assumption | exact xin_one (by assumption) | exact xin_asks (by assumption) | exact xin_ask1 (by assumption) | exact xin_ask2 (by assumption))) dX4_measures_81 ?_
        refine xg_aload_n C dX4_measures_82 rfl ?_
        refine xg_getR C V (f := 0) qX4_measures_77 rfl rfl rfl dX4_measures_83 ?_
        refine xg_iload_n C dX4_measures_86 rfl ?_
        refine xg_aload_n C dX4_measures_87 rfl ?_
        refine xg_getI C V (f := 0) qX4_measures_118 rfl rfl rfl dX4_measures_88 (v := (x 0 0 (nI 28))) ((((xu_ne (by decide)).trans (xu_ne (by decide))).trans (xu_ne (by decide))).trans (xu_ne (by decide))) ?_
        refine xg_iast C V (f := 23) (n := 1) (N := 64) rfl (by decide) (xR_0 (by decide)) (xin_at (by first | assumption | exact xin_one (by assumption) | exact xin_asks (by assumption) | exact xin_ask1 (by assumption) | exact xin_ask2 (by assumption)) (by first | assumption | exact xin_one (by assumption) | exact xin_asks (by assumption) | exact xin_ask1 (by assumption) | exact xin_ask2 (by assumption))) dX4_measures_91 ?_
        refine xg_iinc C dX4_measures_92 rfl (v := (nI (i + 1))) (xinc i) (by decide) (L' := [some (.ref (G.2.2 0 0)), some (.int (nI (i + 1))), some (.int (fX4_at (nI i) (nI i)))]) rfl ?_
        refine xg_goto C 2 dX4_measures_95 (by decide) ?_
        have e : bX4_measures_2 (nI i) x = (xu (xu (xu (xu (xu x 20 0 (fX4_at (nI i) (nI i)) (fX4_levelOf (nI i) x)) 19 0 (fX4_at (nI i) (nI i)) ((x 19 0 (fX4_at (nI i) (nI i))) + (1 : Int32))) 21 0 (fX4_at (nI i) (nI i)) (x 0 0 (nI 28))) 22 0 (fX4_at (nI i) (nI i)) ((x 22 0 (fX4_at (nI i) (nI i))) + (1 : Int32))) 23 0 (fX4_at (nI i) (nI i)) (x 0 0 (nI 28))) := by first | (rw [bX4_measures_2, if_pos h2, if_pos h3]; done) | (rw [bX4_measures_2, if_pos h2, if_pos h3]; rfl)
        rw [e] at K
        exact xg_le K ⟨rfl, rfl, trivial⟩
      · refine xg_aload_n C dX4_measures_37 rfl ?_
        refine xg_getR C V (f := 0) qX4_measures_68 rfl rfl rfl dX4_measures_38 ?_
        refine xg_iload_n C dX4_measures_41 rfl ?_
        refine xg_iald C V (f := 20) (n := 1) (N := 64) rfl (by decide) (xR_0 (by decide)) (xin_at (by first | assumption | exact xin_one (by assumption) | exact xin_asks (by assumption) | exact xin_ask1 (by assumption) | exact xin_ask2 (by assumption)) (by first | assumption | exact xin_one (by assumption) | exact xin_asks (by assumption) | exact xin_ask1 (by assumption) | exact xin_ask2 (by assumption))) dX4_measures_42 (v := (x 20 0 (fX4_at (nI i) (nI i)))) rfl ?_
        refine xg_goto C 51 dX4_measures_43 (by decide) ?_
        refine xg_iast C V (f := 20) (n := 1) (N := 64) rfl (by decide) (xR_0 (by decide)) (xin_at (by first | assumption | exact xin_one (by assumption) | exact xin_asks (by assumption) | exact xin_ask1 (by assumption) | exact xin_ask2 (by assumption)) (by first | assumption | exact xin_one (by assumption) | exact xin_asks (by assumption) | exact xin_ask1 (by assumption) | exact xin_ask2 (by assumption))) dX4_measures_51 ?_
        refine xg_aload_n C dX4_measures_52 rfl ?_
        refine xg_getR C V (f := 0) qX4_measures_65 rfl rfl rfl dX4_measures_53 ?_
        refine xg_iload_n C dX4_measures_56 rfl ?_
        refine xg_dup2 C dX4_measures_57 rfl rfl ?_
        refine xg_iald C V (f := 19) (n := 1) (N := 64) rfl (by decide) (xR_0 (by decide)) (xin_at (by first | assumption | exact xin_one (by assumption) | exact xin_asks (by assumption) | exact xin_ask1 (by assumption) | exact xin_ask2 (by assumption)) (by first | assumption | exact xin_one (by assumption) | exact xin_asks (by assumption) | exact xin_ask1 (by assumption) | exact xin_ask2 (by assumption))) dX4_measures_58 (v := (x 19 0 (fX4_at (nI i) (nI i)))) (xu_ne (by decide)) ?_
        refine xg_iconst C dX4_measures_59 (v := (1 : Int32)) (by decide) ?_
        refine xg_iadd C dX4_measures_60 ?_
        refine xg_iast C V (f := 19) (n := 1) (N := 64) rfl (by decide) (xR_0 (by decide)) (xin_at (by first | assumption | exact xin_one (by assumption) | exact xin_asks (by assumption) | exact xin_ask1 (by assumption) | exact xin_ask2 (by assumption)) (by first | assumption | exact xin_one (by assumption) | exact xin_asks (by assumption) | exact xin_ask1 (by assumption) | exact xin_ask2 (by assumption))) dX4_measures_61 ?_
        refine xg_aload_n C dX4_measures_62 rfl ?_
        refine xg_getR C V (f := 0) qX4_measures_71 rfl rfl rfl dX4_measures_63 ?_
        refine xg_iload_n C dX4_measures_66 rfl ?_
        refine xg_aload_n C dX4_measures_67 rfl ?_
        refine xg_getI C V (f := 0) qX4_measures_118 rfl rfl rfl dX4_measures_68 (v := (x 0 0 (nI 28))) ((xu_ne (by decide)).trans (xu_ne (by decide))) ?_
        refine xg_iast C V (f := 21) (n := 1) (N := 64) rfl (by decide) (xR_0 (by decide)) (xin_at (by first | assumption | exact xin_one (by assumption) | exact xin_asks (by assumption) | exact xin_ask1 (by assumption) | exact xin_ask2 (by assumption)) (by first | assumption | exact xin_one (by assumption) | exact xin_asks (by assumption) | exact xin_ask1 (by assumption) | exact xin_ask2 (by assumption))) dX4_measures_71 ?_
        refine xg_aload_n C dX4_measures_72 rfl ?_
        refine xg_getR C V (f := 0) qX4_measures_74 rfl rfl rfl dX4_measures_73 ?_
        refine xg_iload_n C dX4_measures_76 rfl ?_
        refine xg_dup2 C dX4_measures_77 rfl rfl ?_
        refine xg_iald C V (f := 22) (n := 1) (N := 64) rfl (by decide) (xR_0 (by decide)) (xin_at (by first | assumption | exact xin_one (by assumption) | exact xin_asks (by assumption) | exact xin_ask1 (by assumption) | exact xin_ask2 (by assumption)) (by first | assumption | exact xin_one (by assumption) | exact xin_asks (by assumption) | exact xin_ask1 (by assumption) | exact xin_ask2 (by assumption))) dX4_measures_78 (v := (x 22 0 (fX4_at (nI i) (nI i)))) (((xu_ne (by decide)).trans (xu_ne (by decide))).trans (xu_ne (by decide))) ?_
        refine xg_iconst C dX4_measures_79 (v := (1 : Int32)) (by decide) ?_
        refine xg_iadd C dX4_measures_80 ?_
        refine xg_iast C V (f := 22) (n := 1) (N := 64) rfl (by decide) (xR_0 (by decide)) (xin_at (by first | assumption | exact xin_one (by assumption) | exact xin_asks (by assumption) | exact xin_ask1 (by assumption) | exact xin_ask2 (by assumption)) (by first | assumption | exact xin_one (by assumption) | exact xin_asks (by assumption) | exact xin_ask1 (by assumption) | exact xin_ask2 (by assumption))) dX4_measures_81 ?_
        refine xg_aload_n C dX4_measures_82 rfl ?_
        refine xg_getR C V (f := 0) qX4_measures_77 rfl rfl rfl dX4_measures_83 ?_
        refine xg_iload_n C dX4_measures_86 rfl ?_
        refine xg_aload_n C dX4_measures_87 rfl ?_
        refine xg_getI C V (f := 0) qX4_measures_118 rfl rfl rfl dX4_measures_88 (v := (x 0 0 (nI 28))) ((((xu_ne (by decide)).trans (xu_ne (by decide))).trans (xu_ne (by decide))).trans (xu_ne (by decide))) ?_
        refine xg_iast C V (f := 23) (n := 1) (N := 64) rfl (by decide) (xR_0 (by decide)) (xin_at (by first | assumption | exact xin_one (by assumption) | exact xin_asks (by assumption) | exact xin_ask1 (by assumption) | exact xin_ask2 (by assumption)) (by first | assumption | exact xin_one (by assumption) | exact xin_asks (by assumption) | exact xin_ask1 (by assumption) | exact xin_ask2 (by assumption))) dX4_measures_91 ?_
        refine xg_iinc C dX4_measures_92 rfl (v := (nI (i + 1))) (xinc i) (by decide) (L' := [some (.ref (G.2.2 0 0)), some (.int (nI (i + 1))), some (.int (fX4_at (nI i) (nI i)))]) rfl ?_
        refine xg_goto C 2 dX4_measures_95 (by decide) ?_
        have e : bX4_measures_2 (nI i) x = (xu (xu (xu (xu (xu x 20 0 (fX4_at (nI i) (nI i)) (x 20 0 (fX4_at (nI i) (nI i)))) 19 0 (fX4_at (nI i) (nI i)) ((x 19 0 (fX4_at (nI i) (nI i))) + (1 : Int32))) 21 0 (fX4_at (nI i) (nI i)) (x 0 0 (nI 28))) 22 0 (fX4_at (nI i) (nI i)) ((x 22 0 (fX4_at (nI i) (nI i))) + (1 : Int32))) 23 0 (fX4_at (nI i) (nI i)) (x 0 0 (nI 28))) := by first | (rw [bX4_measures_2, if_pos h2, if_neg h3]; done) | (rw [bX4_measures_2, if_pos h2, if_neg h3]; rfl)
        rw [e] at K
        exact xg_le K ⟨rfl, rfl, trivial⟩
  · show xg F 0 0 2 [some (.ref (G.2.2 0 0)), some (.int (nI 8)), none] [] (xP xYm G (xfold bX4_measures_2 8 S))
    refine xg_iload_n C dX4_measures_2 rfl ?_
    refine xg_bipush C dX4_measures_3 (v := (8 : Int32)) (by decide) ?_
    refine xg_icmp_ge C 98 dX4_measures_5 (by decide) (fun h4 => ?_) (fun h4 => absurd (nI_le (Nat.le_refl _) (by decide)) h4)
    exact xret_v E dX4_measures_98 (rfl)
theorem xk_X4_measures {S : xS} : fX4_measures S 1 = S 1 := by
  unfold fX4_measures
  rw [xfold_keep 1 _ _ _ (fun i x => by unfold bX4_measures_2; (repeat' split) <;> simp [xu])]
theorem iX4_takes_X4 : ∀ w ∈ wsX40, w ∈ wsX4_takes := by decide +kernel
theorem qX4_takes_65 : xFr wsX4_takes RX4 65 RX4 TX4 30 19 := ⟨iX4_takes_X4, List.mem_of_getElem? (i := 1) rfl, by decide⟩
theorem qX4_takes_74 : xFr wsX4_takes RX4 74 RX4 TX4 30 22 := ⟨iX4_takes_X4, List.mem_of_getElem? (i := 4) rfl, by decide⟩
theorem qX4_takes_77 : xFr wsX4_takes RX4 77 RX4 TX4 30 23 := ⟨iX4_takes_X4, List.mem_of_getElem? (i := 5) rfl, by decide⟩
theorem qX4_takes_118 : xFr wsX4_takes RX4 118 RX4 TX4 30 28 := ⟨iX4_takes_X4, List.mem_of_getElem? (i := 6) rfl, by decide⟩
theorem qX4_takes_80 : xFr wsX4_takes RX4 80 RX4 TX4 30 24 := ⟨iX4_takes_X4, List.mem_of_getElem? (i := 7) rfl, by decide⟩
theorem qX4_takes_68 : xFr wsX4_takes RX4 68 RX4 TX4 30 20 := ⟨iX4_takes_X4, List.mem_of_getElem? (i := 2) rfl, by decide⟩
theorem qX4_takes_71 : xFr wsX4_takes RX4 71 RX4 TX4 30 21 := ⟨iX4_takes_X4, List.mem_of_getElem? (i := 3) rfl, by decide⟩
def bX4_takes_2 (a1 : Int32) (a2 : Int32) (i : Int32) (x : xS) : xS :=
  if (x 19 0 (fX4_at a2 i)) ≤ (x 19 0 (fX4_at a1 i)) then
    if (x 22 0 (fX4_at a2 i)) ≤ (x 22 0 (fX4_at a1 i)) then
      x
    else
      (xu (xu (xu x 22 0 (fX4_at a1 i) (x 22 0 (fX4_at a2 i))) 23 0 (fX4_at a1 i) (x 0 0 (nI 28))) 24 0 (fX4_at a1 i) (0 : Int32))
  else
    if (x 22 0 (fX4_at a2 i)) ≤ (x 22 0 (fX4_at a1 i)) then
      (xu (xu (xu x 19 0 (fX4_at a1 i) (x 19 0 (fX4_at a2 i))) 20 0 (fX4_at a1 i) (x 20 0 (fX4_at a2 i))) 21 0 (fX4_at a1 i) (x 21 0 (fX4_at a2 i)))
    else
      (xu (xu (xu (xu (xu (xu x 19 0 (fX4_at a1 i) (x 19 0 (fX4_at a2 i))) 20 0 (fX4_at a1 i) (x 20 0 (fX4_at a2 i))) 21 0 (fX4_at a1 i) (x 21 0 (fX4_at a2 i))) 22 0 (fX4_at a1 i) (x 22 0 (fX4_at a2 i))) 23 0 (fX4_at a1 i) (x 0 0 (nI 28))) 24 0 (fX4_at a1 i) (0 : Int32))
def fX4_takes (a1 : Int32) (a2 : Int32) (S : xS) : xS :=
  (xfold (bX4_takes_2 a1 a2) 8 S)
theorem hdX4_takes : yX4_takes.cls = RX4 ∧ yX4_takes.cls ≠ "java/lang/invoke/MethodHandle" ∧ yX4_takes.cls ≠ "java/lang/invoke/VarHandle" ∧ (parseMethodDescriptor yX4_takes.desc).map (fun d => d.parameters.length) = some 2 := by decide +kernel
set_option maxRecDepth 100000 in
set_option maxHeartbeats 4000000 in
theorem kX4_takes (l : Launch) {G : xG} (hap : xAp xYm G) (a1 : Int32) (a2 : Int32) (S : xS) (g_a1 : vp_in a1 8) (g_a2 : vp_in a2 8) : xMv l xYm G yX4_takes wsX4_takes 1 21 [.ref (G.2.2 0 0), .int a1, .int a2] S (fX4_takes a1 a2 S) := by
  refine xMv_of (cc := cX4_takes) (maxL := 6) (own := RX4) [some (.ref (G.2.2 0 0)), some (.int a1), some (.int a2), none, none, none] pnX4 rfl rfl (xcat1 rfl) (Nat.le_of_ble_eq_true rfl) rfl hap (fun F C V E => ?_)
  refine xg_iconst C dX4_takes_0 (v := (0 : Int32)) (by decide) ?_
  refine xg_istore_n C dX4_takes_1 (by decide) (L' := [some (.ref (G.2.2 0 0)), some (.int a1), some (.int a2), some (.int (0 : Int32)), none, none]) rfl ?_
  refine xloop (fun (ii : Int32) (x : xS) => xg F 0 0 2 [some (.ref (G.2.2 0 0)), some (.int a1), some (.int a2), some (.int ii), none, none] [] (xP xYm G x)) (bX4_takes_2 a1 a2) 8 S (fun i hi x K => ?_) ?_
  · have hi8 : vp_in (nI i) 8 := vp_in_nI hi (by decide)
    show xg F 0 0 2 [some (.ref (G.2.2 0 0)), some (.int a1), some (.int a2), some (.int (nI i)), none, none] [] (xP xYm G x)
    refine xg_iload_n C dX4_takes_2 rfl ?_
    refine xg_bipush C dX4_takes_3 (v := (8 : Int32)) (by decide) ?_
    refine xg_icmp_ge C 137 dX4_takes_5 (by decide) (fun h1 => absurd h1 (nI_ge hi (by decide))) (fun h1 => ?_)
    refine xg_iload_n C dX4_takes_8 rfl ?_
    refine xg_iload_n C dX4_takes_9 rfl ?_
    refine xg_callSi C V (as := [.int a1, .int (nI i)]) (r := (fX4_at a1 (nI i))) (fun l => kX4_at l hap a1 (nI i) x) gX4_takes_X4_at rfl hdX4_at ⟨by decide, by decide⟩ rfl rfl (Nat.le_of_ble_eq_true rfl) ⟨Nat.zero_le _, Nat.zero_le _⟩ dX4_takes_10 ?_
    refine xg_istore C dX4_takes_13 (by decide) (L' := [some (.ref (G.2.2 0 0)), some (.int a1), some (.int a2), some (.int (nI i)), some (.int (fX4_at a1 (nI i))), none]) rfl ?_
    refine xg_iload_n C dX4_takes_15 rfl ?_
    refine xg_iload_n C dX4_takes_16 rfl ?_
    refine xg_callSi C V (as := [.int a2, .int (nI i)]) (r := (fX4_at a2 (nI i))) (fun l => kX4_at l hap a2 (nI i) x) gX4_takes_X4_at rfl hdX4_at ⟨by decide, by decide⟩ rfl rfl (Nat.le_of_ble_eq_true rfl) ⟨Nat.zero_le _, Nat.zero_le _⟩ dX4_takes_17 ?_
    refine xg_istore C dX4_takes_20 (by decide) (L' := [some (.ref (G.2.2 0 0)), some (.int a1), some (.int a2), some (.int (nI i)), some (.int (fX4_at a1 (nI i))), some (.int (fX4_at a2 (nI i)))]) rfl ?_
    refine xg_aload_n C dX4_takes_22 rfl ?_
    refine xg_getR C V (f := 0) qX4_takes_65 rfl rfl rfl dX4_takes_23 ?_
    refine xg_iload C dX4_takes_26 rfl ?_
    refine xg_iald C V (f := 19) (n := 1) (N := 64) rfl (by decide) (xR_0 (by decide)) (xin_at (by first | assumption | exact xin_one (by assumption) | exact xin_asks (by assumption) | exact xin_ask1 (by assumption) | exact xin_ask2 (by assumption)) (by first | assumption | exact xin_one (by assumption) | exact xin_asks (by assumption) | exact xin_ask1 (by assumption) | exact xin_ask2 (by assumption))) dX4_takes_28 (v := (x 19 0 (fX4_at a1 (nI i)))) rfl ?_
    refine xg_aload_n C dX4_takes_29 rfl ?_
    refine xg_getR C V (f := 0) qX4_takes_65 rfl rfl rfl dX4_takes_30 ?_
    refine xg_iload C dX4_takes_33 rfl ?_
    refine xg_iald C V (f := 19) (n := 1) (N := 64) rfl (by decide) (xR_0 (by decide)) (xin_at (by first | assumption | exact xin_one (by assumption) | exact xin_asks (by assumption) | exact xin_ask1 (by assumption) | exact xin_ask2 (by assumption)) (by first | assumption | exact xin_one (by assumption) | exact xin_asks (by assumption) | exact xin_ask1 (by assumption) | exact xin_ask2 (by assumption))) dX4_takes_35 (v := (x 19 0 (fX4_at a2 (nI i)))) rfl ?_
    refine xg_icmp_ge C 81 dX4_takes_36 (by decide) (fun h2 => ?_) (fun h2 => ?_)
    · refine xg_aload_n C dX4_takes_81 rfl ?_
      refine xg_getR C V (f := 0) qX4_takes_74 rfl rfl rfl dX4_takes_82 ?_
      refine xg_iload C dX4_takes_85 rfl ?_
      refine xg_iald C V (f := 22) (n := 1) (N := 64) rfl (by decide) (xR_0 (by decide)) (xin_at (by first | assumption | exact xin_one (by assumption) | exact xin_asks (by assumption) | exact xin_ask1 (by assumption) | exact xin_ask2 (by assumption)) (by first | assumption | exact xin_one (by assumption) | exact xin_asks (by assumption) | exact xin_ask1 (by assumption) | exact xin_ask2 (by assumption))) dX4_takes_87 (v := (x 22 0 (fX4_at a1 (nI i)))) rfl ?_
      refine xg_aload_n C dX4_takes_88 rfl ?_
      refine xg_getR C V (f := 0) qX4_takes_74 rfl rfl rfl dX4_takes_89 ?_
      refine xg_iload C dX4_takes_92 rfl ?_
      refine xg_iald C V (f := 22) (n := 1) (N := 64) rfl (by decide) (xR_0 (by decide)) (xin_at (by first | assumption | exact xin_one (by assumption) | exact xin_asks (by assumption) | exact xin_ask1 (by assumption) | exact xin_ask2 (by assumption)) (by first | assumption | exact xin_one (by assumption) | exact xin_asks (by assumption) | exact xin_ask1 (by assumption) | exact xin_ask2 (by assumption))) dX4_takes_94 (v := (x 22 0 (fX4_at a2 (nI i)))) rfl ?_
      refine xg_icmp_ge C 131 dX4_takes_95 (by decide) (fun h3 => ?_) (fun h3 => ?_)
      · refine xg_iinc C dX4_takes_131 rfl (v := (nI (i + 1))) (xinc i) (by decide) (L' := [some (.ref (G.2.2 0 0)), some (.int a1), some (.int a2), some (.int (nI (i + 1))), some (.int (fX4_at a1 (nI i))), some (.int (fX4_at a2 (nI i)))]) rfl ?_
        refine xg_goto C 2 dX4_takes_134 (by decide) ?_
        have e : (bX4_takes_2 a1 a2) (nI i) x = x := by first | (rw [bX4_takes_2, if_pos h2, if_pos h3]; done) | (rw [bX4_takes_2, if_pos h2, if_pos h3]; rfl)
        rw [e] at K
        exact xg_le K ⟨rfl, rfl, rfl, rfl, trivial⟩
      · refine xg_aload_n C dX4_takes_98 rfl ?_
        refine xg_getR C V (f := 0) qX4_takes_74 rfl rfl rfl dX4_takes_99 ?_
        refine xg_iload C dX4_takes_102 rfl ?_
        refine xg_aload_n C dX4_takes_104 rfl ?_
        refine xg_getR C V (f := 0) qX4_takes_74 rfl rfl rfl dX4_takes_105 ?_
        refine xg_iload C dX4_takes_108 rfl ?_
        refine xg_iald C V (f := 22) (n := 1) (N := 64) rfl (by decide) (xR_0 (by decide)) (xin_at (by first | assumption | exact xin_one (by assumption) | exact xin_asks (by assumption) | exact xin_ask1 (by assumption) | exact xin_ask2 (by assumption)) (by first | assumption | exact xin_one (by assumption) | exact xin_asks (by assumption) | exact xin_ask1 (by assumption) | exact xin_ask2 (by assumption))) dX4_takes_110 (v := (x 22 0 (fX4_at a2 (nI i)))) rfl ?_
        refine xg_iast C V (f := 22) (n := 1) (N := 64) rfl (by decide) (xR_0 (by decide)) (xin_at (by first | assumption | exact xin_one (by assumption) | exact xin_asks (by assumption) | exact xin_ask1 (by assumption) | exact xin_ask2 (by assumption)) (by first | assumption | exact xin_one (by assumption) | exact xin_asks (by assumption) | exact xin_ask1 (by assumption) | exact xin_ask2 (by assumption))) dX4_takes_111 ?_
        refine xg_aload_n C dX4_takes_112 rfl ?_
        refine xg_getR C V (f := 0) qX4_takes_77 rfl rfl rfl dX4_takes_113 ?_
        refine xg_iload C dX4_takes_116 rfl ?_
        refine xg_aload_n C dX4_takes_118 rfl ?_
        refine xg_getI C V (f := 0) qX4_takes_118 rfl rfl rfl dX4_takes_119 (v := (x 0 0 (nI 28))) (xu_ne (by decide)) ?_
        refine xg_iast C V (f := 23) (n := 1) (N := 64) rfl (by decide) (xR_0 (by decide)) (xin_at (by first | assumption | exact xin_one (by assumption) | exact xin_asks (by assumption) | exact xin_ask1 (by assumption) | exact xin_ask2 (by assumption)) (by first | assumption | exact xin_one (by assumption) | exact xin_asks (by assumption) | exact xin_ask1 (by assumption) | exact xin_ask2 (by assumption))) dX4_takes_122 ?_
        refine xg_aload_n C dX4_takes_123 rfl ?_
        refine xg_getR C V (f := 0) qX4_takes_80 rfl rfl rfl dX4_takes_124 ?_
        refine xg_iload C dX4_takes_127 rfl ?_
        refine xg_iconst C dX4_takes_129 (v := (0 : Int32)) (by decide) ?_
        refine xg_iast C V (f := 24) (n := 1) (N := 64) rfl (by decide) (xR_0 (by decide)) (xin_at (by first | assumption | exact xin_one (by assumption) | exact xin_asks (by assumption) | exact xin_ask1 (by assumption) | exact xin_ask2 (by assumption)) (by first | assumption | exact xin_one (by assumption) | exact xin_asks (by assumption) | exact xin_ask1 (by assumption) | exact xin_ask2 (by assumption))) dX4_takes_130 ?_
        refine xg_iinc C dX4_takes_131 rfl (v := (nI (i + 1))) (xinc i) (by decide) (L' := [some (.ref (G.2.2 0 0)), some (.int a1), some (.int a2), some (.int (nI (i + 1))), some (.int (fX4_at a1 (nI i))), some (.int (fX4_at a2 (nI i)))]) rfl ?_
        refine xg_goto C 2 dX4_takes_134 (by decide) ?_
        have e : (bX4_takes_2 a1 a2) (nI i) x = (xu (xu (xu x 22 0 (fX4_at a1 (nI i)) (x 22 0 (fX4_at a2 (nI i)))) 23 0 (fX4_at a1 (nI i)) (x 0 0 (nI 28))) 24 0 (fX4_at a1 (nI i)) (0 : Int32)) := by first | (rw [bX4_takes_2, if_pos h2, if_neg h3]; done) | (rw [bX4_takes_2, if_pos h2, if_neg h3]; rfl)
        rw [e] at K
        exact xg_le K ⟨rfl, rfl, rfl, rfl, trivial⟩
    · refine xg_aload_n C dX4_takes_39 rfl ?_
      refine xg_getR C V (f := 0) qX4_takes_65 rfl rfl rfl dX4_takes_40 ?_
      refine xg_iload C dX4_takes_43 rfl ?_
      refine xg_aload_n C dX4_takes_45 rfl ?_
      refine xg_getR C V (f := 0) qX4_takes_65 rfl rfl rfl dX4_takes_46 ?_
      refine xg_iload C dX4_takes_49 rfl ?_
      refine xg_iald C V (f := 19) (n := 1) (N := 64) rfl (by decide) (xR_0 (by decide)) (xin_at (by first | assumption | exact xin_one (by assumption) | exact xin_asks (by assumption) | exact xin_ask1 (by assumption) | exact xin_ask2 (by assumption)) (by first | assumption | exact xin_one (by assumption) | exact xin_asks (by assumption) | exact xin_ask1 (by assumption) | exact xin_ask2 (by assumption))) dX4_takes_51 (v := (x 19 0 (fX4_at a2 (nI i)))) rfl ?_
      refine xg_iast C V (f := 19) (n := 1) (N := 64) rfl (by decide) (xR_0 (by decide)) (xin_at (by first | assumption | exact xin_one (by assumption) | exact xin_asks (by assumption) | exact xin_ask1 (by assumption) | exact xin_ask2 (by assumption)) (by first | assumption | exact xin_one (by assumption) | exact xin_asks (by assumption) | exact xin_ask1 (by assumption) | exact xin_ask2 (by assumption))) dX4_takes_52 ?_
      refine xg_aload_n C dX4_takes_53 rfl ?_
      refine xg_getR C V (f := 0) qX4_takes_68 rfl rfl rfl dX4_takes_54 ?_
      refine xg_iload C dX4_takes_57 rfl ?_
      refine xg_aload_n C dX4_takes_59 rfl ?_
      refine xg_getR C V (f := 0) qX4_takes_68 rfl rfl rfl dX4_takes_60 ?_
      refine xg_iload C dX4_takes_63 rfl ?_
      refine xg_iald C V (f := 20) (n := 1) (N := 64) rfl (by decide) (xR_0 (by decide)) (xin_at (by first | assumption | exact xin_one (by assumption) | exact xin_asks (by assumption) | exact xin_ask1 (by assumption) | exact xin_ask2 (by assumption)) (by first | assumption | exact xin_one (by assumption) | exact xin_asks (by assumption) | exact xin_ask1 (by assumption) | exact xin_ask2 (by assumption))) dX4_takes_65 (v := (x 20 0 (fX4_at a2 (nI i)))) (xu_ne (by decide)) ?_
      refine xg_iast C V (f := 20) (n := 1) (N := 64) rfl (by decide) (xR_0 (by decide)) (xin_at (by first | assumption | exact xin_one (by assumption) | exact xin_asks (by assumption) | exact xin_ask1 (by assumption) | exact xin_ask2 (by assumption)) (by first | assumption | exact xin_one (by assumption) | exact xin_asks (by assumption) | exact xin_ask1 (by assumption) | exact xin_ask2 (by assumption))) dX4_takes_66 ?_
      refine xg_aload_n C dX4_takes_67 rfl ?_
      refine xg_getR C V (f := 0) qX4_takes_71 rfl rfl rfl dX4_takes_68 ?_
      refine xg_iload C dX4_takes_71 rfl ?_
      refine xg_aload_n C dX4_takes_73 rfl ?_
      refine xg_getR C V (f := 0) qX4_takes_71 rfl rfl rfl dX4_takes_74 ?_
      refine xg_iload C dX4_takes_77 rfl ?_
      refine xg_iald C V (f := 21) (n := 1) (N := 64) rfl (by decide) (xR_0 (by decide)) (xin_at (by first | assumption | exact xin_one (by assumption) | exact xin_asks (by assumption) | exact xin_ask1 (by assumption) | exact xin_ask2 (by assumption)) (by first | assumption | exact xin_one (by assumption) | exact xin_asks (by assumption) | exact xin_ask1 (by assumption) | exact xin_ask2 (by assumption))) dX4_takes_79 (v := (x 21 0 (fX4_at a2 (nI i)))) ((xu_ne (by decide)).trans (xu_ne (by decide))) ?_
      refine xg_iast C V (f := 21) (n := 1) (N := 64) rfl (by decide) (xR_0 (by decide)) (xin_at (by first | assumption | exact xin_one (by assumption) | exact xin_asks (by assumption) | exact xin_ask1 (by assumption) | exact xin_ask2 (by assumption)) (by first | assumption | exact xin_one (by assumption) | exact xin_asks (by assumption) | exact xin_ask1 (by assumption) | exact xin_ask2 (by assumption))) dX4_takes_80 ?_
      refine xg_aload_n C dX4_takes_81 rfl ?_
      refine xg_getR C V (f := 0) qX4_takes_74 rfl rfl rfl dX4_takes_82 ?_
      refine xg_iload C dX4_takes_85 rfl ?_
      refine xg_iald C V (f := 22) (n := 1) (N := 64) rfl (by decide) (xR_0 (by decide)) (xin_at (by first | assumption | exact xin_one (by assumption) | exact xin_asks (by assumption) | exact xin_ask1 (by assumption) | exact xin_ask2 (by assumption)) (by first | assumption | exact xin_one (by assumption) | exact xin_asks (by assumption) | exact xin_ask1 (by assumption) | exact xin_ask2 (by assumption))) dX4_takes_87 (v := (x 22 0 (fX4_at a1 (nI i)))) (((xu_ne (by decide)).trans (xu_ne (by decide))).trans (xu_ne (by decide))) ?_
      refine xg_aload_n C dX4_takes_88 rfl ?_
      refine xg_getR C V (f := 0) qX4_takes_74 rfl rfl rfl dX4_takes_89 ?_
      refine xg_iload C dX4_takes_92 rfl ?_
      refine xg_iald C V (f := 22) (n := 1) (N := 64) rfl (by decide) (xR_0 (by decide)) (xin_at (by first | assumption | exact xin_one (by assumption) | exact xin_asks (by assumption) | exact xin_ask1 (by assumption) | exact xin_ask2 (by assumption)) (by first | assumption | exact xin_one (by assumption) | exact xin_asks (by assumption) | exact xin_ask1 (by assumption) | exact xin_ask2 (by assumption))) dX4_takes_94 (v := (x 22 0 (fX4_at a2 (nI i)))) (((xu_ne (by decide)).trans (xu_ne (by decide))).trans (xu_ne (by decide))) ?_
      refine xg_icmp_ge C 131 dX4_takes_95 (by decide) (fun h4 => ?_) (fun h4 => ?_)
      · refine xg_iinc C dX4_takes_131 rfl (v := (nI (i + 1))) (xinc i) (by decide) (L' := [some (.ref (G.2.2 0 0)), some (.int a1), some (.int a2), some (.int (nI (i + 1))), some (.int (fX4_at a1 (nI i))), some (.int (fX4_at a2 (nI i)))]) rfl ?_
        refine xg_goto C 2 dX4_takes_134 (by decide) ?_
        have e : (bX4_takes_2 a1 a2) (nI i) x = (xu (xu (xu x 19 0 (fX4_at a1 (nI i)) (x 19 0 (fX4_at a2 (nI i)))) 20 0 (fX4_at a1 (nI i)) (x 20 0 (fX4_at a2 (nI i)))) 21 0 (fX4_at a1 (nI i)) (x 21 0 (fX4_at a2 (nI i)))) := by first | (rw [bX4_takes_2, if_neg h2, if_pos h4]; done) | (rw [bX4_takes_2, if_neg h2, if_pos h4]; rfl)
        rw [e] at K
        exact xg_le K ⟨rfl, rfl, rfl, rfl, trivial⟩
      · refine xg_aload_n C dX4_takes_98 rfl ?_
        refine xg_getR C V (f := 0) qX4_takes_74 rfl rfl rfl dX4_takes_99 ?_
        refine xg_iload C dX4_takes_102 rfl ?_
        refine xg_aload_n C dX4_takes_104 rfl ?_
        refine xg_getR C V (f := 0) qX4_takes_74 rfl rfl rfl dX4_takes_105 ?_
        refine xg_iload C dX4_takes_108 rfl ?_
        refine xg_iald C V (f := 22) (n := 1) (N := 64) rfl (by decide) (xR_0 (by decide)) (xin_at (by first | assumption | exact xin_one (by assumption) | exact xin_asks (by assumption) | exact xin_ask1 (by assumption) | exact xin_ask2 (by assumption)) (by first | assumption | exact xin_one (by assumption) | exact xin_asks (by assumption) | exact xin_ask1 (by assumption) | exact xin_ask2 (by assumption))) dX4_takes_110 (v := (x 22 0 (fX4_at a2 (nI i)))) (((xu_ne (by decide)).trans (xu_ne (by decide))).trans (xu_ne (by decide))) ?_
        refine xg_iast C V (f := 22) (n := 1) (N := 64) rfl (by decide) (xR_0 (by decide)) (xin_at (by first | assumption | exact xin_one (by assumption) | exact xin_asks (by assumption) | exact xin_ask1 (by assumption) | exact xin_ask2 (by assumption)) (by first | assumption | exact xin_one (by assumption) | exact xin_asks (by assumption) | exact xin_ask1 (by assumption) | exact xin_ask2 (by assumption))) dX4_takes_111 ?_
        refine xg_aload_n C dX4_takes_112 rfl ?_
        refine xg_getR C V (f := 0) qX4_takes_77 rfl rfl rfl dX4_takes_113 ?_
        refine xg_iload C dX4_takes_116 rfl ?_
        refine xg_aload_n C dX4_takes_118 rfl ?_
        refine xg_getI C V (f := 0) qX4_takes_118 rfl rfl rfl dX4_takes_119 (v := (x 0 0 (nI 28))) ((((xu_ne (by decide)).trans (xu_ne (by decide))).trans (xu_ne (by decide))).trans (xu_ne (by decide))) ?_
        refine xg_iast C V (f := 23) (n := 1) (N := 64) rfl (by decide) (xR_0 (by decide)) (xin_at (by first | assumption | exact xin_one (by assumption) | exact xin_asks (by assumption) | exact xin_ask1 (by assumption) | exact xin_ask2 (by assumption)) (by first | assumption | exact xin_one (by assumption) | exact xin_asks (by assumption) | exact xin_ask1 (by assumption) | exact xin_ask2 (by assumption))) dX4_takes_122 ?_
        refine xg_aload_n C dX4_takes_123 rfl ?_
        refine xg_getR C V (f := 0) qX4_takes_80 rfl rfl rfl dX4_takes_124 ?_
        refine xg_iload C dX4_takes_127 rfl ?_
        refine xg_iconst C dX4_takes_129 (v := (0 : Int32)) (by decide) ?_
        refine xg_iast C V (f := 24) (n := 1) (N := 64) rfl (by decide) (xR_0 (by decide)) (xin_at (by first | assumption | exact xin_one (by assumption) | exact xin_asks (by assumption) | exact xin_ask1 (by assumption) | exact xin_ask2 (by assumption)) (by first | assumption | exact xin_one (by assumption) | exact xin_asks (by assumption) | exact xin_ask1 (by assumption) | exact xin_ask2 (by assumption))) dX4_takes_130 ?_
        refine xg_iinc C dX4_takes_131 rfl (v := (nI (i + 1))) (xinc i) (by decide) (L' := [some (.ref (G.2.2 0 0)), some (.int a1), some (.int a2), some (.int (nI (i + 1))), some (.int (fX4_at a1 (nI i))), some (.int (fX4_at a2 (nI i)))]) rfl ?_
        refine xg_goto C 2 dX4_takes_134 (by decide) ?_
        have e : (bX4_takes_2 a1 a2) (nI i) x = (xu (xu (xu (xu (xu (xu x 19 0 (fX4_at a1 (nI i)) (x 19 0 (fX4_at a2 (nI i)))) 20 0 (fX4_at a1 (nI i)) (x 20 0 (fX4_at a2 (nI i)))) 21 0 (fX4_at a1 (nI i)) (x 21 0 (fX4_at a2 (nI i)))) 22 0 (fX4_at a1 (nI i)) (x 22 0 (fX4_at a2 (nI i)))) 23 0 (fX4_at a1 (nI i)) (x 0 0 (nI 28))) 24 0 (fX4_at a1 (nI i)) (0 : Int32)) := by first | (rw [bX4_takes_2, if_neg h2, if_neg h4]; done) | (rw [bX4_takes_2, if_neg h2, if_neg h4]; rfl)
        rw [e] at K
        exact xg_le K ⟨rfl, rfl, rfl, rfl, trivial⟩
  · show xg F 0 0 2 [some (.ref (G.2.2 0 0)), some (.int a1), some (.int a2), some (.int (nI 8)), none, none] [] (xP xYm G (xfold (bX4_takes_2 a1 a2) 8 S))
    refine xg_iload_n C dX4_takes_2 rfl ?_
    refine xg_bipush C dX4_takes_3 (v := (8 : Int32)) (by decide) ?_
    refine xg_icmp_ge C 137 dX4_takes_5 (by decide) (fun h5 => ?_) (fun h5 => absurd (nI_le (Nat.le_refl _) (by decide)) h5)
    exact xret_v E dX4_takes_137 (rfl)
theorem xk_X4_takes {a1 a2 : Int32} {S : xS} : fX4_takes a1 a2 S 1 = S 1 := by
  unfold fX4_takes
  rw [xfold_keep 1 _ _ _ (fun i x => by unfold bX4_takes_2; (repeat' split) <;> simp [xu])]
theorem iX4_calls_X4 : ∀ w ∈ wsX40, w ∈ wsX4_calls := by decide +kernel
theorem qX4_calls_56 : xFr wsX4_calls RX4 56 RX4 TX4 30 16 := ⟨iX4_calls_X4, List.mem_of_getElem? (i := 1) rfl, by decide⟩
theorem qX4_calls_118 : xFr wsX4_calls RX4 118 RX4 TX4 30 28 := ⟨iX4_calls_X4, List.mem_of_getElem? (i := 2) rfl, by decide⟩
theorem qX4_calls_137 : xFr wsX4_calls RX4 137 RX4 TX4 30 27 := ⟨iX4_calls_X4, List.mem_of_getElem? (i := 4) rfl, by decide⟩
theorem qX4_calls_59 : xFr wsX4_calls RX4 59 RX4 TX4 30 17 := ⟨iX4_calls_X4, List.mem_of_getElem? (i := 3) rfl, by decide⟩
def bX4_calls_2  (i : Int32) (x : xS) : xS :=
  if (x 16 0 i) = (0 : Int32) then
    if (fX4_called i (x 0 0 (nI 28)) x) = (-1 : Int32) then
      (xu x 0 0 (nI 27) ((x 0 0 (nI 27)) + (0 : Int32)))
    else
      if (x 16 0 (fX4_called i (x 0 0 (nI 28)) x)) = (0 : Int32) then
        if (x 17 0 (fX4_called i (x 0 0 (nI 28)) x)) = (x 17 0 i) then
          (fX4_takes (fX4_called i (x 0 0 (nI 28)) x) i (fX4_takes i (fX4_called i (x 0 0 (nI 28)) x) (xu x 0 0 (nI 27) ((x 0 0 (nI 27)) + (0 : Int32)))))
        else
          (xu x 0 0 (nI 27) ((x 0 0 (nI 27)) + (1 : Int32)))
      else
        (xu x 0 0 (nI 27) ((x 0 0 (nI 27)) + (1 : Int32)))
  else
    (xu x 0 0 (nI 27) ((x 0 0 (nI 27)) + (0 : Int32)))
def fX4_calls  (S : xS) : xS :=
  (xfold bX4_calls_2 8 S)
theorem hdX4_calls : yX4_calls.cls = RX4 ∧ yX4_calls.cls ≠ "java/lang/invoke/MethodHandle" ∧ yX4_calls.cls ≠ "java/lang/invoke/VarHandle" ∧ (parseMethodDescriptor yX4_calls.desc).map (fun d => d.parameters.length) = some 0 := by decide +kernel
set_option maxRecDepth 100000 in
set_option maxHeartbeats 4000000 in
theorem kX4_calls (l : Launch) {G : xG} (hap : xAp xYm G)  (S : xS)  : xMv l xYm G yX4_calls wsX4_calls 3 71 [.ref (G.2.2 0 0)] S (fX4_calls S) := by
  refine xMv_of (cc := cX4_calls) (maxL := 4) (own := RX4) [some (.ref (G.2.2 0 0)), none, none, none] pnX4 rfl rfl (xcat1 rfl) (Nat.le_of_ble_eq_true rfl) rfl hap (fun F C V E => ?_)
  refine xg_iconst C dX4_calls_0 (v := (0 : Int32)) (by decide) ?_
  refine xg_istore_n C dX4_calls_1 (by decide) (L' := [some (.ref (G.2.2 0 0)), some (.int (0 : Int32)), none, none]) rfl ?_
  refine xloop (fun (ii : Int32) (x : xS) => xg F 0 0 2 [some (.ref (G.2.2 0 0)), some (.int ii), none, none] [] (xP xYm G x)) bX4_calls_2 8 S (fun i hi x K => ?_) ?_
  · have hi8 : vp_in (nI i) 8 := vp_in_nI hi (by decide)
    show xg F 0 0 2 [some (.ref (G.2.2 0 0)), some (.int (nI i)), none, none] [] (xP xYm G x)
    refine xg_iload_n C dX4_calls_2 rfl ?_
    refine xg_bipush C dX4_calls_3 (v := (8 : Int32)) (by decide) ?_
    refine xg_icmp_ge C 111 dX4_calls_5 (by decide) (fun h1 => absurd h1 (nI_ge hi (by decide))) (fun h1 => ?_)
    refine xg_aload_n C dX4_calls_8 rfl ?_
    refine xg_getR C V (f := 0) qX4_calls_56 rfl rfl rfl dX4_calls_9 ?_
    refine xg_iload_n C dX4_calls_12 rfl ?_
    refine xg_zald C V (f := 16) (n := 1) (N := 8) rfl (by decide) (xR_0 (by decide)) (by first | assumption | exact xin_one (by assumption) | exact xin_asks (by assumption) | exact xin_ask1 (by assumption) | exact xin_ask2 (by assumption)) dX4_calls_13 (v := (x 16 0 (nI i))) rfl ?_
    refine xg_if_eq C 21 dX4_calls_14 (by decide) (fun h2 => ?_) (fun h2 => ?_)
    · refine xg_aload_n C dX4_calls_21 rfl ?_
      refine xg_iload_n C dX4_calls_22 rfl ?_
      refine xg_aload_n C dX4_calls_23 rfl ?_
      refine xg_getI C V (f := 0) qX4_calls_118 rfl rfl rfl dX4_calls_24 (v := (x 0 0 (nI 28))) rfl ?_
      refine xg_callVi C V (f := 0) (As := [.int (nI i), .int (x 0 0 (nI 28))]) (r := (fX4_called (nI i) (x 0 0 (nI 28)) x)) (fun l => kX4_called l hap (nI i) (x 0 0 (nI 28)) x (by first | assumption | exact xin_one (by assumption) | exact xin_asks (by assumption) | exact xin_ask1 (by assumption) | exact xin_ask2 (by assumption))) gX4_calls_X4_called rfl hdX4_called ⟨by decide, by decide⟩ rfl rfl rfl rfl rfl (Nat.le_of_ble_eq_true rfl) ⟨Nat.zero_le _, Nat.zero_le _⟩ dX4_calls_27 ?_
      refine xg_istore_n C dX4_calls_30 (by decide) (L' := [some (.ref (G.2.2 0 0)), some (.int (nI i)), some (.int (fX4_called (nI i) (x 0 0 (nI 28)) x)), none]) rfl ?_
      refine xg_iload_n C dX4_calls_31 rfl ?_
      refine xg_iconst C dX4_calls_32 (v := (-1 : Int32)) (by decide) ?_
      refine xg_icmp_eq C 64 dX4_calls_33 (by decide) (fun h3 => ?_) (fun h3 => ?_)
      · refine xg_iconst C dX4_calls_64 (v := (0 : Int32)) (by decide) ?_
        refine xg_istore_n C dX4_calls_65 (by decide) (L' := [some (.ref (G.2.2 0 0)), some (.int (nI i)), some (.int (fX4_called (nI i) (x 0 0 (nI 28)) x)), some (.int (0 : Int32))]) rfl ?_
        refine xg_aload_n C dX4_calls_66 rfl ?_
        refine xg_dup C dX4_calls_67 rfl ?_
        refine xg_getI C V (f := 0) qX4_calls_137 rfl rfl rfl dX4_calls_68 (v := (x 0 0 (nI 27))) rfl ?_
        refine xg_iload_n C dX4_calls_71 rfl ?_
        refine xg_iconst C dX4_calls_72 (v := (-1 : Int32)) (by decide) ?_
        refine xg_icmp_eq C 84 dX4_calls_73 (by decide) (fun h4 => ?_) (fun h4 => by contradiction)
        refine xg_iconst C dX4_calls_84 (v := (0 : Int32)) (by decide) ?_
        refine xg_iadd C dX4_calls_85 ?_
        refine xg_putI C V (f := 0) qX4_calls_137 rfl (by decide) rfl rfl tyX4_ok nmX4 rfl rfl dX4_calls_86 ?_
        refine xg_iload_n C dX4_calls_89 rfl ?_
        refine xg_if_eq C 105 dX4_calls_90 (by decide) (fun h5 => ?_) (fun h5 => by exact absurd h5 (by decide))
        refine xg_iinc C dX4_calls_105 rfl (v := (nI (i + 1))) (xinc i) (by decide) (L' := [some (.ref (G.2.2 0 0)), some (.int (nI (i + 1))), some (.int (fX4_called (nI i) (x 0 0 (nI 28)) x)), some (.int (0 : Int32))]) rfl ?_
        refine xg_goto C 2 dX4_calls_108 (by decide) ?_
        have e : bX4_calls_2 (nI i) x = (xu x 0 0 (nI 27) ((x 0 0 (nI 27)) + (0 : Int32))) := by first | (rw [bX4_calls_2, if_pos h2, if_pos h3]; done) | (rw [bX4_calls_2, if_pos h2, if_pos h3]; rfl)
        rw [e] at K
        exact xg_le K ⟨rfl, rfl, trivial⟩
      · refine xg_aload_n C dX4_calls_36 rfl ?_
        refine xg_getR C V (f := 0) qX4_calls_56 rfl rfl rfl dX4_calls_37 ?_
        refine xg_iload_n C dX4_calls_40 rfl ?_
        refine xg_zald C V (f := 16) (n := 1) (N := 8) rfl (by decide) (xR_0 (by decide)) (xin_called4 (by assumption)) dX4_calls_41 (v := (x 16 0 (fX4_called (nI i) (x 0 0 (nI 28)) x))) rfl ?_
        refine xg_if_ne C 64 dX4_calls_42 (by decide) (fun h6 => ?_) (fun h6 => ?_)
        · refine xg_iconst C dX4_calls_64 (v := (0 : Int32)) (by decide) ?_
          refine xg_istore_n C dX4_calls_65 (by decide) (L' := [some (.ref (G.2.2 0 0)), some (.int (nI i)), some (.int (fX4_called (nI i) (x 0 0 (nI 28)) x)), some (.int (0 : Int32))]) rfl ?_
          refine xg_aload_n C dX4_calls_66 rfl ?_
          refine xg_dup C dX4_calls_67 rfl ?_
          refine xg_getI C V (f := 0) qX4_calls_137 rfl rfl rfl dX4_calls_68 (v := (x 0 0 (nI 27))) rfl ?_
          refine xg_iload_n C dX4_calls_71 rfl ?_
          refine xg_iconst C dX4_calls_72 (v := (-1 : Int32)) (by decide) ?_
          refine xg_icmp_eq C 84 dX4_calls_73 (by decide) (fun h7 => by contradiction) (fun h7 => ?_)
          refine xg_iload_n C dX4_calls_76 rfl ?_
          refine xg_if_ne C 84 dX4_calls_77 (by decide) (fun h8 => by exact absurd h8 (by decide)) (fun h8 => ?_)
          refine xg_iconst C dX4_calls_80 (v := (1 : Int32)) (by decide) ?_
          refine xg_goto C 85 dX4_calls_81 (by decide) ?_
          refine xg_iadd C dX4_calls_85 ?_
          refine xg_putI C V (f := 0) qX4_calls_137 rfl (by decide) rfl rfl tyX4_ok nmX4 rfl rfl dX4_calls_86 ?_
          refine xg_iload_n C dX4_calls_89 rfl ?_
          refine xg_if_eq C 105 dX4_calls_90 (by decide) (fun h9 => ?_) (fun h9 => by exact absurd h9 (by decide))
          refine xg_iinc C dX4_calls_105 rfl (v := (nI (i + 1))) (xinc i) (by decide) (L' := [some (.ref (G.2.2 0 0)), some (.int (nI (i + 1))), some (.int (fX4_called (nI i) (x 0 0 (nI 28)) x)), some (.int (0 : Int32))]) rfl ?_
          refine xg_goto C 2 dX4_calls_108 (by decide) ?_
          have e : bX4_calls_2 (nI i) x = (xu x 0 0 (nI 27) ((x 0 0 (nI 27)) + (1 : Int32))) := by first | (rw [bX4_calls_2, if_pos h2, if_neg h3, if_neg h6]; done) | (rw [bX4_calls_2, if_pos h2, if_neg h3, if_neg h6]; rfl)
          rw [e] at K
          exact xg_le K ⟨rfl, rfl, trivial⟩
        · refine xg_aload_n C dX4_calls_45 rfl ?_
          refine xg_getR C V (f := 0) qX4_calls_59 rfl rfl rfl dX4_calls_46 ?_
          refine xg_iload_n C dX4_calls_49 rfl ?_
          refine xg_iald C V (f := 17) (n := 1) (N := 8) rfl (by decide) (xR_0 (by decide)) (xin_called4 (by assumption)) dX4_calls_50 (v := (x 17 0 (fX4_called (nI i) (x 0 0 (nI 28)) x))) rfl ?_
          refine xg_aload_n C dX4_calls_51 rfl ?_
          refine xg_getR C V (f := 0) qX4_calls_59 rfl rfl rfl dX4_calls_52 ?_
          refine xg_iload_n C dX4_calls_55 rfl ?_
          refine xg_iald C V (f := 17) (n := 1) (N := 8) rfl (by decide) (xR_0 (by decide)) (by first | assumption | exact xin_one (by assumption) | exact xin_asks (by assumption) | exact xin_ask1 (by assumption) | exact xin_ask2 (by assumption)) dX4_calls_56 (v := (x 17 0 (nI i))) rfl ?_
          refine xg_icmp_ne C 64 dX4_calls_57 (by decide) (fun h10 => ?_) (fun h10 => ?_)
          · refine xg_iconst C dX4_calls_64 (v := (0 : Int32)) (by decide) ?_
            refine xg_istore_n C dX4_calls_65 (by decide) (L' := [some (.ref (G.2.2 0 0)), some (.int (nI i)), some (.int (fX4_called (nI i) (x 0 0 (nI 28)) x)), some (.int (0 : Int32))]) rfl ?_
            refine xg_aload_n C dX4_calls_66 rfl ?_
            refine xg_dup C dX4_calls_67 rfl ?_
            refine xg_getI C V (f := 0) qX4_calls_137 rfl rfl rfl dX4_calls_68 (v := (x 0 0 (nI 27))) rfl ?_
            refine xg_iload_n C dX4_calls_71 rfl ?_
            refine xg_iconst C dX4_calls_72 (v := (-1 : Int32)) (by decide) ?_
            refine xg_icmp_eq C 84 dX4_calls_73 (by decide) (fun h11 => by contradiction) (fun h11 => ?_)
            refine xg_iload_n C dX4_calls_76 rfl ?_
            refine xg_if_ne C 84 dX4_calls_77 (by decide) (fun h12 => by exact absurd h12 (by decide)) (fun h12 => ?_)
            refine xg_iconst C dX4_calls_80 (v := (1 : Int32)) (by decide) ?_
            refine xg_goto C 85 dX4_calls_81 (by decide) ?_
            refine xg_iadd C dX4_calls_85 ?_
            refine xg_putI C V (f := 0) qX4_calls_137 rfl (by decide) rfl rfl tyX4_ok nmX4 rfl rfl dX4_calls_86 ?_
            refine xg_iload_n C dX4_calls_89 rfl ?_
            refine xg_if_eq C 105 dX4_calls_90 (by decide) (fun h13 => ?_) (fun h13 => by exact absurd h13 (by decide))
            refine xg_iinc C dX4_calls_105 rfl (v := (nI (i + 1))) (xinc i) (by decide) (L' := [some (.ref (G.2.2 0 0)), some (.int (nI (i + 1))), some (.int (fX4_called (nI i) (x 0 0 (nI 28)) x)), some (.int (0 : Int32))]) rfl ?_
            refine xg_goto C 2 dX4_calls_108 (by decide) ?_
            have e : bX4_calls_2 (nI i) x = (xu x 0 0 (nI 27) ((x 0 0 (nI 27)) + (1 : Int32))) := by first | (rw [bX4_calls_2, if_pos h2, if_neg h3, if_pos h6, if_neg h10]; done) | (rw [bX4_calls_2, if_pos h2, if_neg h3, if_pos h6, if_neg h10]; rfl)
            rw [e] at K
            exact xg_le K ⟨rfl, rfl, trivial⟩
          · refine xg_iconst C dX4_calls_60 (v := (1 : Int32)) (by decide) ?_
            refine xg_goto C 65 dX4_calls_61 (by decide) ?_
            refine xg_istore_n C dX4_calls_65 (by decide) (L' := [some (.ref (G.2.2 0 0)), some (.int (nI i)), some (.int (fX4_called (nI i) (x 0 0 (nI 28)) x)), some (.int (1 : Int32))]) rfl ?_
            refine xg_aload_n C dX4_calls_66 rfl ?_
            refine xg_dup C dX4_calls_67 rfl ?_
            refine xg_getI C V (f := 0) qX4_calls_137 rfl rfl rfl dX4_calls_68 (v := (x 0 0 (nI 27))) rfl ?_
            refine xg_iload_n C dX4_calls_71 rfl ?_
            refine xg_iconst C dX4_calls_72 (v := (-1 : Int32)) (by decide) ?_
            refine xg_icmp_eq C 84 dX4_calls_73 (by decide) (fun h14 => by contradiction) (fun h14 => ?_)
            refine xg_iload_n C dX4_calls_76 rfl ?_
            refine xg_if_ne C 84 dX4_calls_77 (by decide) (fun h15 => ?_) (fun h15 => by exact absurd h15 (by decide))
            refine xg_iconst C dX4_calls_84 (v := (0 : Int32)) (by decide) ?_
            refine xg_iadd C dX4_calls_85 ?_
            refine xg_putI C V (f := 0) qX4_calls_137 rfl (by decide) rfl rfl tyX4_ok nmX4 rfl rfl dX4_calls_86 ?_
            refine xg_iload_n C dX4_calls_89 rfl ?_
            refine xg_if_eq C 105 dX4_calls_90 (by decide) (fun h16 => by exact absurd h16 (by decide)) (fun h16 => ?_)
            refine xg_aload_n C dX4_calls_93 rfl ?_
            refine xg_iload_n C dX4_calls_94 rfl ?_
            refine xg_iload_n C dX4_calls_95 rfl ?_
            refine xg_callVv C V (f := 0) (As := [.int (nI i), .int (fX4_called (nI i) (x 0 0 (nI 28)) x)]) (fun l => kX4_takes l hap (nI i) (fX4_called (nI i) (x 0 0 (nI 28)) x) (xu x 0 0 (nI 27) ((x 0 0 (nI 27)) + (0 : Int32))) (by first | assumption | exact xin_one (by assumption) | exact xin_asks (by assumption) | exact xin_ask1 (by assumption) | exact xin_ask2 (by assumption)) (xin_called4 (by assumption))) gX4_calls_X4_takes rfl hdX4_takes ⟨by decide, by decide⟩ rfl rfl rfl rfl rfl (Nat.le_of_ble_eq_true rfl) ⟨Nat.zero_le _, Nat.zero_le _⟩ dX4_calls_96 ?_
            refine xg_aload_n C dX4_calls_99 rfl ?_
            refine xg_iload_n C dX4_calls_100 rfl ?_
            refine xg_iload_n C dX4_calls_101 rfl ?_
            refine xg_callVv C V (f := 0) (As := [.int (fX4_called (nI i) (x 0 0 (nI 28)) x), .int (nI i)]) (fun l => kX4_takes l hap (fX4_called (nI i) (x 0 0 (nI 28)) x) (nI i) (fX4_takes (nI i) (fX4_called (nI i) (x 0 0 (nI 28)) x) (xu x 0 0 (nI 27) ((x 0 0 (nI 27)) + (0 : Int32)))) (xin_called4 (by assumption)) (by first | assumption | exact xin_one (by assumption) | exact xin_asks (by assumption) | exact xin_ask1 (by assumption) | exact xin_ask2 (by assumption))) gX4_calls_X4_takes rfl hdX4_takes ⟨by decide, by decide⟩ rfl rfl rfl rfl rfl (Nat.le_of_ble_eq_true rfl) ⟨Nat.zero_le _, Nat.zero_le _⟩ dX4_calls_102 ?_
            refine xg_iinc C dX4_calls_105 rfl (v := (nI (i + 1))) (xinc i) (by decide) (L' := [some (.ref (G.2.2 0 0)), some (.int (nI (i + 1))), some (.int (fX4_called (nI i) (x 0 0 (nI 28)) x)), some (.int (1 : Int32))]) rfl ?_
            refine xg_goto C 2 dX4_calls_108 (by decide) ?_
            have e : bX4_calls_2 (nI i) x = (fX4_takes (fX4_called (nI i) (x 0 0 (nI 28)) x) (nI i) (fX4_takes (nI i) (fX4_called (nI i) (x 0 0 (nI 28)) x) (xu x 0 0 (nI 27) ((x 0 0 (nI 27)) + (0 : Int32))))) := by first | (rw [bX4_calls_2, if_pos h2, if_neg h3, if_pos h6, if_pos h10]; done) | (rw [bX4_calls_2, if_pos h2, if_neg h3, if_pos h6, if_pos h10]; rfl)
            rw [e] at K
            exact xg_le K ⟨rfl, rfl, trivial⟩
    · refine xg_iconst C dX4_calls_17 (v := (-1 : Int32)) (by decide) ?_
      refine xg_goto C 30 dX4_calls_18 (by decide) ?_
      refine xg_istore_n C dX4_calls_30 (by decide) (L' := [some (.ref (G.2.2 0 0)), some (.int (nI i)), some (.int (-1 : Int32)), none]) rfl ?_
      refine xg_iload_n C dX4_calls_31 rfl ?_
      refine xg_iconst C dX4_calls_32 (v := (-1 : Int32)) (by decide) ?_
      refine xg_icmp_eq C 64 dX4_calls_33 (by decide) (fun h17 => ?_) (fun h17 => by exact absurd h17 (by decide))
      refine xg_iconst C dX4_calls_64 (v := (0 : Int32)) (by decide) ?_
      refine xg_istore_n C dX4_calls_65 (by decide) (L' := [some (.ref (G.2.2 0 0)), some (.int (nI i)), some (.int (-1 : Int32)), some (.int (0 : Int32))]) rfl ?_
      refine xg_aload_n C dX4_calls_66 rfl ?_
      refine xg_dup C dX4_calls_67 rfl ?_
      refine xg_getI C V (f := 0) qX4_calls_137 rfl rfl rfl dX4_calls_68 (v := (x 0 0 (nI 27))) rfl ?_
      refine xg_iload_n C dX4_calls_71 rfl ?_
      refine xg_iconst C dX4_calls_72 (v := (-1 : Int32)) (by decide) ?_
      refine xg_icmp_eq C 84 dX4_calls_73 (by decide) (fun h18 => ?_) (fun h18 => by exact absurd h18 (by decide))
      refine xg_iconst C dX4_calls_84 (v := (0 : Int32)) (by decide) ?_
      refine xg_iadd C dX4_calls_85 ?_
      refine xg_putI C V (f := 0) qX4_calls_137 rfl (by decide) rfl rfl tyX4_ok nmX4 rfl rfl dX4_calls_86 ?_
      refine xg_iload_n C dX4_calls_89 rfl ?_
      refine xg_if_eq C 105 dX4_calls_90 (by decide) (fun h19 => ?_) (fun h19 => by exact absurd h19 (by decide))
      refine xg_iinc C dX4_calls_105 rfl (v := (nI (i + 1))) (xinc i) (by decide) (L' := [some (.ref (G.2.2 0 0)), some (.int (nI (i + 1))), some (.int (-1 : Int32)), some (.int (0 : Int32))]) rfl ?_
      refine xg_goto C 2 dX4_calls_108 (by decide) ?_
      have e : bX4_calls_2 (nI i) x = (xu x 0 0 (nI 27) ((x 0 0 (nI 27)) + (0 : Int32))) := by first | (rw [bX4_calls_2, if_neg h2]; done) | (rw [bX4_calls_2, if_neg h2]; rfl)
      rw [e] at K
      exact xg_le K ⟨rfl, rfl, trivial⟩
  · show xg F 0 0 2 [some (.ref (G.2.2 0 0)), some (.int (nI 8)), none, none] [] (xP xYm G (xfold bX4_calls_2 8 S))
    refine xg_iload_n C dX4_calls_2 rfl ?_
    refine xg_bipush C dX4_calls_3 (v := (8 : Int32)) (by decide) ?_
    refine xg_icmp_ge C 111 dX4_calls_5 (by decide) (fun h20 => ?_) (fun h20 => absurd (nI_le (Nat.le_refl _) (by decide)) h20)
    exact xret_v E dX4_calls_111 (rfl)
theorem xk_X4_calls {S : xS} : fX4_calls S 1 = S 1 := by
  unfold fX4_calls
  rw [xfold_keep 1 _ _ _ (fun i x => by unfold bX4_calls_2; (repeat' split) <;> (try rw [xk_X4_takes, xk_X4_takes]) <;> simp [xu])]
theorem iX4_looks_X4 : ∀ w ∈ wsX40, w ∈ wsX4_looks := by decide +kernel
theorem qX4_looks_118 : xFr wsX4_looks RX4 118 RX4 TX4 30 28 := ⟨iX4_looks_X4, List.mem_of_getElem? (i := 1) rfl, by decide⟩
theorem qX4_looks_77 : xFr wsX4_looks RX4 77 RX4 TX4 30 23 := ⟨iX4_looks_X4, List.mem_of_getElem? (i := 2) rfl, by decide⟩
theorem qX4_looks_87 : xFr wsX4_looks RX4 87 RX4 TX4 30 26 := ⟨iX4_looks_X4, List.mem_of_getElem? (i := 3) rfl, by decide⟩
theorem qX4_looks_83 : xFr wsX4_looks RX4 83 RX4 TX4 30 25 := ⟨iX4_looks_X4, List.mem_of_getElem? (i := 4) rfl, by decide⟩
theorem qX4_looks_80 : xFr wsX4_looks RX4 80 RX4 TX4 30 24 := ⟨iX4_looks_X4, List.mem_of_getElem? (i := 5) rfl, by decide⟩
theorem qX4_looks_56 : xFr wsX4_looks RX4 56 RX4 TX4 30 16 := ⟨iX4_looks_X4, List.mem_of_getElem? (i := 6) rfl, by decide⟩
def bX4_looks_2  (i : Int32) (x : xS) : xS :=
  if ((x 0 0 (nI 28)) - (x 23 0 i)) ≤ (x 0 0 (nI 26)) then
    if ((x 0 0 (nI 28)) - (x 23 0 i)) ≤ (x 0 0 (nI 25)) then
      if (x 16 0 (i / (8 : Int32))) = (0 : Int32) then
        if (i / (8 : Int32)) = (i - i / (8 : Int32) * (8 : Int32)) then
          (xu x 24 0 i (x 24 0 i))
        else
          (xu x 24 0 i (0 : Int32))
      else
        (xu x 24 0 i (x 24 0 i))
    else
      if (x 16 0 (i / (8 : Int32))) = (0 : Int32) then
        if (i / (8 : Int32)) = (i - i / (8 : Int32) * (8 : Int32)) then
          (xu x 24 0 i (x 24 0 i))
        else
          (xu x 24 0 i (1 : Int32))
      else
        (xu x 24 0 i (x 24 0 i))
  else
    if (x 16 0 (i / (8 : Int32))) = (0 : Int32) then
      if (i / (8 : Int32)) = (i - i / (8 : Int32) * (8 : Int32)) then
        (xu x 24 0 i (x 24 0 i))
      else
        (xu x 24 0 i (2 : Int32))
    else
      (xu x 24 0 i (x 24 0 i))
def fX4_looks  (S : xS) : xS :=
  (xfold bX4_looks_2 64 S)
theorem hdX4_looks : yX4_looks.cls = RX4 ∧ yX4_looks.cls ≠ "java/lang/invoke/MethodHandle" ∧ yX4_looks.cls ≠ "java/lang/invoke/VarHandle" ∧ (parseMethodDescriptor yX4_looks.desc).map (fun d => d.parameters.length) = some 0 := by decide +kernel
set_option maxRecDepth 100000 in
set_option maxHeartbeats 4000000 in
theorem kX4_looks (l : Launch) {G : xG} (hap : xAp xYm G)  (S : xS)  : xMv l xYm G yX4_looks wsX4_looks 0 0 [.ref (G.2.2 0 0)] S (fX4_looks S) := by
  refine xMv_of (cc := cX4_looks) (maxL := 4) (own := RX4) [some (.ref (G.2.2 0 0)), none, none, none] pnX4 rfl rfl (xcat1 rfl) (Nat.le_of_ble_eq_true rfl) rfl hap (fun F C V E => ?_)
  refine xg_iconst C dX4_looks_0 (v := (0 : Int32)) (by decide) ?_
  refine xg_istore_n C dX4_looks_1 (by decide) (L' := [some (.ref (G.2.2 0 0)), some (.int (0 : Int32)), none, none]) rfl ?_
  refine xloop (fun (ii : Int32) (x : xS) => xg F 0 0 2 [some (.ref (G.2.2 0 0)), some (.int ii), none, none] [] (xP xYm G x)) bX4_looks_2 64 S (fun i hi x K => ?_) ?_
  · have hi8 : vp_in (nI i) 64 := vp_in_nI hi (by decide)
    have hd8 : vp_in (nI i / (8 : Int32)) 8 := xin_div hi
    have hm8 : vp_in (nI i - nI i / (8 : Int32) * (8 : Int32)) 8 := xin_mod hi
    show xg F 0 0 2 [some (.ref (G.2.2 0 0)), some (.int (nI i)), none, none] [] (xP xYm G x)
    refine xg_iload_n C dX4_looks_2 rfl ?_
    refine xg_bipush C dX4_looks_3 (v := (64 : Int32)) (by decide) ?_
    refine xg_icmp_ge C 91 dX4_looks_5 (by decide) (fun h1 => absurd h1 (nI_ge hi (by decide))) (fun h1 => ?_)
    refine xg_aload_n C dX4_looks_8 rfl ?_
    refine xg_getI C V (f := 0) qX4_looks_118 rfl rfl rfl dX4_looks_9 (v := (x 0 0 (nI 28))) rfl ?_
    refine xg_aload_n C dX4_looks_12 rfl ?_
    refine xg_getR C V (f := 0) qX4_looks_77 rfl rfl rfl dX4_looks_13 ?_
    refine xg_iload_n C dX4_looks_16 rfl ?_
    refine xg_iald C V (f := 23) (n := 1) (N := 64) rfl (by decide) (xR_0 (by decide)) (by first | assumption | exact xin_one (by assumption) | exact xin_asks (by assumption) | exact xin_ask1 (by assumption) | exact xin_ask2 (by assumption)) dX4_looks_17 (v := (x 23 0 (nI i))) rfl ?_
    refine xg_isub C dX4_looks_18 ?_
    refine xg_istore_n C dX4_looks_19 (by decide) (L' := [some (.ref (G.2.2 0 0)), some (.int (nI i)), some (.int ((x 0 0 (nI 28)) - (x 23 0 (nI i)))), none]) rfl ?_
    refine xg_iload_n C dX4_looks_20 rfl ?_
    refine xg_aload_n C dX4_looks_21 rfl ?_
    refine xg_getI C V (f := 0) qX4_looks_87 rfl rfl rfl dX4_looks_22 (v := (x 0 0 (nI 26))) rfl ?_
    refine xg_icmp_le C 32 dX4_looks_25 (by decide) (fun h2 => ?_) (fun h2 => ?_)
    · refine xg_iload_n C dX4_looks_32 rfl ?_
      refine xg_aload_n C dX4_looks_33 rfl ?_
      refine xg_getI C V (f := 0) qX4_looks_83 rfl rfl rfl dX4_looks_34 (v := (x 0 0 (nI 25))) rfl ?_
      refine xg_icmp_le C 44 dX4_looks_37 (by decide) (fun h3 => ?_) (fun h3 => ?_)
      · refine xg_iconst C dX4_looks_44 (v := (0 : Int32)) (by decide) ?_
        refine xg_istore_n C dX4_looks_45 (by decide) (L' := [some (.ref (G.2.2 0 0)), some (.int (nI i)), some (.int ((x 0 0 (nI 28)) - (x 23 0 (nI i)))), some (.int (0 : Int32))]) rfl ?_
        refine xg_aload_n C dX4_looks_46 rfl ?_
        refine xg_getR C V (f := 0) qX4_looks_80 rfl rfl rfl dX4_looks_47 ?_
        refine xg_iload_n C dX4_looks_50 rfl ?_
        refine xg_aload_n C dX4_looks_51 rfl ?_
        refine xg_getR C V (f := 0) qX4_looks_56 rfl rfl rfl dX4_looks_52 ?_
        refine xg_iload_n C dX4_looks_55 rfl ?_
        refine xg_bipush C dX4_looks_56 (v := (8 : Int32)) (by decide) ?_
        refine xg_idiv C dX4_looks_58 (by decide) ?_
        refine xg_zald C V (f := 16) (n := 1) (N := 8) rfl (by decide) (xR_0 (by decide)) (by first | assumption | exact xin_one (by assumption) | exact xin_asks (by assumption) | exact xin_ask1 (by assumption) | exact xin_ask2 (by assumption)) dX4_looks_59 (v := (x 16 0 ((nI i) / (8 : Int32)))) rfl ?_
        refine xg_if_ne C 74 dX4_looks_60 (by decide) (fun h4 => ?_) (fun h4 => ?_)
        · refine xg_aload_n C dX4_looks_74 rfl ?_
          refine xg_getR C V (f := 0) qX4_looks_80 rfl rfl rfl dX4_looks_75 ?_
          refine xg_iload_n C dX4_looks_78 rfl ?_
          refine xg_iald C V (f := 24) (n := 1) (N := 64) rfl (by decide) (xR_0 (by decide)) (by first | assumption | exact xin_one (by assumption) | exact xin_asks (by assumption) | exact xin_ask1 (by assumption) | exact xin_ask2 (by assumption)) dX4_looks_79 (v := (x 24 0 (nI i))) rfl ?_
          refine xg_goto C 84 dX4_looks_80 (by decide) ?_
          refine xg_iast C V (f := 24) (n := 1) (N := 64) rfl (by decide) (xR_0 (by decide)) (by first | assumption | exact xin_one (by assumption) | exact xin_asks (by assumption) | exact xin_ask1 (by assumption) | exact xin_ask2 (by assumption)) dX4_looks_84 ?_
          refine xg_iinc C dX4_looks_85 rfl (v := (nI (i + 1))) (xinc i) (by decide) (L' := [some (.ref (G.2.2 0 0)), some (.int (nI (i + 1))), some (.int ((x 0 0 (nI 28)) - (x 23 0 (nI i)))), some (.int (0 : Int32))]) rfl ?_
          refine xg_goto C 2 dX4_looks_88 (by decide) ?_
          have e : bX4_looks_2 (nI i) x = (xu x 24 0 (nI i) (x 24 0 (nI i))) := by first | (rw [bX4_looks_2, if_pos h2, if_pos h3, if_neg h4]; done) | (rw [bX4_looks_2, if_pos h2, if_pos h3, if_neg h4]; rfl)
          rw [e] at K
          exact xg_le K ⟨rfl, rfl, trivial⟩
        · refine xg_iload_n C dX4_looks_63 rfl ?_
          refine xg_bipush C dX4_looks_64 (v := (8 : Int32)) (by decide) ?_
          refine xg_idiv C dX4_looks_66 (by decide) ?_
          refine xg_iload_n C dX4_looks_67 rfl ?_
          refine xg_bipush C dX4_looks_68 (v := (8 : Int32)) (by decide) ?_
          refine xg_irem C dX4_looks_70 (by decide) ?_
          refine xg_icmp_ne C 83 dX4_looks_71 (by decide) (fun h5 => ?_) (fun h5 => ?_)
          · refine xg_iload_n C dX4_looks_83 rfl ?_
            refine xg_iast C V (f := 24) (n := 1) (N := 64) rfl (by decide) (xR_0 (by decide)) (by first | assumption | exact xin_one (by assumption) | exact xin_asks (by assumption) | exact xin_ask1 (by assumption) | exact xin_ask2 (by assumption)) dX4_looks_84 ?_
            refine xg_iinc C dX4_looks_85 rfl (v := (nI (i + 1))) (xinc i) (by decide) (L' := [some (.ref (G.2.2 0 0)), some (.int (nI (i + 1))), some (.int ((x 0 0 (nI 28)) - (x 23 0 (nI i)))), some (.int (0 : Int32))]) rfl ?_
            refine xg_goto C 2 dX4_looks_88 (by decide) ?_
            have e : bX4_looks_2 (nI i) x = (xu x 24 0 (nI i) (0 : Int32)) := by first | (rw [bX4_looks_2, if_pos h2, if_pos h3, if_pos h4, if_neg h5]; done) | (rw [bX4_looks_2, if_pos h2, if_pos h3, if_pos h4, if_neg h5]; rfl)
            rw [e] at K
            exact xg_le K ⟨rfl, rfl, trivial⟩
          · refine xg_aload_n C dX4_looks_74 rfl ?_
            refine xg_getR C V (f := 0) qX4_looks_80 rfl rfl rfl dX4_looks_75 ?_
            refine xg_iload_n C dX4_looks_78 rfl ?_
            refine xg_iald C V (f := 24) (n := 1) (N := 64) rfl (by decide) (xR_0 (by decide)) (by first | assumption | exact xin_one (by assumption) | exact xin_asks (by assumption) | exact xin_ask1 (by assumption) | exact xin_ask2 (by assumption)) dX4_looks_79 (v := (x 24 0 (nI i))) rfl ?_
            refine xg_goto C 84 dX4_looks_80 (by decide) ?_
            refine xg_iast C V (f := 24) (n := 1) (N := 64) rfl (by decide) (xR_0 (by decide)) (by first | assumption | exact xin_one (by assumption) | exact xin_asks (by assumption) | exact xin_ask1 (by assumption) | exact xin_ask2 (by assumption)) dX4_looks_84 ?_
            refine xg_iinc C dX4_looks_85 rfl (v := (nI (i + 1))) (xinc i) (by decide) (L' := [some (.ref (G.2.2 0 0)), some (.int (nI (i + 1))), some (.int ((x 0 0 (nI 28)) - (x 23 0 (nI i)))), some (.int (0 : Int32))]) rfl ?_
            refine xg_goto C 2 dX4_looks_88 (by decide) ?_
            have e : bX4_looks_2 (nI i) x = (xu x 24 0 (nI i) (x 24 0 (nI i))) := by first | (rw [bX4_looks_2, if_pos h2, if_pos h3, if_pos h4, if_pos h5]; done) | (rw [bX4_looks_2, if_pos h2, if_pos h3, if_pos h4, if_pos h5]; rfl)
            rw [e] at K
            exact xg_le K ⟨rfl, rfl, trivial⟩
      · refine xg_iconst C dX4_looks_40 (v := (1 : Int32)) (by decide) ?_
        refine xg_goto C 45 dX4_looks_41 (by decide) ?_
        refine xg_istore_n C dX4_looks_45 (by decide) (L' := [some (.ref (G.2.2 0 0)), some (.int (nI i)), some (.int ((x 0 0 (nI 28)) - (x 23 0 (nI i)))), some (.int (1 : Int32))]) rfl ?_
        refine xg_aload_n C dX4_looks_46 rfl ?_
        refine xg_getR C V (f := 0) qX4_looks_80 rfl rfl rfl dX4_looks_47 ?_
        refine xg_iload_n C dX4_looks_50 rfl ?_
        refine xg_aload_n C dX4_looks_51 rfl ?_
        refine xg_getR C V (f := 0) qX4_looks_56 rfl rfl rfl dX4_looks_52 ?_
        refine xg_iload_n C dX4_looks_55 rfl ?_
        refine xg_bipush C dX4_looks_56 (v := (8 : Int32)) (by decide) ?_
        refine xg_idiv C dX4_looks_58 (by decide) ?_
        refine xg_zald C V (f := 16) (n := 1) (N := 8) rfl (by decide) (xR_0 (by decide)) (by first | assumption | exact xin_one (by assumption) | exact xin_asks (by assumption) | exact xin_ask1 (by assumption) | exact xin_ask2 (by assumption)) dX4_looks_59 (v := (x 16 0 ((nI i) / (8 : Int32)))) rfl ?_
        refine xg_if_ne C 74 dX4_looks_60 (by decide) (fun h6 => ?_) (fun h6 => ?_)
        · refine xg_aload_n C dX4_looks_74 rfl ?_
          refine xg_getR C V (f := 0) qX4_looks_80 rfl rfl rfl dX4_looks_75 ?_
          refine xg_iload_n C dX4_looks_78 rfl ?_
          refine xg_iald C V (f := 24) (n := 1) (N := 64) rfl (by decide) (xR_0 (by decide)) (by first | assumption | exact xin_one (by assumption) | exact xin_asks (by assumption) | exact xin_ask1 (by assumption) | exact xin_ask2 (by assumption)) dX4_looks_79 (v := (x 24 0 (nI i))) rfl ?_
          refine xg_goto C 84 dX4_looks_80 (by decide) ?_
          refine xg_iast C V (f := 24) (n := 1) (N := 64) rfl (by decide) (xR_0 (by decide)) (by first | assumption | exact xin_one (by assumption) | exact xin_asks (by assumption) | exact xin_ask1 (by assumption) | exact xin_ask2 (by assumption)) dX4_looks_84 ?_
          refine xg_iinc C dX4_looks_85 rfl (v := (nI (i + 1))) (xinc i) (by decide) (L' := [some (.ref (G.2.2 0 0)), some (.int (nI (i + 1))), some (.int ((x 0 0 (nI 28)) - (x 23 0 (nI i)))), some (.int (1 : Int32))]) rfl ?_
          refine xg_goto C 2 dX4_looks_88 (by decide) ?_
          have e : bX4_looks_2 (nI i) x = (xu x 24 0 (nI i) (x 24 0 (nI i))) := by first | (rw [bX4_looks_2, if_pos h2, if_neg h3, if_neg h6]; done) | (rw [bX4_looks_2, if_pos h2, if_neg h3, if_neg h6]; rfl)
          rw [e] at K
          exact xg_le K ⟨rfl, rfl, trivial⟩
        · refine xg_iload_n C dX4_looks_63 rfl ?_
          refine xg_bipush C dX4_looks_64 (v := (8 : Int32)) (by decide) ?_
          refine xg_idiv C dX4_looks_66 (by decide) ?_
          refine xg_iload_n C dX4_looks_67 rfl ?_
          refine xg_bipush C dX4_looks_68 (v := (8 : Int32)) (by decide) ?_
          refine xg_irem C dX4_looks_70 (by decide) ?_
          refine xg_icmp_ne C 83 dX4_looks_71 (by decide) (fun h7 => ?_) (fun h7 => ?_)
          · refine xg_iload_n C dX4_looks_83 rfl ?_
            refine xg_iast C V (f := 24) (n := 1) (N := 64) rfl (by decide) (xR_0 (by decide)) (by first | assumption | exact xin_one (by assumption) | exact xin_asks (by assumption) | exact xin_ask1 (by assumption) | exact xin_ask2 (by assumption)) dX4_looks_84 ?_
            refine xg_iinc C dX4_looks_85 rfl (v := (nI (i + 1))) (xinc i) (by decide) (L' := [some (.ref (G.2.2 0 0)), some (.int (nI (i + 1))), some (.int ((x 0 0 (nI 28)) - (x 23 0 (nI i)))), some (.int (1 : Int32))]) rfl ?_
            refine xg_goto C 2 dX4_looks_88 (by decide) ?_
            have e : bX4_looks_2 (nI i) x = (xu x 24 0 (nI i) (1 : Int32)) := by first | (rw [bX4_looks_2, if_pos h2, if_neg h3, if_pos h6, if_neg h7]; done) | (rw [bX4_looks_2, if_pos h2, if_neg h3, if_pos h6, if_neg h7]; rfl)
            rw [e] at K
            exact xg_le K ⟨rfl, rfl, trivial⟩
          · refine xg_aload_n C dX4_looks_74 rfl ?_
            refine xg_getR C V (f := 0) qX4_looks_80 rfl rfl rfl dX4_looks_75 ?_
            refine xg_iload_n C dX4_looks_78 rfl ?_
            refine xg_iald C V (f := 24) (n := 1) (N := 64) rfl (by decide) (xR_0 (by decide)) (by first | assumption | exact xin_one (by assumption) | exact xin_asks (by assumption) | exact xin_ask1 (by assumption) | exact xin_ask2 (by assumption)) dX4_looks_79 (v := (x 24 0 (nI i))) rfl ?_
            refine xg_goto C 84 dX4_looks_80 (by decide) ?_
            refine xg_iast C V (f := 24) (n := 1) (N := 64) rfl (by decide) (xR_0 (by decide)) (by first | assumption | exact xin_one (by assumption) | exact xin_asks (by assumption) | exact xin_ask1 (by assumption) | exact xin_ask2 (by assumption)) dX4_looks_84 ?_
            refine xg_iinc C dX4_looks_85 rfl (v := (nI (i + 1))) (xinc i) (by decide) (L' := [some (.ref (G.2.2 0 0)), some (.int (nI (i + 1))), some (.int ((x 0 0 (nI 28)) - (x 23 0 (nI i)))), some (.int (1 : Int32))]) rfl ?_
            refine xg_goto C 2 dX4_looks_88 (by decide) ?_
            have e : bX4_looks_2 (nI i) x = (xu x 24 0 (nI i) (x 24 0 (nI i))) := by first | (rw [bX4_looks_2, if_pos h2, if_neg h3, if_pos h6, if_pos h7]; done) | (rw [bX4_looks_2, if_pos h2, if_neg h3, if_pos h6, if_pos h7]; rfl)
            rw [e] at K
            exact xg_le K ⟨rfl, rfl, trivial⟩
    · refine xg_iconst C dX4_looks_28 (v := (2 : Int32)) (by decide) ?_
      refine xg_goto C 45 dX4_looks_29 (by decide) ?_
      refine xg_istore_n C dX4_looks_45 (by decide) (L' := [some (.ref (G.2.2 0 0)), some (.int (nI i)), some (.int ((x 0 0 (nI 28)) - (x 23 0 (nI i)))), some (.int (2 : Int32))]) rfl ?_
      refine xg_aload_n C dX4_looks_46 rfl ?_
      refine xg_getR C V (f := 0) qX4_looks_80 rfl rfl rfl dX4_looks_47 ?_
      refine xg_iload_n C dX4_looks_50 rfl ?_
      refine xg_aload_n C dX4_looks_51 rfl ?_
      refine xg_getR C V (f := 0) qX4_looks_56 rfl rfl rfl dX4_looks_52 ?_
      refine xg_iload_n C dX4_looks_55 rfl ?_
      refine xg_bipush C dX4_looks_56 (v := (8 : Int32)) (by decide) ?_
      refine xg_idiv C dX4_looks_58 (by decide) ?_
      refine xg_zald C V (f := 16) (n := 1) (N := 8) rfl (by decide) (xR_0 (by decide)) (by first | assumption | exact xin_one (by assumption) | exact xin_asks (by assumption) | exact xin_ask1 (by assumption) | exact xin_ask2 (by assumption)) dX4_looks_59 (v := (x 16 0 ((nI i) / (8 : Int32)))) rfl ?_
      refine xg_if_ne C 74 dX4_looks_60 (by decide) (fun h8 => ?_) (fun h8 => ?_)
      · refine xg_aload_n C dX4_looks_74 rfl ?_
        refine xg_getR C V (f := 0) qX4_looks_80 rfl rfl rfl dX4_looks_75 ?_
        refine xg_iload_n C dX4_looks_78 rfl ?_
        refine xg_iald C V (f := 24) (n := 1) (N := 64) rfl (by decide) (xR_0 (by decide)) (by first | assumption | exact xin_one (by assumption) | exact xin_asks (by assumption) | exact xin_ask1 (by assumption) | exact xin_ask2 (by assumption)) dX4_looks_79 (v := (x 24 0 (nI i))) rfl ?_
        refine xg_goto C 84 dX4_looks_80 (by decide) ?_
        refine xg_iast C V (f := 24) (n := 1) (N := 64) rfl (by decide) (xR_0 (by decide)) (by first | assumption | exact xin_one (by assumption) | exact xin_asks (by assumption) | exact xin_ask1 (by assumption) | exact xin_ask2 (by assumption)) dX4_looks_84 ?_
        refine xg_iinc C dX4_looks_85 rfl (v := (nI (i + 1))) (xinc i) (by decide) (L' := [some (.ref (G.2.2 0 0)), some (.int (nI (i + 1))), some (.int ((x 0 0 (nI 28)) - (x 23 0 (nI i)))), some (.int (2 : Int32))]) rfl ?_
        refine xg_goto C 2 dX4_looks_88 (by decide) ?_
        have e : bX4_looks_2 (nI i) x = (xu x 24 0 (nI i) (x 24 0 (nI i))) := by first | (rw [bX4_looks_2, if_neg h2, if_neg h8]; done) | (rw [bX4_looks_2, if_neg h2, if_neg h8]; rfl)
        rw [e] at K
        exact xg_le K ⟨rfl, rfl, trivial⟩
      · refine xg_iload_n C dX4_looks_63 rfl ?_
        refine xg_bipush C dX4_looks_64 (v := (8 : Int32)) (by decide) ?_
        refine xg_idiv C dX4_looks_66 (by decide) ?_
        refine xg_iload_n C dX4_looks_67 rfl ?_
        refine xg_bipush C dX4_looks_68 (v := (8 : Int32)) (by decide) ?_
        refine xg_irem C dX4_looks_70 (by decide) ?_
        refine xg_icmp_ne C 83 dX4_looks_71 (by decide) (fun h9 => ?_) (fun h9 => ?_)
        · refine xg_iload_n C dX4_looks_83 rfl ?_
          refine xg_iast C V (f := 24) (n := 1) (N := 64) rfl (by decide) (xR_0 (by decide)) (by first | assumption | exact xin_one (by assumption) | exact xin_asks (by assumption) | exact xin_ask1 (by assumption) | exact xin_ask2 (by assumption)) dX4_looks_84 ?_
          refine xg_iinc C dX4_looks_85 rfl (v := (nI (i + 1))) (xinc i) (by decide) (L' := [some (.ref (G.2.2 0 0)), some (.int (nI (i + 1))), some (.int ((x 0 0 (nI 28)) - (x 23 0 (nI i)))), some (.int (2 : Int32))]) rfl ?_
          refine xg_goto C 2 dX4_looks_88 (by decide) ?_
          have e : bX4_looks_2 (nI i) x = (xu x 24 0 (nI i) (2 : Int32)) := by first | (rw [bX4_looks_2, if_neg h2, if_pos h8, if_neg h9]; done) | (rw [bX4_looks_2, if_neg h2, if_pos h8, if_neg h9]; rfl)
          rw [e] at K
          exact xg_le K ⟨rfl, rfl, trivial⟩
        · refine xg_aload_n C dX4_looks_74 rfl ?_
          refine xg_getR C V (f := 0) qX4_looks_80 rfl rfl rfl dX4_looks_75 ?_
          refine xg_iload_n C dX4_looks_78 rfl ?_
          refine xg_iald C V (f := 24) (n := 1) (N := 64) rfl (by decide) (xR_0 (by decide)) (by first | assumption | exact xin_one (by assumption) | exact xin_asks (by assumption) | exact xin_ask1 (by assumption) | exact xin_ask2 (by assumption)) dX4_looks_79 (v := (x 24 0 (nI i))) rfl ?_
          refine xg_goto C 84 dX4_looks_80 (by decide) ?_
          refine xg_iast C V (f := 24) (n := 1) (N := 64) rfl (by decide) (xR_0 (by decide)) (by first | assumption | exact xin_one (by assumption) | exact xin_asks (by assumption) | exact xin_ask1 (by assumption) | exact xin_ask2 (by assumption)) dX4_looks_84 ?_
          refine xg_iinc C dX4_looks_85 rfl (v := (nI (i + 1))) (xinc i) (by decide) (L' := [some (.ref (G.2.2 0 0)), some (.int (nI (i + 1))), some (.int ((x 0 0 (nI 28)) - (x 23 0 (nI i)))), some (.int (2 : Int32))]) rfl ?_
          refine xg_goto C 2 dX4_looks_88 (by decide) ?_
          have e : bX4_looks_2 (nI i) x = (xu x 24 0 (nI i) (x 24 0 (nI i))) := by first | (rw [bX4_looks_2, if_neg h2, if_pos h8, if_pos h9]; done) | (rw [bX4_looks_2, if_neg h2, if_pos h8, if_pos h9]; rfl)
          rw [e] at K
          exact xg_le K ⟨rfl, rfl, trivial⟩
  · show xg F 0 0 2 [some (.ref (G.2.2 0 0)), some (.int (nI 64)), none, none] [] (xP xYm G (xfold bX4_looks_2 64 S))
    refine xg_iload_n C dX4_looks_2 rfl ?_
    refine xg_bipush C dX4_looks_3 (v := (64 : Int32)) (by decide) ?_
    refine xg_icmp_ge C 91 dX4_looks_5 (by decide) (fun h10 => ?_) (fun h10 => absurd (nI_le (Nat.le_refl _) (by decide)) h10)
    exact xret_v E dX4_looks_91 (rfl)
theorem xk_X4_looks {S : xS} : fX4_looks S 1 = S 1 := by
  unfold fX4_looks
  rw [xfold_keep 1 _ _ _ (fun i x => by unfold bX4_looks_2; (repeat' split) <;> simp [xu])]
