/-! 09: GossipGates: what a tick does -/
theorem iX3_ruleGate_X3 : ∀ w ∈ wsX30, w ∈ wsX3_ruleGate := by decide +kernel
theorem qX3_ruleGate_19 : xFr wsX3_ruleGate RX3 19 RX3 TX3 4 1 := ⟨iX3_ruleGate_X3, List.mem_of_getElem? (i := 3) rfl, by decide⟩
theorem qX3_ruleGate_26 : xFr wsX3_ruleGate RX3 26 RX3 TX3 4 2 := ⟨iX3_ruleGate_X3, List.mem_of_getElem? (i := 1) rfl, by decide⟩
theorem iX3_ruleGate_X1 : ∀ w ∈ wsX10, w ∈ wsX3_ruleGate := by decide +kernel
theorem qX3_ruleGate_136 : xFr wsX3_ruleGate RX3 136 RX1 TX1 12 4 := ⟨iX3_ruleGate_X1, List.mem_of_getElem? (i := 5) rfl, by decide⟩
theorem qX3_ruleGate_30 : xFr wsX3_ruleGate RX3 30 RX3 TX3 4 3 := ⟨iX3_ruleGate_X3, List.mem_of_getElem? (i := 2) rfl, by decide⟩
theorem iX3_ruleGate_X0 : ∀ w ∈ wsX00, w ∈ wsX3_ruleGate := by decide +kernel
theorem qX3_ruleGate_83 : xFr wsX3_ruleGate RX3 83 RX0 TX0 8 5 := ⟨iX3_ruleGate_X0, List.mem_of_getElem? (i := 4) rfl, by decide⟩
theorem qX3_ruleGate_80 : xFr wsX3_ruleGate RX3 80 RX0 TX0 8 4 := ⟨iX3_ruleGate_X0, List.mem_of_getElem? (i := 6) rfl, by decide⟩
def fX3_ruleGate (a1 : Int32) (S : xS) : xS :=
  if (8 : Int32) ≤ (a1 + (1 : Int32)) then
    (fX0_follow a1 (S 29 a1 a1) (1 : Int32) S)
  else
    if (fX1_isOld a1 (a1 + (1 : Int32)) (S 0 0 (nI 3)) (S 16 0 a1) S) = (0 : Int32) then
      if (S 15 0 a1) ≤ (S 29 a1 (a1 + (1 : Int32))) then
        (fX0_follow a1 (S 29 a1 a1) (0 : Int32) S)
      else
        (fX0_follow a1 (S 29 a1 a1) (1 : Int32) S)
    else
      (fX0_openForSafety a1 S)
theorem hdX3_ruleGate : yX3_ruleGate.cls = RX3 ∧ yX3_ruleGate.cls ≠ "java/lang/invoke/MethodHandle" ∧ yX3_ruleGate.cls ≠ "java/lang/invoke/VarHandle" ∧ (parseMethodDescriptor yX3_ruleGate.desc).map (fun d => d.parameters.length) = some 1 := by decide +kernel
set_option maxRecDepth 100000 in
set_option maxHeartbeats 4000000 in
theorem kX3_ruleGate (l : Launch) {G : xG} (hap : xAp xYc G) (a1 : Int32) (S : xS) (g_a1 : vp_in a1 8) : xMv l xYc G yX3_ruleGate wsX3_ruleGate 2 63 [.ref (G.2.2 0 0), .int a1] S (fX3_ruleGate a1 S) := by
  refine xMv_of (cc := cX3_ruleGate) (maxL := 5) (own := RX3) [some (.ref (G.2.2 0 0)), some (.int a1), none, none, none] pnX3 rfl rfl (xcat1 rfl) (Nat.le_of_ble_eq_true rfl) rfl hap (fun F C V E => ?_)
  refine xg_iload_n C dX3_ruleGate_0 rfl ?_
  refine xg_iconst C dX3_ruleGate_1 (v := (1 : Int32)) (by decide) ?_
  refine xg_iadd C dX3_ruleGate_2 ?_
  refine xg_istore_n C dX3_ruleGate_3 (by decide) (L' := [some (.ref (G.2.2 0 0)), some (.int a1), some (.int (a1 + (1 : Int32))), none, none]) rfl ?_
  refine xg_iload_n C dX3_ruleGate_4 rfl ?_
  refine xg_bipush C dX3_ruleGate_5 (v := (8 : Int32)) (by decide) ?_
  refine xg_icmp_ge C 14 dX3_ruleGate_7 (by decide) (fun h1 => ?_) (fun h1 => ?_)
  · refine xg_iconst C dX3_ruleGate_14 (v := (0 : Int32)) (by decide) ?_
    refine xg_istore_n C dX3_ruleGate_15 (by decide) (L' := [some (.ref (G.2.2 0 0)), some (.int a1), some (.int (a1 + (1 : Int32))), some (.int (0 : Int32)), none]) rfl ?_
    refine xg_iload_n C dX3_ruleGate_16 rfl ?_
    refine xg_if_eq C 54 dX3_ruleGate_17 (by decide) (fun h2 => ?_) (fun h2 => by exact absurd h2 (by decide))
    refine xg_iload_n C dX3_ruleGate_54 rfl ?_
    refine xg_if_eq C 81 dX3_ruleGate_55 (by decide) (fun h3 => ?_) (fun h3 => by exact absurd h3 (by decide))
    refine xg_iconst C dX3_ruleGate_81 (v := (1 : Int32)) (by decide) ?_
    refine xg_goto C 86 dX3_ruleGate_82 (by decide) ?_
    refine xg_istore C dX3_ruleGate_86 (by decide) (L' := [some (.ref (G.2.2 0 0)), some (.int a1), some (.int (a1 + (1 : Int32))), some (.int (0 : Int32)), some (.int (1 : Int32))]) rfl ?_
    refine xg_aload_n C dX3_ruleGate_88 rfl ?_
    refine xg_getR C V (f := 0) qX3_ruleGate_19 rfl rfl rfl dX3_ruleGate_89 ?_
    refine xg_iload_n C dX3_ruleGate_92 rfl ?_
    refine xg_aload_n C dX3_ruleGate_93 rfl ?_
    refine xg_getR C V (f := 0) qX3_ruleGate_26 rfl rfl rfl dX3_ruleGate_94 ?_
    refine xg_getR C V (f := 3) qX3_ruleGate_136 rfl rfl rfl dX3_ruleGate_97 ?_
    refine xg_iload_n C dX3_ruleGate_100 rfl ?_
    refine xg_aald C V (f := 23) (b := 29) rfl (by assumption) dX3_ruleGate_101 ?_
    refine xg_iload_n C dX3_ruleGate_102 rfl ?_
    refine xg_iald C V (f := 29) (n := 8) (N := 8) rfl (by decide) (xR_8 (by decide) (by assumption)) (by assumption) dX3_ruleGate_103 (v := (S 29 a1 a1)) rfl ?_
    refine xg_iload C dX3_ruleGate_104 rfl ?_
    refine xg_callVv C V (f := 2) (As := [.int a1, .int (S 29 a1 a1), .int (1 : Int32)]) (fun l => kX0_follow l hap a1 (S 29 a1 a1) (1 : Int32) S (by assumption)) gX3_ruleGate_X0_follow rfl hdX0_follow ⟨by decide, by decide⟩ rfl rfl rfl rfl rfl (Nat.le_of_ble_eq_true rfl) ⟨Nat.zero_le _, Nat.zero_le _⟩ dX3_ruleGate_106 ?_
    exact xret_v E dX3_ruleGate_109 (by first | (rw [fX3_ruleGate, if_pos h1]; done) | (rw [fX3_ruleGate, if_pos h1]; rfl))
  · refine xg_iconst C dX3_ruleGate_10 (v := (1 : Int32)) (by decide) ?_
    refine xg_goto C 15 dX3_ruleGate_11 (by decide) ?_
    refine xg_istore_n C dX3_ruleGate_15 (by decide) (L' := [some (.ref (G.2.2 0 0)), some (.int a1), some (.int (a1 + (1 : Int32))), some (.int (1 : Int32)), none]) rfl ?_
    refine xg_iload_n C dX3_ruleGate_16 rfl ?_
    refine xg_if_eq C 54 dX3_ruleGate_17 (by decide) (fun h4 => by exact absurd h4 (by decide)) (fun h4 => ?_)
    refine xg_aload_n C dX3_ruleGate_20 rfl ?_
    refine xg_getR C V (f := 0) qX3_ruleGate_26 rfl rfl rfl dX3_ruleGate_21 ?_
    refine xg_iload_n C dX3_ruleGate_24 rfl ?_
    refine xg_iload_n C dX3_ruleGate_25 rfl ?_
    refine xg_aload_n C dX3_ruleGate_26 rfl ?_
    refine xg_getI C V (f := 0) qX3_ruleGate_30 rfl rfl rfl dX3_ruleGate_27 (v := (S 0 0 (nI 3))) rfl ?_
    refine xg_aload_n C dX3_ruleGate_30 rfl ?_
    refine xg_getR C V (f := 0) qX3_ruleGate_19 rfl rfl rfl dX3_ruleGate_31 ?_
    refine xg_getR C V (f := 2) qX3_ruleGate_83 rfl rfl rfl dX3_ruleGate_34 ?_
    refine xg_iload_n C dX3_ruleGate_37 rfl ?_
    refine xg_iald C V (f := 16) (n := 1) (N := 8) rfl (by decide) (xR_0 (by decide)) (by assumption) dX3_ruleGate_38 (v := (S 16 0 a1)) rfl ?_
    refine xg_callVi C V (f := 3) (As := [.int a1, .int (a1 + (1 : Int32)), .int (S 0 0 (nI 3)), .int (S 16 0 a1)]) (r := (fX1_isOld a1 (a1 + (1 : Int32)) (S 0 0 (nI 3)) (S 16 0 a1) S)) (fun l => kX1_isOld l hap a1 (a1 + (1 : Int32)) (S 0 0 (nI 3)) (S 16 0 a1) S (by assumption) (by first | exact xin_a (by assumption) (by assumption) | exact xin_b (by assumption) (by assumption) | exact xin_c (by assumption) (by assumption))) gX3_ruleGate_X1_isOld rfl hdX1_isOld ⟨by decide, by decide⟩ rfl rfl rfl rfl rfl (Nat.le_of_ble_eq_true rfl) ⟨Nat.zero_le _, Nat.zero_le _⟩ dX3_ruleGate_39 ?_
    refine xg_if_eq C 54 dX3_ruleGate_42 (by decide) (fun h5 => ?_) (fun h5 => ?_)
    · refine xg_iload_n C dX3_ruleGate_54 rfl ?_
      refine xg_if_eq C 81 dX3_ruleGate_55 (by decide) (fun h6 => by exact absurd h6 (by decide)) (fun h6 => ?_)
      refine xg_aload_n C dX3_ruleGate_58 rfl ?_
      refine xg_getR C V (f := 0) qX3_ruleGate_26 rfl rfl rfl dX3_ruleGate_59 ?_
      refine xg_getR C V (f := 3) qX3_ruleGate_136 rfl rfl rfl dX3_ruleGate_62 ?_
      refine xg_iload_n C dX3_ruleGate_65 rfl ?_
      refine xg_aald C V (f := 23) (b := 29) rfl (by assumption) dX3_ruleGate_66 ?_
      refine xg_iload_n C dX3_ruleGate_67 rfl ?_
      refine xg_iald C V (f := 29) (n := 8) (N := 8) rfl (by decide) (xR_8 (by decide) (by assumption)) (by first | exact xin_a (by assumption) (by assumption) | exact xin_b (by assumption) (by assumption) | exact xin_c (by assumption) (by assumption)) dX3_ruleGate_68 (v := (S 29 a1 (a1 + (1 : Int32)))) rfl ?_
      refine xg_aload_n C dX3_ruleGate_69 rfl ?_
      refine xg_getR C V (f := 0) qX3_ruleGate_19 rfl rfl rfl dX3_ruleGate_70 ?_
      refine xg_getR C V (f := 2) qX3_ruleGate_80 rfl rfl rfl dX3_ruleGate_73 ?_
      refine xg_iload_n C dX3_ruleGate_76 rfl ?_
      refine xg_iald C V (f := 15) (n := 1) (N := 8) rfl (by decide) (xR_0 (by decide)) (by assumption) dX3_ruleGate_77 (v := (S 15 0 a1)) rfl ?_
      refine xg_icmp_ge C 85 dX3_ruleGate_78 (by decide) (fun h7 => ?_) (fun h7 => ?_)
      · refine xg_iconst C dX3_ruleGate_85 (v := (0 : Int32)) (by decide) ?_
        refine xg_istore C dX3_ruleGate_86 (by decide) (L' := [some (.ref (G.2.2 0 0)), some (.int a1), some (.int (a1 + (1 : Int32))), some (.int (1 : Int32)), some (.int (0 : Int32))]) rfl ?_
        refine xg_aload_n C dX3_ruleGate_88 rfl ?_
        refine xg_getR C V (f := 0) qX3_ruleGate_19 rfl rfl rfl dX3_ruleGate_89 ?_
        refine xg_iload_n C dX3_ruleGate_92 rfl ?_
        refine xg_aload_n C dX3_ruleGate_93 rfl ?_
        refine xg_getR C V (f := 0) qX3_ruleGate_26 rfl rfl rfl dX3_ruleGate_94 ?_
        refine xg_getR C V (f := 3) qX3_ruleGate_136 rfl rfl rfl dX3_ruleGate_97 ?_
        refine xg_iload_n C dX3_ruleGate_100 rfl ?_
        refine xg_aald C V (f := 23) (b := 29) rfl (by assumption) dX3_ruleGate_101 ?_
        refine xg_iload_n C dX3_ruleGate_102 rfl ?_
        refine xg_iald C V (f := 29) (n := 8) (N := 8) rfl (by decide) (xR_8 (by decide) (by assumption)) (by assumption) dX3_ruleGate_103 (v := (S 29 a1 a1)) rfl ?_
        refine xg_iload C dX3_ruleGate_104 rfl ?_
        refine xg_callVv C V (f := 2) (As := [.int a1, .int (S 29 a1 a1), .int (0 : Int32)]) (fun l => kX0_follow l hap a1 (S 29 a1 a1) (0 : Int32) S (by assumption)) gX3_ruleGate_X0_follow rfl hdX0_follow ⟨by decide, by decide⟩ rfl rfl rfl rfl rfl (Nat.le_of_ble_eq_true rfl) ⟨Nat.zero_le _, Nat.zero_le _⟩ dX3_ruleGate_106 ?_
        exact xret_v E dX3_ruleGate_109 (by first | (rw [fX3_ruleGate, if_neg h1, if_pos h5, if_pos h7]; done) | (rw [fX3_ruleGate, if_neg h1, if_pos h5, if_pos h7]; rfl))
      · refine xg_iconst C dX3_ruleGate_81 (v := (1 : Int32)) (by decide) ?_
        refine xg_goto C 86 dX3_ruleGate_82 (by decide) ?_
        refine xg_istore C dX3_ruleGate_86 (by decide) (L' := [some (.ref (G.2.2 0 0)), some (.int a1), some (.int (a1 + (1 : Int32))), some (.int (1 : Int32)), some (.int (1 : Int32))]) rfl ?_
        refine xg_aload_n C dX3_ruleGate_88 rfl ?_
        refine xg_getR C V (f := 0) qX3_ruleGate_19 rfl rfl rfl dX3_ruleGate_89 ?_
        refine xg_iload_n C dX3_ruleGate_92 rfl ?_
        refine xg_aload_n C dX3_ruleGate_93 rfl ?_
        refine xg_getR C V (f := 0) qX3_ruleGate_26 rfl rfl rfl dX3_ruleGate_94 ?_
        refine xg_getR C V (f := 3) qX3_ruleGate_136 rfl rfl rfl dX3_ruleGate_97 ?_
        refine xg_iload_n C dX3_ruleGate_100 rfl ?_
        refine xg_aald C V (f := 23) (b := 29) rfl (by assumption) dX3_ruleGate_101 ?_
        refine xg_iload_n C dX3_ruleGate_102 rfl ?_
        refine xg_iald C V (f := 29) (n := 8) (N := 8) rfl (by decide) (xR_8 (by decide) (by assumption)) (by assumption) dX3_ruleGate_103 (v := (S 29 a1 a1)) rfl ?_
        refine xg_iload C dX3_ruleGate_104 rfl ?_
        refine xg_callVv C V (f := 2) (As := [.int a1, .int (S 29 a1 a1), .int (1 : Int32)]) (fun l => kX0_follow l hap a1 (S 29 a1 a1) (1 : Int32) S (by assumption)) gX3_ruleGate_X0_follow rfl hdX0_follow ⟨by decide, by decide⟩ rfl rfl rfl rfl rfl (Nat.le_of_ble_eq_true rfl) ⟨Nat.zero_le _, Nat.zero_le _⟩ dX3_ruleGate_106 ?_
        exact xret_v E dX3_ruleGate_109 (by first | (rw [fX3_ruleGate, if_neg h1, if_pos h5, if_neg h7]; done) | (rw [fX3_ruleGate, if_neg h1, if_pos h5, if_neg h7]; rfl))
    · refine xg_aload_n C dX3_ruleGate_45 rfl ?_
      refine xg_getR C V (f := 0) qX3_ruleGate_19 rfl rfl rfl dX3_ruleGate_46 ?_
      refine xg_iload_n C dX3_ruleGate_49 rfl ?_
      refine xg_callVv C V (f := 2) (As := [.int a1]) (fun l => kX0_openForSafety l hap a1 S (by assumption)) gX3_ruleGate_X0_openForSafety rfl hdX0_openForSafety ⟨by decide, by decide⟩ rfl rfl rfl rfl rfl (Nat.le_of_ble_eq_true rfl) ⟨Nat.zero_le _, Nat.zero_le _⟩ dX3_ruleGate_50 ?_
      exact xret_v E dX3_ruleGate_53 (by first | (rw [fX3_ruleGate, if_neg h1, if_neg h5]; done) | (rw [fX3_ruleGate, if_neg h1, if_neg h5]; rfl))
theorem iX3_ruleGates_X3 : ∀ w ∈ wsX30, w ∈ wsX3_ruleGates := by decide +kernel
theorem qX3_ruleGates_26 : xFr wsX3_ruleGates RX3 26 RX3 TX3 4 2 := ⟨iX3_ruleGates_X3, List.mem_of_getElem? (i := 1) rfl, by decide⟩
theorem iX3_ruleGates_X1 : ∀ w ∈ wsX10, w ∈ wsX3_ruleGates := by decide +kernel
theorem qX3_ruleGates_103 : xFr wsX3_ruleGates RX3 103 RX1 TX1 12 0 := ⟨iX3_ruleGates_X1, List.mem_of_getElem? (i := 2) rfl, by decide⟩
theorem qX3_ruleGates_19 : xFr wsX3_ruleGates RX3 19 RX3 TX3 4 1 := ⟨iX3_ruleGates_X3, List.mem_of_getElem? (i := 3) rfl, by decide⟩
theorem iX3_ruleGates_X0 : ∀ w ∈ wsX00, w ∈ wsX3_ruleGates := by decide +kernel
theorem qX3_ruleGates_86 : xFr wsX3_ruleGates RX3 86 RX0 TX0 8 7 := ⟨iX3_ruleGates_X0, List.mem_of_getElem? (i := 4) rfl, by decide⟩
def bX3_ruleGates_2  (i : Int32) (x : xS) : xS :=
  if (x 19 0 i) = (0 : Int32) then
    if (x 18 0 i) = (0 : Int32) then
      (fX3_ruleGate i x)
    else
      x
  else
    x
def fX3_ruleGates  (S : xS) : xS :=
  (xfold bX3_ruleGates_2 8 S)
theorem hdX3_ruleGates : yX3_ruleGates.cls = RX3 ∧ yX3_ruleGates.cls ≠ "java/lang/invoke/MethodHandle" ∧ yX3_ruleGates.cls ≠ "java/lang/invoke/VarHandle" ∧ (parseMethodDescriptor yX3_ruleGates.desc).map (fun d => d.parameters.length) = some 0 := by decide +kernel
set_option maxRecDepth 100000 in
set_option maxHeartbeats 4000000 in
theorem kX3_ruleGates (l : Launch) {G : xG} (hap : xAp xYc G)  (S : xS)  : xMv l xYc G yX3_ruleGates wsX3_ruleGates 3 87 [.ref (G.2.2 0 0)] S (fX3_ruleGates S) := by
  refine xMv_of (cc := cX3_ruleGates) (maxL := 2) (own := RX3) [some (.ref (G.2.2 0 0)), none] pnX3 rfl rfl (xcat1 rfl) (Nat.le_of_ble_eq_true rfl) rfl hap (fun F C V E => ?_)
  refine xg_iconst C dX3_ruleGates_0 (v := (0 : Int32)) (by decide) ?_
  refine xg_istore_n C dX3_ruleGates_1 (by decide) (L' := [some (.ref (G.2.2 0 0)), some (.int (0 : Int32))]) rfl ?_
  refine xloop (fun (ii : Int32) (x : xS) => xg F 0 0 2 [some (.ref (G.2.2 0 0)), some (.int ii)] [] (xP xYc G x)) bX3_ruleGates_2 8 S (fun i hi x K => ?_) ?_
  · have hi8 : vp_in (nI i) 8 := vp_in_nI hi (by decide)
    show xg F 0 0 2 [some (.ref (G.2.2 0 0)), some (.int (nI i))] [] (xP xYc G x)
    refine xg_iload_n C dX3_ruleGates_2 rfl ?_
    refine xg_bipush C dX3_ruleGates_3 (v := (8 : Int32)) (by decide) ?_
    refine xg_icmp_ge C 43 dX3_ruleGates_5 (by decide) (fun h1 => absurd h1 (nI_ge hi (by decide))) (fun h1 => ?_)
    refine xg_aload_n C dX3_ruleGates_8 rfl ?_
    refine xg_getR C V (f := 0) qX3_ruleGates_26 rfl rfl rfl dX3_ruleGates_9 ?_
    refine xg_getR C V (f := 3) qX3_ruleGates_103 rfl rfl rfl dX3_ruleGates_12 ?_
    refine xg_iload_n C dX3_ruleGates_15 rfl ?_
    refine xg_zald C V (f := 19) (n := 1) (N := 8) rfl (by decide) (xR_0 (by decide)) (by assumption) dX3_ruleGates_16 (v := (x 19 0 (nI i))) rfl ?_
    refine xg_if_ne C 37 dX3_ruleGates_17 (by decide) (fun h2 => ?_) (fun h2 => ?_)
    · refine xg_iinc C dX3_ruleGates_37 rfl (v := (nI (i + 1))) (xinc i) (by decide) (L' := [some (.ref (G.2.2 0 0)), some (.int (nI (i + 1)))]) rfl ?_
      refine xg_goto C 2 dX3_ruleGates_40 (by decide) ?_
      have e : bX3_ruleGates_2 (nI i) x = x := by first | (rw [bX3_ruleGates_2, if_neg h2]; done) | (rw [bX3_ruleGates_2, if_neg h2]; rfl)
      rw [e] at K
      exact xg_le K ⟨rfl, rfl, trivial⟩
    · refine xg_aload_n C dX3_ruleGates_20 rfl ?_
      refine xg_getR C V (f := 0) qX3_ruleGates_19 rfl rfl rfl dX3_ruleGates_21 ?_
      refine xg_getR C V (f := 2) qX3_ruleGates_86 rfl rfl rfl dX3_ruleGates_24 ?_
      refine xg_iload_n C dX3_ruleGates_27 rfl ?_
      refine xg_zald C V (f := 18) (n := 1) (N := 8) rfl (by decide) (xR_0 (by decide)) (by assumption) dX3_ruleGates_28 (v := (x 18 0 (nI i))) rfl ?_
      refine xg_if_ne C 37 dX3_ruleGates_29 (by decide) (fun h3 => ?_) (fun h3 => ?_)
      · refine xg_iinc C dX3_ruleGates_37 rfl (v := (nI (i + 1))) (xinc i) (by decide) (L' := [some (.ref (G.2.2 0 0)), some (.int (nI (i + 1)))]) rfl ?_
        refine xg_goto C 2 dX3_ruleGates_40 (by decide) ?_
        have e : bX3_ruleGates_2 (nI i) x = x := by first | (rw [bX3_ruleGates_2, if_pos h2, if_neg h3]; done) | (rw [bX3_ruleGates_2, if_pos h2, if_neg h3]; rfl)
        rw [e] at K
        exact xg_le K ⟨rfl, rfl, trivial⟩
      · refine xg_aload_n C dX3_ruleGates_32 rfl ?_
        refine xg_iload_n C dX3_ruleGates_33 rfl ?_
        refine xg_callVv C V (f := 0) (As := [.int (nI i)]) (fun l => kX3_ruleGate l hap (nI i) x (by assumption)) gX3_ruleGates_X3_ruleGate rfl hdX3_ruleGate ⟨by decide, by decide⟩ rfl rfl rfl rfl rfl (Nat.le_of_ble_eq_true rfl) ⟨Nat.zero_le _, Nat.zero_le _⟩ dX3_ruleGates_34 ?_
        refine xg_iinc C dX3_ruleGates_37 rfl (v := (nI (i + 1))) (xinc i) (by decide) (L' := [some (.ref (G.2.2 0 0)), some (.int (nI (i + 1)))]) rfl ?_
        refine xg_goto C 2 dX3_ruleGates_40 (by decide) ?_
        have e : bX3_ruleGates_2 (nI i) x = (fX3_ruleGate (nI i) x) := by first | (rw [bX3_ruleGates_2, if_pos h2, if_pos h3]; done) | (rw [bX3_ruleGates_2, if_pos h2, if_pos h3]; rfl)
        rw [e] at K
        exact xg_le K ⟨rfl, rfl, trivial⟩
  · show xg F 0 0 2 [some (.ref (G.2.2 0 0)), some (.int (nI 8))] [] (xP xYc G (xfold bX3_ruleGates_2 8 S))
    refine xg_iload_n C dX3_ruleGates_2 rfl ?_
    refine xg_bipush C dX3_ruleGates_3 (v := (8 : Int32)) (by decide) ?_
    refine xg_icmp_ge C 43 dX3_ruleGates_5 (by decide) (fun h4 => ?_) (fun h4 => absurd (nI_le (Nat.le_refl _) (by decide)) h4)
    exact xret_v E dX3_ruleGates_43 (rfl)
theorem iX3_passOneTick_X3 : ∀ w ∈ wsX30, w ∈ wsX3_passOneTick := by decide +kernel
theorem qX3_passOneTick_30 : xFr wsX3_passOneTick RX3 30 RX3 TX3 4 3 := ⟨iX3_passOneTick_X3, List.mem_of_getElem? (i := 1) rfl, by decide⟩
theorem qX3_passOneTick_10 : xFr wsX3_passOneTick RX3 10 RX3 TX3 4 0 := ⟨iX3_passOneTick_X3, List.mem_of_getElem? (i := 2) rfl, by decide⟩
theorem qX3_passOneTick_19 : xFr wsX3_passOneTick RX3 19 RX3 TX3 4 1 := ⟨iX3_passOneTick_X3, List.mem_of_getElem? (i := 3) rfl, by decide⟩
theorem qX3_passOneTick_26 : xFr wsX3_passOneTick RX3 26 RX3 TX3 4 2 := ⟨iX3_passOneTick_X3, List.mem_of_getElem? (i := 4) rfl, by decide⟩
def sX3_passOneTick_14  (S : xS) : xS := (fX2_takeIn (xu S 0 0 (nI 3) ((S 0 0 (nI 3)) + (1 : Int32))))
def sX3_passOneTick_25  (S : xS) : xS := (fX2_letThrough (sX3_passOneTick_14 S))
def sX3_passOneTick_32  (S : xS) : xS := (fX2_spillOver (sX3_passOneTick_25 S)).1
def sX3_passOneTick_48  (S : xS) : xS := (fX1_measureAll ((sX3_passOneTick_32 S) 0 0 (nI 3)) (sX3_passOneTick_32 S))
def sX3_passOneTick_59  (S : xS) : xS := (fX1_callAll ((sX3_passOneTick_48 S) 0 0 (nI 3)) (sX3_passOneTick_48 S))
def sX3_passOneTick_70  (S : xS) : xS := (fX1_lookAll ((sX3_passOneTick_59 S) 0 0 (nI 3)) (sX3_passOneTick_59 S))
def sX3_passOneTick_74  (S : xS) : xS := (fX3_ruleGates (sX3_passOneTick_70 S))
def fX3_passOneTick  (S : xS) : xS × Int32 :=
  ((sX3_passOneTick_74 S), (fX2_spillOver (sX3_passOneTick_25 S)).2)
theorem hdX3_passOneTick : yX3_passOneTick.cls = RX3 ∧ yX3_passOneTick.cls ≠ "java/lang/invoke/MethodHandle" ∧ yX3_passOneTick.cls ≠ "java/lang/invoke/VarHandle" ∧ (parseMethodDescriptor yX3_passOneTick.desc).map (fun d => d.parameters.length) = some 0 := by decide +kernel
set_option maxRecDepth 100000 in
set_option maxHeartbeats 4000000 in
theorem kX3_passOneTick (l : Launch) {G : xG} (hap : xAp xYc G)  (S : xS)  : xMi l xYc G yX3_passOneTick wsX3_passOneTick 4 108 [.ref (G.2.2 0 0)] S (fX3_passOneTick S).1 (fX3_passOneTick S).2 := by
  refine xMi_of (cc := cX3_passOneTick) (maxL := 2) (ty := .int) (own := RX3) [some (.ref (G.2.2 0 0)), none] pnX3 rfl rfl rfl (xcat1 rfl) (Nat.le_of_ble_eq_true rfl) rfl hap (fun F C V E => ?_)
  refine xg_aload_n C dX3_passOneTick_0 rfl ?_
  refine xg_dup C dX3_passOneTick_1 rfl ?_
  refine xg_getI C V (f := 0) qX3_passOneTick_30 rfl rfl rfl dX3_passOneTick_2 (v := (S 0 0 (nI 3))) rfl ?_
  refine xg_iconst C dX3_passOneTick_5 (v := (1 : Int32)) (by decide) ?_
  refine xg_iadd C dX3_passOneTick_6 ?_
  refine xg_putI C V (f := 0) qX3_passOneTick_30 rfl (by decide) rfl rfl tyX3_ok nmX3 rfl rfl dX3_passOneTick_7 ?_
  refine xg_aload_n C dX3_passOneTick_10 rfl ?_
  refine xg_getR C V (f := 0) qX3_passOneTick_10 rfl rfl rfl dX3_passOneTick_11 ?_
  refine xg_callVv C V (f := 1) (As := []) (fun l => kX2_takeIn l hap  (xu S 0 0 (nI 3) ((S 0 0 (nI 3)) + (1 : Int32)))) gX3_passOneTick_X2_takeIn rfl hdX2_takeIn ⟨by decide, by decide⟩ rfl rfl rfl rfl rfl (Nat.le_of_ble_eq_true rfl) ⟨Nat.zero_le _, Nat.zero_le _⟩ dX3_passOneTick_14 ?_
  refine xg_abb (show (sX3_passOneTick_14 S) = _ from rfl) ?_
  refine xg_aload_n C dX3_passOneTick_17 rfl ?_
  refine xg_getR C V (f := 0) qX3_passOneTick_10 rfl rfl rfl dX3_passOneTick_18 ?_
  refine xg_aload_n C dX3_passOneTick_21 rfl ?_
  refine xg_getR C V (f := 0) qX3_passOneTick_19 rfl rfl rfl dX3_passOneTick_22 ?_
  refine xg_callVv C V (f := 1) (As := [.ref (G.2.2 2 0)]) (fun l => kX2_letThrough l hap  (sX3_passOneTick_14 S)) gX3_passOneTick_X2_letThrough rfl hdX2_letThrough ⟨by decide, by decide⟩ rfl rfl rfl rfl rfl (Nat.le_of_ble_eq_true rfl) ⟨Nat.zero_le _, Nat.zero_le _⟩ dX3_passOneTick_25 ?_
  refine xg_abb (show (sX3_passOneTick_25 S) = _ from rfl) ?_
  refine xg_aload_n C dX3_passOneTick_28 rfl ?_
  refine xg_getR C V (f := 0) qX3_passOneTick_10 rfl rfl rfl dX3_passOneTick_29 ?_
  refine xg_callVi C V (f := 1) (As := []) (r := (fX2_spillOver (sX3_passOneTick_25 S)).2) (fun l => kX2_spillOver l hap  (sX3_passOneTick_25 S)) gX3_passOneTick_X2_spillOver rfl hdX2_spillOver ⟨by decide, by decide⟩ rfl rfl rfl rfl rfl (Nat.le_of_ble_eq_true rfl) ⟨Nat.zero_le _, Nat.zero_le _⟩ dX3_passOneTick_32 ?_
  refine xg_abb (show (sX3_passOneTick_32 S) = _ from rfl) ?_
  refine xg_istore_n C dX3_passOneTick_35 (by decide) (L' := [some (.ref (G.2.2 0 0)), some (.int (fX2_spillOver (sX3_passOneTick_25 S)).2)]) rfl ?_
  refine xg_aload_n C dX3_passOneTick_36 rfl ?_
  refine xg_getR C V (f := 0) qX3_passOneTick_26 rfl rfl rfl dX3_passOneTick_37 ?_
  refine xg_aload_n C dX3_passOneTick_40 rfl ?_
  refine xg_getR C V (f := 0) qX3_passOneTick_10 rfl rfl rfl dX3_passOneTick_41 ?_
  refine xg_aload_n C dX3_passOneTick_44 rfl ?_
  refine xg_getI C V (f := 0) qX3_passOneTick_30 rfl rfl rfl dX3_passOneTick_45 (v := ((sX3_passOneTick_32 S) 0 0 (nI 3))) rfl ?_
  refine xg_callVv C V (f := 3) (As := [.ref (G.2.2 1 0), .int ((sX3_passOneTick_32 S) 0 0 (nI 3))]) (fun l => kX1_measureAll l hap ((sX3_passOneTick_32 S) 0 0 (nI 3)) (sX3_passOneTick_32 S)) gX3_passOneTick_X1_measureAll rfl hdX1_measureAll ⟨by decide, by decide⟩ rfl rfl rfl rfl rfl (Nat.le_of_ble_eq_true rfl) ⟨Nat.zero_le _, Nat.zero_le _⟩ dX3_passOneTick_48 ?_
  refine xg_abb (show (sX3_passOneTick_48 S) = _ from rfl) ?_
  refine xg_aload_n C dX3_passOneTick_51 rfl ?_
  refine xg_getR C V (f := 0) qX3_passOneTick_26 rfl rfl rfl dX3_passOneTick_52 ?_
  refine xg_aload_n C dX3_passOneTick_55 rfl ?_
  refine xg_getI C V (f := 0) qX3_passOneTick_30 rfl rfl rfl dX3_passOneTick_56 (v := ((sX3_passOneTick_48 S) 0 0 (nI 3))) rfl ?_
  refine xg_callVv C V (f := 3) (As := [.int ((sX3_passOneTick_48 S) 0 0 (nI 3))]) (fun l => kX1_callAll l hap ((sX3_passOneTick_48 S) 0 0 (nI 3)) (sX3_passOneTick_48 S)) gX3_passOneTick_X1_callAll rfl hdX1_callAll ⟨by decide, by decide⟩ rfl rfl rfl rfl rfl (Nat.le_of_ble_eq_true rfl) ⟨Nat.zero_le _, Nat.zero_le _⟩ dX3_passOneTick_59 ?_
  refine xg_abb (show (sX3_passOneTick_59 S) = _ from rfl) ?_
  refine xg_aload_n C dX3_passOneTick_62 rfl ?_
  refine xg_getR C V (f := 0) qX3_passOneTick_26 rfl rfl rfl dX3_passOneTick_63 ?_
  refine xg_aload_n C dX3_passOneTick_66 rfl ?_
  refine xg_getI C V (f := 0) qX3_passOneTick_30 rfl rfl rfl dX3_passOneTick_67 (v := ((sX3_passOneTick_59 S) 0 0 (nI 3))) rfl ?_
  refine xg_callVv C V (f := 3) (As := [.int ((sX3_passOneTick_59 S) 0 0 (nI 3))]) (fun l => kX1_lookAll l hap ((sX3_passOneTick_59 S) 0 0 (nI 3)) (sX3_passOneTick_59 S)) gX3_passOneTick_X1_lookAll rfl hdX1_lookAll ⟨by decide, by decide⟩ rfl rfl rfl rfl rfl (Nat.le_of_ble_eq_true rfl) ⟨Nat.zero_le _, Nat.zero_le _⟩ dX3_passOneTick_70 ?_
  refine xg_abb (show (sX3_passOneTick_70 S) = _ from rfl) ?_
  refine xg_aload_n C dX3_passOneTick_73 rfl ?_
  refine xg_callVv C V (f := 0) (As := []) (fun l => kX3_ruleGates l hap  (sX3_passOneTick_70 S)) gX3_passOneTick_X3_ruleGates rfl hdX3_ruleGates ⟨by decide, by decide⟩ rfl rfl rfl rfl rfl (Nat.le_of_ble_eq_true rfl) ⟨Nat.zero_le _, Nat.zero_le _⟩ dX3_passOneTick_74 ?_
  refine xg_abb (show (sX3_passOneTick_74 S) = _ from rfl) ?_
  refine xg_iload_n C dX3_passOneTick_77 rfl ?_
  have e : (fX3_passOneTick S) = ((sX3_passOneTick_74 S), (fX2_spillOver (sX3_passOneTick_25 S)).2) := rfl
  exact xret_i E dX3_passOneTick_78 (xsnd e) (xfst e)
