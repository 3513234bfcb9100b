/-! 07: GossipGates$Gates, GossipGates$River: contracts by program (wip/whole/gen.py, plan.py) -/
theorem iX0_mostThrough_X0 : ∀ w ∈ wsX00, w ∈ wsX0_mostThrough := by decide +kernel
theorem qX0_mostThrough_15 : xFr wsX0_mostThrough RX0 15 RX0 TX0 8 1 := ⟨iX0_mostThrough_X0, List.mem_of_getElem? (i := 1) rfl, by decide⟩
theorem qX0_mostThrough_9 : xFr wsX0_mostThrough RX0 9 RX0 TX0 8 0 := ⟨iX0_mostThrough_X0, List.mem_of_getElem? (i := 2) rfl, by decide⟩
def fX0_mostThrough (a1 : Int32) (S : xS) : Int32 :=
  ((S 12 0 a1) * (S 11 0 a1))
theorem hdX0_mostThrough : yX0_mostThrough.cls = RX0 ∧ yX0_mostThrough.cls ≠ "java/lang/invoke/MethodHandle" ∧ yX0_mostThrough.cls ≠ "java/lang/invoke/VarHandle" ∧ (parseMethodDescriptor yX0_mostThrough.desc).map (fun d => d.parameters.length) = some 1 := by decide +kernel
set_option maxRecDepth 100000 in
set_option maxHeartbeats 4000000 in
theorem kX0_mostThrough (l : Launch) {G : xG} (hap : xAp xYc G) (a1 : Int32) (S : xS) (g_a1 : vp_in a1 8) : xMi l xYc G yX0_mostThrough wsX0_mostThrough 0 0 [.ref (G.2.2 2 0), .int a1] S S (fX0_mostThrough a1 S) := by
  refine xMi_of (cc := cX0_mostThrough) (maxL := 2) (ty := .int) (own := RX0) [some (.ref (G.2.2 2 0)), some (.int a1)] pnX0 rfl rfl rfl (xcat1 rfl) (Nat.le_of_ble_eq_true rfl) rfl hap (fun F C V E => ?_)
  refine xg_aload_n C dX0_mostThrough_0 rfl ?_
  refine xg_getR C V (f := 2) qX0_mostThrough_15 rfl rfl rfl dX0_mostThrough_1 ?_
  refine xg_iload_n C dX0_mostThrough_4 rfl ?_
  refine xg_iald C V (f := 12) (n := 1) (N := 8) rfl (by decide) (xR_0 (by decide)) (by assumption) dX0_mostThrough_5 (v := (S 12 0 a1)) rfl ?_
  refine xg_aload_n C dX0_mostThrough_6 rfl ?_
  refine xg_getR C V (f := 2) qX0_mostThrough_9 rfl rfl rfl dX0_mostThrough_7 ?_
  refine xg_iload_n C dX0_mostThrough_10 rfl ?_
  refine xg_iald C V (f := 11) (n := 1) (N := 8) rfl (by decide) (xR_0 (by decide)) (by assumption) dX0_mostThrough_11 (v := (S 11 0 a1)) rfl ?_
  refine xg_imul C dX0_mostThrough_12 ?_
  exact xret_i E dX0_mostThrough_13 (rfl) rfl
theorem iX0_openForSafety_X0 : ∀ w ∈ wsX00, w ∈ wsX0_openForSafety := by decide +kernel
theorem qX0_openForSafety_15 : xFr wsX0_openForSafety RX0 15 RX0 TX0 8 1 := ⟨iX0_openForSafety_X0, List.mem_of_getElem? (i := 1) rfl, by decide⟩
theorem qX0_openForSafety_30 : xFr wsX0_openForSafety RX0 30 RX0 TX0 8 6 := ⟨iX0_openForSafety_X0, List.mem_of_getElem? (i := 6) rfl, by decide⟩
def fX0_openForSafety (a1 : Int32) (S : xS) : xS :=
  (xu (xu S 12 0 a1 (if (10 : Int32) < ((S 12 0 a1) + (2 : Int32)) then (10 : Int32) else ((S 12 0 a1) + (2 : Int32)))) 17 0 a1 ((S 17 0 a1) + (1 : Int32)))
theorem hdX0_openForSafety : yX0_openForSafety.cls = RX0 ∧ yX0_openForSafety.cls ≠ "java/lang/invoke/MethodHandle" ∧ yX0_openForSafety.cls ≠ "java/lang/invoke/VarHandle" ∧ (parseMethodDescriptor yX0_openForSafety.desc).map (fun d => d.parameters.length) = some 1 := by decide +kernel
set_option maxRecDepth 100000 in
set_option maxHeartbeats 4000000 in
theorem kX0_openForSafety (l : Launch) {G : xG} (hap : xAp xYc G) (a1 : Int32) (S : xS) (g_a1 : vp_in a1 8) : xMv l xYc G yX0_openForSafety wsX0_openForSafety 1 40 [.ref (G.2.2 2 0), .int a1] S (fX0_openForSafety a1 S) := by
  refine xMv_of (cc := cX0_openForSafety) (maxL := 2) (own := RX0) [some (.ref (G.2.2 2 0)), some (.int a1)] pnX0 rfl rfl (xcat1 rfl) (Nat.le_of_ble_eq_true rfl) rfl hap (fun F C V E => ?_)
  refine xg_aload_n C dX0_openForSafety_0 rfl ?_
  refine xg_getR C V (f := 2) qX0_openForSafety_15 rfl rfl rfl dX0_openForSafety_1 ?_
  refine xg_iload_n C dX0_openForSafety_4 rfl ?_
  refine xg_aload_n C dX0_openForSafety_5 rfl ?_
  refine xg_getR C V (f := 2) qX0_openForSafety_15 rfl rfl rfl dX0_openForSafety_6 ?_
  refine xg_iload_n C dX0_openForSafety_9 rfl ?_
  refine xg_iald C V (f := 12) (n := 1) (N := 8) rfl (by decide) (xR_0 (by decide)) (by assumption) dX0_openForSafety_10 (v := (S 12 0 a1)) rfl ?_
  refine xg_iconst C dX0_openForSafety_11 (v := (2 : Int32)) (by decide) ?_
  refine xg_iadd C dX0_openForSafety_12 ?_
  refine xg_bipush C dX0_openForSafety_13 (v := (10 : Int32)) (by decide) ?_
  refine xg_mmin C (List.mem_of_getElem? (i := 2) rfl) (List.mem_of_getElem? (i := 3) rfl) (List.mem_of_getElem? (i := 4) rfl) (List.mem_of_getElem? (i := 5) rfl) (Nat.le_of_ble_eq_true rfl) (Nat.le_of_ble_eq_true rfl) ⟨Nat.zero_le _, Nat.zero_le _⟩ dX0_openForSafety_15 ?_
  refine xg_iast C V (f := 12) (n := 1) (N := 8) rfl (by decide) (xR_0 (by decide)) (by assumption) dX0_openForSafety_18 ?_
  refine xg_aload_n C dX0_openForSafety_19 rfl ?_
  refine xg_getR C V (f := 2) qX0_openForSafety_30 rfl rfl rfl dX0_openForSafety_20 ?_
  refine xg_iload_n C dX0_openForSafety_23 rfl ?_
  refine xg_dup2 C dX0_openForSafety_24 rfl rfl ?_
  refine xg_iald C V (f := 17) (n := 1) (N := 8) rfl (by decide) (xR_0 (by decide)) (by assumption) dX0_openForSafety_25 (v := (S 17 0 a1)) (xu_ne (by decide)) ?_
  refine xg_iconst C dX0_openForSafety_26 (v := (1 : Int32)) (by decide) ?_
  refine xg_iadd C dX0_openForSafety_27 ?_
  refine xg_iast C V (f := 17) (n := 1) (N := 8) rfl (by decide) (xR_0 (by decide)) (by assumption) dX0_openForSafety_28 ?_
  exact xret_v E dX0_openForSafety_29 (rfl)
theorem iX0_follow_X0 : ∀ w ∈ wsX00, w ∈ wsX0_follow := by decide +kernel
theorem qX0_follow_21 : xFr wsX0_follow RX0 21 RX0 TX0 8 3 := ⟨iX0_follow_X0, List.mem_of_getElem? (i := 1) rfl, by decide⟩
theorem qX0_follow_18 : xFr wsX0_follow RX0 18 RX0 TX0 8 2 := ⟨iX0_follow_X0, List.mem_of_getElem? (i := 7) rfl, by decide⟩
theorem qX0_follow_15 : xFr wsX0_follow RX0 15 RX0 TX0 8 1 := ⟨iX0_follow_X0, List.mem_of_getElem? (i := 2) rfl, by decide⟩
def fX0_follow (a1 : Int32) (a2 : Int32) (a3 : Int32) (S : xS) : xS :=
  if a2 ≤ (S 14 0 a1) then
    if (S 13 0 a1) ≤ a2 then
      S
    else
      (xu S 12 0 a1 (if ((S 12 0 a1) - (1 : Int32)) < (0 : Int32) then (0 : Int32) else ((S 12 0 a1) - (1 : Int32))))
  else
    if a3 = (0 : Int32) then
      if (S 13 0 a1) ≤ a2 then
        S
      else
        (xu S 12 0 a1 (if ((S 12 0 a1) - (1 : Int32)) < (0 : Int32) then (0 : Int32) else ((S 12 0 a1) - (1 : Int32))))
    else
      (xu S 12 0 a1 (if (10 : Int32) < ((S 12 0 a1) + (1 : Int32)) then (10 : Int32) else ((S 12 0 a1) + (1 : Int32))))
theorem hdX0_follow : yX0_follow.cls = RX0 ∧ yX0_follow.cls ≠ "java/lang/invoke/MethodHandle" ∧ yX0_follow.cls ≠ "java/lang/invoke/VarHandle" ∧ (parseMethodDescriptor yX0_follow.desc).map (fun d => d.parameters.length) = some 3 := by decide +kernel
set_option maxRecDepth 100000 in
set_option maxHeartbeats 4000000 in
theorem kX0_follow (l : Launch) {G : xG} (hap : xAp xYc G) (a1 : Int32) (a2 : Int32) (a3 : Int32) (S : xS) (g_a1 : vp_in a1 8) : xMv l xYc G yX0_follow wsX0_follow 1 40 [.ref (G.2.2 2 0), .int a1, .int a2, .int a3] S (fX0_follow a1 a2 a3 S) := by
  refine xMv_of (cc := cX0_follow) (maxL := 4) (own := RX0) [some (.ref (G.2.2 2 0)), some (.int a1), some (.int a2), some (.int a3)] pnX0 rfl rfl (xcat1 rfl) (Nat.le_of_ble_eq_true rfl) rfl hap (fun F C V E => ?_)
  refine xg_iload_n C dX0_follow_0 rfl ?_
  refine xg_aload_n C dX0_follow_1 rfl ?_
  refine xg_getR C V (f := 2) qX0_follow_21 rfl rfl rfl dX0_follow_2 ?_
  refine xg_iload_n C dX0_follow_5 rfl ?_
  refine xg_iald C V (f := 14) (n := 1) (N := 8) rfl (by decide) (xR_0 (by decide)) (by assumption) dX0_follow_6 (v := (S 14 0 a1)) rfl ?_
  refine xg_icmp_le C 36 dX0_follow_7 (by decide) (fun h1 => ?_) (fun h1 => ?_)
  · refine xg_iload_n C dX0_follow_36 rfl ?_
    refine xg_aload_n C dX0_follow_37 rfl ?_
    refine xg_getR C V (f := 2) qX0_follow_18 rfl rfl rfl dX0_follow_38 ?_
    refine xg_iload_n C dX0_follow_41 rfl ?_
    refine xg_iald C V (f := 13) (n := 1) (N := 8) rfl (by decide) (xR_0 (by decide)) (by assumption) dX0_follow_42 (v := (S 13 0 a1)) rfl ?_
    refine xg_icmp_ge C 64 dX0_follow_43 (by decide) (fun h2 => ?_) (fun h2 => ?_)
    · exact xret_v E dX0_follow_64 (by first | (rw [fX0_follow, if_pos h1, if_pos h2]; done) | (rw [fX0_follow, if_pos h1, if_pos h2]; rfl))
    · refine xg_aload_n C dX0_follow_46 rfl ?_
      refine xg_getR C V (f := 2) qX0_follow_15 rfl rfl rfl dX0_follow_47 ?_
      refine xg_iload_n C dX0_follow_50 rfl ?_
      refine xg_aload_n C dX0_follow_51 rfl ?_
      refine xg_getR C V (f := 2) qX0_follow_15 rfl rfl rfl dX0_follow_52 ?_
      refine xg_iload_n C dX0_follow_55 rfl ?_
      refine xg_iald C V (f := 12) (n := 1) (N := 8) rfl (by decide) (xR_0 (by decide)) (by assumption) dX0_follow_56 (v := (S 12 0 a1)) rfl ?_
      refine xg_iconst C dX0_follow_57 (v := (1 : Int32)) (by decide) ?_
      refine xg_isub C dX0_follow_58 ?_
      refine xg_iconst C dX0_follow_59 (v := (0 : Int32)) (by decide) ?_
      refine xg_mmax C (List.mem_of_getElem? (i := 8) rfl) (List.mem_of_getElem? (i := 9) rfl) (List.mem_of_getElem? (i := 5) rfl) (List.mem_of_getElem? (i := 10) rfl) (Nat.le_of_ble_eq_true rfl) (Nat.le_of_ble_eq_true rfl) ⟨Nat.zero_le _, Nat.zero_le _⟩ dX0_follow_60 ?_
      refine xg_iast C V (f := 12) (n := 1) (N := 8) rfl (by decide) (xR_0 (by decide)) (by assumption) dX0_follow_63 ?_
      exact xret_v E dX0_follow_64 (by first | (rw [fX0_follow, if_pos h1, if_neg h2]; done) | (rw [fX0_follow, if_pos h1, if_neg h2]; rfl))
  · refine xg_iload_n C dX0_follow_10 rfl ?_
    refine xg_if_eq C 36 dX0_follow_11 (by decide) (fun h3 => ?_) (fun h3 => ?_)
    · refine xg_iload_n C dX0_follow_36 rfl ?_
      refine xg_aload_n C dX0_follow_37 rfl ?_
      refine xg_getR C V (f := 2) qX0_follow_18 rfl rfl rfl dX0_follow_38 ?_
      refine xg_iload_n C dX0_follow_41 rfl ?_
      refine xg_iald C V (f := 13) (n := 1) (N := 8) rfl (by decide) (xR_0 (by decide)) (by assumption) dX0_follow_42 (v := (S 13 0 a1)) rfl ?_
      refine xg_icmp_ge C 64 dX0_follow_43 (by decide) (fun h4 => ?_) (fun h4 => ?_)
      · exact xret_v E dX0_follow_64 (by first | (rw [fX0_follow, if_neg h1, if_pos h3, if_pos h4]; done) | (rw [fX0_follow, if_neg h1, if_pos h3, if_pos h4]; rfl))
      · refine xg_aload_n C dX0_follow_46 rfl ?_
        refine xg_getR C V (f := 2) qX0_follow_15 rfl rfl rfl dX0_follow_47 ?_
        refine xg_iload_n C dX0_follow_50 rfl ?_
        refine xg_aload_n C dX0_follow_51 rfl ?_
        refine xg_getR C V (f := 2) qX0_follow_15 rfl rfl rfl dX0_follow_52 ?_
        refine xg_iload_n C dX0_follow_55 rfl ?_
        refine xg_iald C V (f := 12) (n := 1) (N := 8) rfl (by decide) (xR_0 (by decide)) (by assumption) dX0_follow_56 (v := (S 12 0 a1)) rfl ?_
        refine xg_iconst C dX0_follow_57 (v := (1 : Int32)) (by decide) ?_
        refine xg_isub C dX0_follow_58 ?_
        refine xg_iconst C dX0_follow_59 (v := (0 : Int32)) (by decide) ?_
        refine xg_mmax C (List.mem_of_getElem? (i := 8) rfl) (List.mem_of_getElem? (i := 9) rfl) (List.mem_of_getElem? (i := 5) rfl) (List.mem_of_getElem? (i := 10) rfl) (Nat.le_of_ble_eq_true rfl) (Nat.le_of_ble_eq_true rfl) ⟨Nat.zero_le _, Nat.zero_le _⟩ dX0_follow_60 ?_
        refine xg_iast C V (f := 12) (n := 1) (N := 8) rfl (by decide) (xR_0 (by decide)) (by assumption) dX0_follow_63 ?_
        exact xret_v E dX0_follow_64 (by first | (rw [fX0_follow, if_neg h1, if_pos h3, if_neg h4]; done) | (rw [fX0_follow, if_neg h1, if_pos h3, if_neg h4]; rfl))
    · refine xg_aload_n C dX0_follow_14 rfl ?_
      refine xg_getR C V (f := 2) qX0_follow_15 rfl rfl rfl dX0_follow_15 ?_
      refine xg_iload_n C dX0_follow_18 rfl ?_
      refine xg_aload_n C dX0_follow_19 rfl ?_
      refine xg_getR C V (f := 2) qX0_follow_15 rfl rfl rfl dX0_follow_20 ?_
      refine xg_iload_n C dX0_follow_23 rfl ?_
      refine xg_iald C V (f := 12) (n := 1) (N := 8) rfl (by decide) (xR_0 (by decide)) (by assumption) dX0_follow_24 (v := (S 12 0 a1)) rfl ?_
      refine xg_iconst C dX0_follow_25 (v := (1 : Int32)) (by decide) ?_
      refine xg_iadd C dX0_follow_26 ?_
      refine xg_bipush C dX0_follow_27 (v := (10 : Int32)) (by decide) ?_
      refine xg_mmin C (List.mem_of_getElem? (i := 3) rfl) (List.mem_of_getElem? (i := 4) rfl) (List.mem_of_getElem? (i := 5) rfl) (List.mem_of_getElem? (i := 6) rfl) (Nat.le_of_ble_eq_true rfl) (Nat.le_of_ble_eq_true rfl) ⟨Nat.zero_le _, Nat.zero_le _⟩ dX0_follow_29 ?_
      refine xg_iast C V (f := 12) (n := 1) (N := 8) rfl (by decide) (xR_0 (by decide)) (by assumption) dX0_follow_32 ?_
      refine xg_goto C 64 dX0_follow_33 (by decide) ?_
      exact xret_v E dX0_follow_64 (by first | (rw [fX0_follow, if_neg h1, if_neg h3]; done) | (rw [fX0_follow, if_neg h1, if_neg h3]; rfl))
theorem iX2_levelOf_X2 : ∀ w ∈ wsX20, w ∈ wsX2_levelOf := by decide +kernel
theorem qX2_levelOf_9 : xFr wsX2_levelOf RX2 9 RX2 TX2 8 0 := ⟨iX2_levelOf_X2, List.mem_of_getElem? (i := 1) rfl, by decide⟩
theorem qX2_levelOf_18 : xFr wsX2_levelOf RX2 18 RX2 TX2 8 2 := ⟨iX2_levelOf_X2, List.mem_of_getElem? (i := 2) rfl, by decide⟩
def fX2_levelOf (a1 : Int32) (S : xS) : Int32 :=
  if (1 : Int32) ≤ (S 4 0 a1) then
    ((S 6 0 a1) / (S 4 0 a1))
  else
    (0 : Int32)
theorem hdX2_levelOf : yX2_levelOf.cls = RX2 ∧ yX2_levelOf.cls ≠ "java/lang/invoke/MethodHandle" ∧ yX2_levelOf.cls ≠ "java/lang/invoke/VarHandle" ∧ (parseMethodDescriptor yX2_levelOf.desc).map (fun d => d.parameters.length) = some 1 := by decide +kernel
set_option maxRecDepth 100000 in
set_option maxHeartbeats 4000000 in
theorem kX2_levelOf (l : Launch) {G : xG} (hap : xAp xYc G) (a1 : Int32) (S : xS) (g_a1 : vp_in a1 8) : xMi l xYc G yX2_levelOf wsX2_levelOf 0 0 [.ref (G.2.2 1 0), .int a1] S S (fX2_levelOf a1 S) := by
  refine xMi_of (cc := cX2_levelOf) (maxL := 3) (ty := .int) (own := RX2) [some (.ref (G.2.2 1 0)), some (.int a1), none] pnX2 rfl rfl rfl (xcat1 rfl) (Nat.le_of_ble_eq_true rfl) rfl hap (fun F C V E => ?_)
  refine xg_aload_n C dX2_levelOf_0 rfl ?_
  refine xg_getR C V (f := 1) qX2_levelOf_9 rfl rfl rfl dX2_levelOf_1 ?_
  refine xg_iload_n C dX2_levelOf_4 rfl ?_
  refine xg_iald C V (f := 4) (n := 1) (N := 8) rfl (by decide) (xR_0 (by decide)) (by assumption) dX2_levelOf_5 (v := (S 4 0 a1)) rfl ?_
  refine xg_istore_n C dX2_levelOf_6 (by decide) (L' := [some (.ref (G.2.2 1 0)), some (.int a1), some (.int (S 4 0 a1))]) rfl ?_
  refine xg_iload_n C dX2_levelOf_7 rfl ?_
  refine xg_iconst C dX2_levelOf_8 (v := (1 : Int32)) (by decide) ?_
  refine xg_icmp_ge C 16 dX2_levelOf_9 (by decide) (fun h1 => ?_) (fun h1 => ?_)
  · refine xg_aload_n C dX2_levelOf_16 rfl ?_
    refine xg_getR C V (f := 1) qX2_levelOf_18 rfl rfl rfl dX2_levelOf_17 ?_
    refine xg_iload_n C dX2_levelOf_20 rfl ?_
    refine xg_iald C V (f := 6) (n := 1) (N := 8) rfl (by decide) (xR_0 (by decide)) (by assumption) dX2_levelOf_21 (v := (S 6 0 a1)) rfl ?_
    refine xg_iload_n C dX2_levelOf_22 rfl ?_
    refine xg_idiv C dX2_levelOf_23 (xne2 (by assumption)) ?_
    exact xret_i E dX2_levelOf_24 (by first | (rw [fX2_levelOf, if_pos h1]; done) | (rw [fX2_levelOf, if_pos h1]; rfl)) rfl
  · refine xg_iconst C dX2_levelOf_12 (v := (0 : Int32)) (by decide) ?_
    refine xg_goto C 24 dX2_levelOf_13 (by decide) ?_
    exact xret_i E dX2_levelOf_24 (by first | (rw [fX2_levelOf, if_neg h1]; done) | (rw [fX2_levelOf, if_neg h1]; rfl)) rfl
theorem iX2_balanceOf_X2 : ∀ w ∈ wsX20, w ∈ wsX2_balanceOf := by decide +kernel
theorem qX2_balanceOf_24 : xFr wsX2_balanceOf RX2 24 RX2 TX2 8 4 := ⟨iX2_balanceOf_X2, List.mem_of_getElem? (i := 1) rfl, by decide⟩
theorem qX2_balanceOf_27 : xFr wsX2_balanceOf RX2 27 RX2 TX2 8 5 := ⟨iX2_balanceOf_X2, List.mem_of_getElem? (i := 2) rfl, by decide⟩
theorem qX2_balanceOf_30 : xFr wsX2_balanceOf RX2 30 RX2 TX2 8 6 := ⟨iX2_balanceOf_X2, List.mem_of_getElem? (i := 3) rfl, by decide⟩
def fX2_balanceOf (a1 : Int32) (S : xS) : Int32 :=
  if a1 ≤ (0 : Int32) then
    (((S 8 0 a1) - (S 9 0 a1)) - (S 10 0 a1))
  else
    ((((S 8 0 a1) + ((S 9 0 (a1 - (1 : Int32))) + (S 10 0 (a1 - (1 : Int32))))) - (S 9 0 a1)) - (S 10 0 a1))
theorem hdX2_balanceOf : yX2_balanceOf.cls = RX2 ∧ yX2_balanceOf.cls ≠ "java/lang/invoke/MethodHandle" ∧ yX2_balanceOf.cls ≠ "java/lang/invoke/VarHandle" ∧ (parseMethodDescriptor yX2_balanceOf.desc).map (fun d => d.parameters.length) = some 1 := by decide +kernel
set_option maxRecDepth 100000 in
set_option maxHeartbeats 4000000 in
theorem kX2_balanceOf (l : Launch) {G : xG} (hap : xAp xYc G) (a1 : Int32) (S : xS) (g_a1 : vp_in a1 8) : xMi l xYc G yX2_balanceOf wsX2_balanceOf 0 0 [.ref (G.2.2 1 0), .int a1] S S (fX2_balanceOf a1 S) := by
  refine xMi_of (cc := cX2_balanceOf) (maxL := 3) (ty := .int) (own := RX2) [some (.ref (G.2.2 1 0)), some (.int a1), none] pnX2 rfl rfl rfl (xcat1 rfl) (Nat.le_of_ble_eq_true rfl) rfl hap (fun F C V E => ?_)
  refine xg_aload_n C dX2_balanceOf_0 rfl ?_
  refine xg_getR C V (f := 1) qX2_balanceOf_24 rfl rfl rfl dX2_balanceOf_1 ?_
  refine xg_iload_n C dX2_balanceOf_4 rfl ?_
  refine xg_iald C V (f := 8) (n := 1) (N := 8) rfl (by decide) (xR_0 (by decide)) (by assumption) dX2_balanceOf_5 (v := (S 8 0 a1)) rfl ?_
  refine xg_istore_n C dX2_balanceOf_6 (by decide) (L' := [some (.ref (G.2.2 1 0)), some (.int a1), some (.int (S 8 0 a1))]) rfl ?_
  refine xg_iload_n C dX2_balanceOf_7 rfl ?_
  refine xg_if_le C 31 dX2_balanceOf_8 (by decide) (fun h1 => ?_) (fun h1 => ?_)
  · refine xg_iload_n C dX2_balanceOf_31 rfl ?_
    refine xg_aload_n C dX2_balanceOf_32 rfl ?_
    refine xg_getR C V (f := 1) qX2_balanceOf_27 rfl rfl rfl dX2_balanceOf_33 ?_
    refine xg_iload_n C dX2_balanceOf_36 rfl ?_
    refine xg_iald C V (f := 9) (n := 1) (N := 8) rfl (by decide) (xR_0 (by decide)) (by assumption) dX2_balanceOf_37 (v := (S 9 0 a1)) rfl ?_
    refine xg_isub C dX2_balanceOf_38 ?_
    refine xg_aload_n C dX2_balanceOf_39 rfl ?_
    refine xg_getR C V (f := 1) qX2_balanceOf_30 rfl rfl rfl dX2_balanceOf_40 ?_
    refine xg_iload_n C dX2_balanceOf_43 rfl ?_
    refine xg_iald C V (f := 10) (n := 1) (N := 8) rfl (by decide) (xR_0 (by decide)) (by assumption) dX2_balanceOf_44 (v := (S 10 0 a1)) rfl ?_
    refine xg_isub C dX2_balanceOf_45 ?_
    exact xret_i E dX2_balanceOf_46 (by first | (rw [fX2_balanceOf, if_pos h1]; done) | (rw [fX2_balanceOf, if_pos h1]; rfl)) rfl
  · refine xg_iload_n C dX2_balanceOf_11 rfl ?_
    refine xg_aload_n C dX2_balanceOf_12 rfl ?_
    refine xg_getR C V (f := 1) qX2_balanceOf_27 rfl rfl rfl dX2_balanceOf_13 ?_
    refine xg_iload_n C dX2_balanceOf_16 rfl ?_
    refine xg_iconst C dX2_balanceOf_17 (v := (1 : Int32)) (by decide) ?_
    refine xg_isub C dX2_balanceOf_18 ?_
    refine xg_iald C V (f := 9) (n := 1) (N := 8) rfl (by decide) (xR_0 (by decide)) (by first | exact xin_d (by assumption) (by assumption) | exact xin_e (by assumption) (by assumption)) dX2_balanceOf_19 (v := (S 9 0 (a1 - (1 : Int32)))) rfl ?_
    refine xg_aload_n C dX2_balanceOf_20 rfl ?_
    refine xg_getR C V (f := 1) qX2_balanceOf_30 rfl rfl rfl dX2_balanceOf_21 ?_
    refine xg_iload_n C dX2_balanceOf_24 rfl ?_
    refine xg_iconst C dX2_balanceOf_25 (v := (1 : Int32)) (by decide) ?_
    refine xg_isub C dX2_balanceOf_26 ?_
    refine xg_iald C V (f := 10) (n := 1) (N := 8) rfl (by decide) (xR_0 (by decide)) (by first | exact xin_d (by assumption) (by assumption) | exact xin_e (by assumption) (by assumption)) dX2_balanceOf_27 (v := (S 10 0 (a1 - (1 : Int32)))) rfl ?_
    refine xg_iadd C dX2_balanceOf_28 ?_
    refine xg_iadd C dX2_balanceOf_29 ?_
    refine xg_istore_n C dX2_balanceOf_30 (by decide) (L' := [some (.ref (G.2.2 1 0)), some (.int a1), some (.int ((S 8 0 a1) + ((S 9 0 (a1 - (1 : Int32))) + (S 10 0 (a1 - (1 : Int32))))))]) rfl ?_
    refine xg_iload_n C dX2_balanceOf_31 rfl ?_
    refine xg_aload_n C dX2_balanceOf_32 rfl ?_
    refine xg_getR C V (f := 1) qX2_balanceOf_27 rfl rfl rfl dX2_balanceOf_33 ?_
    refine xg_iload_n C dX2_balanceOf_36 rfl ?_
    refine xg_iald C V (f := 9) (n := 1) (N := 8) rfl (by decide) (xR_0 (by decide)) (by assumption) dX2_balanceOf_37 (v := (S 9 0 a1)) rfl ?_
    refine xg_isub C dX2_balanceOf_38 ?_
    refine xg_aload_n C dX2_balanceOf_39 rfl ?_
    refine xg_getR C V (f := 1) qX2_balanceOf_30 rfl rfl rfl dX2_balanceOf_40 ?_
    refine xg_iload_n C dX2_balanceOf_43 rfl ?_
    refine xg_iald C V (f := 10) (n := 1) (N := 8) rfl (by decide) (xR_0 (by decide)) (by assumption) dX2_balanceOf_44 (v := (S 10 0 a1)) rfl ?_
    refine xg_isub C dX2_balanceOf_45 ?_
    exact xret_i E dX2_balanceOf_46 (by first | (rw [fX2_balanceOf, if_neg h1]; done) | (rw [fX2_balanceOf, if_neg h1]; rfl)) rfl
theorem iX2_receive_X2 : ∀ w ∈ wsX20, w ∈ wsX2_receive := by decide +kernel
theorem qX2_receive_18 : xFr wsX2_receive RX2 18 RX2 TX2 8 2 := ⟨iX2_receive_X2, List.mem_of_getElem? (i := 1) rfl, by decide⟩
theorem qX2_receive_24 : xFr wsX2_receive RX2 24 RX2 TX2 8 4 := ⟨iX2_receive_X2, List.mem_of_getElem? (i := 2) rfl, by decide⟩
def fX2_receive (a1 : Int32) (a2 : Int32) (S : xS) : xS :=
  (xu (xu S 6 0 a1 ((S 6 0 a1) + a2)) 8 0 a1 ((S 8 0 a1) + a2))
theorem hdX2_receive : yX2_receive.cls = RX2 ∧ yX2_receive.cls ≠ "java/lang/invoke/MethodHandle" ∧ yX2_receive.cls ≠ "java/lang/invoke/VarHandle" ∧ (parseMethodDescriptor yX2_receive.desc).map (fun d => d.parameters.length) = some 2 := by decide +kernel
set_option maxRecDepth 100000 in
set_option maxHeartbeats 4000000 in
theorem kX2_receive (l : Launch) {G : xG} (hap : xAp xYc G) (a1 : Int32) (a2 : Int32) (S : xS) (g_a1 : vp_in a1 8) : xMv l xYc G yX2_receive wsX2_receive 0 0 [.ref (G.2.2 1 0), .int a1, .int a2] S (fX2_receive a1 a2 S) := by
  refine xMv_of (cc := cX2_receive) (maxL := 3) (own := RX2) [some (.ref (G.2.2 1 0)), some (.int a1), some (.int a2)] pnX2 rfl rfl (xcat1 rfl) (Nat.le_of_ble_eq_true rfl) rfl hap (fun F C V E => ?_)
  refine xg_aload_n C dX2_receive_0 rfl ?_
  refine xg_getR C V (f := 1) qX2_receive_18 rfl rfl rfl dX2_receive_1 ?_
  refine xg_iload_n C dX2_receive_4 rfl ?_
  refine xg_dup2 C dX2_receive_5 rfl rfl ?_
  refine xg_iald C V (f := 6) (n := 1) (N := 8) rfl (by decide) (xR_0 (by decide)) (by assumption) dX2_receive_6 (v := (S 6 0 a1)) rfl ?_
  refine xg_iload_n C dX2_receive_7 rfl ?_
  refine xg_iadd C dX2_receive_8 ?_
  refine xg_iast C V (f := 6) (n := 1) (N := 8) rfl (by decide) (xR_0 (by decide)) (by assumption) dX2_receive_9 ?_
  refine xg_aload_n C dX2_receive_10 rfl ?_
  refine xg_getR C V (f := 1) qX2_receive_24 rfl rfl rfl dX2_receive_11 ?_
  refine xg_iload_n C dX2_receive_14 rfl ?_
  refine xg_dup2 C dX2_receive_15 rfl rfl ?_
  refine xg_iald C V (f := 8) (n := 1) (N := 8) rfl (by decide) (xR_0 (by decide)) (by assumption) dX2_receive_16 (v := (S 8 0 a1)) (xu_ne (by decide)) ?_
  refine xg_iload_n C dX2_receive_17 rfl ?_
  refine xg_iadd C dX2_receive_18 ?_
  refine xg_iast C V (f := 8) (n := 1) (N := 8) rfl (by decide) (xR_0 (by decide)) (by assumption) dX2_receive_19 ?_
  exact xret_v E dX2_receive_20 (rfl)
theorem iX2_takeIn_X2 : ∀ w ∈ wsX20, w ∈ wsX2_takeIn := by decide +kernel
theorem qX2_takeIn_33 : xFr wsX2_takeIn RX2 33 RX2 TX2 8 7 := ⟨iX2_takeIn_X2, List.mem_of_getElem? (i := 1) rfl, by decide⟩
theorem qX2_takeIn_21 : xFr wsX2_takeIn RX2 21 RX2 TX2 8 3 := ⟨iX2_takeIn_X2, List.mem_of_getElem? (i := 2) rfl, by decide⟩
def bX2_takeIn_11  (i : Int32) (x : xS) : xS :=
  (xu (fX2_receive i (x 7 0 i) x) 7 0 i (0 : Int32))
def fX2_takeIn  (S : xS) : xS :=
  (xfold bX2_takeIn_11 8 (fX2_receive (0 : Int32) (S 1 0 (nI 7)) S))
theorem hdX2_takeIn : yX2_takeIn.cls = RX2 ∧ yX2_takeIn.cls ≠ "java/lang/invoke/MethodHandle" ∧ yX2_takeIn.cls ≠ "java/lang/invoke/VarHandle" ∧ (parseMethodDescriptor yX2_takeIn.desc).map (fun d => d.parameters.length) = some 0 := by decide +kernel
set_option maxRecDepth 100000 in
set_option maxHeartbeats 4000000 in
theorem kX2_takeIn (l : Launch) {G : xG} (hap : xAp xYc G)  (S : xS)  : xMv l xYc G yX2_takeIn wsX2_takeIn 1 22 [.ref (G.2.2 1 0)] S (fX2_takeIn S) := by
  refine xMv_of (cc := cX2_takeIn) (maxL := 2) (own := RX2) [some (.ref (G.2.2 1 0)), none] pnX2 rfl rfl (xcat1 rfl) (Nat.le_of_ble_eq_true rfl) rfl hap (fun F C V E => ?_)
  refine xg_aload_n C dX2_takeIn_0 rfl ?_
  refine xg_iconst C dX2_takeIn_1 (v := (0 : Int32)) (by decide) ?_
  refine xg_aload_n C dX2_takeIn_2 rfl ?_
  refine xg_getI C V (f := 1) qX2_takeIn_33 rfl rfl rfl dX2_takeIn_3 (v := (S 1 0 (nI 7))) rfl ?_
  refine xg_callVv C V (f := 1) (As := [.int (0 : Int32), .int (S 1 0 (nI 7))]) (fun l => kX2_receive l hap (0 : Int32) (S 1 0 (nI 7)) S (vp_in_iff.mpr ⟨by decide, by decide⟩)) gX2_takeIn_X2_receive rfl hdX2_receive ⟨by decide, by decide⟩ rfl rfl rfl rfl rfl (Nat.le_of_ble_eq_true rfl) ⟨Nat.zero_le _, Nat.zero_le _⟩ dX2_takeIn_6 ?_
  refine xg_iconst C dX2_takeIn_9 (v := (0 : Int32)) (by decide) ?_
  refine xg_istore_n C dX2_takeIn_10 (by decide) (L' := [some (.ref (G.2.2 1 0)), some (.int (0 : Int32))]) rfl ?_
  refine xloop (fun (ii : Int32) (x : xS) => xg F 0 0 11 [some (.ref (G.2.2 1 0)), some (.int ii)] [] (xP xYc G x)) bX2_takeIn_11 8 (fX2_receive (0 : Int32) (S 1 0 (nI 7)) S) (fun i hi x K => ?_) ?_
  · have hi8 : vp_in (nI i) 8 := vp_in_nI hi (by decide)
    show xg F 0 0 11 [some (.ref (G.2.2 1 0)), some (.int (nI i))] [] (xP xYc G x)
    refine xg_iload_n C dX2_takeIn_11 rfl ?_
    refine xg_bipush C dX2_takeIn_12 (v := (8 : Int32)) (by decide) ?_
    refine xg_icmp_ge C 41 dX2_takeIn_14 (by decide) (fun h1 => absurd h1 (nI_ge hi (by decide))) (fun h1 => ?_)
    refine xg_aload_n C dX2_takeIn_17 rfl ?_
    refine xg_iload_n C dX2_takeIn_18 rfl ?_
    refine xg_aload_n C dX2_takeIn_19 rfl ?_
    refine xg_getR C V (f := 1) qX2_takeIn_21 rfl rfl rfl dX2_takeIn_20 ?_
    refine xg_iload_n C dX2_takeIn_23 rfl ?_
    refine xg_iald C V (f := 7) (n := 1) (N := 8) rfl (by decide) (xR_0 (by decide)) (by assumption) dX2_takeIn_24 (v := (x 7 0 (nI i))) rfl ?_
    refine xg_callVv C V (f := 1) (As := [.int (nI i), .int (x 7 0 (nI i))]) (fun l => kX2_receive l hap (nI i) (x 7 0 (nI i)) x (by assumption)) gX2_takeIn_X2_receive rfl hdX2_receive ⟨by decide, by decide⟩ rfl rfl rfl rfl rfl (Nat.le_of_ble_eq_true rfl) ⟨Nat.zero_le _, Nat.zero_le _⟩ dX2_takeIn_25 ?_
    refine xg_aload_n C dX2_takeIn_28 rfl ?_
    refine xg_getR C V (f := 1) qX2_takeIn_21 rfl rfl rfl dX2_takeIn_29 ?_
    refine xg_iload_n C dX2_takeIn_32 rfl ?_
    refine xg_iconst C dX2_takeIn_33 (v := (0 : Int32)) (by decide) ?_
    refine xg_iast C V (f := 7) (n := 1) (N := 8) rfl (by decide) (xR_0 (by decide)) (by assumption) dX2_takeIn_34 ?_
    refine xg_iinc C dX2_takeIn_35 rfl (v := (nI (i + 1))) (xinc i) (by decide) (L' := [some (.ref (G.2.2 1 0)), some (.int (nI (i + 1)))]) rfl ?_
    refine xg_goto C 11 dX2_takeIn_38 (by decide) ?_
    have e : bX2_takeIn_11 (nI i) x = (xu (fX2_receive (nI i) (x 7 0 (nI i)) x) 7 0 (nI i) (0 : Int32)) := rfl
    rw [e] at K
    exact xg_le K ⟨rfl, rfl, trivial⟩
  · show xg F 0 0 11 [some (.ref (G.2.2 1 0)), some (.int (nI 8))] [] (xP xYc G (xfold bX2_takeIn_11 8 (fX2_receive (0 : Int32) (S 1 0 (nI 7)) S)))
    refine xg_iload_n C dX2_takeIn_11 rfl ?_
    refine xg_bipush C dX2_takeIn_12 (v := (8 : Int32)) (by decide) ?_
    refine xg_icmp_ge C 41 dX2_takeIn_14 (by decide) (fun h2 => ?_) (fun h2 => absurd (nI_le (Nat.le_refl _) (by decide)) h2)
    exact xret_v E dX2_takeIn_41 (rfl)
theorem iX2_moveOn_X2 : ∀ w ∈ wsX20, w ∈ wsX2_moveOn := by decide +kernel
theorem qX2_moveOn_18 : xFr wsX2_moveOn RX2 18 RX2 TX2 8 2 := ⟨iX2_moveOn_X2, List.mem_of_getElem? (i := 1) rfl, by decide⟩
def fX2_moveOn (a1 : Int32) (a2 : Int32) (S : xS) : xS :=
  if (8 : Int32) ≤ (a1 + (1 : Int32)) then
    (xu S 6 0 a1 ((S 6 0 a1) - a2))
  else
    (xu (xu S 6 0 a1 ((S 6 0 a1) - a2)) 6 0 (a1 + (1 : Int32)) (((xu S 6 0 a1 ((S 6 0 a1) - a2)) 6 0 (a1 + (1 : Int32))) + a2))
theorem hdX2_moveOn : yX2_moveOn.cls = RX2 ∧ yX2_moveOn.cls ≠ "java/lang/invoke/MethodHandle" ∧ yX2_moveOn.cls ≠ "java/lang/invoke/VarHandle" ∧ (parseMethodDescriptor yX2_moveOn.desc).map (fun d => d.parameters.length) = some 2 := by decide +kernel
set_option maxRecDepth 100000 in
set_option maxHeartbeats 4000000 in
theorem kX2_moveOn (l : Launch) {G : xG} (hap : xAp xYc G) (a1 : Int32) (a2 : Int32) (S : xS) (g_a1 : vp_in a1 8) : xMv l xYc G yX2_moveOn wsX2_moveOn 0 0 [.ref (G.2.2 1 0), .int a1, .int a2] S (fX2_moveOn a1 a2 S) := by
  refine xMv_of (cc := cX2_moveOn) (maxL := 4) (own := RX2) [some (.ref (G.2.2 1 0)), some (.int a1), some (.int a2), none] pnX2 rfl rfl (xcat1 rfl) (Nat.le_of_ble_eq_true rfl) rfl hap (fun F C V E => ?_)
  refine xg_aload_n C dX2_moveOn_0 rfl ?_
  refine xg_getR C V (f := 1) qX2_moveOn_18 rfl rfl rfl dX2_moveOn_1 ?_
  refine xg_iload_n C dX2_moveOn_4 rfl ?_
  refine xg_dup2 C dX2_moveOn_5 rfl rfl ?_
  refine xg_iald C V (f := 6) (n := 1) (N := 8) rfl (by decide) (xR_0 (by decide)) (by assumption) dX2_moveOn_6 (v := (S 6 0 a1)) rfl ?_
  refine xg_iload_n C dX2_moveOn_7 rfl ?_
  refine xg_isub C dX2_moveOn_8 ?_
  refine xg_iast C V (f := 6) (n := 1) (N := 8) rfl (by decide) (xR_0 (by decide)) (by assumption) dX2_moveOn_9 ?_
  refine xg_iload_n C dX2_moveOn_10 rfl ?_
  refine xg_iconst C dX2_moveOn_11 (v := (1 : Int32)) (by decide) ?_
  refine xg_iadd C dX2_moveOn_12 ?_
  refine xg_istore_n C dX2_moveOn_13 (by decide) (L' := [some (.ref (G.2.2 1 0)), some (.int a1), some (.int a2), some (.int (a1 + (1 : Int32)))]) rfl ?_
  refine xg_iload_n C dX2_moveOn_14 rfl ?_
  refine xg_bipush C dX2_moveOn_15 (v := (8 : Int32)) (by decide) ?_
  refine xg_icmp_ge C 30 dX2_moveOn_17 (by decide) (fun h1 => ?_) (fun h1 => ?_)
  · exact xret_v E dX2_moveOn_30 (by first | (rw [fX2_moveOn, if_pos h1]; done) | (rw [fX2_moveOn, if_pos h1]; rfl))
  · refine xg_aload_n C dX2_moveOn_20 rfl ?_
    refine xg_getR C V (f := 1) qX2_moveOn_18 rfl rfl rfl dX2_moveOn_21 ?_
    refine xg_iload_n C dX2_moveOn_24 rfl ?_
    refine xg_dup2 C dX2_moveOn_25 rfl rfl ?_
    refine xg_iald C V (f := 6) (n := 1) (N := 8) rfl (by decide) (xR_0 (by decide)) (by first | exact xin_a (by assumption) (by assumption) | exact xin_b (by assumption) (by assumption) | exact xin_c (by assumption) (by assumption)) dX2_moveOn_26 (v := ((xu S 6 0 a1 ((S 6 0 a1) - a2)) 6 0 (a1 + (1 : Int32)))) rfl ?_
    refine xg_iload_n C dX2_moveOn_27 rfl ?_
    refine xg_iadd C dX2_moveOn_28 ?_
    refine xg_iast C V (f := 6) (n := 1) (N := 8) rfl (by decide) (xR_0 (by decide)) (by first | exact xin_a (by assumption) (by assumption) | exact xin_b (by assumption) (by assumption) | exact xin_c (by assumption) (by assumption)) dX2_moveOn_29 ?_
    exact xret_v E dX2_moveOn_30 (by first | (rw [fX2_moveOn, if_neg h1]; done) | (rw [fX2_moveOn, if_neg h1]; rfl))
theorem iX2_letThrough_X2 : ∀ w ∈ wsX20, w ∈ wsX2_letThrough := by decide +kernel
theorem qX2_letThrough_18 : xFr wsX2_letThrough RX2 18 RX2 TX2 8 2 := ⟨iX2_letThrough_X2, List.mem_of_getElem? (i := 1) rfl, by decide⟩
theorem qX2_letThrough_27 : xFr wsX2_letThrough RX2 27 RX2 TX2 8 5 := ⟨iX2_letThrough_X2, List.mem_of_getElem? (i := 6) rfl, by decide⟩
def bX2_letThrough_3  (i : Int32) (x : xS) : xS :=
  (fX2_moveOn i (if (x 6 0 i) < (fX0_mostThrough i x) then (x 6 0 i) else (fX0_mostThrough i x)) (xu x 9 0 i ((x 9 0 i) + (if (x 6 0 i) < (fX0_mostThrough i x) then (x 6 0 i) else (fX0_mostThrough i x)))))
def fX2_letThrough  (S : xS) : xS :=
  (xfoldD bX2_letThrough_3 8 S)
theorem hdX2_letThrough : yX2_letThrough.cls = RX2 ∧ yX2_letThrough.cls ≠ "java/lang/invoke/MethodHandle" ∧ yX2_letThrough.cls ≠ "java/lang/invoke/VarHandle" ∧ (parseMethodDescriptor yX2_letThrough.desc).map (fun d => d.parameters.length) = some 1 := by decide +kernel
set_option maxRecDepth 100000 in
set_option maxHeartbeats 4000000 in
theorem kX2_letThrough (l : Launch) {G : xG} (hap : xAp xYc G)  (S : xS)  : xMv l xYc G yX2_letThrough wsX2_letThrough 1 40 [.ref (G.2.2 1 0), .ref (G.2.2 2 0)] S (fX2_letThrough S) := by
  refine xMv_of (cc := cX2_letThrough) (maxL := 4) (own := RX2) [some (.ref (G.2.2 1 0)), some (.ref (G.2.2 2 0)), none, none] pnX2 rfl rfl (xcat1 rfl) (Nat.le_of_ble_eq_true rfl) rfl hap (fun F C V E => ?_)
  refine xg_bipush C dX2_letThrough_0 (v := (7 : Int32)) (by decide) ?_
  refine xg_istore_n C dX2_letThrough_2 (by decide) (L' := [some (.ref (G.2.2 1 0)), some (.ref (G.2.2 2 0)), some (.int (7 : Int32)), none]) rfl ?_
  refine xloopD0 (fun (ii : Int32) (x : xS) => xg F 0 0 3 [some (.ref (G.2.2 1 0)), some (.ref (G.2.2 2 0)), some (.int ii), none] [] (xP xYc G x)) bX2_letThrough_3 8 S (7 : Int32) (by decide) (fun i hi x K => ?_) ?_
  · have hi8 : vp_in (nI i) 8 := vp_in_nI hi (by decide)
    show xg F 0 0 3 [some (.ref (G.2.2 1 0)), some (.ref (G.2.2 2 0)), some (.int (nI i)), none] [] (xP xYc G x)
    refine xg_iload_n C dX2_letThrough_3 rfl ?_
    refine xg_if_lt C 44 dX2_letThrough_4 (by decide) (fun h1 => absurd h1 (nI_pos (by omega))) (fun h1 => ?_)
    refine xg_aload_n C dX2_letThrough_7 rfl ?_
    refine xg_iload_n C dX2_letThrough_8 rfl ?_
    refine xg_callVi C V (f := 2) (As := [.int (nI i)]) (r := (fX0_mostThrough (nI i) x)) (fun l => kX0_mostThrough l hap (nI i) x (by assumption)) gX2_letThrough_X0_mostThrough rfl hdX0_mostThrough ⟨by decide, by decide⟩ rfl rfl rfl rfl rfl (Nat.le_of_ble_eq_true rfl) ⟨Nat.zero_le _, Nat.zero_le _⟩ dX2_letThrough_9 ?_
    refine xg_aload_n C dX2_letThrough_12 rfl ?_
    refine xg_getR C V (f := 1) qX2_letThrough_18 rfl rfl rfl dX2_letThrough_13 ?_
    refine xg_iload_n C dX2_letThrough_16 rfl ?_
    refine xg_iald C V (f := 6) (n := 1) (N := 8) rfl (by decide) (xR_0 (by decide)) (by assumption) dX2_letThrough_17 (v := (x 6 0 (nI i))) rfl ?_
    refine xg_mmin C (List.mem_of_getElem? (i := 2) rfl) (List.mem_of_getElem? (i := 3) rfl) (List.mem_of_getElem? (i := 4) rfl) (List.mem_of_getElem? (i := 5) rfl) (Nat.le_of_ble_eq_true rfl) (Nat.le_of_ble_eq_true rfl) ⟨Nat.zero_le _, Nat.zero_le _⟩ dX2_letThrough_18 ?_
    refine xg_istore_n C dX2_letThrough_21 (by decide) (L' := [some (.ref (G.2.2 1 0)), some (.ref (G.2.2 2 0)), some (.int (nI i)), some (.int (if (x 6 0 (nI i)) < (fX0_mostThrough (nI i) x) then (x 6 0 (nI i)) else (fX0_mostThrough (nI i) x)))]) rfl ?_
    refine xg_aload_n C dX2_letThrough_22 rfl ?_
    refine xg_getR C V (f := 1) qX2_letThrough_27 rfl rfl rfl dX2_letThrough_23 ?_
    refine xg_iload_n C dX2_letThrough_26 rfl ?_
    refine xg_dup2 C dX2_letThrough_27 rfl rfl ?_
    refine xg_iald C V (f := 9) (n := 1) (N := 8) rfl (by decide) (xR_0 (by decide)) (by assumption) dX2_letThrough_28 (v := (x 9 0 (nI i))) rfl ?_
    refine xg_iload_n C dX2_letThrough_29 rfl ?_
    refine xg_iadd C dX2_letThrough_30 ?_
    refine xg_iast C V (f := 9) (n := 1) (N := 8) rfl (by decide) (xR_0 (by decide)) (by assumption) dX2_letThrough_31 ?_
    refine xg_aload_n C dX2_letThrough_32 rfl ?_
    refine xg_iload_n C dX2_letThrough_33 rfl ?_
    refine xg_iload_n C dX2_letThrough_34 rfl ?_
    refine xg_callVv C V (f := 1) (As := [.int (nI i), .int (if (x 6 0 (nI i)) < (fX0_mostThrough (nI i) x) then (x 6 0 (nI i)) else (fX0_mostThrough (nI i) x))]) (fun l => kX2_moveOn l hap (nI i) (if (x 6 0 (nI i)) < (fX0_mostThrough (nI i) x) then (x 6 0 (nI i)) else (fX0_mostThrough (nI i) x)) (xu x 9 0 (nI i) ((x 9 0 (nI i)) + (if (x 6 0 (nI i)) < (fX0_mostThrough (nI i) x) then (x 6 0 (nI i)) else (fX0_mostThrough (nI i) x)))) (by assumption)) gX2_letThrough_X2_moveOn rfl hdX2_moveOn ⟨by decide, by decide⟩ rfl rfl rfl rfl rfl (Nat.le_of_ble_eq_true rfl) ⟨Nat.zero_le _, Nat.zero_le _⟩ dX2_letThrough_35 ?_
    refine xg_iinc C dX2_letThrough_38 rfl (v := (nI i - 1)) (xdec i) (by decide) (L' := [some (.ref (G.2.2 1 0)), some (.ref (G.2.2 2 0)), some (.int (nI i - 1)), some (.int (if (x 6 0 (nI i)) < (fX0_mostThrough (nI i) x) then (x 6 0 (nI i)) else (fX0_mostThrough (nI i) x)))]) rfl ?_
    refine xg_goto C 3 dX2_letThrough_41 (by decide) ?_
    have e : bX2_letThrough_3 (nI i) x = (fX2_moveOn (nI i) (if (x 6 0 (nI i)) < (fX0_mostThrough (nI i) x) then (x 6 0 (nI i)) else (fX0_mostThrough (nI i) x)) (xu x 9 0 (nI i) ((x 9 0 (nI i)) + (if (x 6 0 (nI i)) < (fX0_mostThrough (nI i) x) then (x 6 0 (nI i)) else (fX0_mostThrough (nI i) x))))) := rfl
    rw [e] at K
    exact xg_le K ⟨rfl, rfl, rfl, trivial⟩
  · show xg F 0 0 3 [some (.ref (G.2.2 1 0)), some (.ref (G.2.2 2 0)), some (.int (-1 : Int32)), none] [] (xP xYc G (xfoldD bX2_letThrough_3 8 S))
    refine xg_iload_n C dX2_letThrough_3 rfl ?_
    refine xg_if_lt C 44 dX2_letThrough_4 (by decide) (fun h2 => ?_) (fun h2 => by exact absurd h2 (by decide))
    exact xret_v E dX2_letThrough_44 (rfl)
theorem iX2_spillOver_X2 : ∀ w ∈ wsX20, w ∈ wsX2_spillOver := by decide +kernel
theorem qX2_spillOver_18 : xFr wsX2_spillOver RX2 18 RX2 TX2 8 2 := ⟨iX2_spillOver_X2, List.mem_of_getElem? (i := 1) rfl, by decide⟩
theorem qX2_spillOver_9 : xFr wsX2_spillOver RX2 9 RX2 TX2 8 0 := ⟨iX2_spillOver_X2, List.mem_of_getElem? (i := 2) rfl, by decide⟩
theorem qX2_spillOver_15 : xFr wsX2_spillOver RX2 15 RX2 TX2 8 1 := ⟨iX2_spillOver_X2, List.mem_of_getElem? (i := 3) rfl, by decide⟩
theorem qX2_spillOver_30 : xFr wsX2_spillOver RX2 30 RX2 TX2 8 6 := ⟨iX2_spillOver_X2, List.mem_of_getElem? (i := 8) rfl, by decide⟩
def bX2_spillOver_4  (i : Int32) (x : xS × Int32) : xS × Int32 :=
  ((fX2_moveOn i (if ((x.1 6 0 i) - ((x.1 4 0 i) * (x.1 5 0 i))) < (0 : Int32) then (0 : Int32) else ((x.1 6 0 i) - ((x.1 4 0 i) * (x.1 5 0 i)))) (xu x.1 10 0 i ((x.1 10 0 i) + (if ((x.1 6 0 i) - ((x.1 4 0 i) * (x.1 5 0 i))) < (0 : Int32) then (0 : Int32) else ((x.1 6 0 i) - ((x.1 4 0 i) * (x.1 5 0 i))))))), (x.2 + (if ((x.1 6 0 i) - ((x.1 4 0 i) * (x.1 5 0 i))) < (0 : Int32) then (0 : Int32) else ((x.1 6 0 i) - ((x.1 4 0 i) * (x.1 5 0 i))))))
def fX2_spillOver  (S : xS) : xS × Int32 :=
  ((xfold bX2_spillOver_4 8 (S, (0 : Int32))).1, (xfold bX2_spillOver_4 8 (S, (0 : Int32))).2)
theorem hdX2_spillOver : yX2_spillOver.cls = RX2 ∧ yX2_spillOver.cls ≠ "java/lang/invoke/MethodHandle" ∧ yX2_spillOver.cls ≠ "java/lang/invoke/VarHandle" ∧ (parseMethodDescriptor yX2_spillOver.desc).map (fun d => d.parameters.length) = some 0 := by decide +kernel
set_option maxRecDepth 100000 in
set_option maxHeartbeats 4000000 in
theorem kX2_spillOver (l : Launch) {G : xG} (hap : xAp xYc G)  (S : xS)  : xMi l xYc G yX2_spillOver wsX2_spillOver 1 40 [.ref (G.2.2 1 0)] S (fX2_spillOver S).1 (fX2_spillOver S).2 := by
  refine xMi_of (cc := cX2_spillOver) (maxL := 4) (ty := .int) (own := RX2) [some (.ref (G.2.2 1 0)), none, none, none] pnX2 rfl rfl rfl (xcat1 rfl) (Nat.le_of_ble_eq_true rfl) rfl hap (fun F C V E => ?_)
  refine xg_iconst C dX2_spillOver_0 (v := (0 : Int32)) (by decide) ?_
  refine xg_istore_n C dX2_spillOver_1 (by decide) (L' := [some (.ref (G.2.2 1 0)), some (.int (0 : Int32)), none, none]) rfl ?_
  refine xg_iconst C dX2_spillOver_2 (v := (0 : Int32)) (by decide) ?_
  refine xg_istore_n C dX2_spillOver_3 (by decide) (L' := [some (.ref (G.2.2 1 0)), some (.int (0 : Int32)), some (.int (0 : Int32)), none]) rfl ?_
  refine xloop (fun (ii : Int32) (x : xS × Int32) => xg F 0 0 4 [some (.ref (G.2.2 1 0)), some (.int x.2), some (.int ii), none] [] (xP xYc G x.1)) bX2_spillOver_4 8 (S, (0 : Int32)) (fun i hi x K => ?_) ?_
  · have hi8 : vp_in (nI i) 8 := vp_in_nI hi (by decide)
    show xg F 0 0 4 [some (.ref (G.2.2 1 0)), some (.int x.2), some (.int (nI i)), none] [] (xP xYc G x.1)
    refine xg_iload_n C dX2_spillOver_4 rfl ?_
    refine xg_bipush C dX2_spillOver_5 (v := (8 : Int32)) (by decide) ?_
    refine xg_icmp_ge C 61 dX2_spillOver_7 (by decide) (fun h1 => absurd h1 (nI_ge hi (by decide))) (fun h1 => ?_)
    refine xg_aload_n C dX2_spillOver_10 rfl ?_
    refine xg_getR C V (f := 1) qX2_spillOver_18 rfl rfl rfl dX2_spillOver_11 ?_
    refine xg_iload_n C dX2_spillOver_14 rfl ?_
    refine xg_iald C V (f := 6) (n := 1) (N := 8) rfl (by decide) (xR_0 (by decide)) (by assumption) dX2_spillOver_15 (v := (x.1 6 0 (nI i))) rfl ?_
    refine xg_aload_n C dX2_spillOver_16 rfl ?_
    refine xg_getR C V (f := 1) qX2_spillOver_9 rfl rfl rfl dX2_spillOver_17 ?_
    refine xg_iload_n C dX2_spillOver_20 rfl ?_
    refine xg_iald C V (f := 4) (n := 1) (N := 8) rfl (by decide) (xR_0 (by decide)) (by assumption) dX2_spillOver_21 (v := (x.1 4 0 (nI i))) rfl ?_
    refine xg_aload_n C dX2_spillOver_22 rfl ?_
    refine xg_getR C V (f := 1) qX2_spillOver_15 rfl rfl rfl dX2_spillOver_23 ?_
    refine xg_iload_n C dX2_spillOver_26 rfl ?_
    refine xg_iald C V (f := 5) (n := 1) (N := 8) rfl (by decide) (xR_0 (by decide)) (by assumption) dX2_spillOver_27 (v := (x.1 5 0 (nI i))) rfl ?_
    refine xg_imul C dX2_spillOver_28 ?_
    refine xg_isub C dX2_spillOver_29 ?_
    refine xg_iconst C dX2_spillOver_30 (v := (0 : Int32)) (by decide) ?_
    refine xg_mmax C (List.mem_of_getElem? (i := 4) rfl) (List.mem_of_getElem? (i := 5) rfl) (List.mem_of_getElem? (i := 6) rfl) (List.mem_of_getElem? (i := 7) rfl) (Nat.le_of_ble_eq_true rfl) (Nat.le_of_ble_eq_true rfl) ⟨Nat.zero_le _, Nat.zero_le _⟩ dX2_spillOver_31 ?_
    refine xg_istore_n C dX2_spillOver_34 (by decide) (L' := [some (.ref (G.2.2 1 0)), some (.int x.2), some (.int (nI i)), some (.int (if ((x.1 6 0 (nI i)) - ((x.1 4 0 (nI i)) * (x.1 5 0 (nI i)))) < (0 : Int32) then (0 : Int32) else ((x.1 6 0 (nI i)) - ((x.1 4 0 (nI i)) * (x.1 5 0 (nI i))))))]) rfl ?_
    refine xg_aload_n C dX2_spillOver_35 rfl ?_
    refine xg_getR C V (f := 1) qX2_spillOver_30 rfl rfl rfl dX2_spillOver_36 ?_
    refine xg_iload_n C dX2_spillOver_39 rfl ?_
    refine xg_dup2 C dX2_spillOver_40 rfl rfl ?_
    refine xg_iald C V (f := 10) (n := 1) (N := 8) rfl (by decide) (xR_0 (by decide)) (by assumption) dX2_spillOver_41 (v := (x.1 10 0 (nI i))) rfl ?_
    refine xg_iload_n C dX2_spillOver_42 rfl ?_
    refine xg_iadd C dX2_spillOver_43 ?_
    refine xg_iast C V (f := 10) (n := 1) (N := 8) rfl (by decide) (xR_0 (by decide)) (by assumption) dX2_spillOver_44 ?_
    refine xg_aload_n C dX2_spillOver_45 rfl ?_
    refine xg_iload_n C dX2_spillOver_46 rfl ?_
    refine xg_iload_n C dX2_spillOver_47 rfl ?_
    refine xg_callVv C V (f := 1) (As := [.int (nI i), .int (if ((x.1 6 0 (nI i)) - ((x.1 4 0 (nI i)) * (x.1 5 0 (nI i)))) < (0 : Int32) then (0 : Int32) else ((x.1 6 0 (nI i)) - ((x.1 4 0 (nI i)) * (x.1 5 0 (nI i)))))]) (fun l => kX2_moveOn l hap (nI i) (if ((x.1 6 0 (nI i)) - ((x.1 4 0 (nI i)) * (x.1 5 0 (nI i)))) < (0 : Int32) then (0 : Int32) else ((x.1 6 0 (nI i)) - ((x.1 4 0 (nI i)) * (x.1 5 0 (nI i))))) (xu x.1 10 0 (nI i) ((x.1 10 0 (nI i)) + (if ((x.1 6 0 (nI i)) - ((x.1 4 0 (nI i)) * (x.1 5 0 (nI i)))) < (0 : Int32) then (0 : Int32) else ((x.1 6 0 (nI i)) - ((x.1 4 0 (nI i)) * (x.1 5 0 (nI i))))))) (by assumption)) gX2_spillOver_X2_moveOn rfl hdX2_moveOn ⟨by decide, by decide⟩ rfl rfl rfl rfl rfl (Nat.le_of_ble_eq_true rfl) ⟨Nat.zero_le _, Nat.zero_le _⟩ dX2_spillOver_48 ?_
    refine xg_iload_n C dX2_spillOver_51 rfl ?_
    refine xg_iload_n C dX2_spillOver_52 rfl ?_
    refine xg_iadd C dX2_spillOver_53 ?_
    refine xg_istore_n C dX2_spillOver_54 (by decide) (L' := [some (.ref (G.2.2 1 0)), some (.int (x.2 + (if ((x.1 6 0 (nI i)) - ((x.1 4 0 (nI i)) * (x.1 5 0 (nI i)))) < (0 : Int32) then (0 : Int32) else ((x.1 6 0 (nI i)) - ((x.1 4 0 (nI i)) * (x.1 5 0 (nI i))))))), some (.int (nI i)), some (.int (if ((x.1 6 0 (nI i)) - ((x.1 4 0 (nI i)) * (x.1 5 0 (nI i)))) < (0 : Int32) then (0 : Int32) else ((x.1 6 0 (nI i)) - ((x.1 4 0 (nI i)) * (x.1 5 0 (nI i))))))]) rfl ?_
    refine xg_iinc C dX2_spillOver_55 rfl (v := (nI (i + 1))) (xinc i) (by decide) (L' := [some (.ref (G.2.2 1 0)), some (.int (x.2 + (if ((x.1 6 0 (nI i)) - ((x.1 4 0 (nI i)) * (x.1 5 0 (nI i)))) < (0 : Int32) then (0 : Int32) else ((x.1 6 0 (nI i)) - ((x.1 4 0 (nI i)) * (x.1 5 0 (nI i))))))), some (.int (nI (i + 1))), some (.int (if ((x.1 6 0 (nI i)) - ((x.1 4 0 (nI i)) * (x.1 5 0 (nI i)))) < (0 : Int32) then (0 : Int32) else ((x.1 6 0 (nI i)) - ((x.1 4 0 (nI i)) * (x.1 5 0 (nI i))))))]) rfl ?_
    refine xg_goto C 4 dX2_spillOver_58 (by decide) ?_
    have e : bX2_spillOver_4 (nI i) x = ((fX2_moveOn (nI i) (if ((x.1 6 0 (nI i)) - ((x.1 4 0 (nI i)) * (x.1 5 0 (nI i)))) < (0 : Int32) then (0 : Int32) else ((x.1 6 0 (nI i)) - ((x.1 4 0 (nI i)) * (x.1 5 0 (nI i))))) (xu x.1 10 0 (nI i) ((x.1 10 0 (nI i)) + (if ((x.1 6 0 (nI i)) - ((x.1 4 0 (nI i)) * (x.1 5 0 (nI i)))) < (0 : Int32) then (0 : Int32) else ((x.1 6 0 (nI i)) - ((x.1 4 0 (nI i)) * (x.1 5 0 (nI i)))))))), (x.2 + (if ((x.1 6 0 (nI i)) - ((x.1 4 0 (nI i)) * (x.1 5 0 (nI i)))) < (0 : Int32) then (0 : Int32) else ((x.1 6 0 (nI i)) - ((x.1 4 0 (nI i)) * (x.1 5 0 (nI i))))))) := rfl
    rw [e] at K
    try dsimp only at K
    exact xg_le K ⟨rfl, rfl, rfl, trivial⟩
  · show xg F 0 0 4 [some (.ref (G.2.2 1 0)), some (.int (xfold bX2_spillOver_4 8 (S, (0 : Int32))).2), some (.int (nI 8)), none] [] (xP xYc G (xfold bX2_spillOver_4 8 (S, (0 : Int32))).1)
    refine xg_iload_n C dX2_spillOver_4 rfl ?_
    refine xg_bipush C dX2_spillOver_5 (v := (8 : Int32)) (by decide) ?_
    refine xg_icmp_ge C 61 dX2_spillOver_7 (by decide) (fun h2 => ?_) (fun h2 => absurd (nI_le (Nat.le_refl _) (by decide)) h2)
    refine xg_iload_n C dX2_spillOver_61 rfl ?_
    have e : (fX2_spillOver S) = ((xfold bX2_spillOver_4 8 (S, (0 : Int32))).1, (xfold bX2_spillOver_4 8 (S, (0 : Int32))).2) := rfl
    exact xret_i E dX2_spillOver_62 (xsnd e) (xfst e)
