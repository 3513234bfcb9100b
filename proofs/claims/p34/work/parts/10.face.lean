/-! 10: GossipGates: its face, where the arguments and the state are right -/
theorem hdX3_requireWithin : yX3_requireWithin.cls ≠ "java/lang/invoke/MethodHandle" ∧ yX3_requireWithin.cls ≠ "java/lang/invoke/VarHandle" ∧ (parseMethodDescriptor yX3_requireWithin.desc).map (fun d => d.parameters.length) = some 3 := by decide +kernel
set_option maxRecDepth 100000 in
set_option maxHeartbeats 4000000 in
theorem kX3_requireWithin (l : Launch) {G : xG} (hap : xAp xYc G) (a1 : Int32) (a2 : Int32) (a3 : Int32) (S : xS) (r1 : ¬ a1 < a2) (r2 : a1 ≤ a3) : xMv l xYc G yX3_requireWithin wsX3_requireWithin 0 0 [.int a1, .int a2, .int a3] S S := by
  refine xMv_of (cc := cX3_requireWithin) (maxL := 3) (own := RX3) [some (.int a1), some (.int a2), some (.int a3)] pnX3 rfl rfl (xcat1 rfl) (Nat.le_of_ble_eq_true rfl) rfl hap (fun F C V E => ?_)
  refine xg_iload_n C dX3_requireWithin_0 rfl ?_
  refine xg_iload_n C dX3_requireWithin_1 rfl ?_
  refine xg_icmp_lt C 10 dX3_requireWithin_2 (by decide) (fun h1 => by contradiction) (fun h1 => ?_)
  refine xg_iload_n C dX3_requireWithin_5 rfl ?_
  refine xg_iload_n C dX3_requireWithin_6 rfl ?_
  refine xg_icmp_le C 20 dX3_requireWithin_7 (by decide) (fun h2 => ?_) (fun h2 => by contradiction)
  exact xret_v E dX3_requireWithin_20 rfl
theorem hdX3_requireNumber : yX3_requireNumber.cls ≠ "java/lang/invoke/MethodHandle" ∧ yX3_requireNumber.cls ≠ "java/lang/invoke/VarHandle" ∧ (parseMethodDescriptor yX3_requireNumber.desc).map (fun d => d.parameters.length) = some 1 := by decide +kernel
set_option maxRecDepth 100000 in
set_option maxHeartbeats 4000000 in
theorem kX3_requireNumber (l : Launch) {G : xG} (hap : xAp xYc G) (a1 : Int32) (S : xS) (g_a1 : vp_in a1 8) : xMv l xYc G yX3_requireNumber wsX3_requireNumber 1 22 [.int a1] S S := by
  refine xMv_of (cc := cX3_requireNumber) (maxL := 1) (own := RX3) [some (.int a1)] pnX3 rfl rfl (xcat1 rfl) (Nat.le_of_ble_eq_true rfl) rfl hap (fun F C V E => ?_)
  refine xg_iload_n C dX3_requireNumber_0 rfl ?_
  refine xg_iconst C dX3_requireNumber_1 (v := (0 : Int32)) (by decide) ?_
  refine xg_bipush C dX3_requireNumber_2 (v := (7 : Int32)) (by decide) ?_
  refine xg_callSv C V (as := [.int a1, .int (0 : Int32), .int (7 : Int32)]) (fun l => kX3_requireWithin l hap a1 (0 : Int32) (7 : Int32) S (by first | assumption | exact xnum1 (by assumption)) (by first | assumption | exact xnum2 (by assumption))) gX3_requireNumber_X3_requireWithin rfl hdX3_requireWithin ⟨by decide, by decide⟩ rfl rfl (Nat.le_of_ble_eq_true rfl) ⟨Nat.zero_le _, Nat.zero_le _⟩ dX3_requireNumber_4 ?_
  exact xret_v E dX3_requireNumber_7 rfl
theorem iX3_shape_X3 : ∀ w ∈ wsX30, w ∈ wsX3_shape := by decide +kernel
theorem qX3_shape_10 : xFr wsX3_shape RX3 10 RX3 TX3 4 0 := ⟨iX3_shape_X3, List.mem_of_getElem? (i := 1) rfl, by decide⟩
theorem iX3_shape_X2 : ∀ w ∈ wsX20, w ∈ wsX3_shape := by decide +kernel
theorem qX3_shape_42 : xFr wsX3_shape RX3 42 RX2 TX2 8 0 := ⟨iX3_shape_X2, List.mem_of_getElem? (i := 2) rfl, by decide⟩
theorem qX3_shape_46 : xFr wsX3_shape RX3 46 RX2 TX2 8 1 := ⟨iX3_shape_X2, List.mem_of_getElem? (i := 3) rfl, by decide⟩
def fX3_shape (a1 : Int32) (a2 : Int32) (a3 : Int32) (S : xS) : xS :=
  (xu (xu S 4 0 a1 a2) 5 0 a1 a3)
theorem hdX3_shape : yX3_shape.cls = RX3 ∧ yX3_shape.cls ≠ "java/lang/invoke/MethodHandle" ∧ yX3_shape.cls ≠ "java/lang/invoke/VarHandle" ∧ (parseMethodDescriptor yX3_shape.desc).map (fun d => d.parameters.length) = some 3 := by decide +kernel
set_option maxRecDepth 100000 in
set_option maxHeartbeats 4000000 in
theorem kX3_shape (l : Launch) {G : xG} (hap : xAp xYc G) (a1 : Int32) (a2 : Int32) (a3 : Int32) (S : xS) (g_a1 : vp_in a1 8) (v1 : ¬ a2 < (1 : Int32)) (v2 : a2 ≤ (100 : Int32)) (v3 : ¬ a3 < (1 : Int32)) (v4 : a3 ≤ (1000 : Int32)) : xMv l xYc G yX3_shape wsX3_shape 2 42 [.ref (G.2.2 0 0), .int a1, .int a2, .int a3] S (fX3_shape a1 a2 a3 S) := by
  refine xMv_of (cc := cX3_shape) (maxL := 4) (own := RX3) [some (.ref (G.2.2 0 0)), some (.int a1), some (.int a2), some (.int a3)] pnX3 rfl rfl (xcat1 rfl) (Nat.le_of_ble_eq_true rfl) rfl hap (fun F C V E => ?_)
  refine xg_iload_n C dX3_shape_0 rfl ?_
  refine xg_callSv C V (as := [.int a1]) (fun l => kX3_requireNumber l hap a1 S (by assumption)) gX3_shape_X3_requireNumber rfl hdX3_requireNumber ⟨by decide, by decide⟩ rfl rfl (Nat.le_of_ble_eq_true rfl) ⟨Nat.zero_le _, Nat.zero_le _⟩ dX3_shape_1 ?_
  refine xg_iload_n C dX3_shape_4 rfl ?_
  refine xg_iconst C dX3_shape_5 (v := (1 : Int32)) (by decide) ?_
  refine xg_bipush C dX3_shape_6 (v := (100 : Int32)) (by decide) ?_
  refine xg_callSv C V (as := [.int a2, .int (1 : Int32), .int (100 : Int32)]) (fun l => kX3_requireWithin l hap a2 (1 : Int32) (100 : Int32) S (by first | assumption | exact xnum1 (by assumption)) (by first | assumption | exact xnum2 (by assumption))) gX3_shape_X3_requireWithin rfl hdX3_requireWithin ⟨by decide, by decide⟩ rfl rfl (Nat.le_of_ble_eq_true rfl) ⟨Nat.zero_le _, Nat.zero_le _⟩ dX3_shape_8 ?_
  refine xg_iload_n C dX3_shape_11 rfl ?_
  refine xg_iconst C dX3_shape_12 (v := (1 : Int32)) (by decide) ?_
  refine xg_sipush C dX3_shape_13 (v := (1000 : Int32)) (by decide) ?_
  refine xg_callSv C V (as := [.int a3, .int (1 : Int32), .int (1000 : Int32)]) (fun l => kX3_requireWithin l hap a3 (1 : Int32) (1000 : Int32) S (by first | assumption | exact xnum1 (by assumption)) (by first | assumption | exact xnum2 (by assumption))) gX3_shape_X3_requireWithin rfl hdX3_requireWithin ⟨by decide, by decide⟩ rfl rfl (Nat.le_of_ble_eq_true rfl) ⟨Nat.zero_le _, Nat.zero_le _⟩ dX3_shape_16 ?_
  refine xg_aload_n C dX3_shape_19 rfl ?_
  refine xg_getR C V (f := 0) qX3_shape_10 rfl rfl rfl dX3_shape_20 ?_
  refine xg_getR C V (f := 1) qX3_shape_42 rfl rfl rfl dX3_shape_23 ?_
  refine xg_iload_n C dX3_shape_26 rfl ?_
  refine xg_iload_n C dX3_shape_27 rfl ?_
  refine xg_iast C V (f := 4) (n := 1) (N := 8) rfl (by decide) (xR_0 (by decide)) (by assumption) dX3_shape_28 ?_
  refine xg_aload_n C dX3_shape_29 rfl ?_
  refine xg_getR C V (f := 0) qX3_shape_10 rfl rfl rfl dX3_shape_30 ?_
  refine xg_getR C V (f := 1) qX3_shape_46 rfl rfl rfl dX3_shape_33 ?_
  refine xg_iload_n C dX3_shape_36 rfl ?_
  refine xg_iload_n C dX3_shape_37 rfl ?_
  refine xg_iast C V (f := 5) (n := 1) (N := 8) rfl (by decide) (xR_0 (by decide)) (by assumption) dX3_shape_38 ?_
  exact xret_v E dX3_shape_39 (rfl)
theorem iX3_setGauge_X3 : ∀ w ∈ wsX30, w ∈ wsX3_setGauge := by decide +kernel
theorem qX3_setGauge_19 : xFr wsX3_setGauge RX3 19 RX3 TX3 4 1 := ⟨iX3_setGauge_X3, List.mem_of_getElem? (i := 1) rfl, by decide⟩
theorem iX3_setGauge_X0 : ∀ w ∈ wsX00, w ∈ wsX3_setGauge := by decide +kernel
theorem qX3_setGauge_49 : xFr wsX3_setGauge RX3 49 RX0 TX0 8 0 := ⟨iX3_setGauge_X0, List.mem_of_getElem? (i := 2) rfl, by decide⟩
def fX3_setGauge (a1 : Int32) (a2 : Int32) (S : xS) : xS × Int32 :=
  ((xu S 11 0 a1 a2), (S 11 0 a1))
theorem hdX3_setGauge : yX3_setGauge.cls = RX3 ∧ yX3_setGauge.cls ≠ "java/lang/invoke/MethodHandle" ∧ yX3_setGauge.cls ≠ "java/lang/invoke/VarHandle" ∧ (parseMethodDescriptor yX3_setGauge.desc).map (fun d => d.parameters.length) = some 2 := by decide +kernel
set_option maxRecDepth 100000 in
set_option maxHeartbeats 4000000 in
theorem kX3_setGauge (l : Launch) {G : xG} (hap : xAp xYc G) (a1 : Int32) (a2 : Int32) (S : xS) (g_a1 : vp_in a1 8) (v1 : ¬ a2 < (1 : Int32)) (w1 : a2 ≤ (50 : Int32)) : xMi l xYc G yX3_setGauge wsX3_setGauge 2 42 [.ref (G.2.2 0 0), .int a1, .int a2] S (fX3_setGauge a1 a2 S).1 (fX3_setGauge a1 a2 S).2 := by
  refine xMi_of (cc := cX3_setGauge) (maxL := 4) (ty := .int) (own := RX3) [some (.ref (G.2.2 0 0)), some (.int a1), some (.int a2), none] pnX3 rfl rfl rfl (xcat1 rfl) (Nat.le_of_ble_eq_true rfl) rfl hap (fun F C V E => ?_)
  refine xg_iload_n C dX3_setGauge_0 rfl ?_
  refine xg_callSv C V (as := [.int a1]) (fun l => kX3_requireNumber l hap a1 S (by assumption)) gX3_setGauge_X3_requireNumber rfl hdX3_requireNumber ⟨by decide, by decide⟩ rfl rfl (Nat.le_of_ble_eq_true rfl) ⟨Nat.zero_le _, Nat.zero_le _⟩ dX3_setGauge_1 ?_
  refine xg_iload_n C dX3_setGauge_4 rfl ?_
  refine xg_iconst C dX3_setGauge_5 (v := (1 : Int32)) (by decide) ?_
  refine xg_bipush C dX3_setGauge_6 (v := (50 : Int32)) (by decide) ?_
  refine xg_callSv C V (as := [.int a2, .int (1 : Int32), .int (50 : Int32)]) (fun l => kX3_requireWithin l hap a2 (1 : Int32) (50 : Int32) S (by first | assumption | exact xnum1 (by assumption)) (by first | assumption | exact xnum2 (by assumption))) gX3_setGauge_X3_requireWithin rfl hdX3_requireWithin ⟨by decide, by decide⟩ rfl rfl (Nat.le_of_ble_eq_true rfl) ⟨Nat.zero_le _, Nat.zero_le _⟩ dX3_setGauge_8 ?_
  refine xg_aload_n C dX3_setGauge_11 rfl ?_
  refine xg_getR C V (f := 0) qX3_setGauge_19 rfl rfl rfl dX3_setGauge_12 ?_
  refine xg_getR C V (f := 2) qX3_setGauge_49 rfl rfl rfl dX3_setGauge_15 ?_
  refine xg_iload_n C dX3_setGauge_18 rfl ?_
  refine xg_iald C V (f := 11) (n := 1) (N := 8) rfl (by decide) (xR_0 (by decide)) (by assumption) dX3_setGauge_19 (v := (S 11 0 a1)) rfl ?_
  refine xg_istore_n C dX3_setGauge_20 (by decide) (L' := [some (.ref (G.2.2 0 0)), some (.int a1), some (.int a2), some (.int (S 11 0 a1))]) rfl ?_
  refine xg_aload_n C dX3_setGauge_21 rfl ?_
  refine xg_getR C V (f := 0) qX3_setGauge_19 rfl rfl rfl dX3_setGauge_22 ?_
  refine xg_getR C V (f := 2) qX3_setGauge_49 rfl rfl rfl dX3_setGauge_25 ?_
  refine xg_iload_n C dX3_setGauge_28 rfl ?_
  refine xg_iload_n C dX3_setGauge_29 rfl ?_
  refine xg_iast C V (f := 11) (n := 1) (N := 8) rfl (by decide) (xR_0 (by decide)) (by assumption) dX3_setGauge_30 ?_
  refine xg_iload_n C dX3_setGauge_31 rfl ?_
  have e : (fX3_setGauge a1 a2 S) = ((xu S 11 0 a1 a2), (S 11 0 a1)) := rfl
  exact xret_i E dX3_setGauge_32 (xsnd e) (xfst e)
theorem iX3_setSource_X3 : ∀ w ∈ wsX30, w ∈ wsX3_setSource := by decide +kernel
theorem qX3_setSource_10 : xFr wsX3_setSource RX3 10 RX3 TX3 4 0 := ⟨iX3_setSource_X3, List.mem_of_getElem? (i := 1) rfl, by decide⟩
theorem iX3_setSource_X2 : ∀ w ∈ wsX20, w ∈ wsX3_setSource := by decide +kernel
theorem qX3_setSource_52 : xFr wsX3_setSource RX3 52 RX2 TX2 8 7 := ⟨iX3_setSource_X2, List.mem_of_getElem? (i := 2) rfl, by decide⟩
def fX3_setSource (a1 : Int32) (S : xS) : xS × Int32 :=
  ((xu S 1 0 (nI 7) a1), (S 1 0 (nI 7)))
theorem hdX3_setSource : yX3_setSource.cls = RX3 ∧ yX3_setSource.cls ≠ "java/lang/invoke/MethodHandle" ∧ yX3_setSource.cls ≠ "java/lang/invoke/VarHandle" ∧ (parseMethodDescriptor yX3_setSource.desc).map (fun d => d.parameters.length) = some 1 := by decide +kernel
set_option maxRecDepth 100000 in
set_option maxHeartbeats 4000000 in
theorem kX3_setSource (l : Launch) {G : xG} (hap : xAp xYc G) (a1 : Int32) (S : xS) (v1 : ¬ a1 < (0 : Int32)) (w1 : a1 ≤ (1000 : Int32)) : xMi l xYc G yX3_setSource wsX3_setSource 1 22 [.ref (G.2.2 0 0), .int a1] S (fX3_setSource a1 S).1 (fX3_setSource a1 S).2 := by
  refine xMi_of (cc := cX3_setSource) (maxL := 3) (ty := .int) (own := RX3) [some (.ref (G.2.2 0 0)), some (.int a1), none] pnX3 rfl rfl rfl (xcat1 rfl) (Nat.le_of_ble_eq_true rfl) rfl hap (fun F C V E => ?_)
  refine xg_iload_n C dX3_setSource_0 rfl ?_
  refine xg_iconst C dX3_setSource_1 (v := (0 : Int32)) (by decide) ?_
  refine xg_sipush C dX3_setSource_2 (v := (1000 : Int32)) (by decide) ?_
  refine xg_callSv C V (as := [.int a1, .int (0 : Int32), .int (1000 : Int32)]) (fun l => kX3_requireWithin l hap a1 (0 : Int32) (1000 : Int32) S (by first | assumption | exact xnum1 (by assumption)) (by first | assumption | exact xnum2 (by assumption))) gX3_setSource_X3_requireWithin rfl hdX3_requireWithin ⟨by decide, by decide⟩ rfl rfl (Nat.le_of_ble_eq_true rfl) ⟨Nat.zero_le _, Nat.zero_le _⟩ dX3_setSource_5 ?_
  refine xg_aload_n C dX3_setSource_8 rfl ?_
  refine xg_getR C V (f := 0) qX3_setSource_10 rfl rfl rfl dX3_setSource_9 ?_
  refine xg_getI C V (f := 1) qX3_setSource_52 rfl rfl rfl dX3_setSource_12 (v := (S 1 0 (nI 7))) rfl ?_
  refine xg_istore_n C dX3_setSource_15 (by decide) (L' := [some (.ref (G.2.2 0 0)), some (.int a1), some (.int (S 1 0 (nI 7)))]) rfl ?_
  refine xg_aload_n C dX3_setSource_16 rfl ?_
  refine xg_getR C V (f := 0) qX3_setSource_10 rfl rfl rfl dX3_setSource_17 ?_
  refine xg_iload_n C dX3_setSource_20 rfl ?_
  refine xg_putI C V (f := 1) qX3_setSource_52 rfl (by decide) rfl rfl tyX2_ok nmX2 rfl rfl dX3_setSource_21 ?_
  refine xg_iload_n C dX3_setSource_24 rfl ?_
  have e : (fX3_setSource a1 S) = ((xu S 1 0 (nI 7) a1), (S 1 0 (nI 7))) := rfl
  exact xret_i E dX3_setSource_25 (xsnd e) (xfst e)
theorem iX3_rain_X3 : ∀ w ∈ wsX30, w ∈ wsX3_rain := by decide +kernel
theorem qX3_rain_10 : xFr wsX3_rain RX3 10 RX3 TX3 4 0 := ⟨iX3_rain_X3, List.mem_of_getElem? (i := 1) rfl, by decide⟩
theorem iX3_rain_X2 : ∀ w ∈ wsX20, w ∈ wsX3_rain := by decide +kernel
theorem qX3_rain_55 : xFr wsX3_rain RX3 55 RX2 TX2 8 3 := ⟨iX3_rain_X2, List.mem_of_getElem? (i := 2) rfl, by decide⟩
def fX3_rain (a1 : Int32) (a2 : Int32) (S : xS) : xS × Int32 :=
  ((xu S 7 0 a1 ((S 7 0 a1) + a2)), ((S 7 0 a1) + a2))
theorem hdX3_rain : yX3_rain.cls = RX3 ∧ yX3_rain.cls ≠ "java/lang/invoke/MethodHandle" ∧ yX3_rain.cls ≠ "java/lang/invoke/VarHandle" ∧ (parseMethodDescriptor yX3_rain.desc).map (fun d => d.parameters.length) = some 2 := by decide +kernel
set_option maxRecDepth 100000 in
set_option maxHeartbeats 4000000 in
theorem kX3_rain (l : Launch) {G : xG} (hap : xAp xYc G) (a1 : Int32) (a2 : Int32) (S : xS) (g_a1 : vp_in a1 8) (v1 : ¬ a2 < (1 : Int32)) (w1 : a2 ≤ (10000 : Int32)) : xMi l xYc G yX3_rain wsX3_rain 2 42 [.ref (G.2.2 0 0), .int a1, .int a2] S (fX3_rain a1 a2 S).1 (fX3_rain a1 a2 S).2 := by
  refine xMi_of (cc := cX3_rain) (maxL := 3) (ty := .int) (own := RX3) [some (.ref (G.2.2 0 0)), some (.int a1), some (.int a2)] pnX3 rfl rfl rfl (xcat1 rfl) (Nat.le_of_ble_eq_true rfl) rfl hap (fun F C V E => ?_)
  refine xg_iload_n C dX3_rain_0 rfl ?_
  refine xg_callSv C V (as := [.int a1]) (fun l => kX3_requireNumber l hap a1 S (by assumption)) gX3_rain_X3_requireNumber rfl hdX3_requireNumber ⟨by decide, by decide⟩ rfl rfl (Nat.le_of_ble_eq_true rfl) ⟨Nat.zero_le _, Nat.zero_le _⟩ dX3_rain_1 ?_
  refine xg_iload_n C dX3_rain_4 rfl ?_
  refine xg_iconst C dX3_rain_5 (v := (1 : Int32)) (by decide) ?_
  refine xg_sipush C dX3_rain_6 (v := (10000 : Int32)) (by decide) ?_
  refine xg_callSv C V (as := [.int a2, .int (1 : Int32), .int (10000 : Int32)]) (fun l => kX3_requireWithin l hap a2 (1 : Int32) (10000 : Int32) S (by first | assumption | exact xnum1 (by assumption)) (by first | assumption | exact xnum2 (by assumption))) gX3_rain_X3_requireWithin rfl hdX3_requireWithin ⟨by decide, by decide⟩ rfl rfl (Nat.le_of_ble_eq_true rfl) ⟨Nat.zero_le _, Nat.zero_le _⟩ dX3_rain_9 ?_
  refine xg_aload_n C dX3_rain_12 rfl ?_
  refine xg_getR C V (f := 0) qX3_rain_10 rfl rfl rfl dX3_rain_13 ?_
  refine xg_getR C V (f := 1) qX3_rain_55 rfl rfl rfl dX3_rain_16 ?_
  refine xg_iload_n C dX3_rain_19 rfl ?_
  refine xg_dup2 C dX3_rain_20 rfl rfl ?_
  refine xg_iald C V (f := 7) (n := 1) (N := 8) rfl (by decide) (xR_0 (by decide)) (by assumption) dX3_rain_21 (v := (S 7 0 a1)) rfl ?_
  refine xg_iload_n C dX3_rain_22 rfl ?_
  refine xg_iadd C dX3_rain_23 ?_
  refine xg_iast C V (f := 7) (n := 1) (N := 8) rfl (by decide) (xR_0 (by decide)) (by assumption) dX3_rain_24 ?_
  refine xg_aload_n C dX3_rain_25 rfl ?_
  refine xg_getR C V (f := 0) qX3_rain_10 rfl rfl rfl dX3_rain_26 ?_
  refine xg_getR C V (f := 1) qX3_rain_55 rfl rfl rfl dX3_rain_29 ?_
  refine xg_iload_n C dX3_rain_32 rfl ?_
  refine xg_iald C V (f := 7) (n := 1) (N := 8) rfl (by decide) (xR_0 (by decide)) (by assumption) dX3_rain_33 (v := ((S 7 0 a1) + a2)) xu_same ?_
  have e : (fX3_rain a1 a2 S) = ((xu S 7 0 a1 ((S 7 0 a1) + a2)), ((S 7 0 a1) + a2)) := rfl
  exact xret_i E dX3_rain_34 (xsnd e) (xfst e)
theorem iX3_volume_X3 : ∀ w ∈ wsX30, w ∈ wsX3_volume := by decide +kernel
theorem qX3_volume_10 : xFr wsX3_volume RX3 10 RX3 TX3 4 0 := ⟨iX3_volume_X3, List.mem_of_getElem? (i := 1) rfl, by decide⟩
theorem iX3_volume_X2 : ∀ w ∈ wsX20, w ∈ wsX3_volume := by decide +kernel
theorem qX3_volume_58 : xFr wsX3_volume RX3 58 RX2 TX2 8 2 := ⟨iX3_volume_X2, List.mem_of_getElem? (i := 2) rfl, by decide⟩
def fX3_volume (a1 : Int32) (S : xS) : Int32 :=
  (S 6 0 a1)
theorem hdX3_volume : yX3_volume.cls = RX3 ∧ yX3_volume.cls ≠ "java/lang/invoke/MethodHandle" ∧ yX3_volume.cls ≠ "java/lang/invoke/VarHandle" ∧ (parseMethodDescriptor yX3_volume.desc).map (fun d => d.parameters.length) = some 1 := by decide +kernel
set_option maxRecDepth 100000 in
set_option maxHeartbeats 4000000 in
theorem kX3_volume (l : Launch) {G : xG} (hap : xAp xYc G) (a1 : Int32) (S : xS) (g_a1 : vp_in a1 8) : xMi l xYc G yX3_volume wsX3_volume 2 42 [.ref (G.2.2 0 0), .int a1] S S (fX3_volume a1 S) := by
  refine xMi_of (cc := cX3_volume) (maxL := 2) (ty := .int) (own := RX3) [some (.ref (G.2.2 0 0)), some (.int a1)] pnX3 rfl rfl rfl (xcat1 rfl) (Nat.le_of_ble_eq_true rfl) rfl hap (fun F C V E => ?_)
  refine xg_iload_n C dX3_volume_0 rfl ?_
  refine xg_callSv C V (as := [.int a1]) (fun l => kX3_requireNumber l hap a1 S (by assumption)) gX3_volume_X3_requireNumber rfl hdX3_requireNumber ⟨by decide, by decide⟩ rfl rfl (Nat.le_of_ble_eq_true rfl) ⟨Nat.zero_le _, Nat.zero_le _⟩ dX3_volume_1 ?_
  refine xg_aload_n C dX3_volume_4 rfl ?_
  refine xg_getR C V (f := 0) qX3_volume_10 rfl rfl rfl dX3_volume_5 ?_
  refine xg_getR C V (f := 1) qX3_volume_58 rfl rfl rfl dX3_volume_8 ?_
  refine xg_iload_n C dX3_volume_11 rfl ?_
  refine xg_iald C V (f := 6) (n := 1) (N := 8) rfl (by decide) (xR_0 (by decide)) (by assumption) dX3_volume_12 (v := (S 6 0 a1)) rfl ?_
  exact xret_i E dX3_volume_13 (rfl) rfl
theorem iX3_volumeByBalance_X3 : ∀ w ∈ wsX30, w ∈ wsX3_volumeByBalance := by decide +kernel
theorem qX3_volumeByBalance_10 : xFr wsX3_volumeByBalance RX3 10 RX3 TX3 4 0 := ⟨iX3_volumeByBalance_X3, List.mem_of_getElem? (i := 1) rfl, by decide⟩
def fX3_volumeByBalance (a1 : Int32) (S : xS) : Int32 :=
  (fX2_balanceOf a1 S)
theorem hdX3_volumeByBalance : yX3_volumeByBalance.cls = RX3 ∧ yX3_volumeByBalance.cls ≠ "java/lang/invoke/MethodHandle" ∧ yX3_volumeByBalance.cls ≠ "java/lang/invoke/VarHandle" ∧ (parseMethodDescriptor yX3_volumeByBalance.desc).map (fun d => d.parameters.length) = some 1 := by decide +kernel
set_option maxRecDepth 100000 in
set_option maxHeartbeats 4000000 in
theorem kX3_volumeByBalance (l : Launch) {G : xG} (hap : xAp xYc G) (a1 : Int32) (S : xS) (g_a1 : vp_in a1 8) : xMi l xYc G yX3_volumeByBalance wsX3_volumeByBalance 2 42 [.ref (G.2.2 0 0), .int a1] S S (fX3_volumeByBalance a1 S) := by
  refine xMi_of (cc := cX3_volumeByBalance) (maxL := 2) (ty := .int) (own := RX3) [some (.ref (G.2.2 0 0)), some (.int a1)] pnX3 rfl rfl rfl (xcat1 rfl) (Nat.le_of_ble_eq_true rfl) rfl hap (fun F C V E => ?_)
  refine xg_iload_n C dX3_volumeByBalance_0 rfl ?_
  refine xg_callSv C V (as := [.int a1]) (fun l => kX3_requireNumber l hap a1 S (by assumption)) gX3_volumeByBalance_X3_requireNumber rfl hdX3_requireNumber ⟨by decide, by decide⟩ rfl rfl (Nat.le_of_ble_eq_true rfl) ⟨Nat.zero_le _, Nat.zero_le _⟩ dX3_volumeByBalance_1 ?_
  refine xg_aload_n C dX3_volumeByBalance_4 rfl ?_
  refine xg_getR C V (f := 0) qX3_volumeByBalance_10 rfl rfl rfl dX3_volumeByBalance_5 ?_
  refine xg_iload_n C dX3_volumeByBalance_8 rfl ?_
  refine xg_callVi C V (f := 1) (As := [.int a1]) (r := (fX2_balanceOf a1 S)) (fun l => kX2_balanceOf l hap a1 S (by assumption)) gX3_volumeByBalance_X2_balanceOf rfl hdX2_balanceOf ⟨by decide, by decide⟩ rfl rfl rfl rfl rfl (Nat.le_of_ble_eq_true rfl) ⟨Nat.zero_le _, Nat.zero_le _⟩ dX3_volumeByBalance_9 ?_
  exact xret_i E dX3_volumeByBalance_12 (rfl) rfl
theorem iX3_level_X3 : ∀ w ∈ wsX30, w ∈ wsX3_level := by decide +kernel
theorem qX3_level_10 : xFr wsX3_level RX3 10 RX3 TX3 4 0 := ⟨iX3_level_X3, List.mem_of_getElem? (i := 1) rfl, by decide⟩
def fX3_level (a1 : Int32) (S : xS) : Int32 :=
  (fX2_levelOf a1 S)
theorem hdX3_level : yX3_level.cls = RX3 ∧ yX3_level.cls ≠ "java/lang/invoke/MethodHandle" ∧ yX3_level.cls ≠ "java/lang/invoke/VarHandle" ∧ (parseMethodDescriptor yX3_level.desc).map (fun d => d.parameters.length) = some 1 := by decide +kernel
set_option maxRecDepth 100000 in
set_option maxHeartbeats 4000000 in
theorem kX3_level (l : Launch) {G : xG} (hap : xAp xYc G) (a1 : Int32) (S : xS) (g_a1 : vp_in a1 8) : xMi l xYc G yX3_level wsX3_level 2 42 [.ref (G.2.2 0 0), .int a1] S S (fX3_level a1 S) := by
  refine xMi_of (cc := cX3_level) (maxL := 2) (ty := .int) (own := RX3) [some (.ref (G.2.2 0 0)), some (.int a1)] pnX3 rfl rfl rfl (xcat1 rfl) (Nat.le_of_ble_eq_true rfl) rfl hap (fun F C V E => ?_)
  refine xg_iload_n C dX3_level_0 rfl ?_
  refine xg_callSv C V (as := [.int a1]) (fun l => kX3_requireNumber l hap a1 S (by assumption)) gX3_level_X3_requireNumber rfl hdX3_requireNumber ⟨by decide, by decide⟩ rfl rfl (Nat.le_of_ble_eq_true rfl) ⟨Nat.zero_le _, Nat.zero_le _⟩ dX3_level_1 ?_
  refine xg_aload_n C dX3_level_4 rfl ?_
  refine xg_getR C V (f := 0) qX3_level_10 rfl rfl rfl dX3_level_5 ?_
  refine xg_iload_n C dX3_level_8 rfl ?_
  refine xg_callVi C V (f := 1) (As := [.int a1]) (r := (fX2_levelOf a1 S)) (fun l => kX2_levelOf l hap a1 S (by assumption)) gX3_level_X2_levelOf rfl hdX2_levelOf ⟨by decide, by decide⟩ rfl rfl rfl rfl rfl (Nat.le_of_ble_eq_true rfl) ⟨Nat.zero_le _, Nat.zero_le _⟩ dX3_level_9 ?_
  exact xret_i E dX3_level_12 (rfl) rfl
theorem iX3_flowed_X3 : ∀ w ∈ wsX30, w ∈ wsX3_flowed := by decide +kernel
theorem qX3_flowed_10 : xFr wsX3_flowed RX3 10 RX3 TX3 4 0 := ⟨iX3_flowed_X3, List.mem_of_getElem? (i := 1) rfl, by decide⟩
theorem iX3_flowed_X2 : ∀ w ∈ wsX20, w ∈ wsX3_flowed := by decide +kernel
theorem qX3_flowed_68 : xFr wsX3_flowed RX3 68 RX2 TX2 8 5 := ⟨iX3_flowed_X2, List.mem_of_getElem? (i := 2) rfl, by decide⟩
def fX3_flowed (a1 : Int32) (S : xS) : Int32 :=
  (S 9 0 a1)
theorem hdX3_flowed : yX3_flowed.cls = RX3 ∧ yX3_flowed.cls ≠ "java/lang/invoke/MethodHandle" ∧ yX3_flowed.cls ≠ "java/lang/invoke/VarHandle" ∧ (parseMethodDescriptor yX3_flowed.desc).map (fun d => d.parameters.length) = some 1 := by decide +kernel
set_option maxRecDepth 100000 in
set_option maxHeartbeats 4000000 in
theorem kX3_flowed (l : Launch) {G : xG} (hap : xAp xYc G) (a1 : Int32) (S : xS) (g_a1 : vp_in a1 8) : xMi l xYc G yX3_flowed wsX3_flowed 2 42 [.ref (G.2.2 0 0), .int a1] S S (fX3_flowed a1 S) := by
  refine xMi_of (cc := cX3_flowed) (maxL := 2) (ty := .int) (own := RX3) [some (.ref (G.2.2 0 0)), some (.int a1)] pnX3 rfl rfl rfl (xcat1 rfl) (Nat.le_of_ble_eq_true rfl) rfl hap (fun F C V E => ?_)
  refine xg_iload_n C dX3_flowed_0 rfl ?_
  refine xg_callSv C V (as := [.int a1]) (fun l => kX3_requireNumber l hap a1 S (by assumption)) gX3_flowed_X3_requireNumber rfl hdX3_requireNumber ⟨by decide, by decide⟩ rfl rfl (Nat.le_of_ble_eq_true rfl) ⟨Nat.zero_le _, Nat.zero_le _⟩ dX3_flowed_1 ?_
  refine xg_aload_n C dX3_flowed_4 rfl ?_
  refine xg_getR C V (f := 0) qX3_flowed_10 rfl rfl rfl dX3_flowed_5 ?_
  refine xg_getR C V (f := 1) qX3_flowed_68 rfl rfl rfl dX3_flowed_8 ?_
  refine xg_iload_n C dX3_flowed_11 rfl ?_
  refine xg_iald C V (f := 9) (n := 1) (N := 8) rfl (by decide) (xR_0 (by decide)) (by assumption) dX3_flowed_12 (v := (S 9 0 a1)) rfl ?_
  exact xret_i E dX3_flowed_13 (rfl) rfl
theorem iX3_spilled_X3 : ∀ w ∈ wsX30, w ∈ wsX3_spilled := by decide +kernel
theorem qX3_spilled_10 : xFr wsX3_spilled RX3 10 RX3 TX3 4 0 := ⟨iX3_spilled_X3, List.mem_of_getElem? (i := 1) rfl, by decide⟩
theorem iX3_spilled_X2 : ∀ w ∈ wsX20, w ∈ wsX3_spilled := by decide +kernel
theorem qX3_spilled_71 : xFr wsX3_spilled RX3 71 RX2 TX2 8 6 := ⟨iX3_spilled_X2, List.mem_of_getElem? (i := 2) rfl, by decide⟩
def fX3_spilled (a1 : Int32) (S : xS) : Int32 :=
  (S 10 0 a1)
theorem hdX3_spilled : yX3_spilled.cls = RX3 ∧ yX3_spilled.cls ≠ "java/lang/invoke/MethodHandle" ∧ yX3_spilled.cls ≠ "java/lang/invoke/VarHandle" ∧ (parseMethodDescriptor yX3_spilled.desc).map (fun d => d.parameters.length) = some 1 := by decide +kernel
set_option maxRecDepth 100000 in
set_option maxHeartbeats 4000000 in
theorem kX3_spilled (l : Launch) {G : xG} (hap : xAp xYc G) (a1 : Int32) (S : xS) (g_a1 : vp_in a1 8) : xMi l xYc G yX3_spilled wsX3_spilled 2 42 [.ref (G.2.2 0 0), .int a1] S S (fX3_spilled a1 S) := by
  refine xMi_of (cc := cX3_spilled) (maxL := 2) (ty := .int) (own := RX3) [some (.ref (G.2.2 0 0)), some (.int a1)] pnX3 rfl rfl rfl (xcat1 rfl) (Nat.le_of_ble_eq_true rfl) rfl hap (fun F C V E => ?_)
  refine xg_iload_n C dX3_spilled_0 rfl ?_
  refine xg_callSv C V (as := [.int a1]) (fun l => kX3_requireNumber l hap a1 S (by assumption)) gX3_spilled_X3_requireNumber rfl hdX3_requireNumber ⟨by decide, by decide⟩ rfl rfl (Nat.le_of_ble_eq_true rfl) ⟨Nat.zero_le _, Nat.zero_le _⟩ dX3_spilled_1 ?_
  refine xg_aload_n C dX3_spilled_4 rfl ?_
  refine xg_getR C V (f := 0) qX3_spilled_10 rfl rfl rfl dX3_spilled_5 ?_
  refine xg_getR C V (f := 1) qX3_spilled_71 rfl rfl rfl dX3_spilled_8 ?_
  refine xg_iload_n C dX3_spilled_11 rfl ?_
  refine xg_iald C V (f := 10) (n := 1) (N := 8) rfl (by decide) (xR_0 (by decide)) (by assumption) dX3_spilled_12 (v := (S 10 0 a1)) rfl ?_
  exact xret_i E dX3_spilled_13 (rfl) rfl
theorem iX3_opening_X3 : ∀ w ∈ wsX30, w ∈ wsX3_opening := by decide +kernel
theorem qX3_opening_19 : xFr wsX3_opening RX3 19 RX3 TX3 4 1 := ⟨iX3_opening_X3, List.mem_of_getElem? (i := 1) rfl, by decide⟩
theorem iX3_opening_X0 : ∀ w ∈ wsX00, w ∈ wsX3_opening := by decide +kernel
theorem qX3_opening_97 : xFr wsX3_opening RX3 97 RX0 TX0 8 1 := ⟨iX3_opening_X0, List.mem_of_getElem? (i := 2) rfl, by decide⟩
def fX3_opening (a1 : Int32) (S : xS) : Int32 :=
  (S 12 0 a1)
theorem hdX3_opening : yX3_opening.cls = RX3 ∧ yX3_opening.cls ≠ "java/lang/invoke/MethodHandle" ∧ yX3_opening.cls ≠ "java/lang/invoke/VarHandle" ∧ (parseMethodDescriptor yX3_opening.desc).map (fun d => d.parameters.length) = some 1 := by decide +kernel
set_option maxRecDepth 100000 in
set_option maxHeartbeats 4000000 in
theorem kX3_opening (l : Launch) {G : xG} (hap : xAp xYc G) (a1 : Int32) (S : xS) (g_a1 : vp_in a1 8) : xMi l xYc G yX3_opening wsX3_opening 2 42 [.ref (G.2.2 0 0), .int a1] S S (fX3_opening a1 S) := by
  refine xMi_of (cc := cX3_opening) (maxL := 2) (ty := .int) (own := RX3) [some (.ref (G.2.2 0 0)), some (.int a1)] pnX3 rfl rfl rfl (xcat1 rfl) (Nat.le_of_ble_eq_true rfl) rfl hap (fun F C V E => ?_)
  refine xg_iload_n C dX3_opening_0 rfl ?_
  refine xg_callSv C V (as := [.int a1]) (fun l => kX3_requireNumber l hap a1 S (by assumption)) gX3_opening_X3_requireNumber rfl hdX3_requireNumber ⟨by decide, by decide⟩ rfl rfl (Nat.le_of_ble_eq_true rfl) ⟨Nat.zero_le _, Nat.zero_le _⟩ dX3_opening_1 ?_
  refine xg_aload_n C dX3_opening_4 rfl ?_
  refine xg_getR C V (f := 0) qX3_opening_19 rfl rfl rfl dX3_opening_5 ?_
  refine xg_getR C V (f := 2) qX3_opening_97 rfl rfl rfl dX3_opening_8 ?_
  refine xg_iload_n C dX3_opening_11 rfl ?_
  refine xg_iald C V (f := 12) (n := 1) (N := 8) rfl (by decide) (xR_0 (by decide)) (by assumption) dX3_opening_12 (v := (S 12 0 a1)) rfl ?_
  exact xret_i E dX3_opening_13 (rfl) rfl
theorem iX3_safety_X3 : ∀ w ∈ wsX30, w ∈ wsX3_safety := by decide +kernel
theorem qX3_safety_19 : xFr wsX3_safety RX3 19 RX3 TX3 4 1 := ⟨iX3_safety_X3, List.mem_of_getElem? (i := 1) rfl, by decide⟩
theorem iX3_safety_X0 : ∀ w ∈ wsX00, w ∈ wsX3_safety := by decide +kernel
theorem qX3_safety_100 : xFr wsX3_safety RX3 100 RX0 TX0 8 6 := ⟨iX3_safety_X0, List.mem_of_getElem? (i := 2) rfl, by decide⟩
def fX3_safety (a1 : Int32) (S : xS) : Int32 :=
  (S 17 0 a1)
theorem hdX3_safety : yX3_safety.cls = RX3 ∧ yX3_safety.cls ≠ "java/lang/invoke/MethodHandle" ∧ yX3_safety.cls ≠ "java/lang/invoke/VarHandle" ∧ (parseMethodDescriptor yX3_safety.desc).map (fun d => d.parameters.length) = some 1 := by decide +kernel
set_option maxRecDepth 100000 in
set_option maxHeartbeats 4000000 in
theorem kX3_safety (l : Launch) {G : xG} (hap : xAp xYc G) (a1 : Int32) (S : xS) (g_a1 : vp_in a1 8) : xMi l xYc G yX3_safety wsX3_safety 2 42 [.ref (G.2.2 0 0), .int a1] S S (fX3_safety a1 S) := by
  refine xMi_of (cc := cX3_safety) (maxL := 2) (ty := .int) (own := RX3) [some (.ref (G.2.2 0 0)), some (.int a1)] pnX3 rfl rfl rfl (xcat1 rfl) (Nat.le_of_ble_eq_true rfl) rfl hap (fun F C V E => ?_)
  refine xg_iload_n C dX3_safety_0 rfl ?_
  refine xg_callSv C V (as := [.int a1]) (fun l => kX3_requireNumber l hap a1 S (by assumption)) gX3_safety_X3_requireNumber rfl hdX3_requireNumber ⟨by decide, by decide⟩ rfl rfl (Nat.le_of_ble_eq_true rfl) ⟨Nat.zero_le _, Nat.zero_le _⟩ dX3_safety_1 ?_
  refine xg_aload_n C dX3_safety_4 rfl ?_
  refine xg_getR C V (f := 0) qX3_safety_19 rfl rfl rfl dX3_safety_5 ?_
  refine xg_getR C V (f := 2) qX3_safety_100 rfl rfl rfl dX3_safety_8 ?_
  refine xg_iload_n C dX3_safety_11 rfl ?_
  refine xg_iald C V (f := 17) (n := 1) (N := 8) rfl (by decide) (xR_0 (by decide)) (by assumption) dX3_safety_12 (v := (S 17 0 a1)) rfl ?_
  exact xret_i E dX3_safety_13 (rfl) rfl
theorem iX3_freshest_X3 : ∀ w ∈ wsX30, w ∈ wsX3_freshest := by decide +kernel
theorem qX3_freshest_26 : xFr wsX3_freshest RX3 26 RX3 TX3 4 2 := ⟨iX3_freshest_X3, List.mem_of_getElem? (i := 1) rfl, by decide⟩
def fX3_freshest (a1 : Int32) (S : xS) : Int32 :=
  (fX1_freshestOf a1 S)
theorem hdX3_freshest : yX3_freshest.cls = RX3 ∧ yX3_freshest.cls ≠ "java/lang/invoke/MethodHandle" ∧ yX3_freshest.cls ≠ "java/lang/invoke/VarHandle" ∧ (parseMethodDescriptor yX3_freshest.desc).map (fun d => d.parameters.length) = some 1 := by decide +kernel
set_option maxRecDepth 100000 in
set_option maxHeartbeats 4000000 in
theorem kX3_freshest (l : Launch) {G : xG} (hap : xAp xYc G) (a1 : Int32) (S : xS) (g_a1 : vp_in a1 8) : xMi l xYc G yX3_freshest wsX3_freshest 2 42 [.ref (G.2.2 0 0), .int a1] S S (fX3_freshest a1 S) := by
  refine xMi_of (cc := cX3_freshest) (maxL := 2) (ty := .int) (own := RX3) [some (.ref (G.2.2 0 0)), some (.int a1)] pnX3 rfl rfl rfl (xcat1 rfl) (Nat.le_of_ble_eq_true rfl) rfl hap (fun F C V E => ?_)
  refine xg_iload_n C dX3_freshest_0 rfl ?_
  refine xg_callSv C V (as := [.int a1]) (fun l => kX3_requireNumber l hap a1 S (by assumption)) gX3_freshest_X3_requireNumber rfl hdX3_requireNumber ⟨by decide, by decide⟩ rfl rfl (Nat.le_of_ble_eq_true rfl) ⟨Nat.zero_le _, Nat.zero_le _⟩ dX3_freshest_1 ?_
  refine xg_aload_n C dX3_freshest_4 rfl ?_
  refine xg_getR C V (f := 0) qX3_freshest_26 rfl rfl rfl dX3_freshest_5 ?_
  refine xg_iload_n C dX3_freshest_8 rfl ?_
  refine xg_callVi C V (f := 3) (As := [.int a1]) (r := (fX1_freshestOf a1 S)) (fun l => kX1_freshestOf l hap a1 S (by assumption)) gX3_freshest_X1_freshestOf rfl hdX1_freshestOf ⟨by decide, by decide⟩ rfl rfl rfl rfl rfl (Nat.le_of_ble_eq_true rfl) ⟨Nat.zero_le _, Nat.zero_le _⟩ dX3_freshest_9 ?_
  exact xret_i E dX3_freshest_12 (rfl) rfl
theorem iX3_agree_X3 : ∀ w ∈ wsX30, w ∈ wsX3_agree := by decide +kernel
theorem qX3_agree_26 : xFr wsX3_agree RX3 26 RX3 TX3 4 2 := ⟨iX3_agree_X3, List.mem_of_getElem? (i := 1) rfl, by decide⟩
theorem qX3_agree_10 : xFr wsX3_agree RX3 10 RX3 TX3 4 0 := ⟨iX3_agree_X3, List.mem_of_getElem? (i := 2) rfl, by decide⟩
def fX3_agree (a1 : Int32) (S : xS) : Int32 :=
  (fX1_believersOf a1 (fX2_levelOf a1 S) S)
theorem hdX3_agree : yX3_agree.cls = RX3 ∧ yX3_agree.cls ≠ "java/lang/invoke/MethodHandle" ∧ yX3_agree.cls ≠ "java/lang/invoke/VarHandle" ∧ (parseMethodDescriptor yX3_agree.desc).map (fun d => d.parameters.length) = some 1 := by decide +kernel
set_option maxRecDepth 100000 in
set_option maxHeartbeats 4000000 in
theorem kX3_agree (l : Launch) {G : xG} (hap : xAp xYc G) (a1 : Int32) (S : xS) (g_a1 : vp_in a1 8) : xMi l xYc G yX3_agree wsX3_agree 2 47 [.ref (G.2.2 0 0), .int a1] S S (fX3_agree a1 S) := by
  refine xMi_of (cc := cX3_agree) (maxL := 2) (ty := .int) (own := RX3) [some (.ref (G.2.2 0 0)), some (.int a1)] pnX3 rfl rfl rfl (xcat1 rfl) (Nat.le_of_ble_eq_true rfl) rfl hap (fun F C V E => ?_)
  refine xg_iload_n C dX3_agree_0 rfl ?_
  refine xg_callSv C V (as := [.int a1]) (fun l => kX3_requireNumber l hap a1 S (by assumption)) gX3_agree_X3_requireNumber rfl hdX3_requireNumber ⟨by decide, by decide⟩ rfl rfl (Nat.le_of_ble_eq_true rfl) ⟨Nat.zero_le _, Nat.zero_le _⟩ dX3_agree_1 ?_
  refine xg_aload_n C dX3_agree_4 rfl ?_
  refine xg_getR C V (f := 0) qX3_agree_26 rfl rfl rfl dX3_agree_5 ?_
  refine xg_iload_n C dX3_agree_8 rfl ?_
  refine xg_aload_n C dX3_agree_9 rfl ?_
  refine xg_getR C V (f := 0) qX3_agree_10 rfl rfl rfl dX3_agree_10 ?_
  refine xg_iload_n C dX3_agree_13 rfl ?_
  refine xg_callVi C V (f := 1) (As := [.int a1]) (r := (fX2_levelOf a1 S)) (fun l => kX2_levelOf l hap a1 S (by assumption)) gX3_agree_X2_levelOf rfl hdX2_levelOf ⟨by decide, by decide⟩ rfl rfl rfl rfl rfl (Nat.le_of_ble_eq_true rfl) ⟨Nat.zero_le _, Nat.zero_le _⟩ dX3_agree_14 ?_
  refine xg_callVi C V (f := 3) (As := [.int a1, .int (fX2_levelOf a1 S)]) (r := (fX1_believersOf a1 (fX2_levelOf a1 S) S)) (fun l => kX1_believersOf l hap a1 (fX2_levelOf a1 S) S (by assumption)) gX3_agree_X1_believersOf rfl hdX1_believersOf ⟨by decide, by decide⟩ rfl rfl rfl rfl rfl (Nat.le_of_ble_eq_true rfl) ⟨Nat.zero_le _, Nat.zero_le _⟩ dX3_agree_17 ?_
  exact xret_i E dX3_agree_20 (rfl) rfl
theorem iX3_setRule_X3 : ∀ w ∈ wsX30, w ∈ wsX3_setRule := by decide +kernel
theorem qX3_setRule_19 : xFr wsX3_setRule RX3 19 RX3 TX3 4 1 := ⟨iX3_setRule_X3, List.mem_of_getElem? (i := 1) rfl, by decide⟩
theorem iX3_setRule_X0 : ∀ w ∈ wsX00, w ∈ wsX3_setRule := by decide +kernel
theorem qX3_setRule_74 : xFr wsX3_setRule RX3 74 RX0 TX0 8 2 := ⟨iX3_setRule_X0, List.mem_of_getElem? (i := 2) rfl, by decide⟩
theorem qX3_setRule_77 : xFr wsX3_setRule RX3 77 RX0 TX0 8 3 := ⟨iX3_setRule_X0, List.mem_of_getElem? (i := 3) rfl, by decide⟩
theorem qX3_setRule_80 : xFr wsX3_setRule RX3 80 RX0 TX0 8 4 := ⟨iX3_setRule_X0, List.mem_of_getElem? (i := 4) rfl, by decide⟩
theorem qX3_setRule_83 : xFr wsX3_setRule RX3 83 RX0 TX0 8 5 := ⟨iX3_setRule_X0, List.mem_of_getElem? (i := 5) rfl, by decide⟩
def fX3_setRule (a1 : Int32) (a2 : Int32) (a3 : Int32) (a4 : Int32) (a5 : Int32) (S : xS) : xS :=
  (xu (xu (xu (xu S 13 0 a1 a2) 14 0 a1 a3) 15 0 a1 a4) 16 0 a1 a5)
theorem hdX3_setRule : yX3_setRule.cls = RX3 ∧ yX3_setRule.cls ≠ "java/lang/invoke/MethodHandle" ∧ yX3_setRule.cls ≠ "java/lang/invoke/VarHandle" ∧ (parseMethodDescriptor yX3_setRule.desc).map (fun d => d.parameters.length) = some 5 := by decide +kernel
set_option maxRecDepth 100000 in
set_option maxHeartbeats 4000000 in
theorem kX3_setRule (l : Launch) {G : xG} (hap : xAp xYc G) (a1 : Int32) (a2 : Int32) (a3 : Int32) (a4 : Int32) (a5 : Int32) (S : xS) (g_a1 : vp_in a1 8) (v1 : ¬ a2 < (0 : Int32)) (w1 : a2 ≤ (1000 : Int32)) (v2 : ¬ a3 < a2) (w2 : a3 ≤ (1000 : Int32)) (v3 : ¬ a4 < (0 : Int32)) (w3 : a4 ≤ (1000 : Int32)) (v4 : ¬ a5 < (0 : Int32)) (w4 : a5 ≤ (100 : Int32)) : xMv l xYc G yX3_setRule wsX3_setRule 2 42 [.ref (G.2.2 0 0), .int a1, .int a2, .int a3, .int a4, .int a5] S (fX3_setRule a1 a2 a3 a4 a5 S) := by
  refine xMv_of (cc := cX3_setRule) (maxL := 6) (own := RX3) [some (.ref (G.2.2 0 0)), some (.int a1), some (.int a2), some (.int a3), some (.int a4), some (.int a5)] pnX3 rfl rfl (xcat1 rfl) (Nat.le_of_ble_eq_true rfl) rfl hap (fun F C V E => ?_)
  refine xg_iload_n C dX3_setRule_0 rfl ?_
  refine xg_callSv C V (as := [.int a1]) (fun l => kX3_requireNumber l hap a1 S (by assumption)) gX3_setRule_X3_requireNumber rfl hdX3_requireNumber ⟨by decide, by decide⟩ rfl rfl (Nat.le_of_ble_eq_true rfl) ⟨Nat.zero_le _, Nat.zero_le _⟩ dX3_setRule_1 ?_
  refine xg_iload_n C dX3_setRule_4 rfl ?_
  refine xg_iconst C dX3_setRule_5 (v := (0 : Int32)) (by decide) ?_
  refine xg_sipush C dX3_setRule_6 (v := (1000 : Int32)) (by decide) ?_
  refine xg_callSv C V (as := [.int a2, .int (0 : Int32), .int (1000 : Int32)]) (fun l => kX3_requireWithin l hap a2 (0 : Int32) (1000 : Int32) S (by first | assumption | exact xnum1 (by assumption)) (by first | assumption | exact xnum2 (by assumption))) gX3_setRule_X3_requireWithin rfl hdX3_requireWithin ⟨by decide, by decide⟩ rfl rfl (Nat.le_of_ble_eq_true rfl) ⟨Nat.zero_le _, Nat.zero_le _⟩ dX3_setRule_9 ?_
  refine xg_iload_n C dX3_setRule_12 rfl ?_
  refine xg_iload_n C dX3_setRule_13 rfl ?_
  refine xg_sipush C dX3_setRule_14 (v := (1000 : Int32)) (by decide) ?_
  refine xg_callSv C V (as := [.int a3, .int a2, .int (1000 : Int32)]) (fun l => kX3_requireWithin l hap a3 a2 (1000 : Int32) S (by first | assumption | exact xnum1 (by assumption)) (by first | assumption | exact xnum2 (by assumption))) gX3_setRule_X3_requireWithin rfl hdX3_requireWithin ⟨by decide, by decide⟩ rfl rfl (Nat.le_of_ble_eq_true rfl) ⟨Nat.zero_le _, Nat.zero_le _⟩ dX3_setRule_17 ?_
  refine xg_iload C dX3_setRule_20 rfl ?_
  refine xg_iconst C dX3_setRule_22 (v := (0 : Int32)) (by decide) ?_
  refine xg_sipush C dX3_setRule_23 (v := (1000 : Int32)) (by decide) ?_
  refine xg_callSv C V (as := [.int a4, .int (0 : Int32), .int (1000 : Int32)]) (fun l => kX3_requireWithin l hap a4 (0 : Int32) (1000 : Int32) S (by first | assumption | exact xnum1 (by assumption)) (by first | assumption | exact xnum2 (by assumption))) gX3_setRule_X3_requireWithin rfl hdX3_requireWithin ⟨by decide, by decide⟩ rfl rfl (Nat.le_of_ble_eq_true rfl) ⟨Nat.zero_le _, Nat.zero_le _⟩ dX3_setRule_26 ?_
  refine xg_iload C dX3_setRule_29 rfl ?_
  refine xg_iconst C dX3_setRule_31 (v := (0 : Int32)) (by decide) ?_
  refine xg_bipush C dX3_setRule_32 (v := (100 : Int32)) (by decide) ?_
  refine xg_callSv C V (as := [.int a5, .int (0 : Int32), .int (100 : Int32)]) (fun l => kX3_requireWithin l hap a5 (0 : Int32) (100 : Int32) S (by first | assumption | exact xnum1 (by assumption)) (by first | assumption | exact xnum2 (by assumption))) gX3_setRule_X3_requireWithin rfl hdX3_requireWithin ⟨by decide, by decide⟩ rfl rfl (Nat.le_of_ble_eq_true rfl) ⟨Nat.zero_le _, Nat.zero_le _⟩ dX3_setRule_34 ?_
  refine xg_aload_n C dX3_setRule_37 rfl ?_
  refine xg_getR C V (f := 0) qX3_setRule_19 rfl rfl rfl dX3_setRule_38 ?_
  refine xg_getR C V (f := 2) qX3_setRule_74 rfl rfl rfl dX3_setRule_41 ?_
  refine xg_iload_n C dX3_setRule_44 rfl ?_
  refine xg_iload_n C dX3_setRule_45 rfl ?_
  refine xg_iast C V (f := 13) (n := 1) (N := 8) rfl (by decide) (xR_0 (by decide)) (by assumption) dX3_setRule_46 ?_
  refine xg_aload_n C dX3_setRule_47 rfl ?_
  refine xg_getR C V (f := 0) qX3_setRule_19 rfl rfl rfl dX3_setRule_48 ?_
  refine xg_getR C V (f := 2) qX3_setRule_77 rfl rfl rfl dX3_setRule_51 ?_
  refine xg_iload_n C dX3_setRule_54 rfl ?_
  refine xg_iload_n C dX3_setRule_55 rfl ?_
  refine xg_iast C V (f := 14) (n := 1) (N := 8) rfl (by decide) (xR_0 (by decide)) (by assumption) dX3_setRule_56 ?_
  refine xg_aload_n C dX3_setRule_57 rfl ?_
  refine xg_getR C V (f := 0) qX3_setRule_19 rfl rfl rfl dX3_setRule_58 ?_
  refine xg_getR C V (f := 2) qX3_setRule_80 rfl rfl rfl dX3_setRule_61 ?_
  refine xg_iload_n C dX3_setRule_64 rfl ?_
  refine xg_iload C dX3_setRule_65 rfl ?_
  refine xg_iast C V (f := 15) (n := 1) (N := 8) rfl (by decide) (xR_0 (by decide)) (by assumption) dX3_setRule_67 ?_
  refine xg_aload_n C dX3_setRule_68 rfl ?_
  refine xg_getR C V (f := 0) qX3_setRule_19 rfl rfl rfl dX3_setRule_69 ?_
  refine xg_getR C V (f := 2) qX3_setRule_83 rfl rfl rfl dX3_setRule_72 ?_
  refine xg_iload_n C dX3_setRule_75 rfl ?_
  refine xg_iload C dX3_setRule_76 rfl ?_
  refine xg_iast C V (f := 16) (n := 1) (N := 8) rfl (by decide) (xR_0 (by decide)) (by assumption) dX3_setRule_78 ?_
  exact xret_v E dX3_setRule_79 (rfl)
theorem iX3_byHand_X3 : ∀ w ∈ wsX30, w ∈ wsX3_byHand := by decide +kernel
theorem qX3_byHand_19 : xFr wsX3_byHand RX3 19 RX3 TX3 4 1 := ⟨iX3_byHand_X3, List.mem_of_getElem? (i := 3) rfl, by decide⟩
theorem iX3_byHand_X0 : ∀ w ∈ wsX00, w ∈ wsX3_byHand := by decide +kernel
theorem qX3_byHand_97 : xFr wsX3_byHand RX3 97 RX0 TX0 8 1 := ⟨iX3_byHand_X0, List.mem_of_getElem? (i := 5) rfl, by decide⟩
theorem qX3_byHand_86 : xFr wsX3_byHand RX3 86 RX0 TX0 8 7 := ⟨iX3_byHand_X0, List.mem_of_getElem? (i := 4) rfl, by decide⟩
def fX3_byHand (a1 : Int32) (a2 : Int32) (S : xS) : xS × Int32 :=
  if a2 = (-1 : Int32) then
    ((xu S 18 0 a1 (0 : Int32)), (S 12 0 a1))
  else
    ((xu (xu S 18 0 a1 (1 : Int32)) 12 0 a1 a2), (S 12 0 a1))
theorem hdX3_byHand : yX3_byHand.cls = RX3 ∧ yX3_byHand.cls ≠ "java/lang/invoke/MethodHandle" ∧ yX3_byHand.cls ≠ "java/lang/invoke/VarHandle" ∧ (parseMethodDescriptor yX3_byHand.desc).map (fun d => d.parameters.length) = some 2 := by decide +kernel
set_option maxRecDepth 100000 in
set_option maxHeartbeats 4000000 in
theorem kX3_byHand (l : Launch) {G : xG} (hap : xAp xYc G) (a1 : Int32) (a2 : Int32) (S : xS) (g_a1 : vp_in a1 8) (v1 : ¬ a2 < (-1 : Int32)) (w1 : a2 ≤ (10 : Int32)) (hb : a2 = (-1 : Int32) → ¬ S 18 0 a1 = (0 : Int32)) : xMi l xYc G yX3_byHand wsX3_byHand 2 42 [.ref (G.2.2 0 0), .int a1, .int a2] S (fX3_byHand a1 a2 S).1 (fX3_byHand a1 a2 S).2 := by
  refine xMi_of (cc := cX3_byHand) (maxL := 4) (ty := .int) (own := RX3) [some (.ref (G.2.2 0 0)), some (.int a1), some (.int a2), none] pnX3 rfl rfl rfl (xcat1 rfl) (Nat.le_of_ble_eq_true rfl) rfl hap (fun F C V E => ?_)
  refine xg_iload_n C dX3_byHand_0 rfl ?_
  refine xg_callSv C V (as := [.int a1]) (fun l => kX3_requireNumber l hap a1 S (by assumption)) gX3_byHand_X3_requireNumber rfl hdX3_requireNumber ⟨by decide, by decide⟩ rfl rfl (Nat.le_of_ble_eq_true rfl) ⟨Nat.zero_le _, Nat.zero_le _⟩ dX3_byHand_1 ?_
  refine xg_iload_n C dX3_byHand_4 rfl ?_
  refine xg_iconst C dX3_byHand_5 (v := (-1 : Int32)) (by decide) ?_
  refine xg_bipush C dX3_byHand_6 (v := (10 : Int32)) (by decide) ?_
  refine xg_callSv C V (as := [.int a2, .int (-1 : Int32), .int (10 : Int32)]) (fun l => kX3_requireWithin l hap a2 (-1 : Int32) (10 : Int32) S (by first | assumption | exact xnum1 (by assumption)) (by first | assumption | exact xnum2 (by assumption))) gX3_byHand_X3_requireWithin rfl hdX3_requireWithin ⟨by decide, by decide⟩ rfl rfl (Nat.le_of_ble_eq_true rfl) ⟨Nat.zero_le _, Nat.zero_le _⟩ dX3_byHand_8 ?_
  refine xg_iload_n C dX3_byHand_11 rfl ?_
  refine xg_iconst C dX3_byHand_12 (v := (-1 : Int32)) (by decide) ?_
  refine xg_icmp_ne C 38 dX3_byHand_13 (by decide) (fun h1 => ?_) (fun h1 => ?_)
  · refine xg_aload_n C dX3_byHand_38 rfl ?_
    refine xg_getR C V (f := 0) qX3_byHand_19 rfl rfl rfl dX3_byHand_39 ?_
    refine xg_getR C V (f := 2) qX3_byHand_97 rfl rfl rfl dX3_byHand_42 ?_
    refine xg_iload_n C dX3_byHand_45 rfl ?_
    refine xg_iald C V (f := 12) (n := 1) (N := 8) rfl (by decide) (xR_0 (by decide)) (by assumption) dX3_byHand_46 (v := (S 12 0 a1)) rfl ?_
    refine xg_istore_n C dX3_byHand_47 (by decide) (L' := [some (.ref (G.2.2 0 0)), some (.int a1), some (.int a2), some (.int (S 12 0 a1))]) rfl ?_
    refine xg_aload_n C dX3_byHand_48 rfl ?_
    refine xg_getR C V (f := 0) qX3_byHand_19 rfl rfl rfl dX3_byHand_49 ?_
    refine xg_getR C V (f := 2) qX3_byHand_86 rfl rfl rfl dX3_byHand_52 ?_
    refine xg_iload_n C dX3_byHand_55 rfl ?_
    refine xg_iload_n C dX3_byHand_56 rfl ?_
    refine xg_iconst C dX3_byHand_57 (v := (-1 : Int32)) (by decide) ?_
    refine xg_icmp_eq C 65 dX3_byHand_58 (by decide) (fun h2 => by contradiction) (fun h2 => ?_)
    refine xg_iconst C dX3_byHand_61 (v := (1 : Int32)) (by decide) ?_
    refine xg_goto C 66 dX3_byHand_62 (by decide) ?_
    refine xg_zast C V (f := 18) (n := 1) (N := 8) rfl (by decide) (xR_0 (by decide)) (by assumption) rfl dX3_byHand_66 ?_
    refine xg_iload_n C dX3_byHand_67 rfl ?_
    refine xg_iconst C dX3_byHand_68 (v := (-1 : Int32)) (by decide) ?_
    refine xg_icmp_eq C 82 dX3_byHand_69 (by decide) (fun h3 => by contradiction) (fun h3 => ?_)
    refine xg_aload_n C dX3_byHand_72 rfl ?_
    refine xg_getR C V (f := 0) qX3_byHand_19 rfl rfl rfl dX3_byHand_73 ?_
    refine xg_getR C V (f := 2) qX3_byHand_97 rfl rfl rfl dX3_byHand_76 ?_
    refine xg_iload_n C dX3_byHand_79 rfl ?_
    refine xg_iload_n C dX3_byHand_80 rfl ?_
    refine xg_iast C V (f := 12) (n := 1) (N := 8) rfl (by decide) (xR_0 (by decide)) (by assumption) dX3_byHand_81 ?_
    refine xg_iload_n C dX3_byHand_82 rfl ?_
    have e : (fX3_byHand a1 a2 S) = ((xu (xu S 18 0 a1 (1 : Int32)) 12 0 a1 a2), (S 12 0 a1)) := by first | (rw [fX3_byHand, if_neg h1]; done) | (rw [fX3_byHand, if_neg h1]; rfl)
    exact xret_i E dX3_byHand_83 (xsnd e) (xfst e)
  · refine xg_aload_n C dX3_byHand_16 rfl ?_
    refine xg_getR C V (f := 0) qX3_byHand_19 rfl rfl rfl dX3_byHand_17 ?_
    refine xg_getR C V (f := 2) qX3_byHand_86 rfl rfl rfl dX3_byHand_20 ?_
    refine xg_iload_n C dX3_byHand_23 rfl ?_
    refine xg_zald C V (f := 18) (n := 1) (N := 8) rfl (by decide) (xR_0 (by decide)) (by assumption) dX3_byHand_24 (v := (S 18 0 a1)) rfl ?_
    refine xg_if_ne C 38 dX3_byHand_25 (by decide) (fun h4 => ?_) (fun h4 => absurd h4 (hb (by assumption)))
    refine xg_aload_n C dX3_byHand_38 rfl ?_
    refine xg_getR C V (f := 0) qX3_byHand_19 rfl rfl rfl dX3_byHand_39 ?_
    refine xg_getR C V (f := 2) qX3_byHand_97 rfl rfl rfl dX3_byHand_42 ?_
    refine xg_iload_n C dX3_byHand_45 rfl ?_
    refine xg_iald C V (f := 12) (n := 1) (N := 8) rfl (by decide) (xR_0 (by decide)) (by assumption) dX3_byHand_46 (v := (S 12 0 a1)) rfl ?_
    refine xg_istore_n C dX3_byHand_47 (by decide) (L' := [some (.ref (G.2.2 0 0)), some (.int a1), some (.int a2), some (.int (S 12 0 a1))]) rfl ?_
    refine xg_aload_n C dX3_byHand_48 rfl ?_
    refine xg_getR C V (f := 0) qX3_byHand_19 rfl rfl rfl dX3_byHand_49 ?_
    refine xg_getR C V (f := 2) qX3_byHand_86 rfl rfl rfl dX3_byHand_52 ?_
    refine xg_iload_n C dX3_byHand_55 rfl ?_
    refine xg_iload_n C dX3_byHand_56 rfl ?_
    refine xg_iconst C dX3_byHand_57 (v := (-1 : Int32)) (by decide) ?_
    refine xg_icmp_eq C 65 dX3_byHand_58 (by decide) (fun h5 => ?_) (fun h5 => by contradiction)
    refine xg_iconst C dX3_byHand_65 (v := (0 : Int32)) (by decide) ?_
    refine xg_zast C V (f := 18) (n := 1) (N := 8) rfl (by decide) (xR_0 (by decide)) (by assumption) rfl dX3_byHand_66 ?_
    refine xg_iload_n C dX3_byHand_67 rfl ?_
    refine xg_iconst C dX3_byHand_68 (v := (-1 : Int32)) (by decide) ?_
    refine xg_icmp_eq C 82 dX3_byHand_69 (by decide) (fun h6 => ?_) (fun h6 => by contradiction)
    refine xg_iload_n C dX3_byHand_82 rfl ?_
    have e : (fX3_byHand a1 a2 S) = ((xu S 18 0 a1 (0 : Int32)), (S 12 0 a1)) := by first | (rw [fX3_byHand, if_pos h1]; done) | (rw [fX3_byHand, if_pos h1]; rfl)
    exact xret_i E dX3_byHand_83 (xsnd e) (xfst e)
theorem iX3_fall_X3 : ∀ w ∈ wsX30, w ∈ wsX3_fall := by decide +kernel
theorem qX3_fall_26 : xFr wsX3_fall RX3 26 RX3 TX3 4 2 := ⟨iX3_fall_X3, List.mem_of_getElem? (i := 3) rfl, by decide⟩
theorem iX3_fall_X1 : ∀ w ∈ wsX10, w ∈ wsX3_fall := by decide +kernel
theorem qX3_fall_103 : xFr wsX3_fall RX3 103 RX1 TX1 12 0 := ⟨iX3_fall_X1, List.mem_of_getElem? (i := 4) rfl, by decide⟩
def fX3_fall (a1 : Int32) (S : xS) : xS :=
  (xu S 19 0 a1 (1 : Int32))
theorem hdX3_fall : yX3_fall.cls = RX3 ∧ yX3_fall.cls ≠ "java/lang/invoke/MethodHandle" ∧ yX3_fall.cls ≠ "java/lang/invoke/VarHandle" ∧ (parseMethodDescriptor yX3_fall.desc).map (fun d => d.parameters.length) = some 1 := by decide +kernel
set_option maxRecDepth 100000 in
set_option maxHeartbeats 4000000 in
theorem kX3_fall (l : Launch) {G : xG} (hap : xAp xYc G) (a1 : Int32) (S : xS) (g_a1 : vp_in a1 8) (hd : S 19 0 a1 = (0 : Int32)) : xMv l xYc G yX3_fall wsX3_fall 2 42 [.ref (G.2.2 0 0), .int a1] S (fX3_fall a1 S) := by
  refine xMv_of (cc := cX3_fall) (maxL := 2) (own := RX3) [some (.ref (G.2.2 0 0)), some (.int a1)] pnX3 rfl rfl (xcat1 rfl) (Nat.le_of_ble_eq_true rfl) rfl hap (fun F C V E => ?_)
  refine xg_iload_n C dX3_fall_0 rfl ?_
  refine xg_callSv C V (as := [.int a1]) (fun l => kX3_requireNumber l hap a1 S (by assumption)) gX3_fall_X3_requireNumber rfl hdX3_requireNumber ⟨by decide, by decide⟩ rfl rfl (Nat.le_of_ble_eq_true rfl) ⟨Nat.zero_le _, Nat.zero_le _⟩ dX3_fall_1 ?_
  refine xg_aload_n C dX3_fall_4 rfl ?_
  refine xg_getR C V (f := 0) qX3_fall_26 rfl rfl rfl dX3_fall_5 ?_
  refine xg_getR C V (f := 3) qX3_fall_103 rfl rfl rfl dX3_fall_8 ?_
  refine xg_iload_n C dX3_fall_11 rfl ?_
  refine xg_zald C V (f := 19) (n := 1) (N := 8) rfl (by decide) (xR_0 (by decide)) (by assumption) dX3_fall_12 (v := (S 19 0 a1)) rfl ?_
  refine xg_if_eq C 26 dX3_fall_13 (by decide) (fun h1 => ?_) (fun h1 => by contradiction)
  refine xg_aload_n C dX3_fall_26 rfl ?_
  refine xg_getR C V (f := 0) qX3_fall_26 rfl rfl rfl dX3_fall_27 ?_
  refine xg_getR C V (f := 3) qX3_fall_103 rfl rfl rfl dX3_fall_30 ?_
  refine xg_iload_n C dX3_fall_33 rfl ?_
  refine xg_iconst C dX3_fall_34 (v := (1 : Int32)) (by decide) ?_
  refine xg_zast C V (f := 19) (n := 1) (N := 8) rfl (by decide) (xR_0 (by decide)) (by assumption) rfl dX3_fall_35 ?_
  exact xret_v E dX3_fall_36 (rfl)
