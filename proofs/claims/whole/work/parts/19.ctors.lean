/-! 19: constructors: contracts by program (planc.py) -/
theorem fillhd : yJ7_fill_53178.cls ≠ "java/lang/invoke/MethodHandle" ∧ yJ7_fill_53178.cls ≠ "java/lang/invoke/VarHandle" ∧ (parseMethodDescriptor yJ7_fill_53178.desc).map (fun d => d.parameters.length) = some 2 := by decide +kernel
theorem iX2_init_X2 : ∀ w ∈ wsX20, w ∈ wsX2_init := by decide +kernel
theorem qX2_init_9 : xFr wsX2_init RX2 9 RX2 TX2 8 0 := ⟨iX2_init_X2, List.mem_of_getElem? (i := 5) rfl, by decide⟩
theorem qX2_init_15 : xFr wsX2_init RX2 15 RX2 TX2 8 1 := ⟨iX2_init_X2, List.mem_of_getElem? (i := 6) rfl, by decide⟩
theorem qX2_init_18 : xFr wsX2_init RX2 18 RX2 TX2 8 2 := ⟨iX2_init_X2, List.mem_of_getElem? (i := 7) rfl, by decide⟩
theorem qX2_init_21 : xFr wsX2_init RX2 21 RX2 TX2 8 3 := ⟨iX2_init_X2, List.mem_of_getElem? (i := 8) rfl, by decide⟩
theorem qX2_init_24 : xFr wsX2_init RX2 24 RX2 TX2 8 4 := ⟨iX2_init_X2, List.mem_of_getElem? (i := 9) rfl, by decide⟩
theorem qX2_init_27 : xFr wsX2_init RX2 27 RX2 TX2 8 5 := ⟨iX2_init_X2, List.mem_of_getElem? (i := 10) rfl, by decide⟩
theorem qX2_init_30 : xFr wsX2_init RX2 30 RX2 TX2 8 6 := ⟨iX2_init_X2, List.mem_of_getElem? (i := 11) rfl, by decide⟩
theorem qX2_init_33 : xFr wsX2_init RX2 33 RX2 TX2 8 7 := ⟨iX2_init_X2, List.mem_of_getElem? (i := 12) rfl, by decide⟩
theorem hdX2_init : yX2_init.cls ≠ "java/lang/invoke/MethodHandle" ∧ yX2_init.cls ≠ "java/lang/invoke/VarHandle" ∧ (parseMethodDescriptor yX2_init.desc).map (fun d => d.parameters.length) = some 0 := by decide +kernel
set_option maxRecDepth 100000 in
set_option maxHeartbeats 4000000 in
theorem kX2_init (l : Launch) {G : xG} (h0 n0 : Nat) : xMk l G yX2_init wsX2_init 1 7 56 23 h0 (2, [.null, .null, .null, .null, .null, .null, .null, .int (0 : Int32)]) n0 (2, [.ref (n0 + 0), .ref (n0 + 1), .ref (n0 + 2), .ref (n0 + 3), .ref (n0 + 4), .ref (n0 + 5), .ref (n0 + 6), .int (0 : Int32)]) [.inl (G.2.1.1, 8, .inl (fun _ => 10)), .inl (G.2.1.1, 8, .inl (fun _ => 100)), .inl (G.2.1.1, 8, .inl (fun _ => 0)), .inl (G.2.1.1, 8, .inl (fun _ => 0)), .inl (G.2.1.1, 8, .inl (fun _ => 0)), .inl (G.2.1.1, 8, .inl (fun _ => 0)), .inl (G.2.1.1, 8, .inl (fun _ => 0))] := by
  refine xMk_of (cc := cX2_init) (maxL := 1) (own := RX2) [some (.ref h0)] pnX2 rfl rfl rfl (Nat.le_of_ble_eq_true rfl) rfl (fun F C V E => ?_)
  refine xg_aload_n C dX2_init_0 rfl ?_
  refine xk_objInit C (List.mem_of_getElem? (i := 1) rfl) (List.mem_of_getElem? (i := 2) rfl) (List.mem_of_getElem? (i := 3) rfl) dX2_init_1 (Nat.le_of_ble_eq_true rfl) (by decide) ?_
  refine xg_aload_n C dX2_init_4 rfl ?_
  refine xg_bipush C dX2_init_5 (v := (8 : Int32)) (by decide) ?_
  refine xk_newarr C V (atype := .int) (ty := .int) (cA := G.2.1.1) (N := 8) (j := 0) (t0 := 0) rfl rfl rfl (fun U h => h) (List.mem_of_getElem? (i := 4) rfl) (vp_in_iff.mpr ⟨by decide, by decide⟩) (by decide) (by decide) (by decide) rfl (Nat.le_of_ble_eq_true rfl) (Nat.le_of_ble_eq_true rfl) dX2_init_7 ?_
  refine xk_put C V (ci := 2) (fs' := [.ref (n0 + 0), .null, .null, .null, .null, .null, .null, .int (0 : Int32)]) (ty := tyX2) qX2_init_9 rfl (Nat.le_of_ble_eq_true rfl) tyX2_ok nmX2 rfl rfl rfl rfl dX2_init_9 ?_
  refine xg_aload_n C dX2_init_12 rfl ?_
  refine xg_bipush C dX2_init_13 (v := (8 : Int32)) (by decide) ?_
  refine xk_newarr C V (atype := .int) (ty := .int) (cA := G.2.1.1) (N := 8) (j := 1) (t0 := 0) rfl rfl rfl (fun U h => h) (List.mem_of_getElem? (i := 4) rfl) (vp_in_iff.mpr ⟨by decide, by decide⟩) (by decide) (by decide) (by decide) rfl (Nat.le_of_ble_eq_true rfl) (Nat.le_of_ble_eq_true rfl) dX2_init_15 ?_
  refine xk_put C V (ci := 2) (fs' := [.ref (n0 + 0), .ref (n0 + 1), .null, .null, .null, .null, .null, .int (0 : Int32)]) (ty := tyX2) qX2_init_15 rfl (Nat.le_of_ble_eq_true rfl) tyX2_ok nmX2 rfl rfl rfl rfl dX2_init_17 ?_
  refine xg_aload_n C dX2_init_20 rfl ?_
  refine xg_bipush C dX2_init_21 (v := (8 : Int32)) (by decide) ?_
  refine xk_newarr C V (atype := .int) (ty := .int) (cA := G.2.1.1) (N := 8) (j := 2) (t0 := 0) rfl rfl rfl (fun U h => h) (List.mem_of_getElem? (i := 4) rfl) (vp_in_iff.mpr ⟨by decide, by decide⟩) (by decide) (by decide) (by decide) rfl (Nat.le_of_ble_eq_true rfl) (Nat.le_of_ble_eq_true rfl) dX2_init_23 ?_
  refine xk_put C V (ci := 2) (fs' := [.ref (n0 + 0), .ref (n0 + 1), .ref (n0 + 2), .null, .null, .null, .null, .int (0 : Int32)]) (ty := tyX2) qX2_init_18 rfl (Nat.le_of_ble_eq_true rfl) tyX2_ok nmX2 rfl rfl rfl rfl dX2_init_25 ?_
  refine xg_aload_n C dX2_init_28 rfl ?_
  refine xg_bipush C dX2_init_29 (v := (8 : Int32)) (by decide) ?_
  refine xk_newarr C V (atype := .int) (ty := .int) (cA := G.2.1.1) (N := 8) (j := 3) (t0 := 0) rfl rfl rfl (fun U h => h) (List.mem_of_getElem? (i := 4) rfl) (vp_in_iff.mpr ⟨by decide, by decide⟩) (by decide) (by decide) (by decide) rfl (Nat.le_of_ble_eq_true rfl) (Nat.le_of_ble_eq_true rfl) dX2_init_31 ?_
  refine xk_put C V (ci := 2) (fs' := [.ref (n0 + 0), .ref (n0 + 1), .ref (n0 + 2), .ref (n0 + 3), .null, .null, .null, .int (0 : Int32)]) (ty := tyX2) qX2_init_21 rfl (Nat.le_of_ble_eq_true rfl) tyX2_ok nmX2 rfl rfl rfl rfl dX2_init_33 ?_
  refine xg_aload_n C dX2_init_36 rfl ?_
  refine xg_bipush C dX2_init_37 (v := (8 : Int32)) (by decide) ?_
  refine xk_newarr C V (atype := .int) (ty := .int) (cA := G.2.1.1) (N := 8) (j := 4) (t0 := 0) rfl rfl rfl (fun U h => h) (List.mem_of_getElem? (i := 4) rfl) (vp_in_iff.mpr ⟨by decide, by decide⟩) (by decide) (by decide) (by decide) rfl (Nat.le_of_ble_eq_true rfl) (Nat.le_of_ble_eq_true rfl) dX2_init_39 ?_
  refine xk_put C V (ci := 2) (fs' := [.ref (n0 + 0), .ref (n0 + 1), .ref (n0 + 2), .ref (n0 + 3), .ref (n0 + 4), .null, .null, .int (0 : Int32)]) (ty := tyX2) qX2_init_24 rfl (Nat.le_of_ble_eq_true rfl) tyX2_ok nmX2 rfl rfl rfl rfl dX2_init_41 ?_
  refine xg_aload_n C dX2_init_44 rfl ?_
  refine xg_bipush C dX2_init_45 (v := (8 : Int32)) (by decide) ?_
  refine xk_newarr C V (atype := .int) (ty := .int) (cA := G.2.1.1) (N := 8) (j := 5) (t0 := 0) rfl rfl rfl (fun U h => h) (List.mem_of_getElem? (i := 4) rfl) (vp_in_iff.mpr ⟨by decide, by decide⟩) (by decide) (by decide) (by decide) rfl (Nat.le_of_ble_eq_true rfl) (Nat.le_of_ble_eq_true rfl) dX2_init_47 ?_
  refine xk_put C V (ci := 2) (fs' := [.ref (n0 + 0), .ref (n0 + 1), .ref (n0 + 2), .ref (n0 + 3), .ref (n0 + 4), .ref (n0 + 5), .null, .int (0 : Int32)]) (ty := tyX2) qX2_init_27 rfl (Nat.le_of_ble_eq_true rfl) tyX2_ok nmX2 rfl rfl rfl rfl dX2_init_49 ?_
  refine xg_aload_n C dX2_init_52 rfl ?_
  refine xg_bipush C dX2_init_53 (v := (8 : Int32)) (by decide) ?_
  refine xk_newarr C V (atype := .int) (ty := .int) (cA := G.2.1.1) (N := 8) (j := 6) (t0 := 0) rfl rfl rfl (fun U h => h) (List.mem_of_getElem? (i := 4) rfl) (vp_in_iff.mpr ⟨by decide, by decide⟩) (by decide) (by decide) (by decide) rfl (Nat.le_of_ble_eq_true rfl) (Nat.le_of_ble_eq_true rfl) dX2_init_55 ?_
  refine xk_put C V (ci := 2) (fs' := [.ref (n0 + 0), .ref (n0 + 1), .ref (n0 + 2), .ref (n0 + 3), .ref (n0 + 4), .ref (n0 + 5), .ref (n0 + 6), .int (0 : Int32)]) (ty := tyX2) qX2_init_30 rfl (Nat.le_of_ble_eq_true rfl) tyX2_ok nmX2 rfl rfl rfl rfl dX2_init_57 ?_
  refine xg_aload_n C dX2_init_60 rfl ?_
  refine xg_iconst C dX2_init_61 (v := (0 : Int32)) (by decide) ?_
  refine xk_put C V (ci := 2) (fs' := [.ref (n0 + 0), .ref (n0 + 1), .ref (n0 + 2), .ref (n0 + 3), .ref (n0 + 4), .ref (n0 + 5), .ref (n0 + 6), .int (0 : Int32)]) (ty := tyX2) qX2_init_33 rfl (Nat.le_of_ble_eq_true rfl) tyX2_ok nmX2 rfl rfl rfl rfl dX2_init_62 ?_
  refine xg_aload_n C dX2_init_65 rfl ?_
  refine xk_get C V (ci := 2) (v := .ref (n0 + 0)) qX2_init_9 rfl rfl dX2_init_66 ?_
  refine xg_bipush C dX2_init_69 (v := (10 : Int32)) (by decide) ?_
  refine xk_fill C V (j := 0) (v := (10 : Int32)) (es' := [.inl (G.2.1.1, 8, .inl (fun _ => 10)), .inl (G.2.1.1, 8, .inl (fun _ => 0)), .inl (G.2.1.1, 8, .inl (fun _ => 0)), .inl (G.2.1.1, 8, .inl (fun _ => 0)), .inl (G.2.1.1, 8, .inl (fun _ => 0)), .inl (G.2.1.1, 8, .inl (fun _ => 0)), .inl (G.2.1.1, 8, .inl (fun _ => 0))]) gX2_init_J7_fill_53178 fillhd ⟨Nat.le_of_ble_eq_true rfl, Nat.le_of_ble_eq_true rfl⟩ rfl rfl (Nat.le_of_ble_eq_true rfl) ⟨Nat.le_of_ble_eq_true rfl, Nat.le_of_ble_eq_true rfl⟩ dX2_init_71 ?_
  refine xg_aload_n C dX2_init_74 rfl ?_
  refine xk_get C V (ci := 2) (v := .ref (n0 + 1)) qX2_init_15 rfl rfl dX2_init_75 ?_
  refine xg_bipush C dX2_init_78 (v := (100 : Int32)) (by decide) ?_
  refine xk_fill C V (j := 1) (v := (100 : Int32)) (es' := [.inl (G.2.1.1, 8, .inl (fun _ => 10)), .inl (G.2.1.1, 8, .inl (fun _ => 100)), .inl (G.2.1.1, 8, .inl (fun _ => 0)), .inl (G.2.1.1, 8, .inl (fun _ => 0)), .inl (G.2.1.1, 8, .inl (fun _ => 0)), .inl (G.2.1.1, 8, .inl (fun _ => 0)), .inl (G.2.1.1, 8, .inl (fun _ => 0))]) gX2_init_J7_fill_53178 fillhd ⟨Nat.le_of_ble_eq_true rfl, Nat.le_of_ble_eq_true rfl⟩ rfl rfl (Nat.le_of_ble_eq_true rfl) ⟨Nat.le_of_ble_eq_true rfl, Nat.le_of_ble_eq_true rfl⟩ dX2_init_80 ?_
  exact E _ _ dX2_init_83
theorem iX0_init_X0 : ∀ w ∈ wsX00, w ∈ wsX0_init := by decide +kernel
theorem qX0_init_9 : xFr wsX0_init RX0 9 RX0 TX0 8 0 := ⟨iX0_init_X0, List.mem_of_getElem? (i := 5) rfl, by decide⟩
theorem qX0_init_15 : xFr wsX0_init RX0 15 RX0 TX0 8 1 := ⟨iX0_init_X0, List.mem_of_getElem? (i := 6) rfl, by decide⟩
theorem qX0_init_18 : xFr wsX0_init RX0 18 RX0 TX0 8 2 := ⟨iX0_init_X0, List.mem_of_getElem? (i := 7) rfl, by decide⟩
theorem qX0_init_21 : xFr wsX0_init RX0 21 RX0 TX0 8 3 := ⟨iX0_init_X0, List.mem_of_getElem? (i := 8) rfl, by decide⟩
theorem qX0_init_24 : xFr wsX0_init RX0 24 RX0 TX0 8 4 := ⟨iX0_init_X0, List.mem_of_getElem? (i := 9) rfl, by decide⟩
theorem qX0_init_27 : xFr wsX0_init RX0 27 RX0 TX0 8 5 := ⟨iX0_init_X0, List.mem_of_getElem? (i := 10) rfl, by decide⟩
theorem qX0_init_30 : xFr wsX0_init RX0 30 RX0 TX0 8 6 := ⟨iX0_init_X0, List.mem_of_getElem? (i := 11) rfl, by decide⟩
theorem qX0_init_33 : xFr wsX0_init RX0 33 RX0 TX0 8 7 := ⟨iX0_init_X0, List.mem_of_getElem? (i := 13) rfl, by decide⟩
theorem hdX0_init : yX0_init.cls ≠ "java/lang/invoke/MethodHandle" ∧ yX0_init.cls ≠ "java/lang/invoke/VarHandle" ∧ (parseMethodDescriptor yX0_init.desc).map (fun d => d.parameters.length) = some 0 := by decide +kernel
set_option maxRecDepth 100000 in
set_option maxHeartbeats 4000000 in
theorem kX0_init (l : Launch) {G : xG} (h0 n0 : Nat) : xMk l G yX0_init wsX0_init 1 8 64 23 h0 (0, [.null, .null, .null, .null, .null, .null, .null, .null]) n0 (0, [.ref (n0 + 0), .ref (n0 + 1), .ref (n0 + 2), .ref (n0 + 3), .ref (n0 + 4), .ref (n0 + 5), .ref (n0 + 6), .ref (n0 + 7)]) [.inl (G.2.1.1, 8, .inl (fun _ => 5)), .inl (G.2.1.1, 8, .inl (fun _ => 0)), .inl (G.2.1.1, 8, .inl (fun _ => 20)), .inl (G.2.1.1, 8, .inl (fun _ => 40)), .inl (G.2.1.1, 8, .inl (fun _ => 80)), .inl (G.2.1.1, 8, .inl (fun _ => 5)), .inl (G.2.1.1, 8, .inl (fun _ => 0)), .inl (G.2.1.2.1, 8, .inl (fun _ => 0))] := by
  refine xMk_of (cc := cX0_init) (maxL := 1) (own := RX0) [some (.ref h0)] pnX0 rfl rfl rfl (Nat.le_of_ble_eq_true rfl) rfl (fun F C V E => ?_)
  refine xg_aload_n C dX0_init_0 rfl ?_
  refine xk_objInit C (List.mem_of_getElem? (i := 1) rfl) (List.mem_of_getElem? (i := 2) rfl) (List.mem_of_getElem? (i := 3) rfl) dX0_init_1 (Nat.le_of_ble_eq_true rfl) (by decide) ?_
  refine xg_aload_n C dX0_init_4 rfl ?_
  refine xg_bipush C dX0_init_5 (v := (8 : Int32)) (by decide) ?_
  refine xk_newarr C V (atype := .int) (ty := .int) (cA := G.2.1.1) (N := 8) (j := 0) (t0 := 0) rfl rfl rfl (fun U h => h) (List.mem_of_getElem? (i := 4) rfl) (vp_in_iff.mpr ⟨by decide, by decide⟩) (by decide) (by decide) (by decide) rfl (Nat.le_of_ble_eq_true rfl) (Nat.le_of_ble_eq_true rfl) dX0_init_7 ?_
  refine xk_put C V (ci := 0) (fs' := [.ref (n0 + 0), .null, .null, .null, .null, .null, .null, .null]) (ty := tyX0) qX0_init_9 rfl (Nat.le_of_ble_eq_true rfl) tyX0_ok nmX0 rfl rfl rfl rfl dX0_init_9 ?_
  refine xg_aload_n C dX0_init_12 rfl ?_
  refine xg_bipush C dX0_init_13 (v := (8 : Int32)) (by decide) ?_
  refine xk_newarr C V (atype := .int) (ty := .int) (cA := G.2.1.1) (N := 8) (j := 1) (t0 := 0) rfl rfl rfl (fun U h => h) (List.mem_of_getElem? (i := 4) rfl) (vp_in_iff.mpr ⟨by decide, by decide⟩) (by decide) (by decide) (by decide) rfl (Nat.le_of_ble_eq_true rfl) (Nat.le_of_ble_eq_true rfl) dX0_init_15 ?_
  refine xk_put C V (ci := 0) (fs' := [.ref (n0 + 0), .ref (n0 + 1), .null, .null, .null, .null, .null, .null]) (ty := tyX0) qX0_init_15 rfl (Nat.le_of_ble_eq_true rfl) tyX0_ok nmX0 rfl rfl rfl rfl dX0_init_17 ?_
  refine xg_aload_n C dX0_init_20 rfl ?_
  refine xg_bipush C dX0_init_21 (v := (8 : Int32)) (by decide) ?_
  refine xk_newarr C V (atype := .int) (ty := .int) (cA := G.2.1.1) (N := 8) (j := 2) (t0 := 0) rfl rfl rfl (fun U h => h) (List.mem_of_getElem? (i := 4) rfl) (vp_in_iff.mpr ⟨by decide, by decide⟩) (by decide) (by decide) (by decide) rfl (Nat.le_of_ble_eq_true rfl) (Nat.le_of_ble_eq_true rfl) dX0_init_23 ?_
  refine xk_put C V (ci := 0) (fs' := [.ref (n0 + 0), .ref (n0 + 1), .ref (n0 + 2), .null, .null, .null, .null, .null]) (ty := tyX0) qX0_init_18 rfl (Nat.le_of_ble_eq_true rfl) tyX0_ok nmX0 rfl rfl rfl rfl dX0_init_25 ?_
  refine xg_aload_n C dX0_init_28 rfl ?_
  refine xg_bipush C dX0_init_29 (v := (8 : Int32)) (by decide) ?_
  refine xk_newarr C V (atype := .int) (ty := .int) (cA := G.2.1.1) (N := 8) (j := 3) (t0 := 0) rfl rfl rfl (fun U h => h) (List.mem_of_getElem? (i := 4) rfl) (vp_in_iff.mpr ⟨by decide, by decide⟩) (by decide) (by decide) (by decide) rfl (Nat.le_of_ble_eq_true rfl) (Nat.le_of_ble_eq_true rfl) dX0_init_31 ?_
  refine xk_put C V (ci := 0) (fs' := [.ref (n0 + 0), .ref (n0 + 1), .ref (n0 + 2), .ref (n0 + 3), .null, .null, .null, .null]) (ty := tyX0) qX0_init_21 rfl (Nat.le_of_ble_eq_true rfl) tyX0_ok nmX0 rfl rfl rfl rfl dX0_init_33 ?_
  refine xg_aload_n C dX0_init_36 rfl ?_
  refine xg_bipush C dX0_init_37 (v := (8 : Int32)) (by decide) ?_
  refine xk_newarr C V (atype := .int) (ty := .int) (cA := G.2.1.1) (N := 8) (j := 4) (t0 := 0) rfl rfl rfl (fun U h => h) (List.mem_of_getElem? (i := 4) rfl) (vp_in_iff.mpr ⟨by decide, by decide⟩) (by decide) (by decide) (by decide) rfl (Nat.le_of_ble_eq_true rfl) (Nat.le_of_ble_eq_true rfl) dX0_init_39 ?_
  refine xk_put C V (ci := 0) (fs' := [.ref (n0 + 0), .ref (n0 + 1), .ref (n0 + 2), .ref (n0 + 3), .ref (n0 + 4), .null, .null, .null]) (ty := tyX0) qX0_init_24 rfl (Nat.le_of_ble_eq_true rfl) tyX0_ok nmX0 rfl rfl rfl rfl dX0_init_41 ?_
  refine xg_aload_n C dX0_init_44 rfl ?_
  refine xg_bipush C dX0_init_45 (v := (8 : Int32)) (by decide) ?_
  refine xk_newarr C V (atype := .int) (ty := .int) (cA := G.2.1.1) (N := 8) (j := 5) (t0 := 0) rfl rfl rfl (fun U h => h) (List.mem_of_getElem? (i := 4) rfl) (vp_in_iff.mpr ⟨by decide, by decide⟩) (by decide) (by decide) (by decide) rfl (Nat.le_of_ble_eq_true rfl) (Nat.le_of_ble_eq_true rfl) dX0_init_47 ?_
  refine xk_put C V (ci := 0) (fs' := [.ref (n0 + 0), .ref (n0 + 1), .ref (n0 + 2), .ref (n0 + 3), .ref (n0 + 4), .ref (n0 + 5), .null, .null]) (ty := tyX0) qX0_init_27 rfl (Nat.le_of_ble_eq_true rfl) tyX0_ok nmX0 rfl rfl rfl rfl dX0_init_49 ?_
  refine xg_aload_n C dX0_init_52 rfl ?_
  refine xg_bipush C dX0_init_53 (v := (8 : Int32)) (by decide) ?_
  refine xk_newarr C V (atype := .int) (ty := .int) (cA := G.2.1.1) (N := 8) (j := 6) (t0 := 0) rfl rfl rfl (fun U h => h) (List.mem_of_getElem? (i := 4) rfl) (vp_in_iff.mpr ⟨by decide, by decide⟩) (by decide) (by decide) (by decide) rfl (Nat.le_of_ble_eq_true rfl) (Nat.le_of_ble_eq_true rfl) dX0_init_55 ?_
  refine xk_put C V (ci := 0) (fs' := [.ref (n0 + 0), .ref (n0 + 1), .ref (n0 + 2), .ref (n0 + 3), .ref (n0 + 4), .ref (n0 + 5), .ref (n0 + 6), .null]) (ty := tyX0) qX0_init_30 rfl (Nat.le_of_ble_eq_true rfl) tyX0_ok nmX0 rfl rfl rfl rfl dX0_init_57 ?_
  refine xg_aload_n C dX0_init_60 rfl ?_
  refine xg_bipush C dX0_init_61 (v := (8 : Int32)) (by decide) ?_
  refine xk_newarr C V (atype := .boolean) (ty := .boolean) (cA := G.2.1.2.1) (N := 8) (j := 7) (t0 := 1) rfl rfl rfl (fun U h => h) (List.mem_of_getElem? (i := 12) rfl) (vp_in_iff.mpr ⟨by decide, by decide⟩) (by decide) (by decide) (by decide) rfl (Nat.le_of_ble_eq_true rfl) (Nat.le_of_ble_eq_true rfl) dX0_init_63 ?_
  refine xk_put C V (ci := 0) (fs' := [.ref (n0 + 0), .ref (n0 + 1), .ref (n0 + 2), .ref (n0 + 3), .ref (n0 + 4), .ref (n0 + 5), .ref (n0 + 6), .ref (n0 + 7)]) (ty := tyX0) qX0_init_33 rfl (Nat.le_of_ble_eq_true rfl) tyX0_ok nmX0 rfl rfl rfl rfl dX0_init_65 ?_
  refine xg_aload_n C dX0_init_68 rfl ?_
  refine xk_get C V (ci := 0) (v := .ref (n0 + 0)) qX0_init_9 rfl rfl dX0_init_69 ?_
  refine xg_iconst C dX0_init_72 (v := (5 : Int32)) (by decide) ?_
  refine xk_fill C V (j := 0) (v := (5 : Int32)) (es' := [.inl (G.2.1.1, 8, .inl (fun _ => 5)), .inl (G.2.1.1, 8, .inl (fun _ => 0)), .inl (G.2.1.1, 8, .inl (fun _ => 0)), .inl (G.2.1.1, 8, .inl (fun _ => 0)), .inl (G.2.1.1, 8, .inl (fun _ => 0)), .inl (G.2.1.1, 8, .inl (fun _ => 0)), .inl (G.2.1.1, 8, .inl (fun _ => 0)), .inl (G.2.1.2.1, 8, .inl (fun _ => 0))]) gX0_init_J7_fill_53178 fillhd ⟨Nat.le_of_ble_eq_true rfl, Nat.le_of_ble_eq_true rfl⟩ rfl rfl (Nat.le_of_ble_eq_true rfl) ⟨Nat.le_of_ble_eq_true rfl, Nat.le_of_ble_eq_true rfl⟩ dX0_init_73 ?_
  refine xg_aload_n C dX0_init_76 rfl ?_
  refine xk_get C V (ci := 0) (v := .ref (n0 + 2)) qX0_init_18 rfl rfl dX0_init_77 ?_
  refine xg_bipush C dX0_init_80 (v := (20 : Int32)) (by decide) ?_
  refine xk_fill C V (j := 2) (v := (20 : Int32)) (es' := [.inl (G.2.1.1, 8, .inl (fun _ => 5)), .inl (G.2.1.1, 8, .inl (fun _ => 0)), .inl (G.2.1.1, 8, .inl (fun _ => 20)), .inl (G.2.1.1, 8, .inl (fun _ => 0)), .inl (G.2.1.1, 8, .inl (fun _ => 0)), .inl (G.2.1.1, 8, .inl (fun _ => 0)), .inl (G.2.1.1, 8, .inl (fun _ => 0)), .inl (G.2.1.2.1, 8, .inl (fun _ => 0))]) gX0_init_J7_fill_53178 fillhd ⟨Nat.le_of_ble_eq_true rfl, Nat.le_of_ble_eq_true rfl⟩ rfl rfl (Nat.le_of_ble_eq_true rfl) ⟨Nat.le_of_ble_eq_true rfl, Nat.le_of_ble_eq_true rfl⟩ dX0_init_82 ?_
  refine xg_aload_n C dX0_init_85 rfl ?_
  refine xk_get C V (ci := 0) (v := .ref (n0 + 3)) qX0_init_21 rfl rfl dX0_init_86 ?_
  refine xg_bipush C dX0_init_89 (v := (40 : Int32)) (by decide) ?_
  refine xk_fill C V (j := 3) (v := (40 : Int32)) (es' := [.inl (G.2.1.1, 8, .inl (fun _ => 5)), .inl (G.2.1.1, 8, .inl (fun _ => 0)), .inl (G.2.1.1, 8, .inl (fun _ => 20)), .inl (G.2.1.1, 8, .inl (fun _ => 40)), .inl (G.2.1.1, 8, .inl (fun _ => 0)), .inl (G.2.1.1, 8, .inl (fun _ => 0)), .inl (G.2.1.1, 8, .inl (fun _ => 0)), .inl (G.2.1.2.1, 8, .inl (fun _ => 0))]) gX0_init_J7_fill_53178 fillhd ⟨Nat.le_of_ble_eq_true rfl, Nat.le_of_ble_eq_true rfl⟩ rfl rfl (Nat.le_of_ble_eq_true rfl) ⟨Nat.le_of_ble_eq_true rfl, Nat.le_of_ble_eq_true rfl⟩ dX0_init_91 ?_
  refine xg_aload_n C dX0_init_94 rfl ?_
  refine xk_get C V (ci := 0) (v := .ref (n0 + 4)) qX0_init_24 rfl rfl dX0_init_95 ?_
  refine xg_bipush C dX0_init_98 (v := (80 : Int32)) (by decide) ?_
  refine xk_fill C V (j := 4) (v := (80 : Int32)) (es' := [.inl (G.2.1.1, 8, .inl (fun _ => 5)), .inl (G.2.1.1, 8, .inl (fun _ => 0)), .inl (G.2.1.1, 8, .inl (fun _ => 20)), .inl (G.2.1.1, 8, .inl (fun _ => 40)), .inl (G.2.1.1, 8, .inl (fun _ => 80)), .inl (G.2.1.1, 8, .inl (fun _ => 0)), .inl (G.2.1.1, 8, .inl (fun _ => 0)), .inl (G.2.1.2.1, 8, .inl (fun _ => 0))]) gX0_init_J7_fill_53178 fillhd ⟨Nat.le_of_ble_eq_true rfl, Nat.le_of_ble_eq_true rfl⟩ rfl rfl (Nat.le_of_ble_eq_true rfl) ⟨Nat.le_of_ble_eq_true rfl, Nat.le_of_ble_eq_true rfl⟩ dX0_init_100 ?_
  refine xg_aload_n C dX0_init_103 rfl ?_
  refine xk_get C V (ci := 0) (v := .ref (n0 + 5)) qX0_init_27 rfl rfl dX0_init_104 ?_
  refine xg_iconst C dX0_init_107 (v := (5 : Int32)) (by decide) ?_
  refine xk_fill C V (j := 5) (v := (5 : Int32)) (es' := [.inl (G.2.1.1, 8, .inl (fun _ => 5)), .inl (G.2.1.1, 8, .inl (fun _ => 0)), .inl (G.2.1.1, 8, .inl (fun _ => 20)), .inl (G.2.1.1, 8, .inl (fun _ => 40)), .inl (G.2.1.1, 8, .inl (fun _ => 80)), .inl (G.2.1.1, 8, .inl (fun _ => 5)), .inl (G.2.1.1, 8, .inl (fun _ => 0)), .inl (G.2.1.2.1, 8, .inl (fun _ => 0))]) gX0_init_J7_fill_53178 fillhd ⟨Nat.le_of_ble_eq_true rfl, Nat.le_of_ble_eq_true rfl⟩ rfl rfl (Nat.le_of_ble_eq_true rfl) ⟨Nat.le_of_ble_eq_true rfl, Nat.le_of_ble_eq_true rfl⟩ dX0_init_108 ?_
  exact E _ _ dX0_init_111
theorem iX1_init_X1 : ∀ w ∈ wsX10, w ∈ wsX1_init := by decide +kernel
theorem qX1_init_9 : xFr wsX1_init RX1 9 RX1 TX1 12 0 := ⟨iX1_init_X1, List.mem_of_getElem? (i := 5) rfl, by decide⟩
theorem qX1_init_15 : xFr wsX1_init RX1 15 RX1 TX1 12 1 := ⟨iX1_init_X1, List.mem_of_getElem? (i := 6) rfl, by decide⟩
theorem qX1_init_18 : xFr wsX1_init RX1 18 RX1 TX1 12 2 := ⟨iX1_init_X1, List.mem_of_getElem? (i := 8) rfl, by decide⟩
theorem qX1_init_24 : xFr wsX1_init RX1 24 RX1 TX1 12 3 := ⟨iX1_init_X1, List.mem_of_getElem? (i := 10) rfl, by decide⟩
theorem qX1_init_27 : xFr wsX1_init RX1 27 RX1 TX1 12 4 := ⟨iX1_init_X1, List.mem_of_getElem? (i := 11) rfl, by decide⟩
theorem qX1_init_30 : xFr wsX1_init RX1 30 RX1 TX1 12 5 := ⟨iX1_init_X1, List.mem_of_getElem? (i := 12) rfl, by decide⟩
theorem qX1_init_33 : xFr wsX1_init RX1 33 RX1 TX1 12 6 := ⟨iX1_init_X1, List.mem_of_getElem? (i := 13) rfl, by decide⟩
theorem qX1_init_36 : xFr wsX1_init RX1 36 RX1 TX1 12 7 := ⟨iX1_init_X1, List.mem_of_getElem? (i := 14) rfl, by decide⟩
theorem qX1_init_39 : xFr wsX1_init RX1 39 RX1 TX1 12 8 := ⟨iX1_init_X1, List.mem_of_getElem? (i := 15) rfl, by decide⟩
theorem qX1_init_42 : xFr wsX1_init RX1 42 RX1 TX1 12 9 := ⟨iX1_init_X1, List.mem_of_getElem? (i := 16) rfl, by decide⟩
theorem qX1_init_46 : xFr wsX1_init RX1 46 RX1 TX1 12 10 := ⟨iX1_init_X1, List.mem_of_getElem? (i := 17) rfl, by decide⟩
theorem qX1_init_49 : xFr wsX1_init RX1 49 RX1 TX1 12 11 := ⟨iX1_init_X1, List.mem_of_getElem? (i := 18) rfl, by decide⟩
theorem hdX1_init : yX1_init.cls ≠ "java/lang/invoke/MethodHandle" ∧ yX1_init.cls ≠ "java/lang/invoke/VarHandle" ∧ (parseMethodDescriptor yX1_init.desc).map (fun d => d.parameters.length) = some 0 := by decide +kernel
set_option maxRecDepth 100000 in
set_option maxHeartbeats 4000000 in
theorem kX1_init (l : Launch) {G : xG} (h0 n0 : Nat) : xMk l G yX1_init wsX1_init 1 57 456 12 h0 (1, [.null, .null, .null, .null, .null, .null, .null, .null, .null, .int (0 : Int32), .int (0 : Int32), .int (0 : Int32)]) n0 (1, [.ref (n0 + 0), .ref (n0 + 1), .ref (n0 + 2), .ref (n0 + 3), .ref (n0 + 12), .ref (n0 + 21), .ref (n0 + 30), .ref (n0 + 39), .ref (n0 + 48), .int (3 : Int32), .int (6 : Int32), .int (0 : Int32)]) [.inl (G.2.1.2.1, 8, .inl (fun _ => 0)), .inl (G.2.1.2.1, 8, .inl (fun _ => 0)), .inl (G.2.1.1, 8, .inl (fun _ => 0)), .inl (G.2.1.2.2, 8, .inr (.inr (.inr (.inr (fun i => some (n0 + 3 + 1 + i)))))), .inl (G.2.1.1, 8, .inl (fun _ => 0)), .inl (G.2.1.1, 8, .inl (fun _ => 0)), .inl (G.2.1.1, 8, .inl (fun _ => 0)), .inl (G.2.1.1, 8, .inl (fun _ => 0)), .inl (G.2.1.1, 8, .inl (fun _ => 0)), .inl (G.2.1.1, 8, .inl (fun _ => 0)), .inl (G.2.1.1, 8, .inl (fun _ => 0)), .inl (G.2.1.1, 8, .inl (fun _ => 0)), .inl (G.2.1.2.2, 8, .inr (.inr (.inr (.inr (fun i => some (n0 + 12 + 1 + i)))))), .inl (G.2.1.1, 8, .inl (fun _ => 0)), .inl (G.2.1.1, 8, .inl (fun _ => 0)), .inl (G.2.1.1, 8, .inl (fun _ => 0)), .inl (G.2.1.1, 8, .inl (fun _ => 0)), .inl (G.2.1.1, 8, .inl (fun _ => 0)), .inl (G.2.1.1, 8, .inl (fun _ => 0)), .inl (G.2.1.1, 8, .inl (fun _ => 0)), .inl (G.2.1.1, 8, .inl (fun _ => 0)), .inl (G.2.1.2.2, 8, .inr (.inr (.inr (.inr (fun i => some (n0 + 21 + 1 + i)))))), .inl (G.2.1.1, 8, .inl (fun _ => 0)), .inl (G.2.1.1, 8, .inl (fun _ => 0)), .inl (G.2.1.1, 8, .inl (fun _ => 0)), .inl (G.2.1.1, 8, .inl (fun _ => 0)), .inl (G.2.1.1, 8, .inl (fun _ => 0)), .inl (G.2.1.1, 8, .inl (fun _ => 0)), .inl (G.2.1.1, 8, .inl (fun _ => 0)), .inl (G.2.1.1, 8, .inl (fun _ => 0)), .inl (G.2.1.2.2, 8, .inr (.inr (.inr (.inr (fun i => some (n0 + 30 + 1 + i)))))), .inl (G.2.1.1, 8, .inl (fun _ => 0)), .inl (G.2.1.1, 8, .inl (fun _ => 0)), .inl (G.2.1.1, 8, .inl (fun _ => 0)), .inl (G.2.1.1, 8, .inl (fun _ => 0)), .inl (G.2.1.1, 8, .inl (fun _ => 0)), .inl (G.2.1.1, 8, .inl (fun _ => 0)), .inl (G.2.1.1, 8, .inl (fun _ => 0)), .inl (G.2.1.1, 8, .inl (fun _ => 0)), .inl (G.2.1.2.2, 8, .inr (.inr (.inr (.inr (fun i => some (n0 + 39 + 1 + i)))))), .inl (G.2.1.1, 8, .inl (fun _ => 0)), .inl (G.2.1.1, 8, .inl (fun _ => 0)), .inl (G.2.1.1, 8, .inl (fun _ => 0)), .inl (G.2.1.1, 8, .inl (fun _ => 0)), .inl (G.2.1.1, 8, .inl (fun _ => 0)), .inl (G.2.1.1, 8, .inl (fun _ => 0)), .inl (G.2.1.1, 8, .inl (fun _ => 0)), .inl (G.2.1.1, 8, .inl (fun _ => 0)), .inl (G.2.1.2.2, 8, .inr (.inr (.inr (.inr (fun i => some (n0 + 48 + 1 + i)))))), .inl (G.2.1.1, 8, .inl (fun _ => 0)), .inl (G.2.1.1, 8, .inl (fun _ => 0)), .inl (G.2.1.1, 8, .inl (fun _ => 0)), .inl (G.2.1.1, 8, .inl (fun _ => 0)), .inl (G.2.1.1, 8, .inl (fun _ => 0)), .inl (G.2.1.1, 8, .inl (fun _ => 0)), .inl (G.2.1.1, 8, .inl (fun _ => 0)), .inl (G.2.1.1, 8, .inl (fun _ => 0))] := by
  refine xMk_of (cc := cX1_init) (maxL := 1) (own := RX1) [some (.ref h0)] pnX1 rfl rfl rfl (Nat.le_of_ble_eq_true rfl) rfl (fun F C V E => ?_)
  refine xg_aload_n C dX1_init_0 rfl ?_
  refine xk_objInit C (List.mem_of_getElem? (i := 1) rfl) (List.mem_of_getElem? (i := 2) rfl) (List.mem_of_getElem? (i := 3) rfl) dX1_init_1 (Nat.le_of_ble_eq_true rfl) (by decide) ?_
  refine xg_aload_n C dX1_init_4 rfl ?_
  refine xg_bipush C dX1_init_5 (v := (8 : Int32)) (by decide) ?_
  refine xk_newarr C V (atype := .boolean) (ty := .boolean) (cA := G.2.1.2.1) (N := 8) (j := 0) (t0 := 1) rfl rfl rfl (fun U h => h) (List.mem_of_getElem? (i := 4) rfl) (vp_in_iff.mpr ⟨by decide, by decide⟩) (by decide) (by decide) (by decide) rfl (Nat.le_of_ble_eq_true rfl) (Nat.le_of_ble_eq_true rfl) dX1_init_7 ?_
  refine xk_put C V (ci := 1) (fs' := [.ref (n0 + 0), .null, .null, .null, .null, .null, .null, .null, .null, .int (0 : Int32), .int (0 : Int32), .int (0 : Int32)]) (ty := tyX1) qX1_init_9 rfl (Nat.le_of_ble_eq_true rfl) tyX1_ok nmX1 rfl rfl rfl rfl dX1_init_9 ?_
  refine xg_aload_n C dX1_init_12 rfl ?_
  refine xg_bipush C dX1_init_13 (v := (8 : Int32)) (by decide) ?_
  refine xk_newarr C V (atype := .boolean) (ty := .boolean) (cA := G.2.1.2.1) (N := 8) (j := 1) (t0 := 1) rfl rfl rfl (fun U h => h) (List.mem_of_getElem? (i := 4) rfl) (vp_in_iff.mpr ⟨by decide, by decide⟩) (by decide) (by decide) (by decide) rfl (Nat.le_of_ble_eq_true rfl) (Nat.le_of_ble_eq_true rfl) dX1_init_15 ?_
  refine xk_put C V (ci := 1) (fs' := [.ref (n0 + 0), .ref (n0 + 1), .null, .null, .null, .null, .null, .null, .null, .int (0 : Int32), .int (0 : Int32), .int (0 : Int32)]) (ty := tyX1) qX1_init_15 rfl (Nat.le_of_ble_eq_true rfl) tyX1_ok nmX1 rfl rfl rfl rfl dX1_init_17 ?_
  refine xg_aload_n C dX1_init_20 rfl ?_
  refine xg_bipush C dX1_init_21 (v := (8 : Int32)) (by decide) ?_
  refine xk_newarr C V (atype := .int) (ty := .int) (cA := G.2.1.1) (N := 8) (j := 2) (t0 := 0) rfl rfl rfl (fun U h => h) (List.mem_of_getElem? (i := 7) rfl) (vp_in_iff.mpr ⟨by decide, by decide⟩) (by decide) (by decide) (by decide) rfl (Nat.le_of_ble_eq_true rfl) (Nat.le_of_ble_eq_true rfl) dX1_init_23 ?_
  refine xk_put C V (ci := 1) (fs' := [.ref (n0 + 0), .ref (n0 + 1), .ref (n0 + 2), .null, .null, .null, .null, .null, .null, .int (0 : Int32), .int (0 : Int32), .int (0 : Int32)]) (ty := tyX1) qX1_init_18 rfl (Nat.le_of_ble_eq_true rfl) tyX1_ok nmX1 rfl rfl rfl rfl dX1_init_25 ?_
  refine xg_aload_n C dX1_init_28 rfl ?_
  refine xg_bipush C dX1_init_29 (v := (8 : Int32)) (by decide) ?_
  refine xg_bipush C dX1_init_31 (v := (8 : Int32)) (by decide) ?_
  refine xk_mna C V (j := 3) (List.mem_of_getElem? (i := 9) rfl) (List.mem_of_getElem? (i := 7) rfl) rfl (Nat.le_of_ble_eq_true rfl) (Nat.le_of_ble_eq_true rfl) dX1_init_33 ?_
  refine xk_put C V (ci := 1) (fs' := [.ref (n0 + 0), .ref (n0 + 1), .ref (n0 + 2), .ref (n0 + 3), .null, .null, .null, .null, .null, .int (0 : Int32), .int (0 : Int32), .int (0 : Int32)]) (ty := tyX1) qX1_init_24 rfl (Nat.le_of_ble_eq_true rfl) tyX1_ok nmX1 rfl rfl rfl rfl dX1_init_37 ?_
  refine xg_aload_n C dX1_init_40 rfl ?_
  refine xg_bipush C dX1_init_41 (v := (8 : Int32)) (by decide) ?_
  refine xg_bipush C dX1_init_43 (v := (8 : Int32)) (by decide) ?_
  refine xk_mna C V (j := 12) (List.mem_of_getElem? (i := 9) rfl) (List.mem_of_getElem? (i := 7) rfl) rfl (Nat.le_of_ble_eq_true rfl) (Nat.le_of_ble_eq_true rfl) dX1_init_45 ?_
  refine xk_put C V (ci := 1) (fs' := [.ref (n0 + 0), .ref (n0 + 1), .ref (n0 + 2), .ref (n0 + 3), .ref (n0 + 12), .null, .null, .null, .null, .int (0 : Int32), .int (0 : Int32), .int (0 : Int32)]) (ty := tyX1) qX1_init_27 rfl (Nat.le_of_ble_eq_true rfl) tyX1_ok nmX1 rfl rfl rfl rfl dX1_init_49 ?_
  refine xg_aload_n C dX1_init_52 rfl ?_
  refine xg_bipush C dX1_init_53 (v := (8 : Int32)) (by decide) ?_
  refine xg_bipush C dX1_init_55 (v := (8 : Int32)) (by decide) ?_
  refine xk_mna C V (j := 21) (List.mem_of_getElem? (i := 9) rfl) (List.mem_of_getElem? (i := 7) rfl) rfl (Nat.le_of_ble_eq_true rfl) (Nat.le_of_ble_eq_true rfl) dX1_init_57 ?_
  refine xk_put C V (ci := 1) (fs' := [.ref (n0 + 0), .ref (n0 + 1), .ref (n0 + 2), .ref (n0 + 3), .ref (n0 + 12), .ref (n0 + 21), .null, .null, .null, .int (0 : Int32), .int (0 : Int32), .int (0 : Int32)]) (ty := tyX1) qX1_init_30 rfl (Nat.le_of_ble_eq_true rfl) tyX1_ok nmX1 rfl rfl rfl rfl dX1_init_61 ?_
  refine xg_aload_n C dX1_init_64 rfl ?_
  refine xg_bipush C dX1_init_65 (v := (8 : Int32)) (by decide) ?_
  refine xg_bipush C dX1_init_67 (v := (8 : Int32)) (by decide) ?_
  refine xk_mna C V (j := 30) (List.mem_of_getElem? (i := 9) rfl) (List.mem_of_getElem? (i := 7) rfl) rfl (Nat.le_of_ble_eq_true rfl) (Nat.le_of_ble_eq_true rfl) dX1_init_69 ?_
  refine xk_put C V (ci := 1) (fs' := [.ref (n0 + 0), .ref (n0 + 1), .ref (n0 + 2), .ref (n0 + 3), .ref (n0 + 12), .ref (n0 + 21), .ref (n0 + 30), .null, .null, .int (0 : Int32), .int (0 : Int32), .int (0 : Int32)]) (ty := tyX1) qX1_init_33 rfl (Nat.le_of_ble_eq_true rfl) tyX1_ok nmX1 rfl rfl rfl rfl dX1_init_73 ?_
  refine xg_aload_n C dX1_init_76 rfl ?_
  refine xg_bipush C dX1_init_77 (v := (8 : Int32)) (by decide) ?_
  refine xg_bipush C dX1_init_79 (v := (8 : Int32)) (by decide) ?_
  refine xk_mna C V (j := 39) (List.mem_of_getElem? (i := 9) rfl) (List.mem_of_getElem? (i := 7) rfl) rfl (Nat.le_of_ble_eq_true rfl) (Nat.le_of_ble_eq_true rfl) dX1_init_81 ?_
  refine xk_put C V (ci := 1) (fs' := [.ref (n0 + 0), .ref (n0 + 1), .ref (n0 + 2), .ref (n0 + 3), .ref (n0 + 12), .ref (n0 + 21), .ref (n0 + 30), .ref (n0 + 39), .null, .int (0 : Int32), .int (0 : Int32), .int (0 : Int32)]) (ty := tyX1) qX1_init_36 rfl (Nat.le_of_ble_eq_true rfl) tyX1_ok nmX1 rfl rfl rfl rfl dX1_init_85 ?_
  refine xg_aload_n C dX1_init_88 rfl ?_
  refine xg_bipush C dX1_init_89 (v := (8 : Int32)) (by decide) ?_
  refine xg_bipush C dX1_init_91 (v := (8 : Int32)) (by decide) ?_
  refine xk_mna C V (j := 48) (List.mem_of_getElem? (i := 9) rfl) (List.mem_of_getElem? (i := 7) rfl) rfl (Nat.le_of_ble_eq_true rfl) (Nat.le_of_ble_eq_true rfl) dX1_init_93 ?_
  refine xk_put C V (ci := 1) (fs' := [.ref (n0 + 0), .ref (n0 + 1), .ref (n0 + 2), .ref (n0 + 3), .ref (n0 + 12), .ref (n0 + 21), .ref (n0 + 30), .ref (n0 + 39), .ref (n0 + 48), .int (0 : Int32), .int (0 : Int32), .int (0 : Int32)]) (ty := tyX1) qX1_init_39 rfl (Nat.le_of_ble_eq_true rfl) tyX1_ok nmX1 rfl rfl rfl rfl dX1_init_97 ?_
  refine xg_aload_n C dX1_init_100 rfl ?_
  refine xg_iconst C dX1_init_101 (v := (3 : Int32)) (by decide) ?_
  refine xk_put C V (ci := 1) (fs' := [.ref (n0 + 0), .ref (n0 + 1), .ref (n0 + 2), .ref (n0 + 3), .ref (n0 + 12), .ref (n0 + 21), .ref (n0 + 30), .ref (n0 + 39), .ref (n0 + 48), .int (3 : Int32), .int (0 : Int32), .int (0 : Int32)]) (ty := tyX1) qX1_init_42 rfl (Nat.le_of_ble_eq_true rfl) tyX1_ok nmX1 rfl rfl rfl rfl dX1_init_102 ?_
  refine xg_aload_n C dX1_init_105 rfl ?_
  refine xg_bipush C dX1_init_106 (v := (6 : Int32)) (by decide) ?_
  refine xk_put C V (ci := 1) (fs' := [.ref (n0 + 0), .ref (n0 + 1), .ref (n0 + 2), .ref (n0 + 3), .ref (n0 + 12), .ref (n0 + 21), .ref (n0 + 30), .ref (n0 + 39), .ref (n0 + 48), .int (3 : Int32), .int (6 : Int32), .int (0 : Int32)]) (ty := tyX1) qX1_init_46 rfl (Nat.le_of_ble_eq_true rfl) tyX1_ok nmX1 rfl rfl rfl rfl dX1_init_108 ?_
  refine xg_aload_n C dX1_init_111 rfl ?_
  refine xg_iconst C dX1_init_112 (v := (0 : Int32)) (by decide) ?_
  refine xk_put C V (ci := 1) (fs' := [.ref (n0 + 0), .ref (n0 + 1), .ref (n0 + 2), .ref (n0 + 3), .ref (n0 + 12), .ref (n0 + 21), .ref (n0 + 30), .ref (n0 + 39), .ref (n0 + 48), .int (3 : Int32), .int (6 : Int32), .int (0 : Int32)]) (ty := tyX1) qX1_init_49 rfl (Nat.le_of_ble_eq_true rfl) tyX1_ok nmX1 rfl rfl rfl rfl dX1_init_113 ?_
  exact E _ _ dX1_init_116
