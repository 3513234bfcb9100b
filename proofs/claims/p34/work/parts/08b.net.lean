theorem iX1_takeNews_X1 : ∀ w ∈ wsX10, w ∈ wsX1_takeNews := by decide +kernel
theorem qX1_takeNews_24 : xFr wsX1_takeNews RX1 24 RX1 TX1 12 3 := ⟨iX1_takeNews_X1, List.mem_of_getElem? (i := 1) rfl, by decide⟩
theorem qX1_takeNews_27 : xFr wsX1_takeNews RX1 27 RX1 TX1 12 4 := ⟨iX1_takeNews_X1, List.mem_of_getElem? (i := 2) rfl, by decide⟩
theorem qX1_takeNews_30 : xFr wsX1_takeNews RX1 30 RX1 TX1 12 5 := ⟨iX1_takeNews_X1, List.mem_of_getElem? (i := 3) rfl, by decide⟩
def fX1_takeNews (a1 : Int32) (a2 : Int32) (a3 : Int32) (S : xS) : xS :=
  if (S 28 a2 a3) ≤ (S 28 a1 a3) then
    S
  else
    (xu (xu (xu S 28 a1 a3 (S 28 a2 a3)) 29 a1 a3 (S 29 a2 a3)) 30 a1 a3 (S 30 a2 a3))
theorem hdX1_takeNews : yX1_takeNews.cls = RX1 ∧ yX1_takeNews.cls ≠ "java/lang/invoke/MethodHandle" ∧ yX1_takeNews.cls ≠ "java/lang/invoke/VarHandle" ∧ (parseMethodDescriptor yX1_takeNews.desc).map (fun d => d.parameters.length) = some 3 := by decide +kernel
set_option maxRecDepth 100000 in
set_option maxHeartbeats 4000000 in
theorem kX1_takeNews (l : Launch) {G : xG} (hap : xAp xYc G) (a1 : Int32) (a2 : Int32) (a3 : Int32) (S : xS) (g_a1 : vp_in a1 8) (g_a2 : vp_in a2 8) (g_a3 : vp_in a3 8) : xMv l xYc G yX1_takeNews wsX1_takeNews 0 0 [.ref (G.2.2 3 0), .int a1, .int a2, .int a3] S (fX1_takeNews a1 a2 a3 S) := by
  refine xMv_of (cc := cX1_takeNews) (maxL := 4) (own := RX1) [some (.ref (G.2.2 3 0)), some (.int a1), some (.int a2), some (.int a3)] pnX1 rfl rfl (xcat1 rfl) (Nat.le_of_ble_eq_true rfl) rfl hap (fun F C V E => ?_)
  refine xg_aload_n C dX1_takeNews_0 rfl ?_
  refine xg_getR C V (f := 3) qX1_takeNews_24 rfl rfl rfl dX1_takeNews_1 ?_
  refine xg_iload_n C dX1_takeNews_4 rfl ?_
  refine xg_aald C V (f := 22) (b := 28) rfl (by assumption) dX1_takeNews_5 ?_
  refine xg_iload_n C dX1_takeNews_6 rfl ?_
  refine xg_iald C V (f := 28) (n := 8) (N := 8) rfl (by decide) (xR_8 (by decide) (by assumption)) (by assumption) dX1_takeNews_7 (v := (S 28 a1 a3)) rfl ?_
  refine xg_aload_n C dX1_takeNews_8 rfl ?_
  refine xg_getR C V (f := 3) qX1_takeNews_24 rfl rfl rfl dX1_takeNews_9 ?_
  refine xg_iload_n C dX1_takeNews_12 rfl ?_
  refine xg_aald C V (f := 22) (b := 28) rfl (by assumption) dX1_takeNews_13 ?_
  refine xg_iload_n C dX1_takeNews_14 rfl ?_
  refine xg_iald C V (f := 28) (n := 8) (N := 8) rfl (by decide) (xR_8 (by decide) (by assumption)) (by assumption) dX1_takeNews_15 (v := (S 28 a2 a3)) rfl ?_
  refine xg_icmp_ge C 67 dX1_takeNews_16 (by decide) (fun h1 => ?_) (fun h1 => ?_)
  · exact xret_v E dX1_takeNews_67 (by first | (rw [fX1_takeNews, if_pos h1]; done) | (rw [fX1_takeNews, if_pos h1]; rfl))
  · refine xg_aload_n C dX1_takeNews_19 rfl ?_
    refine xg_getR C V (f := 3) qX1_takeNews_24 rfl rfl rfl dX1_takeNews_20 ?_
    refine xg_iload_n C dX1_takeNews_23 rfl ?_
    refine xg_aald C V (f := 22) (b := 28) rfl (by assumption) dX1_takeNews_24 ?_
    refine xg_iload_n C dX1_takeNews_25 rfl ?_
    refine xg_aload_n C dX1_takeNews_26 rfl ?_
    refine xg_getR C V (f := 3) qX1_takeNews_24 rfl rfl rfl dX1_takeNews_27 ?_
    refine xg_iload_n C dX1_takeNews_30 rfl ?_
    refine xg_aald C V (f := 22) (b := 28) rfl (by assumption) dX1_takeNews_31 ?_
    refine xg_iload_n C dX1_takeNews_32 rfl ?_
    refine xg_iald C V (f := 28) (n := 8) (N := 8) rfl (by decide) (xR_8 (by decide) (by assumption)) (by assumption) dX1_takeNews_33 (v := (S 28 a2 a3)) rfl ?_
    refine xg_iast C V (f := 28) (n := 8) (N := 8) rfl (by decide) (xR_8 (by decide) (by assumption)) (by assumption) dX1_takeNews_34 ?_
    refine xg_aload_n C dX1_takeNews_35 rfl ?_
    refine xg_getR C V (f := 3) qX1_takeNews_27 rfl rfl rfl dX1_takeNews_36 ?_
    refine xg_iload_n C dX1_takeNews_39 rfl ?_
    refine xg_aald C V (f := 23) (b := 29) rfl (by assumption) dX1_takeNews_40 ?_
    refine xg_iload_n C dX1_takeNews_41 rfl ?_
    refine xg_aload_n C dX1_takeNews_42 rfl ?_
    refine xg_getR C V (f := 3) qX1_takeNews_27 rfl rfl rfl dX1_takeNews_43 ?_
    refine xg_iload_n C dX1_takeNews_46 rfl ?_
    refine xg_aald C V (f := 23) (b := 29) rfl (by assumption) dX1_takeNews_47 ?_
    refine xg_iload_n C dX1_takeNews_48 rfl ?_
    refine xg_iald C V (f := 29) (n := 8) (N := 8) rfl (by decide) (xR_8 (by decide) (by assumption)) (by assumption) dX1_takeNews_49 (v := (S 29 a2 a3)) (xu_ne (by decide)) ?_
    refine xg_iast C V (f := 29) (n := 8) (N := 8) rfl (by decide) (xR_8 (by decide) (by assumption)) (by assumption) dX1_takeNews_50 ?_
    refine xg_aload_n C dX1_takeNews_51 rfl ?_
    refine xg_getR C V (f := 3) qX1_takeNews_30 rfl rfl rfl dX1_takeNews_52 ?_
    refine xg_iload_n C dX1_takeNews_55 rfl ?_
    refine xg_aald C V (f := 24) (b := 30) rfl (by assumption) dX1_takeNews_56 ?_
    refine xg_iload_n C dX1_takeNews_57 rfl ?_
    refine xg_aload_n C dX1_takeNews_58 rfl ?_
    refine xg_getR C V (f := 3) qX1_takeNews_30 rfl rfl rfl dX1_takeNews_59 ?_
    refine xg_iload_n C dX1_takeNews_62 rfl ?_
    refine xg_aald C V (f := 24) (b := 30) rfl (by assumption) dX1_takeNews_63 ?_
    refine xg_iload_n C dX1_takeNews_64 rfl ?_
    refine xg_iald C V (f := 30) (n := 8) (N := 8) rfl (by decide) (xR_8 (by decide) (by assumption)) (by assumption) dX1_takeNews_65 (v := (S 30 a2 a3)) ((xu_ne (by decide)).trans (xu_ne (by decide))) ?_
    refine xg_iast C V (f := 30) (n := 8) (N := 8) rfl (by decide) (xR_8 (by decide) (by assumption)) (by assumption) dX1_takeNews_66 ?_
    exact xret_v E dX1_takeNews_67 (by first | (rw [fX1_takeNews, if_neg h1]; done) | (rw [fX1_takeNews, if_neg h1]; rfl))
theorem iX1_takeBeat_X1 : ∀ w ∈ wsX10, w ∈ wsX1_takeBeat := by decide +kernel
theorem qX1_takeBeat_33 : xFr wsX1_takeBeat RX1 33 RX1 TX1 12 6 := ⟨iX1_takeBeat_X1, List.mem_of_getElem? (i := 1) rfl, by decide⟩
theorem qX1_takeBeat_36 : xFr wsX1_takeBeat RX1 36 RX1 TX1 12 7 := ⟨iX1_takeBeat_X1, List.mem_of_getElem? (i := 2) rfl, by decide⟩
theorem qX1_takeBeat_39 : xFr wsX1_takeBeat RX1 39 RX1 TX1 12 8 := ⟨iX1_takeBeat_X1, List.mem_of_getElem? (i := 3) rfl, by decide⟩
def fX1_takeBeat (a1 : Int32) (a2 : Int32) (a3 : Int32) (a4 : Int32) (S : xS) : xS :=
  if (S 31 a2 a3) ≤ (S 31 a1 a3) then
    S
  else
    (xu (xu (xu S 31 a1 a3 (S 31 a2 a3)) 32 a1 a3 a4) 33 a1 a3 (0 : Int32))
theorem hdX1_takeBeat : yX1_takeBeat.cls = RX1 ∧ yX1_takeBeat.cls ≠ "java/lang/invoke/MethodHandle" ∧ yX1_takeBeat.cls ≠ "java/lang/invoke/VarHandle" ∧ (parseMethodDescriptor yX1_takeBeat.desc).map (fun d => d.parameters.length) = some 4 := by decide +kernel
set_option maxRecDepth 100000 in
set_option maxHeartbeats 4000000 in
theorem kX1_takeBeat (l : Launch) {G : xG} (hap : xAp xYc G) (a1 : Int32) (a2 : Int32) (a3 : Int32) (a4 : Int32) (S : xS) (g_a1 : vp_in a1 8) (g_a2 : vp_in a2 8) (g_a3 : vp_in a3 8) : xMv l xYc G yX1_takeBeat wsX1_takeBeat 0 0 [.ref (G.2.2 3 0), .int a1, .int a2, .int a3, .int a4] S (fX1_takeBeat a1 a2 a3 a4 S) := by
  refine xMv_of (cc := cX1_takeBeat) (maxL := 5) (own := RX1) [some (.ref (G.2.2 3 0)), some (.int a1), some (.int a2), some (.int a3), some (.int a4)] pnX1 rfl rfl (xcat1 rfl) (Nat.le_of_ble_eq_true rfl) rfl hap (fun F C V E => ?_)
  refine xg_aload_n C dX1_takeBeat_0 rfl ?_
  refine xg_getR C V (f := 3) qX1_takeBeat_33 rfl rfl rfl dX1_takeBeat_1 ?_
  refine xg_iload_n C dX1_takeBeat_4 rfl ?_
  refine xg_aald C V (f := 25) (b := 31) rfl (by assumption) dX1_takeBeat_5 ?_
  refine xg_iload_n C dX1_takeBeat_6 rfl ?_
  refine xg_iald C V (f := 31) (n := 8) (N := 8) rfl (by decide) (xR_8 (by decide) (by assumption)) (by assumption) dX1_takeBeat_7 (v := (S 31 a1 a3)) rfl ?_
  refine xg_aload_n C dX1_takeBeat_8 rfl ?_
  refine xg_getR C V (f := 3) qX1_takeBeat_33 rfl rfl rfl dX1_takeBeat_9 ?_
  refine xg_iload_n C dX1_takeBeat_12 rfl ?_
  refine xg_aald C V (f := 25) (b := 31) rfl (by assumption) dX1_takeBeat_13 ?_
  refine xg_iload_n C dX1_takeBeat_14 rfl ?_
  refine xg_iald C V (f := 31) (n := 8) (N := 8) rfl (by decide) (xR_8 (by decide) (by assumption)) (by assumption) dX1_takeBeat_15 (v := (S 31 a2 a3)) rfl ?_
  refine xg_icmp_ge C 54 dX1_takeBeat_16 (by decide) (fun h1 => ?_) (fun h1 => ?_)
  · exact xret_v E dX1_takeBeat_54 (by first | (rw [fX1_takeBeat, if_pos h1]; done) | (rw [fX1_takeBeat, if_pos h1]; rfl))
  · refine xg_aload_n C dX1_takeBeat_19 rfl ?_
    refine xg_getR C V (f := 3) qX1_takeBeat_33 rfl rfl rfl dX1_takeBeat_20 ?_
    refine xg_iload_n C dX1_takeBeat_23 rfl ?_
    refine xg_aald C V (f := 25) (b := 31) rfl (by assumption) dX1_takeBeat_24 ?_
    refine xg_iload_n C dX1_takeBeat_25 rfl ?_
    refine xg_aload_n C dX1_takeBeat_26 rfl ?_
    refine xg_getR C V (f := 3) qX1_takeBeat_33 rfl rfl rfl dX1_takeBeat_27 ?_
    refine xg_iload_n C dX1_takeBeat_30 rfl ?_
    refine xg_aald C V (f := 25) (b := 31) rfl (by assumption) dX1_takeBeat_31 ?_
    refine xg_iload_n C dX1_takeBeat_32 rfl ?_
    refine xg_iald C V (f := 31) (n := 8) (N := 8) rfl (by decide) (xR_8 (by decide) (by assumption)) (by assumption) dX1_takeBeat_33 (v := (S 31 a2 a3)) rfl ?_
    refine xg_iast C V (f := 31) (n := 8) (N := 8) rfl (by decide) (xR_8 (by decide) (by assumption)) (by assumption) dX1_takeBeat_34 ?_
    refine xg_aload_n C dX1_takeBeat_35 rfl ?_
    refine xg_getR C V (f := 3) qX1_takeBeat_36 rfl rfl rfl dX1_takeBeat_36 ?_
    refine xg_iload_n C dX1_takeBeat_39 rfl ?_
    refine xg_aald C V (f := 26) (b := 32) rfl (by assumption) dX1_takeBeat_40 ?_
    refine xg_iload_n C dX1_takeBeat_41 rfl ?_
    refine xg_iload C dX1_takeBeat_42 rfl ?_
    refine xg_iast C V (f := 32) (n := 8) (N := 8) rfl (by decide) (xR_8 (by decide) (by assumption)) (by assumption) dX1_takeBeat_44 ?_
    refine xg_aload_n C dX1_takeBeat_45 rfl ?_
    refine xg_getR C V (f := 3) qX1_takeBeat_39 rfl rfl rfl dX1_takeBeat_46 ?_
    refine xg_iload_n C dX1_takeBeat_49 rfl ?_
    refine xg_aald C V (f := 27) (b := 33) rfl (by assumption) dX1_takeBeat_50 ?_
    refine xg_iload_n C dX1_takeBeat_51 rfl ?_
    refine xg_iconst C dX1_takeBeat_52 (v := (0 : Int32)) (by decide) ?_
    refine xg_iast C V (f := 33) (n := 8) (N := 8) rfl (by decide) (xR_8 (by decide) (by assumption)) (by assumption) dX1_takeBeat_53 ?_
    exact xret_v E dX1_takeBeat_54 (by first | (rw [fX1_takeBeat, if_neg h1]; done) | (rw [fX1_takeBeat, if_neg h1]; rfl))
def bX1_tellOneAnother_3 (a1 : Int32) (a2 : Int32) (a3 : Int32) (i : Int32) (x : xS) : xS :=
  (fX1_takeBeat a2 a1 i a3 (fX1_takeBeat a1 a2 i a3 (fX1_takeNews a2 a1 i (fX1_takeNews a1 a2 i x))))
def fX1_tellOneAnother (a1 : Int32) (a2 : Int32) (a3 : Int32) (S : xS) : xS :=
  (xfold (bX1_tellOneAnother_3 a1 a2 a3) 8 S)
theorem hdX1_tellOneAnother : yX1_tellOneAnother.cls = RX1 ∧ yX1_tellOneAnother.cls ≠ "java/lang/invoke/MethodHandle" ∧ yX1_tellOneAnother.cls ≠ "java/lang/invoke/VarHandle" ∧ (parseMethodDescriptor yX1_tellOneAnother.desc).map (fun d => d.parameters.length) = some 3 := by decide +kernel
set_option maxRecDepth 100000 in
set_option maxHeartbeats 4000000 in
theorem kX1_tellOneAnother (l : Launch) {G : xG} (hap : xAp xYc G) (a1 : Int32) (a2 : Int32) (a3 : Int32) (S : xS) (g_a1 : vp_in a1 8) (g_a2 : vp_in a2 8) : xMv l xYc G yX1_tellOneAnother wsX1_tellOneAnother 1 24 [.ref (G.2.2 3 0), .int a1, .int a2, .int a3] S (fX1_tellOneAnother a1 a2 a3 S) := by
  refine xMv_of (cc := cX1_tellOneAnother) (maxL := 5) (own := RX1) [some (.ref (G.2.2 3 0)), some (.int a1), some (.int a2), some (.int a3), none] pnX1 rfl rfl (xcat1 rfl) (Nat.le_of_ble_eq_true rfl) rfl hap (fun F C V E => ?_)
  refine xg_iconst C dX1_tellOneAnother_0 (v := (0 : Int32)) (by decide) ?_
  refine xg_istore C dX1_tellOneAnother_1 (by decide) (L' := [some (.ref (G.2.2 3 0)), some (.int a1), some (.int a2), some (.int a3), some (.int (0 : Int32))]) rfl ?_
  refine xloop (fun (ii : Int32) (x : xS) => xg F 0 0 3 [some (.ref (G.2.2 3 0)), some (.int a1), some (.int a2), some (.int a3), some (.int ii)] [] (xP xYc G x)) (bX1_tellOneAnother_3 a1 a2 a3) 8 S (fun i hi x K => ?_) ?_
  · have hi8 : vp_in (nI i) 8 := vp_in_nI hi (by decide)
    show xg F 0 0 3 [some (.ref (G.2.2 3 0)), some (.int a1), some (.int a2), some (.int a3), some (.int (nI i))] [] (xP xYc G x)
    refine xg_iload C dX1_tellOneAnother_3 rfl ?_
    refine xg_bipush C dX1_tellOneAnother_5 (v := (8 : Int32)) (by decide) ?_
    refine xg_icmp_ge C 50 dX1_tellOneAnother_7 (by decide) (fun h1 => absurd h1 (nI_ge hi (by decide))) (fun h1 => ?_)
    refine xg_aload_n C dX1_tellOneAnother_10 rfl ?_
    refine xg_iload_n C dX1_tellOneAnother_11 rfl ?_
    refine xg_iload_n C dX1_tellOneAnother_12 rfl ?_
    refine xg_iload C dX1_tellOneAnother_13 rfl ?_
    refine xg_callVv C V (f := 3) (As := [.int a1, .int a2, .int (nI i)]) (fun l => kX1_takeNews l hap a1 a2 (nI i) x (by assumption) (by assumption) (by assumption)) gX1_tellOneAnother_X1_takeNews rfl hdX1_takeNews ⟨by decide, by decide⟩ rfl rfl rfl rfl rfl (Nat.le_of_ble_eq_true rfl) ⟨Nat.zero_le _, Nat.zero_le _⟩ dX1_tellOneAnother_15 ?_
    refine xg_aload_n C dX1_tellOneAnother_18 rfl ?_
    refine xg_iload_n C dX1_tellOneAnother_19 rfl ?_
    refine xg_iload_n C dX1_tellOneAnother_20 rfl ?_
    refine xg_iload C dX1_tellOneAnother_21 rfl ?_
    refine xg_callVv C V (f := 3) (As := [.int a2, .int a1, .int (nI i)]) (fun l => kX1_takeNews l hap a2 a1 (nI i) (fX1_takeNews a1 a2 (nI i) x) (by assumption) (by assumption) (by assumption)) gX1_tellOneAnother_X1_takeNews rfl hdX1_takeNews ⟨by decide, by decide⟩ rfl rfl rfl rfl rfl (Nat.le_of_ble_eq_true rfl) ⟨Nat.zero_le _, Nat.zero_le _⟩ dX1_tellOneAnother_23 ?_
    refine xg_aload_n C dX1_tellOneAnother_26 rfl ?_
    refine xg_iload_n C dX1_tellOneAnother_27 rfl ?_
    refine xg_iload_n C dX1_tellOneAnother_28 rfl ?_
    refine xg_iload C dX1_tellOneAnother_29 rfl ?_
    refine xg_iload_n C dX1_tellOneAnother_31 rfl ?_
    refine xg_callVv C V (f := 3) (As := [.int a1, .int a2, .int (nI i), .int a3]) (fun l => kX1_takeBeat l hap a1 a2 (nI i) a3 (fX1_takeNews a2 a1 (nI i) (fX1_takeNews a1 a2 (nI i) x)) (by assumption) (by assumption) (by assumption)) gX1_tellOneAnother_X1_takeBeat rfl hdX1_takeBeat ⟨by decide, by decide⟩ rfl rfl rfl rfl rfl (Nat.le_of_ble_eq_true rfl) ⟨Nat.zero_le _, Nat.zero_le _⟩ dX1_tellOneAnother_32 ?_
    refine xg_aload_n C dX1_tellOneAnother_35 rfl ?_
    refine xg_iload_n C dX1_tellOneAnother_36 rfl ?_
    refine xg_iload_n C dX1_tellOneAnother_37 rfl ?_
    refine xg_iload C dX1_tellOneAnother_38 rfl ?_
    refine xg_iload_n C dX1_tellOneAnother_40 rfl ?_
    refine xg_callVv C V (f := 3) (As := [.int a2, .int a1, .int (nI i), .int a3]) (fun l => kX1_takeBeat l hap a2 a1 (nI i) a3 (fX1_takeBeat a1 a2 (nI i) a3 (fX1_takeNews a2 a1 (nI i) (fX1_takeNews a1 a2 (nI i) x))) (by assumption) (by assumption) (by assumption)) gX1_tellOneAnother_X1_takeBeat rfl hdX1_takeBeat ⟨by decide, by decide⟩ rfl rfl rfl rfl rfl (Nat.le_of_ble_eq_true rfl) ⟨Nat.zero_le _, Nat.zero_le _⟩ dX1_tellOneAnother_41 ?_
    refine xg_iinc C dX1_tellOneAnother_44 rfl (v := (nI (i + 1))) (xinc i) (by decide) (L' := [some (.ref (G.2.2 3 0)), some (.int a1), some (.int a2), some (.int a3), some (.int (nI (i + 1)))]) rfl ?_
    refine xg_goto C 3 dX1_tellOneAnother_47 (by decide) ?_
    have e : (bX1_tellOneAnother_3 a1 a2 a3) (nI i) x = (fX1_takeBeat a2 a1 (nI i) a3 (fX1_takeBeat a1 a2 (nI i) a3 (fX1_takeNews a2 a1 (nI i) (fX1_takeNews a1 a2 (nI i) x)))) := rfl
    rw [e] at K
    exact xg_le K ⟨rfl, rfl, rfl, rfl, rfl, trivial⟩
  · show xg F 0 0 3 [some (.ref (G.2.2 3 0)), some (.int a1), some (.int a2), some (.int a3), some (.int (nI 8))] [] (xP xYc G (xfold (bX1_tellOneAnother_3 a1 a2 a3) 8 S))
    refine xg_iload C dX1_tellOneAnother_3 rfl ?_
    refine xg_bipush C dX1_tellOneAnother_5 (v := (8 : Int32)) (by decide) ?_
    refine xg_icmp_ge C 50 dX1_tellOneAnother_7 (by decide) (fun h2 => ?_) (fun h2 => absurd (nI_le (Nat.le_refl _) (by decide)) h2)
    exact xret_v E dX1_tellOneAnother_50 (rfl)
theorem iX1_call_X1 : ∀ w ∈ wsX10, w ∈ wsX1_call := by decide +kernel
theorem qX1_call_9 : xFr wsX1_call RX1 9 RX1 TX1 12 0 := ⟨iX1_call_X1, List.mem_of_getElem? (i := 1) rfl, by decide⟩
theorem qX1_call_49 : xFr wsX1_call RX1 49 RX1 TX1 12 11 := ⟨iX1_call_X1, List.mem_of_getElem? (i := 3) rfl, by decide⟩
theorem qX1_call_18 : xFr wsX1_call RX1 18 RX1 TX1 12 2 := ⟨iX1_call_X1, List.mem_of_getElem? (i := 2) rfl, by decide⟩
def fX1_call (a1 : Int32) (a2 : Int32) (S : xS) : xS :=
  if (0 : Int32) ≤ (fX1_calledBy a1 a2 S) then
    if (S 19 0 (fX1_calledBy a1 a2 S)) = (0 : Int32) then
      if (S 21 0 (fX1_calledBy a1 a2 S)) = (S 21 0 a1) then
        (fX1_tellOneAnother a1 (fX1_calledBy a1 a2 S) a2 S)
      else
        (xu S 3 0 (nI 11) ((S 3 0 (nI 11)) + (1 : Int32)))
    else
      (xu S 3 0 (nI 11) ((S 3 0 (nI 11)) + (1 : Int32)))
  else
    S
theorem hdX1_call : yX1_call.cls = RX1 ∧ yX1_call.cls ≠ "java/lang/invoke/MethodHandle" ∧ yX1_call.cls ≠ "java/lang/invoke/VarHandle" ∧ (parseMethodDescriptor yX1_call.desc).map (fun d => d.parameters.length) = some 2 := by decide +kernel
set_option maxRecDepth 100000 in
set_option maxHeartbeats 4000000 in
theorem kX1_call (l : Launch) {G : xG} (hap : xAp xYc G) (a1 : Int32) (a2 : Int32) (S : xS) (g_a1 : vp_in a1 8) : xMv l xYc G yX1_call wsX1_call 2 49 [.ref (G.2.2 3 0), .int a1, .int a2] S (fX1_call a1 a2 S) := by
  refine xMv_of (cc := cX1_call) (maxL := 4) (own := RX1) [some (.ref (G.2.2 3 0)), some (.int a1), some (.int a2), none] pnX1 rfl rfl (xcat1 rfl) (Nat.le_of_ble_eq_true rfl) rfl hap (fun F C V E => ?_)
  refine xg_aload_n C dX1_call_0 rfl ?_
  refine xg_iload_n C dX1_call_1 rfl ?_
  refine xg_iload_n C dX1_call_2 rfl ?_
  refine xg_callVi C V (f := 3) (As := [.int a1, .int a2]) (r := (fX1_calledBy a1 a2 S)) (fun l => kX1_calledBy l hap a1 a2 S (by assumption)) gX1_call_X1_calledBy rfl hdX1_calledBy ⟨by decide, by decide⟩ rfl rfl rfl rfl rfl (Nat.le_of_ble_eq_true rfl) ⟨Nat.zero_le _, Nat.zero_le _⟩ dX1_call_3 ?_
  refine xg_istore_n C dX1_call_6 (by decide) (L' := [some (.ref (G.2.2 3 0)), some (.int a1), some (.int a2), some (.int (fX1_calledBy a1 a2 S))]) rfl ?_
  refine xg_iload_n C dX1_call_7 rfl ?_
  refine xg_if_ge C 12 dX1_call_8 (by decide) (fun h1 => ?_) (fun h1 => ?_)
  · refine xg_aload_n C dX1_call_12 rfl ?_
    refine xg_getR C V (f := 3) qX1_call_9 rfl rfl rfl dX1_call_13 ?_
    refine xg_iload_n C dX1_call_16 rfl ?_
    refine xg_zald C V (f := 19) (n := 1) (N := 8) rfl (by decide) (xR_0 (by decide)) (xin_called1 (by assumption)) dX1_call_17 (v := (S 19 0 (fX1_calledBy a1 a2 S))) rfl ?_
    refine xg_if_ne C 36 dX1_call_18 (by decide) (fun h2 => ?_) (fun h2 => ?_)
    · refine xg_aload_n C dX1_call_36 rfl ?_
      refine xg_dup C dX1_call_37 rfl ?_
      refine xg_getI C V (f := 3) qX1_call_49 rfl rfl rfl dX1_call_38 (v := (S 3 0 (nI 11))) rfl ?_
      refine xg_iconst C dX1_call_41 (v := (1 : Int32)) (by decide) ?_
      refine xg_iadd C dX1_call_42 ?_
      refine xg_putI C V (f := 3) qX1_call_49 rfl (by decide) rfl rfl tyX1_ok nmX1 rfl rfl dX1_call_43 ?_
      refine xg_goto C 56 dX1_call_46 (by decide) ?_
      exact xret_v E dX1_call_56 (by first | (rw [fX1_call, if_pos h1, if_neg h2]; done) | (rw [fX1_call, if_pos h1, if_neg h2]; rfl))
    · refine xg_aload_n C dX1_call_21 rfl ?_
      refine xg_getR C V (f := 3) qX1_call_18 rfl rfl rfl dX1_call_22 ?_
      refine xg_iload_n C dX1_call_25 rfl ?_
      refine xg_iald C V (f := 21) (n := 1) (N := 8) rfl (by decide) (xR_0 (by decide)) (xin_called1 (by assumption)) dX1_call_26 (v := (S 21 0 (fX1_calledBy a1 a2 S))) rfl ?_
      refine xg_aload_n C dX1_call_27 rfl ?_
      refine xg_getR C V (f := 3) qX1_call_18 rfl rfl rfl dX1_call_28 ?_
      refine xg_iload_n C dX1_call_31 rfl ?_
      refine xg_iald C V (f := 21) (n := 1) (N := 8) rfl (by decide) (xR_0 (by decide)) (by assumption) dX1_call_32 (v := (S 21 0 a1)) rfl ?_
      refine xg_icmp_eq C 49 dX1_call_33 (by decide) (fun h3 => ?_) (fun h3 => ?_)
      · refine xg_aload_n C dX1_call_49 rfl ?_
        refine xg_iload_n C dX1_call_50 rfl ?_
        refine xg_iload_n C dX1_call_51 rfl ?_
        refine xg_iload_n C dX1_call_52 rfl ?_
        refine xg_callVv C V (f := 3) (As := [.int a1, .int (fX1_calledBy a1 a2 S), .int a2]) (fun l => kX1_tellOneAnother l hap a1 (fX1_calledBy a1 a2 S) a2 S (by assumption) (xin_called1 (by assumption))) gX1_call_X1_tellOneAnother rfl hdX1_tellOneAnother ⟨by decide, by decide⟩ rfl rfl rfl rfl rfl (Nat.le_of_ble_eq_true rfl) ⟨Nat.zero_le _, Nat.zero_le _⟩ dX1_call_53 ?_
        exact xret_v E dX1_call_56 (by first | (rw [fX1_call, if_pos h1, if_pos h2, if_pos h3]; done) | (rw [fX1_call, if_pos h1, if_pos h2, if_pos h3]; rfl))
      · refine xg_aload_n C dX1_call_36 rfl ?_
        refine xg_dup C dX1_call_37 rfl ?_
        refine xg_getI C V (f := 3) qX1_call_49 rfl rfl rfl dX1_call_38 (v := (S 3 0 (nI 11))) rfl ?_
        refine xg_iconst C dX1_call_41 (v := (1 : Int32)) (by decide) ?_
        refine xg_iadd C dX1_call_42 ?_
        refine xg_putI C V (f := 3) qX1_call_49 rfl (by decide) rfl rfl tyX1_ok nmX1 rfl rfl dX1_call_43 ?_
        refine xg_goto C 56 dX1_call_46 (by decide) ?_
        exact xret_v E dX1_call_56 (by first | (rw [fX1_call, if_pos h1, if_pos h2, if_neg h3]; done) | (rw [fX1_call, if_pos h1, if_pos h2, if_neg h3]; rfl))
  · exact xret_v E dX1_call_11 (by first | (rw [fX1_call, if_neg h1]; done) | (rw [fX1_call, if_neg h1]; rfl))
theorem iX1_callAll_X1 : ∀ w ∈ wsX10, w ∈ wsX1_callAll := by decide +kernel
theorem qX1_callAll_9 : xFr wsX1_callAll RX1 9 RX1 TX1 12 0 := ⟨iX1_callAll_X1, List.mem_of_getElem? (i := 1) rfl, by decide⟩
def bX1_callAll_2 (a1 : Int32) (i : Int32) (x : xS) : xS :=
  if (x 19 0 i) = (0 : Int32) then
    (fX1_call i a1 x)
  else
    x
def fX1_callAll (a1 : Int32) (S : xS) : xS :=
  (xfold (bX1_callAll_2 a1) 8 S)
theorem hdX1_callAll : yX1_callAll.cls = RX1 ∧ yX1_callAll.cls ≠ "java/lang/invoke/MethodHandle" ∧ yX1_callAll.cls ≠ "java/lang/invoke/VarHandle" ∧ (parseMethodDescriptor yX1_callAll.desc).map (fun d => d.parameters.length) = some 1 := by decide +kernel
set_option maxRecDepth 100000 in
set_option maxHeartbeats 4000000 in
theorem kX1_callAll (l : Launch) {G : xG} (hap : xAp xYc G) (a1 : Int32) (S : xS)  : xMv l xYc G yX1_callAll wsX1_callAll 3 72 [.ref (G.2.2 3 0), .int a1] S (fX1_callAll a1 S) := by
  refine xMv_of (cc := cX1_callAll) (maxL := 3) (own := RX1) [some (.ref (G.2.2 3 0)), some (.int a1), none] pnX1 rfl rfl (xcat1 rfl) (Nat.le_of_ble_eq_true rfl) rfl hap (fun F C V E => ?_)
  refine xg_iconst C dX1_callAll_0 (v := (0 : Int32)) (by decide) ?_
  refine xg_istore_n C dX1_callAll_1 (by decide) (L' := [some (.ref (G.2.2 3 0)), some (.int a1), some (.int (0 : Int32))]) rfl ?_
  refine xloop (fun (ii : Int32) (x : xS) => xg F 0 0 2 [some (.ref (G.2.2 3 0)), some (.int a1), some (.int ii)] [] (xP xYc G x)) (bX1_callAll_2 a1) 8 S (fun i hi x K => ?_) ?_
  · have hi8 : vp_in (nI i) 8 := vp_in_nI hi (by decide)
    show xg F 0 0 2 [some (.ref (G.2.2 3 0)), some (.int a1), some (.int (nI i))] [] (xP xYc G x)
    refine xg_iload_n C dX1_callAll_2 rfl ?_
    refine xg_bipush C dX1_callAll_3 (v := (8 : Int32)) (by decide) ?_
    refine xg_icmp_ge C 29 dX1_callAll_5 (by decide) (fun h1 => absurd h1 (nI_ge hi (by decide))) (fun h1 => ?_)
    refine xg_aload_n C dX1_callAll_8 rfl ?_
    refine xg_getR C V (f := 3) qX1_callAll_9 rfl rfl rfl dX1_callAll_9 ?_
    refine xg_iload_n C dX1_callAll_12 rfl ?_
    refine xg_zald C V (f := 19) (n := 1) (N := 8) rfl (by decide) (xR_0 (by decide)) (by assumption) dX1_callAll_13 (v := (x 19 0 (nI i))) rfl ?_
    refine xg_if_ne C 23 dX1_callAll_14 (by decide) (fun h2 => ?_) (fun h2 => ?_)
    · refine xg_iinc C dX1_callAll_23 rfl (v := (nI (i + 1))) (xinc i) (by decide) (L' := [some (.ref (G.2.2 3 0)), some (.int a1), some (.int (nI (i + 1)))]) rfl ?_
      refine xg_goto C 2 dX1_callAll_26 (by decide) ?_
      have e : (bX1_callAll_2 a1) (nI i) x = x := by first | (rw [bX1_callAll_2, if_neg h2]; done) | (rw [bX1_callAll_2, if_neg h2]; rfl)
      rw [e] at K
      exact xg_le K ⟨rfl, rfl, rfl, trivial⟩
    · refine xg_aload_n C dX1_callAll_17 rfl ?_
      refine xg_iload_n C dX1_callAll_18 rfl ?_
      refine xg_iload_n C dX1_callAll_19 rfl ?_
      refine xg_callVv C V (f := 3) (As := [.int (nI i), .int a1]) (fun l => kX1_call l hap (nI i) a1 x (by assumption)) gX1_callAll_X1_call rfl hdX1_call ⟨by decide, by decide⟩ rfl rfl rfl rfl rfl (Nat.le_of_ble_eq_true rfl) ⟨Nat.zero_le _, Nat.zero_le _⟩ dX1_callAll_20 ?_
      refine xg_iinc C dX1_callAll_23 rfl (v := (nI (i + 1))) (xinc i) (by decide) (L' := [some (.ref (G.2.2 3 0)), some (.int a1), some (.int (nI (i + 1)))]) rfl ?_
      refine xg_goto C 2 dX1_callAll_26 (by decide) ?_
      have e : (bX1_callAll_2 a1) (nI i) x = (fX1_call (nI i) a1 x) := by first | (rw [bX1_callAll_2, if_pos h2]; done) | (rw [bX1_callAll_2, if_pos h2]; rfl)
      rw [e] at K
      exact xg_le K ⟨rfl, rfl, rfl, trivial⟩
  · show xg F 0 0 2 [some (.ref (G.2.2 3 0)), some (.int a1), some (.int (nI 8))] [] (xP xYc G (xfold (bX1_callAll_2 a1) 8 S))
    refine xg_iload_n C dX1_callAll_2 rfl ?_
    refine xg_bipush C dX1_callAll_3 (v := (8 : Int32)) (by decide) ?_
    refine xg_icmp_ge C 29 dX1_callAll_5 (by decide) (fun h3 => ?_) (fun h3 => absurd (nI_le (Nat.le_refl _) (by decide)) h3)
    exact xret_v E dX1_callAll_29 (rfl)
theorem iX1_statusAfter_X1 : ∀ w ∈ wsX10, w ∈ wsX1_statusAfter := by decide +kernel
theorem qX1_statusAfter_46 : xFr wsX1_statusAfter RX1 46 RX1 TX1 12 10 := ⟨iX1_statusAfter_X1, List.mem_of_getElem? (i := 1) rfl, by decide⟩
theorem qX1_statusAfter_42 : xFr wsX1_statusAfter RX1 42 RX1 TX1 12 9 := ⟨iX1_statusAfter_X1, List.mem_of_getElem? (i := 2) rfl, by decide⟩
def fX1_statusAfter (a1 : Int32) (S : xS) : Int32 :=
  if a1 ≤ (S 3 0 (nI 10)) then
    if a1 ≤ (S 3 0 (nI 9)) then
      (0 : Int32)
    else
      (1 : Int32)
  else
    (2 : Int32)
theorem hdX1_statusAfter : yX1_statusAfter.cls = RX1 ∧ yX1_statusAfter.cls ≠ "java/lang/invoke/MethodHandle" ∧ yX1_statusAfter.cls ≠ "java/lang/invoke/VarHandle" ∧ (parseMethodDescriptor yX1_statusAfter.desc).map (fun d => d.parameters.length) = some 1 := by decide +kernel
set_option maxRecDepth 100000 in
set_option maxHeartbeats 4000000 in
theorem kX1_statusAfter (l : Launch) {G : xG} (hap : xAp xYc G) (a1 : Int32) (S : xS)  : xMi l xYc G yX1_statusAfter wsX1_statusAfter 0 0 [.ref (G.2.2 3 0), .int a1] S S (fX1_statusAfter a1 S) := by
  refine xMi_of (cc := cX1_statusAfter) (maxL := 2) (ty := .int) (own := RX1) [some (.ref (G.2.2 3 0)), some (.int a1)] pnX1 rfl rfl rfl (xcat1 rfl) (Nat.le_of_ble_eq_true rfl) rfl hap (fun F C V E => ?_)
  refine xg_iload_n C dX1_statusAfter_0 rfl ?_
  refine xg_aload_n C dX1_statusAfter_1 rfl ?_
  refine xg_getI C V (f := 3) qX1_statusAfter_46 rfl rfl rfl dX1_statusAfter_2 (v := (S 3 0 (nI 10))) rfl ?_
  refine xg_icmp_le C 10 dX1_statusAfter_5 (by decide) (fun h1 => ?_) (fun h1 => ?_)
  · refine xg_iload_n C dX1_statusAfter_10 rfl ?_
    refine xg_aload_n C dX1_statusAfter_11 rfl ?_
    refine xg_getI C V (f := 3) qX1_statusAfter_42 rfl rfl rfl dX1_statusAfter_12 (v := (S 3 0 (nI 9))) rfl ?_
    refine xg_icmp_le C 22 dX1_statusAfter_15 (by decide) (fun h2 => ?_) (fun h2 => ?_)
    · refine xg_iconst C dX1_statusAfter_22 (v := (0 : Int32)) (by decide) ?_
      exact xret_i E dX1_statusAfter_23 (by first | (rw [fX1_statusAfter, if_pos h1, if_pos h2]; done) | (rw [fX1_statusAfter, if_pos h1, if_pos h2]; rfl)) rfl
    · refine xg_iconst C dX1_statusAfter_18 (v := (1 : Int32)) (by decide) ?_
      refine xg_goto C 23 dX1_statusAfter_19 (by decide) ?_
      exact xret_i E dX1_statusAfter_23 (by first | (rw [fX1_statusAfter, if_pos h1, if_neg h2]; done) | (rw [fX1_statusAfter, if_pos h1, if_neg h2]; rfl)) rfl
  · refine xg_iconst C dX1_statusAfter_8 (v := (2 : Int32)) (by decide) ?_
    exact xret_i E dX1_statusAfter_9 (by first | (rw [fX1_statusAfter, if_neg h1]; done) | (rw [fX1_statusAfter, if_neg h1]; rfl)) rfl
theorem iX1_lookAtOthers_X1 : ∀ w ∈ wsX10, w ∈ wsX1_lookAtOthers := by decide +kernel
theorem qX1_lookAtOthers_39 : xFr wsX1_lookAtOthers RX1 39 RX1 TX1 12 8 := ⟨iX1_lookAtOthers_X1, List.mem_of_getElem? (i := 1) rfl, by decide⟩
theorem qX1_lookAtOthers_36 : xFr wsX1_lookAtOthers RX1 36 RX1 TX1 12 7 := ⟨iX1_lookAtOthers_X1, List.mem_of_getElem? (i := 2) rfl, by decide⟩
def bX1_lookAtOthers_2 (a1 : Int32) (a2 : Int32) (i : Int32) (x : xS) : xS :=
  if i = a1 then
    x
  else
    (xu x 33 a1 i (fX1_statusAfter (a2 - (x 32 a1 i)) x))
def fX1_lookAtOthers (a1 : Int32) (a2 : Int32) (S : xS) : xS :=
  (xfold (bX1_lookAtOthers_2 a1 a2) 8 S)
theorem hdX1_lookAtOthers : yX1_lookAtOthers.cls = RX1 ∧ yX1_lookAtOthers.cls ≠ "java/lang/invoke/MethodHandle" ∧ yX1_lookAtOthers.cls ≠ "java/lang/invoke/VarHandle" ∧ (parseMethodDescriptor yX1_lookAtOthers.desc).map (fun d => d.parameters.length) = some 2 := by decide +kernel
set_option maxRecDepth 100000 in
set_option maxHeartbeats 4000000 in
theorem kX1_lookAtOthers (l : Launch) {G : xG} (hap : xAp xYc G) (a1 : Int32) (a2 : Int32) (S : xS) (g_a1 : vp_in a1 8) : xMv l xYc G yX1_lookAtOthers wsX1_lookAtOthers 1 21 [.ref (G.2.2 3 0), .int a1, .int a2] S (fX1_lookAtOthers a1 a2 S) := by
  refine xMv_of (cc := cX1_lookAtOthers) (maxL := 4) (own := RX1) [some (.ref (G.2.2 3 0)), some (.int a1), some (.int a2), none] pnX1 rfl rfl (xcat1 rfl) (Nat.le_of_ble_eq_true rfl) rfl hap (fun F C V E => ?_)
  refine xg_iconst C dX1_lookAtOthers_0 (v := (0 : Int32)) (by decide) ?_
  refine xg_istore_n C dX1_lookAtOthers_1 (by decide) (L' := [some (.ref (G.2.2 3 0)), some (.int a1), some (.int a2), some (.int (0 : Int32))]) rfl ?_
  refine xloop (fun (ii : Int32) (x : xS) => xg F 0 0 2 [some (.ref (G.2.2 3 0)), some (.int a1), some (.int a2), some (.int ii)] [] (xP xYc G x)) (bX1_lookAtOthers_2 a1 a2) 8 S (fun i hi x K => ?_) ?_
  · have hi8 : vp_in (nI i) 8 := vp_in_nI hi (by decide)
    show xg F 0 0 2 [some (.ref (G.2.2 3 0)), some (.int a1), some (.int a2), some (.int (nI i))] [] (xP xYc G x)
    refine xg_iload_n C dX1_lookAtOthers_2 rfl ?_
    refine xg_bipush C dX1_lookAtOthers_3 (v := (8 : Int32)) (by decide) ?_
    refine xg_icmp_ge C 41 dX1_lookAtOthers_5 (by decide) (fun h1 => absurd h1 (nI_ge hi (by decide))) (fun h1 => ?_)
    refine xg_iload_n C dX1_lookAtOthers_8 rfl ?_
    refine xg_iload_n C dX1_lookAtOthers_9 rfl ?_
    refine xg_icmp_eq C 35 dX1_lookAtOthers_10 (by decide) (fun h2 => ?_) (fun h2 => ?_)
    · refine xg_iinc C dX1_lookAtOthers_35 rfl (v := (nI (i + 1))) (xinc i) (by decide) (L' := [some (.ref (G.2.2 3 0)), some (.int a1), some (.int a2), some (.int (nI (i + 1)))]) rfl ?_
      refine xg_goto C 2 dX1_lookAtOthers_38 (by decide) ?_
      have e : (bX1_lookAtOthers_2 a1 a2) (nI i) x = x := by first | (rw [bX1_lookAtOthers_2, if_pos h2]; done) | (rw [bX1_lookAtOthers_2, if_pos h2]; rfl)
      rw [e] at K
      exact xg_le K ⟨rfl, rfl, rfl, rfl, trivial⟩
    · refine xg_aload_n C dX1_lookAtOthers_13 rfl ?_
      refine xg_getR C V (f := 3) qX1_lookAtOthers_39 rfl rfl rfl dX1_lookAtOthers_14 ?_
      refine xg_iload_n C dX1_lookAtOthers_17 rfl ?_
      refine xg_aald C V (f := 27) (b := 33) rfl (by assumption) dX1_lookAtOthers_18 ?_
      refine xg_iload_n C dX1_lookAtOthers_19 rfl ?_
      refine xg_aload_n C dX1_lookAtOthers_20 rfl ?_
      refine xg_iload_n C dX1_lookAtOthers_21 rfl ?_
      refine xg_aload_n C dX1_lookAtOthers_22 rfl ?_
      refine xg_getR C V (f := 3) qX1_lookAtOthers_36 rfl rfl rfl dX1_lookAtOthers_23 ?_
      refine xg_iload_n C dX1_lookAtOthers_26 rfl ?_
      refine xg_aald C V (f := 26) (b := 32) rfl (by assumption) dX1_lookAtOthers_27 ?_
      refine xg_iload_n C dX1_lookAtOthers_28 rfl ?_
      refine xg_iald C V (f := 32) (n := 8) (N := 8) rfl (by decide) (xR_8 (by decide) (by assumption)) (by assumption) dX1_lookAtOthers_29 (v := (x 32 a1 (nI i))) rfl ?_
      refine xg_isub C dX1_lookAtOthers_30 ?_
      refine xg_callVi C V (f := 3) (As := [.int (a2 - (x 32 a1 (nI i)))]) (r := (fX1_statusAfter (a2 - (x 32 a1 (nI i))) x)) (fun l => kX1_statusAfter l hap (a2 - (x 32 a1 (nI i))) x) gX1_lookAtOthers_X1_statusAfter rfl hdX1_statusAfter ⟨by decide, by decide⟩ rfl rfl rfl rfl rfl (Nat.le_of_ble_eq_true rfl) ⟨Nat.zero_le _, Nat.zero_le _⟩ dX1_lookAtOthers_31 ?_
      refine xg_iast C V (f := 33) (n := 8) (N := 8) rfl (by decide) (xR_8 (by decide) (by assumption)) (by assumption) dX1_lookAtOthers_34 ?_
      refine xg_iinc C dX1_lookAtOthers_35 rfl (v := (nI (i + 1))) (xinc i) (by decide) (L' := [some (.ref (G.2.2 3 0)), some (.int a1), some (.int a2), some (.int (nI (i + 1)))]) rfl ?_
      refine xg_goto C 2 dX1_lookAtOthers_38 (by decide) ?_
      have e : (bX1_lookAtOthers_2 a1 a2) (nI i) x = (xu x 33 a1 (nI i) (fX1_statusAfter (a2 - (x 32 a1 (nI i))) x)) := by first | (rw [bX1_lookAtOthers_2, if_neg h2]; done) | (rw [bX1_lookAtOthers_2, if_neg h2]; rfl)
      rw [e] at K
      exact xg_le K ⟨rfl, rfl, rfl, rfl, trivial⟩
  · show xg F 0 0 2 [some (.ref (G.2.2 3 0)), some (.int a1), some (.int a2), some (.int (nI 8))] [] (xP xYc G (xfold (bX1_lookAtOthers_2 a1 a2) 8 S))
    refine xg_iload_n C dX1_lookAtOthers_2 rfl ?_
    refine xg_bipush C dX1_lookAtOthers_3 (v := (8 : Int32)) (by decide) ?_
    refine xg_icmp_ge C 41 dX1_lookAtOthers_5 (by decide) (fun h3 => ?_) (fun h3 => absurd (nI_le (Nat.le_refl _) (by decide)) h3)
    exact xret_v E dX1_lookAtOthers_41 (rfl)
theorem iX1_lookAll_X1 : ∀ w ∈ wsX10, w ∈ wsX1_lookAll := by decide +kernel
theorem qX1_lookAll_9 : xFr wsX1_lookAll RX1 9 RX1 TX1 12 0 := ⟨iX1_lookAll_X1, List.mem_of_getElem? (i := 1) rfl, by decide⟩
def bX1_lookAll_2 (a1 : Int32) (i : Int32) (x : xS) : xS :=
  if (x 19 0 i) = (0 : Int32) then
    (fX1_lookAtOthers i a1 x)
  else
    x
def fX1_lookAll (a1 : Int32) (S : xS) : xS :=
  (xfold (bX1_lookAll_2 a1) 8 S)
theorem hdX1_lookAll : yX1_lookAll.cls = RX1 ∧ yX1_lookAll.cls ≠ "java/lang/invoke/MethodHandle" ∧ yX1_lookAll.cls ≠ "java/lang/invoke/VarHandle" ∧ (parseMethodDescriptor yX1_lookAll.desc).map (fun d => d.parameters.length) = some 1 := by decide +kernel
set_option maxRecDepth 100000 in
set_option maxHeartbeats 4000000 in
theorem kX1_lookAll (l : Launch) {G : xG} (hap : xAp xYc G) (a1 : Int32) (S : xS)  : xMv l xYc G yX1_lookAll wsX1_lookAll 2 44 [.ref (G.2.2 3 0), .int a1] S (fX1_lookAll a1 S) := by
  refine xMv_of (cc := cX1_lookAll) (maxL := 3) (own := RX1) [some (.ref (G.2.2 3 0)), some (.int a1), none] pnX1 rfl rfl (xcat1 rfl) (Nat.le_of_ble_eq_true rfl) rfl hap (fun F C V E => ?_)
  refine xg_iconst C dX1_lookAll_0 (v := (0 : Int32)) (by decide) ?_
  refine xg_istore_n C dX1_lookAll_1 (by decide) (L' := [some (.ref (G.2.2 3 0)), some (.int a1), some (.int (0 : Int32))]) rfl ?_
  refine xloop (fun (ii : Int32) (x : xS) => xg F 0 0 2 [some (.ref (G.2.2 3 0)), some (.int a1), some (.int ii)] [] (xP xYc G x)) (bX1_lookAll_2 a1) 8 S (fun i hi x K => ?_) ?_
  · have hi8 : vp_in (nI i) 8 := vp_in_nI hi (by decide)
    show xg F 0 0 2 [some (.ref (G.2.2 3 0)), some (.int a1), some (.int (nI i))] [] (xP xYc G x)
    refine xg_iload_n C dX1_lookAll_2 rfl ?_
    refine xg_bipush C dX1_lookAll_3 (v := (8 : Int32)) (by decide) ?_
    refine xg_icmp_ge C 29 dX1_lookAll_5 (by decide) (fun h1 => absurd h1 (nI_ge hi (by decide))) (fun h1 => ?_)
    refine xg_aload_n C dX1_lookAll_8 rfl ?_
    refine xg_getR C V (f := 3) qX1_lookAll_9 rfl rfl rfl dX1_lookAll_9 ?_
    refine xg_iload_n C dX1_lookAll_12 rfl ?_
    refine xg_zald C V (f := 19) (n := 1) (N := 8) rfl (by decide) (xR_0 (by decide)) (by assumption) dX1_lookAll_13 (v := (x 19 0 (nI i))) rfl ?_
    refine xg_if_ne C 23 dX1_lookAll_14 (by decide) (fun h2 => ?_) (fun h2 => ?_)
    · refine xg_iinc C dX1_lookAll_23 rfl (v := (nI (i + 1))) (xinc i) (by decide) (L' := [some (.ref (G.2.2 3 0)), some (.int a1), some (.int (nI (i + 1)))]) rfl ?_
      refine xg_goto C 2 dX1_lookAll_26 (by decide) ?_
      have e : (bX1_lookAll_2 a1) (nI i) x = x := by first | (rw [bX1_lookAll_2, if_neg h2]; done) | (rw [bX1_lookAll_2, if_neg h2]; rfl)
      rw [e] at K
      exact xg_le K ⟨rfl, rfl, rfl, trivial⟩
    · refine xg_aload_n C dX1_lookAll_17 rfl ?_
      refine xg_iload_n C dX1_lookAll_18 rfl ?_
      refine xg_iload_n C dX1_lookAll_19 rfl ?_
      refine xg_callVv C V (f := 3) (As := [.int (nI i), .int a1]) (fun l => kX1_lookAtOthers l hap (nI i) a1 x (by assumption)) gX1_lookAll_X1_lookAtOthers rfl hdX1_lookAtOthers ⟨by decide, by decide⟩ rfl rfl rfl rfl rfl (Nat.le_of_ble_eq_true rfl) ⟨Nat.zero_le _, Nat.zero_le _⟩ dX1_lookAll_20 ?_
      refine xg_iinc C dX1_lookAll_23 rfl (v := (nI (i + 1))) (xinc i) (by decide) (L' := [some (.ref (G.2.2 3 0)), some (.int a1), some (.int (nI (i + 1)))]) rfl ?_
      refine xg_goto C 2 dX1_lookAll_26 (by decide) ?_
      have e : (bX1_lookAll_2 a1) (nI i) x = (fX1_lookAtOthers (nI i) a1 x) := by first | (rw [bX1_lookAll_2, if_pos h2]; done) | (rw [bX1_lookAll_2, if_pos h2]; rfl)
      rw [e] at K
      exact xg_le K ⟨rfl, rfl, rfl, trivial⟩
  · show xg F 0 0 2 [some (.ref (G.2.2 3 0)), some (.int a1), some (.int (nI 8))] [] (xP xYc G (xfold (bX1_lookAll_2 a1) 8 S))
    refine xg_iload_n C dX1_lookAll_2 rfl ?_
    refine xg_bipush C dX1_lookAll_3 (v := (8 : Int32)) (by decide) ?_
    refine xg_icmp_ge C 29 dX1_lookAll_5 (by decide) (fun h3 => ?_) (fun h3 => absurd (nI_le (Nat.le_refl _) (by decide)) h3)
    exact xret_v E dX1_lookAll_29 (rfl)
