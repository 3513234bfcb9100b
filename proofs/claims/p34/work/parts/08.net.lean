/-! 08: GossipGates$Net -/
theorem iX1_hasNews_X1 : ∀ w ∈ wsX10, w ∈ wsX1_hasNews := by decide +kernel
theorem qX1_hasNews_24 : xFr wsX1_hasNews RX1 24 RX1 TX1 12 3 := ⟨iX1_hasNews_X1, List.mem_of_getElem? (i := 1) rfl, by decide⟩
def fX1_hasNews (a1 : Int32) (a2 : Int32) (S : xS) : Int32 :=
  if (S 28 a1 a2) ≤ (0 : Int32) then
    (0 : Int32)
  else
    (1 : Int32)
theorem z01X1_hasNews {a1 a2 : Int32} {S : xS} : narrow .boolean (.int (fX1_hasNews a1 a2 S)) = .int (fX1_hasNews a1 a2 S) := xn01 (by unfold fX1_hasNews; (repeat' split) <;> first | exact Or.inl rfl | exact Or.inr rfl)
theorem hdX1_hasNews : yX1_hasNews.cls = RX1 ∧ yX1_hasNews.cls ≠ "java/lang/invoke/MethodHandle" ∧ yX1_hasNews.cls ≠ "java/lang/invoke/VarHandle" ∧ (parseMethodDescriptor yX1_hasNews.desc).map (fun d => d.parameters.length) = some 2 := by decide +kernel
set_option maxRecDepth 100000 in
set_option maxHeartbeats 4000000 in
theorem kX1_hasNews (l : Launch) {G : xG} (hap : xAp xYc G) (a1 : Int32) (a2 : Int32) (S : xS) (g_a1 : vp_in a1 8) (g_a2 : vp_in a2 8) : xMi l xYc G yX1_hasNews wsX1_hasNews 0 0 [.ref (G.2.2 3 0), .int a1, .int a2] S S (fX1_hasNews a1 a2 S) := by
  refine xMi_of (cc := cX1_hasNews) (maxL := 3) (ty := .boolean) (own := RX1) [some (.ref (G.2.2 3 0)), some (.int a1), some (.int a2)] pnX1 rfl rfl z01X1_hasNews (xcat1 rfl) (Nat.le_of_ble_eq_true rfl) rfl hap (fun F C V E => ?_)
  refine xg_aload_n C dX1_hasNews_0 rfl ?_
  refine xg_getR C V (f := 3) qX1_hasNews_24 rfl rfl rfl dX1_hasNews_1 ?_
  refine xg_iload_n C dX1_hasNews_4 rfl ?_
  refine xg_aald C V (f := 22) (b := 28) rfl (by assumption) dX1_hasNews_5 ?_
  refine xg_iload_n C dX1_hasNews_6 rfl ?_
  refine xg_iald C V (f := 28) (n := 8) (N := 8) rfl (by decide) (xR_8 (by decide) (by assumption)) (by assumption) dX1_hasNews_7 (v := (S 28 a1 a2)) rfl ?_
  refine xg_if_le C 15 dX1_hasNews_8 (by decide) (fun h1 => ?_) (fun h1 => ?_)
  · refine xg_iconst C dX1_hasNews_15 (v := (0 : Int32)) (by decide) ?_
    exact xret_i E dX1_hasNews_16 (by first | (rw [fX1_hasNews, if_pos h1]; done) | (rw [fX1_hasNews, if_pos h1]; rfl)) rfl
  · refine xg_iconst C dX1_hasNews_11 (v := (1 : Int32)) (by decide) ?_
    refine xg_goto C 16 dX1_hasNews_12 (by decide) ?_
    exact xret_i E dX1_hasNews_16 (by first | (rw [fX1_hasNews, if_neg h1]; done) | (rw [fX1_hasNews, if_neg h1]; rfl)) rfl
theorem iX1_isOld_X1 : ∀ w ∈ wsX10, w ∈ wsX1_isOld := by decide +kernel
theorem qX1_isOld_30 : xFr wsX1_isOld RX1 30 RX1 TX1 12 5 := ⟨iX1_isOld_X1, List.mem_of_getElem? (i := 1) rfl, by decide⟩
def fX1_isOld (a1 : Int32) (a2 : Int32) (a3 : Int32) (a4 : Int32) (S : xS) : Int32 :=
  if (fX1_hasNews a1 a2 S) = (0 : Int32) then
    (1 : Int32)
  else
    if (a3 - (S 30 a1 a2)) ≤ a4 then
      (0 : Int32)
    else
      (1 : Int32)
theorem z01X1_isOld {a1 a2 a3 a4 : Int32} {S : xS} : narrow .boolean (.int (fX1_isOld a1 a2 a3 a4 S)) = .int (fX1_isOld a1 a2 a3 a4 S) := xn01 (by unfold fX1_isOld; (repeat' split) <;> first | exact Or.inl rfl | exact Or.inr rfl)
theorem hdX1_isOld : yX1_isOld.cls = RX1 ∧ yX1_isOld.cls ≠ "java/lang/invoke/MethodHandle" ∧ yX1_isOld.cls ≠ "java/lang/invoke/VarHandle" ∧ (parseMethodDescriptor yX1_isOld.desc).map (fun d => d.parameters.length) = some 4 := by decide +kernel
set_option maxRecDepth 100000 in
set_option maxHeartbeats 4000000 in
theorem kX1_isOld (l : Launch) {G : xG} (hap : xAp xYc G) (a1 : Int32) (a2 : Int32) (a3 : Int32) (a4 : Int32) (S : xS) (g_a1 : vp_in a1 8) (g_a2 : vp_in a2 8) : xMi l xYc G yX1_isOld wsX1_isOld 1 22 [.ref (G.2.2 3 0), .int a1, .int a2, .int a3, .int a4] S S (fX1_isOld a1 a2 a3 a4 S) := by
  refine xMi_of (cc := cX1_isOld) (maxL := 5) (ty := .boolean) (own := RX1) [some (.ref (G.2.2 3 0)), some (.int a1), some (.int a2), some (.int a3), some (.int a4)] pnX1 rfl rfl z01X1_isOld (xcat1 rfl) (Nat.le_of_ble_eq_true rfl) rfl hap (fun F C V E => ?_)
  refine xg_aload_n C dX1_isOld_0 rfl ?_
  refine xg_iload_n C dX1_isOld_1 rfl ?_
  refine xg_iload_n C dX1_isOld_2 rfl ?_
  refine xg_callVi C V (f := 3) (As := [.int a1, .int a2]) (r := (fX1_hasNews a1 a2 S)) (fun l => kX1_hasNews l hap a1 a2 S (by assumption) (by assumption)) gX1_isOld_X1_hasNews rfl hdX1_hasNews ⟨by decide, by decide⟩ rfl rfl rfl rfl rfl (Nat.le_of_ble_eq_true rfl) ⟨Nat.zero_le _, Nat.zero_le _⟩ dX1_isOld_3 ?_
  refine xg_if_eq C 24 dX1_isOld_6 (by decide) (fun h1 => ?_) (fun h1 => ?_)
  · refine xg_iconst C dX1_isOld_24 (v := (1 : Int32)) (by decide) ?_
    refine xg_goto C 29 dX1_isOld_25 (by decide) ?_
    exact xret_i E dX1_isOld_29 (by first | (rw [fX1_isOld, if_pos h1]; done) | (rw [fX1_isOld, if_pos h1]; rfl)) rfl
  · refine xg_iload_n C dX1_isOld_9 rfl ?_
    refine xg_aload_n C dX1_isOld_10 rfl ?_
    refine xg_getR C V (f := 3) qX1_isOld_30 rfl rfl rfl dX1_isOld_11 ?_
    refine xg_iload_n C dX1_isOld_14 rfl ?_
    refine xg_aald C V (f := 24) (b := 30) rfl (by assumption) dX1_isOld_15 ?_
    refine xg_iload_n C dX1_isOld_16 rfl ?_
    refine xg_iald C V (f := 30) (n := 8) (N := 8) rfl (by decide) (xR_8 (by decide) (by assumption)) (by assumption) dX1_isOld_17 (v := (S 30 a1 a2)) rfl ?_
    refine xg_isub C dX1_isOld_18 ?_
    refine xg_iload C dX1_isOld_19 rfl ?_
    refine xg_icmp_le C 28 dX1_isOld_21 (by decide) (fun h2 => ?_) (fun h2 => ?_)
    · refine xg_iconst C dX1_isOld_28 (v := (0 : Int32)) (by decide) ?_
      exact xret_i E dX1_isOld_29 (by first | (rw [fX1_isOld, if_neg h1, if_pos h2]; done) | (rw [fX1_isOld, if_neg h1, if_pos h2]; rfl)) rfl
    · refine xg_iconst C dX1_isOld_24 (v := (1 : Int32)) (by decide) ?_
      refine xg_goto C 29 dX1_isOld_25 (by decide) ?_
      exact xret_i E dX1_isOld_29 (by first | (rw [fX1_isOld, if_neg h1, if_neg h2]; done) | (rw [fX1_isOld, if_neg h1, if_neg h2]; rfl)) rfl
theorem iX1_measure_X1 : ∀ w ∈ wsX10, w ∈ wsX1_measure := by decide +kernel
theorem qX1_measure_15 : xFr wsX1_measure RX1 15 RX1 TX1 12 1 := ⟨iX1_measure_X1, List.mem_of_getElem? (i := 1) rfl, by decide⟩
theorem qX1_measure_30 : xFr wsX1_measure RX1 30 RX1 TX1 12 5 := ⟨iX1_measure_X1, List.mem_of_getElem? (i := 3) rfl, by decide⟩
theorem qX1_measure_24 : xFr wsX1_measure RX1 24 RX1 TX1 12 3 := ⟨iX1_measure_X1, List.mem_of_getElem? (i := 4) rfl, by decide⟩
theorem qX1_measure_33 : xFr wsX1_measure RX1 33 RX1 TX1 12 6 := ⟨iX1_measure_X1, List.mem_of_getElem? (i := 5) rfl, by decide⟩
theorem qX1_measure_36 : xFr wsX1_measure RX1 36 RX1 TX1 12 7 := ⟨iX1_measure_X1, List.mem_of_getElem? (i := 6) rfl, by decide⟩
theorem qX1_measure_27 : xFr wsX1_measure RX1 27 RX1 TX1 12 4 := ⟨iX1_measure_X1, List.mem_of_getElem? (i := 2) rfl, by decide⟩
def fX1_measure (a1 : Int32) (a2 : Int32) (a3 : Int32) (S : xS) : xS :=
  if (S 20 0 a1) = (0 : Int32) then
    (xu (xu (xu (xu (xu S 29 a1 a1 a2) 30 a1 a1 a3) 28 a1 a1 ((S 28 a1 a1) + (1 : Int32))) 31 a1 a1 ((S 31 a1 a1) + (1 : Int32))) 32 a1 a1 a3)
  else
    (xu (xu (xu (xu S 30 a1 a1 a3) 28 a1 a1 ((S 28 a1 a1) + (1 : Int32))) 31 a1 a1 ((S 31 a1 a1) + (1 : Int32))) 32 a1 a1 a3)
theorem hdX1_measure : yX1_measure.cls = RX1 ∧ yX1_measure.cls ≠ "java/lang/invoke/MethodHandle" ∧ yX1_measure.cls ≠ "java/lang/invoke/VarHandle" ∧ (parseMethodDescriptor yX1_measure.desc).map (fun d => d.parameters.length) = some 3 := by decide +kernel
set_option maxRecDepth 100000 in
set_option maxHeartbeats 4000000 in
theorem kX1_measure (l : Launch) {G : xG} (hap : xAp xYc G) (a1 : Int32) (a2 : Int32) (a3 : Int32) (S : xS) (g_a1 : vp_in a1 8) : xMv l xYc G yX1_measure wsX1_measure 0 0 [.ref (G.2.2 3 0), .int a1, .int a2, .int a3] S (fX1_measure a1 a2 a3 S) := by
  refine xMv_of (cc := cX1_measure) (maxL := 4) (own := RX1) [some (.ref (G.2.2 3 0)), some (.int a1), some (.int a2), some (.int a3)] pnX1 rfl rfl (xcat1 rfl) (Nat.le_of_ble_eq_true rfl) rfl hap (fun F C V E => ?_)
  refine xg_aload_n C dX1_measure_0 rfl ?_
  refine xg_getR C V (f := 3) qX1_measure_15 rfl rfl rfl dX1_measure_1 ?_
  refine xg_iload_n C dX1_measure_4 rfl ?_
  refine xg_zald C V (f := 20) (n := 1) (N := 8) rfl (by decide) (xR_0 (by decide)) (by assumption) dX1_measure_5 (v := (S 20 0 a1)) rfl ?_
  refine xg_if_ne C 18 dX1_measure_6 (by decide) (fun h1 => ?_) (fun h1 => ?_)
  · refine xg_aload_n C dX1_measure_18 rfl ?_
    refine xg_getR C V (f := 3) qX1_measure_30 rfl rfl rfl dX1_measure_19 ?_
    refine xg_iload_n C dX1_measure_22 rfl ?_
    refine xg_aald C V (f := 24) (b := 30) rfl (by assumption) dX1_measure_23 ?_
    refine xg_iload_n C dX1_measure_24 rfl ?_
    refine xg_iload_n C dX1_measure_25 rfl ?_
    refine xg_iast C V (f := 30) (n := 8) (N := 8) rfl (by decide) (xR_8 (by decide) (by assumption)) (by assumption) dX1_measure_26 ?_
    refine xg_aload_n C dX1_measure_27 rfl ?_
    refine xg_getR C V (f := 3) qX1_measure_24 rfl rfl rfl dX1_measure_28 ?_
    refine xg_iload_n C dX1_measure_31 rfl ?_
    refine xg_aald C V (f := 22) (b := 28) rfl (by assumption) dX1_measure_32 ?_
    refine xg_iload_n C dX1_measure_33 rfl ?_
    refine xg_dup2 C dX1_measure_34 rfl rfl ?_
    refine xg_iald C V (f := 28) (n := 8) (N := 8) rfl (by decide) (xR_8 (by decide) (by assumption)) (by assumption) dX1_measure_35 (v := (S 28 a1 a1)) (xu_ne (by decide)) ?_
    refine xg_iconst C dX1_measure_36 (v := (1 : Int32)) (by decide) ?_
    refine xg_iadd C dX1_measure_37 ?_
    refine xg_iast C V (f := 28) (n := 8) (N := 8) rfl (by decide) (xR_8 (by decide) (by assumption)) (by assumption) dX1_measure_38 ?_
    refine xg_aload_n C dX1_measure_39 rfl ?_
    refine xg_getR C V (f := 3) qX1_measure_33 rfl rfl rfl dX1_measure_40 ?_
    refine xg_iload_n C dX1_measure_43 rfl ?_
    refine xg_aald C V (f := 25) (b := 31) rfl (by assumption) dX1_measure_44 ?_
    refine xg_iload_n C dX1_measure_45 rfl ?_
    refine xg_dup2 C dX1_measure_46 rfl rfl ?_
    refine xg_iald C V (f := 31) (n := 8) (N := 8) rfl (by decide) (xR_8 (by decide) (by assumption)) (by assumption) dX1_measure_47 (v := (S 31 a1 a1)) ((xu_ne (by decide)).trans (xu_ne (by decide))) ?_
    refine xg_iconst C dX1_measure_48 (v := (1 : Int32)) (by decide) ?_
    refine xg_iadd C dX1_measure_49 ?_
    refine xg_iast C V (f := 31) (n := 8) (N := 8) rfl (by decide) (xR_8 (by decide) (by assumption)) (by assumption) dX1_measure_50 ?_
    refine xg_aload_n C dX1_measure_51 rfl ?_
    refine xg_getR C V (f := 3) qX1_measure_36 rfl rfl rfl dX1_measure_52 ?_
    refine xg_iload_n C dX1_measure_55 rfl ?_
    refine xg_aald C V (f := 26) (b := 32) rfl (by assumption) dX1_measure_56 ?_
    refine xg_iload_n C dX1_measure_57 rfl ?_
    refine xg_iload_n C dX1_measure_58 rfl ?_
    refine xg_iast C V (f := 32) (n := 8) (N := 8) rfl (by decide) (xR_8 (by decide) (by assumption)) (by assumption) dX1_measure_59 ?_
    exact xret_v E dX1_measure_60 (by first | (rw [fX1_measure, if_neg h1]; done) | (rw [fX1_measure, if_neg h1]; rfl))
  · refine xg_aload_n C dX1_measure_9 rfl ?_
    refine xg_getR C V (f := 3) qX1_measure_27 rfl rfl rfl dX1_measure_10 ?_
    refine xg_iload_n C dX1_measure_13 rfl ?_
    refine xg_aald C V (f := 23) (b := 29) rfl (by assumption) dX1_measure_14 ?_
    refine xg_iload_n C dX1_measure_15 rfl ?_
    refine xg_iload_n C dX1_measure_16 rfl ?_
    refine xg_iast C V (f := 29) (n := 8) (N := 8) rfl (by decide) (xR_8 (by decide) (by assumption)) (by assumption) dX1_measure_17 ?_
    refine xg_aload_n C dX1_measure_18 rfl ?_
    refine xg_getR C V (f := 3) qX1_measure_30 rfl rfl rfl dX1_measure_19 ?_
    refine xg_iload_n C dX1_measure_22 rfl ?_
    refine xg_aald C V (f := 24) (b := 30) rfl (by assumption) dX1_measure_23 ?_
    refine xg_iload_n C dX1_measure_24 rfl ?_
    refine xg_iload_n C dX1_measure_25 rfl ?_
    refine xg_iast C V (f := 30) (n := 8) (N := 8) rfl (by decide) (xR_8 (by decide) (by assumption)) (by assumption) dX1_measure_26 ?_
    refine xg_aload_n C dX1_measure_27 rfl ?_
    refine xg_getR C V (f := 3) qX1_measure_24 rfl rfl rfl dX1_measure_28 ?_
    refine xg_iload_n C dX1_measure_31 rfl ?_
    refine xg_aald C V (f := 22) (b := 28) rfl (by assumption) dX1_measure_32 ?_
    refine xg_iload_n C dX1_measure_33 rfl ?_
    refine xg_dup2 C dX1_measure_34 rfl rfl ?_
    refine xg_iald C V (f := 28) (n := 8) (N := 8) rfl (by decide) (xR_8 (by decide) (by assumption)) (by assumption) dX1_measure_35 (v := (S 28 a1 a1)) ((xu_ne (by decide)).trans (xu_ne (by decide))) ?_
    refine xg_iconst C dX1_measure_36 (v := (1 : Int32)) (by decide) ?_
    refine xg_iadd C dX1_measure_37 ?_
    refine xg_iast C V (f := 28) (n := 8) (N := 8) rfl (by decide) (xR_8 (by decide) (by assumption)) (by assumption) dX1_measure_38 ?_
    refine xg_aload_n C dX1_measure_39 rfl ?_
    refine xg_getR C V (f := 3) qX1_measure_33 rfl rfl rfl dX1_measure_40 ?_
    refine xg_iload_n C dX1_measure_43 rfl ?_
    refine xg_aald C V (f := 25) (b := 31) rfl (by assumption) dX1_measure_44 ?_
    refine xg_iload_n C dX1_measure_45 rfl ?_
    refine xg_dup2 C dX1_measure_46 rfl rfl ?_
    refine xg_iald C V (f := 31) (n := 8) (N := 8) rfl (by decide) (xR_8 (by decide) (by assumption)) (by assumption) dX1_measure_47 (v := (S 31 a1 a1)) (((xu_ne (by decide)).trans (xu_ne (by decide))).trans (xu_ne (by decide))) ?_
    refine xg_iconst C dX1_measure_48 (v := (1 : Int32)) (by decide) ?_
    refine xg_iadd C dX1_measure_49 ?_
    refine xg_iast C V (f := 31) (n := 8) (N := 8) rfl (by decide) (xR_8 (by decide) (by assumption)) (by assumption) dX1_measure_50 ?_
    refine xg_aload_n C dX1_measure_51 rfl ?_
    refine xg_getR C V (f := 3) qX1_measure_36 rfl rfl rfl dX1_measure_52 ?_
    refine xg_iload_n C dX1_measure_55 rfl ?_
    refine xg_aald C V (f := 26) (b := 32) rfl (by assumption) dX1_measure_56 ?_
    refine xg_iload_n C dX1_measure_57 rfl ?_
    refine xg_iload_n C dX1_measure_58 rfl ?_
    refine xg_iast C V (f := 32) (n := 8) (N := 8) rfl (by decide) (xR_8 (by decide) (by assumption)) (by assumption) dX1_measure_59 ?_
    exact xret_v E dX1_measure_60 (by first | (rw [fX1_measure, if_pos h1]; done) | (rw [fX1_measure, if_pos h1]; rfl))
theorem iX1_measureAll_X1 : ∀ w ∈ wsX10, w ∈ wsX1_measureAll := by decide +kernel
theorem qX1_measureAll_9 : xFr wsX1_measureAll RX1 9 RX1 TX1 12 0 := ⟨iX1_measureAll_X1, List.mem_of_getElem? (i := 1) rfl, by decide⟩
def bX1_measureAll_2 (a1 : Int32) (i : Int32) (x : xS) : xS :=
  if (x 19 0 i) = (0 : Int32) then
    (fX1_measure i (fX2_levelOf i x) a1 x)
  else
    x
def fX1_measureAll (a1 : Int32) (S : xS) : xS :=
  (xfold (bX1_measureAll_2 a1) 8 S)
theorem hdX1_measureAll : yX1_measureAll.cls = RX1 ∧ yX1_measureAll.cls ≠ "java/lang/invoke/MethodHandle" ∧ yX1_measureAll.cls ≠ "java/lang/invoke/VarHandle" ∧ (parseMethodDescriptor yX1_measureAll.desc).map (fun d => d.parameters.length) = some 2 := by decide +kernel
set_option maxRecDepth 100000 in
set_option maxHeartbeats 4000000 in
theorem kX1_measureAll (l : Launch) {G : xG} (hap : xAp xYc G) (a1 : Int32) (S : xS)  : xMv l xYc G yX1_measureAll wsX1_measureAll 1 23 [.ref (G.2.2 3 0), .ref (G.2.2 1 0), .int a1] S (fX1_measureAll a1 S) := by
  refine xMv_of (cc := cX1_measureAll) (maxL := 4) (own := RX1) [some (.ref (G.2.2 3 0)), some (.ref (G.2.2 1 0)), some (.int a1), none] pnX1 rfl rfl (xcat1 rfl) (Nat.le_of_ble_eq_true rfl) rfl hap (fun F C V E => ?_)
  refine xg_iconst C dX1_measureAll_0 (v := (0 : Int32)) (by decide) ?_
  refine xg_istore_n C dX1_measureAll_1 (by decide) (L' := [some (.ref (G.2.2 3 0)), some (.ref (G.2.2 1 0)), some (.int a1), some (.int (0 : Int32))]) rfl ?_
  refine xloop (fun (ii : Int32) (x : xS) => xg F 0 0 2 [some (.ref (G.2.2 3 0)), some (.ref (G.2.2 1 0)), some (.int a1), some (.int ii)] [] (xP xYc G x)) (bX1_measureAll_2 a1) 8 S (fun i hi x K => ?_) ?_
  · have hi8 : vp_in (nI i) 8 := vp_in_nI hi (by decide)
    show xg F 0 0 2 [some (.ref (G.2.2 3 0)), some (.ref (G.2.2 1 0)), some (.int a1), some (.int (nI i))] [] (xP xYc G x)
    refine xg_iload_n C dX1_measureAll_2 rfl ?_
    refine xg_bipush C dX1_measureAll_3 (v := (8 : Int32)) (by decide) ?_
    refine xg_icmp_ge C 34 dX1_measureAll_5 (by decide) (fun h1 => absurd h1 (nI_ge hi (by decide))) (fun h1 => ?_)
    refine xg_aload_n C dX1_measureAll_8 rfl ?_
    refine xg_getR C V (f := 3) qX1_measureAll_9 rfl rfl rfl dX1_measureAll_9 ?_
    refine xg_iload_n C dX1_measureAll_12 rfl ?_
    refine xg_zald C V (f := 19) (n := 1) (N := 8) rfl (by decide) (xR_0 (by decide)) (by assumption) dX1_measureAll_13 (v := (x 19 0 (nI i))) rfl ?_
    refine xg_if_ne C 28 dX1_measureAll_14 (by decide) (fun h2 => ?_) (fun h2 => ?_)
    · refine xg_iinc C dX1_measureAll_28 rfl (v := (nI (i + 1))) (xinc i) (by decide) (L' := [some (.ref (G.2.2 3 0)), some (.ref (G.2.2 1 0)), some (.int a1), some (.int (nI (i + 1)))]) rfl ?_
      refine xg_goto C 2 dX1_measureAll_31 (by decide) ?_
      have e : (bX1_measureAll_2 a1) (nI i) x = x := by first | (rw [bX1_measureAll_2, if_neg h2]; done) | (rw [bX1_measureAll_2, if_neg h2]; rfl)
      rw [e] at K
      exact xg_le K ⟨rfl, rfl, rfl, rfl, trivial⟩
    · refine xg_aload_n C dX1_measureAll_17 rfl ?_
      refine xg_iload_n C dX1_measureAll_18 rfl ?_
      refine xg_aload_n C dX1_measureAll_19 rfl ?_
      refine xg_iload_n C dX1_measureAll_20 rfl ?_
      refine xg_callVi C V (f := 1) (As := [.int (nI i)]) (r := (fX2_levelOf (nI i) x)) (fun l => kX2_levelOf l hap (nI i) x (by assumption)) gX1_measureAll_X2_levelOf rfl hdX2_levelOf ⟨by decide, by decide⟩ rfl rfl rfl rfl rfl (Nat.le_of_ble_eq_true rfl) ⟨Nat.zero_le _, Nat.zero_le _⟩ dX1_measureAll_21 ?_
      refine xg_iload_n C dX1_measureAll_24 rfl ?_
      refine xg_callVv C V (f := 3) (As := [.int (nI i), .int (fX2_levelOf (nI i) x), .int a1]) (fun l => kX1_measure l hap (nI i) (fX2_levelOf (nI i) x) a1 x (by assumption)) gX1_measureAll_X1_measure rfl hdX1_measure ⟨by decide, by decide⟩ rfl rfl rfl rfl rfl (Nat.le_of_ble_eq_true rfl) ⟨Nat.zero_le _, Nat.zero_le _⟩ dX1_measureAll_25 ?_
      refine xg_iinc C dX1_measureAll_28 rfl (v := (nI (i + 1))) (xinc i) (by decide) (L' := [some (.ref (G.2.2 3 0)), some (.ref (G.2.2 1 0)), some (.int a1), some (.int (nI (i + 1)))]) rfl ?_
      refine xg_goto C 2 dX1_measureAll_31 (by decide) ?_
      have e : (bX1_measureAll_2 a1) (nI i) x = (fX1_measure (nI i) (fX2_levelOf (nI i) x) a1 x) := by first | (rw [bX1_measureAll_2, if_pos h2]; done) | (rw [bX1_measureAll_2, if_pos h2]; rfl)
      rw [e] at K
      exact xg_le K ⟨rfl, rfl, rfl, rfl, trivial⟩
  · show xg F 0 0 2 [some (.ref (G.2.2 3 0)), some (.ref (G.2.2 1 0)), some (.int a1), some (.int (nI 8))] [] (xP xYc G (xfold (bX1_measureAll_2 a1) 8 S))
    refine xg_iload_n C dX1_measureAll_2 rfl ?_
    refine xg_bipush C dX1_measureAll_3 (v := (8 : Int32)) (by decide) ?_
    refine xg_icmp_ge C 34 dX1_measureAll_5 (by decide) (fun h3 => ?_) (fun h3 => absurd (nI_le (Nat.le_refl _) (by decide)) h3)
    exact xret_v E dX1_measureAll_34 (rfl)
theorem iX1_isCallable_X1 : ∀ w ∈ wsX10, w ∈ wsX1_isCallable := by decide +kernel
theorem qX1_isCallable_39 : xFr wsX1_isCallable RX1 39 RX1 TX1 12 8 := ⟨iX1_isCallable_X1, List.mem_of_getElem? (i := 1) rfl, by decide⟩
def fX1_isCallable (a1 : Int32) (a2 : Int32) (a3 : Int32) (S : xS) : Int32 :=
  if a2 = a1 then
    (0 : Int32)
  else
    if a3 = (0 : Int32) then
      if (S 33 a1 a2) = (2 : Int32) then
        (0 : Int32)
      else
        (1 : Int32)
    else
      (1 : Int32)
theorem z01X1_isCallable {a1 a2 a3 : Int32} {S : xS} : narrow .boolean (.int (fX1_isCallable a1 a2 a3 S)) = .int (fX1_isCallable a1 a2 a3 S) := xn01 (by unfold fX1_isCallable; (repeat' split) <;> first | exact Or.inl rfl | exact Or.inr rfl)
theorem hdX1_isCallable : yX1_isCallable.cls = RX1 ∧ yX1_isCallable.cls ≠ "java/lang/invoke/MethodHandle" ∧ yX1_isCallable.cls ≠ "java/lang/invoke/VarHandle" ∧ (parseMethodDescriptor yX1_isCallable.desc).map (fun d => d.parameters.length) = some 3 := by decide +kernel
set_option maxRecDepth 100000 in
set_option maxHeartbeats 4000000 in
theorem kX1_isCallable (l : Launch) {G : xG} (hap : xAp xYc G) (a1 : Int32) (a2 : Int32) (a3 : Int32) (S : xS) (g_a1 : vp_in a1 8) (g_a2 : vp_in a2 8) : xMi l xYc G yX1_isCallable wsX1_isCallable 0 0 [.ref (G.2.2 3 0), .int a1, .int a2, .int a3] S S (fX1_isCallable a1 a2 a3 S) := by
  refine xMi_of (cc := cX1_isCallable) (maxL := 4) (ty := .boolean) (own := RX1) [some (.ref (G.2.2 3 0)), some (.int a1), some (.int a2), some (.int a3)] pnX1 rfl rfl z01X1_isCallable (xcat1 rfl) (Nat.le_of_ble_eq_true rfl) rfl hap (fun F C V E => ?_)
  refine xg_iload_n C dX1_isCallable_0 rfl ?_
  refine xg_iload_n C dX1_isCallable_1 rfl ?_
  refine xg_icmp_eq C 25 dX1_isCallable_2 (by decide) (fun h1 => ?_) (fun h1 => ?_)
  · refine xg_iconst C dX1_isCallable_25 (v := (0 : Int32)) (by decide) ?_
    exact xret_i E dX1_isCallable_26 (by first | (rw [fX1_isCallable, if_pos h1]; done) | (rw [fX1_isCallable, if_pos h1]; rfl)) rfl
  · refine xg_iload_n C dX1_isCallable_5 rfl ?_
    refine xg_if_ne C 21 dX1_isCallable_6 (by decide) (fun h2 => ?_) (fun h2 => ?_)
    · refine xg_iconst C dX1_isCallable_21 (v := (1 : Int32)) (by decide) ?_
      refine xg_goto C 26 dX1_isCallable_22 (by decide) ?_
      exact xret_i E dX1_isCallable_26 (by first | (rw [fX1_isCallable, if_neg h1, if_neg h2]; done) | (rw [fX1_isCallable, if_neg h1, if_neg h2]; rfl)) rfl
    · refine xg_aload_n C dX1_isCallable_9 rfl ?_
      refine xg_getR C V (f := 3) qX1_isCallable_39 rfl rfl rfl dX1_isCallable_10 ?_
      refine xg_iload_n C dX1_isCallable_13 rfl ?_
      refine xg_aald C V (f := 27) (b := 33) rfl (by assumption) dX1_isCallable_14 ?_
      refine xg_iload_n C dX1_isCallable_15 rfl ?_
      refine xg_iald C V (f := 33) (n := 8) (N := 8) rfl (by decide) (xR_8 (by decide) (by assumption)) (by assumption) dX1_isCallable_16 (v := (S 33 a1 a2)) rfl ?_
      refine xg_iconst C dX1_isCallable_17 (v := (2 : Int32)) (by decide) ?_
      refine xg_icmp_eq C 25 dX1_isCallable_18 (by decide) (fun h3 => ?_) (fun h3 => ?_)
      · refine xg_iconst C dX1_isCallable_25 (v := (0 : Int32)) (by decide) ?_
        exact xret_i E dX1_isCallable_26 (by first | (rw [fX1_isCallable, if_neg h1, if_pos h2, if_pos h3]; done) | (rw [fX1_isCallable, if_neg h1, if_pos h2, if_pos h3]; rfl)) rfl
      · refine xg_iconst C dX1_isCallable_21 (v := (1 : Int32)) (by decide) ?_
        refine xg_goto C 26 dX1_isCallable_22 (by decide) ?_
        exact xret_i E dX1_isCallable_26 (by first | (rw [fX1_isCallable, if_neg h1, if_pos h2, if_neg h3]; done) | (rw [fX1_isCallable, if_neg h1, if_pos h2, if_neg h3]; rfl)) rfl
