def bJ7_fill_53178_5 (r : Int32) (v : Int32) (i : Int32) (x : xS) : xS :=
  (xu x 32 r i v)
def fJ7_fill_53178 (r : Int32) (v : Int32) (S : xS) : xS :=
  (xfold (bJ7_fill_53178_5 r v) 8 S)
theorem hdJ7_fill_53178 : yJ7_fill_53178.cls ≠ "java/lang/invoke/MethodHandle" ∧ yJ7_fill_53178.cls ≠ "java/lang/invoke/VarHandle" ∧ (parseMethodDescriptor yJ7_fill_53178.desc).map (fun d => d.parameters.length) = some 2 := by decide +kernel
set_option maxRecDepth 100000 in
set_option maxHeartbeats 4000000 in
theorem kJ7_fill_53178 (l : Launch) {G : xG} (hap : xAp xYc G) (r : Int32) (v : Int32) (S : xS) (g_r : vp_in r 8) : xMv l xYc G yJ7_fill_53178 wsJ7_fill_53178 0 0 [.ref (G.2.2 32 r), .int v] S (fJ7_fill_53178 r v S) := by
  refine xMv_of (cc := cJ7_fill_53178) (maxL := 4) (own := RJ7) [some (.ref (G.2.2 32 r)), some (.int v), none, none] pnJ7 rfl rfl (xcat1 rfl) (Nat.le_of_ble_eq_true rfl) rfl hap (fun F C V E => ?_)
  refine xg_iconst C dJ7_fill_53178_0 (v := (0 : Int32)) (by decide) ?_
  refine xg_istore_n C dJ7_fill_53178_1 (by decide) (L' := [some (.ref (G.2.2 32 r)), some (.int v), some (.int (0 : Int32)), none]) rfl ?_
  refine xg_aload_n C dJ7_fill_53178_2 rfl ?_
  refine xg_alen C V (f := 32) (n := 8) (N := 8) rfl (xR_8 (by decide) (by assumption)) (v := (8 : Int32)) (by decide) dJ7_fill_53178_3 ?_
  refine xg_istore_n C dJ7_fill_53178_4 (by decide) (L' := [some (.ref (G.2.2 32 r)), some (.int v), some (.int (0 : Int32)), some (.int (8 : Int32))]) rfl ?_
  refine xloop (fun (ii : Int32) (x : xS) => xg F 0 0 5 [some (.ref (G.2.2 32 r)), some (.int v), some (.int ii), some (.int (8 : Int32))] [] (xP xYc G x)) (bJ7_fill_53178_5 r v) 8 S (fun i hi x K => ?_) ?_
  · have hi8 : vp_in (nI i) 8 := vp_in_nI hi (by decide)
    show xg F 0 0 5 [some (.ref (G.2.2 32 r)), some (.int v), some (.int (nI i)), some (.int (8 : Int32))] [] (xP xYc G x)
    refine xg_iload_n C dJ7_fill_53178_5 rfl ?_
    refine xg_iload_n C dJ7_fill_53178_6 rfl ?_
    refine xg_icmp_ge C 20 dJ7_fill_53178_7 (by decide) (fun h1 => absurd h1 (nI_ge hi (by decide))) (fun h1 => ?_)
    refine xg_aload_n C dJ7_fill_53178_10 rfl ?_
    refine xg_iload_n C dJ7_fill_53178_11 rfl ?_
    refine xg_iload_n C dJ7_fill_53178_12 rfl ?_
    refine xg_iast C V (f := 32) (n := 8) (N := 8) rfl (by decide) (xR_8 (by decide) (by assumption)) (by assumption) dJ7_fill_53178_13 ?_
    refine xg_iinc C dJ7_fill_53178_14 rfl (v := (nI (i + 1))) (xinc i) (by decide) (L' := [some (.ref (G.2.2 32 r)), some (.int v), some (.int (nI (i + 1))), some (.int (8 : Int32))]) rfl ?_
    refine xg_goto C 5 dJ7_fill_53178_17 (by decide) ?_
    have e : (bJ7_fill_53178_5 r v) (nI i) x = (xu x 32 r (nI i) v) := rfl
    rw [e] at K
    exact xg_le K ⟨rfl, rfl, rfl, rfl, trivial⟩
  · show xg F 0 0 5 [some (.ref (G.2.2 32 r)), some (.int v), some (.int (nI 8)), some (.int (8 : Int32))] [] (xP xYc G (xfold (bJ7_fill_53178_5 r v) 8 S))
    refine xg_iload_n C dJ7_fill_53178_5 rfl ?_
    refine xg_iload_n C dJ7_fill_53178_6 rfl ?_
    refine xg_icmp_ge C 20 dJ7_fill_53178_7 (by decide) (fun h2 => ?_) (fun h2 => absurd (nI_le (Nat.le_refl _) (by decide)) h2)
    exact xret_v E dJ7_fill_53178_20 (rfl)
theorem iX3_comeUp_X3 : ∀ w ∈ wsX30, w ∈ wsX3_comeUp := by decide +kernel
theorem qX3_comeUp_26 : xFr wsX3_comeUp RX3 26 RX3 TX3 4 2 := ⟨iX3_comeUp_X3, List.mem_of_getElem? (i := 3) rfl, by decide⟩
theorem iX3_comeUp_X1 : ∀ w ∈ wsX10, w ∈ wsX3_comeUp := by decide +kernel
theorem qX3_comeUp_103 : xFr wsX3_comeUp RX3 103 RX1 TX1 12 0 := ⟨iX3_comeUp_X1, List.mem_of_getElem? (i := 4) rfl, by decide⟩
theorem qX3_comeUp_110 : xFr wsX3_comeUp RX3 110 RX1 TX1 12 7 := ⟨iX3_comeUp_X1, List.mem_of_getElem? (i := 5) rfl, by decide⟩
theorem qX3_comeUp_30 : xFr wsX3_comeUp RX3 30 RX3 TX3 4 3 := ⟨iX3_comeUp_X3, List.mem_of_getElem? (i := 6) rfl, by decide⟩
def fX3_comeUp (a1 : Int32) (S : xS) : xS :=
  (fJ7_fill_53178 a1 (S 0 0 (nI 3)) (xu S 19 0 a1 (0 : Int32)))
theorem hdX3_comeUp : yX3_comeUp.cls = RX3 ∧ yX3_comeUp.cls ≠ "java/lang/invoke/MethodHandle" ∧ yX3_comeUp.cls ≠ "java/lang/invoke/VarHandle" ∧ (parseMethodDescriptor yX3_comeUp.desc).map (fun d => d.parameters.length) = some 1 := by decide +kernel
set_option maxRecDepth 100000 in
set_option maxHeartbeats 4000000 in
theorem kX3_comeUp (l : Launch) {G : xG} (hap : xAp xYc G) (a1 : Int32) (S : xS) (g_a1 : vp_in a1 8) (hd : ¬ S 19 0 a1 = (0 : Int32)) : xMv l xYc G yX3_comeUp wsX3_comeUp 2 42 [.ref (G.2.2 0 0), .int a1] S (fX3_comeUp a1 S) := by
  refine xMv_of (cc := cX3_comeUp) (maxL := 2) (own := RX3) [some (.ref (G.2.2 0 0)), some (.int a1)] pnX3 rfl rfl (xcat1 rfl) (Nat.le_of_ble_eq_true rfl) rfl hap (fun F C V E => ?_)
  refine xg_iload_n C dX3_comeUp_0 rfl ?_
  refine xg_callSv C V (as := [.int a1]) (fun l => kX3_requireNumber l hap a1 S (by assumption)) gX3_comeUp_X3_requireNumber rfl hdX3_requireNumber ⟨by decide, by decide⟩ rfl rfl (Nat.le_of_ble_eq_true rfl) ⟨Nat.zero_le _, Nat.zero_le _⟩ dX3_comeUp_1 ?_
  refine xg_aload_n C dX3_comeUp_4 rfl ?_
  refine xg_getR C V (f := 0) qX3_comeUp_26 rfl rfl rfl dX3_comeUp_5 ?_
  refine xg_getR C V (f := 3) qX3_comeUp_103 rfl rfl rfl dX3_comeUp_8 ?_
  refine xg_iload_n C dX3_comeUp_11 rfl ?_
  refine xg_zald C V (f := 19) (n := 1) (N := 8) rfl (by decide) (xR_0 (by decide)) (by assumption) dX3_comeUp_12 (v := (S 19 0 a1)) rfl ?_
  refine xg_if_ne C 26 dX3_comeUp_13 (by decide) (fun h1 => ?_) (fun h1 => by contradiction)
  refine xg_aload_n C dX3_comeUp_26 rfl ?_
  refine xg_getR C V (f := 0) qX3_comeUp_26 rfl rfl rfl dX3_comeUp_27 ?_
  refine xg_getR C V (f := 3) qX3_comeUp_103 rfl rfl rfl dX3_comeUp_30 ?_
  refine xg_iload_n C dX3_comeUp_33 rfl ?_
  refine xg_iconst C dX3_comeUp_34 (v := (0 : Int32)) (by decide) ?_
  refine xg_zast C V (f := 19) (n := 1) (N := 8) rfl (by decide) (xR_0 (by decide)) (by assumption) rfl dX3_comeUp_35 ?_
  refine xg_aload_n C dX3_comeUp_36 rfl ?_
  refine xg_getR C V (f := 0) qX3_comeUp_26 rfl rfl rfl dX3_comeUp_37 ?_
  refine xg_getR C V (f := 3) qX3_comeUp_110 rfl rfl rfl dX3_comeUp_40 ?_
  refine xg_iload_n C dX3_comeUp_43 rfl ?_
  refine xg_aald C V (f := 26) (b := 32) rfl (by assumption) dX3_comeUp_44 ?_
  refine xg_aload_n C dX3_comeUp_45 rfl ?_
  refine xg_getI C V (f := 0) qX3_comeUp_30 rfl rfl rfl dX3_comeUp_46 (v := (S 0 0 (nI 3))) (xu_ne (by decide)) ?_
  refine xg_callSv C V (as := [.ref (G.2.2 32 a1), .int (S 0 0 (nI 3))]) (fun l => kJ7_fill_53178 l hap a1 (S 0 0 (nI 3)) (xu S 19 0 a1 (0 : Int32)) (by assumption)) gX3_comeUp_J7_fill_53178 rfl hdJ7_fill_53178 ⟨by decide, by decide⟩ rfl rfl (Nat.le_of_ble_eq_true rfl) ⟨Nat.zero_le _, Nat.zero_le _⟩ dX3_comeUp_49 ?_
  exact xret_v E dX3_comeUp_52 (rfl)
theorem iX3_setGroup_X3 : ∀ w ∈ wsX30, w ∈ wsX3_setGroup := by decide +kernel
theorem qX3_setGroup_26 : xFr wsX3_setGroup RX3 26 RX3 TX3 4 2 := ⟨iX3_setGroup_X3, List.mem_of_getElem? (i := 1) rfl, by decide⟩
theorem iX3_setGroup_X1 : ∀ w ∈ wsX10, w ∈ wsX3_setGroup := by decide +kernel
theorem qX3_setGroup_120 : xFr wsX3_setGroup RX3 120 RX1 TX1 12 2 := ⟨iX3_setGroup_X1, List.mem_of_getElem? (i := 2) rfl, by decide⟩
def fX3_setGroup (a1 : Int32) (a2 : Int32) (S : xS) : xS × Int32 :=
  ((xu S 21 0 a1 a2), (S 21 0 a1))
theorem hdX3_setGroup : yX3_setGroup.cls = RX3 ∧ yX3_setGroup.cls ≠ "java/lang/invoke/MethodHandle" ∧ yX3_setGroup.cls ≠ "java/lang/invoke/VarHandle" ∧ (parseMethodDescriptor yX3_setGroup.desc).map (fun d => d.parameters.length) = some 2 := by decide +kernel
set_option maxRecDepth 100000 in
set_option maxHeartbeats 4000000 in
theorem kX3_setGroup (l : Launch) {G : xG} (hap : xAp xYc G) (a1 : Int32) (a2 : Int32) (S : xS) (g_a1 : vp_in a1 8) (v1 : ¬ a2 < (0 : Int32)) (w1 : a2 ≤ (3 : Int32)) : xMi l xYc G yX3_setGroup wsX3_setGroup 2 42 [.ref (G.2.2 0 0), .int a1, .int a2] S (fX3_setGroup a1 a2 S).1 (fX3_setGroup a1 a2 S).2 := by
  refine xMi_of (cc := cX3_setGroup) (maxL := 4) (ty := .int) (own := RX3) [some (.ref (G.2.2 0 0)), some (.int a1), some (.int a2), none] pnX3 rfl rfl rfl (xcat1 rfl) (Nat.le_of_ble_eq_true rfl) rfl hap (fun F C V E => ?_)
  refine xg_iload_n C dX3_setGroup_0 rfl ?_
  refine xg_callSv C V (as := [.int a1]) (fun l => kX3_requireNumber l hap a1 S (by assumption)) gX3_setGroup_X3_requireNumber rfl hdX3_requireNumber ⟨by decide, by decide⟩ rfl rfl (Nat.le_of_ble_eq_true rfl) ⟨Nat.zero_le _, Nat.zero_le _⟩ dX3_setGroup_1 ?_
  refine xg_iload_n C dX3_setGroup_4 rfl ?_
  refine xg_iconst C dX3_setGroup_5 (v := (0 : Int32)) (by decide) ?_
  refine xg_iconst C dX3_setGroup_6 (v := (3 : Int32)) (by decide) ?_
  refine xg_callSv C V (as := [.int a2, .int (0 : Int32), .int (3 : Int32)]) (fun l => kX3_requireWithin l hap a2 (0 : Int32) (3 : Int32) S (by first | assumption | exact xnum1 (by assumption)) (by first | assumption | exact xnum2 (by assumption))) gX3_setGroup_X3_requireWithin rfl hdX3_requireWithin ⟨by decide, by decide⟩ rfl rfl (Nat.le_of_ble_eq_true rfl) ⟨Nat.zero_le _, Nat.zero_le _⟩ dX3_setGroup_7 ?_
  refine xg_aload_n C dX3_setGroup_10 rfl ?_
  refine xg_getR C V (f := 0) qX3_setGroup_26 rfl rfl rfl dX3_setGroup_11 ?_
  refine xg_getR C V (f := 3) qX3_setGroup_120 rfl rfl rfl dX3_setGroup_14 ?_
  refine xg_iload_n C dX3_setGroup_17 rfl ?_
  refine xg_iald C V (f := 21) (n := 1) (N := 8) rfl (by decide) (xR_0 (by decide)) (by assumption) dX3_setGroup_18 (v := (S 21 0 a1)) rfl ?_
  refine xg_istore_n C dX3_setGroup_19 (by decide) (L' := [some (.ref (G.2.2 0 0)), some (.int a1), some (.int a2), some (.int (S 21 0 a1))]) rfl ?_
  refine xg_aload_n C dX3_setGroup_20 rfl ?_
  refine xg_getR C V (f := 0) qX3_setGroup_26 rfl rfl rfl dX3_setGroup_21 ?_
  refine xg_getR C V (f := 3) qX3_setGroup_120 rfl rfl rfl dX3_setGroup_24 ?_
  refine xg_iload_n C dX3_setGroup_27 rfl ?_
  refine xg_iload_n C dX3_setGroup_28 rfl ?_
  refine xg_iast C V (f := 21) (n := 1) (N := 8) rfl (by decide) (xR_0 (by decide)) (by assumption) dX3_setGroup_29 ?_
  refine xg_iload_n C dX3_setGroup_30 rfl ?_
  have e : (fX3_setGroup a1 a2 S) = ((xu S 21 0 a1 a2), (S 21 0 a1)) := rfl
  exact xret_i E dX3_setGroup_31 (xsnd e) (xfst e)
theorem iX3_setStuck_X3 : ∀ w ∈ wsX30, w ∈ wsX3_setStuck := by decide +kernel
theorem qX3_setStuck_26 : xFr wsX3_setStuck RX3 26 RX3 TX3 4 2 := ⟨iX3_setStuck_X3, List.mem_of_getElem? (i := 1) rfl, by decide⟩
theorem iX3_setStuck_X1 : ∀ w ∈ wsX10, w ∈ wsX3_setStuck := by decide +kernel
theorem qX3_setStuck_123 : xFr wsX3_setStuck RX3 123 RX1 TX1 12 1 := ⟨iX3_setStuck_X1, List.mem_of_getElem? (i := 2) rfl, by decide⟩
def fX3_setStuck (a1 : Int32) (a2 : Int32) (S : xS) : xS × Int32 :=
  ((xu S 20 0 a1 a2), (S 20 0 a1))
theorem hdX3_setStuck : yX3_setStuck.cls = RX3 ∧ yX3_setStuck.cls ≠ "java/lang/invoke/MethodHandle" ∧ yX3_setStuck.cls ≠ "java/lang/invoke/VarHandle" ∧ (parseMethodDescriptor yX3_setStuck.desc).map (fun d => d.parameters.length) = some 2 := by decide +kernel
set_option maxRecDepth 100000 in
set_option maxHeartbeats 4000000 in
theorem kX3_setStuck (l : Launch) {G : xG} (hap : xAp xYc G) (a1 : Int32) (a2 : Int32) (S : xS) (g_a1 : vp_in a1 8) (hz : narrow .boolean (.int (S 20 0 a1)) = .int (S 20 0 a1)) (hb : narrow .boolean (.int a2) = .int a2) : xMi l xYc G yX3_setStuck wsX3_setStuck 2 42 [.ref (G.2.2 0 0), .int a1, .int a2] S (fX3_setStuck a1 a2 S).1 (fX3_setStuck a1 a2 S).2 := by
  refine xMi_of (cc := cX3_setStuck) (maxL := 4) (ty := .boolean) (own := RX3) [some (.ref (G.2.2 0 0)), some (.int a1), some (.int a2), none] pnX3 rfl rfl hz (xcat1 rfl) (Nat.le_of_ble_eq_true rfl) rfl hap (fun F C V E => ?_)
  refine xg_iload_n C dX3_setStuck_0 rfl ?_
  refine xg_callSv C V (as := [.int a1]) (fun l => kX3_requireNumber l hap a1 S (by assumption)) gX3_setStuck_X3_requireNumber rfl hdX3_requireNumber ⟨by decide, by decide⟩ rfl rfl (Nat.le_of_ble_eq_true rfl) ⟨Nat.zero_le _, Nat.zero_le _⟩ dX3_setStuck_1 ?_
  refine xg_aload_n C dX3_setStuck_4 rfl ?_
  refine xg_getR C V (f := 0) qX3_setStuck_26 rfl rfl rfl dX3_setStuck_5 ?_
  refine xg_getR C V (f := 3) qX3_setStuck_123 rfl rfl rfl dX3_setStuck_8 ?_
  refine xg_iload_n C dX3_setStuck_11 rfl ?_
  refine xg_zald C V (f := 20) (n := 1) (N := 8) rfl (by decide) (xR_0 (by decide)) (by assumption) dX3_setStuck_12 (v := (S 20 0 a1)) rfl ?_
  refine xg_istore_n C dX3_setStuck_13 (by decide) (L' := [some (.ref (G.2.2 0 0)), some (.int a1), some (.int a2), some (.int (S 20 0 a1))]) rfl ?_
  refine xg_aload_n C dX3_setStuck_14 rfl ?_
  refine xg_getR C V (f := 0) qX3_setStuck_26 rfl rfl rfl dX3_setStuck_15 ?_
  refine xg_getR C V (f := 3) qX3_setStuck_123 rfl rfl rfl dX3_setStuck_18 ?_
  refine xg_iload_n C dX3_setStuck_21 rfl ?_
  refine xg_iload_n C dX3_setStuck_22 rfl ?_
  refine xg_zast C V (f := 20) (n := 1) (N := 8) rfl (by decide) (xR_0 (by decide)) (by assumption) hb dX3_setStuck_23 ?_
  refine xg_iload_n C dX3_setStuck_24 rfl ?_
  have e : (fX3_setStuck a1 a2 S) = ((xu S 20 0 a1 a2), (S 20 0 a1)) := rfl
  exact xret_i E dX3_setStuck_25 (xsnd e) (xfst e)
theorem iX3_setTimes_X3 : ∀ w ∈ wsX30, w ∈ wsX3_setTimes := by decide +kernel
theorem qX3_setTimes_26 : xFr wsX3_setTimes RX3 26 RX3 TX3 4 2 := ⟨iX3_setTimes_X3, List.mem_of_getElem? (i := 1) rfl, by decide⟩
theorem iX3_setTimes_X1 : ∀ w ∈ wsX10, w ∈ wsX3_setTimes := by decide +kernel
theorem qX3_setTimes_126 : xFr wsX3_setTimes RX3 126 RX1 TX1 12 9 := ⟨iX3_setTimes_X1, List.mem_of_getElem? (i := 2) rfl, by decide⟩
theorem qX3_setTimes_129 : xFr wsX3_setTimes RX3 129 RX1 TX1 12 10 := ⟨iX3_setTimes_X1, List.mem_of_getElem? (i := 3) rfl, by decide⟩
def fX3_setTimes (a1 : Int32) (a2 : Int32) (S : xS) : xS :=
  (xu (xu S 3 0 (nI 9) a1) 3 0 (nI 10) a2)
theorem hdX3_setTimes : yX3_setTimes.cls = RX3 ∧ yX3_setTimes.cls ≠ "java/lang/invoke/MethodHandle" ∧ yX3_setTimes.cls ≠ "java/lang/invoke/VarHandle" ∧ (parseMethodDescriptor yX3_setTimes.desc).map (fun d => d.parameters.length) = some 2 := by decide +kernel
set_option maxRecDepth 100000 in
set_option maxHeartbeats 4000000 in
theorem kX3_setTimes (l : Launch) {G : xG} (hap : xAp xYc G) (a1 : Int32) (a2 : Int32) (S : xS) (v1 : ¬ a1 < (1 : Int32)) (w1 : a1 ≤ (50 : Int32)) (v2 : ¬ a2 < a1) (w2 : a2 ≤ (100 : Int32)) : xMv l xYc G yX3_setTimes wsX3_setTimes 1 22 [.ref (G.2.2 0 0), .int a1, .int a2] S (fX3_setTimes a1 a2 S) := by
  refine xMv_of (cc := cX3_setTimes) (maxL := 3) (own := RX3) [some (.ref (G.2.2 0 0)), some (.int a1), some (.int a2)] pnX3 rfl rfl (xcat1 rfl) (Nat.le_of_ble_eq_true rfl) rfl hap (fun F C V E => ?_)
  refine xg_iload_n C dX3_setTimes_0 rfl ?_
  refine xg_iconst C dX3_setTimes_1 (v := (1 : Int32)) (by decide) ?_
  refine xg_bipush C dX3_setTimes_2 (v := (50 : Int32)) (by decide) ?_
  refine xg_callSv C V (as := [.int a1, .int (1 : Int32), .int (50 : Int32)]) (fun l => kX3_requireWithin l hap a1 (1 : Int32) (50 : Int32) S (by first | assumption | exact xnum1 (by assumption)) (by first | assumption | exact xnum2 (by assumption))) gX3_setTimes_X3_requireWithin rfl hdX3_requireWithin ⟨by decide, by decide⟩ rfl rfl (Nat.le_of_ble_eq_true rfl) ⟨Nat.zero_le _, Nat.zero_le _⟩ dX3_setTimes_4 ?_
  refine xg_iload_n C dX3_setTimes_7 rfl ?_
  refine xg_iload_n C dX3_setTimes_8 rfl ?_
  refine xg_bipush C dX3_setTimes_9 (v := (100 : Int32)) (by decide) ?_
  refine xg_callSv C V (as := [.int a2, .int a1, .int (100 : Int32)]) (fun l => kX3_requireWithin l hap a2 a1 (100 : Int32) S (by first | assumption | exact xnum1 (by assumption)) (by first | assumption | exact xnum2 (by assumption))) gX3_setTimes_X3_requireWithin rfl hdX3_requireWithin ⟨by decide, by decide⟩ rfl rfl (Nat.le_of_ble_eq_true rfl) ⟨Nat.zero_le _, Nat.zero_le _⟩ dX3_setTimes_11 ?_
  refine xg_aload_n C dX3_setTimes_14 rfl ?_
  refine xg_getR C V (f := 0) qX3_setTimes_26 rfl rfl rfl dX3_setTimes_15 ?_
  refine xg_iload_n C dX3_setTimes_18 rfl ?_
  refine xg_putI C V (f := 3) qX3_setTimes_126 rfl (by decide) rfl rfl tyX1_ok nmX1 rfl rfl dX3_setTimes_19 ?_
  refine xg_aload_n C dX3_setTimes_22 rfl ?_
  refine xg_getR C V (f := 0) qX3_setTimes_26 rfl rfl rfl dX3_setTimes_23 ?_
  refine xg_iload_n C dX3_setTimes_26 rfl ?_
  refine xg_putI C V (f := 3) qX3_setTimes_129 rfl (by decide) rfl rfl tyX1_ok nmX1 rfl rfl dX3_setTimes_27 ?_
  exact xret_v E dX3_setTimes_30 (rfl)
theorem iX3_believed_X3 : ∀ w ∈ wsX30, w ∈ wsX3_believed := by decide +kernel
theorem qX3_believed_26 : xFr wsX3_believed RX3 26 RX3 TX3 4 2 := ⟨iX3_believed_X3, List.mem_of_getElem? (i := 1) rfl, by decide⟩
theorem iX3_believed_X1 : ∀ w ∈ wsX10, w ∈ wsX3_believed := by decide +kernel
theorem qX3_believed_136 : xFr wsX3_believed RX3 136 RX1 TX1 12 4 := ⟨iX3_believed_X1, List.mem_of_getElem? (i := 2) rfl, by decide⟩
def fX3_believed (a1 : Int32) (a2 : Int32) (S : xS) : Int32 :=
  if (fX1_hasNews a1 a2 S) = (0 : Int32) then
    (-1 : Int32)
  else
    (S 29 a1 a2)
theorem hdX3_believed : yX3_believed.cls = RX3 ∧ yX3_believed.cls ≠ "java/lang/invoke/MethodHandle" ∧ yX3_believed.cls ≠ "java/lang/invoke/VarHandle" ∧ (parseMethodDescriptor yX3_believed.desc).map (fun d => d.parameters.length) = some 2 := by decide +kernel
set_option maxRecDepth 100000 in
set_option maxHeartbeats 4000000 in
theorem kX3_believed (l : Launch) {G : xG} (hap : xAp xYc G) (a1 : Int32) (a2 : Int32) (S : xS) (g_a1 : vp_in a1 8) (g_a2 : vp_in a2 8) : xMi l xYc G yX3_believed wsX3_believed 2 42 [.ref (G.2.2 0 0), .int a1, .int a2] S S (fX3_believed a1 a2 S) := by
  refine xMi_of (cc := cX3_believed) (maxL := 3) (ty := .int) (own := RX3) [some (.ref (G.2.2 0 0)), some (.int a1), some (.int a2)] pnX3 rfl rfl rfl (xcat1 rfl) (Nat.le_of_ble_eq_true rfl) rfl hap (fun F C V E => ?_)
  refine xg_iload_n C dX3_believed_0 rfl ?_
  refine xg_callSv C V (as := [.int a1]) (fun l => kX3_requireNumber l hap a1 S (by assumption)) gX3_believed_X3_requireNumber rfl hdX3_requireNumber ⟨by decide, by decide⟩ rfl rfl (Nat.le_of_ble_eq_true rfl) ⟨Nat.zero_le _, Nat.zero_le _⟩ dX3_believed_1 ?_
  refine xg_iload_n C dX3_believed_4 rfl ?_
  refine xg_callSv C V (as := [.int a2]) (fun l => kX3_requireNumber l hap a2 S (by assumption)) gX3_believed_X3_requireNumber rfl hdX3_requireNumber ⟨by decide, by decide⟩ rfl rfl (Nat.le_of_ble_eq_true rfl) ⟨Nat.zero_le _, Nat.zero_le _⟩ dX3_believed_5 ?_
  refine xg_aload_n C dX3_believed_8 rfl ?_
  refine xg_getR C V (f := 0) qX3_believed_26 rfl rfl rfl dX3_believed_9 ?_
  refine xg_iload_n C dX3_believed_12 rfl ?_
  refine xg_iload_n C dX3_believed_13 rfl ?_
  refine xg_callVi C V (f := 3) (As := [.int a1, .int a2]) (r := (fX1_hasNews a1 a2 S)) (fun l => kX1_hasNews l hap a1 a2 S (by assumption) (by assumption)) gX3_believed_X1_hasNews rfl hdX1_hasNews ⟨by decide, by decide⟩ rfl rfl rfl rfl rfl (Nat.le_of_ble_eq_true rfl) ⟨Nat.zero_le _, Nat.zero_le _⟩ dX3_believed_14 ?_
  refine xg_if_eq C 34 dX3_believed_17 (by decide) (fun h1 => ?_) (fun h1 => ?_)
  · refine xg_iconst C dX3_believed_34 (v := (-1 : Int32)) (by decide) ?_
    exact xret_i E dX3_believed_35 (by first | (rw [fX3_believed, if_pos h1]; done) | (rw [fX3_believed, if_pos h1]; rfl)) rfl
  · refine xg_aload_n C dX3_believed_20 rfl ?_
    refine xg_getR C V (f := 0) qX3_believed_26 rfl rfl rfl dX3_believed_21 ?_
    refine xg_getR C V (f := 3) qX3_believed_136 rfl rfl rfl dX3_believed_24 ?_
    refine xg_iload_n C dX3_believed_27 rfl ?_
    refine xg_aald C V (f := 23) (b := 29) rfl (by assumption) dX3_believed_28 ?_
    refine xg_iload_n C dX3_believed_29 rfl ?_
    refine xg_iald C V (f := 29) (n := 8) (N := 8) rfl (by decide) (xR_8 (by decide) (by assumption)) (by assumption) dX3_believed_30 (v := (S 29 a1 a2)) rfl ?_
    refine xg_goto C 35 dX3_believed_31 (by decide) ?_
    exact xret_i E dX3_believed_35 (by first | (rw [fX3_believed, if_neg h1]; done) | (rw [fX3_believed, if_neg h1]; rfl)) rfl
theorem iX3_version_X3 : ∀ w ∈ wsX30, w ∈ wsX3_version := by decide +kernel
theorem qX3_version_26 : xFr wsX3_version RX3 26 RX3 TX3 4 2 := ⟨iX3_version_X3, List.mem_of_getElem? (i := 1) rfl, by decide⟩
theorem iX3_version_X1 : ∀ w ∈ wsX10, w ∈ wsX3_version := by decide +kernel
theorem qX3_version_139 : xFr wsX3_version RX3 139 RX1 TX1 12 3 := ⟨iX3_version_X1, List.mem_of_getElem? (i := 2) rfl, by decide⟩
def fX3_version (a1 : Int32) (a2 : Int32) (S : xS) : Int32 :=
  (S 28 a1 a2)
theorem hdX3_version : yX3_version.cls = RX3 ∧ yX3_version.cls ≠ "java/lang/invoke/MethodHandle" ∧ yX3_version.cls ≠ "java/lang/invoke/VarHandle" ∧ (parseMethodDescriptor yX3_version.desc).map (fun d => d.parameters.length) = some 2 := by decide +kernel
set_option maxRecDepth 100000 in
set_option maxHeartbeats 4000000 in
theorem kX3_version (l : Launch) {G : xG} (hap : xAp xYc G) (a1 : Int32) (a2 : Int32) (S : xS) (g_a1 : vp_in a1 8) (g_a2 : vp_in a2 8) : xMi l xYc G yX3_version wsX3_version 2 42 [.ref (G.2.2 0 0), .int a1, .int a2] S S (fX3_version a1 a2 S) := by
  refine xMi_of (cc := cX3_version) (maxL := 3) (ty := .int) (own := RX3) [some (.ref (G.2.2 0 0)), some (.int a1), some (.int a2)] pnX3 rfl rfl rfl (xcat1 rfl) (Nat.le_of_ble_eq_true rfl) rfl hap (fun F C V E => ?_)
  refine xg_iload_n C dX3_version_0 rfl ?_
  refine xg_callSv C V (as := [.int a1]) (fun l => kX3_requireNumber l hap a1 S (by assumption)) gX3_version_X3_requireNumber rfl hdX3_requireNumber ⟨by decide, by decide⟩ rfl rfl (Nat.le_of_ble_eq_true rfl) ⟨Nat.zero_le _, Nat.zero_le _⟩ dX3_version_1 ?_
  refine xg_iload_n C dX3_version_4 rfl ?_
  refine xg_callSv C V (as := [.int a2]) (fun l => kX3_requireNumber l hap a2 S (by assumption)) gX3_version_X3_requireNumber rfl hdX3_requireNumber ⟨by decide, by decide⟩ rfl rfl (Nat.le_of_ble_eq_true rfl) ⟨Nat.zero_le _, Nat.zero_le _⟩ dX3_version_5 ?_
  refine xg_aload_n C dX3_version_8 rfl ?_
  refine xg_getR C V (f := 0) qX3_version_26 rfl rfl rfl dX3_version_9 ?_
  refine xg_getR C V (f := 3) qX3_version_139 rfl rfl rfl dX3_version_12 ?_
  refine xg_iload_n C dX3_version_15 rfl ?_
  refine xg_aald C V (f := 22) (b := 28) rfl (by assumption) dX3_version_16 ?_
  refine xg_iload_n C dX3_version_17 rfl ?_
  refine xg_iald C V (f := 28) (n := 8) (N := 8) rfl (by decide) (xR_8 (by decide) (by assumption)) (by assumption) dX3_version_18 (v := (S 28 a1 a2)) rfl ?_
  exact xret_i E dX3_version_19 (rfl) rfl
theorem iX3_age_X3 : ∀ w ∈ wsX30, w ∈ wsX3_age := by decide +kernel
theorem qX3_age_26 : xFr wsX3_age RX3 26 RX3 TX3 4 2 := ⟨iX3_age_X3, List.mem_of_getElem? (i := 1) rfl, by decide⟩
theorem qX3_age_30 : xFr wsX3_age RX3 30 RX3 TX3 4 3 := ⟨iX3_age_X3, List.mem_of_getElem? (i := 2) rfl, by decide⟩
theorem iX3_age_X1 : ∀ w ∈ wsX10, w ∈ wsX3_age := by decide +kernel
theorem qX3_age_142 : xFr wsX3_age RX3 142 RX1 TX1 12 5 := ⟨iX3_age_X1, List.mem_of_getElem? (i := 3) rfl, by decide⟩
def fX3_age (a1 : Int32) (a2 : Int32) (S : xS) : Int32 :=
  if (fX1_hasNews a1 a2 S) = (0 : Int32) then
    (-1 : Int32)
  else
    ((S 0 0 (nI 3)) - (S 30 a1 a2))
theorem hdX3_age : yX3_age.cls = RX3 ∧ yX3_age.cls ≠ "java/lang/invoke/MethodHandle" ∧ yX3_age.cls ≠ "java/lang/invoke/VarHandle" ∧ (parseMethodDescriptor yX3_age.desc).map (fun d => d.parameters.length) = some 2 := by decide +kernel
set_option maxRecDepth 100000 in
set_option maxHeartbeats 4000000 in
theorem kX3_age (l : Launch) {G : xG} (hap : xAp xYc G) (a1 : Int32) (a2 : Int32) (S : xS) (g_a1 : vp_in a1 8) (g_a2 : vp_in a2 8) : xMi l xYc G yX3_age wsX3_age 2 42 [.ref (G.2.2 0 0), .int a1, .int a2] S S (fX3_age a1 a2 S) := by
  refine xMi_of (cc := cX3_age) (maxL := 3) (ty := .int) (own := RX3) [some (.ref (G.2.2 0 0)), some (.int a1), some (.int a2)] pnX3 rfl rfl rfl (xcat1 rfl) (Nat.le_of_ble_eq_true rfl) rfl hap (fun F C V E => ?_)
  refine xg_iload_n C dX3_age_0 rfl ?_
  refine xg_callSv C V (as := [.int a1]) (fun l => kX3_requireNumber l hap a1 S (by assumption)) gX3_age_X3_requireNumber rfl hdX3_requireNumber ⟨by decide, by decide⟩ rfl rfl (Nat.le_of_ble_eq_true rfl) ⟨Nat.zero_le _, Nat.zero_le _⟩ dX3_age_1 ?_
  refine xg_iload_n C dX3_age_4 rfl ?_
  refine xg_callSv C V (as := [.int a2]) (fun l => kX3_requireNumber l hap a2 S (by assumption)) gX3_age_X3_requireNumber rfl hdX3_requireNumber ⟨by decide, by decide⟩ rfl rfl (Nat.le_of_ble_eq_true rfl) ⟨Nat.zero_le _, Nat.zero_le _⟩ dX3_age_5 ?_
  refine xg_aload_n C dX3_age_8 rfl ?_
  refine xg_getR C V (f := 0) qX3_age_26 rfl rfl rfl dX3_age_9 ?_
  refine xg_iload_n C dX3_age_12 rfl ?_
  refine xg_iload_n C dX3_age_13 rfl ?_
  refine xg_callVi C V (f := 3) (As := [.int a1, .int a2]) (r := (fX1_hasNews a1 a2 S)) (fun l => kX1_hasNews l hap a1 a2 S (by assumption) (by assumption)) gX3_age_X1_hasNews rfl hdX1_hasNews ⟨by decide, by decide⟩ rfl rfl rfl rfl rfl (Nat.le_of_ble_eq_true rfl) ⟨Nat.zero_le _, Nat.zero_le _⟩ dX3_age_14 ?_
  refine xg_if_eq C 39 dX3_age_17 (by decide) (fun h1 => ?_) (fun h1 => ?_)
  · refine xg_iconst C dX3_age_39 (v := (-1 : Int32)) (by decide) ?_
    exact xret_i E dX3_age_40 (by first | (rw [fX3_age, if_pos h1]; done) | (rw [fX3_age, if_pos h1]; rfl)) rfl
  · refine xg_aload_n C dX3_age_20 rfl ?_
    refine xg_getI C V (f := 0) qX3_age_30 rfl rfl rfl dX3_age_21 (v := (S 0 0 (nI 3))) rfl ?_
    refine xg_aload_n C dX3_age_24 rfl ?_
    refine xg_getR C V (f := 0) qX3_age_26 rfl rfl rfl dX3_age_25 ?_
    refine xg_getR C V (f := 3) qX3_age_142 rfl rfl rfl dX3_age_28 ?_
    refine xg_iload_n C dX3_age_31 rfl ?_
    refine xg_aald C V (f := 24) (b := 30) rfl (by assumption) dX3_age_32 ?_
    refine xg_iload_n C dX3_age_33 rfl ?_
    refine xg_iald C V (f := 30) (n := 8) (N := 8) rfl (by decide) (xR_8 (by decide) (by assumption)) (by assumption) dX3_age_34 (v := (S 30 a1 a2)) rfl ?_
    refine xg_isub C dX3_age_35 ?_
    refine xg_goto C 40 dX3_age_36 (by decide) ?_
    exact xret_i E dX3_age_40 (by first | (rw [fX3_age, if_neg h1]; done) | (rw [fX3_age, if_neg h1]; rfl)) rfl
theorem iX3_beat_X3 : ∀ w ∈ wsX30, w ∈ wsX3_beat := by decide +kernel
theorem qX3_beat_26 : xFr wsX3_beat RX3 26 RX3 TX3 4 2 := ⟨iX3_beat_X3, List.mem_of_getElem? (i := 1) rfl, by decide⟩
theorem iX3_beat_X1 : ∀ w ∈ wsX10, w ∈ wsX3_beat := by decide +kernel
theorem qX3_beat_145 : xFr wsX3_beat RX3 145 RX1 TX1 12 6 := ⟨iX3_beat_X1, List.mem_of_getElem? (i := 2) rfl, by decide⟩
def fX3_beat (a1 : Int32) (a2 : Int32) (S : xS) : Int32 :=
  (S 31 a1 a2)
theorem hdX3_beat : yX3_beat.cls = RX3 ∧ yX3_beat.cls ≠ "java/lang/invoke/MethodHandle" ∧ yX3_beat.cls ≠ "java/lang/invoke/VarHandle" ∧ (parseMethodDescriptor yX3_beat.desc).map (fun d => d.parameters.length) = some 2 := by decide +kernel
set_option maxRecDepth 100000 in
set_option maxHeartbeats 4000000 in
theorem kX3_beat (l : Launch) {G : xG} (hap : xAp xYc G) (a1 : Int32) (a2 : Int32) (S : xS) (g_a1 : vp_in a1 8) (g_a2 : vp_in a2 8) : xMi l xYc G yX3_beat wsX3_beat 2 42 [.ref (G.2.2 0 0), .int a1, .int a2] S S (fX3_beat a1 a2 S) := by
  refine xMi_of (cc := cX3_beat) (maxL := 3) (ty := .int) (own := RX3) [some (.ref (G.2.2 0 0)), some (.int a1), some (.int a2)] pnX3 rfl rfl rfl (xcat1 rfl) (Nat.le_of_ble_eq_true rfl) rfl hap (fun F C V E => ?_)
  refine xg_iload_n C dX3_beat_0 rfl ?_
  refine xg_callSv C V (as := [.int a1]) (fun l => kX3_requireNumber l hap a1 S (by assumption)) gX3_beat_X3_requireNumber rfl hdX3_requireNumber ⟨by decide, by decide⟩ rfl rfl (Nat.le_of_ble_eq_true rfl) ⟨Nat.zero_le _, Nat.zero_le _⟩ dX3_beat_1 ?_
  refine xg_iload_n C dX3_beat_4 rfl ?_
  refine xg_callSv C V (as := [.int a2]) (fun l => kX3_requireNumber l hap a2 S (by assumption)) gX3_beat_X3_requireNumber rfl hdX3_requireNumber ⟨by decide, by decide⟩ rfl rfl (Nat.le_of_ble_eq_true rfl) ⟨Nat.zero_le _, Nat.zero_le _⟩ dX3_beat_5 ?_
  refine xg_aload_n C dX3_beat_8 rfl ?_
  refine xg_getR C V (f := 0) qX3_beat_26 rfl rfl rfl dX3_beat_9 ?_
  refine xg_getR C V (f := 3) qX3_beat_145 rfl rfl rfl dX3_beat_12 ?_
  refine xg_iload_n C dX3_beat_15 rfl ?_
  refine xg_aald C V (f := 25) (b := 31) rfl (by assumption) dX3_beat_16 ?_
  refine xg_iload_n C dX3_beat_17 rfl ?_
  refine xg_iald C V (f := 31) (n := 8) (N := 8) rfl (by decide) (xR_8 (by decide) (by assumption)) (by assumption) dX3_beat_18 (v := (S 31 a1 a2)) rfl ?_
  exact xret_i E dX3_beat_19 (rfl) rfl
theorem iX3_status_X3 : ∀ w ∈ wsX30, w ∈ wsX3_status := by decide +kernel
theorem qX3_status_26 : xFr wsX3_status RX3 26 RX3 TX3 4 2 := ⟨iX3_status_X3, List.mem_of_getElem? (i := 1) rfl, by decide⟩
theorem iX3_status_X1 : ∀ w ∈ wsX10, w ∈ wsX3_status := by decide +kernel
theorem qX3_status_148 : xFr wsX3_status RX3 148 RX1 TX1 12 8 := ⟨iX3_status_X1, List.mem_of_getElem? (i := 2) rfl, by decide⟩
def fX3_status (a1 : Int32) (a2 : Int32) (S : xS) : Int32 :=
  (S 33 a1 a2)
theorem hdX3_status : yX3_status.cls = RX3 ∧ yX3_status.cls ≠ "java/lang/invoke/MethodHandle" ∧ yX3_status.cls ≠ "java/lang/invoke/VarHandle" ∧ (parseMethodDescriptor yX3_status.desc).map (fun d => d.parameters.length) = some 2 := by decide +kernel
set_option maxRecDepth 100000 in
set_option maxHeartbeats 4000000 in
theorem kX3_status (l : Launch) {G : xG} (hap : xAp xYc G) (a1 : Int32) (a2 : Int32) (S : xS) (g_a1 : vp_in a1 8) (g_a2 : vp_in a2 8) : xMi l xYc G yX3_status wsX3_status 2 42 [.ref (G.2.2 0 0), .int a1, .int a2] S S (fX3_status a1 a2 S) := by
  refine xMi_of (cc := cX3_status) (maxL := 3) (ty := .int) (own := RX3) [some (.ref (G.2.2 0 0)), some (.int a1), some (.int a2)] pnX3 rfl rfl rfl (xcat1 rfl) (Nat.le_of_ble_eq_true rfl) rfl hap (fun F C V E => ?_)
  refine xg_iload_n C dX3_status_0 rfl ?_
  refine xg_callSv C V (as := [.int a1]) (fun l => kX3_requireNumber l hap a1 S (by assumption)) gX3_status_X3_requireNumber rfl hdX3_requireNumber ⟨by decide, by decide⟩ rfl rfl (Nat.le_of_ble_eq_true rfl) ⟨Nat.zero_le _, Nat.zero_le _⟩ dX3_status_1 ?_
  refine xg_iload_n C dX3_status_4 rfl ?_
  refine xg_callSv C V (as := [.int a2]) (fun l => kX3_requireNumber l hap a2 S (by assumption)) gX3_status_X3_requireNumber rfl hdX3_requireNumber ⟨by decide, by decide⟩ rfl rfl (Nat.le_of_ble_eq_true rfl) ⟨Nat.zero_le _, Nat.zero_le _⟩ dX3_status_5 ?_
  refine xg_aload_n C dX3_status_8 rfl ?_
  refine xg_getR C V (f := 0) qX3_status_26 rfl rfl rfl dX3_status_9 ?_
  refine xg_getR C V (f := 3) qX3_status_148 rfl rfl rfl dX3_status_12 ?_
  refine xg_iload_n C dX3_status_15 rfl ?_
  refine xg_aald C V (f := 27) (b := 33) rfl (by assumption) dX3_status_16 ?_
  refine xg_iload_n C dX3_status_17 rfl ?_
  refine xg_iald C V (f := 33) (n := 8) (N := 8) rfl (by decide) (xR_8 (by decide) (by assumption)) (by assumption) dX3_status_18 (v := (S 33 a1 a2)) rfl ?_
  exact xret_i E dX3_status_19 (rfl) rfl
theorem iX3_partner_X3 : ∀ w ∈ wsX30, w ∈ wsX3_partner := by decide +kernel
theorem qX3_partner_26 : xFr wsX3_partner RX3 26 RX3 TX3 4 2 := ⟨iX3_partner_X3, List.mem_of_getElem? (i := 1) rfl, by decide⟩
theorem iX3_partner_X1 : ∀ w ∈ wsX10, w ∈ wsX3_partner := by decide +kernel
theorem qX3_partner_103 : xFr wsX3_partner RX3 103 RX1 TX1 12 0 := ⟨iX3_partner_X1, List.mem_of_getElem? (i := 2) rfl, by decide⟩
theorem qX3_partner_30 : xFr wsX3_partner RX3 30 RX3 TX3 4 3 := ⟨iX3_partner_X3, List.mem_of_getElem? (i := 3) rfl, by decide⟩
def fX3_partner (a1 : Int32) (S : xS) : Int32 :=
  if (S 19 0 a1) = (0 : Int32) then
    (fX1_calledBy a1 ((S 0 0 (nI 3)) + (1 : Int32)) S)
  else
    (-1 : Int32)
theorem hdX3_partner : yX3_partner.cls = RX3 ∧ yX3_partner.cls ≠ "java/lang/invoke/MethodHandle" ∧ yX3_partner.cls ≠ "java/lang/invoke/VarHandle" ∧ (parseMethodDescriptor yX3_partner.desc).map (fun d => d.parameters.length) = some 1 := by decide +kernel
set_option maxRecDepth 100000 in
set_option maxHeartbeats 4000000 in
theorem kX3_partner (l : Launch) {G : xG} (hap : xAp xYc G) (a1 : Int32) (S : xS) (g_a1 : vp_in a1 8) : xMi l xYc G yX3_partner wsX3_partner 2 49 [.ref (G.2.2 0 0), .int a1] S S (fX3_partner a1 S) := by
  refine xMi_of (cc := cX3_partner) (maxL := 2) (ty := .int) (own := RX3) [some (.ref (G.2.2 0 0)), some (.int a1)] pnX3 rfl rfl rfl (xcat1 rfl) (Nat.le_of_ble_eq_true rfl) rfl hap (fun F C V E => ?_)
  refine xg_iload_n C dX3_partner_0 rfl ?_
  refine xg_callSv C V (as := [.int a1]) (fun l => kX3_requireNumber l hap a1 S (by assumption)) gX3_partner_X3_requireNumber rfl hdX3_requireNumber ⟨by decide, by decide⟩ rfl rfl (Nat.le_of_ble_eq_true rfl) ⟨Nat.zero_le _, Nat.zero_le _⟩ dX3_partner_1 ?_
  refine xg_aload_n C dX3_partner_4 rfl ?_
  refine xg_getR C V (f := 0) qX3_partner_26 rfl rfl rfl dX3_partner_5 ?_
  refine xg_getR C V (f := 3) qX3_partner_103 rfl rfl rfl dX3_partner_8 ?_
  refine xg_iload_n C dX3_partner_11 rfl ?_
  refine xg_zald C V (f := 19) (n := 1) (N := 8) rfl (by decide) (xR_0 (by decide)) (by assumption) dX3_partner_12 (v := (S 19 0 a1)) rfl ?_
  refine xg_if_eq C 20 dX3_partner_13 (by decide) (fun h1 => ?_) (fun h1 => ?_)
  · refine xg_aload_n C dX3_partner_20 rfl ?_
    refine xg_getR C V (f := 0) qX3_partner_26 rfl rfl rfl dX3_partner_21 ?_
    refine xg_iload_n C dX3_partner_24 rfl ?_
    refine xg_aload_n C dX3_partner_25 rfl ?_
    refine xg_getI C V (f := 0) qX3_partner_30 rfl rfl rfl dX3_partner_26 (v := (S 0 0 (nI 3))) rfl ?_
    refine xg_iconst C dX3_partner_29 (v := (1 : Int32)) (by decide) ?_
    refine xg_iadd C dX3_partner_30 ?_
    refine xg_callVi C V (f := 3) (As := [.int a1, .int ((S 0 0 (nI 3)) + (1 : Int32))]) (r := (fX1_calledBy a1 ((S 0 0 (nI 3)) + (1 : Int32)) S)) (fun l => kX1_calledBy l hap a1 ((S 0 0 (nI 3)) + (1 : Int32)) S (by assumption)) gX3_partner_X1_calledBy rfl hdX1_calledBy ⟨by decide, by decide⟩ rfl rfl rfl rfl rfl (Nat.le_of_ble_eq_true rfl) ⟨Nat.zero_le _, Nat.zero_le _⟩ dX3_partner_31 ?_
    exact xret_i E dX3_partner_34 (by first | (rw [fX3_partner, if_pos h1]; done) | (rw [fX3_partner, if_pos h1]; rfl)) rfl
  · refine xg_iconst C dX3_partner_16 (v := (-1 : Int32)) (by decide) ?_
    refine xg_goto C 34 dX3_partner_17 (by decide) ?_
    exact xret_i E dX3_partner_34 (by first | (rw [fX3_partner, if_neg h1]; done) | (rw [fX3_partner, if_neg h1]; rfl)) rfl
theorem iX3_unnoticed_X3 : ∀ w ∈ wsX30, w ∈ wsX3_unnoticed := by decide +kernel
theorem qX3_unnoticed_26 : xFr wsX3_unnoticed RX3 26 RX3 TX3 4 2 := ⟨iX3_unnoticed_X3, List.mem_of_getElem? (i := 1) rfl, by decide⟩
def fX3_unnoticed  (S : xS) : Int32 :=
  (fX1_countUnnoticed S)
theorem hdX3_unnoticed : yX3_unnoticed.cls = RX3 ∧ yX3_unnoticed.cls ≠ "java/lang/invoke/MethodHandle" ∧ yX3_unnoticed.cls ≠ "java/lang/invoke/VarHandle" ∧ (parseMethodDescriptor yX3_unnoticed.desc).map (fun d => d.parameters.length) = some 0 := by decide +kernel
set_option maxRecDepth 100000 in
set_option maxHeartbeats 4000000 in
theorem kX3_unnoticed (l : Launch) {G : xG} (hap : xAp xYc G)  (S : xS)  : xMi l xYc G yX3_unnoticed wsX3_unnoticed 2 46 [.ref (G.2.2 0 0)] S S (fX3_unnoticed S) := by
  refine xMi_of (cc := cX3_unnoticed) (maxL := 1) (ty := .int) (own := RX3) [some (.ref (G.2.2 0 0))] pnX3 rfl rfl rfl (xcat1 rfl) (Nat.le_of_ble_eq_true rfl) rfl hap (fun F C V E => ?_)
  refine xg_aload_n C dX3_unnoticed_0 rfl ?_
  refine xg_getR C V (f := 0) qX3_unnoticed_26 rfl rfl rfl dX3_unnoticed_1 ?_
  refine xg_callVi C V (f := 3) (As := []) (r := (fX1_countUnnoticed S)) (fun l => kX1_countUnnoticed l hap  S) gX3_unnoticed_X1_countUnnoticed rfl hdX1_countUnnoticed ⟨by decide, by decide⟩ rfl rfl rfl rfl rfl (Nat.le_of_ble_eq_true rfl) ⟨Nat.zero_le _, Nat.zero_le _⟩ dX3_unnoticed_4 ?_
  exact xret_i E dX3_unnoticed_7 (rfl) rfl
theorem iX3_mistaken_X3 : ∀ w ∈ wsX30, w ∈ wsX3_mistaken := by decide +kernel
theorem qX3_mistaken_26 : xFr wsX3_mistaken RX3 26 RX3 TX3 4 2 := ⟨iX3_mistaken_X3, List.mem_of_getElem? (i := 1) rfl, by decide⟩
def fX3_mistaken  (S : xS) : Int32 :=
  (fX1_countMistaken S)
theorem hdX3_mistaken : yX3_mistaken.cls = RX3 ∧ yX3_mistaken.cls ≠ "java/lang/invoke/MethodHandle" ∧ yX3_mistaken.cls ≠ "java/lang/invoke/VarHandle" ∧ (parseMethodDescriptor yX3_mistaken.desc).map (fun d => d.parameters.length) = some 0 := by decide +kernel
set_option maxRecDepth 100000 in
set_option maxHeartbeats 4000000 in
theorem kX3_mistaken (l : Launch) {G : xG} (hap : xAp xYc G)  (S : xS)  : xMi l xYc G yX3_mistaken wsX3_mistaken 2 46 [.ref (G.2.2 0 0)] S S (fX3_mistaken S) := by
  refine xMi_of (cc := cX3_mistaken) (maxL := 1) (ty := .int) (own := RX3) [some (.ref (G.2.2 0 0))] pnX3 rfl rfl rfl (xcat1 rfl) (Nat.le_of_ble_eq_true rfl) rfl hap (fun F C V E => ?_)
  refine xg_aload_n C dX3_mistaken_0 rfl ?_
  refine xg_getR C V (f := 0) qX3_mistaken_26 rfl rfl rfl dX3_mistaken_1 ?_
  refine xg_callVi C V (f := 3) (As := []) (r := (fX1_countMistaken S)) (fun l => kX1_countMistaken l hap  S) gX3_mistaken_X1_countMistaken rfl hdX1_countMistaken ⟨by decide, by decide⟩ rfl rfl rfl rfl rfl (Nat.le_of_ble_eq_true rfl) ⟨Nat.zero_le _, Nat.zero_le _⟩ dX3_mistaken_4 ?_
  exact xret_i E dX3_mistaken_7 (rfl) rfl
theorem iX3_vain_X3 : ∀ w ∈ wsX30, w ∈ wsX3_vain := by decide +kernel
theorem qX3_vain_26 : xFr wsX3_vain RX3 26 RX3 TX3 4 2 := ⟨iX3_vain_X3, List.mem_of_getElem? (i := 1) rfl, by decide⟩
theorem iX3_vain_X1 : ∀ w ∈ wsX10, w ∈ wsX3_vain := by decide +kernel
theorem qX3_vain_168 : xFr wsX3_vain RX3 168 RX1 TX1 12 11 := ⟨iX3_vain_X1, List.mem_of_getElem? (i := 2) rfl, by decide⟩
def fX3_vain  (S : xS) : Int32 :=
  (S 3 0 (nI 11))
theorem hdX3_vain : yX3_vain.cls = RX3 ∧ yX3_vain.cls ≠ "java/lang/invoke/MethodHandle" ∧ yX3_vain.cls ≠ "java/lang/invoke/VarHandle" ∧ (parseMethodDescriptor yX3_vain.desc).map (fun d => d.parameters.length) = some 0 := by decide +kernel
set_option maxRecDepth 100000 in
set_option maxHeartbeats 4000000 in
theorem kX3_vain (l : Launch) {G : xG} (hap : xAp xYc G)  (S : xS)  : xMi l xYc G yX3_vain wsX3_vain 0 0 [.ref (G.2.2 0 0)] S S (fX3_vain S) := by
  refine xMi_of (cc := cX3_vain) (maxL := 1) (ty := .int) (own := RX3) [some (.ref (G.2.2 0 0))] pnX3 rfl rfl rfl (xcat1 rfl) (Nat.le_of_ble_eq_true rfl) rfl hap (fun F C V E => ?_)
  refine xg_aload_n C dX3_vain_0 rfl ?_
  refine xg_getR C V (f := 0) qX3_vain_26 rfl rfl rfl dX3_vain_1 ?_
  refine xg_getI C V (f := 3) qX3_vain_168 rfl rfl rfl dX3_vain_4 (v := (S 3 0 (nI 11))) rfl ?_
  exact xret_i E dX3_vain_7 (rfl) rfl
theorem iX3_time_X3 : ∀ w ∈ wsX30, w ∈ wsX3_time := by decide +kernel
theorem qX3_time_30 : xFr wsX3_time RX3 30 RX3 TX3 4 3 := ⟨iX3_time_X3, List.mem_of_getElem? (i := 1) rfl, by decide⟩
def fX3_time  (S : xS) : Int32 :=
  (S 0 0 (nI 3))
theorem hdX3_time : yX3_time.cls = RX3 ∧ yX3_time.cls ≠ "java/lang/invoke/MethodHandle" ∧ yX3_time.cls ≠ "java/lang/invoke/VarHandle" ∧ (parseMethodDescriptor yX3_time.desc).map (fun d => d.parameters.length) = some 0 := by decide +kernel
set_option maxRecDepth 100000 in
set_option maxHeartbeats 4000000 in
theorem kX3_time (l : Launch) {G : xG} (hap : xAp xYc G)  (S : xS)  : xMi l xYc G yX3_time wsX3_time 0 0 [.ref (G.2.2 0 0)] S S (fX3_time S) := by
  refine xMi_of (cc := cX3_time) (maxL := 1) (ty := .int) (own := RX3) [some (.ref (G.2.2 0 0))] pnX3 rfl rfl rfl (xcat1 rfl) (Nat.le_of_ble_eq_true rfl) rfl hap (fun F C V E => ?_)
  refine xg_aload_n C dX3_time_0 rfl ?_
  refine xg_getI C V (f := 0) qX3_time_30 rfl rfl rfl dX3_time_1 (v := (S 0 0 (nI 3))) rfl ?_
  exact xret_i E dX3_time_4 (rfl) rfl
theorem iX3_tick_X3 : ∀ w ∈ wsX30, w ∈ wsX3_tick := by decide +kernel
theorem qX3_tick_30 : xFr wsX3_tick RX3 30 RX3 TX3 4 3 := ⟨iX3_tick_X3, List.mem_of_getElem? (i := 3) rfl, by decide⟩
def bX3_tick_33 (T : Nat) (i : Int32) (x : xS × Int32) : xS × Int32 :=
  ((fX3_passOneTick x.1).1, (x.2 + (fX3_passOneTick x.1).2))
def fX3_tick (T : Nat) (S : xS) : xS × Int32 :=
  ((xfold (bX3_tick_33 T) T (S, (0 : Int32))).1, (xfold (bX3_tick_33 T) T (S, (0 : Int32))).2)
theorem hdX3_tick : yX3_tick.cls = RX3 ∧ yX3_tick.cls ≠ "java/lang/invoke/MethodHandle" ∧ yX3_tick.cls ≠ "java/lang/invoke/VarHandle" ∧ (parseMethodDescriptor yX3_tick.desc).map (fun d => d.parameters.length) = some 1 := by decide +kernel
set_option maxRecDepth 100000 in
set_option maxHeartbeats 4000000 in
theorem kX3_tick (l : Launch) {G : xG} (hap : xAp xYc G) (T : Nat) (S : xS) (h1 : 1 ≤ T) (hT : T ≤ 100) (w1 : ¬ (nI T) < (1 : Int32)) (w2 : (nI T) ≤ (100 : Int32)) (w3 : ((S 0 0 (nI 3)) + (nI T)) ≤ (5000 : Int32)) : xMi l xYc G yX3_tick wsX3_tick 5 129 [.ref (G.2.2 0 0), .int (nI T)] S (fX3_tick T S).1 (fX3_tick T S).2 := by
  refine xMi_of (cc := cX3_tick) (maxL := 4) (ty := .int) (own := RX3) [some (.ref (G.2.2 0 0)), some (.int (nI T)), none, none] pnX3 rfl rfl rfl (xcat1 rfl) (Nat.le_of_ble_eq_true rfl) rfl hap (fun F C V E => ?_)
  refine xg_iload_n C dX3_tick_0 rfl ?_
  refine xg_iconst C dX3_tick_1 (v := (1 : Int32)) (by decide) ?_
  refine xg_bipush C dX3_tick_2 (v := (100 : Int32)) (by decide) ?_
  refine xg_callSv C V (as := [.int (nI T), .int (1 : Int32), .int (100 : Int32)]) (fun l => kX3_requireWithin l hap (nI T) (1 : Int32) (100 : Int32) S (by first | assumption | exact xnum1 (by assumption)) (by first | assumption | exact xnum2 (by assumption))) gX3_tick_X3_requireWithin rfl hdX3_requireWithin ⟨by decide, by decide⟩ rfl rfl (Nat.le_of_ble_eq_true rfl) ⟨Nat.zero_le _, Nat.zero_le _⟩ dX3_tick_4 ?_
  refine xg_aload_n C dX3_tick_7 rfl ?_
  refine xg_getI C V (f := 0) qX3_tick_30 rfl rfl rfl dX3_tick_8 (v := (S 0 0 (nI 3))) rfl ?_
  refine xg_iload_n C dX3_tick_11 rfl ?_
  refine xg_iadd C dX3_tick_12 ?_
  refine xg_sipush C dX3_tick_13 (v := (5000 : Int32)) (by decide) ?_
  refine xg_icmp_le C 29 dX3_tick_16 (by decide) (fun h1 => ?_) (fun h1 => by contradiction)
  refine xg_iconst C dX3_tick_29 (v := (0 : Int32)) (by decide) ?_
  refine xg_istore_n C dX3_tick_30 (by decide) (L' := [some (.ref (G.2.2 0 0)), some (.int (nI T)), some (.int (0 : Int32)), none]) rfl ?_
  refine xg_iconst C dX3_tick_31 (v := (0 : Int32)) (by decide) ?_
  refine xg_istore_n C dX3_tick_32 (by decide) (L' := [some (.ref (G.2.2 0 0)), some (.int (nI T)), some (.int (0 : Int32)), some (.int (0 : Int32))]) rfl ?_
  refine xloop (fun (ii : Int32) (x : xS × Int32) => xg F 0 0 33 [some (.ref (G.2.2 0 0)), some (.int (nI T)), some (.int x.2), some (.int ii)] [] (xP xYc G x.1)) (bX3_tick_33 T) T (S, (0 : Int32)) (fun i hi x K => ?_) ?_
  · have hi8 := hi
    show xg F 0 0 33 [some (.ref (G.2.2 0 0)), some (.int (nI T)), some (.int x.2), some (.int (nI i))] [] (xP xYc G x.1)
    refine xg_iload_n C dX3_tick_33 rfl ?_
    refine xg_iload_n C dX3_tick_34 rfl ?_
    refine xg_icmp_ge C 51 dX3_tick_35 (by decide) (fun h2 => absurd h2 (nI_ge hi (by omega))) (fun h2 => ?_)
    refine xg_iload_n C dX3_tick_38 rfl ?_
    refine xg_aload_n C dX3_tick_39 rfl ?_
    refine xg_callVi C V (f := 0) (As := []) (r := (fX3_passOneTick x.1).2) (fun l => kX3_passOneTick l hap  x.1) gX3_tick_X3_passOneTick rfl hdX3_passOneTick ⟨by decide, by decide⟩ rfl rfl rfl rfl rfl (Nat.le_of_ble_eq_true rfl) ⟨Nat.zero_le _, Nat.zero_le _⟩ dX3_tick_40 ?_
    refine xg_iadd C dX3_tick_43 ?_
    refine xg_istore_n C dX3_tick_44 (by decide) (L' := [some (.ref (G.2.2 0 0)), some (.int (nI T)), some (.int (x.2 + (fX3_passOneTick x.1).2)), some (.int (nI i))]) rfl ?_
    refine xg_iinc C dX3_tick_45 rfl (v := (nI (i + 1))) (xinc i) (by decide) (L' := [some (.ref (G.2.2 0 0)), some (.int (nI T)), some (.int (x.2 + (fX3_passOneTick x.1).2)), some (.int (nI (i + 1)))]) rfl ?_
    refine xg_goto C 33 dX3_tick_48 (by decide) ?_
    have e : (bX3_tick_33 T) (nI i) x = ((fX3_passOneTick x.1).1, (x.2 + (fX3_passOneTick x.1).2)) := rfl
    rw [e] at K
    try dsimp only at K
    exact xg_le K ⟨rfl, rfl, rfl, rfl, trivial⟩
  · show xg F 0 0 33 [some (.ref (G.2.2 0 0)), some (.int (nI T)), some (.int (xfold (bX3_tick_33 T) T (S, (0 : Int32))).2), some (.int (nI T))] [] (xP xYc G (xfold (bX3_tick_33 T) T (S, (0 : Int32))).1)
    refine xg_iload_n C dX3_tick_33 rfl ?_
    refine xg_iload_n C dX3_tick_34 rfl ?_
    refine xg_icmp_ge C 51 dX3_tick_35 (by decide) (fun h3 => ?_) (fun h3 => absurd (nI_le (Nat.le_refl _) (by omega)) h3)
    refine xg_iload_n C dX3_tick_51 rfl ?_
    have e : (fX3_tick T S) = ((xfold (bX3_tick_33 T) T (S, (0 : Int32))).1, (xfold (bX3_tick_33 T) T (S, (0 : Int32))).2) := rfl
    exact xret_i E dX3_tick_52 (xsnd e) (xfst e)
