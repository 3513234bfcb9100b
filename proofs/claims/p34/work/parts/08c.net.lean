theorem iX1_freshestOf_X1 : ∀ w ∈ wsX10, w ∈ wsX1_freshestOf := by decide +kernel
theorem qX1_freshestOf_24 : xFr wsX1_freshestOf RX1 24 RX1 TX1 12 3 := ⟨iX1_freshestOf_X1, List.mem_of_getElem? (i := 1) rfl, by decide⟩
def bX1_freshestOf_7 (a1 : Int32) (S : xS) (i : Int32) (x : Int32 × Int32) : Int32 × Int32 :=
  if (S 28 i a1) ≤ x.2 then
    (x.1, x.2)
  else
    (i, (S 28 i a1))
def fX1_freshestOf (a1 : Int32) (S : xS) : Int32 :=
  (xfold (bX1_freshestOf_7 a1 S) 8 ((-1 : Int32), (0 : Int32))).1
theorem hdX1_freshestOf : yX1_freshestOf.cls = RX1 ∧ yX1_freshestOf.cls ≠ "java/lang/invoke/MethodHandle" ∧ yX1_freshestOf.cls ≠ "java/lang/invoke/VarHandle" ∧ (parseMethodDescriptor yX1_freshestOf.desc).map (fun d => d.parameters.length) = some 1 := by decide +kernel
set_option maxRecDepth 100000 in
set_option maxHeartbeats 4000000 in
theorem kX1_freshestOf (l : Launch) {G : xG} (hap : xAp xYc G) (a1 : Int32) (S : xS) (g_a1 : vp_in a1 8) : xMi l xYc G yX1_freshestOf wsX1_freshestOf 0 0 [.ref (G.2.2 3 0), .int a1] S S (fX1_freshestOf a1 S) := by
  refine xMi_of (cc := cX1_freshestOf) (maxL := 5) (ty := .int) (own := RX1) [some (.ref (G.2.2 3 0)), some (.int a1), none, none, none] pnX1 rfl rfl rfl (xcat1 rfl) (Nat.le_of_ble_eq_true rfl) rfl hap (fun F C V E => ?_)
  refine xg_iconst C dX1_freshestOf_0 (v := (-1 : Int32)) (by decide) ?_
  refine xg_istore_n C dX1_freshestOf_1 (by decide) (L' := [some (.ref (G.2.2 3 0)), some (.int a1), some (.int (-1 : Int32)), none, none]) rfl ?_
  refine xg_iconst C dX1_freshestOf_2 (v := (0 : Int32)) (by decide) ?_
  refine xg_istore_n C dX1_freshestOf_3 (by decide) (L' := [some (.ref (G.2.2 3 0)), some (.int a1), some (.int (-1 : Int32)), some (.int (0 : Int32)), none]) rfl ?_
  refine xg_iconst C dX1_freshestOf_4 (v := (0 : Int32)) (by decide) ?_
  refine xg_istore C dX1_freshestOf_5 (by decide) (L' := [some (.ref (G.2.2 3 0)), some (.int a1), some (.int (-1 : Int32)), some (.int (0 : Int32)), some (.int (0 : Int32))]) rfl ?_
  refine xloop (fun (ii : Int32) (x : Int32 × Int32) => xg F 0 0 7 [some (.ref (G.2.2 3 0)), some (.int a1), some (.int x.1), some (.int x.2), some (.int ii)] [] (xP xYc G S)) (bX1_freshestOf_7 a1 S) 8 ((-1 : Int32), (0 : Int32)) (fun i hi x K => ?_) ?_
  · have hi8 : vp_in (nI i) 8 := vp_in_nI hi (by decide)
    show xg F 0 0 7 [some (.ref (G.2.2 3 0)), some (.int a1), some (.int x.1), some (.int x.2), some (.int (nI i))] [] (xP xYc G S)
    refine xg_iload C dX1_freshestOf_7 rfl ?_
    refine xg_bipush C dX1_freshestOf_9 (v := (8 : Int32)) (by decide) ?_
    refine xg_icmp_ge C 46 dX1_freshestOf_11 (by decide) (fun h1 => absurd h1 (nI_ge hi (by decide))) (fun h1 => ?_)
    refine xg_aload_n C dX1_freshestOf_14 rfl ?_
    refine xg_getR C V (f := 3) qX1_freshestOf_24 rfl rfl rfl dX1_freshestOf_15 ?_
    refine xg_iload C dX1_freshestOf_18 rfl ?_
    refine xg_aald C V (f := 22) (b := 28) rfl (by assumption) dX1_freshestOf_20 ?_
    refine xg_iload_n C dX1_freshestOf_21 rfl ?_
    refine xg_iald C V (f := 28) (n := 8) (N := 8) rfl (by decide) (xR_8 (by decide) (by assumption)) (by assumption) dX1_freshestOf_22 (v := (S 28 (nI i) a1)) rfl ?_
    refine xg_iload_n C dX1_freshestOf_23 rfl ?_
    refine xg_icmp_le C 40 dX1_freshestOf_24 (by decide) (fun h2 => ?_) (fun h2 => ?_)
    · refine xg_iinc C dX1_freshestOf_40 rfl (v := (nI (i + 1))) (xinc i) (by decide) (L' := [some (.ref (G.2.2 3 0)), some (.int a1), some (.int x.1), some (.int x.2), some (.int (nI (i + 1)))]) rfl ?_
      refine xg_goto C 7 dX1_freshestOf_43 (by decide) ?_
      have e : (bX1_freshestOf_7 a1 S) (nI i) x = (x.1, x.2) := by first | (rw [bX1_freshestOf_7, if_pos h2]; done) | (rw [bX1_freshestOf_7, if_pos h2]; rfl)
      rw [e] at K
      try dsimp only at K
      exact xg_le K ⟨rfl, rfl, rfl, rfl, rfl, trivial⟩
    · refine xg_aload_n C dX1_freshestOf_27 rfl ?_
      refine xg_getR C V (f := 3) qX1_freshestOf_24 rfl rfl rfl dX1_freshestOf_28 ?_
      refine xg_iload C dX1_freshestOf_31 rfl ?_
      refine xg_aald C V (f := 22) (b := 28) rfl (by assumption) dX1_freshestOf_33 ?_
      refine xg_iload_n C dX1_freshestOf_34 rfl ?_
      refine xg_iald C V (f := 28) (n := 8) (N := 8) rfl (by decide) (xR_8 (by decide) (by assumption)) (by assumption) dX1_freshestOf_35 (v := (S 28 (nI i) a1)) rfl ?_
      refine xg_istore_n C dX1_freshestOf_36 (by decide) (L' := [some (.ref (G.2.2 3 0)), some (.int a1), some (.int x.1), some (.int (S 28 (nI i) a1)), some (.int (nI i))]) rfl ?_
      refine xg_iload C dX1_freshestOf_37 rfl ?_
      refine xg_istore_n C dX1_freshestOf_39 (by decide) (L' := [some (.ref (G.2.2 3 0)), some (.int a1), some (.int (nI i)), some (.int (S 28 (nI i) a1)), some (.int (nI i))]) rfl ?_
      refine xg_iinc C dX1_freshestOf_40 rfl (v := (nI (i + 1))) (xinc i) (by decide) (L' := [some (.ref (G.2.2 3 0)), some (.int a1), some (.int (nI i)), some (.int (S 28 (nI i) a1)), some (.int (nI (i + 1)))]) rfl ?_
      refine xg_goto C 7 dX1_freshestOf_43 (by decide) ?_
      have e : (bX1_freshestOf_7 a1 S) (nI i) x = ((nI i), (S 28 (nI i) a1)) := by first | (rw [bX1_freshestOf_7, if_neg h2]; done) | (rw [bX1_freshestOf_7, if_neg h2]; rfl)
      rw [e] at K
      try dsimp only at K
      exact xg_le K ⟨rfl, rfl, rfl, rfl, rfl, trivial⟩
  · show xg F 0 0 7 [some (.ref (G.2.2 3 0)), some (.int a1), some (.int (xfold (bX1_freshestOf_7 a1 S) 8 ((-1 : Int32), (0 : Int32))).1), some (.int (xfold (bX1_freshestOf_7 a1 S) 8 ((-1 : Int32), (0 : Int32))).2), some (.int (nI 8))] [] (xP xYc G S)
    refine xg_iload C dX1_freshestOf_7 rfl ?_
    refine xg_bipush C dX1_freshestOf_9 (v := (8 : Int32)) (by decide) ?_
    refine xg_icmp_ge C 46 dX1_freshestOf_11 (by decide) (fun h3 => ?_) (fun h3 => absurd (nI_le (Nat.le_refl _) (by decide)) h3)
    refine xg_iload_n C dX1_freshestOf_46 rfl ?_
    exact xret_i E dX1_freshestOf_47 (rfl) rfl
theorem iX1_believersOf_X1 : ∀ w ∈ wsX10, w ∈ wsX1_believersOf := by decide +kernel
theorem qX1_believersOf_9 : xFr wsX1_believersOf RX1 9 RX1 TX1 12 0 := ⟨iX1_believersOf_X1, List.mem_of_getElem? (i := 1) rfl, by decide⟩
theorem qX1_believersOf_27 : xFr wsX1_believersOf RX1 27 RX1 TX1 12 4 := ⟨iX1_believersOf_X1, List.mem_of_getElem? (i := 2) rfl, by decide⟩
def bX1_believersOf_5 (a1 : Int32) (a2 : Int32) (S : xS) (i : Int32) (x : Int32) : Int32 :=
  if (S 19 0 i) = (0 : Int32) then
    if (fX1_hasNews i a1 S) = (0 : Int32) then
      x
    else
      if (S 29 i a1) = a2 then
        (x + (1 : Int32))
      else
        x
  else
    x
def fX1_believersOf (a1 : Int32) (a2 : Int32) (S : xS) : Int32 :=
  (xfold (bX1_believersOf_5 a1 a2 S) 8 (0 : Int32))
theorem hdX1_believersOf : yX1_believersOf.cls = RX1 ∧ yX1_believersOf.cls ≠ "java/lang/invoke/MethodHandle" ∧ yX1_believersOf.cls ≠ "java/lang/invoke/VarHandle" ∧ (parseMethodDescriptor yX1_believersOf.desc).map (fun d => d.parameters.length) = some 2 := by decide +kernel
set_option maxRecDepth 100000 in
set_option maxHeartbeats 4000000 in
theorem kX1_believersOf (l : Launch) {G : xG} (hap : xAp xYc G) (a1 : Int32) (a2 : Int32) (S : xS) (g_a1 : vp_in a1 8) : xMi l xYc G yX1_believersOf wsX1_believersOf 1 22 [.ref (G.2.2 3 0), .int a1, .int a2] S S (fX1_believersOf a1 a2 S) := by
  refine xMi_of (cc := cX1_believersOf) (maxL := 6) (ty := .int) (own := RX1) [some (.ref (G.2.2 3 0)), some (.int a1), some (.int a2), none, none, none] pnX1 rfl rfl rfl (xcat1 rfl) (Nat.le_of_ble_eq_true rfl) rfl hap (fun F C V E => ?_)
  refine xg_iconst C dX1_believersOf_0 (v := (0 : Int32)) (by decide) ?_
  refine xg_istore_n C dX1_believersOf_1 (by decide) (L' := [some (.ref (G.2.2 3 0)), some (.int a1), some (.int a2), some (.int (0 : Int32)), none, none]) rfl ?_
  refine xg_iconst C dX1_believersOf_2 (v := (0 : Int32)) (by decide) ?_
  refine xg_istore C dX1_believersOf_3 (by decide) (L' := [some (.ref (G.2.2 3 0)), some (.int a1), some (.int a2), some (.int (0 : Int32)), some (.int (0 : Int32)), none]) rfl ?_
  refine xloop (fun (ii : Int32) (x : Int32) => xg F 0 0 5 [some (.ref (G.2.2 3 0)), some (.int a1), some (.int a2), some (.int x), some (.int ii), none] [] (xP xYc G S)) (bX1_believersOf_5 a1 a2 S) 8 (0 : Int32) (fun i hi x K => ?_) ?_
  · have hi8 : vp_in (nI i) 8 := vp_in_nI hi (by decide)
    show xg F 0 0 5 [some (.ref (G.2.2 3 0)), some (.int a1), some (.int a2), some (.int x), some (.int (nI i)), none] [] (xP xYc G S)
    refine xg_iload C dX1_believersOf_5 rfl ?_
    refine xg_bipush C dX1_believersOf_7 (v := (8 : Int32)) (by decide) ?_
    refine xg_icmp_ge C 66 dX1_believersOf_9 (by decide) (fun h1 => absurd h1 (nI_ge hi (by decide))) (fun h1 => ?_)
    refine xg_aload_n C dX1_believersOf_12 rfl ?_
    refine xg_getR C V (f := 3) qX1_believersOf_9 rfl rfl rfl dX1_believersOf_13 ?_
    refine xg_iload C dX1_believersOf_16 rfl ?_
    refine xg_zald C V (f := 19) (n := 1) (N := 8) rfl (by decide) (xR_0 (by decide)) (by assumption) dX1_believersOf_18 (v := (S 19 0 (nI i))) rfl ?_
    refine xg_if_ne C 36 dX1_believersOf_19 (by decide) (fun h2 => ?_) (fun h2 => ?_)
    · refine xg_iconst C dX1_believersOf_36 (v := (0 : Int32)) (by decide) ?_
      refine xg_istore C dX1_believersOf_37 (by decide) (L' := [some (.ref (G.2.2 3 0)), some (.int a1), some (.int a2), some (.int x), some (.int (nI i)), some (.int (0 : Int32))]) rfl ?_
      refine xg_iload C dX1_believersOf_39 rfl ?_
      refine xg_if_eq C 60 dX1_believersOf_41 (by decide) (fun h3 => ?_) (fun h3 => by exact absurd h3 (by decide))
      refine xg_iinc C dX1_believersOf_60 rfl (v := (nI (i + 1))) (xinc i) (by decide) (L' := [some (.ref (G.2.2 3 0)), some (.int a1), some (.int a2), some (.int x), some (.int (nI (i + 1))), some (.int (0 : Int32))]) rfl ?_
      refine xg_goto C 5 dX1_believersOf_63 (by decide) ?_
      have e : (bX1_believersOf_5 a1 a2 S) (nI i) x = x := by first | (rw [bX1_believersOf_5, if_neg h2]; done) | (rw [bX1_believersOf_5, if_neg h2]; rfl)
      rw [e] at K
      exact xg_le K ⟨rfl, rfl, rfl, rfl, rfl, trivial⟩
    · refine xg_aload_n C dX1_believersOf_22 rfl ?_
      refine xg_iload C dX1_believersOf_23 rfl ?_
      refine xg_iload_n C dX1_believersOf_25 rfl ?_
      refine xg_callVi C V (f := 3) (As := [.int (nI i), .int a1]) (r := (fX1_hasNews (nI i) a1 S)) (fun l => kX1_hasNews l hap (nI i) a1 S (by assumption) (by assumption)) gX1_believersOf_X1_hasNews rfl hdX1_hasNews ⟨by decide, by decide⟩ rfl rfl rfl rfl rfl (Nat.le_of_ble_eq_true rfl) ⟨Nat.zero_le _, Nat.zero_le _⟩ dX1_believersOf_26 ?_
      refine xg_if_eq C 36 dX1_believersOf_29 (by decide) (fun h4 => ?_) (fun h4 => ?_)
      · refine xg_iconst C dX1_believersOf_36 (v := (0 : Int32)) (by decide) ?_
        refine xg_istore C dX1_believersOf_37 (by decide) (L' := [some (.ref (G.2.2 3 0)), some (.int a1), some (.int a2), some (.int x), some (.int (nI i)), some (.int (0 : Int32))]) rfl ?_
        refine xg_iload C dX1_believersOf_39 rfl ?_
        refine xg_if_eq C 60 dX1_believersOf_41 (by decide) (fun h5 => ?_) (fun h5 => by exact absurd h5 (by decide))
        refine xg_iinc C dX1_believersOf_60 rfl (v := (nI (i + 1))) (xinc i) (by decide) (L' := [some (.ref (G.2.2 3 0)), some (.int a1), some (.int a2), some (.int x), some (.int (nI (i + 1))), some (.int (0 : Int32))]) rfl ?_
        refine xg_goto C 5 dX1_believersOf_63 (by decide) ?_
        have e : (bX1_believersOf_5 a1 a2 S) (nI i) x = x := by first | (rw [bX1_believersOf_5, if_pos h2, if_pos h4]; done) | (rw [bX1_believersOf_5, if_pos h2, if_pos h4]; rfl)
        rw [e] at K
        exact xg_le K ⟨rfl, rfl, rfl, rfl, rfl, trivial⟩
      · refine xg_iconst C dX1_believersOf_32 (v := (1 : Int32)) (by decide) ?_
        refine xg_goto C 37 dX1_believersOf_33 (by decide) ?_
        refine xg_istore C dX1_believersOf_37 (by decide) (L' := [some (.ref (G.2.2 3 0)), some (.int a1), some (.int a2), some (.int x), some (.int (nI i)), some (.int (1 : Int32))]) rfl ?_
        refine xg_iload C dX1_believersOf_39 rfl ?_
        refine xg_if_eq C 60 dX1_believersOf_41 (by decide) (fun h6 => by exact absurd h6 (by decide)) (fun h6 => ?_)
        refine xg_aload_n C dX1_believersOf_44 rfl ?_
        refine xg_getR C V (f := 3) qX1_believersOf_27 rfl rfl rfl dX1_believersOf_45 ?_
        refine xg_iload C dX1_believersOf_48 rfl ?_
        refine xg_aald C V (f := 23) (b := 29) rfl (by assumption) dX1_believersOf_50 ?_
        refine xg_iload_n C dX1_believersOf_51 rfl ?_
        refine xg_iald C V (f := 29) (n := 8) (N := 8) rfl (by decide) (xR_8 (by decide) (by assumption)) (by assumption) dX1_believersOf_52 (v := (S 29 (nI i) a1)) rfl ?_
        refine xg_iload_n C dX1_believersOf_53 rfl ?_
        refine xg_icmp_ne C 60 dX1_believersOf_54 (by decide) (fun h7 => ?_) (fun h7 => ?_)
        · refine xg_iinc C dX1_believersOf_60 rfl (v := (nI (i + 1))) (xinc i) (by decide) (L' := [some (.ref (G.2.2 3 0)), some (.int a1), some (.int a2), some (.int x), some (.int (nI (i + 1))), some (.int (1 : Int32))]) rfl ?_
          refine xg_goto C 5 dX1_believersOf_63 (by decide) ?_
          have e : (bX1_believersOf_5 a1 a2 S) (nI i) x = x := by first | (rw [bX1_believersOf_5, if_pos h2, if_neg h4, if_neg h7]; done) | (rw [bX1_believersOf_5, if_pos h2, if_neg h4, if_neg h7]; rfl)
          rw [e] at K
          exact xg_le K ⟨rfl, rfl, rfl, rfl, rfl, trivial⟩
        · refine xg_iinc C dX1_believersOf_57 rfl (v := (x + (1 : Int32))) (xincv _) (by decide) (L' := [some (.ref (G.2.2 3 0)), some (.int a1), some (.int a2), some (.int (x + (1 : Int32))), some (.int (nI i)), some (.int (1 : Int32))]) rfl ?_
          refine xg_iinc C dX1_believersOf_60 rfl (v := (nI (i + 1))) (xinc i) (by decide) (L' := [some (.ref (G.2.2 3 0)), some (.int a1), some (.int a2), some (.int (x + (1 : Int32))), some (.int (nI (i + 1))), some (.int (1 : Int32))]) rfl ?_
          refine xg_goto C 5 dX1_believersOf_63 (by decide) ?_
          have e : (bX1_believersOf_5 a1 a2 S) (nI i) x = (x + (1 : Int32)) := by first | (rw [bX1_believersOf_5, if_pos h2, if_neg h4, if_pos h7]; done) | (rw [bX1_believersOf_5, if_pos h2, if_neg h4, if_pos h7]; rfl)
          rw [e] at K
          exact xg_le K ⟨rfl, rfl, rfl, rfl, rfl, trivial⟩
  · show xg F 0 0 5 [some (.ref (G.2.2 3 0)), some (.int a1), some (.int a2), some (.int (xfold (bX1_believersOf_5 a1 a2 S) 8 (0 : Int32))), some (.int (nI 8)), none] [] (xP xYc G S)
    refine xg_iload C dX1_believersOf_5 rfl ?_
    refine xg_bipush C dX1_believersOf_7 (v := (8 : Int32)) (by decide) ?_
    refine xg_icmp_ge C 66 dX1_believersOf_9 (by decide) (fun h8 => ?_) (fun h8 => absurd (nI_le (Nat.le_refl _) (by decide)) h8)
    refine xg_iload_n C dX1_believersOf_66 rfl ?_
    exact xret_i E dX1_believersOf_67 (rfl) rfl
theorem iX1_countHolders_X1 : ∀ w ∈ wsX10, w ∈ wsX1_countHolders := by decide +kernel
theorem qX1_countHolders_9 : xFr wsX1_countHolders RX1 9 RX1 TX1 12 0 := ⟨iX1_countHolders_X1, List.mem_of_getElem? (i := 1) rfl, by decide⟩
theorem qX1_countHolders_39 : xFr wsX1_countHolders RX1 39 RX1 TX1 12 8 := ⟨iX1_countHolders_X1, List.mem_of_getElem? (i := 2) rfl, by decide⟩
def bX1_countHolders_5 (a1 : Int32) (a2 : Int32) (S : xS) (i : Int32) (x : Int32) : Int32 :=
  if (S 19 0 i) = (0 : Int32) then
    if (S 33 i a1) = a2 then
      (x + (1 : Int32))
    else
      x
  else
    x
def fX1_countHolders (a1 : Int32) (a2 : Int32) (S : xS) : Int32 :=
  (xfold (bX1_countHolders_5 a1 a2 S) 8 (0 : Int32))
theorem hdX1_countHolders : yX1_countHolders.cls = RX1 ∧ yX1_countHolders.cls ≠ "java/lang/invoke/MethodHandle" ∧ yX1_countHolders.cls ≠ "java/lang/invoke/VarHandle" ∧ (parseMethodDescriptor yX1_countHolders.desc).map (fun d => d.parameters.length) = some 2 := by decide +kernel
set_option maxRecDepth 100000 in
set_option maxHeartbeats 4000000 in
theorem kX1_countHolders (l : Launch) {G : xG} (hap : xAp xYc G) (a1 : Int32) (a2 : Int32) (S : xS) (g_a1 : vp_in a1 8) : xMi l xYc G yX1_countHolders wsX1_countHolders 0 0 [.ref (G.2.2 3 0), .int a1, .int a2] S S (fX1_countHolders a1 a2 S) := by
  refine xMi_of (cc := cX1_countHolders) (maxL := 5) (ty := .int) (own := RX1) [some (.ref (G.2.2 3 0)), some (.int a1), some (.int a2), none, none] pnX1 rfl rfl rfl (xcat1 rfl) (Nat.le_of_ble_eq_true rfl) rfl hap (fun F C V E => ?_)
  refine xg_iconst C dX1_countHolders_0 (v := (0 : Int32)) (by decide) ?_
  refine xg_istore_n C dX1_countHolders_1 (by decide) (L' := [some (.ref (G.2.2 3 0)), some (.int a1), some (.int a2), some (.int (0 : Int32)), none]) rfl ?_
  refine xg_iconst C dX1_countHolders_2 (v := (0 : Int32)) (by decide) ?_
  refine xg_istore C dX1_countHolders_3 (by decide) (L' := [some (.ref (G.2.2 3 0)), some (.int a1), some (.int a2), some (.int (0 : Int32)), some (.int (0 : Int32))]) rfl ?_
  refine xloop (fun (ii : Int32) (x : Int32) => xg F 0 0 5 [some (.ref (G.2.2 3 0)), some (.int a1), some (.int a2), some (.int x), some (.int ii)] [] (xP xYc G S)) (bX1_countHolders_5 a1 a2 S) 8 (0 : Int32) (fun i hi x K => ?_) ?_
  · have hi8 : vp_in (nI i) 8 := vp_in_nI hi (by decide)
    show xg F 0 0 5 [some (.ref (G.2.2 3 0)), some (.int a1), some (.int a2), some (.int x), some (.int (nI i))] [] (xP xYc G S)
    refine xg_iload C dX1_countHolders_5 rfl ?_
    refine xg_bipush C dX1_countHolders_7 (v := (8 : Int32)) (by decide) ?_
    refine xg_icmp_ge C 44 dX1_countHolders_9 (by decide) (fun h1 => absurd h1 (nI_ge hi (by decide))) (fun h1 => ?_)
    refine xg_aload_n C dX1_countHolders_12 rfl ?_
    refine xg_getR C V (f := 3) qX1_countHolders_9 rfl rfl rfl dX1_countHolders_13 ?_
    refine xg_iload C dX1_countHolders_16 rfl ?_
    refine xg_zald C V (f := 19) (n := 1) (N := 8) rfl (by decide) (xR_0 (by decide)) (by assumption) dX1_countHolders_18 (v := (S 19 0 (nI i))) rfl ?_
    refine xg_if_ne C 38 dX1_countHolders_19 (by decide) (fun h2 => ?_) (fun h2 => ?_)
    · refine xg_iinc C dX1_countHolders_38 rfl (v := (nI (i + 1))) (xinc i) (by decide) (L' := [some (.ref (G.2.2 3 0)), some (.int a1), some (.int a2), some (.int x), some (.int (nI (i + 1)))]) rfl ?_
      refine xg_goto C 5 dX1_countHolders_41 (by decide) ?_
      have e : (bX1_countHolders_5 a1 a2 S) (nI i) x = x := by first | (rw [bX1_countHolders_5, if_neg h2]; done) | (rw [bX1_countHolders_5, if_neg h2]; rfl)
      rw [e] at K
      exact xg_le K ⟨rfl, rfl, rfl, rfl, rfl, trivial⟩
    · refine xg_aload_n C dX1_countHolders_22 rfl ?_
      refine xg_getR C V (f := 3) qX1_countHolders_39 rfl rfl rfl dX1_countHolders_23 ?_
      refine xg_iload C dX1_countHolders_26 rfl ?_
      refine xg_aald C V (f := 27) (b := 33) rfl (by assumption) dX1_countHolders_28 ?_
      refine xg_iload_n C dX1_countHolders_29 rfl ?_
      refine xg_iald C V (f := 33) (n := 8) (N := 8) rfl (by decide) (xR_8 (by decide) (by assumption)) (by assumption) dX1_countHolders_30 (v := (S 33 (nI i) a1)) rfl ?_
      refine xg_iload_n C dX1_countHolders_31 rfl ?_
      refine xg_icmp_ne C 38 dX1_countHolders_32 (by decide) (fun h3 => ?_) (fun h3 => ?_)
      · refine xg_iinc C dX1_countHolders_38 rfl (v := (nI (i + 1))) (xinc i) (by decide) (L' := [some (.ref (G.2.2 3 0)), some (.int a1), some (.int a2), some (.int x), some (.int (nI (i + 1)))]) rfl ?_
        refine xg_goto C 5 dX1_countHolders_41 (by decide) ?_
        have e : (bX1_countHolders_5 a1 a2 S) (nI i) x = x := by first | (rw [bX1_countHolders_5, if_pos h2, if_neg h3]; done) | (rw [bX1_countHolders_5, if_pos h2, if_neg h3]; rfl)
        rw [e] at K
        exact xg_le K ⟨rfl, rfl, rfl, rfl, rfl, trivial⟩
      · refine xg_iinc C dX1_countHolders_35 rfl (v := (x + (1 : Int32))) (xincv _) (by decide) (L' := [some (.ref (G.2.2 3 0)), some (.int a1), some (.int a2), some (.int (x + (1 : Int32))), some (.int (nI i))]) rfl ?_
        refine xg_iinc C dX1_countHolders_38 rfl (v := (nI (i + 1))) (xinc i) (by decide) (L' := [some (.ref (G.2.2 3 0)), some (.int a1), some (.int a2), some (.int (x + (1 : Int32))), some (.int (nI (i + 1)))]) rfl ?_
        refine xg_goto C 5 dX1_countHolders_41 (by decide) ?_
        have e : (bX1_countHolders_5 a1 a2 S) (nI i) x = (x + (1 : Int32)) := by first | (rw [bX1_countHolders_5, if_pos h2, if_pos h3]; done) | (rw [bX1_countHolders_5, if_pos h2, if_pos h3]; rfl)
        rw [e] at K
        exact xg_le K ⟨rfl, rfl, rfl, rfl, rfl, trivial⟩
  · show xg F 0 0 5 [some (.ref (G.2.2 3 0)), some (.int a1), some (.int a2), some (.int (xfold (bX1_countHolders_5 a1 a2 S) 8 (0 : Int32))), some (.int (nI 8))] [] (xP xYc G S)
    refine xg_iload C dX1_countHolders_5 rfl ?_
    refine xg_bipush C dX1_countHolders_7 (v := (8 : Int32)) (by decide) ?_
    refine xg_icmp_ge C 44 dX1_countHolders_9 (by decide) (fun h4 => ?_) (fun h4 => absurd (nI_le (Nat.le_refl _) (by decide)) h4)
    refine xg_iload_n C dX1_countHolders_44 rfl ?_
    exact xret_i E dX1_countHolders_45 (rfl) rfl
theorem iX1_countUnnoticed_X1 : ∀ w ∈ wsX10, w ∈ wsX1_countUnnoticed := by decide +kernel
theorem qX1_countUnnoticed_9 : xFr wsX1_countUnnoticed RX1 9 RX1 TX1 12 0 := ⟨iX1_countUnnoticed_X1, List.mem_of_getElem? (i := 1) rfl, by decide⟩
def bX1_countUnnoticed_4  (S : xS) (i : Int32) (x : Int32) : Int32 :=
  if (S 19 0 i) = (0 : Int32) then
    x
  else
    if (fX1_countHolders i (0 : Int32) S) ≤ (0 : Int32) then
      x
    else
      (x + (1 : Int32))
def fX1_countUnnoticed  (S : xS) : Int32 :=
  (xfold (bX1_countUnnoticed_4 S) 8 (0 : Int32))
theorem hdX1_countUnnoticed : yX1_countUnnoticed.cls = RX1 ∧ yX1_countUnnoticed.cls ≠ "java/lang/invoke/MethodHandle" ∧ yX1_countUnnoticed.cls ≠ "java/lang/invoke/VarHandle" ∧ (parseMethodDescriptor yX1_countUnnoticed.desc).map (fun d => d.parameters.length) = some 0 := by decide +kernel
set_option maxRecDepth 100000 in
set_option maxHeartbeats 4000000 in
theorem kX1_countUnnoticed (l : Launch) {G : xG} (hap : xAp xYc G)  (S : xS)  : xMi l xYc G yX1_countUnnoticed wsX1_countUnnoticed 1 24 [.ref (G.2.2 3 0)] S S (fX1_countUnnoticed S) := by
  refine xMi_of (cc := cX1_countUnnoticed) (maxL := 3) (ty := .int) (own := RX1) [some (.ref (G.2.2 3 0)), none, none] pnX1 rfl rfl rfl (xcat1 rfl) (Nat.le_of_ble_eq_true rfl) rfl hap (fun F C V E => ?_)
  refine xg_iconst C dX1_countUnnoticed_0 (v := (0 : Int32)) (by decide) ?_
  refine xg_istore_n C dX1_countUnnoticed_1 (by decide) (L' := [some (.ref (G.2.2 3 0)), some (.int (0 : Int32)), none]) rfl ?_
  refine xg_iconst C dX1_countUnnoticed_2 (v := (0 : Int32)) (by decide) ?_
  refine xg_istore_n C dX1_countUnnoticed_3 (by decide) (L' := [some (.ref (G.2.2 3 0)), some (.int (0 : Int32)), some (.int (0 : Int32))]) rfl ?_
  refine xloop (fun (ii : Int32) (x : Int32) => xg F 0 0 4 [some (.ref (G.2.2 3 0)), some (.int x), some (.int ii)] [] (xP xYc G S)) (bX1_countUnnoticed_4 S) 8 (0 : Int32) (fun i hi x K => ?_) ?_
  · have hi8 : vp_in (nI i) 8 := vp_in_nI hi (by decide)
    show xg F 0 0 4 [some (.ref (G.2.2 3 0)), some (.int x), some (.int (nI i))] [] (xP xYc G S)
    refine xg_iload_n C dX1_countUnnoticed_4 rfl ?_
    refine xg_bipush C dX1_countUnnoticed_5 (v := (8 : Int32)) (by decide) ?_
    refine xg_icmp_ge C 37 dX1_countUnnoticed_7 (by decide) (fun h1 => absurd h1 (nI_ge hi (by decide))) (fun h1 => ?_)
    refine xg_aload_n C dX1_countUnnoticed_10 rfl ?_
    refine xg_getR C V (f := 3) qX1_countUnnoticed_9 rfl rfl rfl dX1_countUnnoticed_11 ?_
    refine xg_iload_n C dX1_countUnnoticed_14 rfl ?_
    refine xg_zald C V (f := 19) (n := 1) (N := 8) rfl (by decide) (xR_0 (by decide)) (by assumption) dX1_countUnnoticed_15 (v := (S 19 0 (nI i))) rfl ?_
    refine xg_if_eq C 31 dX1_countUnnoticed_16 (by decide) (fun h2 => ?_) (fun h2 => ?_)
    · refine xg_iinc C dX1_countUnnoticed_31 rfl (v := (nI (i + 1))) (xinc i) (by decide) (L' := [some (.ref (G.2.2 3 0)), some (.int x), some (.int (nI (i + 1)))]) rfl ?_
      refine xg_goto C 4 dX1_countUnnoticed_34 (by decide) ?_
      have e : (bX1_countUnnoticed_4 S) (nI i) x = x := by first | (rw [bX1_countUnnoticed_4, if_pos h2]; done) | (rw [bX1_countUnnoticed_4, if_pos h2]; rfl)
      rw [e] at K
      exact xg_le K ⟨rfl, rfl, rfl, trivial⟩
    · refine xg_aload_n C dX1_countUnnoticed_19 rfl ?_
      refine xg_iload_n C dX1_countUnnoticed_20 rfl ?_
      refine xg_iconst C dX1_countUnnoticed_21 (v := (0 : Int32)) (by decide) ?_
      refine xg_callVi C V (f := 3) (As := [.int (nI i), .int (0 : Int32)]) (r := (fX1_countHolders (nI i) (0 : Int32) S)) (fun l => kX1_countHolders l hap (nI i) (0 : Int32) S (by assumption)) gX1_countUnnoticed_X1_countHolders rfl hdX1_countHolders ⟨by decide, by decide⟩ rfl rfl rfl rfl rfl (Nat.le_of_ble_eq_true rfl) ⟨Nat.zero_le _, Nat.zero_le _⟩ dX1_countUnnoticed_22 ?_
      refine xg_if_le C 31 dX1_countUnnoticed_25 (by decide) (fun h3 => ?_) (fun h3 => ?_)
      · refine xg_iinc C dX1_countUnnoticed_31 rfl (v := (nI (i + 1))) (xinc i) (by decide) (L' := [some (.ref (G.2.2 3 0)), some (.int x), some (.int (nI (i + 1)))]) rfl ?_
        refine xg_goto C 4 dX1_countUnnoticed_34 (by decide) ?_
        have e : (bX1_countUnnoticed_4 S) (nI i) x = x := by first | (rw [bX1_countUnnoticed_4, if_neg h2, if_pos h3]; done) | (rw [bX1_countUnnoticed_4, if_neg h2, if_pos h3]; rfl)
        rw [e] at K
        exact xg_le K ⟨rfl, rfl, rfl, trivial⟩
      · refine xg_iinc C dX1_countUnnoticed_28 rfl (v := (x + (1 : Int32))) (xincv _) (by decide) (L' := [some (.ref (G.2.2 3 0)), some (.int (x + (1 : Int32))), some (.int (nI i))]) rfl ?_
        refine xg_iinc C dX1_countUnnoticed_31 rfl (v := (nI (i + 1))) (xinc i) (by decide) (L' := [some (.ref (G.2.2 3 0)), some (.int (x + (1 : Int32))), some (.int (nI (i + 1)))]) rfl ?_
        refine xg_goto C 4 dX1_countUnnoticed_34 (by decide) ?_
        have e : (bX1_countUnnoticed_4 S) (nI i) x = (x + (1 : Int32)) := by first | (rw [bX1_countUnnoticed_4, if_neg h2, if_neg h3]; done) | (rw [bX1_countUnnoticed_4, if_neg h2, if_neg h3]; rfl)
        rw [e] at K
        exact xg_le K ⟨rfl, rfl, rfl, trivial⟩
  · show xg F 0 0 4 [some (.ref (G.2.2 3 0)), some (.int (xfold (bX1_countUnnoticed_4 S) 8 (0 : Int32))), some (.int (nI 8))] [] (xP xYc G S)
    refine xg_iload_n C dX1_countUnnoticed_4 rfl ?_
    refine xg_bipush C dX1_countUnnoticed_5 (v := (8 : Int32)) (by decide) ?_
    refine xg_icmp_ge C 37 dX1_countUnnoticed_7 (by decide) (fun h4 => ?_) (fun h4 => absurd (nI_le (Nat.le_refl _) (by decide)) h4)
    refine xg_iload_n C dX1_countUnnoticed_37 rfl ?_
    exact xret_i E dX1_countUnnoticed_38 (rfl) rfl
theorem iX1_countMistaken_X1 : ∀ w ∈ wsX10, w ∈ wsX1_countMistaken := by decide +kernel
theorem qX1_countMistaken_9 : xFr wsX1_countMistaken RX1 9 RX1 TX1 12 0 := ⟨iX1_countMistaken_X1, List.mem_of_getElem? (i := 1) rfl, by decide⟩
def bX1_countMistaken_4  (S : xS) (i : Int32) (x : Int32) : Int32 :=
  if (S 19 0 i) = (0 : Int32) then
    (x + (fX1_countHolders i (2 : Int32) S))
  else
    x
def fX1_countMistaken  (S : xS) : Int32 :=
  (xfold (bX1_countMistaken_4 S) 8 (0 : Int32))
theorem hdX1_countMistaken : yX1_countMistaken.cls = RX1 ∧ yX1_countMistaken.cls ≠ "java/lang/invoke/MethodHandle" ∧ yX1_countMistaken.cls ≠ "java/lang/invoke/VarHandle" ∧ (parseMethodDescriptor yX1_countMistaken.desc).map (fun d => d.parameters.length) = some 0 := by decide +kernel
set_option maxRecDepth 100000 in
set_option maxHeartbeats 4000000 in
theorem kX1_countMistaken (l : Launch) {G : xG} (hap : xAp xYc G)  (S : xS)  : xMi l xYc G yX1_countMistaken wsX1_countMistaken 1 24 [.ref (G.2.2 3 0)] S S (fX1_countMistaken S) := by
  refine xMi_of (cc := cX1_countMistaken) (maxL := 3) (ty := .int) (own := RX1) [some (.ref (G.2.2 3 0)), none, none] pnX1 rfl rfl rfl (xcat1 rfl) (Nat.le_of_ble_eq_true rfl) rfl hap (fun F C V E => ?_)
  refine xg_iconst C dX1_countMistaken_0 (v := (0 : Int32)) (by decide) ?_
  refine xg_istore_n C dX1_countMistaken_1 (by decide) (L' := [some (.ref (G.2.2 3 0)), some (.int (0 : Int32)), none]) rfl ?_
  refine xg_iconst C dX1_countMistaken_2 (v := (0 : Int32)) (by decide) ?_
  refine xg_istore_n C dX1_countMistaken_3 (by decide) (L' := [some (.ref (G.2.2 3 0)), some (.int (0 : Int32)), some (.int (0 : Int32))]) rfl ?_
  refine xloop (fun (ii : Int32) (x : Int32) => xg F 0 0 4 [some (.ref (G.2.2 3 0)), some (.int x), some (.int ii)] [] (xP xYc G S)) (bX1_countMistaken_4 S) 8 (0 : Int32) (fun i hi x K => ?_) ?_
  · have hi8 : vp_in (nI i) 8 := vp_in_nI hi (by decide)
    show xg F 0 0 4 [some (.ref (G.2.2 3 0)), some (.int x), some (.int (nI i))] [] (xP xYc G S)
    refine xg_iload_n C dX1_countMistaken_4 rfl ?_
    refine xg_bipush C dX1_countMistaken_5 (v := (8 : Int32)) (by decide) ?_
    refine xg_icmp_ge C 34 dX1_countMistaken_7 (by decide) (fun h1 => absurd h1 (nI_ge hi (by decide))) (fun h1 => ?_)
    refine xg_aload_n C dX1_countMistaken_10 rfl ?_
    refine xg_getR C V (f := 3) qX1_countMistaken_9 rfl rfl rfl dX1_countMistaken_11 ?_
    refine xg_iload_n C dX1_countMistaken_14 rfl ?_
    refine xg_zald C V (f := 19) (n := 1) (N := 8) rfl (by decide) (xR_0 (by decide)) (by assumption) dX1_countMistaken_15 (v := (S 19 0 (nI i))) rfl ?_
    refine xg_if_ne C 28 dX1_countMistaken_16 (by decide) (fun h2 => ?_) (fun h2 => ?_)
    · refine xg_iinc C dX1_countMistaken_28 rfl (v := (nI (i + 1))) (xinc i) (by decide) (L' := [some (.ref (G.2.2 3 0)), some (.int x), some (.int (nI (i + 1)))]) rfl ?_
      refine xg_goto C 4 dX1_countMistaken_31 (by decide) ?_
      have e : (bX1_countMistaken_4 S) (nI i) x = x := by first | (rw [bX1_countMistaken_4, if_neg h2]; done) | (rw [bX1_countMistaken_4, if_neg h2]; rfl)
      rw [e] at K
      exact xg_le K ⟨rfl, rfl, rfl, trivial⟩
    · refine xg_iload_n C dX1_countMistaken_19 rfl ?_
      refine xg_aload_n C dX1_countMistaken_20 rfl ?_
      refine xg_iload_n C dX1_countMistaken_21 rfl ?_
      refine xg_iconst C dX1_countMistaken_22 (v := (2 : Int32)) (by decide) ?_
      refine xg_callVi C V (f := 3) (As := [.int (nI i), .int (2 : Int32)]) (r := (fX1_countHolders (nI i) (2 : Int32) S)) (fun l => kX1_countHolders l hap (nI i) (2 : Int32) S (by assumption)) gX1_countMistaken_X1_countHolders rfl hdX1_countHolders ⟨by decide, by decide⟩ rfl rfl rfl rfl rfl (Nat.le_of_ble_eq_true rfl) ⟨Nat.zero_le _, Nat.zero_le _⟩ dX1_countMistaken_23 ?_
      refine xg_iadd C dX1_countMistaken_26 ?_
      refine xg_istore_n C dX1_countMistaken_27 (by decide) (L' := [some (.ref (G.2.2 3 0)), some (.int (x + (fX1_countHolders (nI i) (2 : Int32) S))), some (.int (nI i))]) rfl ?_
      refine xg_iinc C dX1_countMistaken_28 rfl (v := (nI (i + 1))) (xinc i) (by decide) (L' := [some (.ref (G.2.2 3 0)), some (.int (x + (fX1_countHolders (nI i) (2 : Int32) S))), some (.int (nI (i + 1)))]) rfl ?_
      refine xg_goto C 4 dX1_countMistaken_31 (by decide) ?_
      have e : (bX1_countMistaken_4 S) (nI i) x = (x + (fX1_countHolders (nI i) (2 : Int32) S)) := by first | (rw [bX1_countMistaken_4, if_pos h2]; done) | (rw [bX1_countMistaken_4, if_pos h2]; rfl)
      rw [e] at K
      exact xg_le K ⟨rfl, rfl, rfl, trivial⟩
  · show xg F 0 0 4 [some (.ref (G.2.2 3 0)), some (.int (xfold (bX1_countMistaken_4 S) 8 (0 : Int32))), some (.int (nI 8))] [] (xP xYc G S)
    refine xg_iload_n C dX1_countMistaken_4 rfl ?_
    refine xg_bipush C dX1_countMistaken_5 (v := (8 : Int32)) (by decide) ?_
    refine xg_icmp_ge C 34 dX1_countMistaken_7 (by decide) (fun h3 => ?_) (fun h3 => absurd (nI_le (Nat.le_refl _) (by decide)) h3)
    refine xg_iload_n C dX1_countMistaken_34 rfl ?_
    exact xret_i E dX1_countMistaken_35 (rfl) rfl
