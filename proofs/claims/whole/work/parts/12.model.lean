/-! 12: GossipGatesModel: called and what asks over all -/
def bX4_called_5 (a1 : Int32) (a2 : Int32) (S : xS) (i : Int32) (x : Int32) : Int32 :=
  if (fX4_isCallable a1 i a2 S) = (0 : Int32) then
    (x + (0 : Int32))
  else
    (x + (1 : Int32))
def jX4_called_38 (a1 : Int32) (a2 : Int32) (q : Int32) : Int32 :=
  if q = (0 : Int32) then
    (0 : Int32)
  else
    ((((5 : Int32) * a2) + ((3 : Int32) * a1)) - (((5 : Int32) * a2) + ((3 : Int32) * a1)) / q * q)
def bX4_called_63 (a1 : Int32) (a2 : Int32) (p : Int32) (S : xS) (i : Int32) (x : Int32 × Int32) : Int32 × Int32 :=
  if (fX4_isCallable a1 i a2 S) = (0 : Int32) then
    ((x.1 - (0 : Int32)), x.2)
  else
    if (x.1 - (1 : Int32)) = p then
      ((x.1 - (1 : Int32)), i)
    else
      ((x.1 - (1 : Int32)), x.2)
def fX4_called (a1 : Int32) (a2 : Int32) (S : xS) : Int32 :=
  (xfoldD (bX4_called_63 a1 a2 (jX4_called_38 a1 a2 (xfold (bX4_called_5 a1 a2 S) 8 (0 : Int32))) S) 8 ((xfold (bX4_called_5 a1 a2 S) 8 (0 : Int32)), (-1 : Int32))).2
theorem hdX4_called : yX4_called.cls = RX4 ∧ yX4_called.cls ≠ "java/lang/invoke/MethodHandle" ∧ yX4_called.cls ≠ "java/lang/invoke/VarHandle" ∧ (parseMethodDescriptor yX4_called.desc).map (fun d => d.parameters.length) = some 2 := by decide +kernel
set_option maxRecDepth 100000 in
set_option maxHeartbeats 4000000 in
theorem kX4_called (l : Launch) {G : xG} (hap : xAp xYm G) (a1 : Int32) (a2 : Int32) (S : xS) (g_a1 : vp_in a1 8) : xMi l xYm G yX4_called wsX4_called 2 44 [.ref (G.2.2 0 0), .int a1, .int a2] S S (fX4_called a1 a2 S) := by
  refine xMi_of (cc := cX4_called) (maxL := 8) (ty := .int) (own := RX4) [some (.ref (G.2.2 0 0)), some (.int a1), some (.int a2), none, none, none, none, none] pnX4 rfl rfl rfl (xcat1 rfl) (Nat.le_of_ble_eq_true rfl) rfl hap (fun F C V E => ?_)
  refine xg_iconst C dX4_called_0 (v := (0 : Int32)) (by decide) ?_
  refine xg_istore_n C dX4_called_1 (by decide) (L' := [some (.ref (G.2.2 0 0)), some (.int a1), some (.int a2), some (.int (0 : Int32)), none, none, none, none]) rfl ?_
  refine xg_iconst C dX4_called_2 (v := (0 : Int32)) (by decide) ?_
  refine xg_istore C dX4_called_3 (by decide) (L' := [some (.ref (G.2.2 0 0)), some (.int a1), some (.int a2), some (.int (0 : Int32)), some (.int (0 : Int32)), none, none, none]) rfl ?_
  refine xloop (fun (ii : Int32) (x : Int32) => xg F 0 0 5 [some (.ref (G.2.2 0 0)), some (.int a1), some (.int a2), some (.int x), some (.int ii), none, none, none] [] (xP xYm G S)) (bX4_called_5 a1 a2 S) 8 (0 : Int32) (fun i hi x K => ?_) ?_
  · have hi8 : vp_in (nI i) 8 := vp_in_nI hi (by decide)
    show xg F 0 0 5 [some (.ref (G.2.2 0 0)), some (.int a1), some (.int a2), some (.int x), some (.int (nI i)), none, none, none] [] (xP xYm G S)
    refine xg_iload C dX4_called_5 rfl ?_
    refine xg_bipush C dX4_called_7 (v := (8 : Int32)) (by decide) ?_
    refine xg_icmp_ge C 37 dX4_called_9 (by decide) (fun h1 => absurd h1 (nI_ge hi (by decide))) (fun h1 => ?_)
    refine xg_iload_n C dX4_called_12 rfl ?_
    refine xg_aload_n C dX4_called_13 rfl ?_
    refine xg_iload_n C dX4_called_14 rfl ?_
    refine xg_iload C dX4_called_15 rfl ?_
    refine xg_iload_n C dX4_called_17 rfl ?_
    refine xg_callVi C V (f := 0) (As := [.int a1, .int (nI i), .int a2]) (r := (fX4_isCallable a1 (nI i) a2 S)) (fun l => kX4_isCallable l hap a1 (nI i) a2 S (by first | assumption | exact xin_one (by assumption) | exact xin_asks (by assumption) | exact xin_ask1 (by assumption) | exact xin_ask2 (by assumption)) (by first | assumption | exact xin_one (by assumption) | exact xin_asks (by assumption) | exact xin_ask1 (by assumption) | exact xin_ask2 (by assumption))) gX4_called_X4_isCallable rfl hdX4_isCallable ⟨by decide, by decide⟩ rfl rfl rfl rfl rfl (Nat.le_of_ble_eq_true rfl) ⟨Nat.zero_le _, Nat.zero_le _⟩ dX4_called_18 ?_
    refine xg_if_eq C 28 dX4_called_21 (by decide) (fun h2 => ?_) (fun h2 => ?_)
    · refine xg_iconst C dX4_called_28 (v := (0 : Int32)) (by decide) ?_
      refine xg_iadd C dX4_called_29 ?_
      refine xg_istore_n C dX4_called_30 (by decide) (L' := [some (.ref (G.2.2 0 0)), some (.int a1), some (.int a2), some (.int (x + (0 : Int32))), some (.int (nI i)), none, none, none]) rfl ?_
      refine xg_iinc C dX4_called_31 rfl (v := (nI (i + 1))) (xinc i) (by decide) (L' := [some (.ref (G.2.2 0 0)), some (.int a1), some (.int a2), some (.int (x + (0 : Int32))), some (.int (nI (i + 1))), none, none, none]) rfl ?_
      refine xg_goto C 5 dX4_called_34 (by decide) ?_
      have e : (bX4_called_5 a1 a2 S) (nI i) x = (x + (0 : Int32)) := by first | (rw [bX4_called_5, if_pos h2]; done) | (rw [bX4_called_5, if_pos h2]; rfl)
      rw [e] at K
      exact xg_le K ⟨rfl, rfl, rfl, rfl, rfl, trivial⟩
    · refine xg_iconst C dX4_called_24 (v := (1 : Int32)) (by decide) ?_
      refine xg_goto C 29 dX4_called_25 (by decide) ?_
      refine xg_iadd C dX4_called_29 ?_
      refine xg_istore_n C dX4_called_30 (by decide) (L' := [some (.ref (G.2.2 0 0)), some (.int a1), some (.int a2), some (.int (x + (1 : Int32))), some (.int (nI i)), none, none, none]) rfl ?_
      refine xg_iinc C dX4_called_31 rfl (v := (nI (i + 1))) (xinc i) (by decide) (L' := [some (.ref (G.2.2 0 0)), some (.int a1), some (.int a2), some (.int (x + (1 : Int32))), some (.int (nI (i + 1))), none, none, none]) rfl ?_
      refine xg_goto C 5 dX4_called_34 (by decide) ?_
      have e : (bX4_called_5 a1 a2 S) (nI i) x = (x + (1 : Int32)) := by first | (rw [bX4_called_5, if_neg h2]; done) | (rw [bX4_called_5, if_neg h2]; rfl)
      rw [e] at K
      exact xg_le K ⟨rfl, rfl, rfl, rfl, rfl, trivial⟩
  · show xg F 0 0 5 [some (.ref (G.2.2 0 0)), some (.int a1), some (.int a2), some (.int (xfold (bX4_called_5 a1 a2 S) 8 (0 : Int32))), some (.int (nI 8)), none, none, none] [] (xP xYm G S)
    refine xg_iload C dX4_called_5 rfl ?_
    refine xg_bipush C dX4_called_7 (v := (8 : Int32)) (by decide) ?_
    refine xg_icmp_ge C 37 dX4_called_9 (by decide) (fun h3 => ?_) (fun h3 => absurd (nI_le (Nat.le_refl _) (by decide)) h3)
    refine xg_iload_n C dX4_called_37 rfl ?_
    suffices hj : xg F 0 0 54 [some (.ref (G.2.2 0 0)), some (.int a1), some (.int a2), some (.int (xfold (bX4_called_5 a1 a2 S) 8 (0 : Int32))), some (.int (nI 8)), none, none, none] [.int (jX4_called_38 a1 a2 (xfold (bX4_called_5 a1 a2 S) 8 (0 : Int32)))] (xP xYm G S) by
      refine xg_if_ne C 45 dX4_called_38 (by decide) (fun h4 => ?_) (fun h4 => ?_)
      · refine xg_iconst C dX4_called_45 (v := (5 : Int32)) (by decide) ?_
        refine xg_iload_n C dX4_called_46 rfl ?_
        refine xg_imul C dX4_called_47 ?_
        refine xg_iconst C dX4_called_48 (v := (3 : Int32)) (by decide) ?_
        refine xg_iload_n C dX4_called_49 rfl ?_
        refine xg_imul C dX4_called_50 ?_
        refine xg_iadd C dX4_called_51 ?_
        refine xg_iload_n C dX4_called_52 rfl ?_
        refine xg_irem C dX4_called_53 (by assumption) ?_
        have e : (jX4_called_38 a1 a2 (xfold (bX4_called_5 a1 a2 S) 8 (0 : Int32))) = ((((5 : Int32) * a2) + ((3 : Int32) * a1)) - (((5 : Int32) * a2) + ((3 : Int32) * a1)) / (xfold (bX4_called_5 a1 a2 S) 8 (0 : Int32)) * (xfold (bX4_called_5 a1 a2 S) 8 (0 : Int32))) := by first | (rw [jX4_called_38, if_neg h4]; done) | (rw [jX4_called_38, if_neg h4]; rfl)
        rw [e] at hj
        exact hj
      · refine xg_iconst C dX4_called_41 (v := (0 : Int32)) (by decide) ?_
        refine xg_goto C 54 dX4_called_42 (by decide) ?_
        have e : (jX4_called_38 a1 a2 (xfold (bX4_called_5 a1 a2 S) 8 (0 : Int32))) = (0 : Int32) := by first | (rw [jX4_called_38, if_pos h4]; done) | (rw [jX4_called_38, if_pos h4]; rfl)
        rw [e] at hj
        exact hj
    refine xg_istore C dX4_called_54 (by decide) (L' := [some (.ref (G.2.2 0 0)), some (.int a1), some (.int a2), some (.int (xfold (bX4_called_5 a1 a2 S) 8 (0 : Int32))), some (.int (jX4_called_38 a1 a2 (xfold (bX4_called_5 a1 a2 S) 8 (0 : Int32)))), none, none, none]) rfl ?_
    refine xg_iconst C dX4_called_56 (v := (-1 : Int32)) (by decide) ?_
    refine xg_istore C dX4_called_57 (by decide) (L' := [some (.ref (G.2.2 0 0)), some (.int a1), some (.int a2), some (.int (xfold (bX4_called_5 a1 a2 S) 8 (0 : Int32))), some (.int (jX4_called_38 a1 a2 (xfold (bX4_called_5 a1 a2 S) 8 (0 : Int32)))), some (.int (-1 : Int32)), none, none]) rfl ?_
    refine xg_bipush C dX4_called_59 (v := (7 : Int32)) (by decide) ?_
    refine xg_istore C dX4_called_61 (by decide) (L' := [some (.ref (G.2.2 0 0)), some (.int a1), some (.int a2), some (.int (xfold (bX4_called_5 a1 a2 S) 8 (0 : Int32))), some (.int (jX4_called_38 a1 a2 (xfold (bX4_called_5 a1 a2 S) 8 (0 : Int32)))), some (.int (-1 : Int32)), some (.int (7 : Int32)), none]) rfl ?_
    refine xloopD0 (fun (ii : Int32) (x : Int32 × Int32) => xg F 0 0 63 [some (.ref (G.2.2 0 0)), some (.int a1), some (.int a2), some (.int x.1), some (.int (jX4_called_38 a1 a2 (xfold (bX4_called_5 a1 a2 S) 8 (0 : Int32)))), some (.int x.2), some (.int ii), none] [] (xP xYm G S)) (bX4_called_63 a1 a2 (jX4_called_38 a1 a2 (xfold (bX4_called_5 a1 a2 S) 8 (0 : Int32))) S) 8 ((xfold (bX4_called_5 a1 a2 S) 8 (0 : Int32)), (-1 : Int32)) (7 : Int32) (by decide) (fun i hi x K => ?_) ?_
    · have hi8 : vp_in (nI i) 8 := vp_in_nI hi (by decide)
      show xg F 0 0 63 [some (.ref (G.2.2 0 0)), some (.int a1), some (.int a2), some (.int x.1), some (.int (jX4_called_38 a1 a2 (xfold (bX4_called_5 a1 a2 S) 8 (0 : Int32)))), some (.int x.2), some (.int (nI i)), none] [] (xP xYm G S)
      refine xg_iload C dX4_called_63 rfl ?_
      refine xg_if_lt C 117 dX4_called_65 (by decide) (fun h5 => absurd h5 (nI_pos (by omega))) (fun h5 => ?_)
      refine xg_aload_n C dX4_called_68 rfl ?_
      refine xg_iload_n C dX4_called_69 rfl ?_
      refine xg_iload C dX4_called_70 rfl ?_
      refine xg_iload_n C dX4_called_72 rfl ?_
      refine xg_callVi C V (f := 0) (As := [.int a1, .int (nI i), .int a2]) (r := (fX4_isCallable a1 (nI i) a2 S)) (fun l => kX4_isCallable l hap a1 (nI i) a2 S (by first | assumption | exact xin_one (by assumption) | exact xin_asks (by assumption) | exact xin_ask1 (by assumption) | exact xin_ask2 (by assumption)) (by first | assumption | exact xin_one (by assumption) | exact xin_asks (by assumption) | exact xin_ask1 (by assumption) | exact xin_ask2 (by assumption))) gX4_called_X4_isCallable rfl hdX4_isCallable ⟨by decide, by decide⟩ rfl rfl rfl rfl rfl (Nat.le_of_ble_eq_true rfl) ⟨Nat.zero_le _, Nat.zero_le _⟩ dX4_called_73 ?_
      refine xg_istore C dX4_called_76 (by decide) (L' := [some (.ref (G.2.2 0 0)), some (.int a1), some (.int a2), some (.int x.1), some (.int (jX4_called_38 a1 a2 (xfold (bX4_called_5 a1 a2 S) 8 (0 : Int32)))), some (.int x.2), some (.int (nI i)), some (.int (fX4_isCallable a1 (nI i) a2 S))]) rfl ?_
      refine xg_iload_n C dX4_called_78 rfl ?_
      refine xg_iload C dX4_called_79 rfl ?_
      refine xg_if_eq C 88 dX4_called_81 (by decide) (fun h6 => ?_) (fun h6 => ?_)
      · refine xg_iconst C dX4_called_88 (v := (0 : Int32)) (by decide) ?_
        refine xg_isub C dX4_called_89 ?_
        refine xg_istore_n C dX4_called_90 (by decide) (L' := [some (.ref (G.2.2 0 0)), some (.int a1), some (.int a2), some (.int (x.1 - (0 : Int32))), some (.int (jX4_called_38 a1 a2 (xfold (bX4_called_5 a1 a2 S) 8 (0 : Int32)))), some (.int x.2), some (.int (nI i)), some (.int (fX4_isCallable a1 (nI i) a2 S))]) rfl ?_
        refine xg_iload C dX4_called_91 rfl ?_
        refine xg_if_eq C 107 dX4_called_93 (by decide) (fun h7 => ?_) (fun h7 => by contradiction)
        refine xg_iload C dX4_called_107 rfl ?_
        refine xg_istore C dX4_called_109 (by decide) (L' := [some (.ref (G.2.2 0 0)), some (.int a1), some (.int a2), some (.int (x.1 - (0 : Int32))), some (.int (jX4_called_38 a1 a2 (xfold (bX4_called_5 a1 a2 S) 8 (0 : Int32)))), some (.int x.2), some (.int (nI i)), some (.int (fX4_isCallable a1 (nI i) a2 S))]) rfl ?_
        refine xg_iinc C dX4_called_111 rfl (v := (nI i - 1)) (xdec i) (by decide) (L' := [some (.ref (G.2.2 0 0)), some (.int a1), some (.int a2), some (.int (x.1 - (0 : Int32))), some (.int (jX4_called_38 a1 a2 (xfold (bX4_called_5 a1 a2 S) 8 (0 : Int32)))), some (.int x.2), some (.int (nI i - 1)), some (.int (fX4_isCallable a1 (nI i) a2 S))]) rfl ?_
        refine xg_goto C 63 dX4_called_114 (by decide) ?_
        have e : (bX4_called_63 a1 a2 (jX4_called_38 a1 a2 (xfold (bX4_called_5 a1 a2 S) 8 (0 : Int32))) S) (nI i) x = ((x.1 - (0 : Int32)), x.2) := by first | (rw [bX4_called_63, if_pos h6]; done) | (rw [bX4_called_63, if_pos h6]; rfl)
        rw [e] at K
        try dsimp only at K
        exact xg_le K ⟨rfl, rfl, rfl, rfl, rfl, rfl, rfl, trivial⟩
      · refine xg_iconst C dX4_called_84 (v := (1 : Int32)) (by decide) ?_
        refine xg_goto C 89 dX4_called_85 (by decide) ?_
        refine xg_isub C dX4_called_89 ?_
        refine xg_istore_n C dX4_called_90 (by decide) (L' := [some (.ref (G.2.2 0 0)), some (.int a1), some (.int a2), some (.int (x.1 - (1 : Int32))), some (.int (jX4_called_38 a1 a2 (xfold (bX4_called_5 a1 a2 S) 8 (0 : Int32)))), some (.int x.2), some (.int (nI i)), some (.int (fX4_isCallable a1 (nI i) a2 S))]) rfl ?_
        refine xg_iload C dX4_called_91 rfl ?_
        refine xg_if_eq C 107 dX4_called_93 (by decide) (fun h8 => by contradiction) (fun h8 => ?_)
        refine xg_iload_n C dX4_called_96 rfl ?_
        refine xg_iload C dX4_called_97 rfl ?_
        refine xg_icmp_ne C 107 dX4_called_99 (by decide) (fun h9 => ?_) (fun h9 => ?_)
        · refine xg_iload C dX4_called_107 rfl ?_
          refine xg_istore C dX4_called_109 (by decide) (L' := [some (.ref (G.2.2 0 0)), some (.int a1), some (.int a2), some (.int (x.1 - (1 : Int32))), some (.int (jX4_called_38 a1 a2 (xfold (bX4_called_5 a1 a2 S) 8 (0 : Int32)))), some (.int x.2), some (.int (nI i)), some (.int (fX4_isCallable a1 (nI i) a2 S))]) rfl ?_
          refine xg_iinc C dX4_called_111 rfl (v := (nI i - 1)) (xdec i) (by decide) (L' := [some (.ref (G.2.2 0 0)), some (.int a1), some (.int a2), some (.int (x.1 - (1 : Int32))), some (.int (jX4_called_38 a1 a2 (xfold (bX4_called_5 a1 a2 S) 8 (0 : Int32)))), some (.int x.2), some (.int (nI i - 1)), some (.int (fX4_isCallable a1 (nI i) a2 S))]) rfl ?_
          refine xg_goto C 63 dX4_called_114 (by decide) ?_
          have e : (bX4_called_63 a1 a2 (jX4_called_38 a1 a2 (xfold (bX4_called_5 a1 a2 S) 8 (0 : Int32))) S) (nI i) x = ((x.1 - (1 : Int32)), x.2) := by first | (rw [bX4_called_63, if_neg h6, if_neg h9]; done) | (rw [bX4_called_63, if_neg h6, if_neg h9]; rfl)
          rw [e] at K
          try dsimp only at K
          exact xg_le K ⟨rfl, rfl, rfl, rfl, rfl, rfl, rfl, trivial⟩
        · refine xg_iload C dX4_called_102 rfl ?_
          refine xg_goto C 109 dX4_called_104 (by decide) ?_
          refine xg_istore C dX4_called_109 (by decide) (L' := [some (.ref (G.2.2 0 0)), some (.int a1), some (.int a2), some (.int (x.1 - (1 : Int32))), some (.int (jX4_called_38 a1 a2 (xfold (bX4_called_5 a1 a2 S) 8 (0 : Int32)))), some (.int (nI i)), some (.int (nI i)), some (.int (fX4_isCallable a1 (nI i) a2 S))]) rfl ?_
          refine xg_iinc C dX4_called_111 rfl (v := (nI i - 1)) (xdec i) (by decide) (L' := [some (.ref (G.2.2 0 0)), some (.int a1), some (.int a2), some (.int (x.1 - (1 : Int32))), some (.int (jX4_called_38 a1 a2 (xfold (bX4_called_5 a1 a2 S) 8 (0 : Int32)))), some (.int (nI i)), some (.int (nI i - 1)), some (.int (fX4_isCallable a1 (nI i) a2 S))]) rfl ?_
          refine xg_goto C 63 dX4_called_114 (by decide) ?_
          have e : (bX4_called_63 a1 a2 (jX4_called_38 a1 a2 (xfold (bX4_called_5 a1 a2 S) 8 (0 : Int32))) S) (nI i) x = ((x.1 - (1 : Int32)), (nI i)) := by first | (rw [bX4_called_63, if_neg h6, if_pos h9]; done) | (rw [bX4_called_63, if_neg h6, if_pos h9]; rfl)
          rw [e] at K
          try dsimp only at K
          exact xg_le K ⟨rfl, rfl, rfl, rfl, rfl, rfl, rfl, trivial⟩
    · show xg F 0 0 63 [some (.ref (G.2.2 0 0)), some (.int a1), some (.int a2), some (.int (xfoldD (bX4_called_63 a1 a2 (jX4_called_38 a1 a2 (xfold (bX4_called_5 a1 a2 S) 8 (0 : Int32))) S) 8 ((xfold (bX4_called_5 a1 a2 S) 8 (0 : Int32)), (-1 : Int32))).1), some (.int (jX4_called_38 a1 a2 (xfold (bX4_called_5 a1 a2 S) 8 (0 : Int32)))), some (.int (xfoldD (bX4_called_63 a1 a2 (jX4_called_38 a1 a2 (xfold (bX4_called_5 a1 a2 S) 8 (0 : Int32))) S) 8 ((xfold (bX4_called_5 a1 a2 S) 8 (0 : Int32)), (-1 : Int32))).2), some (.int (-1 : Int32)), none] [] (xP xYm G S)
      refine xg_iload C dX4_called_63 rfl ?_
      refine xg_if_lt C 117 dX4_called_65 (by decide) (fun h10 => ?_) (fun h10 => by exact absurd h10 (by decide))
      refine xg_iload C dX4_called_117 rfl ?_
      exact xret_i E dX4_called_119 (rfl) rfl
theorem xcalled4_T (a1 a2 : Int32) (S : xS) : fX4_called a1 a2 S = (-1 : Int32) ∨ vp_in (fX4_called a1 a2 S) 8 := by
  unfold fX4_called
  refine xfoldD_T (fun x : Int32 × Int32 => x.2 = (-1 : Int32) ∨ vp_in x.2 8) _ 8 _ (fun i hi x h => ?_) (Or.inl rfl)
  unfold bX4_called_63
  (repeat' split) <;> first | exact h | exact Or.inr (vp_in_nI hi (by decide))
theorem xin_called4 {a1 a2 : Int32} {S : xS} (h : ¬ fX4_called a1 a2 S = (-1 : Int32)) : vp_in (fX4_called a1 a2 S) 8 := (xcalled4_T a1 a2 S).resolve_left h
theorem iX4_partner_X4 : ∀ w ∈ wsX40, w ∈ wsX4_partner := by decide +kernel
theorem qX4_partner_56 : xFr wsX4_partner RX4 56 RX4 TX4 30 16 := ⟨iX4_partner_X4, List.mem_of_getElem? (i := 1) rfl, by decide⟩
theorem qX4_partner_118 : xFr wsX4_partner RX4 118 RX4 TX4 30 28 := ⟨iX4_partner_X4, List.mem_of_getElem? (i := 2) rfl, by decide⟩
def fX4_partner (a1 : Int32) (S : xS) : xS × Int32 :=
  if (fX4_asks a1 S).2 = (0 : Int32) then
    ((fX4_asks a1 S).1, (0 : Int32))
  else
    if ((fX4_asks a1 S).1 16 0 a1) = (0 : Int32) then
      ((fX4_asks a1 S).1, (fX4_called a1 (((fX4_asks a1 S).1 0 0 (nI 28)) + (1 : Int32)) (fX4_asks a1 S).1))
    else
      ((fX4_asks a1 S).1, (-1 : Int32))
theorem hdX4_partner : yX4_partner.cls = RX4 ∧ yX4_partner.cls ≠ "java/lang/invoke/MethodHandle" ∧ yX4_partner.cls ≠ "java/lang/invoke/VarHandle" ∧ (parseMethodDescriptor yX4_partner.desc).map (fun d => d.parameters.length) = some 1 := by decide +kernel
set_option maxRecDepth 100000 in
set_option maxHeartbeats 4000000 in
theorem kX4_partner (l : Launch) {G : xG} (hap : xAp xYm G) (a1 : Int32) (S : xS)  : xMi l xYm G yX4_partner wsX4_partner 3 71 [.ref (G.2.2 0 0), .int a1] S (fX4_partner a1 S).1 (fX4_partner a1 S).2 := by
  refine xMi_of (cc := cX4_partner) (maxL := 2) (ty := .int) (own := RX4) [some (.ref (G.2.2 0 0)), some (.int a1)] pnX4 rfl rfl rfl (xcat1 rfl) (Nat.le_of_ble_eq_true rfl) rfl hap (fun F C V E => ?_)
  refine xg_aload_n C dX4_partner_0 rfl ?_
  refine xg_iload_n C dX4_partner_1 rfl ?_
  refine xg_callVi C V (f := 0) (As := [.int a1]) (r := (fX4_asks a1 S).2) (fun l => kX4_asks l hap a1 S) gX4_partner_X4_asks rfl hdX4_asks ⟨by decide, by decide⟩ rfl rfl rfl rfl rfl (Nat.le_of_ble_eq_true rfl) ⟨Nat.zero_le _, Nat.zero_le _⟩ dX4_partner_2 ?_
  refine xg_if_ne C 12 dX4_partner_5 (by decide) (fun h1 => ?_) (fun h1 => ?_)
  · refine xg_aload_n C dX4_partner_12 rfl ?_
    refine xg_getR C V (f := 0) qX4_partner_56 rfl rfl rfl dX4_partner_13 ?_
    refine xg_iload_n C dX4_partner_16 rfl ?_
    refine xg_zald C V (f := 16) (n := 1) (N := 8) rfl (by decide) (xR_0 (by decide)) (by first | assumption | exact xin_one (by assumption) | exact xin_asks (by assumption) | exact xin_ask1 (by assumption) | exact xin_ask2 (by assumption)) dX4_partner_17 (v := ((fX4_asks a1 S).1 16 0 a1)) rfl ?_
    refine xg_if_eq C 25 dX4_partner_18 (by decide) (fun h2 => ?_) (fun h2 => ?_)
    · refine xg_aload_n C dX4_partner_25 rfl ?_
      refine xg_iload_n C dX4_partner_26 rfl ?_
      refine xg_aload_n C dX4_partner_27 rfl ?_
      refine xg_getI C V (f := 0) qX4_partner_118 rfl rfl rfl dX4_partner_28 (v := ((fX4_asks a1 S).1 0 0 (nI 28))) rfl ?_
      refine xg_iconst C dX4_partner_31 (v := (1 : Int32)) (by decide) ?_
      refine xg_iadd C dX4_partner_32 ?_
      refine xg_callVi C V (f := 0) (As := [.int a1, .int (((fX4_asks a1 S).1 0 0 (nI 28)) + (1 : Int32))]) (r := (fX4_called a1 (((fX4_asks a1 S).1 0 0 (nI 28)) + (1 : Int32)) (fX4_asks a1 S).1)) (fun l => kX4_called l hap a1 (((fX4_asks a1 S).1 0 0 (nI 28)) + (1 : Int32)) (fX4_asks a1 S).1 (by first | assumption | exact xin_one (by assumption) | exact xin_asks (by assumption) | exact xin_ask1 (by assumption) | exact xin_ask2 (by assumption))) gX4_partner_X4_called rfl hdX4_called ⟨by decide, by decide⟩ rfl rfl rfl rfl rfl (Nat.le_of_ble_eq_true rfl) ⟨Nat.zero_le _, Nat.zero_le _⟩ dX4_partner_33 ?_
      have e : (fX4_partner a1 S) = ((fX4_asks a1 S).1, (fX4_called a1 (((fX4_asks a1 S).1 0 0 (nI 28)) + (1 : Int32)) (fX4_asks a1 S).1)) := by first | (rw [fX4_partner, if_neg h1, if_pos h2]; done) | (rw [fX4_partner, if_neg h1, if_pos h2]; rfl)
      exact xret_i E dX4_partner_36 (xsnd e) (xfst e)
    · refine xg_iconst C dX4_partner_21 (v := (-1 : Int32)) (by decide) ?_
      refine xg_goto C 36 dX4_partner_22 (by decide) ?_
      have e : (fX4_partner a1 S) = ((fX4_asks a1 S).1, (-1 : Int32)) := by first | (rw [fX4_partner, if_neg h1, if_neg h2]; done) | (rw [fX4_partner, if_neg h1, if_neg h2]; rfl)
      exact xret_i E dX4_partner_36 (xsnd e) (xfst e)
  · refine xg_iconst C dX4_partner_8 (v := (0 : Int32)) (by decide) ?_
    refine xg_goto C 36 dX4_partner_9 (by decide) ?_
    have e : (fX4_partner a1 S) = ((fX4_asks a1 S).1, (0 : Int32)) := by first | (rw [fX4_partner, if_pos h1]; done) | (rw [fX4_partner, if_pos h1]; rfl)
    exact xret_i E dX4_partner_36 (xsnd e) (xfst e)
theorem iX4_freshest_X4 : ∀ w ∈ wsX40, w ∈ wsX4_freshest := by decide +kernel
theorem qX4_freshest_65 : xFr wsX4_freshest RX4 65 RX4 TX4 30 19 := ⟨iX4_freshest_X4, List.mem_of_getElem? (i := 1) rfl, by decide⟩
def bX4_freshest_14 (a1 : Int32) (S : xS) (i : Int32) (x : Int32) : Int32 :=
  if (S 19 0 (fX4_at i a1)) ≤ (S 19 0 (fX4_at x a1)) then
    x
  else
    i
def fX4_freshest (a1 : Int32) (S : xS) : xS × Int32 :=
  if (fX4_asks a1 S).2 = (0 : Int32) then
    ((fX4_asks a1 S).1, (0 : Int32))
  else
    if (fX4_hasNews (xfoldF (bX4_freshest_14 a1 (fX4_asks a1 S).1) 7 1 (0 : Int32)) a1 (fX4_asks a1 S).1) = (0 : Int32) then
      ((fX4_asks a1 S).1, (-1 : Int32))
    else
      ((fX4_asks a1 S).1, (xfoldF (bX4_freshest_14 a1 (fX4_asks a1 S).1) 7 1 (0 : Int32)))
theorem hdX4_freshest : yX4_freshest.cls = RX4 ∧ yX4_freshest.cls ≠ "java/lang/invoke/MethodHandle" ∧ yX4_freshest.cls ≠ "java/lang/invoke/VarHandle" ∧ (parseMethodDescriptor yX4_freshest.desc).map (fun d => d.parameters.length) = some 1 := by decide +kernel
set_option maxRecDepth 100000 in
set_option maxHeartbeats 4000000 in
theorem kX4_freshest (l : Launch) {G : xG} (hap : xAp xYm G) (a1 : Int32) (S : xS)  : xMi l xYm G yX4_freshest wsX4_freshest 3 63 [.ref (G.2.2 0 0), .int a1] S (fX4_freshest a1 S).1 (fX4_freshest a1 S).2 := by
  refine xMi_of (cc := cX4_freshest) (maxL := 4) (ty := .int) (own := RX4) [some (.ref (G.2.2 0 0)), some (.int a1), none, none] pnX4 rfl rfl rfl (xcat1 rfl) (Nat.le_of_ble_eq_true rfl) rfl hap (fun F C V E => ?_)
  refine xg_aload_n C dX4_freshest_0 rfl ?_
  refine xg_iload_n C dX4_freshest_1 rfl ?_
  refine xg_callVi C V (f := 0) (As := [.int a1]) (r := (fX4_asks a1 S).2) (fun l => kX4_asks l hap a1 S) gX4_freshest_X4_asks rfl hdX4_asks ⟨by decide, by decide⟩ rfl rfl rfl rfl rfl (Nat.le_of_ble_eq_true rfl) ⟨Nat.zero_le _, Nat.zero_le _⟩ dX4_freshest_2 ?_
  refine xg_if_ne C 10 dX4_freshest_5 (by decide) (fun h1 => ?_) (fun h1 => ?_)
  · refine xg_iconst C dX4_freshest_10 (v := (0 : Int32)) (by decide) ?_
    refine xg_istore_n C dX4_freshest_11 (by decide) (L' := [some (.ref (G.2.2 0 0)), some (.int a1), some (.int (0 : Int32)), none]) rfl ?_
    refine xg_iconst C dX4_freshest_12 (v := (1 : Int32)) (by decide) ?_
    refine xg_istore_n C dX4_freshest_13 (by decide) (L' := [some (.ref (G.2.2 0 0)), some (.int a1), some (.int (0 : Int32)), some (.int (1 : Int32))]) rfl ?_
    refine xloopFJ (fun (ii : Int32) (x : Int32) => xg F 0 0 14 [some (.ref (G.2.2 0 0)), some (.int a1), some (.int x), some (.int ii)] [] (xP xYm G (fX4_asks a1 S).1)) (bX4_freshest_14 a1 (fX4_asks a1 S).1) 7 1 (0 : Int32) (fun (x : Int32) => vp_in x 8) (vp_in_iff.mpr ⟨by decide, by decide⟩) (fun i h1 h2 x hx => by unfold bX4_freshest_14; split <;> first | exact hx | exact vp_in_nI (by omega) (by decide)) (fun i hi0 hi x hJ K => ?_) (fun hJ => ?_)
    · have hi8 : vp_in (nI i) 8 := vp_in_nI hi (by decide)
      have hJ2 : vp_in x 8 := hJ
      show xg F 0 0 14 [some (.ref (G.2.2 0 0)), some (.int a1), some (.int x), some (.int (nI i))] [] (xP xYm G (fX4_asks a1 S).1)
      refine xg_iload_n C dX4_freshest_14 rfl ?_
      refine xg_bipush C dX4_freshest_15 (v := (8 : Int32)) (by decide) ?_
      refine xg_icmp_ge C 55 dX4_freshest_17 (by decide) (fun h2 => absurd h2 (nI_ge hi (by decide))) (fun h2 => ?_)
      refine xg_aload_n C dX4_freshest_20 rfl ?_
      refine xg_getR C V (f := 0) qX4_freshest_65 rfl rfl rfl dX4_freshest_21 ?_
      refine xg_iload_n C dX4_freshest_24 rfl ?_
      refine xg_iload_n C dX4_freshest_25 rfl ?_
      refine xg_callSi C V (as := [.int (nI i), .int a1]) (r := (fX4_at (nI i) a1)) (fun l => kX4_at l hap (nI i) a1 (fX4_asks a1 S).1) gX4_freshest_X4_at rfl hdX4_at ⟨by decide, by decide⟩ rfl rfl (Nat.le_of_ble_eq_true rfl) ⟨Nat.zero_le _, Nat.zero_le _⟩ dX4_freshest_26 ?_
      refine xg_iald C V (f := 19) (n := 1) (N := 64) rfl (by decide) (xR_0 (by decide)) (xin_at (by first | assumption | exact xin_one (by assumption) | exact xin_asks (by assumption) | exact xin_ask1 (by assumption) | exact xin_ask2 (by assumption)) (by first | assumption | exact xin_one (by assumption) | exact xin_asks (by assumption) | exact xin_ask1 (by assumption) | exact xin_ask2 (by assumption))) dX4_freshest_29 (v := ((fX4_asks a1 S).1 19 0 (fX4_at (nI i) a1))) rfl ?_
      refine xg_aload_n C dX4_freshest_30 rfl ?_
      refine xg_getR C V (f := 0) qX4_freshest_65 rfl rfl rfl dX4_freshest_31 ?_
      refine xg_iload_n C dX4_freshest_34 rfl ?_
      refine xg_iload_n C dX4_freshest_35 rfl ?_
      refine xg_callSi C V (as := [.int x, .int a1]) (r := (fX4_at x a1)) (fun l => kX4_at l hap x a1 (fX4_asks a1 S).1) gX4_freshest_X4_at rfl hdX4_at ⟨by decide, by decide⟩ rfl rfl (Nat.le_of_ble_eq_true rfl) ⟨Nat.zero_le _, Nat.zero_le _⟩ dX4_freshest_36 ?_
      refine xg_iald C V (f := 19) (n := 1) (N := 64) rfl (by decide) (xR_0 (by decide)) (xin_at (by first | assumption | exact xin_one (by assumption) | exact xin_asks (by assumption) | exact xin_ask1 (by assumption) | exact xin_ask2 (by assumption)) (by first | assumption | exact xin_one (by assumption) | exact xin_asks (by assumption) | exact xin_ask1 (by assumption) | exact xin_ask2 (by assumption))) dX4_freshest_39 (v := ((fX4_asks a1 S).1 19 0 (fX4_at x a1))) rfl ?_
      refine xg_icmp_le C 47 dX4_freshest_40 (by decide) (fun h3 => ?_) (fun h3 => ?_)
      · refine xg_iload_n C dX4_freshest_47 rfl ?_
        refine xg_istore_n C dX4_freshest_48 (by decide) (L' := [some (.ref (G.2.2 0 0)), some (.int a1), some (.int x), some (.int (nI i))]) rfl ?_
        refine xg_iinc C dX4_freshest_49 rfl (v := (nI (i + 1))) (xinc i) (by decide) (L' := [some (.ref (G.2.2 0 0)), some (.int a1), some (.int x), some (.int (nI (i + 1)))]) rfl ?_
        refine xg_goto C 14 dX4_freshest_52 (by decide) ?_
        have e : (bX4_freshest_14 a1 (fX4_asks a1 S).1) (nI i) x = x := by first | (rw [bX4_freshest_14, if_pos h3]; done) | (rw [bX4_freshest_14, if_pos h3]; rfl)
        rw [e] at K
        exact xg_le K ⟨rfl, rfl, rfl, rfl, trivial⟩
      · refine xg_iload_n C dX4_freshest_43 rfl ?_
        refine xg_goto C 48 dX4_freshest_44 (by decide) ?_
        refine xg_istore_n C dX4_freshest_48 (by decide) (L' := [some (.ref (G.2.2 0 0)), some (.int a1), some (.int (nI i)), some (.int (nI i))]) rfl ?_
        refine xg_iinc C dX4_freshest_49 rfl (v := (nI (i + 1))) (xinc i) (by decide) (L' := [some (.ref (G.2.2 0 0)), some (.int a1), some (.int (nI i)), some (.int (nI (i + 1)))]) rfl ?_
        refine xg_goto C 14 dX4_freshest_52 (by decide) ?_
        have e : (bX4_freshest_14 a1 (fX4_asks a1 S).1) (nI i) x = (nI i) := by first | (rw [bX4_freshest_14, if_neg h3]; done) | (rw [bX4_freshest_14, if_neg h3]; rfl)
        rw [e] at K
        exact xg_le K ⟨rfl, rfl, rfl, rfl, trivial⟩
    · show xg F 0 0 14 [some (.ref (G.2.2 0 0)), some (.int a1), some (.int (xfoldF (bX4_freshest_14 a1 (fX4_asks a1 S).1) 7 1 (0 : Int32))), some (.int (nI 8))] [] (xP xYm G (fX4_asks a1 S).1)
      have hJ2 : vp_in (xfoldF (bX4_freshest_14 a1 (fX4_asks a1 S).1) 7 1 (0 : Int32)) 8 := hJ
      refine xg_iload_n C dX4_freshest_14 rfl ?_
      refine xg_bipush C dX4_freshest_15 (v := (8 : Int32)) (by decide) ?_
      refine xg_icmp_ge C 55 dX4_freshest_17 (by decide) (fun h4 => ?_) (fun h4 => absurd (nI_le (Nat.le_refl _) (by decide)) h4)
      refine xg_aload_n C dX4_freshest_55 rfl ?_
      refine xg_iload_n C dX4_freshest_56 rfl ?_
      refine xg_iload_n C dX4_freshest_57 rfl ?_
      refine xg_callVi C V (f := 0) (As := [.int (xfoldF (bX4_freshest_14 a1 (fX4_asks a1 S).1) 7 1 (0 : Int32)), .int a1]) (r := (fX4_hasNews (xfoldF (bX4_freshest_14 a1 (fX4_asks a1 S).1) 7 1 (0 : Int32)) a1 (fX4_asks a1 S).1)) (fun l => kX4_hasNews l hap (xfoldF (bX4_freshest_14 a1 (fX4_asks a1 S).1) 7 1 (0 : Int32)) a1 (fX4_asks a1 S).1 (by first | assumption | exact xin_one (by assumption) | exact xin_asks (by assumption) | exact xin_ask1 (by assumption) | exact xin_ask2 (by assumption)) (by first | assumption | exact xin_one (by assumption) | exact xin_asks (by assumption) | exact xin_ask1 (by assumption) | exact xin_ask2 (by assumption))) gX4_freshest_X4_hasNews rfl hdX4_hasNews ⟨by decide, by decide⟩ rfl rfl rfl rfl rfl (Nat.le_of_ble_eq_true rfl) ⟨Nat.zero_le _, Nat.zero_le _⟩ dX4_freshest_58 ?_
      refine xg_if_eq C 68 dX4_freshest_61 (by decide) (fun h5 => ?_) (fun h5 => ?_)
      · refine xg_iconst C dX4_freshest_68 (v := (-1 : Int32)) (by decide) ?_
        have e : (fX4_freshest a1 S) = ((fX4_asks a1 S).1, (-1 : Int32)) := by first | (rw [fX4_freshest, if_neg h1, if_pos h5]; done) | (rw [fX4_freshest, if_neg h1, if_pos h5]; rfl)
        exact xret_i E dX4_freshest_69 (xsnd e) (xfst e)
      · refine xg_iload_n C dX4_freshest_64 rfl ?_
        refine xg_goto C 69 dX4_freshest_65 (by decide) ?_
        have e : (fX4_freshest a1 S) = ((fX4_asks a1 S).1, (xfoldF (bX4_freshest_14 a1 (fX4_asks a1 S).1) 7 1 (0 : Int32))) := by first | (rw [fX4_freshest, if_neg h1, if_neg h5]; done) | (rw [fX4_freshest, if_neg h1, if_neg h5]; rfl)
        exact xret_i E dX4_freshest_69 (xsnd e) (xfst e)
  · refine xg_iconst C dX4_freshest_8 (v := (0 : Int32)) (by decide) ?_
    have e : (fX4_freshest a1 S) = ((fX4_asks a1 S).1, (0 : Int32)) := by first | (rw [fX4_freshest, if_pos h1]; done) | (rw [fX4_freshest, if_pos h1]; rfl)
    exact xret_i E dX4_freshest_9 (xsnd e) (xfst e)
theorem iX4_agree_X4 : ∀ w ∈ wsX40, w ∈ wsX4_agree := by decide +kernel
theorem qX4_agree_56 : xFr wsX4_agree RX4 56 RX4 TX4 30 16 := ⟨iX4_agree_X4, List.mem_of_getElem? (i := 1) rfl, by decide⟩
theorem qX4_agree_68 : xFr wsX4_agree RX4 68 RX4 TX4 30 20 := ⟨iX4_agree_X4, List.mem_of_getElem? (i := 2) rfl, by decide⟩
def bX4_agree_14 (a1 : Int32) (S : xS) (i : Int32) (x : Int32) : Int32 :=
  if (S 16 0 i) = (0 : Int32) then
    if (fX4_hasNews i a1 S) = (0 : Int32) then
      (x + (0 : Int32))
    else
      if (S 20 0 (fX4_at i a1)) = (fX4_levelOf a1 S) then
        (x + (1 : Int32))
      else
        (x + (0 : Int32))
  else
    (x + (0 : Int32))
def fX4_agree (a1 : Int32) (S : xS) : xS × Int32 :=
  if (fX4_asks a1 S).2 = (0 : Int32) then
    ((fX4_asks a1 S).1, (0 : Int32))
  else
    ((fX4_asks a1 S).1, (xfold (bX4_agree_14 a1 (fX4_asks a1 S).1) 8 (0 : Int32)))
theorem hdX4_agree : yX4_agree.cls = RX4 ∧ yX4_agree.cls ≠ "java/lang/invoke/MethodHandle" ∧ yX4_agree.cls ≠ "java/lang/invoke/VarHandle" ∧ (parseMethodDescriptor yX4_agree.desc).map (fun d => d.parameters.length) = some 1 := by decide +kernel
set_option maxRecDepth 100000 in
set_option maxHeartbeats 4000000 in
theorem kX4_agree (l : Launch) {G : xG} (hap : xAp xYm G) (a1 : Int32) (S : xS) (hA : ∀ r, vp_in r 8 → ¬ S 1 0 r = (0 : Int32)) : xMi l xYm G yX4_agree wsX4_agree 3 63 [.ref (G.2.2 0 0), .int a1] S (fX4_agree a1 S).1 (fX4_agree a1 S).2 := by
  refine xMi_of (cc := cX4_agree) (maxL := 4) (ty := .int) (own := RX4) [some (.ref (G.2.2 0 0)), some (.int a1), none, none] pnX4 rfl rfl rfl (xcat1 rfl) (Nat.le_of_ble_eq_true rfl) rfl hap (fun F C V E => ?_)
  refine xg_aload_n C dX4_agree_0 rfl ?_
  refine xg_iload_n C dX4_agree_1 rfl ?_
  refine xg_callVi C V (f := 0) (As := [.int a1]) (r := (fX4_asks a1 S).2) (fun l => kX4_asks l hap a1 S) gX4_agree_X4_asks rfl hdX4_asks ⟨by decide, by decide⟩ rfl rfl rfl rfl rfl (Nat.le_of_ble_eq_true rfl) ⟨Nat.zero_le _, Nat.zero_le _⟩ dX4_agree_2 ?_
  refine xg_if_ne C 10 dX4_agree_5 (by decide) (fun h1 => ?_) (fun h1 => ?_)
  · refine xg_iconst C dX4_agree_10 (v := (0 : Int32)) (by decide) ?_
    refine xg_istore_n C dX4_agree_11 (by decide) (L' := [some (.ref (G.2.2 0 0)), some (.int a1), some (.int (0 : Int32)), none]) rfl ?_
    refine xg_iconst C dX4_agree_12 (v := (0 : Int32)) (by decide) ?_
    refine xg_istore_n C dX4_agree_13 (by decide) (L' := [some (.ref (G.2.2 0 0)), some (.int a1), some (.int (0 : Int32)), some (.int (0 : Int32))]) rfl ?_
    refine xloop (fun (ii : Int32) (x : Int32) => xg F 0 0 14 [some (.ref (G.2.2 0 0)), some (.int a1), some (.int x), some (.int ii)] [] (xP xYm G (fX4_asks a1 S).1)) (bX4_agree_14 a1 (fX4_asks a1 S).1) 8 (0 : Int32) (fun i hi x K => ?_) ?_
    · have hi8 : vp_in (nI i) 8 := vp_in_nI hi (by decide)
      show xg F 0 0 14 [some (.ref (G.2.2 0 0)), some (.int a1), some (.int x), some (.int (nI i))] [] (xP xYm G (fX4_asks a1 S).1)
      refine xg_iload_n C dX4_agree_14 rfl ?_
      refine xg_bipush C dX4_agree_15 (v := (8 : Int32)) (by decide) ?_
      refine xg_icmp_ge C 70 dX4_agree_17 (by decide) (fun h2 => absurd h2 (nI_ge hi (by decide))) (fun h2 => ?_)
      refine xg_iload_n C dX4_agree_20 rfl ?_
      refine xg_aload_n C dX4_agree_21 rfl ?_
      refine xg_getR C V (f := 0) qX4_agree_56 rfl rfl rfl dX4_agree_22 ?_
      refine xg_iload_n C dX4_agree_25 rfl ?_
      refine xg_zald C V (f := 16) (n := 1) (N := 8) rfl (by decide) (xR_0 (by decide)) (by first | assumption | exact xin_one (by assumption) | exact xin_asks (by assumption) | exact xin_ask1 (by assumption) | exact xin_ask2 (by assumption)) dX4_agree_26 (v := ((fX4_asks a1 S).1 16 0 (nI i))) rfl ?_
      refine xg_if_ne C 61 dX4_agree_27 (by decide) (fun h3 => ?_) (fun h3 => ?_)
      · refine xg_iconst C dX4_agree_61 (v := (0 : Int32)) (by decide) ?_
        refine xg_iadd C dX4_agree_62 ?_
        refine xg_istore_n C dX4_agree_63 (by decide) (L' := [some (.ref (G.2.2 0 0)), some (.int a1), some (.int (x + (0 : Int32))), some (.int (nI i))]) rfl ?_
        refine xg_iinc C dX4_agree_64 rfl (v := (nI (i + 1))) (xinc i) (by decide) (L' := [some (.ref (G.2.2 0 0)), some (.int a1), some (.int (x + (0 : Int32))), some (.int (nI (i + 1)))]) rfl ?_
        refine xg_goto C 14 dX4_agree_67 (by decide) ?_
        have e : (bX4_agree_14 a1 (fX4_asks a1 S).1) (nI i) x = (x + (0 : Int32)) := by first | (rw [bX4_agree_14, if_neg h3]; done) | (rw [bX4_agree_14, if_neg h3]; rfl)
        rw [e] at K
        exact xg_le K ⟨rfl, rfl, rfl, rfl, trivial⟩
      · refine xg_aload_n C dX4_agree_30 rfl ?_
        refine xg_iload_n C dX4_agree_31 rfl ?_
        refine xg_iload_n C dX4_agree_32 rfl ?_
        refine xg_callVi C V (f := 0) (As := [.int (nI i), .int a1]) (r := (fX4_hasNews (nI i) a1 (fX4_asks a1 S).1)) (fun l => kX4_hasNews l hap (nI i) a1 (fX4_asks a1 S).1 (by first | assumption | exact xin_one (by assumption) | exact xin_asks (by assumption) | exact xin_ask1 (by assumption) | exact xin_ask2 (by assumption)) (by first | assumption | exact xin_one (by assumption) | exact xin_asks (by assumption) | exact xin_ask1 (by assumption) | exact xin_ask2 (by assumption))) gX4_agree_X4_hasNews rfl hdX4_hasNews ⟨by decide, by decide⟩ rfl rfl rfl rfl rfl (Nat.le_of_ble_eq_true rfl) ⟨Nat.zero_le _, Nat.zero_le _⟩ dX4_agree_33 ?_
        refine xg_if_eq C 61 dX4_agree_36 (by decide) (fun h4 => ?_) (fun h4 => ?_)
        · refine xg_iconst C dX4_agree_61 (v := (0 : Int32)) (by decide) ?_
          refine xg_iadd C dX4_agree_62 ?_
          refine xg_istore_n C dX4_agree_63 (by decide) (L' := [some (.ref (G.2.2 0 0)), some (.int a1), some (.int (x + (0 : Int32))), some (.int (nI i))]) rfl ?_
          refine xg_iinc C dX4_agree_64 rfl (v := (nI (i + 1))) (xinc i) (by decide) (L' := [some (.ref (G.2.2 0 0)), some (.int a1), some (.int (x + (0 : Int32))), some (.int (nI (i + 1)))]) rfl ?_
          refine xg_goto C 14 dX4_agree_67 (by decide) ?_
          have e : (bX4_agree_14 a1 (fX4_asks a1 S).1) (nI i) x = (x + (0 : Int32)) := by first | (rw [bX4_agree_14, if_pos h3, if_pos h4]; done) | (rw [bX4_agree_14, if_pos h3, if_pos h4]; rfl)
          rw [e] at K
          exact xg_le K ⟨rfl, rfl, rfl, rfl, trivial⟩
        · refine xg_aload_n C dX4_agree_39 rfl ?_
          refine xg_getR C V (f := 0) qX4_agree_68 rfl rfl rfl dX4_agree_40 ?_
          refine xg_iload_n C dX4_agree_43 rfl ?_
          refine xg_iload_n C dX4_agree_44 rfl ?_
          refine xg_callSi C V (as := [.int (nI i), .int a1]) (r := (fX4_at (nI i) a1)) (fun l => kX4_at l hap (nI i) a1 (fX4_asks a1 S).1) gX4_agree_X4_at rfl hdX4_at ⟨by decide, by decide⟩ rfl rfl (Nat.le_of_ble_eq_true rfl) ⟨Nat.zero_le _, Nat.zero_le _⟩ dX4_agree_45 ?_
          refine xg_iald C V (f := 20) (n := 1) (N := 64) rfl (by decide) (xR_0 (by decide)) (xin_at (by first | assumption | exact xin_one (by assumption) | exact xin_asks (by assumption) | exact xin_ask1 (by assumption) | exact xin_ask2 (by assumption)) (by first | assumption | exact xin_one (by assumption) | exact xin_asks (by assumption) | exact xin_ask1 (by assumption) | exact xin_ask2 (by assumption))) dX4_agree_48 (v := ((fX4_asks a1 S).1 20 0 (fX4_at (nI i) a1))) rfl ?_
          refine xg_aload_n C dX4_agree_49 rfl ?_
          refine xg_iload_n C dX4_agree_50 rfl ?_
          refine xg_callVi C V (f := 0) (As := [.int a1]) (r := (fX4_levelOf a1 (fX4_asks a1 S).1)) (fun l => kX4_levelOf l hap a1 (fX4_asks a1 S).1 (by first | assumption | exact xin_one (by assumption) | exact xin_asks (by assumption) | exact xin_ask1 (by assumption) | exact xin_ask2 (by assumption)) (by rw [xasks_ne (by decide)]; exact hA _ (xin_asks (by assumption)))) gX4_agree_X4_levelOf rfl hdX4_levelOf ⟨by decide, by decide⟩ rfl rfl rfl rfl rfl (Nat.le_of_ble_eq_true rfl) ⟨Nat.zero_le _, Nat.zero_le _⟩ dX4_agree_51 ?_
          refine xg_icmp_ne C 61 dX4_agree_54 (by decide) (fun h5 => ?_) (fun h5 => ?_)
          · refine xg_iconst C dX4_agree_61 (v := (0 : Int32)) (by decide) ?_
            refine xg_iadd C dX4_agree_62 ?_
            refine xg_istore_n C dX4_agree_63 (by decide) (L' := [some (.ref (G.2.2 0 0)), some (.int a1), some (.int (x + (0 : Int32))), some (.int (nI i))]) rfl ?_
            refine xg_iinc C dX4_agree_64 rfl (v := (nI (i + 1))) (xinc i) (by decide) (L' := [some (.ref (G.2.2 0 0)), some (.int a1), some (.int (x + (0 : Int32))), some (.int (nI (i + 1)))]) rfl ?_
            refine xg_goto C 14 dX4_agree_67 (by decide) ?_
            have e : (bX4_agree_14 a1 (fX4_asks a1 S).1) (nI i) x = (x + (0 : Int32)) := by first | (rw [bX4_agree_14, if_pos h3, if_neg h4, if_neg h5]; done) | (rw [bX4_agree_14, if_pos h3, if_neg h4, if_neg h5]; rfl)
            rw [e] at K
            exact xg_le K ⟨rfl, rfl, rfl, rfl, trivial⟩
          · refine xg_iconst C dX4_agree_57 (v := (1 : Int32)) (by decide) ?_
            refine xg_goto C 62 dX4_agree_58 (by decide) ?_
            refine xg_iadd C dX4_agree_62 ?_
            refine xg_istore_n C dX4_agree_63 (by decide) (L' := [some (.ref (G.2.2 0 0)), some (.int a1), some (.int (x + (1 : Int32))), some (.int (nI i))]) rfl ?_
            refine xg_iinc C dX4_agree_64 rfl (v := (nI (i + 1))) (xinc i) (by decide) (L' := [some (.ref (G.2.2 0 0)), some (.int a1), some (.int (x + (1 : Int32))), some (.int (nI (i + 1)))]) rfl ?_
            refine xg_goto C 14 dX4_agree_67 (by decide) ?_
            have e : (bX4_agree_14 a1 (fX4_asks a1 S).1) (nI i) x = (x + (1 : Int32)) := by first | (rw [bX4_agree_14, if_pos h3, if_neg h4, if_pos h5]; done) | (rw [bX4_agree_14, if_pos h3, if_neg h4, if_pos h5]; rfl)
            rw [e] at K
            exact xg_le K ⟨rfl, rfl, rfl, rfl, trivial⟩
    · show xg F 0 0 14 [some (.ref (G.2.2 0 0)), some (.int a1), some (.int (xfold (bX4_agree_14 a1 (fX4_asks a1 S).1) 8 (0 : Int32))), some (.int (nI 8))] [] (xP xYm G (fX4_asks a1 S).1)
      refine xg_iload_n C dX4_agree_14 rfl ?_
      refine xg_bipush C dX4_agree_15 (v := (8 : Int32)) (by decide) ?_
      refine xg_icmp_ge C 70 dX4_agree_17 (by decide) (fun h6 => ?_) (fun h6 => absurd (nI_le (Nat.le_refl _) (by decide)) h6)
      refine xg_iload_n C dX4_agree_70 rfl ?_
      have e : (fX4_agree a1 S) = ((fX4_asks a1 S).1, (xfold (bX4_agree_14 a1 (fX4_asks a1 S).1) 8 (0 : Int32))) := by first | (rw [fX4_agree, if_neg h1]; done) | (rw [fX4_agree, if_neg h1]; rfl)
      exact xret_i E dX4_agree_71 (xsnd e) (xfst e)
  · refine xg_iconst C dX4_agree_8 (v := (0 : Int32)) (by decide) ?_
    have e : (fX4_agree a1 S) = ((fX4_asks a1 S).1, (0 : Int32)) := by first | (rw [fX4_agree, if_pos h1]; done) | (rw [fX4_agree, if_pos h1]; rfl)
    exact xret_i E dX4_agree_9 (xsnd e) (xfst e)
theorem iX4_unnoticed_X4 : ∀ w ∈ wsX40, w ∈ wsX4_unnoticed := by decide +kernel
theorem qX4_unnoticed_90 : xFr wsX4_unnoticed RX4 90 RX4 TX4 30 29 := ⟨iX4_unnoticed_X4, List.mem_of_getElem? (i := 1) rfl, by decide⟩
theorem qX4_unnoticed_56 : xFr wsX4_unnoticed RX4 56 RX4 TX4 30 16 := ⟨iX4_unnoticed_X4, List.mem_of_getElem? (i := 2) rfl, by decide⟩
theorem qX4_unnoticed_80 : xFr wsX4_unnoticed RX4 80 RX4 TX4 30 24 := ⟨iX4_unnoticed_X4, List.mem_of_getElem? (i := 3) rfl, by decide⟩
def bX4_unnoticed_20 (o : Int32) (S : xS) (i : Int32) (y : Int32) : Int32 :=
  if y = (0 : Int32) then
    if (S 16 0 i) = (0 : Int32) then
      if (S 24 0 (fX4_at i o)) = (0 : Int32) then
        (1 : Int32)
      else
        (0 : Int32)
    else
      (0 : Int32)
  else
    (1 : Int32)
def bX4_unnoticed_9  (S : xS) (i : Int32) (x : Int32) : Int32 :=
  if (xfold (bX4_unnoticed_20 i S) 8 (0 : Int32)) = (0 : Int32) then
    (x + (0 : Int32))
  else
    if (S 16 0 i) = (0 : Int32) then
      (x + (0 : Int32))
    else
      (x + (1 : Int32))
def fX4_unnoticed  (S : xS) : xS × Int32 :=
  ((xu S 0 0 (nI 29) (0 : Int32)), (xfold (bX4_unnoticed_9 S) 8 (0 : Int32)))
theorem hdX4_unnoticed : yX4_unnoticed.cls = RX4 ∧ yX4_unnoticed.cls ≠ "java/lang/invoke/MethodHandle" ∧ yX4_unnoticed.cls ≠ "java/lang/invoke/VarHandle" ∧ (parseMethodDescriptor yX4_unnoticed.desc).map (fun d => d.parameters.length) = some 0 := by decide +kernel
set_option maxRecDepth 100000 in
set_option maxHeartbeats 4000000 in
theorem kX4_unnoticed (l : Launch) {G : xG} (hap : xAp xYm G)  (S : xS)  : xMi l xYm G yX4_unnoticed wsX4_unnoticed 1 21 [.ref (G.2.2 0 0)] S (fX4_unnoticed S).1 (fX4_unnoticed S).2 := by
  refine xMi_of (cc := cX4_unnoticed) (maxL := 5) (ty := .int) (own := RX4) [some (.ref (G.2.2 0 0)), none, none, none, none] pnX4 rfl rfl rfl (xcat1 rfl) (Nat.le_of_ble_eq_true rfl) rfl hap (fun F C V E => ?_)
  refine xg_aload_n C dX4_unnoticed_0 rfl ?_
  refine xg_iconst C dX4_unnoticed_1 (v := (0 : Int32)) (by decide) ?_
  refine xg_putI C V (f := 0) qX4_unnoticed_90 rfl (by decide) rfl rfl tyX4_ok nmX4 rfl rfl dX4_unnoticed_2 ?_
  refine xg_iconst C dX4_unnoticed_5 (v := (0 : Int32)) (by decide) ?_
  refine xg_istore_n C dX4_unnoticed_6 (by decide) (L' := [some (.ref (G.2.2 0 0)), some (.int (0 : Int32)), none, none, none]) rfl ?_
  refine xg_iconst C dX4_unnoticed_7 (v := (0 : Int32)) (by decide) ?_
  refine xg_istore_n C dX4_unnoticed_8 (by decide) (L' := [some (.ref (G.2.2 0 0)), some (.int (0 : Int32)), some (.int (0 : Int32)), none, none]) rfl ?_
  refine xloop (fun (ii : Int32) (x : Int32) => xg F 0 0 9 [some (.ref (G.2.2 0 0)), some (.int x), some (.int ii), none, none] [] (xP xYm G (xu S 0 0 (nI 29) (0 : Int32)))) (bX4_unnoticed_9 S) 8 (0 : Int32) (fun i hi x K => ?_) ?_
  · have hi8 : vp_in (nI i) 8 := vp_in_nI hi (by decide)
    show xg F 0 0 9 [some (.ref (G.2.2 0 0)), some (.int x), some (.int (nI i)), none, none] [] (xP xYm G (xu S 0 0 (nI 29) (0 : Int32)))
    refine xg_iload_n C dX4_unnoticed_9 rfl ?_
    refine xg_bipush C dX4_unnoticed_10 (v := (8 : Int32)) (by decide) ?_
    refine xg_icmp_ge C 94 dX4_unnoticed_12 (by decide) (fun h1 => absurd h1 (nI_ge hi (by decide))) (fun h1 => ?_)
    refine xg_iconst C dX4_unnoticed_15 (v := (0 : Int32)) (by decide) ?_
    refine xg_istore_n C dX4_unnoticed_16 (by decide) (L' := [some (.ref (G.2.2 0 0)), some (.int x), some (.int (nI i)), some (.int (0 : Int32)), none]) rfl ?_
    refine xg_iconst C dX4_unnoticed_17 (v := (0 : Int32)) (by decide) ?_
    refine xg_istore C dX4_unnoticed_18 (by decide) (L' := [some (.ref (G.2.2 0 0)), some (.int x), some (.int (nI i)), some (.int (0 : Int32)), some (.int (0 : Int32))]) rfl ?_
    refine xloop (fun (ii : Int32) (y : Int32) => xg F 0 0 20 [some (.ref (G.2.2 0 0)), some (.int x), some (.int (nI i)), some (.int y), some (.int ii)] [] (xP xYm G (xu S 0 0 (nI 29) (0 : Int32)))) (bX4_unnoticed_20 (nI i) S) 8 (0 : Int32) (fun j hi y K => ?_) ?_
    · have hi8 : vp_in (nI j) 8 := vp_in_nI hi (by decide)
      show xg F 0 0 20 [some (.ref (G.2.2 0 0)), some (.int x), some (.int (nI i)), some (.int y), some (.int (nI j))] [] (xP xYm G (xu S 0 0 (nI 29) (0 : Int32)))
      refine xg_iload C dX4_unnoticed_20 rfl ?_
      refine xg_bipush C dX4_unnoticed_22 (v := (8 : Int32)) (by decide) ?_
      refine xg_icmp_ge C 67 dX4_unnoticed_24 (by decide) (fun h2 => absurd h2 (nI_ge hi (by decide))) (fun h2 => ?_)
      refine xg_iload_n C dX4_unnoticed_27 rfl ?_
      refine xg_if_ne C 55 dX4_unnoticed_28 (by decide) (fun h3 => ?_) (fun h3 => ?_)
      · refine xg_iconst C dX4_unnoticed_55 (v := (1 : Int32)) (by decide) ?_
        refine xg_goto C 60 dX4_unnoticed_56 (by decide) ?_
        refine xg_istore_n C dX4_unnoticed_60 (by decide) (L' := [some (.ref (G.2.2 0 0)), some (.int x), some (.int (nI i)), some (.int (1 : Int32)), some (.int (nI j))]) rfl ?_
        refine xg_iinc C dX4_unnoticed_61 rfl (v := (nI (j + 1))) (xinc j) (by decide) (L' := [some (.ref (G.2.2 0 0)), some (.int x), some (.int (nI i)), some (.int (1 : Int32)), some (.int (nI (j + 1)))]) rfl ?_
        refine xg_goto C 20 dX4_unnoticed_64 (by decide) ?_
        have e : (bX4_unnoticed_20 (nI i) S) (nI j) y = (1 : Int32) := by first | (rw [bX4_unnoticed_20, if_neg h3]; done) | (rw [bX4_unnoticed_20, if_neg h3]; rfl)
        rw [e] at K
        exact xg_le K ⟨rfl, rfl, rfl, rfl, rfl, trivial⟩
      · refine xg_aload_n C dX4_unnoticed_31 rfl ?_
        refine xg_getR C V (f := 0) qX4_unnoticed_56 rfl rfl rfl dX4_unnoticed_32 ?_
        refine xg_iload C dX4_unnoticed_35 rfl ?_
        refine xg_zald C V (f := 16) (n := 1) (N := 8) rfl (by decide) (xR_0 (by decide)) (by first | assumption | exact xin_one (by assumption) | exact xin_asks (by assumption) | exact xin_ask1 (by assumption) | exact xin_ask2 (by assumption)) dX4_unnoticed_37 (v := (S 16 0 (nI j))) (xu_ne (by decide)) ?_
        refine xg_if_ne C 59 dX4_unnoticed_38 (by decide) (fun h4 => ?_) (fun h4 => ?_)
        · refine xg_iconst C dX4_unnoticed_59 (v := (0 : Int32)) (by decide) ?_
          refine xg_istore_n C dX4_unnoticed_60 (by decide) (L' := [some (.ref (G.2.2 0 0)), some (.int x), some (.int (nI i)), some (.int (0 : Int32)), some (.int (nI j))]) rfl ?_
          refine xg_iinc C dX4_unnoticed_61 rfl (v := (nI (j + 1))) (xinc j) (by decide) (L' := [some (.ref (G.2.2 0 0)), some (.int x), some (.int (nI i)), some (.int (0 : Int32)), some (.int (nI (j + 1)))]) rfl ?_
          refine xg_goto C 20 dX4_unnoticed_64 (by decide) ?_
          have e : (bX4_unnoticed_20 (nI i) S) (nI j) y = (0 : Int32) := by first | (rw [bX4_unnoticed_20, if_pos h3, if_neg h4]; done) | (rw [bX4_unnoticed_20, if_pos h3, if_neg h4]; rfl)
          rw [e] at K
          exact xg_le K ⟨rfl, rfl, rfl, rfl, rfl, trivial⟩
        · refine xg_aload_n C dX4_unnoticed_41 rfl ?_
          refine xg_getR C V (f := 0) qX4_unnoticed_80 rfl rfl rfl dX4_unnoticed_42 ?_
          refine xg_iload C dX4_unnoticed_45 rfl ?_
          refine xg_iload_n C dX4_unnoticed_47 rfl ?_
          refine xg_callSi C V (as := [.int (nI j), .int (nI i)]) (r := (fX4_at (nI j) (nI i))) (fun l => kX4_at l hap (nI j) (nI i) (xu S 0 0 (nI 29) (0 : Int32))) gX4_unnoticed_X4_at rfl hdX4_at ⟨by decide, by decide⟩ rfl rfl (Nat.le_of_ble_eq_true rfl) ⟨Nat.zero_le _, Nat.zero_le _⟩ dX4_unnoticed_48 ?_
          refine xg_iald C V (f := 24) (n := 1) (N := 64) rfl (by decide) (xR_0 (by decide)) (xin_at (by first | assumption | exact xin_one (by assumption) | exact xin_asks (by assumption) | exact xin_ask1 (by assumption) | exact xin_ask2 (by assumption)) (by first | assumption | exact xin_one (by assumption) | exact xin_asks (by assumption) | exact xin_ask1 (by assumption) | exact xin_ask2 (by assumption))) dX4_unnoticed_51 (v := (S 24 0 (fX4_at (nI j) (nI i)))) (xu_ne (by decide)) ?_
          refine xg_if_ne C 59 dX4_unnoticed_52 (by decide) (fun h5 => ?_) (fun h5 => ?_)
          · refine xg_iconst C dX4_unnoticed_59 (v := (0 : Int32)) (by decide) ?_
            refine xg_istore_n C dX4_unnoticed_60 (by decide) (L' := [some (.ref (G.2.2 0 0)), some (.int x), some (.int (nI i)), some (.int (0 : Int32)), some (.int (nI j))]) rfl ?_
            refine xg_iinc C dX4_unnoticed_61 rfl (v := (nI (j + 1))) (xinc j) (by decide) (L' := [some (.ref (G.2.2 0 0)), some (.int x), some (.int (nI i)), some (.int (0 : Int32)), some (.int (nI (j + 1)))]) rfl ?_
            refine xg_goto C 20 dX4_unnoticed_64 (by decide) ?_
            have e : (bX4_unnoticed_20 (nI i) S) (nI j) y = (0 : Int32) := by first | (rw [bX4_unnoticed_20, if_pos h3, if_pos h4, if_neg h5]; done) | (rw [bX4_unnoticed_20, if_pos h3, if_pos h4, if_neg h5]; rfl)
            rw [e] at K
            exact xg_le K ⟨rfl, rfl, rfl, rfl, rfl, trivial⟩
          · refine xg_iconst C dX4_unnoticed_55 (v := (1 : Int32)) (by decide) ?_
            refine xg_goto C 60 dX4_unnoticed_56 (by decide) ?_
            refine xg_istore_n C dX4_unnoticed_60 (by decide) (L' := [some (.ref (G.2.2 0 0)), some (.int x), some (.int (nI i)), some (.int (1 : Int32)), some (.int (nI j))]) rfl ?_
            refine xg_iinc C dX4_unnoticed_61 rfl (v := (nI (j + 1))) (xinc j) (by decide) (L' := [some (.ref (G.2.2 0 0)), some (.int x), some (.int (nI i)), some (.int (1 : Int32)), some (.int (nI (j + 1)))]) rfl ?_
            refine xg_goto C 20 dX4_unnoticed_64 (by decide) ?_
            have e : (bX4_unnoticed_20 (nI i) S) (nI j) y = (1 : Int32) := by first | (rw [bX4_unnoticed_20, if_pos h3, if_pos h4, if_pos h5]; done) | (rw [bX4_unnoticed_20, if_pos h3, if_pos h4, if_pos h5]; rfl)
            rw [e] at K
            exact xg_le K ⟨rfl, rfl, rfl, rfl, rfl, trivial⟩
    · show xg F 0 0 20 [some (.ref (G.2.2 0 0)), some (.int x), some (.int (nI i)), some (.int (xfold (bX4_unnoticed_20 (nI i) S) 8 (0 : Int32))), some (.int (nI 8))] [] (xP xYm G (xu S 0 0 (nI 29) (0 : Int32)))
      refine xg_iload C dX4_unnoticed_20 rfl ?_
      refine xg_bipush C dX4_unnoticed_22 (v := (8 : Int32)) (by decide) ?_
      refine xg_icmp_ge C 67 dX4_unnoticed_24 (by decide) (fun h6 => ?_) (fun h6 => absurd (nI_le (Nat.le_refl _) (by decide)) h6)
      refine xg_iload_n C dX4_unnoticed_67 rfl ?_
      refine xg_iload_n C dX4_unnoticed_68 rfl ?_
      refine xg_if_eq C 85 dX4_unnoticed_69 (by decide) (fun h7 => ?_) (fun h7 => ?_)
      · refine xg_iconst C dX4_unnoticed_85 (v := (0 : Int32)) (by decide) ?_
        refine xg_iadd C dX4_unnoticed_86 ?_
        refine xg_istore_n C dX4_unnoticed_87 (by decide) (L' := [some (.ref (G.2.2 0 0)), some (.int (x + (0 : Int32))), some (.int (nI i)), some (.int (xfold (bX4_unnoticed_20 (nI i) S) 8 (0 : Int32))), some (.int (nI 8))]) rfl ?_
        refine xg_iinc C dX4_unnoticed_88 rfl (v := (nI (i + 1))) (xinc i) (by decide) (L' := [some (.ref (G.2.2 0 0)), some (.int (x + (0 : Int32))), some (.int (nI (i + 1))), some (.int (xfold (bX4_unnoticed_20 (nI i) S) 8 (0 : Int32))), some (.int (nI 8))]) rfl ?_
        refine xg_goto C 9 dX4_unnoticed_91 (by decide) ?_
        have e : (bX4_unnoticed_9 S) (nI i) x = (x + (0 : Int32)) := by first | (rw [bX4_unnoticed_9, if_pos h7]; done) | (rw [bX4_unnoticed_9, if_pos h7]; rfl)
        rw [e] at K
        exact xg_le K ⟨rfl, rfl, rfl, trivial⟩
      · refine xg_aload_n C dX4_unnoticed_72 rfl ?_
        refine xg_getR C V (f := 0) qX4_unnoticed_56 rfl rfl rfl dX4_unnoticed_73 ?_
        refine xg_iload_n C dX4_unnoticed_76 rfl ?_
        refine xg_zald C V (f := 16) (n := 1) (N := 8) rfl (by decide) (xR_0 (by decide)) (by first | assumption | exact xin_one (by assumption) | exact xin_asks (by assumption) | exact xin_ask1 (by assumption) | exact xin_ask2 (by assumption)) dX4_unnoticed_77 (v := (S 16 0 (nI i))) (xu_ne (by decide)) ?_
        refine xg_if_eq C 85 dX4_unnoticed_78 (by decide) (fun h8 => ?_) (fun h8 => ?_)
        · refine xg_iconst C dX4_unnoticed_85 (v := (0 : Int32)) (by decide) ?_
          refine xg_iadd C dX4_unnoticed_86 ?_
          refine xg_istore_n C dX4_unnoticed_87 (by decide) (L' := [some (.ref (G.2.2 0 0)), some (.int (x + (0 : Int32))), some (.int (nI i)), some (.int (xfold (bX4_unnoticed_20 (nI i) S) 8 (0 : Int32))), some (.int (nI 8))]) rfl ?_
          refine xg_iinc C dX4_unnoticed_88 rfl (v := (nI (i + 1))) (xinc i) (by decide) (L' := [some (.ref (G.2.2 0 0)), some (.int (x + (0 : Int32))), some (.int (nI (i + 1))), some (.int (xfold (bX4_unnoticed_20 (nI i) S) 8 (0 : Int32))), some (.int (nI 8))]) rfl ?_
          refine xg_goto C 9 dX4_unnoticed_91 (by decide) ?_
          have e : (bX4_unnoticed_9 S) (nI i) x = (x + (0 : Int32)) := by first | (rw [bX4_unnoticed_9, if_neg h7, if_pos h8]; done) | (rw [bX4_unnoticed_9, if_neg h7, if_pos h8]; rfl)
          rw [e] at K
          exact xg_le K ⟨rfl, rfl, rfl, trivial⟩
        · refine xg_iconst C dX4_unnoticed_81 (v := (1 : Int32)) (by decide) ?_
          refine xg_goto C 86 dX4_unnoticed_82 (by decide) ?_
          refine xg_iadd C dX4_unnoticed_86 ?_
          refine xg_istore_n C dX4_unnoticed_87 (by decide) (L' := [some (.ref (G.2.2 0 0)), some (.int (x + (1 : Int32))), some (.int (nI i)), some (.int (xfold (bX4_unnoticed_20 (nI i) S) 8 (0 : Int32))), some (.int (nI 8))]) rfl ?_
          refine xg_iinc C dX4_unnoticed_88 rfl (v := (nI (i + 1))) (xinc i) (by decide) (L' := [some (.ref (G.2.2 0 0)), some (.int (x + (1 : Int32))), some (.int (nI (i + 1))), some (.int (xfold (bX4_unnoticed_20 (nI i) S) 8 (0 : Int32))), some (.int (nI 8))]) rfl ?_
          refine xg_goto C 9 dX4_unnoticed_91 (by decide) ?_
          have e : (bX4_unnoticed_9 S) (nI i) x = (x + (1 : Int32)) := by first | (rw [bX4_unnoticed_9, if_neg h7, if_neg h8]; done) | (rw [bX4_unnoticed_9, if_neg h7, if_neg h8]; rfl)
          rw [e] at K
          exact xg_le K ⟨rfl, rfl, rfl, trivial⟩
  · show xg F 0 0 9 [some (.ref (G.2.2 0 0)), some (.int (xfold (bX4_unnoticed_9 S) 8 (0 : Int32))), some (.int (nI 8)), none, none] [] (xP xYm G (xu S 0 0 (nI 29) (0 : Int32)))
    refine xg_iload_n C dX4_unnoticed_9 rfl ?_
    refine xg_bipush C dX4_unnoticed_10 (v := (8 : Int32)) (by decide) ?_
    refine xg_icmp_ge C 94 dX4_unnoticed_12 (by decide) (fun h9 => ?_) (fun h9 => absurd (nI_le (Nat.le_refl _) (by decide)) h9)
    refine xg_iload_n C dX4_unnoticed_94 rfl ?_
    have e : (fX4_unnoticed S) = ((xu S 0 0 (nI 29) (0 : Int32)), (xfold (bX4_unnoticed_9 S) 8 (0 : Int32))) := rfl
    exact xret_i E dX4_unnoticed_95 (xsnd e) (xfst e)
theorem iX4_mistaken_X4 : ∀ w ∈ wsX40, w ∈ wsX4_mistaken := by decide +kernel
theorem qX4_mistaken_90 : xFr wsX4_mistaken RX4 90 RX4 TX4 30 29 := ⟨iX4_mistaken_X4, List.mem_of_getElem? (i := 1) rfl, by decide⟩
theorem qX4_mistaken_56 : xFr wsX4_mistaken RX4 56 RX4 TX4 30 16 := ⟨iX4_mistaken_X4, List.mem_of_getElem? (i := 2) rfl, by decide⟩
theorem qX4_mistaken_80 : xFr wsX4_mistaken RX4 80 RX4 TX4 30 24 := ⟨iX4_mistaken_X4, List.mem_of_getElem? (i := 3) rfl, by decide⟩
def bX4_mistaken_9  (S : xS) (i : Int32) (x : Int32) : Int32 :=
  if (S 16 0 (i / (8 : Int32))) = (0 : Int32) then
    if (S 16 0 (i - i / (8 : Int32) * (8 : Int32))) = (0 : Int32) then
      if (S 24 0 i) = (2 : Int32) then
        (x + (1 : Int32))
      else
        (x + (0 : Int32))
    else
      (x + (0 : Int32))
  else
    (x + (0 : Int32))
def fX4_mistaken  (S : xS) : xS × Int32 :=
  ((xu S 0 0 (nI 29) (0 : Int32)), (xfold (bX4_mistaken_9 S) 64 (0 : Int32)))
theorem hdX4_mistaken : yX4_mistaken.cls = RX4 ∧ yX4_mistaken.cls ≠ "java/lang/invoke/MethodHandle" ∧ yX4_mistaken.cls ≠ "java/lang/invoke/VarHandle" ∧ (parseMethodDescriptor yX4_mistaken.desc).map (fun d => d.parameters.length) = some 0 := by decide +kernel
set_option maxRecDepth 100000 in
set_option maxHeartbeats 4000000 in
theorem kX4_mistaken (l : Launch) {G : xG} (hap : xAp xYm G)  (S : xS)  : xMi l xYm G yX4_mistaken wsX4_mistaken 0 0 [.ref (G.2.2 0 0)] S (fX4_mistaken S).1 (fX4_mistaken S).2 := by
  refine xMi_of (cc := cX4_mistaken) (maxL := 3) (ty := .int) (own := RX4) [some (.ref (G.2.2 0 0)), none, none] pnX4 rfl rfl rfl (xcat1 rfl) (Nat.le_of_ble_eq_true rfl) rfl hap (fun F C V E => ?_)
  refine xg_aload_n C dX4_mistaken_0 rfl ?_
  refine xg_iconst C dX4_mistaken_1 (v := (0 : Int32)) (by decide) ?_
  refine xg_putI C V (f := 0) qX4_mistaken_90 rfl (by decide) rfl rfl tyX4_ok nmX4 rfl rfl dX4_mistaken_2 ?_
  refine xg_iconst C dX4_mistaken_5 (v := (0 : Int32)) (by decide) ?_
  refine xg_istore_n C dX4_mistaken_6 (by decide) (L' := [some (.ref (G.2.2 0 0)), some (.int (0 : Int32)), none]) rfl ?_
  refine xg_iconst C dX4_mistaken_7 (v := (0 : Int32)) (by decide) ?_
  refine xg_istore_n C dX4_mistaken_8 (by decide) (L' := [some (.ref (G.2.2 0 0)), some (.int (0 : Int32)), some (.int (0 : Int32))]) rfl ?_
  refine xloop (fun (ii : Int32) (x : Int32) => xg F 0 0 9 [some (.ref (G.2.2 0 0)), some (.int x), some (.int ii)] [] (xP xYm G (xu S 0 0 (nI 29) (0 : Int32)))) (bX4_mistaken_9 S) 64 (0 : Int32) (fun i hi x K => ?_) ?_
  · have hi8 : vp_in (nI i) 64 := vp_in_nI hi (by decide)
    have hd8 : vp_in (nI i / (8 : Int32)) 8 := xin_div hi
    have hm8 : vp_in (nI i - nI i / (8 : Int32) * (8 : Int32)) 8 := xin_mod hi
    show xg F 0 0 9 [some (.ref (G.2.2 0 0)), some (.int x), some (.int (nI i))] [] (xP xYm G (xu S 0 0 (nI 29) (0 : Int32)))
    refine xg_iload_n C dX4_mistaken_9 rfl ?_
    refine xg_bipush C dX4_mistaken_10 (v := (64 : Int32)) (by decide) ?_
    refine xg_icmp_ge C 63 dX4_mistaken_12 (by decide) (fun h1 => absurd h1 (nI_ge hi (by decide))) (fun h1 => ?_)
    refine xg_iload_n C dX4_mistaken_15 rfl ?_
    refine xg_aload_n C dX4_mistaken_16 rfl ?_
    refine xg_getR C V (f := 0) qX4_mistaken_56 rfl rfl rfl dX4_mistaken_17 ?_
    refine xg_iload_n C dX4_mistaken_20 rfl ?_
    refine xg_bipush C dX4_mistaken_21 (v := (8 : Int32)) (by decide) ?_
    refine xg_idiv C dX4_mistaken_23 (by decide) ?_
    refine xg_zald C V (f := 16) (n := 1) (N := 8) rfl (by decide) (xR_0 (by decide)) (by first | assumption | exact xin_one (by assumption) | exact xin_asks (by assumption) | exact xin_ask1 (by assumption) | exact xin_ask2 (by assumption)) dX4_mistaken_24 (v := (S 16 0 ((nI i) / (8 : Int32)))) (xu_ne (by decide)) ?_
    refine xg_if_ne C 54 dX4_mistaken_25 (by decide) (fun h2 => ?_) (fun h2 => ?_)
    · refine xg_iconst C dX4_mistaken_54 (v := (0 : Int32)) (by decide) ?_
      refine xg_iadd C dX4_mistaken_55 ?_
      refine xg_istore_n C dX4_mistaken_56 (by decide) (L' := [some (.ref (G.2.2 0 0)), some (.int (x + (0 : Int32))), some (.int (nI i))]) rfl ?_
      refine xg_iinc C dX4_mistaken_57 rfl (v := (nI (i + 1))) (xinc i) (by decide) (L' := [some (.ref (G.2.2 0 0)), some (.int (x + (0 : Int32))), some (.int (nI (i + 1)))]) rfl ?_
      refine xg_goto C 9 dX4_mistaken_60 (by decide) ?_
      have e : (bX4_mistaken_9 S) (nI i) x = (x + (0 : Int32)) := by first | (rw [bX4_mistaken_9, if_neg h2]; done) | (rw [bX4_mistaken_9, if_neg h2]; rfl)
      rw [e] at K
      exact xg_le K ⟨rfl, rfl, rfl, trivial⟩
    · refine xg_aload_n C dX4_mistaken_28 rfl ?_
      refine xg_getR C V (f := 0) qX4_mistaken_56 rfl rfl rfl dX4_mistaken_29 ?_
      refine xg_iload_n C dX4_mistaken_32 rfl ?_
      refine xg_bipush C dX4_mistaken_33 (v := (8 : Int32)) (by decide) ?_
      refine xg_irem C dX4_mistaken_35 (by decide) ?_
      refine xg_zald C V (f := 16) (n := 1) (N := 8) rfl (by decide) (xR_0 (by decide)) (by first | assumption | exact xin_one (by assumption) | exact xin_asks (by assumption) | exact xin_ask1 (by assumption) | exact xin_ask2 (by assumption)) dX4_mistaken_36 (v := (S 16 0 ((nI i) - (nI i) / (8 : Int32) * (8 : Int32)))) (xu_ne (by decide)) ?_
      refine xg_if_ne C 54 dX4_mistaken_37 (by decide) (fun h3 => ?_) (fun h3 => ?_)
      · refine xg_iconst C dX4_mistaken_54 (v := (0 : Int32)) (by decide) ?_
        refine xg_iadd C dX4_mistaken_55 ?_
        refine xg_istore_n C dX4_mistaken_56 (by decide) (L' := [some (.ref (G.2.2 0 0)), some (.int (x + (0 : Int32))), some (.int (nI i))]) rfl ?_
        refine xg_iinc C dX4_mistaken_57 rfl (v := (nI (i + 1))) (xinc i) (by decide) (L' := [some (.ref (G.2.2 0 0)), some (.int (x + (0 : Int32))), some (.int (nI (i + 1)))]) rfl ?_
        refine xg_goto C 9 dX4_mistaken_60 (by decide) ?_
        have e : (bX4_mistaken_9 S) (nI i) x = (x + (0 : Int32)) := by first | (rw [bX4_mistaken_9, if_pos h2, if_neg h3]; done) | (rw [bX4_mistaken_9, if_pos h2, if_neg h3]; rfl)
        rw [e] at K
        exact xg_le K ⟨rfl, rfl, rfl, trivial⟩
      · refine xg_aload_n C dX4_mistaken_40 rfl ?_
        refine xg_getR C V (f := 0) qX4_mistaken_80 rfl rfl rfl dX4_mistaken_41 ?_
        refine xg_iload_n C dX4_mistaken_44 rfl ?_
        refine xg_iald C V (f := 24) (n := 1) (N := 64) rfl (by decide) (xR_0 (by decide)) (by first | assumption | exact xin_one (by assumption) | exact xin_asks (by assumption) | exact xin_ask1 (by assumption) | exact xin_ask2 (by assumption)) dX4_mistaken_45 (v := (S 24 0 (nI i))) (xu_ne (by decide)) ?_
        refine xg_iconst C dX4_mistaken_46 (v := (2 : Int32)) (by decide) ?_
        refine xg_icmp_ne C 54 dX4_mistaken_47 (by decide) (fun h4 => ?_) (fun h4 => ?_)
        · refine xg_iconst C dX4_mistaken_54 (v := (0 : Int32)) (by decide) ?_
          refine xg_iadd C dX4_mistaken_55 ?_
          refine xg_istore_n C dX4_mistaken_56 (by decide) (L' := [some (.ref (G.2.2 0 0)), some (.int (x + (0 : Int32))), some (.int (nI i))]) rfl ?_
          refine xg_iinc C dX4_mistaken_57 rfl (v := (nI (i + 1))) (xinc i) (by decide) (L' := [some (.ref (G.2.2 0 0)), some (.int (x + (0 : Int32))), some (.int (nI (i + 1)))]) rfl ?_
          refine xg_goto C 9 dX4_mistaken_60 (by decide) ?_
          have e : (bX4_mistaken_9 S) (nI i) x = (x + (0 : Int32)) := by first | (rw [bX4_mistaken_9, if_pos h2, if_pos h3, if_neg h4]; done) | (rw [bX4_mistaken_9, if_pos h2, if_pos h3, if_neg h4]; rfl)
          rw [e] at K
          exact xg_le K ⟨rfl, rfl, rfl, trivial⟩
        · refine xg_iconst C dX4_mistaken_50 (v := (1 : Int32)) (by decide) ?_
          refine xg_goto C 55 dX4_mistaken_51 (by decide) ?_
          refine xg_iadd C dX4_mistaken_55 ?_
          refine xg_istore_n C dX4_mistaken_56 (by decide) (L' := [some (.ref (G.2.2 0 0)), some (.int (x + (1 : Int32))), some (.int (nI i))]) rfl ?_
          refine xg_iinc C dX4_mistaken_57 rfl (v := (nI (i + 1))) (xinc i) (by decide) (L' := [some (.ref (G.2.2 0 0)), some (.int (x + (1 : Int32))), some (.int (nI (i + 1)))]) rfl ?_
          refine xg_goto C 9 dX4_mistaken_60 (by decide) ?_
          have e : (bX4_mistaken_9 S) (nI i) x = (x + (1 : Int32)) := by first | (rw [bX4_mistaken_9, if_pos h2, if_pos h3, if_pos h4]; done) | (rw [bX4_mistaken_9, if_pos h2, if_pos h3, if_pos h4]; rfl)
          rw [e] at K
          exact xg_le K ⟨rfl, rfl, rfl, trivial⟩
  · show xg F 0 0 9 [some (.ref (G.2.2 0 0)), some (.int (xfold (bX4_mistaken_9 S) 64 (0 : Int32))), some (.int (nI 64))] [] (xP xYm G (xu S 0 0 (nI 29) (0 : Int32)))
    refine xg_iload_n C dX4_mistaken_9 rfl ?_
    refine xg_bipush C dX4_mistaken_10 (v := (64 : Int32)) (by decide) ?_
    refine xg_icmp_ge C 63 dX4_mistaken_12 (by decide) (fun h5 => ?_) (fun h5 => absurd (nI_le (Nat.le_refl _) (by decide)) h5)
    refine xg_iload_n C dX4_mistaken_63 rfl ?_
    have e : (fX4_mistaken S) = ((xu S 0 0 (nI 29) (0 : Int32)), (xfold (bX4_mistaken_9 S) 64 (0 : Int32))) := rfl
    exact xret_i E dX4_mistaken_64 (xsnd e) (xfst e)
theorem iX4_vain_X4 : ∀ w ∈ wsX40, w ∈ wsX4_vain := by decide +kernel
theorem qX4_vain_90 : xFr wsX4_vain RX4 90 RX4 TX4 30 29 := ⟨iX4_vain_X4, List.mem_of_getElem? (i := 1) rfl, by decide⟩
theorem qX4_vain_137 : xFr wsX4_vain RX4 137 RX4 TX4 30 27 := ⟨iX4_vain_X4, List.mem_of_getElem? (i := 2) rfl, by decide⟩
def fX4_vain  (S : xS) : xS × Int32 :=
  ((xu S 0 0 (nI 29) (0 : Int32)), (S 0 0 (nI 27)))
theorem hdX4_vain : yX4_vain.cls = RX4 ∧ yX4_vain.cls ≠ "java/lang/invoke/MethodHandle" ∧ yX4_vain.cls ≠ "java/lang/invoke/VarHandle" ∧ (parseMethodDescriptor yX4_vain.desc).map (fun d => d.parameters.length) = some 0 := by decide +kernel
set_option maxRecDepth 100000 in
set_option maxHeartbeats 4000000 in
theorem kX4_vain (l : Launch) {G : xG} (hap : xAp xYm G)  (S : xS)  : xMi l xYm G yX4_vain wsX4_vain 0 0 [.ref (G.2.2 0 0)] S (fX4_vain S).1 (fX4_vain S).2 := by
  refine xMi_of (cc := cX4_vain) (maxL := 1) (ty := .int) (own := RX4) [some (.ref (G.2.2 0 0))] pnX4 rfl rfl rfl (xcat1 rfl) (Nat.le_of_ble_eq_true rfl) rfl hap (fun F C V E => ?_)
  refine xg_aload_n C dX4_vain_0 rfl ?_
  refine xg_iconst C dX4_vain_1 (v := (0 : Int32)) (by decide) ?_
  refine xg_putI C V (f := 0) qX4_vain_90 rfl (by decide) rfl rfl tyX4_ok nmX4 rfl rfl dX4_vain_2 ?_
  refine xg_aload_n C dX4_vain_5 rfl ?_
  refine xg_getI C V (f := 0) qX4_vain_137 rfl rfl rfl dX4_vain_6 (v := (S 0 0 (nI 27))) (xu_ni (by decide)) ?_
  have e : (fX4_vain S) = ((xu S 0 0 (nI 29) (0 : Int32)), (S 0 0 (nI 27))) := rfl
  exact xret_i E dX4_vain_9 (xsnd e) (xfst e)
theorem iX4_time_X4 : ∀ w ∈ wsX40, w ∈ wsX4_time := by decide +kernel
theorem qX4_time_90 : xFr wsX4_time RX4 90 RX4 TX4 30 29 := ⟨iX4_time_X4, List.mem_of_getElem? (i := 1) rfl, by decide⟩
theorem qX4_time_118 : xFr wsX4_time RX4 118 RX4 TX4 30 28 := ⟨iX4_time_X4, List.mem_of_getElem? (i := 2) rfl, by decide⟩
def fX4_time  (S : xS) : xS × Int32 :=
  ((xu S 0 0 (nI 29) (0 : Int32)), (S 0 0 (nI 28)))
theorem hdX4_time : yX4_time.cls = RX4 ∧ yX4_time.cls ≠ "java/lang/invoke/MethodHandle" ∧ yX4_time.cls ≠ "java/lang/invoke/VarHandle" ∧ (parseMethodDescriptor yX4_time.desc).map (fun d => d.parameters.length) = some 0 := by decide +kernel
set_option maxRecDepth 100000 in
set_option maxHeartbeats 4000000 in
theorem kX4_time (l : Launch) {G : xG} (hap : xAp xYm G)  (S : xS)  : xMi l xYm G yX4_time wsX4_time 0 0 [.ref (G.2.2 0 0)] S (fX4_time S).1 (fX4_time S).2 := by
  refine xMi_of (cc := cX4_time) (maxL := 1) (ty := .int) (own := RX4) [some (.ref (G.2.2 0 0))] pnX4 rfl rfl rfl (xcat1 rfl) (Nat.le_of_ble_eq_true rfl) rfl hap (fun F C V E => ?_)
  refine xg_aload_n C dX4_time_0 rfl ?_
  refine xg_iconst C dX4_time_1 (v := (0 : Int32)) (by decide) ?_
  refine xg_putI C V (f := 0) qX4_time_90 rfl (by decide) rfl rfl tyX4_ok nmX4 rfl rfl dX4_time_2 ?_
  refine xg_aload_n C dX4_time_5 rfl ?_
  refine xg_getI C V (f := 0) qX4_time_118 rfl rfl rfl dX4_time_6 (v := (S 0 0 (nI 28))) (xu_ni (by decide)) ?_
  have e : (fX4_time S) = ((xu S 0 0 (nI 29) (0 : Int32)), (S 0 0 (nI 28))) := rfl
  exact xret_i E dX4_time_9 (xsnd e) (xfst e)
theorem iX4_thrown_X4 : ∀ w ∈ wsX40, w ∈ wsX4_thrown := by decide +kernel
theorem qX4_thrown_90 : xFr wsX4_thrown RX4 90 RX4 TX4 30 29 := ⟨iX4_thrown_X4, List.mem_of_getElem? (i := 1) rfl, by decide⟩
def fX4_thrown  (S : xS) : Int32 :=
  (S 0 0 (nI 29))
theorem hdX4_thrown : yX4_thrown.cls = RX4 ∧ yX4_thrown.cls ≠ "java/lang/invoke/MethodHandle" ∧ yX4_thrown.cls ≠ "java/lang/invoke/VarHandle" ∧ (parseMethodDescriptor yX4_thrown.desc).map (fun d => d.parameters.length) = some 0 := by decide +kernel
set_option maxRecDepth 100000 in
set_option maxHeartbeats 4000000 in
theorem kX4_thrown (l : Launch) {G : xG} (hap : xAp xYm G)  (S : xS)  : xMi l xYm G yX4_thrown wsX4_thrown 0 0 [.ref (G.2.2 0 0)] S S (fX4_thrown S) := by
  refine xMi_of (cc := cX4_thrown) (maxL := 1) (ty := .int) (own := RX4) [some (.ref (G.2.2 0 0))] pnX4 rfl rfl rfl (xcat1 rfl) (Nat.le_of_ble_eq_true rfl) rfl hap (fun F C V E => ?_)
  refine xg_aload_n C dX4_thrown_0 rfl ?_
  refine xg_getI C V (f := 0) qX4_thrown_90 rfl rfl rfl dX4_thrown_1 (v := (S 0 0 (nI 29))) rfl ?_
  exact xret_i E dX4_thrown_4 (rfl) rfl
