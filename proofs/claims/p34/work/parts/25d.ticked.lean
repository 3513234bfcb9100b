/-! 25d: isTicked -/
def jL_isTicked_33 (S : xS) (i : Int32) : Int32 :=
  if (S 35 0 (((8 : Int32) * i) + (1 : Int32))) = (0 : Int32) then
    (1 : Int32)
  else
    (0 : Int32)
def bL_isTicked_24  (S : xS) (i : Int32) (x : Int32) : Int32 :=
  (x + (jL_isTicked_33 S i))
def fL_isTicked  (S : xS) : xS × Int32 :=
  ((fL_areGates (fL_areBeats (fL_isWater (fX3_tick 1 (fL_keeps S)).2 (fX3_tick 1 (fL_keeps S)).1).1).1).1, (1 : Int32))
def okT (S : xS) : Prop := ((fL_keeps S) 0 0 (nI 3)) + (1 : Int32) ≤ (5000 : Int32) ∧ ¬ (fX3_tick 1 (fL_keeps S)).2 < (0 : Int32) ∧ fX3_time (fX3_tick 1 (fL_keeps S)).1 = fX3_time (fL_keeps S) + (1 : Int32) ∧ ¬ fX3_vain (fX3_tick 1 (fL_keeps S)).1 < fX3_vain (fL_keeps S) ∧ fX3_vain (fX3_tick 1 (fL_keeps S)).1 ≤ fX3_vain (fL_keeps S) + xfold (bL_isTicked_24 (fL_keeps S)) 8 (0 : Int32) ∧ okW (fX3_tick 1 (fL_keeps S)).2 (fX3_tick 1 (fL_keeps S)).1 ∧ okB (fL_isWater (fX3_tick 1 (fL_keeps S)).2 (fX3_tick 1 (fL_keeps S)).1).1 ∧ okG (fL_areBeats (fL_isWater (fX3_tick 1 (fL_keeps S)).2 (fX3_tick 1 (fL_keeps S)).1).1).1
theorem hdL_isTicked : yL_isTicked.cls ≠ "java/lang/invoke/MethodHandle" ∧ yL_isTicked.cls ≠ "java/lang/invoke/VarHandle" ∧ (parseMethodDescriptor yL_isTicked.desc).map (fun d => d.parameters.length) = some 7 := by decide +kernel
set_option maxRecDepth 100000 in
set_option maxHeartbeats 4000000 in
theorem kL_isTicked (l : Launch) {G : xG} (hap : xAp xYc G)  (S : xS) (hT : okT S) : xMi l xYc G yL_isTicked wsL_isTicked 7 176 [.ref (G.2.2 0 0), .ref (G.2.2 34 0), .ref (G.2.2 35 0), .ref (G.2.2 36 0), .ref (G.2.2 37 0), .ref (G.2.2 38 0), .ref (G.2.2 39 0)] S (fL_isTicked S).1 (fL_isTicked S).2 := by
  refine xMi_of (cc := cL_isTicked) (maxL := 11) (ty := .boolean) (own := RL) [some (.ref (G.2.2 0 0)), some (.ref (G.2.2 34 0)), some (.ref (G.2.2 35 0)), some (.ref (G.2.2 36 0)), some (.ref (G.2.2 37 0)), some (.ref (G.2.2 38 0)), some (.ref (G.2.2 39 0)), none, none, none, none] pnL rfl rfl (xn01 (Or.inr rfl)) (xcat1 rfl) (Nat.le_of_ble_eq_true rfl) rfl hap (fun F C V E => ?_)
  obtain ⟨w3, hsp, htm, hv1, hv2, hW, hB, hG⟩ := hT
  refine xg_aload_n C dL_isTicked_0 rfl ?_
  refine xg_aload_n C dL_isTicked_1 rfl ?_
  refine xg_aload_n C dL_isTicked_2 rfl ?_
  refine xg_callSv C V (as := [.ref (G.2.2 0 0), .ref (G.2.2 35 0), .ref (G.2.2 36 0)]) (fun l => kL_keeps l hap  S) gL_isTicked_L_keeps rfl hdL_keeps ⟨by decide, by decide⟩ rfl rfl (Nat.le_of_ble_eq_true rfl) ⟨Nat.zero_le _, Nat.zero_le _⟩ dL_isTicked_3 ?_
  refine xg_aload_n C dL_isTicked_6 rfl ?_
  refine xg_callVi C V (f := 0) (As := []) (r := (fX3_time (fL_keeps S))) (fun l => kX3_time l hap  (fL_keeps S)) gL_isTicked_X3_time rfl hdX3_time ⟨by decide, by decide⟩ rfl rfl rfl rfl rfl (Nat.le_of_ble_eq_true rfl) ⟨Nat.zero_le _, Nat.zero_le _⟩ dL_isTicked_7 ?_
  refine xg_istore C dL_isTicked_10 (by decide) (L' := [some (.ref (G.2.2 0 0)), some (.ref (G.2.2 34 0)), some (.ref (G.2.2 35 0)), some (.ref (G.2.2 36 0)), some (.ref (G.2.2 37 0)), some (.ref (G.2.2 38 0)), some (.ref (G.2.2 39 0)), some (.int (fX3_time (fL_keeps S))), none, none, none]) rfl ?_
  refine xg_aload_n C dL_isTicked_12 rfl ?_
  refine xg_callVi C V (f := 0) (As := []) (r := (fX3_vain (fL_keeps S))) (fun l => kX3_vain l hap  (fL_keeps S)) gL_isTicked_X3_vain rfl hdX3_vain ⟨by decide, by decide⟩ rfl rfl rfl rfl rfl (Nat.le_of_ble_eq_true rfl) ⟨Nat.zero_le _, Nat.zero_le _⟩ dL_isTicked_13 ?_
  refine xg_istore C dL_isTicked_16 (by decide) (L' := [some (.ref (G.2.2 0 0)), some (.ref (G.2.2 34 0)), some (.ref (G.2.2 35 0)), some (.ref (G.2.2 36 0)), some (.ref (G.2.2 37 0)), some (.ref (G.2.2 38 0)), some (.ref (G.2.2 39 0)), some (.int (fX3_time (fL_keeps S))), some (.int (fX3_vain (fL_keeps S))), none, none]) rfl ?_
  refine xg_iconst C dL_isTicked_18 (v := (0 : Int32)) (by decide) ?_
  refine xg_istore C dL_isTicked_19 (by decide) (L' := [some (.ref (G.2.2 0 0)), some (.ref (G.2.2 34 0)), some (.ref (G.2.2 35 0)), some (.ref (G.2.2 36 0)), some (.ref (G.2.2 37 0)), some (.ref (G.2.2 38 0)), some (.ref (G.2.2 39 0)), some (.int (fX3_time (fL_keeps S))), some (.int (fX3_vain (fL_keeps S))), some (.int (0 : Int32)), none]) rfl ?_
  refine xg_iconst C dL_isTicked_21 (v := (0 : Int32)) (by decide) ?_
  refine xg_istore C dL_isTicked_22 (by decide) (L' := [some (.ref (G.2.2 0 0)), some (.ref (G.2.2 34 0)), some (.ref (G.2.2 35 0)), some (.ref (G.2.2 36 0)), some (.ref (G.2.2 37 0)), some (.ref (G.2.2 38 0)), some (.ref (G.2.2 39 0)), some (.int (fX3_time (fL_keeps S))), some (.int (fX3_vain (fL_keeps S))), some (.int (0 : Int32)), some (.int (0 : Int32))]) rfl ?_
  refine xloop (fun (ii : Int32) (x : Int32) => xg F 0 0 24 [some (.ref (G.2.2 0 0)), some (.ref (G.2.2 34 0)), some (.ref (G.2.2 35 0)), some (.ref (G.2.2 36 0)), some (.ref (G.2.2 37 0)), some (.ref (G.2.2 38 0)), some (.ref (G.2.2 39 0)), some (.int (fX3_time (fL_keeps S))), some (.int (fX3_vain (fL_keeps S))), some (.int x), some (.int ii)] [] (xP xYc G (fL_keeps S))) (bL_isTicked_24 (fL_keeps S)) 8 (0 : Int32) (fun i hi x K => ?_) ?_
  · have hi8 : vp_in (nI i) 8 := vp_in_nI hi (by decide)
    show xg F 0 0 24 [some (.ref (G.2.2 0 0)), some (.ref (G.2.2 34 0)), some (.ref (G.2.2 35 0)), some (.ref (G.2.2 36 0)), some (.ref (G.2.2 37 0)), some (.ref (G.2.2 38 0)), some (.ref (G.2.2 39 0)), some (.int (fX3_time (fL_keeps S))), some (.int (fX3_vain (fL_keeps S))), some (.int x), some (.int (nI i))] [] (xP xYc G (fL_keeps S))
    refine xg_iload C dL_isTicked_24 rfl ?_
    refine xg_bipush C dL_isTicked_26 (v := (8 : Int32)) (by decide) ?_
    refine xg_icmp_ge C 59 dL_isTicked_28 (by decide) (fun h1 => absurd h1 (nI_ge hi (by decide))) (fun h1 => ?_)
    refine xg_iload C dL_isTicked_31 rfl ?_
    suffices hj : xg F 0 0 50 [some (.ref (G.2.2 0 0)), some (.ref (G.2.2 34 0)), some (.ref (G.2.2 35 0)), some (.ref (G.2.2 36 0)), some (.ref (G.2.2 37 0)), some (.ref (G.2.2 38 0)), some (.ref (G.2.2 39 0)), some (.int (fX3_time (fL_keeps S))), some (.int (fX3_vain (fL_keeps S))), some (.int x), some (.int (nI i))] [.int (jL_isTicked_33 (fL_keeps S) (nI i)), .int x] (xP xYc G (fL_keeps S)) by
      refine xg_aload_n C dL_isTicked_33 rfl ?_
      refine xg_bipush C dL_isTicked_34 (v := (8 : Int32)) (by decide) ?_
      refine xg_iload C dL_isTicked_36 rfl ?_
      refine xg_imul C dL_isTicked_38 ?_
      refine xg_iconst C dL_isTicked_39 (v := (1 : Int32)) (by decide) ?_
      refine xg_iadd C dL_isTicked_40 ?_
      refine xg_iald C V (f := 35) (n := 1) (N := 64) rfl (by decide) (xR_0 (by decide)) (xin_8k (by assumption) (vp_in_iff.mpr ⟨by decide, by decide⟩)) dL_isTicked_41 (v := ((fL_keeps S) 35 0 (((8 : Int32) * (nI i)) + (1 : Int32)))) rfl ?_
      refine xg_if_ne C 49 dL_isTicked_42 (by decide) (fun h2 => ?_) (fun h2 => ?_)
      · refine xg_iconst C dL_isTicked_49 (v := (0 : Int32)) (by decide) ?_
        have e : (jL_isTicked_33 (fL_keeps S) (nI i)) = (0 : Int32) := by first | (rw [jL_isTicked_33, if_neg h2]; done) | (rw [jL_isTicked_33, if_neg h2]; rfl)
        rw [e] at hj
        exact hj
      · refine xg_iconst C dL_isTicked_45 (v := (1 : Int32)) (by decide) ?_
        refine xg_goto C 50 dL_isTicked_46 (by decide) ?_
        have e : (jL_isTicked_33 (fL_keeps S) (nI i)) = (1 : Int32) := by first | (rw [jL_isTicked_33, if_pos h2]; done) | (rw [jL_isTicked_33, if_pos h2]; rfl)
        rw [e] at hj
        exact hj
    refine xg_iadd C dL_isTicked_50 ?_
    refine xg_istore C dL_isTicked_51 (by decide) (L' := [some (.ref (G.2.2 0 0)), some (.ref (G.2.2 34 0)), some (.ref (G.2.2 35 0)), some (.ref (G.2.2 36 0)), some (.ref (G.2.2 37 0)), some (.ref (G.2.2 38 0)), some (.ref (G.2.2 39 0)), some (.int (fX3_time (fL_keeps S))), some (.int (fX3_vain (fL_keeps S))), some (.int (x + (jL_isTicked_33 (fL_keeps S) (nI i)))), some (.int (nI i))]) rfl ?_
    refine xg_iinc C dL_isTicked_53 rfl (v := (nI (i + 1))) (xinc i) (by decide) (L' := [some (.ref (G.2.2 0 0)), some (.ref (G.2.2 34 0)), some (.ref (G.2.2 35 0)), some (.ref (G.2.2 36 0)), some (.ref (G.2.2 37 0)), some (.ref (G.2.2 38 0)), some (.ref (G.2.2 39 0)), some (.int (fX3_time (fL_keeps S))), some (.int (fX3_vain (fL_keeps S))), some (.int (x + (jL_isTicked_33 (fL_keeps S) (nI i)))), some (.int (nI (i + 1)))]) rfl ?_
    refine xg_goto C 24 dL_isTicked_56 (by decide) ?_
    have e : (bL_isTicked_24 (fL_keeps S)) (nI i) x = (x + (jL_isTicked_33 (fL_keeps S) (nI i))) := rfl
    rw [e] at K
    exact xg_le K ⟨rfl, rfl, rfl, rfl, rfl, rfl, rfl, rfl, rfl, rfl, rfl, trivial⟩
  · show xg F 0 0 24 [some (.ref (G.2.2 0 0)), some (.ref (G.2.2 34 0)), some (.ref (G.2.2 35 0)), some (.ref (G.2.2 36 0)), some (.ref (G.2.2 37 0)), some (.ref (G.2.2 38 0)), some (.ref (G.2.2 39 0)), some (.int (fX3_time (fL_keeps S))), some (.int (fX3_vain (fL_keeps S))), some (.int (xfold (bL_isTicked_24 (fL_keeps S)) 8 (0 : Int32))), some (.int (nI 8))] [] (xP xYc G (fL_keeps S))
    refine xg_iload C dL_isTicked_24 rfl ?_
    refine xg_bipush C dL_isTicked_26 (v := (8 : Int32)) (by decide) ?_
    refine xg_icmp_ge C 59 dL_isTicked_28 (by decide) (fun h3 => ?_) (fun h3 => absurd (nI_le (Nat.le_refl _) (by decide)) h3)
    refine xg_aload_n C dL_isTicked_59 rfl ?_
    refine xg_bipush C dL_isTicked_60 (v := (6 : Int32)) (by decide) ?_
    refine xg_iconst C dL_isTicked_62 (v := (1 : Int32)) (by decide) ?_
    refine xg_iconst C dL_isTicked_63 (v := (0 : Int32)) (by decide) ?_
    refine xg_callSiW C V (as := [.ref (G.2.2 0 0), .int (6 : Int32), .int (1 : Int32), .int (0 : Int32)]) (r := (fX3_tick 1 (fL_keeps S)).2) (fun l => kL_act6 l hap  (fL_keeps S) w3) gL_isTicked_L_act rfl hdL_act ⟨by decide, by decide⟩ rfl rfl (Nat.le_of_ble_eq_true rfl) ⟨Nat.zero_le _, Nat.zero_le _⟩ dL_isTicked_64 ?_
    refine xg_istore C dL_isTicked_67 (by decide) (L' := [some (.ref (G.2.2 0 0)), some (.ref (G.2.2 34 0)), some (.ref (G.2.2 35 0)), some (.ref (G.2.2 36 0)), some (.ref (G.2.2 37 0)), some (.ref (G.2.2 38 0)), some (.ref (G.2.2 39 0)), some (.int (fX3_time (fL_keeps S))), some (.int (fX3_vain (fL_keeps S))), some (.int (xfold (bL_isTicked_24 (fL_keeps S)) 8 (0 : Int32))), some (.int (fX3_tick 1 (fL_keeps S)).2)]) rfl ?_
    refine xg_iload C dL_isTicked_69 rfl ?_
    refine xg_if_lt C 147 dL_isTicked_71 (by decide) (fun h4 => absurd h4 hsp) (fun h4 => ?_)
    refine xg_aload_n C dL_isTicked_74 rfl ?_
    refine xg_callVi C V (f := 0) (As := []) (r := (fX3_time (fX3_tick 1 (fL_keeps S)).1)) (fun l => kX3_time l hap  (fX3_tick 1 (fL_keeps S)).1) gL_isTicked_X3_time rfl hdX3_time ⟨by decide, by decide⟩ rfl rfl rfl rfl rfl (Nat.le_of_ble_eq_true rfl) ⟨Nat.zero_le _, Nat.zero_le _⟩ dL_isTicked_75 ?_
    refine xg_iload C dL_isTicked_78 rfl ?_
    refine xg_iconst C dL_isTicked_80 (v := (1 : Int32)) (by decide) ?_
    refine xg_iadd C dL_isTicked_81 ?_
    refine xg_icmp_ne C 147 dL_isTicked_82 (by decide) (fun h5 => absurd htm h5) (fun h5 => ?_)
    refine xg_aload_n C dL_isTicked_85 rfl ?_
    refine xg_callVi C V (f := 0) (As := []) (r := (fX3_vain (fX3_tick 1 (fL_keeps S)).1)) (fun l => kX3_vain l hap  (fX3_tick 1 (fL_keeps S)).1) gL_isTicked_X3_vain rfl hdX3_vain ⟨by decide, by decide⟩ rfl rfl rfl rfl rfl (Nat.le_of_ble_eq_true rfl) ⟨Nat.zero_le _, Nat.zero_le _⟩ dL_isTicked_86 ?_
    refine xg_iload C dL_isTicked_89 rfl ?_
    refine xg_icmp_lt C 147 dL_isTicked_91 (by decide) (fun h6 => absurd h6 hv1) (fun h6 => ?_)
    refine xg_aload_n C dL_isTicked_94 rfl ?_
    refine xg_callVi C V (f := 0) (As := []) (r := (fX3_vain (fX3_tick 1 (fL_keeps S)).1)) (fun l => kX3_vain l hap  (fX3_tick 1 (fL_keeps S)).1) gL_isTicked_X3_vain rfl hdX3_vain ⟨by decide, by decide⟩ rfl rfl rfl rfl rfl (Nat.le_of_ble_eq_true rfl) ⟨Nat.zero_le _, Nat.zero_le _⟩ dL_isTicked_95 ?_
    refine xg_iload C dL_isTicked_98 rfl ?_
    refine xg_iload C dL_isTicked_100 rfl ?_
    refine xg_iadd C dL_isTicked_102 ?_
    refine xg_icmp_gt C 147 dL_isTicked_103 (by decide) (fun h7 => absurd hv2 (Int32.not_le.mpr h7)) (fun h7 => ?_)
    refine xg_aload_n C dL_isTicked_106 rfl ?_
    refine xg_aload_n C dL_isTicked_107 rfl ?_
    refine xg_aload_n C dL_isTicked_108 rfl ?_
    refine xg_aload C dL_isTicked_109 rfl ?_
    refine xg_iload C dL_isTicked_111 rfl ?_
    refine xg_callSi C V (as := [.ref (G.2.2 0 0), .ref (G.2.2 34 0), .ref (G.2.2 35 0), .ref (G.2.2 39 0), .int (fX3_tick 1 (fL_keeps S)).2]) (r := (1 : Int32)) (fun l => kL_isWater l hap (fX3_tick 1 (fL_keeps S)).2 (fX3_tick 1 (fL_keeps S)).1 hW) gL_isTicked_L_isWater rfl hdL_isWater ⟨by decide, by decide⟩ rfl rfl (Nat.le_of_ble_eq_true rfl) ⟨Nat.zero_le _, Nat.zero_le _⟩ dL_isTicked_113 ?_
    refine xg_if_eq C 147 dL_isTicked_116 (by decide) (fun h8 => by exact absurd h8 (by decide)) (fun h8 => ?_)
    refine xg_aload_n C dL_isTicked_119 rfl ?_
    refine xg_aload_n C dL_isTicked_120 rfl ?_
    refine xg_aload_n C dL_isTicked_121 rfl ?_
    refine xg_aload C dL_isTicked_122 rfl ?_
    refine xg_aload C dL_isTicked_124 rfl ?_
    refine xg_callSi C V (as := [.ref (G.2.2 0 0), .ref (G.2.2 35 0), .ref (G.2.2 36 0), .ref (G.2.2 37 0), .ref (G.2.2 39 0)]) (r := (1 : Int32)) (fun l => kL_areBeats1 l hap  (fL_isWater (fX3_tick 1 (fL_keeps S)).2 (fX3_tick 1 (fL_keeps S)).1).1 hB) gL_isTicked_L_areBeats rfl hdL_areBeats ⟨by decide, by decide⟩ rfl rfl (Nat.le_of_ble_eq_true rfl) ⟨Nat.zero_le _, Nat.zero_le _⟩ dL_isTicked_126 ?_
    refine xg_if_eq C 147 dL_isTicked_129 (by decide) (fun h9 => by exact absurd h9 (by decide)) (fun h9 => ?_)
    refine xg_aload_n C dL_isTicked_132 rfl ?_
    refine xg_aload_n C dL_isTicked_133 rfl ?_
    refine xg_aload_n C dL_isTicked_134 rfl ?_
    refine xg_aload C dL_isTicked_135 rfl ?_
    refine xg_callSi C V (as := [.ref (G.2.2 0 0), .ref (G.2.2 34 0), .ref (G.2.2 35 0), .ref (G.2.2 38 0)]) (r := (1 : Int32)) (fun l => kL_areGates1 l hap  (fL_areBeats (fL_isWater (fX3_tick 1 (fL_keeps S)).2 (fX3_tick 1 (fL_keeps S)).1).1).1 hG) gL_isTicked_L_areGates rfl hdL_areGates ⟨by decide, by decide⟩ rfl rfl (Nat.le_of_ble_eq_true rfl) ⟨Nat.zero_le _, Nat.zero_le _⟩ dL_isTicked_137 ?_
    refine xg_if_eq C 147 dL_isTicked_140 (by decide) (fun h10 => by exact absurd h10 (by decide)) (fun h10 => ?_)
    refine xg_iconst C dL_isTicked_143 (v := (1 : Int32)) (by decide) ?_
    refine xg_goto C 148 dL_isTicked_144 (by decide) ?_
    have e : (fL_isTicked S) = ((fL_areGates (fL_areBeats (fL_isWater (fX3_tick 1 (fL_keeps S)).2 (fX3_tick 1 (fL_keeps S)).1).1).1).1, (1 : Int32)) := rfl
    exact xret_i E dL_isTicked_148 (xsnd e) (xfst e)
