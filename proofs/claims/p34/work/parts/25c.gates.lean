/-! 25c: areGates, areMembers -/
def jL_areGates_34 (S : xS) (i : Int32) : Int32 :=
  if (S 35 0 ((8 : Int32) * i)) = (0 : Int32) then
    if (S 35 0 (((8 : Int32) * i) + (1 : Int32))) = (0 : Int32) then
      (1 : Int32)
    else
      (0 : Int32)
  else
    (0 : Int32)
def jL_areGates_63 (S : xS) (i : Int32) : Int32 :=
  if (7 : Int32) ≤ i then
    (0 : Int32)
  else
    if (fX3_believed i (i + (1 : Int32)) S) < (0 : Int32) then
      (1 : Int32)
    else
      if (fX3_age i (i + (1 : Int32)) S) ≤ (S 34 0 (((8 : Int32) * i) + (7 : Int32))) then
        (0 : Int32)
      else
        (1 : Int32)
def jL_areGates_279 (due : Int32) (S : xS) (i : Int32) : Int32 :=
  if (fX3_opening i S) = due then
    if (fX3_safety i S) = (S 38 0 i) then
      (1 : Int32)
    else
      (0 : Int32)
  else
    (0 : Int32)
def jL_areGates_264 (had : Int32) : Int32 :=
  if had ≤ (0 : Int32) then
    (0 : Int32)
  else
    (had - (1 : Int32))
def jL_areGates_218 (had : Int32) : Int32 :=
  if (10 : Int32) ≤ had then
    (10 : Int32)
  else
    (had + (1 : Int32))
def jL_areGates_134 (had : Int32) (i : Int32) : Int32 :=
  if had ≤ (8 : Int32) then
    (had + (2 : Int32))
  else
    (10 : Int32)
def bL_areGates_6  (i : Int32) (x : xS × Int32) : xS × Int32 :=
  if (jL_areGates_34 x.1 i) = (0 : Int32) then
    (x.1, (jL_areGates_279 (x.1 35 0 (((8 : Int32) * i) + (7 : Int32))) x.1 i))
  else
    if (jL_areGates_63 x.1 i) = (0 : Int32) then
      if (fX3_believed i i x.1) ≤ (x.1 34 0 (((8 : Int32) * i) + (5 : Int32))) then
        if (x.1 34 0 (((8 : Int32) * i) + (4 : Int32))) ≤ (fX3_believed i i x.1) then
          (x.1, (jL_areGates_279 (x.1 35 0 (((8 : Int32) * i) + (7 : Int32))) x.1 i))
        else
          (x.1, (jL_areGates_279 (jL_areGates_264 (x.1 35 0 (((8 : Int32) * i) + (7 : Int32)))) x.1 i))
      else
        if i = (7 : Int32) then
          (x.1, (jL_areGates_279 (jL_areGates_218 (x.1 35 0 (((8 : Int32) * i) + (7 : Int32)))) x.1 i))
        else
          if (x.1 34 0 (((8 : Int32) * i) + (6 : Int32))) ≤ (fX3_believed i (i + (1 : Int32)) x.1) then
            if (x.1 34 0 (((8 : Int32) * i) + (4 : Int32))) ≤ (fX3_believed i i x.1) then
              (x.1, (jL_areGates_279 (x.1 35 0 (((8 : Int32) * i) + (7 : Int32))) x.1 i))
            else
              (x.1, (jL_areGates_279 (jL_areGates_264 (x.1 35 0 (((8 : Int32) * i) + (7 : Int32)))) x.1 i))
          else
            (x.1, (jL_areGates_279 (jL_areGates_218 (x.1 35 0 (((8 : Int32) * i) + (7 : Int32)))) x.1 i))
    else
      ((xu x.1 38 0 i ((x.1 38 0 i) + (1 : Int32))), (jL_areGates_279 (jL_areGates_134 (x.1 35 0 (((8 : Int32) * i) + (7 : Int32))) i) (xu x.1 38 0 i ((x.1 38 0 i) + (1 : Int32))) i))
def fL_areGates  (S : xS) : xS × Int32 :=
  ((xfold bL_areGates_6 8 (S, (1 : Int32))).1, (xfold bL_areGates_6 8 (S, (1 : Int32))).2)
def okG (S : xS) : Prop := ∃ J : Nat → xS × Int32 → Prop, J 0 (S, (1 : Int32)) ∧ (∀ i, i < 8 → ∀ x, J i x → J (i + 1) (bL_areGates_6 (nI i) x)) ∧ (∀ i x, J i x → x.2 = (1 : Int32))
theorem nG1 {S : xS} (h : okG S) : (fL_areGates S).2 = (1 : Int32) := by
  obtain ⟨J, hJ0, hJ1, hJi⟩ := h
  have e : fL_areGates S = ((xfold bL_areGates_6 8 (S, (1 : Int32))).1, (xfold bL_areGates_6 8 (S, (1 : Int32))).2) := rfl
  rw [xsnd e]
  exact hJi 8 _ (xfold_I J 8 (S, (1 : Int32)) hJ0 hJ1)
theorem nG {S : xS} (h : okG S) : narrow .boolean (.int (fL_areGates S).2) = .int (fL_areGates S).2 := by
  rw [nG1 h]
  rfl
theorem hdL_areGates : yL_areGates.cls ≠ "java/lang/invoke/MethodHandle" ∧ yL_areGates.cls ≠ "java/lang/invoke/VarHandle" ∧ (parseMethodDescriptor yL_areGates.desc).map (fun d => d.parameters.length) = some 4 := by decide +kernel
set_option maxRecDepth 100000 in
set_option maxHeartbeats 4000000 in
theorem kL_areGates (l : Launch) {G : xG} (hap : xAp xYc G)  (S : xS) (hG : okG S) : xMi l xYc G yL_areGates wsL_areGates 3 64 [.ref (G.2.2 0 0), .ref (G.2.2 34 0), .ref (G.2.2 35 0), .ref (G.2.2 38 0)] S (fL_areGates S).1 (fL_areGates S).2 := by
  refine xMi_of (cc := cL_areGates) (maxL := 10) (ty := .boolean) (own := RL) [some (.ref (G.2.2 0 0)), some (.ref (G.2.2 34 0)), some (.ref (G.2.2 35 0)), some (.ref (G.2.2 38 0)), none, none, none, none, none, none] pnL rfl rfl (nG hG) (xcat1 rfl) (Nat.le_of_ble_eq_true rfl) rfl hap (fun F C V E => ?_)
  obtain ⟨J, hJ0, hJ1, hJi⟩ := hG
  refine xg_iconst C dL_areGates_0 (v := (1 : Int32)) (by decide) ?_
  refine xg_istore C dL_areGates_1 (by decide) (L' := [some (.ref (G.2.2 0 0)), some (.ref (G.2.2 34 0)), some (.ref (G.2.2 35 0)), some (.ref (G.2.2 38 0)), some (.int (1 : Int32)), none, none, none, none, none]) rfl ?_
  refine xg_iconst C dL_areGates_3 (v := (0 : Int32)) (by decide) ?_
  refine xg_istore C dL_areGates_4 (by decide) (L' := [some (.ref (G.2.2 0 0)), some (.ref (G.2.2 34 0)), some (.ref (G.2.2 35 0)), some (.ref (G.2.2 38 0)), some (.int (1 : Int32)), some (.int (0 : Int32)), none, none, none, none]) rfl ?_
  refine xloopI (fun (ii : Int32) (x : xS × Int32) => xg F 0 0 6 [some (.ref (G.2.2 0 0)), some (.ref (G.2.2 34 0)), some (.ref (G.2.2 35 0)), some (.ref (G.2.2 38 0)), some (.int x.2), some (.int ii), none, none, none, none] [] (xP xYc G x.1)) bL_areGates_6 8 (S, (1 : Int32)) J hJ0 hJ1 (fun i hi x hJ K => ?_) (fun hJ => ?_)
  · have hi8 : vp_in (nI i) 8 := vp_in_nI hi (by decide)
    have hisx : x.2 = (1 : Int32) := hJi _ _ hJ
    show xg F 0 0 6 [some (.ref (G.2.2 0 0)), some (.ref (G.2.2 34 0)), some (.ref (G.2.2 35 0)), some (.ref (G.2.2 38 0)), some (.int x.2), some (.int (nI i)), none, none, none, none] [] (xP xYc G x.1)
    refine xg_iload C dL_areGates_6 rfl ?_
    refine xg_bipush C dL_areGates_8 (v := (8 : Int32)) (by decide) ?_
    refine xg_icmp_ge C 316 dL_areGates_10 (by decide) (fun h1 => absurd h1 (nI_ge hi (by decide))) (fun h1 => ?_)
    refine xg_iload C dL_areGates_13 rfl ?_
    refine xg_if_eq C 316 dL_areGates_15 (by decide) (fun h2 => absurd h2 (by rw [hisx]; decide)) (fun h2 => ?_)
    refine xg_aload_n C dL_areGates_18 rfl ?_
    refine xg_bipush C dL_areGates_19 (v := (8 : Int32)) (by decide) ?_
    refine xg_iload C dL_areGates_21 rfl ?_
    refine xg_imul C dL_areGates_23 ?_
    refine xg_bipush C dL_areGates_24 (v := (7 : Int32)) (by decide) ?_
    refine xg_iadd C dL_areGates_26 ?_
    refine xg_iald C V (f := 35) (n := 1) (N := 64) rfl (by decide) (xR_0 (by decide)) (xin_8k (by assumption) (vp_in_iff.mpr ⟨by decide, by decide⟩)) dL_areGates_27 (v := (x.1 35 0 (((8 : Int32) * (nI i)) + (7 : Int32)))) rfl ?_
    refine xg_istore C dL_areGates_28 (by decide) (L' := [some (.ref (G.2.2 0 0)), some (.ref (G.2.2 34 0)), some (.ref (G.2.2 35 0)), some (.ref (G.2.2 38 0)), some (.int x.2), some (.int (nI i)), some (.int (x.1 35 0 (((8 : Int32) * (nI i)) + (7 : Int32)))), none, none, none]) rfl ?_
    refine xg_iload C dL_areGates_30 rfl ?_
    refine xg_istore C dL_areGates_32 (by decide) (L' := [some (.ref (G.2.2 0 0)), some (.ref (G.2.2 34 0)), some (.ref (G.2.2 35 0)), some (.ref (G.2.2 38 0)), some (.int x.2), some (.int (nI i)), some (.int (x.1 35 0 (((8 : Int32) * (nI i)) + (7 : Int32)))), some (.int (x.1 35 0 (((8 : Int32) * (nI i)) + (7 : Int32)))), none, none]) rfl ?_
    suffices hj : xg F 0 0 61 [some (.ref (G.2.2 0 0)), some (.ref (G.2.2 34 0)), some (.ref (G.2.2 35 0)), some (.ref (G.2.2 38 0)), some (.int x.2), some (.int (nI i)), some (.int (x.1 35 0 (((8 : Int32) * (nI i)) + (7 : Int32)))), some (.int (x.1 35 0 (((8 : Int32) * (nI i)) + (7 : Int32)))), none, none] [.int (jL_areGates_34 x.1 (nI i))] (xP xYc G x.1) by
      refine xg_aload_n C dL_areGates_34 rfl ?_
      refine xg_bipush C dL_areGates_35 (v := (8 : Int32)) (by decide) ?_
      refine xg_iload C dL_areGates_37 rfl ?_
      refine xg_imul C dL_areGates_39 ?_
      refine xg_iald C V (f := 35) (n := 1) (N := 64) rfl (by decide) (xR_0 (by decide)) (xin_8 (by assumption)) dL_areGates_40 (v := (x.1 35 0 ((8 : Int32) * (nI i)))) rfl ?_
      refine xg_if_ne C 60 dL_areGates_41 (by decide) (fun h3 => ?_) (fun h3 => ?_)
      · refine xg_iconst C dL_areGates_60 (v := (0 : Int32)) (by decide) ?_
        have e : (jL_areGates_34 x.1 (nI i)) = (0 : Int32) := by first | (rw [jL_areGates_34, if_neg h3]; done) | (rw [jL_areGates_34, if_neg h3]; rfl)
        rw [e] at hj
        exact hj
      · refine xg_aload_n C dL_areGates_44 rfl ?_
        refine xg_bipush C dL_areGates_45 (v := (8 : Int32)) (by decide) ?_
        refine xg_iload C dL_areGates_47 rfl ?_
        refine xg_imul C dL_areGates_49 ?_
        refine xg_iconst C dL_areGates_50 (v := (1 : Int32)) (by decide) ?_
        refine xg_iadd C dL_areGates_51 ?_
        refine xg_iald C V (f := 35) (n := 1) (N := 64) rfl (by decide) (xR_0 (by decide)) (xin_8k (by assumption) (vp_in_iff.mpr ⟨by decide, by decide⟩)) dL_areGates_52 (v := (x.1 35 0 (((8 : Int32) * (nI i)) + (1 : Int32)))) rfl ?_
        refine xg_if_ne C 60 dL_areGates_53 (by decide) (fun h4 => ?_) (fun h4 => ?_)
        · refine xg_iconst C dL_areGates_60 (v := (0 : Int32)) (by decide) ?_
          have e : (jL_areGates_34 x.1 (nI i)) = (0 : Int32) := by first | (rw [jL_areGates_34, if_pos h3, if_neg h4]; done) | (rw [jL_areGates_34, if_pos h3, if_neg h4]; rfl)
          rw [e] at hj
          exact hj
        · refine xg_iconst C dL_areGates_56 (v := (1 : Int32)) (by decide) ?_
          refine xg_goto C 61 dL_areGates_57 (by decide) ?_
          have e : (jL_areGates_34 x.1 (nI i)) = (1 : Int32) := by first | (rw [jL_areGates_34, if_pos h3, if_pos h4]; done) | (rw [jL_areGates_34, if_pos h3, if_pos h4]; rfl)
          rw [e] at hj
          exact hj
    refine xg_istore C dL_areGates_61 (by decide) (L' := [some (.ref (G.2.2 0 0)), some (.ref (G.2.2 34 0)), some (.ref (G.2.2 35 0)), some (.ref (G.2.2 38 0)), some (.int x.2), some (.int (nI i)), some (.int (x.1 35 0 (((8 : Int32) * (nI i)) + (7 : Int32)))), some (.int (x.1 35 0 (((8 : Int32) * (nI i)) + (7 : Int32)))), some (.int (jL_areGates_34 x.1 (nI i))), none]) rfl ?_
    suffices hj : xg F 0 0 122 [some (.ref (G.2.2 0 0)), some (.ref (G.2.2 34 0)), some (.ref (G.2.2 35 0)), some (.ref (G.2.2 38 0)), some (.int x.2), some (.int (nI i)), some (.int (x.1 35 0 (((8 : Int32) * (nI i)) + (7 : Int32)))), some (.int (x.1 35 0 (((8 : Int32) * (nI i)) + (7 : Int32)))), some (.int (jL_areGates_34 x.1 (nI i))), none] [.int (jL_areGates_63 x.1 (nI i))] (xP xYc G x.1) by
      refine xg_iload C dL_areGates_63 rfl ?_
      refine xg_bipush C dL_areGates_65 (v := (7 : Int32)) (by decide) ?_
      refine xg_icmp_ge C 121 dL_areGates_67 (by decide) (fun h5 => ?_) (fun h5 => ?_)
      · refine xg_iconst C dL_areGates_121 (v := (0 : Int32)) (by decide) ?_
        have e : (jL_areGates_63 x.1 (nI i)) = (0 : Int32) := by first | (rw [jL_areGates_63, if_pos h5]; done) | (rw [jL_areGates_63, if_pos h5]; rfl)
        rw [e] at hj
        exact hj
      · refine xg_aload_n C dL_areGates_70 rfl ?_
        refine xg_iload C dL_areGates_71 rfl ?_
        refine xg_iload C dL_areGates_73 rfl ?_
        refine xg_bipush C dL_areGates_75 (v := (7 : Int32)) (by decide) ?_
        refine xg_icmp_ge C 87 dL_areGates_77 (by decide) (fun h6 => by contradiction) (fun h6 => ?_)
        refine xg_iload C dL_areGates_80 rfl ?_
        refine xg_iconst C dL_areGates_82 (v := (1 : Int32)) (by decide) ?_
        refine xg_iadd C dL_areGates_83 ?_
        refine xg_goto C 88 dL_areGates_84 (by decide) ?_
        refine xg_callVi C V (f := 0) (As := [.int (nI i), .int ((nI i) + (1 : Int32))]) (r := (fX3_believed (nI i) ((nI i) + (1 : Int32)) x.1)) (fun l => kX3_believed l hap (nI i) ((nI i) + (1 : Int32)) x.1 (by assumption) (by first | exact xin_a (by assumption) (by assumption) | exact xin_b (by assumption) (by assumption) | exact xin_c (by assumption) (by assumption))) gL_areGates_X3_believed rfl hdX3_believed ⟨by decide, by decide⟩ rfl rfl rfl rfl rfl (Nat.le_of_ble_eq_true rfl) ⟨Nat.zero_le _, Nat.zero_le _⟩ dL_areGates_88 ?_
        refine xg_if_lt C 117 dL_areGates_91 (by decide) (fun h7 => ?_) (fun h7 => ?_)
        · refine xg_iconst C dL_areGates_117 (v := (1 : Int32)) (by decide) ?_
          refine xg_goto C 122 dL_areGates_118 (by decide) ?_
          have e : (jL_areGates_63 x.1 (nI i)) = (1 : Int32) := by first | (rw [jL_areGates_63, if_neg h5, if_pos h7]; done) | (rw [jL_areGates_63, if_neg h5, if_pos h7]; rfl)
          rw [e] at hj
          exact hj
        · refine xg_aload_n C dL_areGates_94 rfl ?_
          refine xg_iload C dL_areGates_95 rfl ?_
          refine xg_iload C dL_areGates_97 rfl ?_
          refine xg_iconst C dL_areGates_99 (v := (1 : Int32)) (by decide) ?_
          refine xg_iadd C dL_areGates_100 ?_
          refine xg_callVi C V (f := 0) (As := [.int (nI i), .int ((nI i) + (1 : Int32))]) (r := (fX3_age (nI i) ((nI i) + (1 : Int32)) x.1)) (fun l => kX3_age l hap (nI i) ((nI i) + (1 : Int32)) x.1 (by assumption) (by first | exact xin_a (by assumption) (by assumption) | exact xin_b (by assumption) (by assumption) | exact xin_c (by assumption) (by assumption))) gL_areGates_X3_age rfl hdX3_age ⟨by decide, by decide⟩ rfl rfl rfl rfl rfl (Nat.le_of_ble_eq_true rfl) ⟨Nat.zero_le _, Nat.zero_le _⟩ dL_areGates_101 ?_
          refine xg_aload_n C dL_areGates_104 rfl ?_
          refine xg_bipush C dL_areGates_105 (v := (8 : Int32)) (by decide) ?_
          refine xg_iload C dL_areGates_107 rfl ?_
          refine xg_imul C dL_areGates_109 ?_
          refine xg_bipush C dL_areGates_110 (v := (7 : Int32)) (by decide) ?_
          refine xg_iadd C dL_areGates_112 ?_
          refine xg_iald C V (f := 34) (n := 1) (N := 64) rfl (by decide) (xR_0 (by decide)) (xin_8k (by assumption) (vp_in_iff.mpr ⟨by decide, by decide⟩)) dL_areGates_113 (v := (x.1 34 0 (((8 : Int32) * (nI i)) + (7 : Int32)))) rfl ?_
          refine xg_icmp_le C 121 dL_areGates_114 (by decide) (fun h8 => ?_) (fun h8 => ?_)
          · refine xg_iconst C dL_areGates_121 (v := (0 : Int32)) (by decide) ?_
            have e : (jL_areGates_63 x.1 (nI i)) = (0 : Int32) := by first | (rw [jL_areGates_63, if_neg h5, if_neg h7, if_pos h8]; done) | (rw [jL_areGates_63, if_neg h5, if_neg h7, if_pos h8]; rfl)
            rw [e] at hj
            exact hj
          · refine xg_iconst C dL_areGates_117 (v := (1 : Int32)) (by decide) ?_
            refine xg_goto C 122 dL_areGates_118 (by decide) ?_
            have e : (jL_areGates_63 x.1 (nI i)) = (1 : Int32) := by first | (rw [jL_areGates_63, if_neg h5, if_neg h7, if_neg h8]; done) | (rw [jL_areGates_63, if_neg h5, if_neg h7, if_neg h8]; rfl)
            rw [e] at hj
            exact hj
    refine xg_istore C dL_areGates_122 (by decide) (L' := [some (.ref (G.2.2 0 0)), some (.ref (G.2.2 34 0)), some (.ref (G.2.2 35 0)), some (.ref (G.2.2 38 0)), some (.int x.2), some (.int (nI i)), some (.int (x.1 35 0 (((8 : Int32) * (nI i)) + (7 : Int32)))), some (.int (x.1 35 0 (((8 : Int32) * (nI i)) + (7 : Int32)))), some (.int (jL_areGates_34 x.1 (nI i))), some (.int (jL_areGates_63 x.1 (nI i)))]) rfl ?_
    refine xg_iload C dL_areGates_124 rfl ?_
    refine xg_if_eq C 163 dL_areGates_126 (by decide) (fun h9 => ?_) (fun h9 => ?_)
    · refine xg_iload C dL_areGates_163 rfl ?_
      refine xg_if_eq C 239 dL_areGates_165 (by decide) (fun h10 => ?_) (fun h10 => by contradiction)
      refine xg_iload C dL_areGates_239 rfl ?_
      refine xg_if_eq C 279 dL_areGates_241 (by decide) (fun h11 => ?_) (fun h11 => by contradiction)
      suffices hj : xg F 0 0 308 [some (.ref (G.2.2 0 0)), some (.ref (G.2.2 34 0)), some (.ref (G.2.2 35 0)), some (.ref (G.2.2 38 0)), some (.int x.2), some (.int (nI i)), some (.int (x.1 35 0 (((8 : Int32) * (nI i)) + (7 : Int32)))), some (.int (x.1 35 0 (((8 : Int32) * (nI i)) + (7 : Int32)))), some (.int (jL_areGates_34 x.1 (nI i))), some (.int (jL_areGates_63 x.1 (nI i)))] [.int (jL_areGates_279 (x.1 35 0 (((8 : Int32) * (nI i)) + (7 : Int32))) x.1 (nI i))] (xP xYc G x.1) by
        refine xg_aload_n C dL_areGates_279 rfl ?_
        refine xg_iload C dL_areGates_280 rfl ?_
        refine xg_callVi C V (f := 0) (As := [.int (nI i)]) (r := (fX3_opening (nI i) x.1)) (fun l => kX3_opening l hap (nI i) x.1 (by assumption)) gL_areGates_X3_opening rfl hdX3_opening ⟨by decide, by decide⟩ rfl rfl rfl rfl rfl (Nat.le_of_ble_eq_true rfl) ⟨Nat.zero_le _, Nat.zero_le _⟩ dL_areGates_282 ?_
        refine xg_iload C dL_areGates_285 rfl ?_
        refine xg_icmp_ne C 307 dL_areGates_287 (by decide) (fun h12 => ?_) (fun h12 => ?_)
        · refine xg_iconst C dL_areGates_307 (v := (0 : Int32)) (by decide) ?_
          have e : (jL_areGates_279 (x.1 35 0 (((8 : Int32) * (nI i)) + (7 : Int32))) x.1 (nI i)) = (0 : Int32) := by first | (rw [jL_areGates_279, if_neg h12]; done) | (rw [jL_areGates_279, if_neg h12]; rfl)
          rw [e] at hj
          exact hj
        · refine xg_aload_n C dL_areGates_290 rfl ?_
          refine xg_iload C dL_areGates_291 rfl ?_
          refine xg_callVi C V (f := 0) (As := [.int (nI i)]) (r := (fX3_safety (nI i) x.1)) (fun l => kX3_safety l hap (nI i) x.1 (by assumption)) gL_areGates_X3_safety rfl hdX3_safety ⟨by decide, by decide⟩ rfl rfl rfl rfl rfl (Nat.le_of_ble_eq_true rfl) ⟨Nat.zero_le _, Nat.zero_le _⟩ dL_areGates_293 ?_
          refine xg_aload_n C dL_areGates_296 rfl ?_
          refine xg_iload C dL_areGates_297 rfl ?_
          refine xg_iald C V (f := 38) (n := 1) (N := 8) rfl (by decide) (xR_0 (by decide)) (by assumption) dL_areGates_299 (v := (x.1 38 0 (nI i))) rfl ?_
          refine xg_icmp_ne C 307 dL_areGates_300 (by decide) (fun h13 => ?_) (fun h13 => ?_)
          · refine xg_iconst C dL_areGates_307 (v := (0 : Int32)) (by decide) ?_
            have e : (jL_areGates_279 (x.1 35 0 (((8 : Int32) * (nI i)) + (7 : Int32))) x.1 (nI i)) = (0 : Int32) := by first | (rw [jL_areGates_279, if_pos h12, if_neg h13]; done) | (rw [jL_areGates_279, if_pos h12, if_neg h13]; rfl)
            rw [e] at hj
            exact hj
          · refine xg_iconst C dL_areGates_303 (v := (1 : Int32)) (by decide) ?_
            refine xg_goto C 308 dL_areGates_304 (by decide) ?_
            have e : (jL_areGates_279 (x.1 35 0 (((8 : Int32) * (nI i)) + (7 : Int32))) x.1 (nI i)) = (1 : Int32) := by first | (rw [jL_areGates_279, if_pos h12, if_pos h13]; done) | (rw [jL_areGates_279, if_pos h12, if_pos h13]; rfl)
            rw [e] at hj
            exact hj
      refine xg_istore C dL_areGates_308 (by decide) (L' := [some (.ref (G.2.2 0 0)), some (.ref (G.2.2 34 0)), some (.ref (G.2.2 35 0)), some (.ref (G.2.2 38 0)), some (.int (jL_areGates_279 (x.1 35 0 (((8 : Int32) * (nI i)) + (7 : Int32))) x.1 (nI i))), some (.int (nI i)), some (.int (x.1 35 0 (((8 : Int32) * (nI i)) + (7 : Int32)))), some (.int (x.1 35 0 (((8 : Int32) * (nI i)) + (7 : Int32)))), some (.int (jL_areGates_34 x.1 (nI i))), some (.int (jL_areGates_63 x.1 (nI i)))]) rfl ?_
      refine xg_iinc C dL_areGates_310 rfl (v := (nI (i + 1))) (xinc i) (by decide) (L' := [some (.ref (G.2.2 0 0)), some (.ref (G.2.2 34 0)), some (.ref (G.2.2 35 0)), some (.ref (G.2.2 38 0)), some (.int (jL_areGates_279 (x.1 35 0 (((8 : Int32) * (nI i)) + (7 : Int32))) x.1 (nI i))), some (.int (nI (i + 1))), some (.int (x.1 35 0 (((8 : Int32) * (nI i)) + (7 : Int32)))), some (.int (x.1 35 0 (((8 : Int32) * (nI i)) + (7 : Int32)))), some (.int (jL_areGates_34 x.1 (nI i))), some (.int (jL_areGates_63 x.1 (nI i)))]) rfl ?_
      refine xg_goto C 6 dL_areGates_313 (by decide) ?_
      have e : bL_areGates_6 (nI i) x = (x.1, (jL_areGates_279 (x.1 35 0 (((8 : Int32) * (nI i)) + (7 : Int32))) x.1 (nI i))) := by first | (rw [bL_areGates_6, if_pos h9]; done) | (rw [bL_areGates_6, if_pos h9]; rfl)
      rw [e] at K
      try dsimp only at K
      exact xg_le K ⟨rfl, rfl, rfl, rfl, rfl, rfl, trivial⟩
    · refine xg_iload C dL_areGates_129 rfl ?_
      refine xg_if_eq C 163 dL_areGates_131 (by decide) (fun h14 => ?_) (fun h14 => ?_)
      · refine xg_iload C dL_areGates_163 rfl ?_
        refine xg_if_eq C 239 dL_areGates_165 (by decide) (fun h15 => by contradiction) (fun h15 => ?_)
        refine xg_aload_n C dL_areGates_168 rfl ?_
        refine xg_iload C dL_areGates_169 rfl ?_
        refine xg_iload C dL_areGates_171 rfl ?_
        refine xg_callVi C V (f := 0) (As := [.int (nI i), .int (nI i)]) (r := (fX3_believed (nI i) (nI i) x.1)) (fun l => kX3_believed l hap (nI i) (nI i) x.1 (by assumption) (by assumption)) gL_areGates_X3_believed rfl hdX3_believed ⟨by decide, by decide⟩ rfl rfl rfl rfl rfl (Nat.le_of_ble_eq_true rfl) ⟨Nat.zero_le _, Nat.zero_le _⟩ dL_areGates_173 ?_
        refine xg_aload_n C dL_areGates_176 rfl ?_
        refine xg_bipush C dL_areGates_177 (v := (8 : Int32)) (by decide) ?_
        refine xg_iload C dL_areGates_179 rfl ?_
        refine xg_imul C dL_areGates_181 ?_
        refine xg_iconst C dL_areGates_182 (v := (5 : Int32)) (by decide) ?_
        refine xg_iadd C dL_areGates_183 ?_
        refine xg_iald C V (f := 34) (n := 1) (N := 64) rfl (by decide) (xR_0 (by decide)) (xin_8k (by assumption) (vp_in_iff.mpr ⟨by decide, by decide⟩)) dL_areGates_184 (v := (x.1 34 0 (((8 : Int32) * (nI i)) + (5 : Int32)))) rfl ?_
        refine xg_icmp_le C 239 dL_areGates_185 (by decide) (fun h16 => ?_) (fun h16 => ?_)
        · refine xg_iload C dL_areGates_239 rfl ?_
          refine xg_if_eq C 279 dL_areGates_241 (by decide) (fun h17 => by contradiction) (fun h17 => ?_)
          refine xg_aload_n C dL_areGates_244 rfl ?_
          refine xg_iload C dL_areGates_245 rfl ?_
          refine xg_iload C dL_areGates_247 rfl ?_
          refine xg_callVi C V (f := 0) (As := [.int (nI i), .int (nI i)]) (r := (fX3_believed (nI i) (nI i) x.1)) (fun l => kX3_believed l hap (nI i) (nI i) x.1 (by assumption) (by assumption)) gL_areGates_X3_believed rfl hdX3_believed ⟨by decide, by decide⟩ rfl rfl rfl rfl rfl (Nat.le_of_ble_eq_true rfl) ⟨Nat.zero_le _, Nat.zero_le _⟩ dL_areGates_249 ?_
          refine xg_aload_n C dL_areGates_252 rfl ?_
          refine xg_bipush C dL_areGates_253 (v := (8 : Int32)) (by decide) ?_
          refine xg_iload C dL_areGates_255 rfl ?_
          refine xg_imul C dL_areGates_257 ?_
          refine xg_iconst C dL_areGates_258 (v := (4 : Int32)) (by decide) ?_
          refine xg_iadd C dL_areGates_259 ?_
          refine xg_iald C V (f := 34) (n := 1) (N := 64) rfl (by decide) (xR_0 (by decide)) (xin_8k (by assumption) (vp_in_iff.mpr ⟨by decide, by decide⟩)) dL_areGates_260 (v := (x.1 34 0 (((8 : Int32) * (nI i)) + (4 : Int32)))) rfl ?_
          refine xg_icmp_ge C 279 dL_areGates_261 (by decide) (fun h18 => ?_) (fun h18 => ?_)
          · suffices hj : xg F 0 0 308 [some (.ref (G.2.2 0 0)), some (.ref (G.2.2 34 0)), some (.ref (G.2.2 35 0)), some (.ref (G.2.2 38 0)), some (.int x.2), some (.int (nI i)), some (.int (x.1 35 0 (((8 : Int32) * (nI i)) + (7 : Int32)))), some (.int (x.1 35 0 (((8 : Int32) * (nI i)) + (7 : Int32)))), some (.int (jL_areGates_34 x.1 (nI i))), some (.int (jL_areGates_63 x.1 (nI i)))] [.int (jL_areGates_279 (x.1 35 0 (((8 : Int32) * (nI i)) + (7 : Int32))) x.1 (nI i))] (xP xYc G x.1) by
              refine xg_aload_n C dL_areGates_279 rfl ?_
              refine xg_iload C dL_areGates_280 rfl ?_
              refine xg_callVi C V (f := 0) (As := [.int (nI i)]) (r := (fX3_opening (nI i) x.1)) (fun l => kX3_opening l hap (nI i) x.1 (by assumption)) gL_areGates_X3_opening rfl hdX3_opening ⟨by decide, by decide⟩ rfl rfl rfl rfl rfl (Nat.le_of_ble_eq_true rfl) ⟨Nat.zero_le _, Nat.zero_le _⟩ dL_areGates_282 ?_
              refine xg_iload C dL_areGates_285 rfl ?_
              refine xg_icmp_ne C 307 dL_areGates_287 (by decide) (fun h19 => ?_) (fun h19 => ?_)
              · refine xg_iconst C dL_areGates_307 (v := (0 : Int32)) (by decide) ?_
                have e : (jL_areGates_279 (x.1 35 0 (((8 : Int32) * (nI i)) + (7 : Int32))) x.1 (nI i)) = (0 : Int32) := by first | (rw [jL_areGates_279, if_neg h19]; done) | (rw [jL_areGates_279, if_neg h19]; rfl)
                rw [e] at hj
                exact hj
              · refine xg_aload_n C dL_areGates_290 rfl ?_
                refine xg_iload C dL_areGates_291 rfl ?_
                refine xg_callVi C V (f := 0) (As := [.int (nI i)]) (r := (fX3_safety (nI i) x.1)) (fun l => kX3_safety l hap (nI i) x.1 (by assumption)) gL_areGates_X3_safety rfl hdX3_safety ⟨by decide, by decide⟩ rfl rfl rfl rfl rfl (Nat.le_of_ble_eq_true rfl) ⟨Nat.zero_le _, Nat.zero_le _⟩ dL_areGates_293 ?_
                refine xg_aload_n C dL_areGates_296 rfl ?_
                refine xg_iload C dL_areGates_297 rfl ?_
                refine xg_iald C V (f := 38) (n := 1) (N := 8) rfl (by decide) (xR_0 (by decide)) (by assumption) dL_areGates_299 (v := (x.1 38 0 (nI i))) rfl ?_
                refine xg_icmp_ne C 307 dL_areGates_300 (by decide) (fun h20 => ?_) (fun h20 => ?_)
                · refine xg_iconst C dL_areGates_307 (v := (0 : Int32)) (by decide) ?_
                  have e : (jL_areGates_279 (x.1 35 0 (((8 : Int32) * (nI i)) + (7 : Int32))) x.1 (nI i)) = (0 : Int32) := by first | (rw [jL_areGates_279, if_pos h19, if_neg h20]; done) | (rw [jL_areGates_279, if_pos h19, if_neg h20]; rfl)
                  rw [e] at hj
                  exact hj
                · refine xg_iconst C dL_areGates_303 (v := (1 : Int32)) (by decide) ?_
                  refine xg_goto C 308 dL_areGates_304 (by decide) ?_
                  have e : (jL_areGates_279 (x.1 35 0 (((8 : Int32) * (nI i)) + (7 : Int32))) x.1 (nI i)) = (1 : Int32) := by first | (rw [jL_areGates_279, if_pos h19, if_pos h20]; done) | (rw [jL_areGates_279, if_pos h19, if_pos h20]; rfl)
                  rw [e] at hj
                  exact hj
            refine xg_istore C dL_areGates_308 (by decide) (L' := [some (.ref (G.2.2 0 0)), some (.ref (G.2.2 34 0)), some (.ref (G.2.2 35 0)), some (.ref (G.2.2 38 0)), some (.int (jL_areGates_279 (x.1 35 0 (((8 : Int32) * (nI i)) + (7 : Int32))) x.1 (nI i))), some (.int (nI i)), some (.int (x.1 35 0 (((8 : Int32) * (nI i)) + (7 : Int32)))), some (.int (x.1 35 0 (((8 : Int32) * (nI i)) + (7 : Int32)))), some (.int (jL_areGates_34 x.1 (nI i))), some (.int (jL_areGates_63 x.1 (nI i)))]) rfl ?_
            refine xg_iinc C dL_areGates_310 rfl (v := (nI (i + 1))) (xinc i) (by decide) (L' := [some (.ref (G.2.2 0 0)), some (.ref (G.2.2 34 0)), some (.ref (G.2.2 35 0)), some (.ref (G.2.2 38 0)), some (.int (jL_areGates_279 (x.1 35 0 (((8 : Int32) * (nI i)) + (7 : Int32))) x.1 (nI i))), some (.int (nI (i + 1))), some (.int (x.1 35 0 (((8 : Int32) * (nI i)) + (7 : Int32)))), some (.int (x.1 35 0 (((8 : Int32) * (nI i)) + (7 : Int32)))), some (.int (jL_areGates_34 x.1 (nI i))), some (.int (jL_areGates_63 x.1 (nI i)))]) rfl ?_
            refine xg_goto C 6 dL_areGates_313 (by decide) ?_
            have e : bL_areGates_6 (nI i) x = (x.1, (jL_areGates_279 (x.1 35 0 (((8 : Int32) * (nI i)) + (7 : Int32))) x.1 (nI i))) := by first | (rw [bL_areGates_6, if_neg h9, if_pos h14, if_pos h16, if_pos h18]; done) | (rw [bL_areGates_6, if_neg h9, if_pos h14, if_pos h16, if_pos h18]; rfl)
            rw [e] at K
            try dsimp only at K
            exact xg_le K ⟨rfl, rfl, rfl, rfl, rfl, rfl, trivial⟩
          · suffices hj : xg F 0 0 277 [some (.ref (G.2.2 0 0)), some (.ref (G.2.2 34 0)), some (.ref (G.2.2 35 0)), some (.ref (G.2.2 38 0)), some (.int x.2), some (.int (nI i)), some (.int (x.1 35 0 (((8 : Int32) * (nI i)) + (7 : Int32)))), some (.int (x.1 35 0 (((8 : Int32) * (nI i)) + (7 : Int32)))), some (.int (jL_areGates_34 x.1 (nI i))), some (.int (jL_areGates_63 x.1 (nI i)))] [.int (jL_areGates_264 (x.1 35 0 (((8 : Int32) * (nI i)) + (7 : Int32))))] (xP xYc G x.1) by
              refine xg_iload C dL_areGates_264 rfl ?_
              refine xg_if_le C 276 dL_areGates_266 (by decide) (fun h21 => ?_) (fun h21 => ?_)
              · refine xg_iconst C dL_areGates_276 (v := (0 : Int32)) (by decide) ?_
                have e : (jL_areGates_264 (x.1 35 0 (((8 : Int32) * (nI i)) + (7 : Int32)))) = (0 : Int32) := by first | (rw [jL_areGates_264, if_pos h21]; done) | (rw [jL_areGates_264, if_pos h21]; rfl)
                rw [e] at hj
                exact hj
              · refine xg_iload C dL_areGates_269 rfl ?_
                refine xg_iconst C dL_areGates_271 (v := (1 : Int32)) (by decide) ?_
                refine xg_isub C dL_areGates_272 ?_
                refine xg_goto C 277 dL_areGates_273 (by decide) ?_
                have e : (jL_areGates_264 (x.1 35 0 (((8 : Int32) * (nI i)) + (7 : Int32)))) = ((x.1 35 0 (((8 : Int32) * (nI i)) + (7 : Int32))) - (1 : Int32)) := by first | (rw [jL_areGates_264, if_neg h21]; done) | (rw [jL_areGates_264, if_neg h21]; rfl)
                rw [e] at hj
                exact hj
            refine xg_istore C dL_areGates_277 (by decide) (L' := [some (.ref (G.2.2 0 0)), some (.ref (G.2.2 34 0)), some (.ref (G.2.2 35 0)), some (.ref (G.2.2 38 0)), some (.int x.2), some (.int (nI i)), some (.int (x.1 35 0 (((8 : Int32) * (nI i)) + (7 : Int32)))), some (.int (jL_areGates_264 (x.1 35 0 (((8 : Int32) * (nI i)) + (7 : Int32))))), some (.int (jL_areGates_34 x.1 (nI i))), some (.int (jL_areGates_63 x.1 (nI i)))]) rfl ?_
            suffices hj : xg F 0 0 308 [some (.ref (G.2.2 0 0)), some (.ref (G.2.2 34 0)), some (.ref (G.2.2 35 0)), some (.ref (G.2.2 38 0)), some (.int x.2), some (.int (nI i)), some (.int (x.1 35 0 (((8 : Int32) * (nI i)) + (7 : Int32)))), some (.int (jL_areGates_264 (x.1 35 0 (((8 : Int32) * (nI i)) + (7 : Int32))))), some (.int (jL_areGates_34 x.1 (nI i))), some (.int (jL_areGates_63 x.1 (nI i)))] [.int (jL_areGates_279 (jL_areGates_264 (x.1 35 0 (((8 : Int32) * (nI i)) + (7 : Int32)))) x.1 (nI i))] (xP xYc G x.1) by
              refine xg_aload_n C dL_areGates_279 rfl ?_
              refine xg_iload C dL_areGates_280 rfl ?_
              refine xg_callVi C V (f := 0) (As := [.int (nI i)]) (r := (fX3_opening (nI i) x.1)) (fun l => kX3_opening l hap (nI i) x.1 (by assumption)) gL_areGates_X3_opening rfl hdX3_opening ⟨by decide, by decide⟩ rfl rfl rfl rfl rfl (Nat.le_of_ble_eq_true rfl) ⟨Nat.zero_le _, Nat.zero_le _⟩ dL_areGates_282 ?_
              refine xg_iload C dL_areGates_285 rfl ?_
              refine xg_icmp_ne C 307 dL_areGates_287 (by decide) (fun h22 => ?_) (fun h22 => ?_)
              · refine xg_iconst C dL_areGates_307 (v := (0 : Int32)) (by decide) ?_
                have e : (jL_areGates_279 (jL_areGates_264 (x.1 35 0 (((8 : Int32) * (nI i)) + (7 : Int32)))) x.1 (nI i)) = (0 : Int32) := by first | (rw [jL_areGates_279, if_neg h22]; done) | (rw [jL_areGates_279, if_neg h22]; rfl)
                rw [e] at hj
                exact hj
              · refine xg_aload_n C dL_areGates_290 rfl ?_
                refine xg_iload C dL_areGates_291 rfl ?_
                refine xg_callVi C V (f := 0) (As := [.int (nI i)]) (r := (fX3_safety (nI i) x.1)) (fun l => kX3_safety l hap (nI i) x.1 (by assumption)) gL_areGates_X3_safety rfl hdX3_safety ⟨by decide, by decide⟩ rfl rfl rfl rfl rfl (Nat.le_of_ble_eq_true rfl) ⟨Nat.zero_le _, Nat.zero_le _⟩ dL_areGates_293 ?_
                refine xg_aload_n C dL_areGates_296 rfl ?_
                refine xg_iload C dL_areGates_297 rfl ?_
                refine xg_iald C V (f := 38) (n := 1) (N := 8) rfl (by decide) (xR_0 (by decide)) (by assumption) dL_areGates_299 (v := (x.1 38 0 (nI i))) rfl ?_
                refine xg_icmp_ne C 307 dL_areGates_300 (by decide) (fun h23 => ?_) (fun h23 => ?_)
                · refine xg_iconst C dL_areGates_307 (v := (0 : Int32)) (by decide) ?_
                  have e : (jL_areGates_279 (jL_areGates_264 (x.1 35 0 (((8 : Int32) * (nI i)) + (7 : Int32)))) x.1 (nI i)) = (0 : Int32) := by first | (rw [jL_areGates_279, if_pos h22, if_neg h23]; done) | (rw [jL_areGates_279, if_pos h22, if_neg h23]; rfl)
                  rw [e] at hj
                  exact hj
                · refine xg_iconst C dL_areGates_303 (v := (1 : Int32)) (by decide) ?_
                  refine xg_goto C 308 dL_areGates_304 (by decide) ?_
                  have e : (jL_areGates_279 (jL_areGates_264 (x.1 35 0 (((8 : Int32) * (nI i)) + (7 : Int32)))) x.1 (nI i)) = (1 : Int32) := by first | (rw [jL_areGates_279, if_pos h22, if_pos h23]; done) | (rw [jL_areGates_279, if_pos h22, if_pos h23]; rfl)
                  rw [e] at hj
                  exact hj
            refine xg_istore C dL_areGates_308 (by decide) (L' := [some (.ref (G.2.2 0 0)), some (.ref (G.2.2 34 0)), some (.ref (G.2.2 35 0)), some (.ref (G.2.2 38 0)), some (.int (jL_areGates_279 (jL_areGates_264 (x.1 35 0 (((8 : Int32) * (nI i)) + (7 : Int32)))) x.1 (nI i))), some (.int (nI i)), some (.int (x.1 35 0 (((8 : Int32) * (nI i)) + (7 : Int32)))), some (.int (jL_areGates_264 (x.1 35 0 (((8 : Int32) * (nI i)) + (7 : Int32))))), some (.int (jL_areGates_34 x.1 (nI i))), some (.int (jL_areGates_63 x.1 (nI i)))]) rfl ?_
            refine xg_iinc C dL_areGates_310 rfl (v := (nI (i + 1))) (xinc i) (by decide) (L' := [some (.ref (G.2.2 0 0)), some (.ref (G.2.2 34 0)), some (.ref (G.2.2 35 0)), some (.ref (G.2.2 38 0)), some (.int (jL_areGates_279 (jL_areGates_264 (x.1 35 0 (((8 : Int32) * (nI i)) + (7 : Int32)))) x.1 (nI i))), some (.int (nI (i + 1))), some (.int (x.1 35 0 (((8 : Int32) * (nI i)) + (7 : Int32)))), some (.int (jL_areGates_264 (x.1 35 0 (((8 : Int32) * (nI i)) + (7 : Int32))))), some (.int (jL_areGates_34 x.1 (nI i))), some (.int (jL_areGates_63 x.1 (nI i)))]) rfl ?_
            refine xg_goto C 6 dL_areGates_313 (by decide) ?_
            have e : bL_areGates_6 (nI i) x = (x.1, (jL_areGates_279 (jL_areGates_264 (x.1 35 0 (((8 : Int32) * (nI i)) + (7 : Int32)))) x.1 (nI i))) := by first | (rw [bL_areGates_6, if_neg h9, if_pos h14, if_pos h16, if_neg h18]; done) | (rw [bL_areGates_6, if_neg h9, if_pos h14, if_pos h16, if_neg h18]; rfl)
            rw [e] at K
            try dsimp only at K
            exact xg_le K ⟨rfl, rfl, rfl, rfl, rfl, rfl, trivial⟩
        · refine xg_iload C dL_areGates_188 rfl ?_
          refine xg_bipush C dL_areGates_190 (v := (7 : Int32)) (by decide) ?_
          refine xg_icmp_eq C 218 dL_areGates_192 (by decide) (fun h24 => ?_) (fun h24 => ?_)
          · suffices hj : xg F 0 0 234 [some (.ref (G.2.2 0 0)), some (.ref (G.2.2 34 0)), some (.ref (G.2.2 35 0)), some (.ref (G.2.2 38 0)), some (.int x.2), some (.int (nI i)), some (.int (x.1 35 0 (((8 : Int32) * (nI i)) + (7 : Int32)))), some (.int (x.1 35 0 (((8 : Int32) * (nI i)) + (7 : Int32)))), some (.int (jL_areGates_34 x.1 (nI i))), some (.int (jL_areGates_63 x.1 (nI i)))] [.int (jL_areGates_218 (x.1 35 0 (((8 : Int32) * (nI i)) + (7 : Int32))))] (xP xYc G x.1) by
              refine xg_iload C dL_areGates_218 rfl ?_
              refine xg_bipush C dL_areGates_220 (v := (10 : Int32)) (by decide) ?_
              refine xg_icmp_ge C 232 dL_areGates_222 (by decide) (fun h25 => ?_) (fun h25 => ?_)
              · refine xg_bipush C dL_areGates_232 (v := (10 : Int32)) (by decide) ?_
                have e : (jL_areGates_218 (x.1 35 0 (((8 : Int32) * (nI i)) + (7 : Int32)))) = (10 : Int32) := by first | (rw [jL_areGates_218, if_pos h25]; done) | (rw [jL_areGates_218, if_pos h25]; rfl)
                rw [e] at hj
                exact hj
              · refine xg_iload C dL_areGates_225 rfl ?_
                refine xg_iconst C dL_areGates_227 (v := (1 : Int32)) (by decide) ?_
                refine xg_iadd C dL_areGates_228 ?_
                refine xg_goto C 234 dL_areGates_229 (by decide) ?_
                have e : (jL_areGates_218 (x.1 35 0 (((8 : Int32) * (nI i)) + (7 : Int32)))) = ((x.1 35 0 (((8 : Int32) * (nI i)) + (7 : Int32))) + (1 : Int32)) := by first | (rw [jL_areGates_218, if_neg h25]; done) | (rw [jL_areGates_218, if_neg h25]; rfl)
                rw [e] at hj
                exact hj
            refine xg_istore C dL_areGates_234 (by decide) (L' := [some (.ref (G.2.2 0 0)), some (.ref (G.2.2 34 0)), some (.ref (G.2.2 35 0)), some (.ref (G.2.2 38 0)), some (.int x.2), some (.int (nI i)), some (.int (x.1 35 0 (((8 : Int32) * (nI i)) + (7 : Int32)))), some (.int (jL_areGates_218 (x.1 35 0 (((8 : Int32) * (nI i)) + (7 : Int32))))), some (.int (jL_areGates_34 x.1 (nI i))), some (.int (jL_areGates_63 x.1 (nI i)))]) rfl ?_
            refine xg_goto C 279 dL_areGates_236 (by decide) ?_
            suffices hj : xg F 0 0 308 [some (.ref (G.2.2 0 0)), some (.ref (G.2.2 34 0)), some (.ref (G.2.2 35 0)), some (.ref (G.2.2 38 0)), some (.int x.2), some (.int (nI i)), some (.int (x.1 35 0 (((8 : Int32) * (nI i)) + (7 : Int32)))), some (.int (jL_areGates_218 (x.1 35 0 (((8 : Int32) * (nI i)) + (7 : Int32))))), some (.int (jL_areGates_34 x.1 (nI i))), some (.int (jL_areGates_63 x.1 (nI i)))] [.int (jL_areGates_279 (jL_areGates_218 (x.1 35 0 (((8 : Int32) * (nI i)) + (7 : Int32)))) x.1 (nI i))] (xP xYc G x.1) by
              refine xg_aload_n C dL_areGates_279 rfl ?_
              refine xg_iload C dL_areGates_280 rfl ?_
              refine xg_callVi C V (f := 0) (As := [.int (nI i)]) (r := (fX3_opening (nI i) x.1)) (fun l => kX3_opening l hap (nI i) x.1 (by assumption)) gL_areGates_X3_opening rfl hdX3_opening ⟨by decide, by decide⟩ rfl rfl rfl rfl rfl (Nat.le_of_ble_eq_true rfl) ⟨Nat.zero_le _, Nat.zero_le _⟩ dL_areGates_282 ?_
              refine xg_iload C dL_areGates_285 rfl ?_
              refine xg_icmp_ne C 307 dL_areGates_287 (by decide) (fun h26 => ?_) (fun h26 => ?_)
              · refine xg_iconst C dL_areGates_307 (v := (0 : Int32)) (by decide) ?_
                have e : (jL_areGates_279 (jL_areGates_218 (x.1 35 0 (((8 : Int32) * (nI i)) + (7 : Int32)))) x.1 (nI i)) = (0 : Int32) := by first | (rw [jL_areGates_279, if_neg h26]; done) | (rw [jL_areGates_279, if_neg h26]; rfl)
                rw [e] at hj
                exact hj
              · refine xg_aload_n C dL_areGates_290 rfl ?_
                refine xg_iload C dL_areGates_291 rfl ?_
                refine xg_callVi C V (f := 0) (As := [.int (nI i)]) (r := (fX3_safety (nI i) x.1)) (fun l => kX3_safety l hap (nI i) x.1 (by assumption)) gL_areGates_X3_safety rfl hdX3_safety ⟨by decide, by decide⟩ rfl rfl rfl rfl rfl (Nat.le_of_ble_eq_true rfl) ⟨Nat.zero_le _, Nat.zero_le _⟩ dL_areGates_293 ?_
                refine xg_aload_n C dL_areGates_296 rfl ?_
                refine xg_iload C dL_areGates_297 rfl ?_
                refine xg_iald C V (f := 38) (n := 1) (N := 8) rfl (by decide) (xR_0 (by decide)) (by assumption) dL_areGates_299 (v := (x.1 38 0 (nI i))) rfl ?_
                refine xg_icmp_ne C 307 dL_areGates_300 (by decide) (fun h27 => ?_) (fun h27 => ?_)
                · refine xg_iconst C dL_areGates_307 (v := (0 : Int32)) (by decide) ?_
                  have e : (jL_areGates_279 (jL_areGates_218 (x.1 35 0 (((8 : Int32) * (nI i)) + (7 : Int32)))) x.1 (nI i)) = (0 : Int32) := by first | (rw [jL_areGates_279, if_pos h26, if_neg h27]; done) | (rw [jL_areGates_279, if_pos h26, if_neg h27]; rfl)
                  rw [e] at hj
                  exact hj
                · refine xg_iconst C dL_areGates_303 (v := (1 : Int32)) (by decide) ?_
                  refine xg_goto C 308 dL_areGates_304 (by decide) ?_
                  have e : (jL_areGates_279 (jL_areGates_218 (x.1 35 0 (((8 : Int32) * (nI i)) + (7 : Int32)))) x.1 (nI i)) = (1 : Int32) := by first | (rw [jL_areGates_279, if_pos h26, if_pos h27]; done) | (rw [jL_areGates_279, if_pos h26, if_pos h27]; rfl)
                  rw [e] at hj
                  exact hj
            refine xg_istore C dL_areGates_308 (by decide) (L' := [some (.ref (G.2.2 0 0)), some (.ref (G.2.2 34 0)), some (.ref (G.2.2 35 0)), some (.ref (G.2.2 38 0)), some (.int (jL_areGates_279 (jL_areGates_218 (x.1 35 0 (((8 : Int32) * (nI i)) + (7 : Int32)))) x.1 (nI i))), some (.int (nI i)), some (.int (x.1 35 0 (((8 : Int32) * (nI i)) + (7 : Int32)))), some (.int (jL_areGates_218 (x.1 35 0 (((8 : Int32) * (nI i)) + (7 : Int32))))), some (.int (jL_areGates_34 x.1 (nI i))), some (.int (jL_areGates_63 x.1 (nI i)))]) rfl ?_
            refine xg_iinc C dL_areGates_310 rfl (v := (nI (i + 1))) (xinc i) (by decide) (L' := [some (.ref (G.2.2 0 0)), some (.ref (G.2.2 34 0)), some (.ref (G.2.2 35 0)), some (.ref (G.2.2 38 0)), some (.int (jL_areGates_279 (jL_areGates_218 (x.1 35 0 (((8 : Int32) * (nI i)) + (7 : Int32)))) x.1 (nI i))), some (.int (nI (i + 1))), some (.int (x.1 35 0 (((8 : Int32) * (nI i)) + (7 : Int32)))), some (.int (jL_areGates_218 (x.1 35 0 (((8 : Int32) * (nI i)) + (7 : Int32))))), some (.int (jL_areGates_34 x.1 (nI i))), some (.int (jL_areGates_63 x.1 (nI i)))]) rfl ?_
            refine xg_goto C 6 dL_areGates_313 (by decide) ?_
            have e : bL_areGates_6 (nI i) x = (x.1, (jL_areGates_279 (jL_areGates_218 (x.1 35 0 (((8 : Int32) * (nI i)) + (7 : Int32)))) x.1 (nI i))) := by first | (rw [bL_areGates_6, if_neg h9, if_pos h14, if_neg h16, if_pos h24]; done) | (rw [bL_areGates_6, if_neg h9, if_pos h14, if_neg h16, if_pos h24]; rfl)
            rw [e] at K
            try dsimp only at K
            exact xg_le K ⟨rfl, rfl, rfl, rfl, rfl, rfl, trivial⟩
          · refine xg_aload_n C dL_areGates_195 rfl ?_
            refine xg_iload C dL_areGates_196 rfl ?_
            refine xg_iload C dL_areGates_198 rfl ?_
            refine xg_iconst C dL_areGates_200 (v := (1 : Int32)) (by decide) ?_
            refine xg_iadd C dL_areGates_201 ?_
            refine xg_callVi C V (f := 0) (As := [.int (nI i), .int ((nI i) + (1 : Int32))]) (r := (fX3_believed (nI i) ((nI i) + (1 : Int32)) x.1)) (fun l => kX3_believed l hap (nI i) ((nI i) + (1 : Int32)) x.1 (by assumption) (by first | exact xin_a (by assumption) (by assumption) | exact xin_b (by assumption) (by assumption) | exact xin_c (by assumption) (by assumption))) gL_areGates_X3_believed rfl hdX3_believed ⟨by decide, by decide⟩ rfl rfl rfl rfl rfl (Nat.le_of_ble_eq_true rfl) ⟨Nat.zero_le _, Nat.zero_le _⟩ dL_areGates_202 ?_
            refine xg_aload_n C dL_areGates_205 rfl ?_
            refine xg_bipush C dL_areGates_206 (v := (8 : Int32)) (by decide) ?_
            refine xg_iload C dL_areGates_208 rfl ?_
            refine xg_imul C dL_areGates_210 ?_
            refine xg_bipush C dL_areGates_211 (v := (6 : Int32)) (by decide) ?_
            refine xg_iadd C dL_areGates_213 ?_
            refine xg_iald C V (f := 34) (n := 1) (N := 64) rfl (by decide) (xR_0 (by decide)) (xin_8k (by assumption) (vp_in_iff.mpr ⟨by decide, by decide⟩)) dL_areGates_214 (v := (x.1 34 0 (((8 : Int32) * (nI i)) + (6 : Int32)))) rfl ?_
            refine xg_icmp_ge C 239 dL_areGates_215 (by decide) (fun h28 => ?_) (fun h28 => ?_)
            · refine xg_iload C dL_areGates_239 rfl ?_
              refine xg_if_eq C 279 dL_areGates_241 (by decide) (fun h29 => by contradiction) (fun h29 => ?_)
              refine xg_aload_n C dL_areGates_244 rfl ?_
              refine xg_iload C dL_areGates_245 rfl ?_
              refine xg_iload C dL_areGates_247 rfl ?_
              refine xg_callVi C V (f := 0) (As := [.int (nI i), .int (nI i)]) (r := (fX3_believed (nI i) (nI i) x.1)) (fun l => kX3_believed l hap (nI i) (nI i) x.1 (by assumption) (by assumption)) gL_areGates_X3_believed rfl hdX3_believed ⟨by decide, by decide⟩ rfl rfl rfl rfl rfl (Nat.le_of_ble_eq_true rfl) ⟨Nat.zero_le _, Nat.zero_le _⟩ dL_areGates_249 ?_
              refine xg_aload_n C dL_areGates_252 rfl ?_
              refine xg_bipush C dL_areGates_253 (v := (8 : Int32)) (by decide) ?_
              refine xg_iload C dL_areGates_255 rfl ?_
              refine xg_imul C dL_areGates_257 ?_
              refine xg_iconst C dL_areGates_258 (v := (4 : Int32)) (by decide) ?_
              refine xg_iadd C dL_areGates_259 ?_
              refine xg_iald C V (f := 34) (n := 1) (N := 64) rfl (by decide) (xR_0 (by decide)) (xin_8k (by assumption) (vp_in_iff.mpr ⟨by decide, by decide⟩)) dL_areGates_260 (v := (x.1 34 0 (((8 : Int32) * (nI i)) + (4 : Int32)))) rfl ?_
              refine xg_icmp_ge C 279 dL_areGates_261 (by decide) (fun h30 => ?_) (fun h30 => ?_)
              · suffices hj : xg F 0 0 308 [some (.ref (G.2.2 0 0)), some (.ref (G.2.2 34 0)), some (.ref (G.2.2 35 0)), some (.ref (G.2.2 38 0)), some (.int x.2), some (.int (nI i)), some (.int (x.1 35 0 (((8 : Int32) * (nI i)) + (7 : Int32)))), some (.int (x.1 35 0 (((8 : Int32) * (nI i)) + (7 : Int32)))), some (.int (jL_areGates_34 x.1 (nI i))), some (.int (jL_areGates_63 x.1 (nI i)))] [.int (jL_areGates_279 (x.1 35 0 (((8 : Int32) * (nI i)) + (7 : Int32))) x.1 (nI i))] (xP xYc G x.1) by
                  refine xg_aload_n C dL_areGates_279 rfl ?_
                  refine xg_iload C dL_areGates_280 rfl ?_
                  refine xg_callVi C V (f := 0) (As := [.int (nI i)]) (r := (fX3_opening (nI i) x.1)) (fun l => kX3_opening l hap (nI i) x.1 (by assumption)) gL_areGates_X3_opening rfl hdX3_opening ⟨by decide, by decide⟩ rfl rfl rfl rfl rfl (Nat.le_of_ble_eq_true rfl) ⟨Nat.zero_le _, Nat.zero_le _⟩ dL_areGates_282 ?_
                  refine xg_iload C dL_areGates_285 rfl ?_
                  refine xg_icmp_ne C 307 dL_areGates_287 (by decide) (fun h31 => ?_) (fun h31 => ?_)
                  · refine xg_iconst C dL_areGates_307 (v := (0 : Int32)) (by decide) ?_
                    have e : (jL_areGates_279 (x.1 35 0 (((8 : Int32) * (nI i)) + (7 : Int32))) x.1 (nI i)) = (0 : Int32) := by first | (rw [jL_areGates_279, if_neg h31]; done) | (rw [jL_areGates_279, if_neg h31]; rfl)
                    rw [e] at hj
                    exact hj
                  · refine xg_aload_n C dL_areGates_290 rfl ?_
                    refine xg_iload C dL_areGates_291 rfl ?_
                    refine xg_callVi C V (f := 0) (As := [.int (nI i)]) (r := (fX3_safety (nI i) x.1)) (fun l => kX3_safety l hap (nI i) x.1 (by assumption)) gL_areGates_X3_safety rfl hdX3_safety ⟨by decide, by decide⟩ rfl rfl rfl rfl rfl (Nat.le_of_ble_eq_true rfl) ⟨Nat.zero_le _, Nat.zero_le _⟩ dL_areGates_293 ?_
                    refine xg_aload_n C dL_areGates_296 rfl ?_
                    refine xg_iload C dL_areGates_297 rfl ?_
                    refine xg_iald C V (f := 38) (n := 1) (N := 8) rfl (by decide) (xR_0 (by decide)) (by assumption) dL_areGates_299 (v := (x.1 38 0 (nI i))) rfl ?_
                    refine xg_icmp_ne C 307 dL_areGates_300 (by decide) (fun h32 => ?_) (fun h32 => ?_)
                    · refine xg_iconst C dL_areGates_307 (v := (0 : Int32)) (by decide) ?_
                      have e : (jL_areGates_279 (x.1 35 0 (((8 : Int32) * (nI i)) + (7 : Int32))) x.1 (nI i)) = (0 : Int32) := by first | (rw [jL_areGates_279, if_pos h31, if_neg h32]; done) | (rw [jL_areGates_279, if_pos h31, if_neg h32]; rfl)
                      rw [e] at hj
                      exact hj
                    · refine xg_iconst C dL_areGates_303 (v := (1 : Int32)) (by decide) ?_
                      refine xg_goto C 308 dL_areGates_304 (by decide) ?_
                      have e : (jL_areGates_279 (x.1 35 0 (((8 : Int32) * (nI i)) + (7 : Int32))) x.1 (nI i)) = (1 : Int32) := by first | (rw [jL_areGates_279, if_pos h31, if_pos h32]; done) | (rw [jL_areGates_279, if_pos h31, if_pos h32]; rfl)
                      rw [e] at hj
                      exact hj
                refine xg_istore C dL_areGates_308 (by decide) (L' := [some (.ref (G.2.2 0 0)), some (.ref (G.2.2 34 0)), some (.ref (G.2.2 35 0)), some (.ref (G.2.2 38 0)), some (.int (jL_areGates_279 (x.1 35 0 (((8 : Int32) * (nI i)) + (7 : Int32))) x.1 (nI i))), some (.int (nI i)), some (.int (x.1 35 0 (((8 : Int32) * (nI i)) + (7 : Int32)))), some (.int (x.1 35 0 (((8 : Int32) * (nI i)) + (7 : Int32)))), some (.int (jL_areGates_34 x.1 (nI i))), some (.int (jL_areGates_63 x.1 (nI i)))]) rfl ?_
                refine xg_iinc C dL_areGates_310 rfl (v := (nI (i + 1))) (xinc i) (by decide) (L' := [some (.ref (G.2.2 0 0)), some (.ref (G.2.2 34 0)), some (.ref (G.2.2 35 0)), some (.ref (G.2.2 38 0)), some (.int (jL_areGates_279 (x.1 35 0 (((8 : Int32) * (nI i)) + (7 : Int32))) x.1 (nI i))), some (.int (nI (i + 1))), some (.int (x.1 35 0 (((8 : Int32) * (nI i)) + (7 : Int32)))), some (.int (x.1 35 0 (((8 : Int32) * (nI i)) + (7 : Int32)))), some (.int (jL_areGates_34 x.1 (nI i))), some (.int (jL_areGates_63 x.1 (nI i)))]) rfl ?_
                refine xg_goto C 6 dL_areGates_313 (by decide) ?_
                have e : bL_areGates_6 (nI i) x = (x.1, (jL_areGates_279 (x.1 35 0 (((8 : Int32) * (nI i)) + (7 : Int32))) x.1 (nI i))) := by first | (rw [bL_areGates_6, if_neg h9, if_pos h14, if_neg h16, if_neg h24, if_pos h28, if_pos h30]; done) | (rw [bL_areGates_6, if_neg h9, if_pos h14, if_neg h16, if_neg h24, if_pos h28, if_pos h30]; rfl)
                rw [e] at K
                try dsimp only at K
                exact xg_le K ⟨rfl, rfl, rfl, rfl, rfl, rfl, trivial⟩
              · suffices hj : xg F 0 0 277 [some (.ref (G.2.2 0 0)), some (.ref (G.2.2 34 0)), some (.ref (G.2.2 35 0)), some (.ref (G.2.2 38 0)), some (.int x.2), some (.int (nI i)), some (.int (x.1 35 0 (((8 : Int32) * (nI i)) + (7 : Int32)))), some (.int (x.1 35 0 (((8 : Int32) * (nI i)) + (7 : Int32)))), some (.int (jL_areGates_34 x.1 (nI i))), some (.int (jL_areGates_63 x.1 (nI i)))] [.int (jL_areGates_264 (x.1 35 0 (((8 : Int32) * (nI i)) + (7 : Int32))))] (xP xYc G x.1) by
                  refine xg_iload C dL_areGates_264 rfl ?_
                  refine xg_if_le C 276 dL_areGates_266 (by decide) (fun h33 => ?_) (fun h33 => ?_)
                  · refine xg_iconst C dL_areGates_276 (v := (0 : Int32)) (by decide) ?_
                    have e : (jL_areGates_264 (x.1 35 0 (((8 : Int32) * (nI i)) + (7 : Int32)))) = (0 : Int32) := by first | (rw [jL_areGates_264, if_pos h33]; done) | (rw [jL_areGates_264, if_pos h33]; rfl)
                    rw [e] at hj
                    exact hj
                  · refine xg_iload C dL_areGates_269 rfl ?_
                    refine xg_iconst C dL_areGates_271 (v := (1 : Int32)) (by decide) ?_
                    refine xg_isub C dL_areGates_272 ?_
                    refine xg_goto C 277 dL_areGates_273 (by decide) ?_
                    have e : (jL_areGates_264 (x.1 35 0 (((8 : Int32) * (nI i)) + (7 : Int32)))) = ((x.1 35 0 (((8 : Int32) * (nI i)) + (7 : Int32))) - (1 : Int32)) := by first | (rw [jL_areGates_264, if_neg h33]; done) | (rw [jL_areGates_264, if_neg h33]; rfl)
                    rw [e] at hj
                    exact hj
                refine xg_istore C dL_areGates_277 (by decide) (L' := [some (.ref (G.2.2 0 0)), some (.ref (G.2.2 34 0)), some (.ref (G.2.2 35 0)), some (.ref (G.2.2 38 0)), some (.int x.2), some (.int (nI i)), some (.int (x.1 35 0 (((8 : Int32) * (nI i)) + (7 : Int32)))), some (.int (jL_areGates_264 (x.1 35 0 (((8 : Int32) * (nI i)) + (7 : Int32))))), some (.int (jL_areGates_34 x.1 (nI i))), some (.int (jL_areGates_63 x.1 (nI i)))]) rfl ?_
                suffices hj : xg F 0 0 308 [some (.ref (G.2.2 0 0)), some (.ref (G.2.2 34 0)), some (.ref (G.2.2 35 0)), some (.ref (G.2.2 38 0)), some (.int x.2), some (.int (nI i)), some (.int (x.1 35 0 (((8 : Int32) * (nI i)) + (7 : Int32)))), some (.int (jL_areGates_264 (x.1 35 0 (((8 : Int32) * (nI i)) + (7 : Int32))))), some (.int (jL_areGates_34 x.1 (nI i))), some (.int (jL_areGates_63 x.1 (nI i)))] [.int (jL_areGates_279 (jL_areGates_264 (x.1 35 0 (((8 : Int32) * (nI i)) + (7 : Int32)))) x.1 (nI i))] (xP xYc G x.1) by
                  refine xg_aload_n C dL_areGates_279 rfl ?_
                  refine xg_iload C dL_areGates_280 rfl ?_
                  refine xg_callVi C V (f := 0) (As := [.int (nI i)]) (r := (fX3_opening (nI i) x.1)) (fun l => kX3_opening l hap (nI i) x.1 (by assumption)) gL_areGates_X3_opening rfl hdX3_opening ⟨by decide, by decide⟩ rfl rfl rfl rfl rfl (Nat.le_of_ble_eq_true rfl) ⟨Nat.zero_le _, Nat.zero_le _⟩ dL_areGates_282 ?_
                  refine xg_iload C dL_areGates_285 rfl ?_
                  refine xg_icmp_ne C 307 dL_areGates_287 (by decide) (fun h34 => ?_) (fun h34 => ?_)
                  · refine xg_iconst C dL_areGates_307 (v := (0 : Int32)) (by decide) ?_
                    have e : (jL_areGates_279 (jL_areGates_264 (x.1 35 0 (((8 : Int32) * (nI i)) + (7 : Int32)))) x.1 (nI i)) = (0 : Int32) := by first | (rw [jL_areGates_279, if_neg h34]; done) | (rw [jL_areGates_279, if_neg h34]; rfl)
                    rw [e] at hj
                    exact hj
                  · refine xg_aload_n C dL_areGates_290 rfl ?_
                    refine xg_iload C dL_areGates_291 rfl ?_
                    refine xg_callVi C V (f := 0) (As := [.int (nI i)]) (r := (fX3_safety (nI i) x.1)) (fun l => kX3_safety l hap (nI i) x.1 (by assumption)) gL_areGates_X3_safety rfl hdX3_safety ⟨by decide, by decide⟩ rfl rfl rfl rfl rfl (Nat.le_of_ble_eq_true rfl) ⟨Nat.zero_le _, Nat.zero_le _⟩ dL_areGates_293 ?_
                    refine xg_aload_n C dL_areGates_296 rfl ?_
                    refine xg_iload C dL_areGates_297 rfl ?_
                    refine xg_iald C V (f := 38) (n := 1) (N := 8) rfl (by decide) (xR_0 (by decide)) (by assumption) dL_areGates_299 (v := (x.1 38 0 (nI i))) rfl ?_
                    refine xg_icmp_ne C 307 dL_areGates_300 (by decide) (fun h35 => ?_) (fun h35 => ?_)
                    · refine xg_iconst C dL_areGates_307 (v := (0 : Int32)) (by decide) ?_
                      have e : (jL_areGates_279 (jL_areGates_264 (x.1 35 0 (((8 : Int32) * (nI i)) + (7 : Int32)))) x.1 (nI i)) = (0 : Int32) := by first | (rw [jL_areGates_279, if_pos h34, if_neg h35]; done) | (rw [jL_areGates_279, if_pos h34, if_neg h35]; rfl)
                      rw [e] at hj
                      exact hj
                    · refine xg_iconst C dL_areGates_303 (v := (1 : Int32)) (by decide) ?_
                      refine xg_goto C 308 dL_areGates_304 (by decide) ?_
                      have e : (jL_areGates_279 (jL_areGates_264 (x.1 35 0 (((8 : Int32) * (nI i)) + (7 : Int32)))) x.1 (nI i)) = (1 : Int32) := by first | (rw [jL_areGates_279, if_pos h34, if_pos h35]; done) | (rw [jL_areGates_279, if_pos h34, if_pos h35]; rfl)
                      rw [e] at hj
                      exact hj
                refine xg_istore C dL_areGates_308 (by decide) (L' := [some (.ref (G.2.2 0 0)), some (.ref (G.2.2 34 0)), some (.ref (G.2.2 35 0)), some (.ref (G.2.2 38 0)), some (.int (jL_areGates_279 (jL_areGates_264 (x.1 35 0 (((8 : Int32) * (nI i)) + (7 : Int32)))) x.1 (nI i))), some (.int (nI i)), some (.int (x.1 35 0 (((8 : Int32) * (nI i)) + (7 : Int32)))), some (.int (jL_areGates_264 (x.1 35 0 (((8 : Int32) * (nI i)) + (7 : Int32))))), some (.int (jL_areGates_34 x.1 (nI i))), some (.int (jL_areGates_63 x.1 (nI i)))]) rfl ?_
                refine xg_iinc C dL_areGates_310 rfl (v := (nI (i + 1))) (xinc i) (by decide) (L' := [some (.ref (G.2.2 0 0)), some (.ref (G.2.2 34 0)), some (.ref (G.2.2 35 0)), some (.ref (G.2.2 38 0)), some (.int (jL_areGates_279 (jL_areGates_264 (x.1 35 0 (((8 : Int32) * (nI i)) + (7 : Int32)))) x.1 (nI i))), some (.int (nI (i + 1))), some (.int (x.1 35 0 (((8 : Int32) * (nI i)) + (7 : Int32)))), some (.int (jL_areGates_264 (x.1 35 0 (((8 : Int32) * (nI i)) + (7 : Int32))))), some (.int (jL_areGates_34 x.1 (nI i))), some (.int (jL_areGates_63 x.1 (nI i)))]) rfl ?_
                refine xg_goto C 6 dL_areGates_313 (by decide) ?_
                have e : bL_areGates_6 (nI i) x = (x.1, (jL_areGates_279 (jL_areGates_264 (x.1 35 0 (((8 : Int32) * (nI i)) + (7 : Int32)))) x.1 (nI i))) := by first | (rw [bL_areGates_6, if_neg h9, if_pos h14, if_neg h16, if_neg h24, if_pos h28, if_neg h30]; done) | (rw [bL_areGates_6, if_neg h9, if_pos h14, if_neg h16, if_neg h24, if_pos h28, if_neg h30]; rfl)
                rw [e] at K
                try dsimp only at K
                exact xg_le K ⟨rfl, rfl, rfl, rfl, rfl, rfl, trivial⟩
            · suffices hj : xg F 0 0 234 [some (.ref (G.2.2 0 0)), some (.ref (G.2.2 34 0)), some (.ref (G.2.2 35 0)), some (.ref (G.2.2 38 0)), some (.int x.2), some (.int (nI i)), some (.int (x.1 35 0 (((8 : Int32) * (nI i)) + (7 : Int32)))), some (.int (x.1 35 0 (((8 : Int32) * (nI i)) + (7 : Int32)))), some (.int (jL_areGates_34 x.1 (nI i))), some (.int (jL_areGates_63 x.1 (nI i)))] [.int (jL_areGates_218 (x.1 35 0 (((8 : Int32) * (nI i)) + (7 : Int32))))] (xP xYc G x.1) by
                refine xg_iload C dL_areGates_218 rfl ?_
                refine xg_bipush C dL_areGates_220 (v := (10 : Int32)) (by decide) ?_
                refine xg_icmp_ge C 232 dL_areGates_222 (by decide) (fun h36 => ?_) (fun h36 => ?_)
                · refine xg_bipush C dL_areGates_232 (v := (10 : Int32)) (by decide) ?_
                  have e : (jL_areGates_218 (x.1 35 0 (((8 : Int32) * (nI i)) + (7 : Int32)))) = (10 : Int32) := by first | (rw [jL_areGates_218, if_pos h36]; done) | (rw [jL_areGates_218, if_pos h36]; rfl)
                  rw [e] at hj
                  exact hj
                · refine xg_iload C dL_areGates_225 rfl ?_
                  refine xg_iconst C dL_areGates_227 (v := (1 : Int32)) (by decide) ?_
                  refine xg_iadd C dL_areGates_228 ?_
                  refine xg_goto C 234 dL_areGates_229 (by decide) ?_
                  have e : (jL_areGates_218 (x.1 35 0 (((8 : Int32) * (nI i)) + (7 : Int32)))) = ((x.1 35 0 (((8 : Int32) * (nI i)) + (7 : Int32))) + (1 : Int32)) := by first | (rw [jL_areGates_218, if_neg h36]; done) | (rw [jL_areGates_218, if_neg h36]; rfl)
                  rw [e] at hj
                  exact hj
              refine xg_istore C dL_areGates_234 (by decide) (L' := [some (.ref (G.2.2 0 0)), some (.ref (G.2.2 34 0)), some (.ref (G.2.2 35 0)), some (.ref (G.2.2 38 0)), some (.int x.2), some (.int (nI i)), some (.int (x.1 35 0 (((8 : Int32) * (nI i)) + (7 : Int32)))), some (.int (jL_areGates_218 (x.1 35 0 (((8 : Int32) * (nI i)) + (7 : Int32))))), some (.int (jL_areGates_34 x.1 (nI i))), some (.int (jL_areGates_63 x.1 (nI i)))]) rfl ?_
              refine xg_goto C 279 dL_areGates_236 (by decide) ?_
              suffices hj : xg F 0 0 308 [some (.ref (G.2.2 0 0)), some (.ref (G.2.2 34 0)), some (.ref (G.2.2 35 0)), some (.ref (G.2.2 38 0)), some (.int x.2), some (.int (nI i)), some (.int (x.1 35 0 (((8 : Int32) * (nI i)) + (7 : Int32)))), some (.int (jL_areGates_218 (x.1 35 0 (((8 : Int32) * (nI i)) + (7 : Int32))))), some (.int (jL_areGates_34 x.1 (nI i))), some (.int (jL_areGates_63 x.1 (nI i)))] [.int (jL_areGates_279 (jL_areGates_218 (x.1 35 0 (((8 : Int32) * (nI i)) + (7 : Int32)))) x.1 (nI i))] (xP xYc G x.1) by
                refine xg_aload_n C dL_areGates_279 rfl ?_
                refine xg_iload C dL_areGates_280 rfl ?_
                refine xg_callVi C V (f := 0) (As := [.int (nI i)]) (r := (fX3_opening (nI i) x.1)) (fun l => kX3_opening l hap (nI i) x.1 (by assumption)) gL_areGates_X3_opening rfl hdX3_opening ⟨by decide, by decide⟩ rfl rfl rfl rfl rfl (Nat.le_of_ble_eq_true rfl) ⟨Nat.zero_le _, Nat.zero_le _⟩ dL_areGates_282 ?_
                refine xg_iload C dL_areGates_285 rfl ?_
                refine xg_icmp_ne C 307 dL_areGates_287 (by decide) (fun h37 => ?_) (fun h37 => ?_)
                · refine xg_iconst C dL_areGates_307 (v := (0 : Int32)) (by decide) ?_
                  have e : (jL_areGates_279 (jL_areGates_218 (x.1 35 0 (((8 : Int32) * (nI i)) + (7 : Int32)))) x.1 (nI i)) = (0 : Int32) := by first | (rw [jL_areGates_279, if_neg h37]; done) | (rw [jL_areGates_279, if_neg h37]; rfl)
                  rw [e] at hj
                  exact hj
                · refine xg_aload_n C dL_areGates_290 rfl ?_
                  refine xg_iload C dL_areGates_291 rfl ?_
                  refine xg_callVi C V (f := 0) (As := [.int (nI i)]) (r := (fX3_safety (nI i) x.1)) (fun l => kX3_safety l hap (nI i) x.1 (by assumption)) gL_areGates_X3_safety rfl hdX3_safety ⟨by decide, by decide⟩ rfl rfl rfl rfl rfl (Nat.le_of_ble_eq_true rfl) ⟨Nat.zero_le _, Nat.zero_le _⟩ dL_areGates_293 ?_
                  refine xg_aload_n C dL_areGates_296 rfl ?_
                  refine xg_iload C dL_areGates_297 rfl ?_
                  refine xg_iald C V (f := 38) (n := 1) (N := 8) rfl (by decide) (xR_0 (by decide)) (by assumption) dL_areGates_299 (v := (x.1 38 0 (nI i))) rfl ?_
                  refine xg_icmp_ne C 307 dL_areGates_300 (by decide) (fun h38 => ?_) (fun h38 => ?_)
                  · refine xg_iconst C dL_areGates_307 (v := (0 : Int32)) (by decide) ?_
                    have e : (jL_areGates_279 (jL_areGates_218 (x.1 35 0 (((8 : Int32) * (nI i)) + (7 : Int32)))) x.1 (nI i)) = (0 : Int32) := by first | (rw [jL_areGates_279, if_pos h37, if_neg h38]; done) | (rw [jL_areGates_279, if_pos h37, if_neg h38]; rfl)
                    rw [e] at hj
                    exact hj
                  · refine xg_iconst C dL_areGates_303 (v := (1 : Int32)) (by decide) ?_
                    refine xg_goto C 308 dL_areGates_304 (by decide) ?_
                    have e : (jL_areGates_279 (jL_areGates_218 (x.1 35 0 (((8 : Int32) * (nI i)) + (7 : Int32)))) x.1 (nI i)) = (1 : Int32) := by first | (rw [jL_areGates_279, if_pos h37, if_pos h38]; done) | (rw [jL_areGates_279, if_pos h37, if_pos h38]; rfl)
                    rw [e] at hj
                    exact hj
              refine xg_istore C dL_areGates_308 (by decide) (L' := [some (.ref (G.2.2 0 0)), some (.ref (G.2.2 34 0)), some (.ref (G.2.2 35 0)), some (.ref (G.2.2 38 0)), some (.int (jL_areGates_279 (jL_areGates_218 (x.1 35 0 (((8 : Int32) * (nI i)) + (7 : Int32)))) x.1 (nI i))), some (.int (nI i)), some (.int (x.1 35 0 (((8 : Int32) * (nI i)) + (7 : Int32)))), some (.int (jL_areGates_218 (x.1 35 0 (((8 : Int32) * (nI i)) + (7 : Int32))))), some (.int (jL_areGates_34 x.1 (nI i))), some (.int (jL_areGates_63 x.1 (nI i)))]) rfl ?_
              refine xg_iinc C dL_areGates_310 rfl (v := (nI (i + 1))) (xinc i) (by decide) (L' := [some (.ref (G.2.2 0 0)), some (.ref (G.2.2 34 0)), some (.ref (G.2.2 35 0)), some (.ref (G.2.2 38 0)), some (.int (jL_areGates_279 (jL_areGates_218 (x.1 35 0 (((8 : Int32) * (nI i)) + (7 : Int32)))) x.1 (nI i))), some (.int (nI (i + 1))), some (.int (x.1 35 0 (((8 : Int32) * (nI i)) + (7 : Int32)))), some (.int (jL_areGates_218 (x.1 35 0 (((8 : Int32) * (nI i)) + (7 : Int32))))), some (.int (jL_areGates_34 x.1 (nI i))), some (.int (jL_areGates_63 x.1 (nI i)))]) rfl ?_
              refine xg_goto C 6 dL_areGates_313 (by decide) ?_
              have e : bL_areGates_6 (nI i) x = (x.1, (jL_areGates_279 (jL_areGates_218 (x.1 35 0 (((8 : Int32) * (nI i)) + (7 : Int32)))) x.1 (nI i))) := by first | (rw [bL_areGates_6, if_neg h9, if_pos h14, if_neg h16, if_neg h24, if_neg h28]; done) | (rw [bL_areGates_6, if_neg h9, if_pos h14, if_neg h16, if_neg h24, if_neg h28]; rfl)
              rw [e] at K
              try dsimp only at K
              exact xg_le K ⟨rfl, rfl, rfl, rfl, rfl, rfl, trivial⟩
      · suffices hj : xg F 0 0 150 [some (.ref (G.2.2 0 0)), some (.ref (G.2.2 34 0)), some (.ref (G.2.2 35 0)), some (.ref (G.2.2 38 0)), some (.int x.2), some (.int (nI i)), some (.int (x.1 35 0 (((8 : Int32) * (nI i)) + (7 : Int32)))), some (.int (x.1 35 0 (((8 : Int32) * (nI i)) + (7 : Int32)))), some (.int (jL_areGates_34 x.1 (nI i))), some (.int (jL_areGates_63 x.1 (nI i)))] [.int (jL_areGates_134 (x.1 35 0 (((8 : Int32) * (nI i)) + (7 : Int32))) (nI i))] (xP xYc G x.1) by
          refine xg_iload C dL_areGates_134 rfl ?_
          refine xg_bipush C dL_areGates_136 (v := (8 : Int32)) (by decide) ?_
          refine xg_icmp_le C 146 dL_areGates_138 (by decide) (fun h39 => ?_) (fun h39 => ?_)
          · refine xg_iload C dL_areGates_146 rfl ?_
            refine xg_iconst C dL_areGates_148 (v := (2 : Int32)) (by decide) ?_
            refine xg_iadd C dL_areGates_149 ?_
            have e : (jL_areGates_134 (x.1 35 0 (((8 : Int32) * (nI i)) + (7 : Int32))) (nI i)) = ((x.1 35 0 (((8 : Int32) * (nI i)) + (7 : Int32))) + (2 : Int32)) := by first | (rw [jL_areGates_134, if_pos h39]; done) | (rw [jL_areGates_134, if_pos h39]; rfl)
            rw [e] at hj
            exact hj
          · refine xg_bipush C dL_areGates_141 (v := (10 : Int32)) (by decide) ?_
            refine xg_goto C 150 dL_areGates_143 (by decide) ?_
            have e : (jL_areGates_134 (x.1 35 0 (((8 : Int32) * (nI i)) + (7 : Int32))) (nI i)) = (10 : Int32) := by first | (rw [jL_areGates_134, if_neg h39]; done) | (rw [jL_areGates_134, if_neg h39]; rfl)
            rw [e] at hj
            exact hj
        refine xg_istore C dL_areGates_150 (by decide) (L' := [some (.ref (G.2.2 0 0)), some (.ref (G.2.2 34 0)), some (.ref (G.2.2 35 0)), some (.ref (G.2.2 38 0)), some (.int x.2), some (.int (nI i)), some (.int (x.1 35 0 (((8 : Int32) * (nI i)) + (7 : Int32)))), some (.int (jL_areGates_134 (x.1 35 0 (((8 : Int32) * (nI i)) + (7 : Int32))) (nI i))), some (.int (jL_areGates_34 x.1 (nI i))), some (.int (jL_areGates_63 x.1 (nI i)))]) rfl ?_
        refine xg_aload_n C dL_areGates_152 rfl ?_
        refine xg_iload C dL_areGates_153 rfl ?_
        refine xg_dup2 C dL_areGates_155 rfl rfl ?_
        refine xg_iald C V (f := 38) (n := 1) (N := 8) rfl (by decide) (xR_0 (by decide)) (by assumption) dL_areGates_156 (v := (x.1 38 0 (nI i))) rfl ?_
        refine xg_iconst C dL_areGates_157 (v := (1 : Int32)) (by decide) ?_
        refine xg_iadd C dL_areGates_158 ?_
        refine xg_iast C V (f := 38) (n := 1) (N := 8) rfl (by decide) (xR_0 (by decide)) (by assumption) dL_areGates_159 ?_
        refine xg_goto C 279 dL_areGates_160 (by decide) ?_
        suffices hj : xg F 0 0 308 [some (.ref (G.2.2 0 0)), some (.ref (G.2.2 34 0)), some (.ref (G.2.2 35 0)), some (.ref (G.2.2 38 0)), some (.int x.2), some (.int (nI i)), some (.int (x.1 35 0 (((8 : Int32) * (nI i)) + (7 : Int32)))), some (.int (jL_areGates_134 (x.1 35 0 (((8 : Int32) * (nI i)) + (7 : Int32))) (nI i))), some (.int (jL_areGates_34 x.1 (nI i))), some (.int (jL_areGates_63 x.1 (nI i)))] [.int (jL_areGates_279 (jL_areGates_134 (x.1 35 0 (((8 : Int32) * (nI i)) + (7 : Int32))) (nI i)) (xu x.1 38 0 (nI i) ((x.1 38 0 (nI i)) + (1 : Int32))) (nI i))] (xP xYc G (xu x.1 38 0 (nI i) ((x.1 38 0 (nI i)) + (1 : Int32)))) by
          refine xg_aload_n C dL_areGates_279 rfl ?_
          refine xg_iload C dL_areGates_280 rfl ?_
          refine xg_callVi C V (f := 0) (As := [.int (nI i)]) (r := (fX3_opening (nI i) (xu x.1 38 0 (nI i) ((x.1 38 0 (nI i)) + (1 : Int32))))) (fun l => kX3_opening l hap (nI i) (xu x.1 38 0 (nI i) ((x.1 38 0 (nI i)) + (1 : Int32))) (by assumption)) gL_areGates_X3_opening rfl hdX3_opening ⟨by decide, by decide⟩ rfl rfl rfl rfl rfl (Nat.le_of_ble_eq_true rfl) ⟨Nat.zero_le _, Nat.zero_le _⟩ dL_areGates_282 ?_
          refine xg_iload C dL_areGates_285 rfl ?_
          refine xg_icmp_ne C 307 dL_areGates_287 (by decide) (fun h40 => ?_) (fun h40 => ?_)
          · refine xg_iconst C dL_areGates_307 (v := (0 : Int32)) (by decide) ?_
            have e : (jL_areGates_279 (jL_areGates_134 (x.1 35 0 (((8 : Int32) * (nI i)) + (7 : Int32))) (nI i)) (xu x.1 38 0 (nI i) ((x.1 38 0 (nI i)) + (1 : Int32))) (nI i)) = (0 : Int32) := by first | (rw [jL_areGates_279, if_neg h40]; done) | (rw [jL_areGates_279, if_neg h40]; rfl)
            rw [e] at hj
            exact hj
          · refine xg_aload_n C dL_areGates_290 rfl ?_
            refine xg_iload C dL_areGates_291 rfl ?_
            refine xg_callVi C V (f := 0) (As := [.int (nI i)]) (r := (fX3_safety (nI i) (xu x.1 38 0 (nI i) ((x.1 38 0 (nI i)) + (1 : Int32))))) (fun l => kX3_safety l hap (nI i) (xu x.1 38 0 (nI i) ((x.1 38 0 (nI i)) + (1 : Int32))) (by assumption)) gL_areGates_X3_safety rfl hdX3_safety ⟨by decide, by decide⟩ rfl rfl rfl rfl rfl (Nat.le_of_ble_eq_true rfl) ⟨Nat.zero_le _, Nat.zero_le _⟩ dL_areGates_293 ?_
            refine xg_aload_n C dL_areGates_296 rfl ?_
            refine xg_iload C dL_areGates_297 rfl ?_
            refine xg_iald C V (f := 38) (n := 1) (N := 8) rfl (by decide) (xR_0 (by decide)) (by assumption) dL_areGates_299 (v := ((xu x.1 38 0 (nI i) ((x.1 38 0 (nI i)) + (1 : Int32))) 38 0 (nI i))) rfl ?_
            refine xg_icmp_ne C 307 dL_areGates_300 (by decide) (fun h41 => ?_) (fun h41 => ?_)
            · refine xg_iconst C dL_areGates_307 (v := (0 : Int32)) (by decide) ?_
              have e : (jL_areGates_279 (jL_areGates_134 (x.1 35 0 (((8 : Int32) * (nI i)) + (7 : Int32))) (nI i)) (xu x.1 38 0 (nI i) ((x.1 38 0 (nI i)) + (1 : Int32))) (nI i)) = (0 : Int32) := by first | (rw [jL_areGates_279, if_pos h40, if_neg h41]; done) | (rw [jL_areGates_279, if_pos h40, if_neg h41]; rfl)
              rw [e] at hj
              exact hj
            · refine xg_iconst C dL_areGates_303 (v := (1 : Int32)) (by decide) ?_
              refine xg_goto C 308 dL_areGates_304 (by decide) ?_
              have e : (jL_areGates_279 (jL_areGates_134 (x.1 35 0 (((8 : Int32) * (nI i)) + (7 : Int32))) (nI i)) (xu x.1 38 0 (nI i) ((x.1 38 0 (nI i)) + (1 : Int32))) (nI i)) = (1 : Int32) := by first | (rw [jL_areGates_279, if_pos h40, if_pos h41]; done) | (rw [jL_areGates_279, if_pos h40, if_pos h41]; rfl)
              rw [e] at hj
              exact hj
        refine xg_istore C dL_areGates_308 (by decide) (L' := [some (.ref (G.2.2 0 0)), some (.ref (G.2.2 34 0)), some (.ref (G.2.2 35 0)), some (.ref (G.2.2 38 0)), some (.int (jL_areGates_279 (jL_areGates_134 (x.1 35 0 (((8 : Int32) * (nI i)) + (7 : Int32))) (nI i)) (xu x.1 38 0 (nI i) ((x.1 38 0 (nI i)) + (1 : Int32))) (nI i))), some (.int (nI i)), some (.int (x.1 35 0 (((8 : Int32) * (nI i)) + (7 : Int32)))), some (.int (jL_areGates_134 (x.1 35 0 (((8 : Int32) * (nI i)) + (7 : Int32))) (nI i))), some (.int (jL_areGates_34 x.1 (nI i))), some (.int (jL_areGates_63 x.1 (nI i)))]) rfl ?_
        refine xg_iinc C dL_areGates_310 rfl (v := (nI (i + 1))) (xinc i) (by decide) (L' := [some (.ref (G.2.2 0 0)), some (.ref (G.2.2 34 0)), some (.ref (G.2.2 35 0)), some (.ref (G.2.2 38 0)), some (.int (jL_areGates_279 (jL_areGates_134 (x.1 35 0 (((8 : Int32) * (nI i)) + (7 : Int32))) (nI i)) (xu x.1 38 0 (nI i) ((x.1 38 0 (nI i)) + (1 : Int32))) (nI i))), some (.int (nI (i + 1))), some (.int (x.1 35 0 (((8 : Int32) * (nI i)) + (7 : Int32)))), some (.int (jL_areGates_134 (x.1 35 0 (((8 : Int32) * (nI i)) + (7 : Int32))) (nI i))), some (.int (jL_areGates_34 x.1 (nI i))), some (.int (jL_areGates_63 x.1 (nI i)))]) rfl ?_
        refine xg_goto C 6 dL_areGates_313 (by decide) ?_
        have e : bL_areGates_6 (nI i) x = ((xu x.1 38 0 (nI i) ((x.1 38 0 (nI i)) + (1 : Int32))), (jL_areGates_279 (jL_areGates_134 (x.1 35 0 (((8 : Int32) * (nI i)) + (7 : Int32))) (nI i)) (xu x.1 38 0 (nI i) ((x.1 38 0 (nI i)) + (1 : Int32))) (nI i))) := by first | (rw [bL_areGates_6, if_neg h9, if_neg h14]; done) | (rw [bL_areGates_6, if_neg h9, if_neg h14]; rfl)
        rw [e] at K
        try dsimp only at K
        exact xg_le K ⟨rfl, rfl, rfl, rfl, rfl, rfl, trivial⟩
  · show xg F 0 0 6 [some (.ref (G.2.2 0 0)), some (.ref (G.2.2 34 0)), some (.ref (G.2.2 35 0)), some (.ref (G.2.2 38 0)), some (.int (xfold bL_areGates_6 8 (S, (1 : Int32))).2), some (.int (nI 8)), none, none, none, none] [] (xP xYc G (xfold bL_areGates_6 8 (S, (1 : Int32))).1)
    refine xg_iload C dL_areGates_6 rfl ?_
    refine xg_bipush C dL_areGates_8 (v := (8 : Int32)) (by decide) ?_
    refine xg_icmp_ge C 316 dL_areGates_10 (by decide) (fun h42 => ?_) (fun h42 => absurd (nI_le (Nat.le_refl _) (by decide)) h42)
    refine xg_iload C dL_areGates_316 rfl ?_
    have e : (fL_areGates S) = ((xfold bL_areGates_6 8 (S, (1 : Int32))).1, (xfold bL_areGates_6 8 (S, (1 : Int32))).2) := rfl
    exact xret_i E dL_areGates_318 (xsnd e) (xfst e)
theorem kL_areGates1 (l : Launch) {G : xG} (hap : xAp xYc G) (S : xS) (h : okG S) : xMi l xYc G yL_areGates wsL_areGates 3 64 [.ref (G.2.2 0 0), .ref (G.2.2 34 0), .ref (G.2.2 35 0), .ref (G.2.2 38 0)] S (fL_areGates S).1 (1 : Int32) := by
  have k := kL_areGates l hap S h
  rw [nG1 h] at k
  exact k
def jL_areMembers_41 (S : xS) (j : Int32) : Int32 :=
  if (S 35 0 (((8 : Int32) * j) + (1 : Int32))) = (0 : Int32) then
    (1 : Int32)
  else
    (0 : Int32)
def jL_areMembers_62 (isUp : Int32) (S : xS) (j : Int32) (k : Int32) : Int32 :=
  if isUp = (0 : Int32) then
    (0 : Int32)
  else
    if (fX3_believed j k S) = (fX3_level k S) then
      (1 : Int32)
    else
      (0 : Int32)
def jL_areMembers_92 (best : Int32) (S : xS) (j : Int32) (k : Int32) : Int32 :=
  if (fX3_version j k S) ≤ (fX3_version best k S) then
    best
  else
    j
def jL_areMembers_120 (isUp : Int32) (alive : Int32) (S : xS) (j : Int32) (k : Int32) : Int32 :=
  if alive = (0 : Int32) then
    if isUp = (0 : Int32) then
      (0 : Int32)
    else
      if (fX3_status j k S) = (0 : Int32) then
        (1 : Int32)
      else
        (0 : Int32)
  else
    (1 : Int32)
def jL_areMembers_149 (isUp : Int32) (S : xS) (j : Int32) (k : Int32) : Int32 :=
  if isUp = (0 : Int32) then
    (0 : Int32)
  else
    if (S 35 0 (((8 : Int32) * k) + (1 : Int32))) = (0 : Int32) then
      if (fX3_status j k S) = (2 : Int32) then
        (1 : Int32)
      else
        (0 : Int32)
    else
      (0 : Int32)
def bL_areMembers_34 (k : Int32) (S : xS) (i : Int32) (y : Int32 × Int32 × Int32 × Int32) : Int32 × Int32 × Int32 × Int32 :=
  ((y.1 + (jL_areMembers_62 (jL_areMembers_41 S i) S i k)), (jL_areMembers_92 y.2.1 S i k), (jL_areMembers_120 (jL_areMembers_41 S i) y.2.2.1 S i k), (y.2.2.2 + (jL_areMembers_149 (jL_areMembers_41 S i) S i k)))
def jL_areMembers_192 (alive : Int32) (S : xS) (k : Int32) : Int32 :=
  if alive = (0 : Int32) then
    (0 : Int32)
  else
    if (S 35 0 (((8 : Int32) * k) + (1 : Int32))) = (1 : Int32) then
      (1 : Int32)
    else
      (0 : Int32)
def jL_areMembers_225 (agree : Int32) (best : Int32) (p : Int32) (S : xS) (k : Int32) : Int32 :=
  if (fX3_agree k S) = agree then
    if (fX3_version best k S) ≤ (0 : Int32) then
      if (fX3_freshest k S) = (-1 : Int32) then
        if p < (-1 : Int32) then
          (0 : Int32)
        else
          if (8 : Int32) ≤ p then
            (0 : Int32)
          else
            if p = k then
              (0 : Int32)
            else
              if p < (0 : Int32) then
                (1 : Int32)
              else
                if (S 35 0 (((8 : Int32) * k) + (1 : Int32))) = (0 : Int32) then
                  if (((fX3_time S) + (1 : Int32)) - ((fX3_time S) + (1 : Int32)) / (4 : Int32) * (4 : Int32)) = (0 : Int32) then
                    (1 : Int32)
                  else
                    if (2 : Int32) ≤ (fX3_status k p S) then
                      (0 : Int32)
                    else
                      (1 : Int32)
                else
                  (0 : Int32)
      else
        (0 : Int32)
    else
      if (fX3_freshest k S) = best then
        if p < (-1 : Int32) then
          (0 : Int32)
        else
          if (8 : Int32) ≤ p then
            (0 : Int32)
          else
            if p = k then
              (0 : Int32)
            else
              if p < (0 : Int32) then
                (1 : Int32)
              else
                if (S 35 0 (((8 : Int32) * k) + (1 : Int32))) = (0 : Int32) then
                  if (((fX3_time S) + (1 : Int32)) - ((fX3_time S) + (1 : Int32)) / (4 : Int32) * (4 : Int32)) = (0 : Int32) then
                    (1 : Int32)
                  else
                    if (2 : Int32) ≤ (fX3_status k p S) then
                      (0 : Int32)
                    else
                      (1 : Int32)
                else
                  (0 : Int32)
      else
        (0 : Int32)
  else
    (0 : Int32)
def bL_areMembers_10  (S : xS) (i : Int32) (x : Int32 × Int32 × Int32) : Int32 × Int32 × Int32 :=
  ((x.1 + (jL_areMembers_192 (xfold (bL_areMembers_34 i S) 8 ((0 : Int32), (0 : Int32), (0 : Int32), x.2.1)).2.2.1 S i)), (xfold (bL_areMembers_34 i S) 8 ((0 : Int32), (0 : Int32), (0 : Int32), x.2.1)).2.2.2, (jL_areMembers_225 (xfold (bL_areMembers_34 i S) 8 ((0 : Int32), (0 : Int32), (0 : Int32), x.2.1)).1 (xfold (bL_areMembers_34 i S) 8 ((0 : Int32), (0 : Int32), (0 : Int32), x.2.1)).2.1 (fX3_partner i S) S i))
def fL_areMembers  (S : xS) : Int32 :=
  (1 : Int32)
def okM (S : xS) : Prop := ∃ J : Nat → Int32 × Int32 × Int32 → Prop, J 0 ((0 : Int32), (0 : Int32), (1 : Int32)) ∧ (∀ i, i < 8 → ∀ x, J i x → J (i + 1) (bL_areMembers_10 S (nI i) x)) ∧ (∀ i x, J i x → x.2.2 = (1 : Int32)) ∧ (∀ x, J 8 x → fX3_unnoticed S = x.1 ∧ fX3_mistaken S = x.2.1)
theorem hdL_areMembers : yL_areMembers.cls ≠ "java/lang/invoke/MethodHandle" ∧ yL_areMembers.cls ≠ "java/lang/invoke/VarHandle" ∧ (parseMethodDescriptor yL_areMembers.desc).map (fun d => d.parameters.length) = some 2 := by decide +kernel
set_option maxRecDepth 100000 in
set_option maxHeartbeats 4000000 in
theorem kL_areMembers (l : Launch) {G : xG} (hap : xAp xYc G)  (S : xS) (hM : okM S) : xMi l xYc G yL_areMembers wsL_areMembers 3 70 [.ref (G.2.2 0 0), .ref (G.2.2 35 0)] S S (fL_areMembers S) := by
  refine xMi_of (cc := cL_areMembers) (maxL := 11) (ty := .boolean) (own := RL) [some (.ref (G.2.2 0 0)), some (.ref (G.2.2 35 0)), none, none, none, none, none, none, none, none, none] pnL rfl rfl (xn01 (Or.inr rfl)) (xcat1 rfl) (Nat.le_of_ble_eq_true rfl) rfl hap (fun F C V E => ?_)
  obtain ⟨J, hJ0, hJ1, hJi, hJe⟩ := hM
  refine xg_iconst C dL_areMembers_0 (v := (0 : Int32)) (by decide) ?_
  refine xg_istore_n C dL_areMembers_1 (by decide) (L' := [some (.ref (G.2.2 0 0)), some (.ref (G.2.2 35 0)), some (.int (0 : Int32)), none, none, none, none, none, none, none, none]) rfl ?_
  refine xg_iconst C dL_areMembers_2 (v := (0 : Int32)) (by decide) ?_
  refine xg_istore_n C dL_areMembers_3 (by decide) (L' := [some (.ref (G.2.2 0 0)), some (.ref (G.2.2 35 0)), some (.int (0 : Int32)), some (.int (0 : Int32)), none, none, none, none, none, none, none]) rfl ?_
  refine xg_iconst C dL_areMembers_4 (v := (1 : Int32)) (by decide) ?_
  refine xg_istore C dL_areMembers_5 (by decide) (L' := [some (.ref (G.2.2 0 0)), some (.ref (G.2.2 35 0)), some (.int (0 : Int32)), some (.int (0 : Int32)), some (.int (1 : Int32)), none, none, none, none, none, none]) rfl ?_
  refine xg_iconst C dL_areMembers_7 (v := (0 : Int32)) (by decide) ?_
  refine xg_istore C dL_areMembers_8 (by decide) (L' := [some (.ref (G.2.2 0 0)), some (.ref (G.2.2 35 0)), some (.int (0 : Int32)), some (.int (0 : Int32)), some (.int (1 : Int32)), some (.int (0 : Int32)), none, none, none, none, none]) rfl ?_
  refine xloopI (fun (ii : Int32) (x : Int32 × Int32 × Int32) => xg F 0 0 10 [some (.ref (G.2.2 0 0)), some (.ref (G.2.2 35 0)), some (.int x.1), some (.int x.2.1), some (.int x.2.2), some (.int ii), none, none, none, none, none] [] (xP xYc G S)) (bL_areMembers_10 S) 8 ((0 : Int32), (0 : Int32), (1 : Int32)) J hJ0 hJ1 (fun i hi x hJ K => ?_) (fun hJ => ?_)
  · have hi8 : vp_in (nI i) 8 := vp_in_nI hi (by decide)
    have hisx : x.2.2 = (1 : Int32) := hJi _ _ hJ
    show xg F 0 0 10 [some (.ref (G.2.2 0 0)), some (.ref (G.2.2 35 0)), some (.int x.1), some (.int x.2.1), some (.int x.2.2), some (.int (nI i)), none, none, none, none, none] [] (xP xYc G S)
    refine xg_iload C dL_areMembers_10 rfl ?_
    refine xg_bipush C dL_areMembers_12 (v := (8 : Int32)) (by decide) ?_
    refine xg_icmp_ge C 335 dL_areMembers_14 (by decide) (fun h1 => absurd h1 (nI_ge hi (by decide))) (fun h1 => ?_)
    refine xg_iload C dL_areMembers_17 rfl ?_
    refine xg_if_eq C 335 dL_areMembers_19 (by decide) (fun h2 => absurd h2 (by rw [hisx]; decide)) (fun h2 => ?_)
    refine xg_iconst C dL_areMembers_22 (v := (0 : Int32)) (by decide) ?_
    refine xg_istore C dL_areMembers_23 (by decide) (L' := [some (.ref (G.2.2 0 0)), some (.ref (G.2.2 35 0)), some (.int x.1), some (.int x.2.1), some (.int x.2.2), some (.int (nI i)), some (.int (0 : Int32)), none, none, none, none]) rfl ?_
    refine xg_iconst C dL_areMembers_25 (v := (0 : Int32)) (by decide) ?_
    refine xg_istore C dL_areMembers_26 (by decide) (L' := [some (.ref (G.2.2 0 0)), some (.ref (G.2.2 35 0)), some (.int x.1), some (.int x.2.1), some (.int x.2.2), some (.int (nI i)), some (.int (0 : Int32)), some (.int (0 : Int32)), none, none, none]) rfl ?_
    refine xg_iconst C dL_areMembers_28 (v := (0 : Int32)) (by decide) ?_
    refine xg_istore C dL_areMembers_29 (by decide) (L' := [some (.ref (G.2.2 0 0)), some (.ref (G.2.2 35 0)), some (.int x.1), some (.int x.2.1), some (.int x.2.2), some (.int (nI i)), some (.int (0 : Int32)), some (.int (0 : Int32)), some (.int (0 : Int32)), none, none]) rfl ?_
    refine xg_iconst C dL_areMembers_31 (v := (0 : Int32)) (by decide) ?_
    refine xg_istore C dL_areMembers_32 (by decide) (L' := [some (.ref (G.2.2 0 0)), some (.ref (G.2.2 35 0)), some (.int x.1), some (.int x.2.1), some (.int x.2.2), some (.int (nI i)), some (.int (0 : Int32)), some (.int (0 : Int32)), some (.int (0 : Int32)), some (.int (0 : Int32)), none]) rfl ?_
    refine xloopI (fun (ii : Int32) (y : Int32 × Int32 × Int32 × Int32) => xg F 0 0 34 [some (.ref (G.2.2 0 0)), some (.ref (G.2.2 35 0)), some (.int x.1), some (.int y.2.2.2), some (.int x.2.2), some (.int (nI i)), some (.int y.1), some (.int y.2.1), some (.int y.2.2.1), some (.int ii), none] [] (xP xYc G S)) (bL_areMembers_34 (nI i) S) 8 ((0 : Int32), (0 : Int32), (0 : Int32), x.2.1) (fun _ (y : Int32 × Int32 × Int32 × Int32) => vp_in y.2.1 8) (show vp_in (0 : Int32) 8 from vp_in_iff.mpr ⟨by decide, by decide⟩) (fun j hj y hy => by unfold bL_areMembers_34 jL_areMembers_92; dsimp only; (repeat' split) <;> first | exact vp_in_nI hj (by decide) | exact hy) (fun j hi y hJ K => ?_) (fun hJ => ?_)
    · have hi8 : vp_in (nI j) 8 := vp_in_nI hi (by decide)
      have hJ2 : vp_in y.2.1 8 := hJ
      show xg F 0 0 34 [some (.ref (G.2.2 0 0)), some (.ref (G.2.2 35 0)), some (.int x.1), some (.int y.2.2.2), some (.int x.2.2), some (.int (nI i)), some (.int y.1), some (.int y.2.1), some (.int y.2.2.1), some (.int (nI j)), none] [] (xP xYc G S)
      refine xg_iload C dL_areMembers_34 rfl ?_
      refine xg_bipush C dL_areMembers_36 (v := (8 : Int32)) (by decide) ?_
      refine xg_icmp_ge C 191 dL_areMembers_38 (by decide) (fun h3 => absurd h3 (nI_ge hi (by decide))) (fun h3 => ?_)
      suffices hj : xg F 0 0 58 [some (.ref (G.2.2 0 0)), some (.ref (G.2.2 35 0)), some (.int x.1), some (.int y.2.2.2), some (.int x.2.2), some (.int (nI i)), some (.int y.1), some (.int y.2.1), some (.int y.2.2.1), some (.int (nI j)), none] [.int (jL_areMembers_41 S (nI j))] (xP xYc G S) by
        refine xg_aload_n C dL_areMembers_41 rfl ?_
        refine xg_bipush C dL_areMembers_42 (v := (8 : Int32)) (by decide) ?_
        refine xg_iload C dL_areMembers_44 rfl ?_
        refine xg_imul C dL_areMembers_46 ?_
        refine xg_iconst C dL_areMembers_47 (v := (1 : Int32)) (by decide) ?_
        refine xg_iadd C dL_areMembers_48 ?_
        refine xg_iald C V (f := 35) (n := 1) (N := 64) rfl (by decide) (xR_0 (by decide)) (xin_8k (by assumption) (vp_in_iff.mpr ⟨by decide, by decide⟩)) dL_areMembers_49 (v := (S 35 0 (((8 : Int32) * (nI j)) + (1 : Int32)))) rfl ?_
        refine xg_if_ne C 57 dL_areMembers_50 (by decide) (fun h4 => ?_) (fun h4 => ?_)
        · refine xg_iconst C dL_areMembers_57 (v := (0 : Int32)) (by decide) ?_
          have e : (jL_areMembers_41 S (nI j)) = (0 : Int32) := by first | (rw [jL_areMembers_41, if_neg h4]; done) | (rw [jL_areMembers_41, if_neg h4]; rfl)
          rw [e] at hj
          exact hj
        · refine xg_iconst C dL_areMembers_53 (v := (1 : Int32)) (by decide) ?_
          refine xg_goto C 58 dL_areMembers_54 (by decide) ?_
          have e : (jL_areMembers_41 S (nI j)) = (1 : Int32) := by first | (rw [jL_areMembers_41, if_pos h4]; done) | (rw [jL_areMembers_41, if_pos h4]; rfl)
          rw [e] at hj
          exact hj
      refine xg_istore C dL_areMembers_58 (by decide) (L' := [some (.ref (G.2.2 0 0)), some (.ref (G.2.2 35 0)), some (.int x.1), some (.int y.2.2.2), some (.int x.2.2), some (.int (nI i)), some (.int y.1), some (.int y.2.1), some (.int y.2.2.1), some (.int (nI j)), some (.int (jL_areMembers_41 S (nI j)))]) rfl ?_
      refine xg_iload C dL_areMembers_60 rfl ?_
      suffices hj : xg F 0 0 89 [some (.ref (G.2.2 0 0)), some (.ref (G.2.2 35 0)), some (.int x.1), some (.int y.2.2.2), some (.int x.2.2), some (.int (nI i)), some (.int y.1), some (.int y.2.1), some (.int y.2.2.1), some (.int (nI j)), some (.int (jL_areMembers_41 S (nI j)))] [.int (jL_areMembers_62 (jL_areMembers_41 S (nI j)) S (nI j) (nI i)), .int y.1] (xP xYc G S) by
        refine xg_iload C dL_areMembers_62 rfl ?_
        refine xg_if_eq C 88 dL_areMembers_64 (by decide) (fun h5 => ?_) (fun h5 => ?_)
        · refine xg_iconst C dL_areMembers_88 (v := (0 : Int32)) (by decide) ?_
          have e : (jL_areMembers_62 (jL_areMembers_41 S (nI j)) S (nI j) (nI i)) = (0 : Int32) := by first | (rw [jL_areMembers_62, if_pos h5]; done) | (rw [jL_areMembers_62, if_pos h5]; rfl)
          rw [e] at hj
          exact hj
        · refine xg_aload_n C dL_areMembers_67 rfl ?_
          refine xg_iload C dL_areMembers_68 rfl ?_
          refine xg_iload C dL_areMembers_70 rfl ?_
          refine xg_callVi C V (f := 0) (As := [.int (nI j), .int (nI i)]) (r := (fX3_believed (nI j) (nI i) S)) (fun l => kX3_believed l hap (nI j) (nI i) S (by assumption) (by assumption)) gL_areMembers_X3_believed rfl hdX3_believed ⟨by decide, by decide⟩ rfl rfl rfl rfl rfl (Nat.le_of_ble_eq_true rfl) ⟨Nat.zero_le _, Nat.zero_le _⟩ dL_areMembers_72 ?_
          refine xg_aload_n C dL_areMembers_75 rfl ?_
          refine xg_iload C dL_areMembers_76 rfl ?_
          refine xg_callVi C V (f := 0) (As := [.int (nI i)]) (r := (fX3_level (nI i) S)) (fun l => kX3_level l hap (nI i) S (by assumption)) gL_areMembers_X3_level rfl hdX3_level ⟨by decide, by decide⟩ rfl rfl rfl rfl rfl (Nat.le_of_ble_eq_true rfl) ⟨Nat.zero_le _, Nat.zero_le _⟩ dL_areMembers_78 ?_
          refine xg_icmp_ne C 88 dL_areMembers_81 (by decide) (fun h6 => ?_) (fun h6 => ?_)
          · refine xg_iconst C dL_areMembers_88 (v := (0 : Int32)) (by decide) ?_
            have e : (jL_areMembers_62 (jL_areMembers_41 S (nI j)) S (nI j) (nI i)) = (0 : Int32) := by first | (rw [jL_areMembers_62, if_neg h5, if_neg h6]; done) | (rw [jL_areMembers_62, if_neg h5, if_neg h6]; rfl)
            rw [e] at hj
            exact hj
          · refine xg_iconst C dL_areMembers_84 (v := (1 : Int32)) (by decide) ?_
            refine xg_goto C 89 dL_areMembers_85 (by decide) ?_
            have e : (jL_areMembers_62 (jL_areMembers_41 S (nI j)) S (nI j) (nI i)) = (1 : Int32) := by first | (rw [jL_areMembers_62, if_neg h5, if_pos h6]; done) | (rw [jL_areMembers_62, if_neg h5, if_pos h6]; rfl)
            rw [e] at hj
            exact hj
      refine xg_iadd C dL_areMembers_89 ?_
      refine xg_istore C dL_areMembers_90 (by decide) (L' := [some (.ref (G.2.2 0 0)), some (.ref (G.2.2 35 0)), some (.int x.1), some (.int y.2.2.2), some (.int x.2.2), some (.int (nI i)), some (.int (y.1 + (jL_areMembers_62 (jL_areMembers_41 S (nI j)) S (nI j) (nI i)))), some (.int y.2.1), some (.int y.2.2.1), some (.int (nI j)), some (.int (jL_areMembers_41 S (nI j)))]) rfl ?_
      suffices hj : xg F 0 0 118 [some (.ref (G.2.2 0 0)), some (.ref (G.2.2 35 0)), some (.int x.1), some (.int y.2.2.2), some (.int x.2.2), some (.int (nI i)), some (.int (y.1 + (jL_areMembers_62 (jL_areMembers_41 S (nI j)) S (nI j) (nI i)))), some (.int y.2.1), some (.int y.2.2.1), some (.int (nI j)), some (.int (jL_areMembers_41 S (nI j)))] [.int (jL_areMembers_92 y.2.1 S (nI j) (nI i))] (xP xYc G S) by
        refine xg_aload_n C dL_areMembers_92 rfl ?_
        refine xg_iload C dL_areMembers_93 rfl ?_
        refine xg_iload C dL_areMembers_95 rfl ?_
        refine xg_callVi C V (f := 0) (As := [.int (nI j), .int (nI i)]) (r := (fX3_version (nI j) (nI i) S)) (fun l => kX3_version l hap (nI j) (nI i) S (by assumption) (by assumption)) gL_areMembers_X3_version rfl hdX3_version ⟨by decide, by decide⟩ rfl rfl rfl rfl rfl (Nat.le_of_ble_eq_true rfl) ⟨Nat.zero_le _, Nat.zero_le _⟩ dL_areMembers_97 ?_
        refine xg_aload_n C dL_areMembers_100 rfl ?_
        refine xg_iload C dL_areMembers_101 rfl ?_
        refine xg_iload C dL_areMembers_103 rfl ?_
        refine xg_callVi C V (f := 0) (As := [.int y.2.1, .int (nI i)]) (r := (fX3_version y.2.1 (nI i) S)) (fun l => kX3_version l hap y.2.1 (nI i) S (by assumption) (by assumption)) gL_areMembers_X3_version rfl hdX3_version ⟨by decide, by decide⟩ rfl rfl rfl rfl rfl (Nat.le_of_ble_eq_true rfl) ⟨Nat.zero_le _, Nat.zero_le _⟩ dL_areMembers_105 ?_
        refine xg_icmp_le C 116 dL_areMembers_108 (by decide) (fun h7 => ?_) (fun h7 => ?_)
        · refine xg_iload C dL_areMembers_116 rfl ?_
          have e : (jL_areMembers_92 y.2.1 S (nI j) (nI i)) = y.2.1 := by first | (rw [jL_areMembers_92, if_pos h7]; done) | (rw [jL_areMembers_92, if_pos h7]; rfl)
          rw [e] at hj
          exact hj
        · refine xg_iload C dL_areMembers_111 rfl ?_
          refine xg_goto C 118 dL_areMembers_113 (by decide) ?_
          have e : (jL_areMembers_92 y.2.1 S (nI j) (nI i)) = (nI j) := by first | (rw [jL_areMembers_92, if_neg h7]; done) | (rw [jL_areMembers_92, if_neg h7]; rfl)
          rw [e] at hj
          exact hj
      refine xg_istore C dL_areMembers_118 (by decide) (L' := [some (.ref (G.2.2 0 0)), some (.ref (G.2.2 35 0)), some (.int x.1), some (.int y.2.2.2), some (.int x.2.2), some (.int (nI i)), some (.int (y.1 + (jL_areMembers_62 (jL_areMembers_41 S (nI j)) S (nI j) (nI i)))), some (.int (jL_areMembers_92 y.2.1 S (nI j) (nI i))), some (.int y.2.2.1), some (.int (nI j)), some (.int (jL_areMembers_41 S (nI j)))]) rfl ?_
      suffices hj : xg F 0 0 146 [some (.ref (G.2.2 0 0)), some (.ref (G.2.2 35 0)), some (.int x.1), some (.int y.2.2.2), some (.int x.2.2), some (.int (nI i)), some (.int (y.1 + (jL_areMembers_62 (jL_areMembers_41 S (nI j)) S (nI j) (nI i)))), some (.int (jL_areMembers_92 y.2.1 S (nI j) (nI i))), some (.int y.2.2.1), some (.int (nI j)), some (.int (jL_areMembers_41 S (nI j)))] [.int (jL_areMembers_120 (jL_areMembers_41 S (nI j)) y.2.2.1 S (nI j) (nI i))] (xP xYc G S) by
        refine xg_iload C dL_areMembers_120 rfl ?_
        refine xg_if_ne C 141 dL_areMembers_122 (by decide) (fun h8 => ?_) (fun h8 => ?_)
        · refine xg_iconst C dL_areMembers_141 (v := (1 : Int32)) (by decide) ?_
          refine xg_goto C 146 dL_areMembers_142 (by decide) ?_
          have e : (jL_areMembers_120 (jL_areMembers_41 S (nI j)) y.2.2.1 S (nI j) (nI i)) = (1 : Int32) := by first | (rw [jL_areMembers_120, if_neg h8]; done) | (rw [jL_areMembers_120, if_neg h8]; rfl)
          rw [e] at hj
          exact hj
        · refine xg_iload C dL_areMembers_125 rfl ?_
          refine xg_if_eq C 145 dL_areMembers_127 (by decide) (fun h9 => ?_) (fun h9 => ?_)
          · refine xg_iconst C dL_areMembers_145 (v := (0 : Int32)) (by decide) ?_
            have e : (jL_areMembers_120 (jL_areMembers_41 S (nI j)) y.2.2.1 S (nI j) (nI i)) = (0 : Int32) := by first | (rw [jL_areMembers_120, if_pos h8, if_pos h9]; done) | (rw [jL_areMembers_120, if_pos h8, if_pos h9]; rfl)
            rw [e] at hj
            exact hj
          · refine xg_aload_n C dL_areMembers_130 rfl ?_
            refine xg_iload C dL_areMembers_131 rfl ?_
            refine xg_iload C dL_areMembers_133 rfl ?_
            refine xg_callVi C V (f := 0) (As := [.int (nI j), .int (nI i)]) (r := (fX3_status (nI j) (nI i) S)) (fun l => kX3_status l hap (nI j) (nI i) S (by assumption) (by assumption)) gL_areMembers_X3_status rfl hdX3_status ⟨by decide, by decide⟩ rfl rfl rfl rfl rfl (Nat.le_of_ble_eq_true rfl) ⟨Nat.zero_le _, Nat.zero_le _⟩ dL_areMembers_135 ?_
            refine xg_if_ne C 145 dL_areMembers_138 (by decide) (fun h10 => ?_) (fun h10 => ?_)
            · refine xg_iconst C dL_areMembers_145 (v := (0 : Int32)) (by decide) ?_
              have e : (jL_areMembers_120 (jL_areMembers_41 S (nI j)) y.2.2.1 S (nI j) (nI i)) = (0 : Int32) := by first | (rw [jL_areMembers_120, if_pos h8, if_neg h9, if_neg h10]; done) | (rw [jL_areMembers_120, if_pos h8, if_neg h9, if_neg h10]; rfl)
              rw [e] at hj
              exact hj
            · refine xg_iconst C dL_areMembers_141 (v := (1 : Int32)) (by decide) ?_
              refine xg_goto C 146 dL_areMembers_142 (by decide) ?_
              have e : (jL_areMembers_120 (jL_areMembers_41 S (nI j)) y.2.2.1 S (nI j) (nI i)) = (1 : Int32) := by first | (rw [jL_areMembers_120, if_pos h8, if_neg h9, if_pos h10]; done) | (rw [jL_areMembers_120, if_pos h8, if_neg h9, if_pos h10]; rfl)
              rw [e] at hj
              exact hj
      refine xg_istore C dL_areMembers_146 (by decide) (L' := [some (.ref (G.2.2 0 0)), some (.ref (G.2.2 35 0)), some (.int x.1), some (.int y.2.2.2), some (.int x.2.2), some (.int (nI i)), some (.int (y.1 + (jL_areMembers_62 (jL_areMembers_41 S (nI j)) S (nI j) (nI i)))), some (.int (jL_areMembers_92 y.2.1 S (nI j) (nI i))), some (.int (jL_areMembers_120 (jL_areMembers_41 S (nI j)) y.2.2.1 S (nI j) (nI i))), some (.int (nI j)), some (.int (jL_areMembers_41 S (nI j)))]) rfl ?_
      refine xg_iload_n C dL_areMembers_148 rfl ?_
      suffices hj : xg F 0 0 183 [some (.ref (G.2.2 0 0)), some (.ref (G.2.2 35 0)), some (.int x.1), some (.int y.2.2.2), some (.int x.2.2), some (.int (nI i)), some (.int (y.1 + (jL_areMembers_62 (jL_areMembers_41 S (nI j)) S (nI j) (nI i)))), some (.int (jL_areMembers_92 y.2.1 S (nI j) (nI i))), some (.int (jL_areMembers_120 (jL_areMembers_41 S (nI j)) y.2.2.1 S (nI j) (nI i))), some (.int (nI j)), some (.int (jL_areMembers_41 S (nI j)))] [.int (jL_areMembers_149 (jL_areMembers_41 S (nI j)) S (nI j) (nI i)), .int y.2.2.2] (xP xYc G S) by
        refine xg_iload C dL_areMembers_149 rfl ?_
        refine xg_if_eq C 182 dL_areMembers_151 (by decide) (fun h11 => ?_) (fun h11 => ?_)
        · refine xg_iconst C dL_areMembers_182 (v := (0 : Int32)) (by decide) ?_
          have e : (jL_areMembers_149 (jL_areMembers_41 S (nI j)) S (nI j) (nI i)) = (0 : Int32) := by first | (rw [jL_areMembers_149, if_pos h11]; done) | (rw [jL_areMembers_149, if_pos h11]; rfl)
          rw [e] at hj
          exact hj
        · refine xg_aload_n C dL_areMembers_154 rfl ?_
          refine xg_bipush C dL_areMembers_155 (v := (8 : Int32)) (by decide) ?_
          refine xg_iload C dL_areMembers_157 rfl ?_
          refine xg_imul C dL_areMembers_159 ?_
          refine xg_iconst C dL_areMembers_160 (v := (1 : Int32)) (by decide) ?_
          refine xg_iadd C dL_areMembers_161 ?_
          refine xg_iald C V (f := 35) (n := 1) (N := 64) rfl (by decide) (xR_0 (by decide)) (xin_8k (by assumption) (vp_in_iff.mpr ⟨by decide, by decide⟩)) dL_areMembers_162 (v := (S 35 0 (((8 : Int32) * (nI i)) + (1 : Int32)))) rfl ?_
          refine xg_if_ne C 182 dL_areMembers_163 (by decide) (fun h12 => ?_) (fun h12 => ?_)
          · refine xg_iconst C dL_areMembers_182 (v := (0 : Int32)) (by decide) ?_
            have e : (jL_areMembers_149 (jL_areMembers_41 S (nI j)) S (nI j) (nI i)) = (0 : Int32) := by first | (rw [jL_areMembers_149, if_neg h11, if_neg h12]; done) | (rw [jL_areMembers_149, if_neg h11, if_neg h12]; rfl)
            rw [e] at hj
            exact hj
          · refine xg_aload_n C dL_areMembers_166 rfl ?_
            refine xg_iload C dL_areMembers_167 rfl ?_
            refine xg_iload C dL_areMembers_169 rfl ?_
            refine xg_callVi C V (f := 0) (As := [.int (nI j), .int (nI i)]) (r := (fX3_status (nI j) (nI i) S)) (fun l => kX3_status l hap (nI j) (nI i) S (by assumption) (by assumption)) gL_areMembers_X3_status rfl hdX3_status ⟨by decide, by decide⟩ rfl rfl rfl rfl rfl (Nat.le_of_ble_eq_true rfl) ⟨Nat.zero_le _, Nat.zero_le _⟩ dL_areMembers_171 ?_
            refine xg_iconst C dL_areMembers_174 (v := (2 : Int32)) (by decide) ?_
            refine xg_icmp_ne C 182 dL_areMembers_175 (by decide) (fun h13 => ?_) (fun h13 => ?_)
            · refine xg_iconst C dL_areMembers_182 (v := (0 : Int32)) (by decide) ?_
              have e : (jL_areMembers_149 (jL_areMembers_41 S (nI j)) S (nI j) (nI i)) = (0 : Int32) := by first | (rw [jL_areMembers_149, if_neg h11, if_pos h12, if_neg h13]; done) | (rw [jL_areMembers_149, if_neg h11, if_pos h12, if_neg h13]; rfl)
              rw [e] at hj
              exact hj
            · refine xg_iconst C dL_areMembers_178 (v := (1 : Int32)) (by decide) ?_
              refine xg_goto C 183 dL_areMembers_179 (by decide) ?_
              have e : (jL_areMembers_149 (jL_areMembers_41 S (nI j)) S (nI j) (nI i)) = (1 : Int32) := by first | (rw [jL_areMembers_149, if_neg h11, if_pos h12, if_pos h13]; done) | (rw [jL_areMembers_149, if_neg h11, if_pos h12, if_pos h13]; rfl)
              rw [e] at hj
              exact hj
      refine xg_iadd C dL_areMembers_183 ?_
      refine xg_istore_n C dL_areMembers_184 (by decide) (L' := [some (.ref (G.2.2 0 0)), some (.ref (G.2.2 35 0)), some (.int x.1), some (.int (y.2.2.2 + (jL_areMembers_149 (jL_areMembers_41 S (nI j)) S (nI j) (nI i)))), some (.int x.2.2), some (.int (nI i)), some (.int (y.1 + (jL_areMembers_62 (jL_areMembers_41 S (nI j)) S (nI j) (nI i)))), some (.int (jL_areMembers_92 y.2.1 S (nI j) (nI i))), some (.int (jL_areMembers_120 (jL_areMembers_41 S (nI j)) y.2.2.1 S (nI j) (nI i))), some (.int (nI j)), some (.int (jL_areMembers_41 S (nI j)))]) rfl ?_
      refine xg_iinc C dL_areMembers_185 rfl (v := (nI (j + 1))) (xinc j) (by decide) (L' := [some (.ref (G.2.2 0 0)), some (.ref (G.2.2 35 0)), some (.int x.1), some (.int (y.2.2.2 + (jL_areMembers_149 (jL_areMembers_41 S (nI j)) S (nI j) (nI i)))), some (.int x.2.2), some (.int (nI i)), some (.int (y.1 + (jL_areMembers_62 (jL_areMembers_41 S (nI j)) S (nI j) (nI i)))), some (.int (jL_areMembers_92 y.2.1 S (nI j) (nI i))), some (.int (jL_areMembers_120 (jL_areMembers_41 S (nI j)) y.2.2.1 S (nI j) (nI i))), some (.int (nI (j + 1))), some (.int (jL_areMembers_41 S (nI j)))]) rfl ?_
      refine xg_goto C 34 dL_areMembers_188 (by decide) ?_
      have e : (bL_areMembers_34 (nI i) S) (nI j) y = ((y.1 + (jL_areMembers_62 (jL_areMembers_41 S (nI j)) S (nI j) (nI i))), (jL_areMembers_92 y.2.1 S (nI j) (nI i)), (jL_areMembers_120 (jL_areMembers_41 S (nI j)) y.2.2.1 S (nI j) (nI i)), (y.2.2.2 + (jL_areMembers_149 (jL_areMembers_41 S (nI j)) S (nI j) (nI i)))) := rfl
      rw [e] at K
      try dsimp only at K
      exact xg_le K ⟨rfl, rfl, rfl, rfl, rfl, rfl, rfl, rfl, rfl, rfl, trivial⟩
    · show xg F 0 0 34 [some (.ref (G.2.2 0 0)), some (.ref (G.2.2 35 0)), some (.int x.1), some (.int (xfold (bL_areMembers_34 (nI i) S) 8 ((0 : Int32), (0 : Int32), (0 : Int32), x.2.1)).2.2.2), some (.int x.2.2), some (.int (nI i)), some (.int (xfold (bL_areMembers_34 (nI i) S) 8 ((0 : Int32), (0 : Int32), (0 : Int32), x.2.1)).1), some (.int (xfold (bL_areMembers_34 (nI i) S) 8 ((0 : Int32), (0 : Int32), (0 : Int32), x.2.1)).2.1), some (.int (xfold (bL_areMembers_34 (nI i) S) 8 ((0 : Int32), (0 : Int32), (0 : Int32), x.2.1)).2.2.1), some (.int (nI 8)), none] [] (xP xYc G S)
      have hJ2 : vp_in ((xfold (bL_areMembers_34 (nI i) S) 8 ((0 : Int32), (0 : Int32), (0 : Int32), x.2.1))).2.1 8 := hJ
      refine xg_iload C dL_areMembers_34 rfl ?_
      refine xg_bipush C dL_areMembers_36 (v := (8 : Int32)) (by decide) ?_
      refine xg_icmp_ge C 191 dL_areMembers_38 (by decide) (fun h14 => ?_) (fun h14 => absurd (nI_le (Nat.le_refl _) (by decide)) h14)
      refine xg_iload_n C dL_areMembers_191 rfl ?_
      suffices hj : xg F 0 0 215 [some (.ref (G.2.2 0 0)), some (.ref (G.2.2 35 0)), some (.int x.1), some (.int (xfold (bL_areMembers_34 (nI i) S) 8 ((0 : Int32), (0 : Int32), (0 : Int32), x.2.1)).2.2.2), some (.int x.2.2), some (.int (nI i)), some (.int (xfold (bL_areMembers_34 (nI i) S) 8 ((0 : Int32), (0 : Int32), (0 : Int32), x.2.1)).1), some (.int (xfold (bL_areMembers_34 (nI i) S) 8 ((0 : Int32), (0 : Int32), (0 : Int32), x.2.1)).2.1), some (.int (xfold (bL_areMembers_34 (nI i) S) 8 ((0 : Int32), (0 : Int32), (0 : Int32), x.2.1)).2.2.1), some (.int (nI 8)), none] [.int (jL_areMembers_192 (xfold (bL_areMembers_34 (nI i) S) 8 ((0 : Int32), (0 : Int32), (0 : Int32), x.2.1)).2.2.1 S (nI i)), .int x.1] (xP xYc G S) by
        refine xg_iload C dL_areMembers_192 rfl ?_
        refine xg_if_eq C 214 dL_areMembers_194 (by decide) (fun h15 => ?_) (fun h15 => ?_)
        · refine xg_iconst C dL_areMembers_214 (v := (0 : Int32)) (by decide) ?_
          have e : (jL_areMembers_192 (xfold (bL_areMembers_34 (nI i) S) 8 ((0 : Int32), (0 : Int32), (0 : Int32), x.2.1)).2.2.1 S (nI i)) = (0 : Int32) := by first | (rw [jL_areMembers_192, if_pos h15]; done) | (rw [jL_areMembers_192, if_pos h15]; rfl)
          rw [e] at hj
          exact hj
        · refine xg_aload_n C dL_areMembers_197 rfl ?_
          refine xg_bipush C dL_areMembers_198 (v := (8 : Int32)) (by decide) ?_
          refine xg_iload C dL_areMembers_200 rfl ?_
          refine xg_imul C dL_areMembers_202 ?_
          refine xg_iconst C dL_areMembers_203 (v := (1 : Int32)) (by decide) ?_
          refine xg_iadd C dL_areMembers_204 ?_
          refine xg_iald C V (f := 35) (n := 1) (N := 64) rfl (by decide) (xR_0 (by decide)) (xin_8k (by assumption) (vp_in_iff.mpr ⟨by decide, by decide⟩)) dL_areMembers_205 (v := (S 35 0 (((8 : Int32) * (nI i)) + (1 : Int32)))) rfl ?_
          refine xg_iconst C dL_areMembers_206 (v := (1 : Int32)) (by decide) ?_
          refine xg_icmp_ne C 214 dL_areMembers_207 (by decide) (fun h16 => ?_) (fun h16 => ?_)
          · refine xg_iconst C dL_areMembers_214 (v := (0 : Int32)) (by decide) ?_
            have e : (jL_areMembers_192 (xfold (bL_areMembers_34 (nI i) S) 8 ((0 : Int32), (0 : Int32), (0 : Int32), x.2.1)).2.2.1 S (nI i)) = (0 : Int32) := by first | (rw [jL_areMembers_192, if_neg h15, if_neg h16]; done) | (rw [jL_areMembers_192, if_neg h15, if_neg h16]; rfl)
            rw [e] at hj
            exact hj
          · refine xg_iconst C dL_areMembers_210 (v := (1 : Int32)) (by decide) ?_
            refine xg_goto C 215 dL_areMembers_211 (by decide) ?_
            have e : (jL_areMembers_192 (xfold (bL_areMembers_34 (nI i) S) 8 ((0 : Int32), (0 : Int32), (0 : Int32), x.2.1)).2.2.1 S (nI i)) = (1 : Int32) := by first | (rw [jL_areMembers_192, if_neg h15, if_pos h16]; done) | (rw [jL_areMembers_192, if_neg h15, if_pos h16]; rfl)
            rw [e] at hj
            exact hj
      refine xg_iadd C dL_areMembers_215 ?_
      refine xg_istore_n C dL_areMembers_216 (by decide) (L' := [some (.ref (G.2.2 0 0)), some (.ref (G.2.2 35 0)), some (.int (x.1 + (jL_areMembers_192 (xfold (bL_areMembers_34 (nI i) S) 8 ((0 : Int32), (0 : Int32), (0 : Int32), x.2.1)).2.2.1 S (nI i)))), some (.int (xfold (bL_areMembers_34 (nI i) S) 8 ((0 : Int32), (0 : Int32), (0 : Int32), x.2.1)).2.2.2), some (.int x.2.2), some (.int (nI i)), some (.int (xfold (bL_areMembers_34 (nI i) S) 8 ((0 : Int32), (0 : Int32), (0 : Int32), x.2.1)).1), some (.int (xfold (bL_areMembers_34 (nI i) S) 8 ((0 : Int32), (0 : Int32), (0 : Int32), x.2.1)).2.1), some (.int (xfold (bL_areMembers_34 (nI i) S) 8 ((0 : Int32), (0 : Int32), (0 : Int32), x.2.1)).2.2.1), some (.int (nI 8)), none]) rfl ?_
      refine xg_aload_n C dL_areMembers_217 rfl ?_
      refine xg_iload C dL_areMembers_218 rfl ?_
      refine xg_callVi C V (f := 0) (As := [.int (nI i)]) (r := (fX3_partner (nI i) S)) (fun l => kX3_partner l hap (nI i) S (by assumption)) gL_areMembers_X3_partner rfl hdX3_partner ⟨by decide, by decide⟩ rfl rfl rfl rfl rfl (Nat.le_of_ble_eq_true rfl) ⟨Nat.zero_le _, Nat.zero_le _⟩ dL_areMembers_220 ?_
      refine xg_istore C dL_areMembers_223 (by decide) (L' := [some (.ref (G.2.2 0 0)), some (.ref (G.2.2 35 0)), some (.int (x.1 + (jL_areMembers_192 (xfold (bL_areMembers_34 (nI i) S) 8 ((0 : Int32), (0 : Int32), (0 : Int32), x.2.1)).2.2.1 S (nI i)))), some (.int (xfold (bL_areMembers_34 (nI i) S) 8 ((0 : Int32), (0 : Int32), (0 : Int32), x.2.1)).2.2.2), some (.int x.2.2), some (.int (nI i)), some (.int (xfold (bL_areMembers_34 (nI i) S) 8 ((0 : Int32), (0 : Int32), (0 : Int32), x.2.1)).1), some (.int (xfold (bL_areMembers_34 (nI i) S) 8 ((0 : Int32), (0 : Int32), (0 : Int32), x.2.1)).2.1), some (.int (xfold (bL_areMembers_34 (nI i) S) 8 ((0 : Int32), (0 : Int32), (0 : Int32), x.2.1)).2.2.1), some (.int (fX3_partner (nI i) S)), none]) rfl ?_
      suffices hj : xg F 0 0 327 [some (.ref (G.2.2 0 0)), some (.ref (G.2.2 35 0)), some (.int (x.1 + (jL_areMembers_192 (xfold (bL_areMembers_34 (nI i) S) 8 ((0 : Int32), (0 : Int32), (0 : Int32), x.2.1)).2.2.1 S (nI i)))), some (.int (xfold (bL_areMembers_34 (nI i) S) 8 ((0 : Int32), (0 : Int32), (0 : Int32), x.2.1)).2.2.2), some (.int x.2.2), some (.int (nI i)), some (.int (xfold (bL_areMembers_34 (nI i) S) 8 ((0 : Int32), (0 : Int32), (0 : Int32), x.2.1)).1), some (.int (xfold (bL_areMembers_34 (nI i) S) 8 ((0 : Int32), (0 : Int32), (0 : Int32), x.2.1)).2.1), some (.int (xfold (bL_areMembers_34 (nI i) S) 8 ((0 : Int32), (0 : Int32), (0 : Int32), x.2.1)).2.2.1), some (.int (fX3_partner (nI i) S)), none] [.int (jL_areMembers_225 (xfold (bL_areMembers_34 (nI i) S) 8 ((0 : Int32), (0 : Int32), (0 : Int32), x.2.1)).1 (xfold (bL_areMembers_34 (nI i) S) 8 ((0 : Int32), (0 : Int32), (0 : Int32), x.2.1)).2.1 (fX3_partner (nI i) S) S (nI i))] (xP xYc G S) by
        refine xg_aload_n C dL_areMembers_225 rfl ?_
        refine xg_iload C dL_areMembers_226 rfl ?_
        refine xg_callVi C V (f := 0) (As := [.int (nI i)]) (r := (fX3_agree (nI i) S)) (fun l => kX3_agree l hap (nI i) S (by assumption)) gL_areMembers_X3_agree rfl hdX3_agree ⟨by decide, by decide⟩ rfl rfl rfl rfl rfl (Nat.le_of_ble_eq_true rfl) ⟨Nat.zero_le _, Nat.zero_le _⟩ dL_areMembers_228 ?_
        refine xg_iload C dL_areMembers_231 rfl ?_
        refine xg_icmp_ne C 326 dL_areMembers_233 (by decide) (fun h17 => ?_) (fun h17 => ?_)
        · refine xg_iconst C dL_areMembers_326 (v := (0 : Int32)) (by decide) ?_
          have e : (jL_areMembers_225 (xfold (bL_areMembers_34 (nI i) S) 8 ((0 : Int32), (0 : Int32), (0 : Int32), x.2.1)).1 (xfold (bL_areMembers_34 (nI i) S) 8 ((0 : Int32), (0 : Int32), (0 : Int32), x.2.1)).2.1 (fX3_partner (nI i) S) S (nI i)) = (0 : Int32) := by first | (rw [jL_areMembers_225, if_neg h17]; done) | (rw [jL_areMembers_225, if_neg h17]; rfl)
          rw [e] at hj
          exact hj
        · refine xg_aload_n C dL_areMembers_236 rfl ?_
          refine xg_iload C dL_areMembers_237 rfl ?_
          refine xg_callVi C V (f := 0) (As := [.int (nI i)]) (r := (fX3_freshest (nI i) S)) (fun l => kX3_freshest l hap (nI i) S (by assumption)) gL_areMembers_X3_freshest rfl hdX3_freshest ⟨by decide, by decide⟩ rfl rfl rfl rfl rfl (Nat.le_of_ble_eq_true rfl) ⟨Nat.zero_le _, Nat.zero_le _⟩ dL_areMembers_239 ?_
          refine xg_aload_n C dL_areMembers_242 rfl ?_
          refine xg_iload C dL_areMembers_243 rfl ?_
          refine xg_iload C dL_areMembers_245 rfl ?_
          refine xg_callVi C V (f := 0) (As := [.int (xfold (bL_areMembers_34 (nI i) S) 8 ((0 : Int32), (0 : Int32), (0 : Int32), x.2.1)).2.1, .int (nI i)]) (r := (fX3_version (xfold (bL_areMembers_34 (nI i) S) 8 ((0 : Int32), (0 : Int32), (0 : Int32), x.2.1)).2.1 (nI i) S)) (fun l => kX3_version l hap (xfold (bL_areMembers_34 (nI i) S) 8 ((0 : Int32), (0 : Int32), (0 : Int32), x.2.1)).2.1 (nI i) S (by assumption) (by assumption)) gL_areMembers_X3_version rfl hdX3_version ⟨by decide, by decide⟩ rfl rfl rfl rfl rfl (Nat.le_of_ble_eq_true rfl) ⟨Nat.zero_le _, Nat.zero_le _⟩ dL_areMembers_247 ?_
          refine xg_if_le C 258 dL_areMembers_250 (by decide) (fun h18 => ?_) (fun h18 => ?_)
          · refine xg_iconst C dL_areMembers_258 (v := (-1 : Int32)) (by decide) ?_
            refine xg_icmp_ne C 326 dL_areMembers_259 (by decide) (fun h19 => ?_) (fun h19 => ?_)
            · refine xg_iconst C dL_areMembers_326 (v := (0 : Int32)) (by decide) ?_
              have e : (jL_areMembers_225 (xfold (bL_areMembers_34 (nI i) S) 8 ((0 : Int32), (0 : Int32), (0 : Int32), x.2.1)).1 (xfold (bL_areMembers_34 (nI i) S) 8 ((0 : Int32), (0 : Int32), (0 : Int32), x.2.1)).2.1 (fX3_partner (nI i) S) S (nI i)) = (0 : Int32) := by first | (rw [jL_areMembers_225, if_pos h17, if_pos h18, if_neg h19]; done) | (rw [jL_areMembers_225, if_pos h17, if_pos h18, if_neg h19]; rfl)
              rw [e] at hj
              exact hj
            · refine xg_iload C dL_areMembers_262 rfl ?_
              refine xg_iconst C dL_areMembers_264 (v := (-1 : Int32)) (by decide) ?_
              refine xg_icmp_lt C 326 dL_areMembers_265 (by decide) (fun h20 => ?_) (fun h20 => ?_)
              · refine xg_iconst C dL_areMembers_326 (v := (0 : Int32)) (by decide) ?_
                have e : (jL_areMembers_225 (xfold (bL_areMembers_34 (nI i) S) 8 ((0 : Int32), (0 : Int32), (0 : Int32), x.2.1)).1 (xfold (bL_areMembers_34 (nI i) S) 8 ((0 : Int32), (0 : Int32), (0 : Int32), x.2.1)).2.1 (fX3_partner (nI i) S) S (nI i)) = (0 : Int32) := by first | (rw [jL_areMembers_225, if_pos h17, if_pos h18, if_pos h19, if_pos h20]; done) | (rw [jL_areMembers_225, if_pos h17, if_pos h18, if_pos h19, if_pos h20]; rfl)
                rw [e] at hj
                exact hj
              · refine xg_iload C dL_areMembers_268 rfl ?_
                refine xg_bipush C dL_areMembers_270 (v := (8 : Int32)) (by decide) ?_
                refine xg_icmp_ge C 326 dL_areMembers_272 (by decide) (fun h21 => ?_) (fun h21 => ?_)
                · refine xg_iconst C dL_areMembers_326 (v := (0 : Int32)) (by decide) ?_
                  have e : (jL_areMembers_225 (xfold (bL_areMembers_34 (nI i) S) 8 ((0 : Int32), (0 : Int32), (0 : Int32), x.2.1)).1 (xfold (bL_areMembers_34 (nI i) S) 8 ((0 : Int32), (0 : Int32), (0 : Int32), x.2.1)).2.1 (fX3_partner (nI i) S) S (nI i)) = (0 : Int32) := by first | (rw [jL_areMembers_225, if_pos h17, if_pos h18, if_pos h19, if_neg h20, if_pos h21]; done) | (rw [jL_areMembers_225, if_pos h17, if_pos h18, if_pos h19, if_neg h20, if_pos h21]; rfl)
                  rw [e] at hj
                  exact hj
                · refine xg_iload C dL_areMembers_275 rfl ?_
                  refine xg_iload C dL_areMembers_277 rfl ?_
                  refine xg_icmp_eq C 326 dL_areMembers_279 (by decide) (fun h22 => ?_) (fun h22 => ?_)
                  · refine xg_iconst C dL_areMembers_326 (v := (0 : Int32)) (by decide) ?_
                    have e : (jL_areMembers_225 (xfold (bL_areMembers_34 (nI i) S) 8 ((0 : Int32), (0 : Int32), (0 : Int32), x.2.1)).1 (xfold (bL_areMembers_34 (nI i) S) 8 ((0 : Int32), (0 : Int32), (0 : Int32), x.2.1)).2.1 (fX3_partner (nI i) S) S (nI i)) = (0 : Int32) := by first | (rw [jL_areMembers_225, if_pos h17, if_pos h18, if_pos h19, if_neg h20, if_neg h21, if_pos h22]; done) | (rw [jL_areMembers_225, if_pos h17, if_pos h18, if_pos h19, if_neg h20, if_neg h21, if_pos h22]; rfl)
                    rw [e] at hj
                    exact hj
                  · refine xg_iload C dL_areMembers_282 rfl ?_
                    refine xg_if_lt C 322 dL_areMembers_284 (by decide) (fun h23 => ?_) (fun h23 => ?_)
                    · refine xg_iconst C dL_areMembers_322 (v := (1 : Int32)) (by decide) ?_
                      refine xg_goto C 327 dL_areMembers_323 (by decide) ?_
                      have e : (jL_areMembers_225 (xfold (bL_areMembers_34 (nI i) S) 8 ((0 : Int32), (0 : Int32), (0 : Int32), x.2.1)).1 (xfold (bL_areMembers_34 (nI i) S) 8 ((0 : Int32), (0 : Int32), (0 : Int32), x.2.1)).2.1 (fX3_partner (nI i) S) S (nI i)) = (1 : Int32) := by first | (rw [jL_areMembers_225, if_pos h17, if_pos h18, if_pos h19, if_neg h20, if_neg h21, if_neg h22, if_pos h23]; done) | (rw [jL_areMembers_225, if_pos h17, if_pos h18, if_pos h19, if_neg h20, if_neg h21, if_neg h22, if_pos h23]; rfl)
                      rw [e] at hj
                      exact hj
                    · refine xg_aload_n C dL_areMembers_287 rfl ?_
                      refine xg_bipush C dL_areMembers_288 (v := (8 : Int32)) (by decide) ?_
                      refine xg_iload C dL_areMembers_290 rfl ?_
                      refine xg_imul C dL_areMembers_292 ?_
                      refine xg_iconst C dL_areMembers_293 (v := (1 : Int32)) (by decide) ?_
                      refine xg_iadd C dL_areMembers_294 ?_
                      refine xg_iald C V (f := 35) (n := 1) (N := 64) rfl (by decide) (xR_0 (by decide)) (xin_8k (by assumption) (vp_in_iff.mpr ⟨by decide, by decide⟩)) dL_areMembers_295 (v := (S 35 0 (((8 : Int32) * (nI i)) + (1 : Int32)))) rfl ?_
                      refine xg_if_ne C 326 dL_areMembers_296 (by decide) (fun h24 => ?_) (fun h24 => ?_)
                      · refine xg_iconst C dL_areMembers_326 (v := (0 : Int32)) (by decide) ?_
                        have e : (jL_areMembers_225 (xfold (bL_areMembers_34 (nI i) S) 8 ((0 : Int32), (0 : Int32), (0 : Int32), x.2.1)).1 (xfold (bL_areMembers_34 (nI i) S) 8 ((0 : Int32), (0 : Int32), (0 : Int32), x.2.1)).2.1 (fX3_partner (nI i) S) S (nI i)) = (0 : Int32) := by first | (rw [jL_areMembers_225, if_pos h17, if_pos h18, if_pos h19, if_neg h20, if_neg h21, if_neg h22, if_neg h23, if_neg h24]; done) | (rw [jL_areMembers_225, if_pos h17, if_pos h18, if_pos h19, if_neg h20, if_neg h21, if_neg h22, if_neg h23, if_neg h24]; rfl)
                        rw [e] at hj
                        exact hj
                      · refine xg_aload_n C dL_areMembers_299 rfl ?_
                        refine xg_callVi C V (f := 0) (As := []) (r := (fX3_time S)) (fun l => kX3_time l hap  S) gL_areMembers_X3_time rfl hdX3_time ⟨by decide, by decide⟩ rfl rfl rfl rfl rfl (Nat.le_of_ble_eq_true rfl) ⟨Nat.zero_le _, Nat.zero_le _⟩ dL_areMembers_300 ?_
                        refine xg_iconst C dL_areMembers_303 (v := (1 : Int32)) (by decide) ?_
                        refine xg_iadd C dL_areMembers_304 ?_
                        refine xg_iconst C dL_areMembers_305 (v := (4 : Int32)) (by decide) ?_
                        refine xg_irem C dL_areMembers_306 (by decide) ?_
                        refine xg_if_eq C 322 dL_areMembers_307 (by decide) (fun h25 => ?_) (fun h25 => ?_)
                        · refine xg_iconst C dL_areMembers_322 (v := (1 : Int32)) (by decide) ?_
                          refine xg_goto C 327 dL_areMembers_323 (by decide) ?_
                          have e : (jL_areMembers_225 (xfold (bL_areMembers_34 (nI i) S) 8 ((0 : Int32), (0 : Int32), (0 : Int32), x.2.1)).1 (xfold (bL_areMembers_34 (nI i) S) 8 ((0 : Int32), (0 : Int32), (0 : Int32), x.2.1)).2.1 (fX3_partner (nI i) S) S (nI i)) = (1 : Int32) := by first | (rw [jL_areMembers_225, if_pos h17, if_pos h18, if_pos h19, if_neg h20, if_neg h21, if_neg h22, if_neg h23, if_pos h24, if_pos h25]; done) | (rw [jL_areMembers_225, if_pos h17, if_pos h18, if_pos h19, if_neg h20, if_neg h21, if_neg h22, if_neg h23, if_pos h24, if_pos h25]; rfl)
                          rw [e] at hj
                          exact hj
                        · refine xg_aload_n C dL_areMembers_310 rfl ?_
                          refine xg_iload C dL_areMembers_311 rfl ?_
                          refine xg_iload C dL_areMembers_313 rfl ?_
                          refine xg_callVi C V (f := 0) (As := [.int (nI i), .int (fX3_partner (nI i) S)]) (r := (fX3_status (nI i) (fX3_partner (nI i) S) S)) (fun l => kX3_status l hap (nI i) (fX3_partner (nI i) S) S (by assumption) (xin_nn (by assumption) (by assumption))) gL_areMembers_X3_status rfl hdX3_status ⟨by decide, by decide⟩ rfl rfl rfl rfl rfl (Nat.le_of_ble_eq_true rfl) ⟨Nat.zero_le _, Nat.zero_le _⟩ dL_areMembers_315 ?_
                          refine xg_iconst C dL_areMembers_318 (v := (2 : Int32)) (by decide) ?_
                          refine xg_icmp_ge C 326 dL_areMembers_319 (by decide) (fun h26 => ?_) (fun h26 => ?_)
                          · refine xg_iconst C dL_areMembers_326 (v := (0 : Int32)) (by decide) ?_
                            have e : (jL_areMembers_225 (xfold (bL_areMembers_34 (nI i) S) 8 ((0 : Int32), (0 : Int32), (0 : Int32), x.2.1)).1 (xfold (bL_areMembers_34 (nI i) S) 8 ((0 : Int32), (0 : Int32), (0 : Int32), x.2.1)).2.1 (fX3_partner (nI i) S) S (nI i)) = (0 : Int32) := by first | (rw [jL_areMembers_225, if_pos h17, if_pos h18, if_pos h19, if_neg h20, if_neg h21, if_neg h22, if_neg h23, if_pos h24, if_neg h25, if_pos h26]; done) | (rw [jL_areMembers_225, if_pos h17, if_pos h18, if_pos h19, if_neg h20, if_neg h21, if_neg h22, if_neg h23, if_pos h24, if_neg h25, if_pos h26]; rfl)
                            rw [e] at hj
                            exact hj
                          · refine xg_iconst C dL_areMembers_322 (v := (1 : Int32)) (by decide) ?_
                            refine xg_goto C 327 dL_areMembers_323 (by decide) ?_
                            have e : (jL_areMembers_225 (xfold (bL_areMembers_34 (nI i) S) 8 ((0 : Int32), (0 : Int32), (0 : Int32), x.2.1)).1 (xfold (bL_areMembers_34 (nI i) S) 8 ((0 : Int32), (0 : Int32), (0 : Int32), x.2.1)).2.1 (fX3_partner (nI i) S) S (nI i)) = (1 : Int32) := by first | (rw [jL_areMembers_225, if_pos h17, if_pos h18, if_pos h19, if_neg h20, if_neg h21, if_neg h22, if_neg h23, if_pos h24, if_neg h25, if_neg h26]; done) | (rw [jL_areMembers_225, if_pos h17, if_pos h18, if_pos h19, if_neg h20, if_neg h21, if_neg h22, if_neg h23, if_pos h24, if_neg h25, if_neg h26]; rfl)
                            rw [e] at hj
                            exact hj
          · refine xg_iload C dL_areMembers_253 rfl ?_
            refine xg_goto C 259 dL_areMembers_255 (by decide) ?_
            refine xg_icmp_ne C 326 dL_areMembers_259 (by decide) (fun h27 => ?_) (fun h27 => ?_)
            · refine xg_iconst C dL_areMembers_326 (v := (0 : Int32)) (by decide) ?_
              have e : (jL_areMembers_225 (xfold (bL_areMembers_34 (nI i) S) 8 ((0 : Int32), (0 : Int32), (0 : Int32), x.2.1)).1 (xfold (bL_areMembers_34 (nI i) S) 8 ((0 : Int32), (0 : Int32), (0 : Int32), x.2.1)).2.1 (fX3_partner (nI i) S) S (nI i)) = (0 : Int32) := by first | (rw [jL_areMembers_225, if_pos h17, if_neg h18, if_neg h27]; done) | (rw [jL_areMembers_225, if_pos h17, if_neg h18, if_neg h27]; rfl)
              rw [e] at hj
              exact hj
            · refine xg_iload C dL_areMembers_262 rfl ?_
              refine xg_iconst C dL_areMembers_264 (v := (-1 : Int32)) (by decide) ?_
              refine xg_icmp_lt C 326 dL_areMembers_265 (by decide) (fun h28 => ?_) (fun h28 => ?_)
              · refine xg_iconst C dL_areMembers_326 (v := (0 : Int32)) (by decide) ?_
                have e : (jL_areMembers_225 (xfold (bL_areMembers_34 (nI i) S) 8 ((0 : Int32), (0 : Int32), (0 : Int32), x.2.1)).1 (xfold (bL_areMembers_34 (nI i) S) 8 ((0 : Int32), (0 : Int32), (0 : Int32), x.2.1)).2.1 (fX3_partner (nI i) S) S (nI i)) = (0 : Int32) := by first | (rw [jL_areMembers_225, if_pos h17, if_neg h18, if_pos h27, if_pos h28]; done) | (rw [jL_areMembers_225, if_pos h17, if_neg h18, if_pos h27, if_pos h28]; rfl)
                rw [e] at hj
                exact hj
              · refine xg_iload C dL_areMembers_268 rfl ?_
                refine xg_bipush C dL_areMembers_270 (v := (8 : Int32)) (by decide) ?_
                refine xg_icmp_ge C 326 dL_areMembers_272 (by decide) (fun h29 => ?_) (fun h29 => ?_)
                · refine xg_iconst C dL_areMembers_326 (v := (0 : Int32)) (by decide) ?_
                  have e : (jL_areMembers_225 (xfold (bL_areMembers_34 (nI i) S) 8 ((0 : Int32), (0 : Int32), (0 : Int32), x.2.1)).1 (xfold (bL_areMembers_34 (nI i) S) 8 ((0 : Int32), (0 : Int32), (0 : Int32), x.2.1)).2.1 (fX3_partner (nI i) S) S (nI i)) = (0 : Int32) := by first | (rw [jL_areMembers_225, if_pos h17, if_neg h18, if_pos h27, if_neg h28, if_pos h29]; done) | (rw [jL_areMembers_225, if_pos h17, if_neg h18, if_pos h27, if_neg h28, if_pos h29]; rfl)
                  rw [e] at hj
                  exact hj
                · refine xg_iload C dL_areMembers_275 rfl ?_
                  refine xg_iload C dL_areMembers_277 rfl ?_
                  refine xg_icmp_eq C 326 dL_areMembers_279 (by decide) (fun h30 => ?_) (fun h30 => ?_)
                  · refine xg_iconst C dL_areMembers_326 (v := (0 : Int32)) (by decide) ?_
                    have e : (jL_areMembers_225 (xfold (bL_areMembers_34 (nI i) S) 8 ((0 : Int32), (0 : Int32), (0 : Int32), x.2.1)).1 (xfold (bL_areMembers_34 (nI i) S) 8 ((0 : Int32), (0 : Int32), (0 : Int32), x.2.1)).2.1 (fX3_partner (nI i) S) S (nI i)) = (0 : Int32) := by first | (rw [jL_areMembers_225, if_pos h17, if_neg h18, if_pos h27, if_neg h28, if_neg h29, if_pos h30]; done) | (rw [jL_areMembers_225, if_pos h17, if_neg h18, if_pos h27, if_neg h28, if_neg h29, if_pos h30]; rfl)
                    rw [e] at hj
                    exact hj
                  · refine xg_iload C dL_areMembers_282 rfl ?_
                    refine xg_if_lt C 322 dL_areMembers_284 (by decide) (fun h31 => ?_) (fun h31 => ?_)
                    · refine xg_iconst C dL_areMembers_322 (v := (1 : Int32)) (by decide) ?_
                      refine xg_goto C 327 dL_areMembers_323 (by decide) ?_
                      have e : (jL_areMembers_225 (xfold (bL_areMembers_34 (nI i) S) 8 ((0 : Int32), (0 : Int32), (0 : Int32), x.2.1)).1 (xfold (bL_areMembers_34 (nI i) S) 8 ((0 : Int32), (0 : Int32), (0 : Int32), x.2.1)).2.1 (fX3_partner (nI i) S) S (nI i)) = (1 : Int32) := by first | (rw [jL_areMembers_225, if_pos h17, if_neg h18, if_pos h27, if_neg h28, if_neg h29, if_neg h30, if_pos h31]; done) | (rw [jL_areMembers_225, if_pos h17, if_neg h18, if_pos h27, if_neg h28, if_neg h29, if_neg h30, if_pos h31]; rfl)
                      rw [e] at hj
                      exact hj
                    · refine xg_aload_n C dL_areMembers_287 rfl ?_
                      refine xg_bipush C dL_areMembers_288 (v := (8 : Int32)) (by decide) ?_
                      refine xg_iload C dL_areMembers_290 rfl ?_
                      refine xg_imul C dL_areMembers_292 ?_
                      refine xg_iconst C dL_areMembers_293 (v := (1 : Int32)) (by decide) ?_
                      refine xg_iadd C dL_areMembers_294 ?_
                      refine xg_iald C V (f := 35) (n := 1) (N := 64) rfl (by decide) (xR_0 (by decide)) (xin_8k (by assumption) (vp_in_iff.mpr ⟨by decide, by decide⟩)) dL_areMembers_295 (v := (S 35 0 (((8 : Int32) * (nI i)) + (1 : Int32)))) rfl ?_
                      refine xg_if_ne C 326 dL_areMembers_296 (by decide) (fun h32 => ?_) (fun h32 => ?_)
                      · refine xg_iconst C dL_areMembers_326 (v := (0 : Int32)) (by decide) ?_
                        have e : (jL_areMembers_225 (xfold (bL_areMembers_34 (nI i) S) 8 ((0 : Int32), (0 : Int32), (0 : Int32), x.2.1)).1 (xfold (bL_areMembers_34 (nI i) S) 8 ((0 : Int32), (0 : Int32), (0 : Int32), x.2.1)).2.1 (fX3_partner (nI i) S) S (nI i)) = (0 : Int32) := by first | (rw [jL_areMembers_225, if_pos h17, if_neg h18, if_pos h27, if_neg h28, if_neg h29, if_neg h30, if_neg h31, if_neg h32]; done) | (rw [jL_areMembers_225, if_pos h17, if_neg h18, if_pos h27, if_neg h28, if_neg h29, if_neg h30, if_neg h31, if_neg h32]; rfl)
                        rw [e] at hj
                        exact hj
                      · refine xg_aload_n C dL_areMembers_299 rfl ?_
                        refine xg_callVi C V (f := 0) (As := []) (r := (fX3_time S)) (fun l => kX3_time l hap  S) gL_areMembers_X3_time rfl hdX3_time ⟨by decide, by decide⟩ rfl rfl rfl rfl rfl (Nat.le_of_ble_eq_true rfl) ⟨Nat.zero_le _, Nat.zero_le _⟩ dL_areMembers_300 ?_
                        refine xg_iconst C dL_areMembers_303 (v := (1 : Int32)) (by decide) ?_
                        refine xg_iadd C dL_areMembers_304 ?_
                        refine xg_iconst C dL_areMembers_305 (v := (4 : Int32)) (by decide) ?_
                        refine xg_irem C dL_areMembers_306 (by decide) ?_
                        refine xg_if_eq C 322 dL_areMembers_307 (by decide) (fun h33 => ?_) (fun h33 => ?_)
                        · refine xg_iconst C dL_areMembers_322 (v := (1 : Int32)) (by decide) ?_
                          refine xg_goto C 327 dL_areMembers_323 (by decide) ?_
                          have e : (jL_areMembers_225 (xfold (bL_areMembers_34 (nI i) S) 8 ((0 : Int32), (0 : Int32), (0 : Int32), x.2.1)).1 (xfold (bL_areMembers_34 (nI i) S) 8 ((0 : Int32), (0 : Int32), (0 : Int32), x.2.1)).2.1 (fX3_partner (nI i) S) S (nI i)) = (1 : Int32) := by first | (rw [jL_areMembers_225, if_pos h17, if_neg h18, if_pos h27, if_neg h28, if_neg h29, if_neg h30, if_neg h31, if_pos h32, if_pos h33]; done) | (rw [jL_areMembers_225, if_pos h17, if_neg h18, if_pos h27, if_neg h28, if_neg h29, if_neg h30, if_neg h31, if_pos h32, if_pos h33]; rfl)
                          rw [e] at hj
                          exact hj
                        · refine xg_aload_n C dL_areMembers_310 rfl ?_
                          refine xg_iload C dL_areMembers_311 rfl ?_
                          refine xg_iload C dL_areMembers_313 rfl ?_
                          refine xg_callVi C V (f := 0) (As := [.int (nI i), .int (fX3_partner (nI i) S)]) (r := (fX3_status (nI i) (fX3_partner (nI i) S) S)) (fun l => kX3_status l hap (nI i) (fX3_partner (nI i) S) S (by assumption) (xin_nn (by assumption) (by assumption))) gL_areMembers_X3_status rfl hdX3_status ⟨by decide, by decide⟩ rfl rfl rfl rfl rfl (Nat.le_of_ble_eq_true rfl) ⟨Nat.zero_le _, Nat.zero_le _⟩ dL_areMembers_315 ?_
                          refine xg_iconst C dL_areMembers_318 (v := (2 : Int32)) (by decide) ?_
                          refine xg_icmp_ge C 326 dL_areMembers_319 (by decide) (fun h34 => ?_) (fun h34 => ?_)
                          · refine xg_iconst C dL_areMembers_326 (v := (0 : Int32)) (by decide) ?_
                            have e : (jL_areMembers_225 (xfold (bL_areMembers_34 (nI i) S) 8 ((0 : Int32), (0 : Int32), (0 : Int32), x.2.1)).1 (xfold (bL_areMembers_34 (nI i) S) 8 ((0 : Int32), (0 : Int32), (0 : Int32), x.2.1)).2.1 (fX3_partner (nI i) S) S (nI i)) = (0 : Int32) := by first | (rw [jL_areMembers_225, if_pos h17, if_neg h18, if_pos h27, if_neg h28, if_neg h29, if_neg h30, if_neg h31, if_pos h32, if_neg h33, if_pos h34]; done) | (rw [jL_areMembers_225, if_pos h17, if_neg h18, if_pos h27, if_neg h28, if_neg h29, if_neg h30, if_neg h31, if_pos h32, if_neg h33, if_pos h34]; rfl)
                            rw [e] at hj
                            exact hj
                          · refine xg_iconst C dL_areMembers_322 (v := (1 : Int32)) (by decide) ?_
                            refine xg_goto C 327 dL_areMembers_323 (by decide) ?_
                            have e : (jL_areMembers_225 (xfold (bL_areMembers_34 (nI i) S) 8 ((0 : Int32), (0 : Int32), (0 : Int32), x.2.1)).1 (xfold (bL_areMembers_34 (nI i) S) 8 ((0 : Int32), (0 : Int32), (0 : Int32), x.2.1)).2.1 (fX3_partner (nI i) S) S (nI i)) = (1 : Int32) := by first | (rw [jL_areMembers_225, if_pos h17, if_neg h18, if_pos h27, if_neg h28, if_neg h29, if_neg h30, if_neg h31, if_pos h32, if_neg h33, if_neg h34]; done) | (rw [jL_areMembers_225, if_pos h17, if_neg h18, if_pos h27, if_neg h28, if_neg h29, if_neg h30, if_neg h31, if_pos h32, if_neg h33, if_neg h34]; rfl)
                            rw [e] at hj
                            exact hj
      refine xg_istore C dL_areMembers_327 (by decide) (L' := [some (.ref (G.2.2 0 0)), some (.ref (G.2.2 35 0)), some (.int (x.1 + (jL_areMembers_192 (xfold (bL_areMembers_34 (nI i) S) 8 ((0 : Int32), (0 : Int32), (0 : Int32), x.2.1)).2.2.1 S (nI i)))), some (.int (xfold (bL_areMembers_34 (nI i) S) 8 ((0 : Int32), (0 : Int32), (0 : Int32), x.2.1)).2.2.2), some (.int (jL_areMembers_225 (xfold (bL_areMembers_34 (nI i) S) 8 ((0 : Int32), (0 : Int32), (0 : Int32), x.2.1)).1 (xfold (bL_areMembers_34 (nI i) S) 8 ((0 : Int32), (0 : Int32), (0 : Int32), x.2.1)).2.1 (fX3_partner (nI i) S) S (nI i))), some (.int (nI i)), some (.int (xfold (bL_areMembers_34 (nI i) S) 8 ((0 : Int32), (0 : Int32), (0 : Int32), x.2.1)).1), some (.int (xfold (bL_areMembers_34 (nI i) S) 8 ((0 : Int32), (0 : Int32), (0 : Int32), x.2.1)).2.1), some (.int (xfold (bL_areMembers_34 (nI i) S) 8 ((0 : Int32), (0 : Int32), (0 : Int32), x.2.1)).2.2.1), some (.int (fX3_partner (nI i) S)), none]) rfl ?_
      refine xg_iinc C dL_areMembers_329 rfl (v := (nI (i + 1))) (xinc i) (by decide) (L' := [some (.ref (G.2.2 0 0)), some (.ref (G.2.2 35 0)), some (.int (x.1 + (jL_areMembers_192 (xfold (bL_areMembers_34 (nI i) S) 8 ((0 : Int32), (0 : Int32), (0 : Int32), x.2.1)).2.2.1 S (nI i)))), some (.int (xfold (bL_areMembers_34 (nI i) S) 8 ((0 : Int32), (0 : Int32), (0 : Int32), x.2.1)).2.2.2), some (.int (jL_areMembers_225 (xfold (bL_areMembers_34 (nI i) S) 8 ((0 : Int32), (0 : Int32), (0 : Int32), x.2.1)).1 (xfold (bL_areMembers_34 (nI i) S) 8 ((0 : Int32), (0 : Int32), (0 : Int32), x.2.1)).2.1 (fX3_partner (nI i) S) S (nI i))), some (.int (nI (i + 1))), some (.int (xfold (bL_areMembers_34 (nI i) S) 8 ((0 : Int32), (0 : Int32), (0 : Int32), x.2.1)).1), some (.int (xfold (bL_areMembers_34 (nI i) S) 8 ((0 : Int32), (0 : Int32), (0 : Int32), x.2.1)).2.1), some (.int (xfold (bL_areMembers_34 (nI i) S) 8 ((0 : Int32), (0 : Int32), (0 : Int32), x.2.1)).2.2.1), some (.int (fX3_partner (nI i) S)), none]) rfl ?_
      refine xg_goto C 10 dL_areMembers_332 (by decide) ?_
      have e : (bL_areMembers_10 S) (nI i) x = ((x.1 + (jL_areMembers_192 (xfold (bL_areMembers_34 (nI i) S) 8 ((0 : Int32), (0 : Int32), (0 : Int32), x.2.1)).2.2.1 S (nI i))), (xfold (bL_areMembers_34 (nI i) S) 8 ((0 : Int32), (0 : Int32), (0 : Int32), x.2.1)).2.2.2, (jL_areMembers_225 (xfold (bL_areMembers_34 (nI i) S) 8 ((0 : Int32), (0 : Int32), (0 : Int32), x.2.1)).1 (xfold (bL_areMembers_34 (nI i) S) 8 ((0 : Int32), (0 : Int32), (0 : Int32), x.2.1)).2.1 (fX3_partner (nI i) S) S (nI i))) := rfl
      rw [e] at K
      try dsimp only at K
      exact xg_le K ⟨rfl, rfl, rfl, rfl, rfl, rfl, trivial⟩
  · show xg F 0 0 10 [some (.ref (G.2.2 0 0)), some (.ref (G.2.2 35 0)), some (.int (xfold (bL_areMembers_10 S) 8 ((0 : Int32), (0 : Int32), (1 : Int32))).1), some (.int (xfold (bL_areMembers_10 S) 8 ((0 : Int32), (0 : Int32), (1 : Int32))).2.1), some (.int (xfold (bL_areMembers_10 S) 8 ((0 : Int32), (0 : Int32), (1 : Int32))).2.2), some (.int (nI 8)), none, none, none, none, none] [] (xP xYc G S)
    have hisE : ((xfold (bL_areMembers_10 S) 8 ((0 : Int32), (0 : Int32), (1 : Int32)))).2.2 = (1 : Int32) := hJi _ _ hJ
    have hE1 := (hJe _ hJ).1
    have hE2 := (hJe _ hJ).2
    refine xg_iload C dL_areMembers_10 rfl ?_
    refine xg_bipush C dL_areMembers_12 (v := (8 : Int32)) (by decide) ?_
    refine xg_icmp_ge C 335 dL_areMembers_14 (by decide) (fun h35 => ?_) (fun h35 => absurd (nI_le (Nat.le_refl _) (by decide)) h35)
    refine xg_iload C dL_areMembers_335 rfl ?_
    refine xg_if_eq C 360 dL_areMembers_337 (by decide) (fun h36 => absurd h36 (by rw [hisE]; decide)) (fun h36 => ?_)
    refine xg_aload_n C dL_areMembers_340 rfl ?_
    refine xg_callVi C V (f := 0) (As := []) (r := (fX3_unnoticed S)) (fun l => kX3_unnoticed l hap  S) gL_areMembers_X3_unnoticed rfl hdX3_unnoticed ⟨by decide, by decide⟩ rfl rfl rfl rfl rfl (Nat.le_of_ble_eq_true rfl) ⟨Nat.zero_le _, Nat.zero_le _⟩ dL_areMembers_341 ?_
    refine xg_iload_n C dL_areMembers_344 rfl ?_
    refine xg_icmp_ne C 360 dL_areMembers_345 (by decide) (fun h37 => absurd hE1 h37) (fun h37 => ?_)
    refine xg_aload_n C dL_areMembers_348 rfl ?_
    refine xg_callVi C V (f := 0) (As := []) (r := (fX3_mistaken S)) (fun l => kX3_mistaken l hap  S) gL_areMembers_X3_mistaken rfl hdX3_mistaken ⟨by decide, by decide⟩ rfl rfl rfl rfl rfl (Nat.le_of_ble_eq_true rfl) ⟨Nat.zero_le _, Nat.zero_le _⟩ dL_areMembers_349 ?_
    refine xg_iload_n C dL_areMembers_352 rfl ?_
    refine xg_icmp_ne C 360 dL_areMembers_353 (by decide) (fun h38 => absurd hE2 h38) (fun h38 => ?_)
    refine xg_iconst C dL_areMembers_356 (v := (1 : Int32)) (by decide) ?_
    refine xg_goto C 361 dL_areMembers_357 (by decide) ?_
    exact xret_i E dL_areMembers_361 (rfl) rfl
