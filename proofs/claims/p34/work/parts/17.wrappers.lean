/-! 17: the law's wrappers: what they answer (plan.py) -/
theorem kX3_tick1 (l : Launch) {G : xG} (hap : xAp xYc G) (S : xS) (w3 : ((S 0 0 (nI 3)) + (1 : Int32)) ≤ (5000 : Int32)) : xMi l xYc G yX3_tick wsX3_tick 5 129 [.ref (G.2.2 0 0), .int (1 : Int32)] S (fX3_tick 1 S).1 (fX3_tick 1 S).2 := kX3_tick l hap 1 S (by decide) (by decide) (by decide) (by decide) w3
theorem hdL_act : yL_act.cls ≠ "java/lang/invoke/MethodHandle" ∧ yL_act.cls ≠ "java/lang/invoke/VarHandle" ∧ (parseMethodDescriptor yL_act.desc).map (fun d => d.parameters.length) = some 4 := by decide +kernel
set_option maxRecDepth 100000 in
set_option maxHeartbeats 4000000 in
theorem kL_act0 (l : Launch) {G : xG} (hap : xAp xYc G) (a1 : Int32) (a2 : Int32) (S : xS) (g_a1 : vp_in a1 8) (v1 : ¬ a2 < (1 : Int32)) (w1 : a2 ≤ (50 : Int32)) : xMi l xYc G yL_act wsL_act 3 65 [.ref (G.2.2 0 0), .int (0 : Int32), .int a1, .int a2] S (fX3_setGauge a1 a2 S).1 (fX3_setGauge a1 a2 S).2 := by
  refine xMiW_of (cc := cL_act) (maxL := 5) (hh := [(0, 104, 105, 35), (0, 104, 111, 37)]) (own := RL) [some (.ref (G.2.2 0 0)), some (.int (0 : Int32)), some (.int a1), some (.int a2), none] pnL rfl rfl (xcat1 rfl) (Nat.le_of_ble_eq_true rfl) rfl hap (fun F C V E => ?_)
  refine xg_iload_n C dL_act_0 rfl ?_
  refine xg_if_ne C 13 dL_act_1 (by decide) (fun h1 => by exact absurd h1 (by decide)) (fun h1 => ?_)
  refine xg_aload_n C dL_act_4 rfl ?_
  refine xg_iload_n C dL_act_5 rfl ?_
  refine xg_iload_n C dL_act_6 rfl ?_
  refine xg_callVi C V (f := 0) (As := [.int a1, .int a2]) (r := (fX3_setGauge a1 a2 S).2) (fun l => kX3_setGauge l hap a1 a2 S (by assumption) (by assumption) (by assumption)) gL_act_X3_setGauge rfl hdX3_setGauge ⟨by decide, by decide⟩ rfl rfl rfl rfl rfl (Nat.le_of_ble_eq_true rfl) ⟨Nat.zero_le _, Nat.zero_le _⟩ dL_act_7 ?_
  refine xg_goto C 104 dL_act_10 (by decide) ?_
  exact xret_i E dL_act_104 rfl rfl
set_option maxRecDepth 100000 in
set_option maxHeartbeats 4000000 in
theorem kL_act1 (l : Launch) {G : xG} (hap : xAp xYc G) (a1 : Int32) (a2 : Int32) (S : xS) (v1 : ¬ a1 < (0 : Int32)) (w1 : a1 ≤ (1000 : Int32)) : xMi l xYc G yL_act wsL_act 2 44 [.ref (G.2.2 0 0), .int (1 : Int32), .int a1, .int a2] S (fX3_setSource a1 S).1 (fX3_setSource a1 S).2 := by
  refine xMiW_of (cc := cL_act) (maxL := 5) (hh := [(0, 104, 105, 35), (0, 104, 111, 37)]) (own := RL) [some (.ref (G.2.2 0 0)), some (.int (1 : Int32)), some (.int a1), some (.int a2), none] pnL rfl rfl (xcat1 rfl) (Nat.le_of_ble_eq_true rfl) rfl hap (fun F C V E => ?_)
  refine xg_iload_n C dL_act_0 rfl ?_
  refine xg_if_ne C 13 dL_act_1 (by decide) (fun h1 => ?_) (fun h1 => by exact absurd h1 (by decide))
  refine xg_iload_n C dL_act_13 rfl ?_
  refine xg_iconst C dL_act_14 (v := (1 : Int32)) (by decide) ?_
  refine xg_icmp_ne C 26 dL_act_15 (by decide) (fun h2 => by exact absurd h2 (by decide)) (fun h2 => ?_)
  refine xg_aload_n C dL_act_18 rfl ?_
  refine xg_iload_n C dL_act_19 rfl ?_
  refine xg_callVi C V (f := 0) (As := [.int a1]) (r := (fX3_setSource a1 S).2) (fun l => kX3_setSource l hap a1 S (by assumption) (by assumption)) gL_act_X3_setSource rfl hdX3_setSource ⟨by decide, by decide⟩ rfl rfl rfl rfl rfl (Nat.le_of_ble_eq_true rfl) ⟨Nat.zero_le _, Nat.zero_le _⟩ dL_act_20 ?_
  refine xg_goto C 104 dL_act_23 (by decide) ?_
  exact xret_i E dL_act_104 rfl rfl
set_option maxRecDepth 100000 in
set_option maxHeartbeats 4000000 in
theorem kL_act2 (l : Launch) {G : xG} (hap : xAp xYc G) (a1 : Int32) (a2 : Int32) (S : xS) (g_a1 : vp_in a1 8) (v1 : ¬ a2 < (1 : Int32)) (w1 : a2 ≤ (10000 : Int32)) : xMi l xYc G yL_act wsL_act 3 64 [.ref (G.2.2 0 0), .int (2 : Int32), .int a1, .int a2] S (fX3_rain a1 a2 S).1 (fX3_rain a1 a2 S).2 := by
  refine xMiW_of (cc := cL_act) (maxL := 5) (hh := [(0, 104, 105, 35), (0, 104, 111, 37)]) (own := RL) [some (.ref (G.2.2 0 0)), some (.int (2 : Int32)), some (.int a1), some (.int a2), none] pnL rfl rfl (xcat1 rfl) (Nat.le_of_ble_eq_true rfl) rfl hap (fun F C V E => ?_)
  refine xg_iload_n C dL_act_0 rfl ?_
  refine xg_if_ne C 13 dL_act_1 (by decide) (fun h1 => ?_) (fun h1 => by exact absurd h1 (by decide))
  refine xg_iload_n C dL_act_13 rfl ?_
  refine xg_iconst C dL_act_14 (v := (1 : Int32)) (by decide) ?_
  refine xg_icmp_ne C 26 dL_act_15 (by decide) (fun h2 => ?_) (fun h2 => by exact absurd h2 (by decide))
  refine xg_iload_n C dL_act_26 rfl ?_
  refine xg_iconst C dL_act_27 (v := (2 : Int32)) (by decide) ?_
  refine xg_icmp_ne C 40 dL_act_28 (by decide) (fun h3 => by exact absurd h3 (by decide)) (fun h3 => ?_)
  refine xg_aload_n C dL_act_31 rfl ?_
  refine xg_iload_n C dL_act_32 rfl ?_
  refine xg_iload_n C dL_act_33 rfl ?_
  refine xg_callVi C V (f := 0) (As := [.int a1, .int a2]) (r := (fX3_rain a1 a2 S).2) (fun l => kX3_rain l hap a1 a2 S (by assumption) (by assumption) (by assumption)) gL_act_X3_rain rfl hdX3_rain ⟨by decide, by decide⟩ rfl rfl rfl rfl rfl (Nat.le_of_ble_eq_true rfl) ⟨Nat.zero_le _, Nat.zero_le _⟩ dL_act_34 ?_
  refine xg_goto C 104 dL_act_37 (by decide) ?_
  exact xret_i E dL_act_104 rfl rfl
set_option maxRecDepth 100000 in
set_option maxHeartbeats 4000000 in
theorem kL_act3 (l : Launch) {G : xG} (hap : xAp xYc G) (a1 : Int32) (a2 : Int32) (S : xS) (g_a1 : vp_in a1 8) (v1 : ¬ a2 < (-1 : Int32)) (w1 : a2 ≤ (10 : Int32)) (hb : a2 = (-1 : Int32) → ¬ S 18 0 a1 = (0 : Int32)) : xMi l xYc G yL_act wsL_act 3 65 [.ref (G.2.2 0 0), .int (3 : Int32), .int a1, .int a2] S (fX3_byHand a1 a2 S).1 (fX3_byHand a1 a2 S).2 := by
  refine xMiW_of (cc := cL_act) (maxL := 5) (hh := [(0, 104, 105, 35), (0, 104, 111, 37)]) (own := RL) [some (.ref (G.2.2 0 0)), some (.int (3 : Int32)), some (.int a1), some (.int a2), none] pnL rfl rfl (xcat1 rfl) (Nat.le_of_ble_eq_true rfl) rfl hap (fun F C V E => ?_)
  refine xg_iload_n C dL_act_0 rfl ?_
  refine xg_if_ne C 13 dL_act_1 (by decide) (fun h1 => ?_) (fun h1 => by exact absurd h1 (by decide))
  refine xg_iload_n C dL_act_13 rfl ?_
  refine xg_iconst C dL_act_14 (v := (1 : Int32)) (by decide) ?_
  refine xg_icmp_ne C 26 dL_act_15 (by decide) (fun h2 => ?_) (fun h2 => by exact absurd h2 (by decide))
  refine xg_iload_n C dL_act_26 rfl ?_
  refine xg_iconst C dL_act_27 (v := (2 : Int32)) (by decide) ?_
  refine xg_icmp_ne C 40 dL_act_28 (by decide) (fun h3 => ?_) (fun h3 => by exact absurd h3 (by decide))
  refine xg_iload_n C dL_act_40 rfl ?_
  refine xg_iconst C dL_act_41 (v := (3 : Int32)) (by decide) ?_
  refine xg_icmp_ne C 54 dL_act_42 (by decide) (fun h4 => by exact absurd h4 (by decide)) (fun h4 => ?_)
  refine xg_aload_n C dL_act_45 rfl ?_
  refine xg_iload_n C dL_act_46 rfl ?_
  refine xg_iload_n C dL_act_47 rfl ?_
  refine xg_callVi C V (f := 0) (As := [.int a1, .int a2]) (r := (fX3_byHand a1 a2 S).2) (fun l => kX3_byHand l hap a1 a2 S (by assumption) (by assumption) (by assumption) (by assumption)) gL_act_X3_byHand rfl hdX3_byHand ⟨by decide, by decide⟩ rfl rfl rfl rfl rfl (Nat.le_of_ble_eq_true rfl) ⟨Nat.zero_le _, Nat.zero_le _⟩ dL_act_48 ?_
  refine xg_goto C 104 dL_act_51 (by decide) ?_
  exact xret_i E dL_act_104 rfl rfl
set_option maxRecDepth 100000 in
set_option maxHeartbeats 4000000 in
theorem kL_act4 (l : Launch) {G : xG} (hap : xAp xYc G) (a1 : Int32) (a2 : Int32) (S : xS) (g_a1 : vp_in a1 8) (v1 : ¬ a2 < (0 : Int32)) (w1 : a2 ≤ (3 : Int32)) : xMi l xYc G yL_act wsL_act 3 65 [.ref (G.2.2 0 0), .int (4 : Int32), .int a1, .int a2] S (fX3_setGroup a1 a2 S).1 (fX3_setGroup a1 a2 S).2 := by
  refine xMiW_of (cc := cL_act) (maxL := 5) (hh := [(0, 104, 105, 35), (0, 104, 111, 37)]) (own := RL) [some (.ref (G.2.2 0 0)), some (.int (4 : Int32)), some (.int a1), some (.int a2), none] pnL rfl rfl (xcat1 rfl) (Nat.le_of_ble_eq_true rfl) rfl hap (fun F C V E => ?_)
  refine xg_iload_n C dL_act_0 rfl ?_
  refine xg_if_ne C 13 dL_act_1 (by decide) (fun h1 => ?_) (fun h1 => by exact absurd h1 (by decide))
  refine xg_iload_n C dL_act_13 rfl ?_
  refine xg_iconst C dL_act_14 (v := (1 : Int32)) (by decide) ?_
  refine xg_icmp_ne C 26 dL_act_15 (by decide) (fun h2 => ?_) (fun h2 => by exact absurd h2 (by decide))
  refine xg_iload_n C dL_act_26 rfl ?_
  refine xg_iconst C dL_act_27 (v := (2 : Int32)) (by decide) ?_
  refine xg_icmp_ne C 40 dL_act_28 (by decide) (fun h3 => ?_) (fun h3 => by exact absurd h3 (by decide))
  refine xg_iload_n C dL_act_40 rfl ?_
  refine xg_iconst C dL_act_41 (v := (3 : Int32)) (by decide) ?_
  refine xg_icmp_ne C 54 dL_act_42 (by decide) (fun h4 => ?_) (fun h4 => by exact absurd h4 (by decide))
  refine xg_iload_n C dL_act_54 rfl ?_
  refine xg_iconst C dL_act_55 (v := (4 : Int32)) (by decide) ?_
  refine xg_icmp_ne C 68 dL_act_56 (by decide) (fun h5 => by exact absurd h5 (by decide)) (fun h5 => ?_)
  refine xg_aload_n C dL_act_59 rfl ?_
  refine xg_iload_n C dL_act_60 rfl ?_
  refine xg_iload_n C dL_act_61 rfl ?_
  refine xg_callVi C V (f := 0) (As := [.int a1, .int a2]) (r := (fX3_setGroup a1 a2 S).2) (fun l => kX3_setGroup l hap a1 a2 S (by assumption) (by assumption) (by assumption)) gL_act_X3_setGroup rfl hdX3_setGroup ⟨by decide, by decide⟩ rfl rfl rfl rfl rfl (Nat.le_of_ble_eq_true rfl) ⟨Nat.zero_le _, Nat.zero_le _⟩ dL_act_62 ?_
  refine xg_goto C 104 dL_act_65 (by decide) ?_
  exact xret_i E dL_act_104 rfl rfl
def jL_act5_75 (a1 : Int32) (a2 : Int32) : Int32 :=
  if a2 = (1 : Int32) then
    (1 : Int32)
  else
    (0 : Int32)
def fL_act5 (a1 : Int32) (a2 : Int32) (S : xS) : xS × Int32 :=
  if (fX3_setStuck a1 (jL_act5_75 a1 a2) S).2 = (0 : Int32) then
    ((fX3_setStuck a1 (jL_act5_75 a1 a2) S).1, (0 : Int32))
  else
    ((fX3_setStuck a1 (jL_act5_75 a1 a2) S).1, (1 : Int32))
theorem hj5 (a1 a2 : Int32) : narrow .boolean (.int (jL_act5_75 a1 a2)) = .int (jL_act5_75 a1 a2) := xn01 (by unfold jL_act5_75; (repeat' split) <;> first | exact Or.inl rfl | exact Or.inr rfl)
set_option maxRecDepth 100000 in
set_option maxHeartbeats 4000000 in
theorem kL_act5 (l : Launch) {G : xG} (hap : xAp xYc G) (a1 : Int32) (a2 : Int32) (S : xS) (g_a1 : vp_in a1 8) (hz : narrow .boolean (.int (S 20 0 a1)) = .int (S 20 0 a1)) : xMi l xYc G yL_act wsL_act 3 65 [.ref (G.2.2 0 0), .int (5 : Int32), .int a1, .int a2] S (fL_act5 a1 a2 S).1 (fL_act5 a1 a2 S).2 := by
  refine xMiW_of (cc := cL_act) (maxL := 5) (hh := [(0, 104, 105, 35), (0, 104, 111, 37)]) (own := RL) [some (.ref (G.2.2 0 0)), some (.int (5 : Int32)), some (.int a1), some (.int a2), none] pnL rfl rfl (xcat1 rfl) (Nat.le_of_ble_eq_true rfl) rfl hap (fun F C V E => ?_)
  refine xg_iload_n C dL_act_0 rfl ?_
  refine xg_if_ne C 13 dL_act_1 (by decide) (fun h1 => ?_) (fun h1 => by exact absurd h1 (by decide))
  refine xg_iload_n C dL_act_13 rfl ?_
  refine xg_iconst C dL_act_14 (v := (1 : Int32)) (by decide) ?_
  refine xg_icmp_ne C 26 dL_act_15 (by decide) (fun h2 => ?_) (fun h2 => by exact absurd h2 (by decide))
  refine xg_iload_n C dL_act_26 rfl ?_
  refine xg_iconst C dL_act_27 (v := (2 : Int32)) (by decide) ?_
  refine xg_icmp_ne C 40 dL_act_28 (by decide) (fun h3 => ?_) (fun h3 => by exact absurd h3 (by decide))
  refine xg_iload_n C dL_act_40 rfl ?_
  refine xg_iconst C dL_act_41 (v := (3 : Int32)) (by decide) ?_
  refine xg_icmp_ne C 54 dL_act_42 (by decide) (fun h4 => ?_) (fun h4 => by exact absurd h4 (by decide))
  refine xg_iload_n C dL_act_54 rfl ?_
  refine xg_iconst C dL_act_55 (v := (4 : Int32)) (by decide) ?_
  refine xg_icmp_ne C 68 dL_act_56 (by decide) (fun h5 => ?_) (fun h5 => by exact absurd h5 (by decide))
  refine xg_iload_n C dL_act_68 rfl ?_
  refine xg_iconst C dL_act_69 (v := (5 : Int32)) (by decide) ?_
  refine xg_icmp_ne C 99 dL_act_70 (by decide) (fun h6 => by exact absurd h6 (by decide)) (fun h6 => ?_)
  refine xg_aload_n C dL_act_73 rfl ?_
  refine xg_iload_n C dL_act_74 rfl ?_
  suffices hj : xg F 0 0 85 [some (.ref (G.2.2 0 0)), some (.int (5 : Int32)), some (.int a1), some (.int a2), none] [.int (jL_act5_75 a1 a2), .int a1, .ref (G.2.2 0 0)] (xP xYc G S) by
    refine xg_iload_n C dL_act_75 rfl ?_
    refine xg_iconst C dL_act_76 (v := (1 : Int32)) (by decide) ?_
    refine xg_icmp_ne C 84 dL_act_77 (by decide) (fun h7 => ?_) (fun h7 => ?_)
    · refine xg_iconst C dL_act_84 (v := (0 : Int32)) (by decide) ?_
      have e : (jL_act5_75 a1 a2) = (0 : Int32) := by first | (rw [jL_act5_75, if_neg h7]; done) | (rw [jL_act5_75, if_neg h7]; rfl)
      rw [e] at hj
      exact hj
    · refine xg_iconst C dL_act_80 (v := (1 : Int32)) (by decide) ?_
      refine xg_goto C 85 dL_act_81 (by decide) ?_
      have e : (jL_act5_75 a1 a2) = (1 : Int32) := by first | (rw [jL_act5_75, if_pos h7]; done) | (rw [jL_act5_75, if_pos h7]; rfl)
      rw [e] at hj
      exact hj
  refine xg_callVi C V (f := 0) (As := [.int a1, .int (jL_act5_75 a1 a2)]) (r := (fX3_setStuck a1 (jL_act5_75 a1 a2) S).2) (fun l => kX3_setStuck l hap a1 (jL_act5_75 a1 a2) S (by assumption) (by assumption) (hj5 _ _)) gL_act_X3_setStuck rfl hdX3_setStuck ⟨by decide, by decide⟩ rfl rfl rfl rfl rfl (Nat.le_of_ble_eq_true rfl) ⟨Nat.zero_le _, Nat.zero_le _⟩ dL_act_85 ?_
  refine xg_if_eq C 95 dL_act_88 (by decide) (fun h8 => ?_) (fun h8 => ?_)
  · refine xg_iconst C dL_act_95 (v := (0 : Int32)) (by decide) ?_
    refine xg_goto C 104 dL_act_96 (by decide) ?_
    have e : (fL_act5 a1 a2 S) = ((fX3_setStuck a1 (jL_act5_75 a1 a2) S).1, (0 : Int32)) := by first | (rw [fL_act5, if_pos h8]; done) | (rw [fL_act5, if_pos h8]; rfl)
    exact xret_i E dL_act_104 (xsnd e) (xfst e)
  · refine xg_iconst C dL_act_91 (v := (1 : Int32)) (by decide) ?_
    refine xg_goto C 104 dL_act_92 (by decide) ?_
    have e : (fL_act5 a1 a2 S) = ((fX3_setStuck a1 (jL_act5_75 a1 a2) S).1, (1 : Int32)) := by first | (rw [fL_act5, if_neg h8]; done) | (rw [fL_act5, if_neg h8]; rfl)
    exact xret_i E dL_act_104 (xsnd e) (xfst e)
set_option maxRecDepth 100000 in
set_option maxHeartbeats 4000000 in
theorem kL_act6 (l : Launch) {G : xG} (hap : xAp xYc G)  (S : xS) (w3 : ((S 0 0 (nI 3)) + (1 : Int32)) ≤ (5000 : Int32)) : xMi l xYc G yL_act wsL_act 6 152 [.ref (G.2.2 0 0), .int (6 : Int32), .int (1 : Int32), .int (0 : Int32)] S (fX3_tick 1 S).1 (fX3_tick 1 S).2 := by
  refine xMiW_of (cc := cL_act) (maxL := 5) (hh := [(0, 104, 105, 35), (0, 104, 111, 37)]) (own := RL) [some (.ref (G.2.2 0 0)), some (.int (6 : Int32)), some (.int (1 : Int32)), some (.int (0 : Int32)), none] pnL rfl rfl (xcat1 rfl) (Nat.le_of_ble_eq_true rfl) rfl hap (fun F C V E => ?_)
  refine xg_iload_n C dL_act_0 rfl ?_
  refine xg_if_ne C 13 dL_act_1 (by decide) (fun h1 => ?_) (fun h1 => by exact absurd h1 (by decide))
  refine xg_iload_n C dL_act_13 rfl ?_
  refine xg_iconst C dL_act_14 (v := (1 : Int32)) (by decide) ?_
  refine xg_icmp_ne C 26 dL_act_15 (by decide) (fun h2 => ?_) (fun h2 => by exact absurd h2 (by decide))
  refine xg_iload_n C dL_act_26 rfl ?_
  refine xg_iconst C dL_act_27 (v := (2 : Int32)) (by decide) ?_
  refine xg_icmp_ne C 40 dL_act_28 (by decide) (fun h3 => ?_) (fun h3 => by exact absurd h3 (by decide))
  refine xg_iload_n C dL_act_40 rfl ?_
  refine xg_iconst C dL_act_41 (v := (3 : Int32)) (by decide) ?_
  refine xg_icmp_ne C 54 dL_act_42 (by decide) (fun h4 => ?_) (fun h4 => by exact absurd h4 (by decide))
  refine xg_iload_n C dL_act_54 rfl ?_
  refine xg_iconst C dL_act_55 (v := (4 : Int32)) (by decide) ?_
  refine xg_icmp_ne C 68 dL_act_56 (by decide) (fun h5 => ?_) (fun h5 => by exact absurd h5 (by decide))
  refine xg_iload_n C dL_act_68 rfl ?_
  refine xg_iconst C dL_act_69 (v := (5 : Int32)) (by decide) ?_
  refine xg_icmp_ne C 99 dL_act_70 (by decide) (fun h6 => ?_) (fun h6 => by exact absurd h6 (by decide))
  refine xg_aload_n C dL_act_99 rfl ?_
  refine xg_iload_n C dL_act_100 rfl ?_
  refine xg_callVi C V (f := 0) (As := [.int (1 : Int32)]) (r := (fX3_tick 1 S).2) (fun l => kX3_tick1 l hap  S w3) gL_act_X3_tick rfl hdX3_tick ⟨by decide, by decide⟩ rfl rfl rfl rfl rfl (Nat.le_of_ble_eq_true rfl) ⟨Nat.zero_le _, Nat.zero_le _⟩ dL_act_101 ?_
  exact xret_i E dL_act_104 rfl rfl
theorem hdL_shaped : yL_shaped.cls ≠ "java/lang/invoke/MethodHandle" ∧ yL_shaped.cls ≠ "java/lang/invoke/VarHandle" ∧ (parseMethodDescriptor yL_shaped.desc).map (fun d => d.parameters.length) = some 4 := by decide +kernel
set_option maxRecDepth 100000 in
set_option maxHeartbeats 4000000 in
theorem kL_shaped (l : Launch) {G : xG} (hap : xAp xYc G) (a1 : Int32) (a2 : Int32) (a3 : Int32) (S : xS) (g_a1 : vp_in a1 8) (v1 : ¬ a2 < (1 : Int32)) (w1 : a2 ≤ (100 : Int32)) (v2 : ¬ a3 < (1 : Int32)) (w2 : a3 ≤ (1000 : Int32)) : xMi l xYc G yL_shaped wsL_shaped 3 65 [.ref (G.2.2 0 0), .int a1, .int a2, .int a3] S (fX3_shape a1 a2 a3 S) (0 : Int32) := by
  refine xMiW_of (cc := cL_shaped) (maxL := 5) (hh := [(0, 8, 9, 35)]) (own := RL) [some (.ref (G.2.2 0 0)), some (.int a1), some (.int a2), some (.int a3), none] pnL rfl rfl (xcat1 rfl) (Nat.le_of_ble_eq_true rfl) rfl hap (fun F C V E => ?_)
  refine xg_aload_n C dL_shaped_0 rfl ?_
  refine xg_iload_n C dL_shaped_1 rfl ?_
  refine xg_iload_n C dL_shaped_2 rfl ?_
  refine xg_iload_n C dL_shaped_3 rfl ?_
  refine xg_callVv C V (f := 0) (As := [.int a1, .int a2, .int a3]) (fun l => kX3_shape l hap a1 a2 a3 S (by assumption) (by assumption) (by assumption) (by assumption) (by assumption)) gL_shaped_X3_shape rfl hdX3_shape ⟨by decide, by decide⟩ rfl rfl rfl rfl rfl (Nat.le_of_ble_eq_true rfl) ⟨Nat.zero_le _, Nat.zero_le _⟩ dL_shaped_4 ?_
  refine xg_iconst C dL_shaped_7 (v := (0 : Int32)) (by decide) ?_
  exact xret_i E dL_shaped_8 rfl rfl
theorem hdL_ruled : yL_ruled.cls ≠ "java/lang/invoke/MethodHandle" ∧ yL_ruled.cls ≠ "java/lang/invoke/VarHandle" ∧ (parseMethodDescriptor yL_ruled.desc).map (fun d => d.parameters.length) = some 6 := by decide +kernel
set_option maxRecDepth 100000 in
set_option maxHeartbeats 4000000 in
theorem kL_ruled (l : Launch) {G : xG} (hap : xAp xYc G) (a1 : Int32) (a2 : Int32) (a3 : Int32) (a4 : Int32) (a5 : Int32) (S : xS) (g_a1 : vp_in a1 8) (v1 : ¬ a2 < (0 : Int32)) (w1 : a2 ≤ (1000 : Int32)) (v2 : ¬ a3 < a2) (w2 : a3 ≤ (1000 : Int32)) (v3 : ¬ a4 < (0 : Int32)) (w3 : a4 ≤ (1000 : Int32)) (v4 : ¬ a5 < (0 : Int32)) (w4 : a5 ≤ (100 : Int32)) : xMi l xYc G yL_ruled wsL_ruled 3 67 [.ref (G.2.2 0 0), .int a1, .int a2, .int a3, .int a4, .int a5] S (fX3_setRule a1 a2 a3 a4 a5 S) (0 : Int32) := by
  refine xMiW_of (cc := cL_ruled) (maxL := 7) (hh := [(0, 12, 13, 35)]) (own := RL) [some (.ref (G.2.2 0 0)), some (.int a1), some (.int a2), some (.int a3), some (.int a4), some (.int a5), none] pnL rfl rfl (xcat1 rfl) (Nat.le_of_ble_eq_true rfl) rfl hap (fun F C V E => ?_)
  refine xg_aload_n C dL_ruled_0 rfl ?_
  refine xg_iload_n C dL_ruled_1 rfl ?_
  refine xg_iload_n C dL_ruled_2 rfl ?_
  refine xg_iload_n C dL_ruled_3 rfl ?_
  refine xg_iload C dL_ruled_4 rfl ?_
  refine xg_iload C dL_ruled_6 rfl ?_
  refine xg_callVv C V (f := 0) (As := [.int a1, .int a2, .int a3, .int a4, .int a5]) (fun l => kX3_setRule l hap a1 a2 a3 a4 a5 S (by assumption) (by assumption) (by assumption) (by assumption) (by assumption) (by assumption) (by assumption) (by assumption) (by assumption)) gL_ruled_X3_setRule rfl hdX3_setRule ⟨by decide, by decide⟩ rfl rfl rfl rfl rfl (Nat.le_of_ble_eq_true rfl) ⟨Nat.zero_le _, Nat.zero_le _⟩ dL_ruled_8 ?_
  refine xg_iconst C dL_ruled_11 (v := (0 : Int32)) (by decide) ?_
  exact xret_i E dL_ruled_12 rfl rfl
theorem hdL_timed : yL_timed.cls ≠ "java/lang/invoke/MethodHandle" ∧ yL_timed.cls ≠ "java/lang/invoke/VarHandle" ∧ (parseMethodDescriptor yL_timed.desc).map (fun d => d.parameters.length) = some 3 := by decide +kernel
set_option maxRecDepth 100000 in
set_option maxHeartbeats 4000000 in
theorem kL_timed (l : Launch) {G : xG} (hap : xAp xYc G) (a1 : Int32) (a2 : Int32) (S : xS) (v1 : ¬ a1 < (1 : Int32)) (w1 : a1 ≤ (50 : Int32)) (v2 : ¬ a2 < a1) (w2 : a2 ≤ (100 : Int32)) : xMi l xYc G yL_timed wsL_timed 2 44 [.ref (G.2.2 0 0), .int a1, .int a2] S (fX3_setTimes a1 a2 S) (0 : Int32) := by
  refine xMiW_of (cc := cL_timed) (maxL := 4) (hh := [(0, 7, 8, 35)]) (own := RL) [some (.ref (G.2.2 0 0)), some (.int a1), some (.int a2), none] pnL rfl rfl (xcat1 rfl) (Nat.le_of_ble_eq_true rfl) rfl hap (fun F C V E => ?_)
  refine xg_aload_n C dL_timed_0 rfl ?_
  refine xg_iload_n C dL_timed_1 rfl ?_
  refine xg_iload_n C dL_timed_2 rfl ?_
  refine xg_callVv C V (f := 0) (As := [.int a1, .int a2]) (fun l => kX3_setTimes l hap a1 a2 S (by assumption) (by assumption) (by assumption) (by assumption)) gL_timed_X3_setTimes rfl hdX3_setTimes ⟨by decide, by decide⟩ rfl rfl rfl rfl rfl (Nat.le_of_ble_eq_true rfl) ⟨Nat.zero_le _, Nat.zero_le _⟩ dL_timed_3 ?_
  refine xg_iconst C dL_timed_6 (v := (0 : Int32)) (by decide) ?_
  exact xret_i E dL_timed_7 rfl rfl
theorem hdL_fallen : yL_fallen.cls ≠ "java/lang/invoke/MethodHandle" ∧ yL_fallen.cls ≠ "java/lang/invoke/VarHandle" ∧ (parseMethodDescriptor yL_fallen.desc).map (fun d => d.parameters.length) = some 2 := by decide +kernel
set_option maxRecDepth 100000 in
set_option maxHeartbeats 4000000 in
theorem kL_fallen (l : Launch) {G : xG} (hap : xAp xYc G) (a1 : Int32) (S : xS) (g_a1 : vp_in a1 8) (hd : S 19 0 a1 = (0 : Int32)) : xMi l xYc G yL_fallen wsL_fallen 3 63 [.ref (G.2.2 0 0), .int a1] S (fX3_fall a1 S) (0 : Int32) := by
  refine xMiW_of (cc := cL_fallen) (maxL := 3) (hh := [(0, 6, 7, 35), (0, 6, 12, 37)]) (own := RL) [some (.ref (G.2.2 0 0)), some (.int a1), none] pnL rfl rfl (xcat1 rfl) (Nat.le_of_ble_eq_true rfl) rfl hap (fun F C V E => ?_)
  refine xg_aload_n C dL_fallen_0 rfl ?_
  refine xg_iload_n C dL_fallen_1 rfl ?_
  refine xg_callVv C V (f := 0) (As := [.int a1]) (fun l => kX3_fall l hap a1 S (by assumption) (by assumption)) gL_fallen_X3_fall rfl hdX3_fall ⟨by decide, by decide⟩ rfl rfl rfl rfl rfl (Nat.le_of_ble_eq_true rfl) ⟨Nat.zero_le _, Nat.zero_le _⟩ dL_fallen_2 ?_
  refine xg_iconst C dL_fallen_5 (v := (0 : Int32)) (by decide) ?_
  exact xret_i E dL_fallen_6 rfl rfl
theorem hdL_risen : yL_risen.cls ≠ "java/lang/invoke/MethodHandle" ∧ yL_risen.cls ≠ "java/lang/invoke/VarHandle" ∧ (parseMethodDescriptor yL_risen.desc).map (fun d => d.parameters.length) = some 2 := by decide +kernel
set_option maxRecDepth 100000 in
set_option maxHeartbeats 4000000 in
theorem kL_risen (l : Launch) {G : xG} (hap : xAp xYc G) (a1 : Int32) (S : xS) (g_a1 : vp_in a1 8) (hd : ¬ S 19 0 a1 = (0 : Int32)) : xMi l xYc G yL_risen wsL_risen 3 63 [.ref (G.2.2 0 0), .int a1] S (fX3_comeUp a1 S) (0 : Int32) := by
  refine xMiW_of (cc := cL_risen) (maxL := 3) (hh := [(0, 6, 7, 35), (0, 6, 12, 37)]) (own := RL) [some (.ref (G.2.2 0 0)), some (.int a1), none] pnL rfl rfl (xcat1 rfl) (Nat.le_of_ble_eq_true rfl) rfl hap (fun F C V E => ?_)
  refine xg_aload_n C dL_risen_0 rfl ?_
  refine xg_iload_n C dL_risen_1 rfl ?_
  refine xg_callVv C V (f := 0) (As := [.int a1]) (fun l => kX3_comeUp l hap a1 S (by assumption) (by assumption)) gL_risen_X3_comeUp rfl hdX3_comeUp ⟨by decide, by decide⟩ rfl rfl rfl rfl rfl (Nat.le_of_ble_eq_true rfl) ⟨Nat.zero_le _, Nat.zero_le _⟩ dL_risen_2 ?_
  refine xg_iconst C dL_risen_5 (v := (0 : Int32)) (by decide) ?_
  exact xret_i E dL_risen_6 rfl rfl
set_option maxRecDepth 100000 in
set_option maxHeartbeats 4000000 in
theorem kxL_act0 (l : Launch) {G : xG} (hlt : l.stackTraces = false) {Sa : Nat → Nat} {sz : Nat} (hsz : ∀ a : Nat, xA xYc G a → sz ≤ a) (hap : xAp xYc G) (a1 : Int32) (a2 : Int32) (S : xS) (hbad : ¬ (vp_in a1 8 ∧ (¬ a2 < (1 : Int32) ∧ a2 ≤ (50 : Int32)))) : xMn l xYc G Sa sz yL_act wsL_act 9 1 6 155 [.ref (G.2.2 0 0), .int (0 : Int32), .int a1, .int a2] S S (-1232 : Int32) := by
  refine xMnW_of (cc := cL_act) (maxL := 5) (hh := [(0, 104, 105, 35), (0, 104, 111, 37)]) (own := RL) hlt hsz [some (.ref (G.2.2 0 0)), some (.int (0 : Int32)), some (.int a1), some (.int a2), none] pnL rfl rfl (xcat1 rfl) (Nat.le_of_ble_eq_true rfl) rfl hap (fun F C V Ev Tb E => ?_)
  refine xg_iload_n C dL_act_0 rfl ?_
  refine xg_if_ne C 13 dL_act_1 (by decide) (fun h1 => by exact absurd h1 (by decide)) (fun h1 => ?_)
  refine xg_aload_n C dL_act_4 rfl ?_
  refine xg_iload_n C dL_act_5 rfl ?_
  refine xg_iload_n C dL_act_6 rfl ?_
  refine xg_callVx (X := xIA) C V Ev Tb (f := 0) (As := [.int a1, .int a2]) (fun l hl => kxX3_setGauge l hl hsz hap a1 a2 S hbad) gL_act_X3_setGauge rfl hdX3_setGauge ⟨by decide, by decide⟩ rfl rfl rfl rfl rfl (Nat.le_of_ble_eq_true rfl) ⟨by decide, by decide⟩ dL_act_7 [] ⟨0, 104, 105, 35⟩ [⟨0, 104, 111, 37⟩] rfl (fun z hz => by cases hz) (by decide) (by decide) (List.mem_of_getElem? (i := 1) rfl) (by decide +kernel) (fun q9 => ?_)
  refine xg_astore C dL_act_105 (by decide) (L' := [some (.ref (G.2.2 0 0)), some (.int (0 : Int32)), some (.int a1), some (.int a2), some (.ref q9)]) rfl ?_
  refine xg_sipush C dL_act_107 (v := (-1232 : Int32)) (by decide) ?_
  exact xret_n E dL_act_110 rfl rfl (Nat.le_refl _) (Nat.le_refl _)
set_option maxRecDepth 100000 in
set_option maxHeartbeats 4000000 in
theorem kxL_act2 (l : Launch) {G : xG} (hlt : l.stackTraces = false) {Sa : Nat → Nat} {sz : Nat} (hsz : ∀ a : Nat, xA xYc G a → sz ≤ a) (hap : xAp xYc G) (a1 : Int32) (a2 : Int32) (S : xS) (hbad : ¬ (vp_in a1 8 ∧ (¬ a2 < (1 : Int32) ∧ a2 ≤ (10000 : Int32)))) : xMn l xYc G Sa sz yL_act wsL_act 9 1 6 154 [.ref (G.2.2 0 0), .int (2 : Int32), .int a1, .int a2] S S (-1232 : Int32) := by
  refine xMnW_of (cc := cL_act) (maxL := 5) (hh := [(0, 104, 105, 35), (0, 104, 111, 37)]) (own := RL) hlt hsz [some (.ref (G.2.2 0 0)), some (.int (2 : Int32)), some (.int a1), some (.int a2), none] pnL rfl rfl (xcat1 rfl) (Nat.le_of_ble_eq_true rfl) rfl hap (fun F C V Ev Tb E => ?_)
  refine xg_iload_n C dL_act_0 rfl ?_
  refine xg_if_ne C 13 dL_act_1 (by decide) (fun h1 => ?_) (fun h1 => by exact absurd h1 (by decide))
  refine xg_iload_n C dL_act_13 rfl ?_
  refine xg_iconst C dL_act_14 (v := (1 : Int32)) (by decide) ?_
  refine xg_icmp_ne C 26 dL_act_15 (by decide) (fun h2 => ?_) (fun h2 => by exact absurd h2 (by decide))
  refine xg_iload_n C dL_act_26 rfl ?_
  refine xg_iconst C dL_act_27 (v := (2 : Int32)) (by decide) ?_
  refine xg_icmp_ne C 40 dL_act_28 (by decide) (fun h3 => by exact absurd h3 (by decide)) (fun h3 => ?_)
  refine xg_aload_n C dL_act_31 rfl ?_
  refine xg_iload_n C dL_act_32 rfl ?_
  refine xg_iload_n C dL_act_33 rfl ?_
  refine xg_callVx (X := xIA) C V Ev Tb (f := 0) (As := [.int a1, .int a2]) (fun l hl => kxX3_rain l hl hsz hap a1 a2 S hbad) gL_act_X3_rain rfl hdX3_rain ⟨by decide, by decide⟩ rfl rfl rfl rfl rfl (Nat.le_of_ble_eq_true rfl) ⟨by decide, by decide⟩ dL_act_34 [] ⟨0, 104, 105, 35⟩ [⟨0, 104, 111, 37⟩] rfl (fun z hz => by cases hz) (by decide) (by decide) (List.mem_of_getElem? (i := 1) rfl) (by decide +kernel) (fun q9 => ?_)
  refine xg_astore C dL_act_105 (by decide) (L' := [some (.ref (G.2.2 0 0)), some (.int (2 : Int32)), some (.int a1), some (.int a2), some (.ref q9)]) rfl ?_
  refine xg_sipush C dL_act_107 (v := (-1232 : Int32)) (by decide) ?_
  exact xret_n E dL_act_110 rfl rfl (Nat.le_refl _) (Nat.le_refl _)
set_option maxRecDepth 100000 in
set_option maxHeartbeats 4000000 in
theorem kxL_act3 (l : Launch) {G : xG} (hlt : l.stackTraces = false) {Sa : Nat → Nat} {sz : Nat} (hsz : ∀ a : Nat, xA xYc G a → sz ≤ a) (hap : xAp xYc G) (a1 : Int32) (a2 : Int32) (S : xS) (hbad : ¬ (vp_in a1 8 ∧ (¬ a2 < (-1 : Int32) ∧ a2 ≤ (10 : Int32)))) : xMn l xYc G Sa sz yL_act wsL_act 9 1 6 155 [.ref (G.2.2 0 0), .int (3 : Int32), .int a1, .int a2] S S (-1232 : Int32) := by
  refine xMnW_of (cc := cL_act) (maxL := 5) (hh := [(0, 104, 105, 35), (0, 104, 111, 37)]) (own := RL) hlt hsz [some (.ref (G.2.2 0 0)), some (.int (3 : Int32)), some (.int a1), some (.int a2), none] pnL rfl rfl (xcat1 rfl) (Nat.le_of_ble_eq_true rfl) rfl hap (fun F C V Ev Tb E => ?_)
  refine xg_iload_n C dL_act_0 rfl ?_
  refine xg_if_ne C 13 dL_act_1 (by decide) (fun h1 => ?_) (fun h1 => by exact absurd h1 (by decide))
  refine xg_iload_n C dL_act_13 rfl ?_
  refine xg_iconst C dL_act_14 (v := (1 : Int32)) (by decide) ?_
  refine xg_icmp_ne C 26 dL_act_15 (by decide) (fun h2 => ?_) (fun h2 => by exact absurd h2 (by decide))
  refine xg_iload_n C dL_act_26 rfl ?_
  refine xg_iconst C dL_act_27 (v := (2 : Int32)) (by decide) ?_
  refine xg_icmp_ne C 40 dL_act_28 (by decide) (fun h3 => ?_) (fun h3 => by exact absurd h3 (by decide))
  refine xg_iload_n C dL_act_40 rfl ?_
  refine xg_iconst C dL_act_41 (v := (3 : Int32)) (by decide) ?_
  refine xg_icmp_ne C 54 dL_act_42 (by decide) (fun h4 => by exact absurd h4 (by decide)) (fun h4 => ?_)
  refine xg_aload_n C dL_act_45 rfl ?_
  refine xg_iload_n C dL_act_46 rfl ?_
  refine xg_iload_n C dL_act_47 rfl ?_
  refine xg_callVx (X := xIA) C V Ev Tb (f := 0) (As := [.int a1, .int a2]) (fun l hl => kxX3_byHand l hl hsz hap a1 a2 S hbad) gL_act_X3_byHand rfl hdX3_byHand ⟨by decide, by decide⟩ rfl rfl rfl rfl rfl (Nat.le_of_ble_eq_true rfl) ⟨by decide, by decide⟩ dL_act_48 [] ⟨0, 104, 105, 35⟩ [⟨0, 104, 111, 37⟩] rfl (fun z hz => by cases hz) (by decide) (by decide) (List.mem_of_getElem? (i := 1) rfl) (by decide +kernel) (fun q9 => ?_)
  refine xg_astore C dL_act_105 (by decide) (L' := [some (.ref (G.2.2 0 0)), some (.int (3 : Int32)), some (.int a1), some (.int a2), some (.ref q9)]) rfl ?_
  refine xg_sipush C dL_act_107 (v := (-1232 : Int32)) (by decide) ?_
  exact xret_n E dL_act_110 rfl rfl (Nat.le_refl _) (Nat.le_refl _)
set_option maxRecDepth 100000 in
set_option maxHeartbeats 4000000 in
theorem kxL_act4 (l : Launch) {G : xG} (hlt : l.stackTraces = false) {Sa : Nat → Nat} {sz : Nat} (hsz : ∀ a : Nat, xA xYc G a → sz ≤ a) (hap : xAp xYc G) (a1 : Int32) (a2 : Int32) (S : xS) (hbad : ¬ (vp_in a1 8 ∧ (¬ a2 < (0 : Int32) ∧ a2 ≤ (3 : Int32)))) : xMn l xYc G Sa sz yL_act wsL_act 9 1 6 155 [.ref (G.2.2 0 0), .int (4 : Int32), .int a1, .int a2] S S (-1232 : Int32) := by
  refine xMnW_of (cc := cL_act) (maxL := 5) (hh := [(0, 104, 105, 35), (0, 104, 111, 37)]) (own := RL) hlt hsz [some (.ref (G.2.2 0 0)), some (.int (4 : Int32)), some (.int a1), some (.int a2), none] pnL rfl rfl (xcat1 rfl) (Nat.le_of_ble_eq_true rfl) rfl hap (fun F C V Ev Tb E => ?_)
  refine xg_iload_n C dL_act_0 rfl ?_
  refine xg_if_ne C 13 dL_act_1 (by decide) (fun h1 => ?_) (fun h1 => by exact absurd h1 (by decide))
  refine xg_iload_n C dL_act_13 rfl ?_
  refine xg_iconst C dL_act_14 (v := (1 : Int32)) (by decide) ?_
  refine xg_icmp_ne C 26 dL_act_15 (by decide) (fun h2 => ?_) (fun h2 => by exact absurd h2 (by decide))
  refine xg_iload_n C dL_act_26 rfl ?_
  refine xg_iconst C dL_act_27 (v := (2 : Int32)) (by decide) ?_
  refine xg_icmp_ne C 40 dL_act_28 (by decide) (fun h3 => ?_) (fun h3 => by exact absurd h3 (by decide))
  refine xg_iload_n C dL_act_40 rfl ?_
  refine xg_iconst C dL_act_41 (v := (3 : Int32)) (by decide) ?_
  refine xg_icmp_ne C 54 dL_act_42 (by decide) (fun h4 => ?_) (fun h4 => by exact absurd h4 (by decide))
  refine xg_iload_n C dL_act_54 rfl ?_
  refine xg_iconst C dL_act_55 (v := (4 : Int32)) (by decide) ?_
  refine xg_icmp_ne C 68 dL_act_56 (by decide) (fun h5 => by exact absurd h5 (by decide)) (fun h5 => ?_)
  refine xg_aload_n C dL_act_59 rfl ?_
  refine xg_iload_n C dL_act_60 rfl ?_
  refine xg_iload_n C dL_act_61 rfl ?_
  refine xg_callVx (X := xIA) C V Ev Tb (f := 0) (As := [.int a1, .int a2]) (fun l hl => kxX3_setGroup l hl hsz hap a1 a2 S hbad) gL_act_X3_setGroup rfl hdX3_setGroup ⟨by decide, by decide⟩ rfl rfl rfl rfl rfl (Nat.le_of_ble_eq_true rfl) ⟨by decide, by decide⟩ dL_act_62 [] ⟨0, 104, 105, 35⟩ [⟨0, 104, 111, 37⟩] rfl (fun z hz => by cases hz) (by decide) (by decide) (List.mem_of_getElem? (i := 1) rfl) (by decide +kernel) (fun q9 => ?_)
  refine xg_astore C dL_act_105 (by decide) (L' := [some (.ref (G.2.2 0 0)), some (.int (4 : Int32)), some (.int a1), some (.int a2), some (.ref q9)]) rfl ?_
  refine xg_sipush C dL_act_107 (v := (-1232 : Int32)) (by decide) ?_
  exact xret_n E dL_act_110 rfl rfl (Nat.le_refl _) (Nat.le_refl _)
set_option maxRecDepth 100000 in
set_option maxHeartbeats 4000000 in
theorem kxL_act1 (l : Launch) {G : xG} (hlt : l.stackTraces = false) {Sa : Nat → Nat} {sz : Nat} (hsz : ∀ a : Nat, xA xYc G a → sz ≤ a) (hap : xAp xYc G) (a1 : Int32) (a2 : Int32) (S : xS) (hbad : ¬ ((¬ a1 < (0 : Int32) ∧ a1 ≤ (1000 : Int32)))) : xMn l xYc G Sa sz yL_act wsL_act 8 1 6 134 [.ref (G.2.2 0 0), .int (1 : Int32), .int a1, .int a2] S S (-1232 : Int32) := by
  refine xMnW_of (cc := cL_act) (maxL := 5) (hh := [(0, 104, 105, 35), (0, 104, 111, 37)]) (own := RL) hlt hsz [some (.ref (G.2.2 0 0)), some (.int (1 : Int32)), some (.int a1), some (.int a2), none] pnL rfl rfl (xcat1 rfl) (Nat.le_of_ble_eq_true rfl) rfl hap (fun F C V Ev Tb E => ?_)
  refine xg_iload_n C dL_act_0 rfl ?_
  refine xg_if_ne C 13 dL_act_1 (by decide) (fun h1 => ?_) (fun h1 => by exact absurd h1 (by decide))
  refine xg_iload_n C dL_act_13 rfl ?_
  refine xg_iconst C dL_act_14 (v := (1 : Int32)) (by decide) ?_
  refine xg_icmp_ne C 26 dL_act_15 (by decide) (fun h2 => by exact absurd h2 (by decide)) (fun h2 => ?_)
  refine xg_aload_n C dL_act_18 rfl ?_
  refine xg_iload_n C dL_act_19 rfl ?_
  refine xg_callVx (X := xIA) C V Ev Tb (f := 0) (As := [.int a1]) (fun l hl => kxX3_setSource l hl hsz hap a1 S hbad) gL_act_X3_setSource rfl hdX3_setSource ⟨by decide, by decide⟩ rfl rfl rfl rfl rfl (Nat.le_of_ble_eq_true rfl) ⟨by decide, by decide⟩ dL_act_20 [] ⟨0, 104, 105, 35⟩ [⟨0, 104, 111, 37⟩] rfl (fun z hz => by cases hz) (by decide) (by decide) (List.mem_of_getElem? (i := 1) rfl) (by decide +kernel) (fun q9 => ?_)
  refine xg_astore C dL_act_105 (by decide) (L' := [some (.ref (G.2.2 0 0)), some (.int (1 : Int32)), some (.int a1), some (.int a2), some (.ref q9)]) rfl ?_
  refine xg_sipush C dL_act_107 (v := (-1232 : Int32)) (by decide) ?_
  exact xret_n E dL_act_110 rfl rfl (Nat.le_refl _) (Nat.le_refl _)
set_option maxRecDepth 100000 in
set_option maxHeartbeats 4000000 in
theorem kxL_act5 (l : Launch) {G : xG} (hlt : l.stackTraces = false) {Sa : Nat → Nat} {sz : Nat} (hsz : ∀ a : Nat, xA xYc G a → sz ≤ a) (hap : xAp xYc G) (a1 : Int32) (S : xS) (hbad : ¬ (vp_in a1 8)) : xMn l xYc G Sa sz yL_act wsL_act 9 1 6 155 [.ref (G.2.2 0 0), .int (5 : Int32), .int a1, .int (1 : Int32)] S S (-1232 : Int32) := by
  refine xMnW_of (cc := cL_act) (maxL := 5) (hh := [(0, 104, 105, 35), (0, 104, 111, 37)]) (own := RL) hlt hsz [some (.ref (G.2.2 0 0)), some (.int (5 : Int32)), some (.int a1), some (.int (1 : Int32)), none] pnL rfl rfl (xcat1 rfl) (Nat.le_of_ble_eq_true rfl) rfl hap (fun F C V Ev Tb E => ?_)
  refine xg_iload_n C dL_act_0 rfl ?_
  refine xg_if_ne C 13 dL_act_1 (by decide) (fun h1 => ?_) (fun h1 => by exact absurd h1 (by decide))
  refine xg_iload_n C dL_act_13 rfl ?_
  refine xg_iconst C dL_act_14 (v := (1 : Int32)) (by decide) ?_
  refine xg_icmp_ne C 26 dL_act_15 (by decide) (fun h2 => ?_) (fun h2 => by exact absurd h2 (by decide))
  refine xg_iload_n C dL_act_26 rfl ?_
  refine xg_iconst C dL_act_27 (v := (2 : Int32)) (by decide) ?_
  refine xg_icmp_ne C 40 dL_act_28 (by decide) (fun h3 => ?_) (fun h3 => by exact absurd h3 (by decide))
  refine xg_iload_n C dL_act_40 rfl ?_
  refine xg_iconst C dL_act_41 (v := (3 : Int32)) (by decide) ?_
  refine xg_icmp_ne C 54 dL_act_42 (by decide) (fun h4 => ?_) (fun h4 => by exact absurd h4 (by decide))
  refine xg_iload_n C dL_act_54 rfl ?_
  refine xg_iconst C dL_act_55 (v := (4 : Int32)) (by decide) ?_
  refine xg_icmp_ne C 68 dL_act_56 (by decide) (fun h5 => ?_) (fun h5 => by exact absurd h5 (by decide))
  refine xg_iload_n C dL_act_68 rfl ?_
  refine xg_iconst C dL_act_69 (v := (5 : Int32)) (by decide) ?_
  refine xg_icmp_ne C 99 dL_act_70 (by decide) (fun h6 => by exact absurd h6 (by decide)) (fun h6 => ?_)
  refine xg_aload_n C dL_act_73 rfl ?_
  refine xg_iload_n C dL_act_74 rfl ?_
  refine xg_iload_n C dL_act_75 rfl ?_
  refine xg_iconst C dL_act_76 (v := (1 : Int32)) (by decide) ?_
  refine xg_icmp_ne C 84 dL_act_77 (by decide) (fun h7 => by exact absurd h7 (by decide)) (fun h7 => ?_)
  refine xg_iconst C dL_act_80 (v := (1 : Int32)) (by decide) ?_
  refine xg_goto C 85 dL_act_81 (by decide) ?_
  refine xg_callVx (X := xIA) C V Ev Tb (f := 0) (As := [.int a1, .int (1 : Int32)]) (fun l hl => kxX3_setStuck l hl hsz hap a1 (1 : Int32) S hbad) gL_act_X3_setStuck rfl hdX3_setStuck ⟨by decide, by decide⟩ rfl rfl rfl rfl rfl (Nat.le_of_ble_eq_true rfl) ⟨by decide, by decide⟩ dL_act_85 [] ⟨0, 104, 105, 35⟩ [⟨0, 104, 111, 37⟩] rfl (fun z hz => by cases hz) (by decide) (by decide) (List.mem_of_getElem? (i := 1) rfl) (by decide +kernel) (fun q9 => ?_)
  refine xg_astore C dL_act_105 (by decide) (L' := [some (.ref (G.2.2 0 0)), some (.int (5 : Int32)), some (.int a1), some (.int (1 : Int32)), some (.ref q9)]) rfl ?_
  refine xg_sipush C dL_act_107 (v := (-1232 : Int32)) (by decide) ?_
  exact xret_n E dL_act_110 rfl rfl (Nat.le_refl _) (Nat.le_refl _)
set_option maxRecDepth 100000 in
set_option maxHeartbeats 4000000 in
theorem kxL_act6 (l : Launch) {G : xG} (hlt : l.stackTraces = false) {Sa : Nat → Nat} {sz : Nat} (hsz : ∀ a : Nat, xA xYc G a → sz ≤ a) (hap : xAp xYc G) (a1 : Int32) (a2 : Int32) (S : xS) (hbad : ¬ ((¬ a1 < (1 : Int32) ∧ a1 ≤ (100 : Int32)))) : xMn l xYc G Sa sz yL_act wsL_act 8 1 6 135 [.ref (G.2.2 0 0), .int (6 : Int32), .int a1, .int a2] S S (-1232 : Int32) := by
  refine xMnW_of (cc := cL_act) (maxL := 5) (hh := [(0, 104, 105, 35), (0, 104, 111, 37)]) (own := RL) hlt hsz [some (.ref (G.2.2 0 0)), some (.int (6 : Int32)), some (.int a1), some (.int a2), none] pnL rfl rfl (xcat1 rfl) (Nat.le_of_ble_eq_true rfl) rfl hap (fun F C V Ev Tb E => ?_)
  refine xg_iload_n C dL_act_0 rfl ?_
  refine xg_if_ne C 13 dL_act_1 (by decide) (fun h1 => ?_) (fun h1 => by exact absurd h1 (by decide))
  refine xg_iload_n C dL_act_13 rfl ?_
  refine xg_iconst C dL_act_14 (v := (1 : Int32)) (by decide) ?_
  refine xg_icmp_ne C 26 dL_act_15 (by decide) (fun h2 => ?_) (fun h2 => by exact absurd h2 (by decide))
  refine xg_iload_n C dL_act_26 rfl ?_
  refine xg_iconst C dL_act_27 (v := (2 : Int32)) (by decide) ?_
  refine xg_icmp_ne C 40 dL_act_28 (by decide) (fun h3 => ?_) (fun h3 => by exact absurd h3 (by decide))
  refine xg_iload_n C dL_act_40 rfl ?_
  refine xg_iconst C dL_act_41 (v := (3 : Int32)) (by decide) ?_
  refine xg_icmp_ne C 54 dL_act_42 (by decide) (fun h4 => ?_) (fun h4 => by exact absurd h4 (by decide))
  refine xg_iload_n C dL_act_54 rfl ?_
  refine xg_iconst C dL_act_55 (v := (4 : Int32)) (by decide) ?_
  refine xg_icmp_ne C 68 dL_act_56 (by decide) (fun h5 => ?_) (fun h5 => by exact absurd h5 (by decide))
  refine xg_iload_n C dL_act_68 rfl ?_
  refine xg_iconst C dL_act_69 (v := (5 : Int32)) (by decide) ?_
  refine xg_icmp_ne C 99 dL_act_70 (by decide) (fun h6 => ?_) (fun h6 => by exact absurd h6 (by decide))
  refine xg_aload_n C dL_act_99 rfl ?_
  refine xg_iload_n C dL_act_100 rfl ?_
  refine xg_callVx (X := xIA) C V Ev Tb (f := 0) (As := [.int a1]) (fun l hl => kxX3_tick l hl hsz hap a1 S hbad) gL_act_X3_tick rfl hdX3_tick ⟨by decide, by decide⟩ rfl rfl rfl rfl rfl (Nat.le_of_ble_eq_true rfl) ⟨by decide, by decide⟩ dL_act_101 [] ⟨0, 104, 105, 35⟩ [⟨0, 104, 111, 37⟩] rfl (fun z hz => by cases hz) (by decide) (by decide) (List.mem_of_getElem? (i := 1) rfl) (by decide +kernel) (fun q9 => ?_)
  refine xg_astore C dL_act_105 (by decide) (L' := [some (.ref (G.2.2 0 0)), some (.int (6 : Int32)), some (.int a1), some (.int a2), some (.ref q9)]) rfl ?_
  refine xg_sipush C dL_act_107 (v := (-1232 : Int32)) (by decide) ?_
  exact xret_n E dL_act_110 rfl rfl (Nat.le_refl _) (Nat.le_refl _)
set_option maxRecDepth 100000 in
set_option maxHeartbeats 4000000 in
theorem kxL_shaped (l : Launch) {G : xG} (hlt : l.stackTraces = false) {Sa : Nat → Nat} {sz : Nat} (hsz : ∀ a : Nat, xA xYc G a → sz ≤ a) (hap : xAp xYc G) (a1 : Int32) (a2 : Int32) (a3 : Int32) (S : xS) (hbad : ¬ (vp_in a1 8 ∧ (¬ a2 < (1 : Int32) ∧ a2 ≤ (100 : Int32)) ∧ (¬ a3 < (1 : Int32) ∧ a3 ≤ (1000 : Int32)))) : xMn l xYc G Sa sz yL_shaped wsL_shaped 9 1 6 155 [.ref (G.2.2 0 0), .int a1, .int a2, .int a3] S S (-1232 : Int32) := by
  refine xMnW_of (cc := cL_shaped) (maxL := 5) (hh := [(0, 8, 9, 35)]) (own := RL) hlt hsz [some (.ref (G.2.2 0 0)), some (.int a1), some (.int a2), some (.int a3), none] pnL rfl rfl (xcat1 rfl) (Nat.le_of_ble_eq_true rfl) rfl hap (fun F C V Ev Tb E => ?_)
  refine xg_aload_n C dL_shaped_0 rfl ?_
  refine xg_iload_n C dL_shaped_1 rfl ?_
  refine xg_iload_n C dL_shaped_2 rfl ?_
  refine xg_iload_n C dL_shaped_3 rfl ?_
  refine xg_callVx (X := xIA) C V Ev Tb (f := 0) (As := [.int a1, .int a2, .int a3]) (fun l hl => kxX3_shape l hl hsz hap a1 a2 a3 S hbad) gL_shaped_X3_shape rfl hdX3_shape ⟨by decide, by decide⟩ rfl rfl rfl rfl rfl (Nat.le_of_ble_eq_true rfl) ⟨by decide, by decide⟩ dL_shaped_4 [] ⟨0, 8, 9, 35⟩ [] rfl (fun z hz => by cases hz) (by decide) (by decide) (List.mem_of_getElem? (i := 1) rfl) (by decide +kernel) (fun q9 => ?_)
  refine xg_astore C dL_shaped_9 (by decide) (L' := [some (.ref (G.2.2 0 0)), some (.int a1), some (.int a2), some (.int a3), some (.ref q9)]) rfl ?_
  refine xg_sipush C dL_shaped_11 (v := (-1232 : Int32)) (by decide) ?_
  exact xret_n E dL_shaped_14 rfl rfl (Nat.le_refl _) (Nat.le_refl _)
set_option maxRecDepth 100000 in
set_option maxHeartbeats 4000000 in
theorem kxL_ruled (l : Launch) {G : xG} (hlt : l.stackTraces = false) {Sa : Nat → Nat} {sz : Nat} (hsz : ∀ a : Nat, xA xYc G a → sz ≤ a) (hap : xAp xYc G) (a1 : Int32) (a2 : Int32) (a3 : Int32) (a4 : Int32) (a5 : Int32) (S : xS) (hbad : ¬ (vp_in a1 8 ∧ (¬ a2 < (0 : Int32) ∧ a2 ≤ (1000 : Int32)) ∧ (¬ a3 < a2 ∧ a3 ≤ (1000 : Int32)) ∧ (¬ a4 < (0 : Int32) ∧ a4 ≤ (1000 : Int32)) ∧ (¬ a5 < (0 : Int32) ∧ a5 ≤ (100 : Int32)))) : xMn l xYc G Sa sz yL_ruled wsL_ruled 9 1 6 157 [.ref (G.2.2 0 0), .int a1, .int a2, .int a3, .int a4, .int a5] S S (-1232 : Int32) := by
  refine xMnW_of (cc := cL_ruled) (maxL := 7) (hh := [(0, 12, 13, 35)]) (own := RL) hlt hsz [some (.ref (G.2.2 0 0)), some (.int a1), some (.int a2), some (.int a3), some (.int a4), some (.int a5), none] pnL rfl rfl (xcat1 rfl) (Nat.le_of_ble_eq_true rfl) rfl hap (fun F C V Ev Tb E => ?_)
  refine xg_aload_n C dL_ruled_0 rfl ?_
  refine xg_iload_n C dL_ruled_1 rfl ?_
  refine xg_iload_n C dL_ruled_2 rfl ?_
  refine xg_iload_n C dL_ruled_3 rfl ?_
  refine xg_iload C dL_ruled_4 rfl ?_
  refine xg_iload C dL_ruled_6 rfl ?_
  refine xg_callVx (X := xIA) C V Ev Tb (f := 0) (As := [.int a1, .int a2, .int a3, .int a4, .int a5]) (fun l hl => kxX3_setRule l hl hsz hap a1 a2 a3 a4 a5 S hbad) gL_ruled_X3_setRule rfl hdX3_setRule ⟨by decide, by decide⟩ rfl rfl rfl rfl rfl (Nat.le_of_ble_eq_true rfl) ⟨by decide, by decide⟩ dL_ruled_8 [] ⟨0, 12, 13, 35⟩ [] rfl (fun z hz => by cases hz) (by decide) (by decide) (List.mem_of_getElem? (i := 1) rfl) (by decide +kernel) (fun q9 => ?_)
  refine xg_astore C dL_ruled_13 (by decide) (L' := [some (.ref (G.2.2 0 0)), some (.int a1), some (.int a2), some (.int a3), some (.int a4), some (.int a5), some (.ref q9)]) rfl ?_
  refine xg_sipush C dL_ruled_15 (v := (-1232 : Int32)) (by decide) ?_
  exact xret_n E dL_ruled_18 rfl rfl (Nat.le_refl _) (Nat.le_refl _)
set_option maxRecDepth 100000 in
set_option maxHeartbeats 4000000 in
theorem kxL_timed (l : Launch) {G : xG} (hlt : l.stackTraces = false) {Sa : Nat → Nat} {sz : Nat} (hsz : ∀ a : Nat, xA xYc G a → sz ≤ a) (hap : xAp xYc G) (a1 : Int32) (a2 : Int32) (S : xS) (hbad : ¬ ((¬ a1 < (1 : Int32) ∧ a1 ≤ (50 : Int32)) ∧ (¬ a2 < a1 ∧ a2 ≤ (100 : Int32)))) : xMn l xYc G Sa sz yL_timed wsL_timed 8 1 6 134 [.ref (G.2.2 0 0), .int a1, .int a2] S S (-1232 : Int32) := by
  refine xMnW_of (cc := cL_timed) (maxL := 4) (hh := [(0, 7, 8, 35)]) (own := RL) hlt hsz [some (.ref (G.2.2 0 0)), some (.int a1), some (.int a2), none] pnL rfl rfl (xcat1 rfl) (Nat.le_of_ble_eq_true rfl) rfl hap (fun F C V Ev Tb E => ?_)
  refine xg_aload_n C dL_timed_0 rfl ?_
  refine xg_iload_n C dL_timed_1 rfl ?_
  refine xg_iload_n C dL_timed_2 rfl ?_
  refine xg_callVx (X := xIA) C V Ev Tb (f := 0) (As := [.int a1, .int a2]) (fun l hl => kxX3_setTimes l hl hsz hap a1 a2 S hbad) gL_timed_X3_setTimes rfl hdX3_setTimes ⟨by decide, by decide⟩ rfl rfl rfl rfl rfl (Nat.le_of_ble_eq_true rfl) ⟨by decide, by decide⟩ dL_timed_3 [] ⟨0, 7, 8, 35⟩ [] rfl (fun z hz => by cases hz) (by decide) (by decide) (List.mem_of_getElem? (i := 1) rfl) (by decide +kernel) (fun q9 => ?_)
  refine xg_astore_n C dL_timed_8 (by decide) (L' := [some (.ref (G.2.2 0 0)), some (.int a1), some (.int a2), some (.ref q9)]) rfl ?_
  refine xg_sipush C dL_timed_9 (v := (-1232 : Int32)) (by decide) ?_
  exact xret_n E dL_timed_12 rfl rfl (Nat.le_refl _) (Nat.le_refl _)
set_option maxRecDepth 100000 in
set_option maxHeartbeats 4000000 in
theorem kxL_fallen (l : Launch) {G : xG} (hlt : l.stackTraces = false) {Sa : Nat → Nat} {sz : Nat} (hsz : ∀ a : Nat, xA xYc G a → sz ≤ a) (hap : xAp xYc G) (a1 : Int32) (S : xS) (hbad : ¬ (vp_in a1 8)) : xMn l xYc G Sa sz yL_fallen wsL_fallen 9 1 6 153 [.ref (G.2.2 0 0), .int a1] S S (-1232 : Int32) := by
  refine xMnW_of (cc := cL_fallen) (maxL := 3) (hh := [(0, 6, 7, 35), (0, 6, 12, 37)]) (own := RL) hlt hsz [some (.ref (G.2.2 0 0)), some (.int a1), none] pnL rfl rfl (xcat1 rfl) (Nat.le_of_ble_eq_true rfl) rfl hap (fun F C V Ev Tb E => ?_)
  refine xg_aload_n C dL_fallen_0 rfl ?_
  refine xg_iload_n C dL_fallen_1 rfl ?_
  refine xg_callVx (X := xIA) C V Ev Tb (f := 0) (As := [.int a1]) (fun l hl => kxX3_fall l hl hsz hap a1 S hbad) gL_fallen_X3_fall rfl hdX3_fall ⟨by decide, by decide⟩ rfl rfl rfl rfl rfl (Nat.le_of_ble_eq_true rfl) ⟨by decide, by decide⟩ dL_fallen_2 [] ⟨0, 6, 7, 35⟩ [⟨0, 6, 12, 37⟩] rfl (fun z hz => by cases hz) (by decide) (by decide) (List.mem_of_getElem? (i := 1) rfl) (by decide +kernel) (fun q9 => ?_)
  refine xg_astore_n C dL_fallen_7 (by decide) (L' := [some (.ref (G.2.2 0 0)), some (.int a1), some (.ref q9)]) rfl ?_
  refine xg_sipush C dL_fallen_8 (v := (-1232 : Int32)) (by decide) ?_
  exact xret_n E dL_fallen_11 rfl rfl (Nat.le_refl _) (Nat.le_refl _)
set_option maxRecDepth 100000 in
set_option maxHeartbeats 4000000 in
theorem kxL_risen (l : Launch) {G : xG} (hlt : l.stackTraces = false) {Sa : Nat → Nat} {sz : Nat} (hsz : ∀ a : Nat, xA xYc G a → sz ≤ a) (hap : xAp xYc G) (a1 : Int32) (S : xS) (hbad : ¬ (vp_in a1 8)) : xMn l xYc G Sa sz yL_risen wsL_risen 9 1 6 153 [.ref (G.2.2 0 0), .int a1] S S (-1232 : Int32) := by
  refine xMnW_of (cc := cL_risen) (maxL := 3) (hh := [(0, 6, 7, 35), (0, 6, 12, 37)]) (own := RL) hlt hsz [some (.ref (G.2.2 0 0)), some (.int a1), none] pnL rfl rfl (xcat1 rfl) (Nat.le_of_ble_eq_true rfl) rfl hap (fun F C V Ev Tb E => ?_)
  refine xg_aload_n C dL_risen_0 rfl ?_
  refine xg_iload_n C dL_risen_1 rfl ?_
  refine xg_callVx (X := xIA) C V Ev Tb (f := 0) (As := [.int a1]) (fun l hl => kxX3_comeUp l hl hsz hap a1 S hbad) gL_risen_X3_comeUp rfl hdX3_comeUp ⟨by decide, by decide⟩ rfl rfl rfl rfl rfl (Nat.le_of_ble_eq_true rfl) ⟨by decide, by decide⟩ dL_risen_2 [] ⟨0, 6, 7, 35⟩ [⟨0, 6, 12, 37⟩] rfl (fun z hz => by cases hz) (by decide) (by decide) (List.mem_of_getElem? (i := 1) rfl) (by decide +kernel) (fun q9 => ?_)
  refine xg_astore_n C dL_risen_7 (by decide) (L' := [some (.ref (G.2.2 0 0)), some (.int a1), some (.ref q9)]) rfl ?_
  refine xg_sipush C dL_risen_8 (v := (-1232 : Int32)) (by decide) ?_
  exact xret_n E dL_risen_11 rfl rfl (Nat.le_refl _) (Nat.le_refl _)
set_option maxRecDepth 100000 in
set_option maxHeartbeats 4000000 in
theorem kxL_act3s (l : Launch) {G : xG} (hlt : l.stackTraces = false) {Sa : Nat → Nat} {sz : Nat} (hsz : ∀ a : Nat, xA xYc G a → sz ≤ a) (hap : xAp xYc G) (a1 : Int32) (a2 : Int32) (S : xS) (g_a1 : vp_in a1 8) (v1 : ¬ a2 < (-1 : Int32)) (w1 : a2 ≤ (10 : Int32)) (ha : a2 = (-1 : Int32)) (hc : S 18 0 a1 = (0 : Int32)) : xMn l xYc G Sa sz yL_act wsL_act 7 1 6 113 [.ref (G.2.2 0 0), .int (3 : Int32), .int a1, .int a2] S S (-1233 : Int32) := by
  refine xMnW_of (cc := cL_act) (maxL := 5) (hh := [(0, 104, 105, 35), (0, 104, 111, 37)]) (own := RL) hlt hsz [some (.ref (G.2.2 0 0)), some (.int (3 : Int32)), some (.int a1), some (.int a2), none] pnL rfl rfl (xcat1 rfl) (Nat.le_of_ble_eq_true rfl) rfl hap (fun F C V Ev Tb E => ?_)
  refine xg_iload_n C dL_act_0 rfl ?_
  refine xg_if_ne C 13 dL_act_1 (by decide) (fun h1 => ?_) (fun h1 => by exact absurd h1 (by decide))
  refine xg_iload_n C dL_act_13 rfl ?_
  refine xg_iconst C dL_act_14 (v := (1 : Int32)) (by decide) ?_
  refine xg_icmp_ne C 26 dL_act_15 (by decide) (fun h2 => ?_) (fun h2 => by exact absurd h2 (by decide))
  refine xg_iload_n C dL_act_26 rfl ?_
  refine xg_iconst C dL_act_27 (v := (2 : Int32)) (by decide) ?_
  refine xg_icmp_ne C 40 dL_act_28 (by decide) (fun h3 => ?_) (fun h3 => by exact absurd h3 (by decide))
  refine xg_iload_n C dL_act_40 rfl ?_
  refine xg_iconst C dL_act_41 (v := (3 : Int32)) (by decide) ?_
  refine xg_icmp_ne C 54 dL_act_42 (by decide) (fun h4 => by exact absurd h4 (by decide)) (fun h4 => ?_)
  refine xg_aload_n C dL_act_45 rfl ?_
  refine xg_iload_n C dL_act_46 rfl ?_
  refine xg_iload_n C dL_act_47 rfl ?_
  refine xg_callVx (X := xIS) C V Ev Tb (f := 0) (As := [.int a1, .int a2]) (fun l hl => kyX3_byHand l hl hsz hap a1 a2 S g_a1 v1 w1 ha hc) gL_act_X3_byHand rfl hdX3_byHand ⟨by decide, by decide⟩ rfl rfl rfl rfl rfl (Nat.le_of_ble_eq_true rfl) ⟨by decide, by decide⟩ dL_act_48 [⟨0, 104, 105, 35⟩] ⟨0, 104, 111, 37⟩ [] rfl (fun z hz => by obtain rfl := List.mem_singleton.mp hz; exact ⟨by decide, (List.mem_of_getElem? (i := 1) rfl), rfl⟩) (by decide) (by decide) (List.mem_of_getElem? (i := 2) rfl) (by decide +kernel) (fun q9 => ?_)
  refine xg_astore C dL_act_111 (by decide) (L' := [some (.ref (G.2.2 0 0)), some (.int (3 : Int32)), some (.int a1), some (.int a2), some (.ref q9)]) rfl ?_
  refine xg_sipush C dL_act_113 (v := (-1233 : Int32)) (by decide) ?_
  exact xret_n E dL_act_116 rfl rfl (Nat.le_refl _) (Nat.le_refl _)
set_option maxRecDepth 100000 in
set_option maxHeartbeats 4000000 in
theorem kxL_fallens (l : Launch) {G : xG} (hlt : l.stackTraces = false) {Sa : Nat → Nat} {sz : Nat} (hsz : ∀ a : Nat, xA xYc G a → sz ≤ a) (hap : xAp xYc G) (a1 : Int32) (S : xS) (g_a1 : vp_in a1 8) (hd : ¬ S 19 0 a1 = (0 : Int32)) : xMn l xYc G Sa sz yL_fallen wsL_fallen 7 1 6 111 [.ref (G.2.2 0 0), .int a1] S S (-1233 : Int32) := by
  refine xMnW_of (cc := cL_fallen) (maxL := 3) (hh := [(0, 6, 7, 35), (0, 6, 12, 37)]) (own := RL) hlt hsz [some (.ref (G.2.2 0 0)), some (.int a1), none] pnL rfl rfl (xcat1 rfl) (Nat.le_of_ble_eq_true rfl) rfl hap (fun F C V Ev Tb E => ?_)
  refine xg_aload_n C dL_fallen_0 rfl ?_
  refine xg_iload_n C dL_fallen_1 rfl ?_
  refine xg_callVx (X := xIS) C V Ev Tb (f := 0) (As := [.int a1]) (fun l hl => kyX3_fall l hl hsz hap a1 S g_a1 hd) gL_fallen_X3_fall rfl hdX3_fall ⟨by decide, by decide⟩ rfl rfl rfl rfl rfl (Nat.le_of_ble_eq_true rfl) ⟨by decide, by decide⟩ dL_fallen_2 [⟨0, 6, 7, 35⟩] ⟨0, 6, 12, 37⟩ [] rfl (fun z hz => by obtain rfl := List.mem_singleton.mp hz; exact ⟨by decide, (List.mem_of_getElem? (i := 1) rfl), rfl⟩) (by decide) (by decide) (List.mem_of_getElem? (i := 2) rfl) (by decide +kernel) (fun q9 => ?_)
  refine xg_astore_n C dL_fallen_12 (by decide) (L' := [some (.ref (G.2.2 0 0)), some (.int a1), some (.ref q9)]) rfl ?_
  refine xg_sipush C dL_fallen_13 (v := (-1233 : Int32)) (by decide) ?_
  exact xret_n E dL_fallen_16 rfl rfl (Nat.le_refl _) (Nat.le_refl _)
set_option maxRecDepth 100000 in
set_option maxHeartbeats 4000000 in
theorem kxL_risens (l : Launch) {G : xG} (hlt : l.stackTraces = false) {Sa : Nat → Nat} {sz : Nat} (hsz : ∀ a : Nat, xA xYc G a → sz ≤ a) (hap : xAp xYc G) (a1 : Int32) (S : xS) (g_a1 : vp_in a1 8) (hd : S 19 0 a1 = (0 : Int32)) : xMn l xYc G Sa sz yL_risen wsL_risen 7 1 6 111 [.ref (G.2.2 0 0), .int a1] S S (-1233 : Int32) := by
  refine xMnW_of (cc := cL_risen) (maxL := 3) (hh := [(0, 6, 7, 35), (0, 6, 12, 37)]) (own := RL) hlt hsz [some (.ref (G.2.2 0 0)), some (.int a1), none] pnL rfl rfl (xcat1 rfl) (Nat.le_of_ble_eq_true rfl) rfl hap (fun F C V Ev Tb E => ?_)
  refine xg_aload_n C dL_risen_0 rfl ?_
  refine xg_iload_n C dL_risen_1 rfl ?_
  refine xg_callVx (X := xIS) C V Ev Tb (f := 0) (As := [.int a1]) (fun l hl => kyX3_comeUp l hl hsz hap a1 S g_a1 hd) gL_risen_X3_comeUp rfl hdX3_comeUp ⟨by decide, by decide⟩ rfl rfl rfl rfl rfl (Nat.le_of_ble_eq_true rfl) ⟨by decide, by decide⟩ dL_risen_2 [⟨0, 6, 7, 35⟩] ⟨0, 6, 12, 37⟩ [] rfl (fun z hz => by obtain rfl := List.mem_singleton.mp hz; exact ⟨by decide, (List.mem_of_getElem? (i := 1) rfl), rfl⟩) (by decide) (by decide) (List.mem_of_getElem? (i := 2) rfl) (by decide +kernel) (fun q9 => ?_)
  refine xg_astore_n C dL_risen_12 (by decide) (L' := [some (.ref (G.2.2 0 0)), some (.int a1), some (.ref q9)]) rfl ?_
  refine xg_sipush C dL_risen_13 (v := (-1233 : Int32)) (by decide) ?_
  exact xret_n E dL_risen_16 rfl rfl (Nat.le_refl _) (Nat.le_refl _)
theorem hdL_of : yL_of.cls ≠ "java/lang/invoke/MethodHandle" ∧ yL_of.cls ≠ "java/lang/invoke/VarHandle" ∧ (parseMethodDescriptor yL_of.desc).map (fun d => d.parameters.length) = some 4 := by decide +kernel
set_option maxRecDepth 100000 in
set_option maxHeartbeats 4000000 in
theorem kxL_ofA (l : Launch) {G : xG} (hlt : l.stackTraces = false) {Sa : Nat → Nat} {sz : Nat} (hsz : ∀ a : Nat, xA xYc G a → sz ≤ a) (hap : xAp xYc G) (a0 : Int32) (a1 : Int32) (a2 : Int32) (S : xS) (hn : ¬ vp_in a1 8) : xMn l xYc G Sa sz yL_of wsL_of 9 1 6 154 [.ref (G.2.2 0 0), .int a0, .int a1, .int a2] S S (-1232 : Int32) := by
  refine xMnW_of (cc := cL_of) (maxL := 5) (hh := [(0, 199, 200, 35)]) (own := RL) hlt hsz [some (.ref (G.2.2 0 0)), some (.int a0), some (.int a1), some (.int a2), none] pnL rfl rfl (xcat1 rfl) (Nat.le_of_ble_eq_true rfl) rfl hap (fun F C V Ev Tb E => ?_)
  refine xg_iload_n C dL_of_0 rfl ?_
  refine xg_if_ne C 12 dL_of_1 (by decide) (fun h1 => ?_) (fun h1 => ?_)
  · refine xg_iload_n C dL_of_12 rfl ?_
    refine xg_iconst C dL_of_13 (v := (1 : Int32)) (by decide) ?_
    refine xg_icmp_ne C 25 dL_of_14 (by decide) (fun h2 => ?_) (fun h2 => ?_)
    · refine xg_iload_n C dL_of_25 rfl ?_
      refine xg_iconst C dL_of_26 (v := (2 : Int32)) (by decide) ?_
      refine xg_icmp_ne C 38 dL_of_27 (by decide) (fun h3 => ?_) (fun h3 => ?_)
      · refine xg_iload_n C dL_of_38 rfl ?_
        refine xg_iconst C dL_of_39 (v := (3 : Int32)) (by decide) ?_
        refine xg_icmp_ne C 51 dL_of_40 (by decide) (fun h4 => ?_) (fun h4 => ?_)
        · refine xg_iload_n C dL_of_51 rfl ?_
          refine xg_iconst C dL_of_52 (v := (4 : Int32)) (by decide) ?_
          refine xg_icmp_ne C 64 dL_of_53 (by decide) (fun h5 => ?_) (fun h5 => ?_)
          · refine xg_iload_n C dL_of_64 rfl ?_
            refine xg_iconst C dL_of_65 (v := (5 : Int32)) (by decide) ?_
            refine xg_icmp_ne C 77 dL_of_66 (by decide) (fun h6 => ?_) (fun h6 => ?_)
            · refine xg_iload_n C dL_of_77 rfl ?_
              refine xg_bipush C dL_of_78 (v := (6 : Int32)) (by decide) ?_
              refine xg_icmp_ne C 91 dL_of_80 (by decide) (fun h7 => ?_) (fun h7 => ?_)
              · refine xg_iload_n C dL_of_91 rfl ?_
                refine xg_bipush C dL_of_92 (v := (7 : Int32)) (by decide) ?_
                refine xg_icmp_ne C 105 dL_of_94 (by decide) (fun h8 => ?_) (fun h8 => ?_)
                · refine xg_iload_n C dL_of_105 rfl ?_
                  refine xg_bipush C dL_of_106 (v := (8 : Int32)) (by decide) ?_
                  refine xg_icmp_ne C 119 dL_of_108 (by decide) (fun h9 => ?_) (fun h9 => ?_)
                  · refine xg_iload_n C dL_of_119 rfl ?_
                    refine xg_bipush C dL_of_120 (v := (9 : Int32)) (by decide) ?_
                    refine xg_icmp_ne C 133 dL_of_122 (by decide) (fun h10 => ?_) (fun h10 => ?_)
                    · refine xg_iload_n C dL_of_133 rfl ?_
                      refine xg_bipush C dL_of_134 (v := (10 : Int32)) (by decide) ?_
                      refine xg_icmp_ne C 148 dL_of_136 (by decide) (fun h11 => ?_) (fun h11 => ?_)
                      · refine xg_iload_n C dL_of_148 rfl ?_
                        refine xg_bipush C dL_of_149 (v := (11 : Int32)) (by decide) ?_
                        refine xg_icmp_ne C 163 dL_of_151 (by decide) (fun h12 => ?_) (fun h12 => ?_)
                        · refine xg_iload_n C dL_of_163 rfl ?_
                          refine xg_bipush C dL_of_164 (v := (12 : Int32)) (by decide) ?_
                          refine xg_icmp_ne C 178 dL_of_166 (by decide) (fun h13 => ?_) (fun h13 => ?_)
                          · refine xg_iload_n C dL_of_178 rfl ?_
                            refine xg_bipush C dL_of_179 (v := (13 : Int32)) (by decide) ?_
                            refine xg_icmp_ne C 193 dL_of_181 (by decide) (fun h14 => ?_) (fun h14 => ?_)
                            · refine xg_aload_n C dL_of_193 rfl ?_
                              refine xg_iload_n C dL_of_194 rfl ?_
                              refine xg_iload_n C dL_of_195 rfl ?_
                              refine xg_callVx (X := xIA) C V Ev Tb (f := 0) (As := [.int a1, .int a2]) (fun l hl => kxX3_status l hl hsz hap a1 a2 S (fun z => hn z.1)) gL_of_X3_status rfl hdX3_status ⟨by decide, by decide⟩ rfl rfl rfl rfl rfl (Nat.le_of_ble_eq_true rfl) ⟨by decide, by decide⟩ dL_of_196 [] ⟨0, 199, 200, 35⟩ [] rfl (fun z hz => by cases hz) (by decide) (by decide) (List.mem_of_getElem? (i := 1) rfl) (by decide +kernel) (fun q9 => ?_)
                              refine xg_astore C dL_of_200 (by decide) (L' := [some (.ref (G.2.2 0 0)), some (.int a0), some (.int a1), some (.int a2), some (.ref q9)]) rfl ?_
                              refine xg_sipush C dL_of_202 (v := (-1232 : Int32)) (by decide) ?_
                              exact xret_n E dL_of_205 rfl rfl (Nat.le_refl _) (Nat.le_refl _)
                            · refine xg_aload_n C dL_of_184 rfl ?_
                              refine xg_iload_n C dL_of_185 rfl ?_
                              refine xg_iload_n C dL_of_186 rfl ?_
                              refine xg_callVx (X := xIA) C V Ev Tb (f := 0) (As := [.int a1, .int a2]) (fun l hl => kxX3_beat l hl hsz hap a1 a2 S (fun z => hn z.1)) gL_of_X3_beat rfl hdX3_beat ⟨by decide, by decide⟩ rfl rfl rfl rfl rfl (Nat.le_of_ble_eq_true rfl) ⟨by decide, by decide⟩ dL_of_187 [] ⟨0, 199, 200, 35⟩ [] rfl (fun z hz => by cases hz) (by decide) (by decide) (List.mem_of_getElem? (i := 1) rfl) (by decide +kernel) (fun q9 => ?_)
                              refine xg_astore C dL_of_200 (by decide) (L' := [some (.ref (G.2.2 0 0)), some (.int a0), some (.int a1), some (.int a2), some (.ref q9)]) rfl ?_
                              refine xg_sipush C dL_of_202 (v := (-1232 : Int32)) (by decide) ?_
                              exact xret_n E dL_of_205 rfl rfl (Nat.le_refl _) (Nat.le_refl _)
                          · refine xg_aload_n C dL_of_169 rfl ?_
                            refine xg_iload_n C dL_of_170 rfl ?_
                            refine xg_iload_n C dL_of_171 rfl ?_
                            refine xg_callVx (X := xIA) C V Ev Tb (f := 0) (As := [.int a1, .int a2]) (fun l hl => kxX3_age l hl hsz hap a1 a2 S (fun z => hn z.1)) gL_of_X3_age rfl hdX3_age ⟨by decide, by decide⟩ rfl rfl rfl rfl rfl (Nat.le_of_ble_eq_true rfl) ⟨by decide, by decide⟩ dL_of_172 [] ⟨0, 199, 200, 35⟩ [] rfl (fun z hz => by cases hz) (by decide) (by decide) (List.mem_of_getElem? (i := 1) rfl) (by decide +kernel) (fun q9 => ?_)
                            refine xg_astore C dL_of_200 (by decide) (L' := [some (.ref (G.2.2 0 0)), some (.int a0), some (.int a1), some (.int a2), some (.ref q9)]) rfl ?_
                            refine xg_sipush C dL_of_202 (v := (-1232 : Int32)) (by decide) ?_
                            exact xret_n E dL_of_205 rfl rfl (Nat.le_refl _) (Nat.le_refl _)
                        · refine xg_aload_n C dL_of_154 rfl ?_
                          refine xg_iload_n C dL_of_155 rfl ?_
                          refine xg_iload_n C dL_of_156 rfl ?_
                          refine xg_callVx (X := xIA) C V Ev Tb (f := 0) (As := [.int a1, .int a2]) (fun l hl => kxX3_version l hl hsz hap a1 a2 S (fun z => hn z.1)) gL_of_X3_version rfl hdX3_version ⟨by decide, by decide⟩ rfl rfl rfl rfl rfl (Nat.le_of_ble_eq_true rfl) ⟨by decide, by decide⟩ dL_of_157 [] ⟨0, 199, 200, 35⟩ [] rfl (fun z hz => by cases hz) (by decide) (by decide) (List.mem_of_getElem? (i := 1) rfl) (by decide +kernel) (fun q9 => ?_)
                          refine xg_astore C dL_of_200 (by decide) (L' := [some (.ref (G.2.2 0 0)), some (.int a0), some (.int a1), some (.int a2), some (.ref q9)]) rfl ?_
                          refine xg_sipush C dL_of_202 (v := (-1232 : Int32)) (by decide) ?_
                          exact xret_n E dL_of_205 rfl rfl (Nat.le_refl _) (Nat.le_refl _)
                      · refine xg_aload_n C dL_of_139 rfl ?_
                        refine xg_iload_n C dL_of_140 rfl ?_
                        refine xg_iload_n C dL_of_141 rfl ?_
                        refine xg_callVx (X := xIA) C V Ev Tb (f := 0) (As := [.int a1, .int a2]) (fun l hl => kxX3_believed l hl hsz hap a1 a2 S (fun z => hn z.1)) gL_of_X3_believed rfl hdX3_believed ⟨by decide, by decide⟩ rfl rfl rfl rfl rfl (Nat.le_of_ble_eq_true rfl) ⟨by decide, by decide⟩ dL_of_142 [] ⟨0, 199, 200, 35⟩ [] rfl (fun z hz => by cases hz) (by decide) (by decide) (List.mem_of_getElem? (i := 1) rfl) (by decide +kernel) (fun q9 => ?_)
                        refine xg_astore C dL_of_200 (by decide) (L' := [some (.ref (G.2.2 0 0)), some (.int a0), some (.int a1), some (.int a2), some (.ref q9)]) rfl ?_
                        refine xg_sipush C dL_of_202 (v := (-1232 : Int32)) (by decide) ?_
                        exact xret_n E dL_of_205 rfl rfl (Nat.le_refl _) (Nat.le_refl _)
                    · refine xg_aload_n C dL_of_125 rfl ?_
                      refine xg_iload_n C dL_of_126 rfl ?_
                      refine xg_callVx (X := xIA) C V Ev Tb (f := 0) (As := [.int a1]) (fun l hl => kxX3_agree l hl hsz hap a1 S hn) gL_of_X3_agree rfl hdX3_agree ⟨by decide, by decide⟩ rfl rfl rfl rfl rfl (Nat.le_of_ble_eq_true rfl) ⟨by decide, by decide⟩ dL_of_127 [] ⟨0, 199, 200, 35⟩ [] rfl (fun z hz => by cases hz) (by decide) (by decide) (List.mem_of_getElem? (i := 1) rfl) (by decide +kernel) (fun q9 => ?_)
                      refine xg_astore C dL_of_200 (by decide) (L' := [some (.ref (G.2.2 0 0)), some (.int a0), some (.int a1), some (.int a2), some (.ref q9)]) rfl ?_
                      refine xg_sipush C dL_of_202 (v := (-1232 : Int32)) (by decide) ?_
                      exact xret_n E dL_of_205 rfl rfl (Nat.le_refl _) (Nat.le_refl _)
                  · refine xg_aload_n C dL_of_111 rfl ?_
                    refine xg_iload_n C dL_of_112 rfl ?_
                    refine xg_callVx (X := xIA) C V Ev Tb (f := 0) (As := [.int a1]) (fun l hl => kxX3_freshest l hl hsz hap a1 S hn) gL_of_X3_freshest rfl hdX3_freshest ⟨by decide, by decide⟩ rfl rfl rfl rfl rfl (Nat.le_of_ble_eq_true rfl) ⟨by decide, by decide⟩ dL_of_113 [] ⟨0, 199, 200, 35⟩ [] rfl (fun z hz => by cases hz) (by decide) (by decide) (List.mem_of_getElem? (i := 1) rfl) (by decide +kernel) (fun q9 => ?_)
                    refine xg_astore C dL_of_200 (by decide) (L' := [some (.ref (G.2.2 0 0)), some (.int a0), some (.int a1), some (.int a2), some (.ref q9)]) rfl ?_
                    refine xg_sipush C dL_of_202 (v := (-1232 : Int32)) (by decide) ?_
                    exact xret_n E dL_of_205 rfl rfl (Nat.le_refl _) (Nat.le_refl _)
                · refine xg_aload_n C dL_of_97 rfl ?_
                  refine xg_iload_n C dL_of_98 rfl ?_
                  refine xg_callVx (X := xIA) C V Ev Tb (f := 0) (As := [.int a1]) (fun l hl => kxX3_partner l hl hsz hap a1 S hn) gL_of_X3_partner rfl hdX3_partner ⟨by decide, by decide⟩ rfl rfl rfl rfl rfl (Nat.le_of_ble_eq_true rfl) ⟨by decide, by decide⟩ dL_of_99 [] ⟨0, 199, 200, 35⟩ [] rfl (fun z hz => by cases hz) (by decide) (by decide) (List.mem_of_getElem? (i := 1) rfl) (by decide +kernel) (fun q9 => ?_)
                  refine xg_astore C dL_of_200 (by decide) (L' := [some (.ref (G.2.2 0 0)), some (.int a0), some (.int a1), some (.int a2), some (.ref q9)]) rfl ?_
                  refine xg_sipush C dL_of_202 (v := (-1232 : Int32)) (by decide) ?_
                  exact xret_n E dL_of_205 rfl rfl (Nat.le_refl _) (Nat.le_refl _)
              · refine xg_aload_n C dL_of_83 rfl ?_
                refine xg_iload_n C dL_of_84 rfl ?_
                refine xg_callVx (X := xIA) C V Ev Tb (f := 0) (As := [.int a1]) (fun l hl => kxX3_safety l hl hsz hap a1 S hn) gL_of_X3_safety rfl hdX3_safety ⟨by decide, by decide⟩ rfl rfl rfl rfl rfl (Nat.le_of_ble_eq_true rfl) ⟨by decide, by decide⟩ dL_of_85 [] ⟨0, 199, 200, 35⟩ [] rfl (fun z hz => by cases hz) (by decide) (by decide) (List.mem_of_getElem? (i := 1) rfl) (by decide +kernel) (fun q9 => ?_)
                refine xg_astore C dL_of_200 (by decide) (L' := [some (.ref (G.2.2 0 0)), some (.int a0), some (.int a1), some (.int a2), some (.ref q9)]) rfl ?_
                refine xg_sipush C dL_of_202 (v := (-1232 : Int32)) (by decide) ?_
                exact xret_n E dL_of_205 rfl rfl (Nat.le_refl _) (Nat.le_refl _)
            · refine xg_aload_n C dL_of_69 rfl ?_
              refine xg_iload_n C dL_of_70 rfl ?_
              refine xg_callVx (X := xIA) C V Ev Tb (f := 0) (As := [.int a1]) (fun l hl => kxX3_opening l hl hsz hap a1 S hn) gL_of_X3_opening rfl hdX3_opening ⟨by decide, by decide⟩ rfl rfl rfl rfl rfl (Nat.le_of_ble_eq_true rfl) ⟨by decide, by decide⟩ dL_of_71 [] ⟨0, 199, 200, 35⟩ [] rfl (fun z hz => by cases hz) (by decide) (by decide) (List.mem_of_getElem? (i := 1) rfl) (by decide +kernel) (fun q9 => ?_)
              refine xg_astore C dL_of_200 (by decide) (L' := [some (.ref (G.2.2 0 0)), some (.int a0), some (.int a1), some (.int a2), some (.ref q9)]) rfl ?_
              refine xg_sipush C dL_of_202 (v := (-1232 : Int32)) (by decide) ?_
              exact xret_n E dL_of_205 rfl rfl (Nat.le_refl _) (Nat.le_refl _)
          · refine xg_aload_n C dL_of_56 rfl ?_
            refine xg_iload_n C dL_of_57 rfl ?_
            refine xg_callVx (X := xIA) C V Ev Tb (f := 0) (As := [.int a1]) (fun l hl => kxX3_spilled l hl hsz hap a1 S hn) gL_of_X3_spilled rfl hdX3_spilled ⟨by decide, by decide⟩ rfl rfl rfl rfl rfl (Nat.le_of_ble_eq_true rfl) ⟨by decide, by decide⟩ dL_of_58 [] ⟨0, 199, 200, 35⟩ [] rfl (fun z hz => by cases hz) (by decide) (by decide) (List.mem_of_getElem? (i := 1) rfl) (by decide +kernel) (fun q9 => ?_)
            refine xg_astore C dL_of_200 (by decide) (L' := [some (.ref (G.2.2 0 0)), some (.int a0), some (.int a1), some (.int a2), some (.ref q9)]) rfl ?_
            refine xg_sipush C dL_of_202 (v := (-1232 : Int32)) (by decide) ?_
            exact xret_n E dL_of_205 rfl rfl (Nat.le_refl _) (Nat.le_refl _)
        · refine xg_aload_n C dL_of_43 rfl ?_
          refine xg_iload_n C dL_of_44 rfl ?_
          refine xg_callVx (X := xIA) C V Ev Tb (f := 0) (As := [.int a1]) (fun l hl => kxX3_flowed l hl hsz hap a1 S hn) gL_of_X3_flowed rfl hdX3_flowed ⟨by decide, by decide⟩ rfl rfl rfl rfl rfl (Nat.le_of_ble_eq_true rfl) ⟨by decide, by decide⟩ dL_of_45 [] ⟨0, 199, 200, 35⟩ [] rfl (fun z hz => by cases hz) (by decide) (by decide) (List.mem_of_getElem? (i := 1) rfl) (by decide +kernel) (fun q9 => ?_)
          refine xg_astore C dL_of_200 (by decide) (L' := [some (.ref (G.2.2 0 0)), some (.int a0), some (.int a1), some (.int a2), some (.ref q9)]) rfl ?_
          refine xg_sipush C dL_of_202 (v := (-1232 : Int32)) (by decide) ?_
          exact xret_n E dL_of_205 rfl rfl (Nat.le_refl _) (Nat.le_refl _)
      · refine xg_aload_n C dL_of_30 rfl ?_
        refine xg_iload_n C dL_of_31 rfl ?_
        refine xg_callVx (X := xIA) C V Ev Tb (f := 0) (As := [.int a1]) (fun l hl => kxX3_level l hl hsz hap a1 S hn) gL_of_X3_level rfl hdX3_level ⟨by decide, by decide⟩ rfl rfl rfl rfl rfl (Nat.le_of_ble_eq_true rfl) ⟨by decide, by decide⟩ dL_of_32 [] ⟨0, 199, 200, 35⟩ [] rfl (fun z hz => by cases hz) (by decide) (by decide) (List.mem_of_getElem? (i := 1) rfl) (by decide +kernel) (fun q9 => ?_)
        refine xg_astore C dL_of_200 (by decide) (L' := [some (.ref (G.2.2 0 0)), some (.int a0), some (.int a1), some (.int a2), some (.ref q9)]) rfl ?_
        refine xg_sipush C dL_of_202 (v := (-1232 : Int32)) (by decide) ?_
        exact xret_n E dL_of_205 rfl rfl (Nat.le_refl _) (Nat.le_refl _)
    · refine xg_aload_n C dL_of_17 rfl ?_
      refine xg_iload_n C dL_of_18 rfl ?_
      refine xg_callVx (X := xIA) C V Ev Tb (f := 0) (As := [.int a1]) (fun l hl => kxX3_volumeByBalance l hl hsz hap a1 S hn) gL_of_X3_volumeByBalance rfl hdX3_volumeByBalance ⟨by decide, by decide⟩ rfl rfl rfl rfl rfl (Nat.le_of_ble_eq_true rfl) ⟨by decide, by decide⟩ dL_of_19 [] ⟨0, 199, 200, 35⟩ [] rfl (fun z hz => by cases hz) (by decide) (by decide) (List.mem_of_getElem? (i := 1) rfl) (by decide +kernel) (fun q9 => ?_)
      refine xg_astore C dL_of_200 (by decide) (L' := [some (.ref (G.2.2 0 0)), some (.int a0), some (.int a1), some (.int a2), some (.ref q9)]) rfl ?_
      refine xg_sipush C dL_of_202 (v := (-1232 : Int32)) (by decide) ?_
      exact xret_n E dL_of_205 rfl rfl (Nat.le_refl _) (Nat.le_refl _)
  · refine xg_aload_n C dL_of_4 rfl ?_
    refine xg_iload_n C dL_of_5 rfl ?_
    refine xg_callVx (X := xIA) C V Ev Tb (f := 0) (As := [.int a1]) (fun l hl => kxX3_volume l hl hsz hap a1 S hn) gL_of_X3_volume rfl hdX3_volume ⟨by decide, by decide⟩ rfl rfl rfl rfl rfl (Nat.le_of_ble_eq_true rfl) ⟨by decide, by decide⟩ dL_of_6 [] ⟨0, 199, 200, 35⟩ [] rfl (fun z hz => by cases hz) (by decide) (by decide) (List.mem_of_getElem? (i := 1) rfl) (by decide +kernel) (fun q9 => ?_)
    refine xg_astore C dL_of_200 (by decide) (L' := [some (.ref (G.2.2 0 0)), some (.int a0), some (.int a1), some (.int a2), some (.ref q9)]) rfl ?_
    refine xg_sipush C dL_of_202 (v := (-1232 : Int32)) (by decide) ?_
    exact xret_n E dL_of_205 rfl rfl (Nat.le_refl _) (Nat.le_refl _)
set_option maxRecDepth 100000 in
set_option maxHeartbeats 4000000 in
theorem kxL_ofB (l : Launch) {G : xG} (hlt : l.stackTraces = false) {Sa : Nat → Nat} {sz : Nat} (hsz : ∀ a : Nat, xA xYc G a → sz ≤ a) (hap : xAp xYc G) (a0 : Int32) (a1 : Int32) (a2 : Int32) (S : xS) (hn : ¬ vp_in a2 8) (hw : ¬ a0 < (10 : Int32)) : xMn l xYc G Sa sz yL_of wsL_of 9 1 6 154 [.ref (G.2.2 0 0), .int a0, .int a1, .int a2] S S (-1232 : Int32) := by
  refine xMnW_of (cc := cL_of) (maxL := 5) (hh := [(0, 199, 200, 35)]) (own := RL) hlt hsz [some (.ref (G.2.2 0 0)), some (.int a0), some (.int a1), some (.int a2), none] pnL rfl rfl (xcat1 rfl) (Nat.le_of_ble_eq_true rfl) rfl hap (fun F C V Ev Tb E => ?_)
  refine xg_iload_n C dL_of_0 rfl ?_
  refine xg_if_ne C 12 dL_of_1 (by decide) (fun h1 => ?_) (fun h1 => absurd (show a0 < (10 : Int32) by rw [h1]; decide) hw)
  refine xg_iload_n C dL_of_12 rfl ?_
  refine xg_iconst C dL_of_13 (v := (1 : Int32)) (by decide) ?_
  refine xg_icmp_ne C 25 dL_of_14 (by decide) (fun h2 => ?_) (fun h2 => absurd (show a0 < (10 : Int32) by rw [h2]; decide) hw)
  refine xg_iload_n C dL_of_25 rfl ?_
  refine xg_iconst C dL_of_26 (v := (2 : Int32)) (by decide) ?_
  refine xg_icmp_ne C 38 dL_of_27 (by decide) (fun h3 => ?_) (fun h3 => absurd (show a0 < (10 : Int32) by rw [h3]; decide) hw)
  refine xg_iload_n C dL_of_38 rfl ?_
  refine xg_iconst C dL_of_39 (v := (3 : Int32)) (by decide) ?_
  refine xg_icmp_ne C 51 dL_of_40 (by decide) (fun h4 => ?_) (fun h4 => absurd (show a0 < (10 : Int32) by rw [h4]; decide) hw)
  refine xg_iload_n C dL_of_51 rfl ?_
  refine xg_iconst C dL_of_52 (v := (4 : Int32)) (by decide) ?_
  refine xg_icmp_ne C 64 dL_of_53 (by decide) (fun h5 => ?_) (fun h5 => absurd (show a0 < (10 : Int32) by rw [h5]; decide) hw)
  refine xg_iload_n C dL_of_64 rfl ?_
  refine xg_iconst C dL_of_65 (v := (5 : Int32)) (by decide) ?_
  refine xg_icmp_ne C 77 dL_of_66 (by decide) (fun h6 => ?_) (fun h6 => absurd (show a0 < (10 : Int32) by rw [h6]; decide) hw)
  refine xg_iload_n C dL_of_77 rfl ?_
  refine xg_bipush C dL_of_78 (v := (6 : Int32)) (by decide) ?_
  refine xg_icmp_ne C 91 dL_of_80 (by decide) (fun h7 => ?_) (fun h7 => absurd (show a0 < (10 : Int32) by rw [h7]; decide) hw)
  refine xg_iload_n C dL_of_91 rfl ?_
  refine xg_bipush C dL_of_92 (v := (7 : Int32)) (by decide) ?_
  refine xg_icmp_ne C 105 dL_of_94 (by decide) (fun h8 => ?_) (fun h8 => absurd (show a0 < (10 : Int32) by rw [h8]; decide) hw)
  refine xg_iload_n C dL_of_105 rfl ?_
  refine xg_bipush C dL_of_106 (v := (8 : Int32)) (by decide) ?_
  refine xg_icmp_ne C 119 dL_of_108 (by decide) (fun h9 => ?_) (fun h9 => absurd (show a0 < (10 : Int32) by rw [h9]; decide) hw)
  refine xg_iload_n C dL_of_119 rfl ?_
  refine xg_bipush C dL_of_120 (v := (9 : Int32)) (by decide) ?_
  refine xg_icmp_ne C 133 dL_of_122 (by decide) (fun h10 => ?_) (fun h10 => absurd (show a0 < (10 : Int32) by rw [h10]; decide) hw)
  refine xg_iload_n C dL_of_133 rfl ?_
  refine xg_bipush C dL_of_134 (v := (10 : Int32)) (by decide) ?_
  refine xg_icmp_ne C 148 dL_of_136 (by decide) (fun h11 => ?_) (fun h11 => ?_)
  · refine xg_iload_n C dL_of_148 rfl ?_
    refine xg_bipush C dL_of_149 (v := (11 : Int32)) (by decide) ?_
    refine xg_icmp_ne C 163 dL_of_151 (by decide) (fun h12 => ?_) (fun h12 => ?_)
    · refine xg_iload_n C dL_of_163 rfl ?_
      refine xg_bipush C dL_of_164 (v := (12 : Int32)) (by decide) ?_
      refine xg_icmp_ne C 178 dL_of_166 (by decide) (fun h13 => ?_) (fun h13 => ?_)
      · refine xg_iload_n C dL_of_178 rfl ?_
        refine xg_bipush C dL_of_179 (v := (13 : Int32)) (by decide) ?_
        refine xg_icmp_ne C 193 dL_of_181 (by decide) (fun h14 => ?_) (fun h14 => ?_)
        · refine xg_aload_n C dL_of_193 rfl ?_
          refine xg_iload_n C dL_of_194 rfl ?_
          refine xg_iload_n C dL_of_195 rfl ?_
          refine xg_callVx (X := xIA) C V Ev Tb (f := 0) (As := [.int a1, .int a2]) (fun l hl => kxX3_status l hl hsz hap a1 a2 S (fun z => hn z.2)) gL_of_X3_status rfl hdX3_status ⟨by decide, by decide⟩ rfl rfl rfl rfl rfl (Nat.le_of_ble_eq_true rfl) ⟨by decide, by decide⟩ dL_of_196 [] ⟨0, 199, 200, 35⟩ [] rfl (fun z hz => by cases hz) (by decide) (by decide) (List.mem_of_getElem? (i := 1) rfl) (by decide +kernel) (fun q9 => ?_)
          refine xg_astore C dL_of_200 (by decide) (L' := [some (.ref (G.2.2 0 0)), some (.int a0), some (.int a1), some (.int a2), some (.ref q9)]) rfl ?_
          refine xg_sipush C dL_of_202 (v := (-1232 : Int32)) (by decide) ?_
          exact xret_n E dL_of_205 rfl rfl (Nat.le_refl _) (Nat.le_refl _)
        · refine xg_aload_n C dL_of_184 rfl ?_
          refine xg_iload_n C dL_of_185 rfl ?_
          refine xg_iload_n C dL_of_186 rfl ?_
          refine xg_callVx (X := xIA) C V Ev Tb (f := 0) (As := [.int a1, .int a2]) (fun l hl => kxX3_beat l hl hsz hap a1 a2 S (fun z => hn z.2)) gL_of_X3_beat rfl hdX3_beat ⟨by decide, by decide⟩ rfl rfl rfl rfl rfl (Nat.le_of_ble_eq_true rfl) ⟨by decide, by decide⟩ dL_of_187 [] ⟨0, 199, 200, 35⟩ [] rfl (fun z hz => by cases hz) (by decide) (by decide) (List.mem_of_getElem? (i := 1) rfl) (by decide +kernel) (fun q9 => ?_)
          refine xg_astore C dL_of_200 (by decide) (L' := [some (.ref (G.2.2 0 0)), some (.int a0), some (.int a1), some (.int a2), some (.ref q9)]) rfl ?_
          refine xg_sipush C dL_of_202 (v := (-1232 : Int32)) (by decide) ?_
          exact xret_n E dL_of_205 rfl rfl (Nat.le_refl _) (Nat.le_refl _)
      · refine xg_aload_n C dL_of_169 rfl ?_
        refine xg_iload_n C dL_of_170 rfl ?_
        refine xg_iload_n C dL_of_171 rfl ?_
        refine xg_callVx (X := xIA) C V Ev Tb (f := 0) (As := [.int a1, .int a2]) (fun l hl => kxX3_age l hl hsz hap a1 a2 S (fun z => hn z.2)) gL_of_X3_age rfl hdX3_age ⟨by decide, by decide⟩ rfl rfl rfl rfl rfl (Nat.le_of_ble_eq_true rfl) ⟨by decide, by decide⟩ dL_of_172 [] ⟨0, 199, 200, 35⟩ [] rfl (fun z hz => by cases hz) (by decide) (by decide) (List.mem_of_getElem? (i := 1) rfl) (by decide +kernel) (fun q9 => ?_)
        refine xg_astore C dL_of_200 (by decide) (L' := [some (.ref (G.2.2 0 0)), some (.int a0), some (.int a1), some (.int a2), some (.ref q9)]) rfl ?_
        refine xg_sipush C dL_of_202 (v := (-1232 : Int32)) (by decide) ?_
        exact xret_n E dL_of_205 rfl rfl (Nat.le_refl _) (Nat.le_refl _)
    · refine xg_aload_n C dL_of_154 rfl ?_
      refine xg_iload_n C dL_of_155 rfl ?_
      refine xg_iload_n C dL_of_156 rfl ?_
      refine xg_callVx (X := xIA) C V Ev Tb (f := 0) (As := [.int a1, .int a2]) (fun l hl => kxX3_version l hl hsz hap a1 a2 S (fun z => hn z.2)) gL_of_X3_version rfl hdX3_version ⟨by decide, by decide⟩ rfl rfl rfl rfl rfl (Nat.le_of_ble_eq_true rfl) ⟨by decide, by decide⟩ dL_of_157 [] ⟨0, 199, 200, 35⟩ [] rfl (fun z hz => by cases hz) (by decide) (by decide) (List.mem_of_getElem? (i := 1) rfl) (by decide +kernel) (fun q9 => ?_)
      refine xg_astore C dL_of_200 (by decide) (L' := [some (.ref (G.2.2 0 0)), some (.int a0), some (.int a1), some (.int a2), some (.ref q9)]) rfl ?_
      refine xg_sipush C dL_of_202 (v := (-1232 : Int32)) (by decide) ?_
      exact xret_n E dL_of_205 rfl rfl (Nat.le_refl _) (Nat.le_refl _)
  · refine xg_aload_n C dL_of_139 rfl ?_
    refine xg_iload_n C dL_of_140 rfl ?_
    refine xg_iload_n C dL_of_141 rfl ?_
    refine xg_callVx (X := xIA) C V Ev Tb (f := 0) (As := [.int a1, .int a2]) (fun l hl => kxX3_believed l hl hsz hap a1 a2 S (fun z => hn z.2)) gL_of_X3_believed rfl hdX3_believed ⟨by decide, by decide⟩ rfl rfl rfl rfl rfl (Nat.le_of_ble_eq_true rfl) ⟨by decide, by decide⟩ dL_of_142 [] ⟨0, 199, 200, 35⟩ [] rfl (fun z hz => by cases hz) (by decide) (by decide) (List.mem_of_getElem? (i := 1) rfl) (by decide +kernel) (fun q9 => ?_)
    refine xg_astore C dL_of_200 (by decide) (L' := [some (.ref (G.2.2 0 0)), some (.int a0), some (.int a1), some (.int a2), some (.ref q9)]) rfl ?_
    refine xg_sipush C dL_of_202 (v := (-1232 : Int32)) (by decide) ?_
    exact xret_n E dL_of_205 rfl rfl (Nat.le_refl _) (Nat.le_refl _)
