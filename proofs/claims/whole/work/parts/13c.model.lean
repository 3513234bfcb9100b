theorem iX4_ticks_X4 : ∀ w ∈ wsX40, w ∈ wsX4_ticks := by decide +kernel
theorem qX4_ticks_118 : xFr wsX4_ticks RX4 118 RX4 TX4 30 28 := ⟨iX4_ticks_X4, List.mem_of_getElem? (i := 1) rfl, by decide⟩
theorem qX4_ticks_56 : xFr wsX4_ticks RX4 56 RX4 TX4 30 16 := ⟨iX4_ticks_X4, List.mem_of_getElem? (i := 2) rfl, by decide⟩
theorem qX4_ticks_49 : xFr wsX4_ticks RX4 49 RX4 TX4 30 14 := ⟨iX4_ticks_X4, List.mem_of_getElem? (i := 3) rfl, by decide⟩
def sX4_ticks_11  (S : xS) : xS := (fX4_falls (xu S 0 0 (nI 28) ((S 0 0 (nI 28)) + (1 : Int32))))
def sX4_ticks_15  (S : xS) : xS := (fX4_flowsOn (sX4_ticks_11 S))
def sX4_ticks_19  (S : xS) : xS := (fX4_spills (sX4_ticks_15 S)).1
def sX4_ticks_24  (S : xS) : xS := (fX4_measures (sX4_ticks_19 S))
def sX4_ticks_28  (S : xS) : xS := (fX4_calls (sX4_ticks_24 S))
def sX4_ticks_32  (S : xS) : xS := (fX4_looks (sX4_ticks_28 S))
def bX4_ticks_37  (i : Int32) (x : xS) : xS :=
  if (x 16 0 i) = (0 : Int32) then
    if (x 14 0 i) = (0 : Int32) then
      (fX4_rules i x)
    else
      x
  else
    x
def fX4_ticks  (S : xS) : xS × Int32 :=
  ((xfold bX4_ticks_37 8 (sX4_ticks_32 S)), (fX4_spills (sX4_ticks_15 S)).2)
theorem hdX4_ticks : yX4_ticks.cls = RX4 ∧ yX4_ticks.cls ≠ "java/lang/invoke/MethodHandle" ∧ yX4_ticks.cls ≠ "java/lang/invoke/VarHandle" ∧ (parseMethodDescriptor yX4_ticks.desc).map (fun d => d.parameters.length) = some 0 := by decide +kernel
set_option maxRecDepth 100000 in
set_option maxHeartbeats 4000000 in
theorem kX4_ticks (l : Launch) {G : xG} (hap : xAp xYm G)  (S : xS) (hA : ∀ r, vp_in r 8 → ¬ S 1 0 r = (0 : Int32)) : xMi l xYm G yX4_ticks wsX4_ticks 4 94 [.ref (G.2.2 0 0)] S (fX4_ticks S).1 (fX4_ticks S).2 := by
  refine xMi_of (cc := cX4_ticks) (maxL := 3) (ty := .int) (own := RX4) [some (.ref (G.2.2 0 0)), none, none] pnX4 rfl rfl rfl (xcat1 rfl) (Nat.le_of_ble_eq_true rfl) rfl hap (fun F C V E => ?_)
  refine xg_aload_n C dX4_ticks_0 rfl ?_
  refine xg_dup C dX4_ticks_1 rfl ?_
  refine xg_getI C V (f := 0) qX4_ticks_118 rfl rfl rfl dX4_ticks_2 (v := (S 0 0 (nI 28))) rfl ?_
  refine xg_iconst C dX4_ticks_5 (v := (1 : Int32)) (by decide) ?_
  refine xg_iadd C dX4_ticks_6 ?_
  refine xg_putI C V (f := 0) qX4_ticks_118 rfl (by decide) rfl rfl tyX4_ok nmX4 rfl rfl dX4_ticks_7 ?_
  refine xg_aload_n C dX4_ticks_10 rfl ?_
  refine xg_callVv C V (f := 0) (As := []) (fun l => kX4_falls l hap  (xu S 0 0 (nI 28) ((S 0 0 (nI 28)) + (1 : Int32)))) gX4_ticks_X4_falls rfl hdX4_falls ⟨by decide, by decide⟩ rfl rfl rfl rfl rfl (Nat.le_of_ble_eq_true rfl) ⟨Nat.zero_le _, Nat.zero_le _⟩ dX4_ticks_11 ?_
  refine xg_abb (show (sX4_ticks_11 S) = _ from rfl) ?_
  refine xg_aload_n C dX4_ticks_14 rfl ?_
  refine xg_callVv C V (f := 0) (As := []) (fun l => kX4_flowsOn l hap  (sX4_ticks_11 S)) gX4_ticks_X4_flowsOn rfl hdX4_flowsOn ⟨by decide, by decide⟩ rfl rfl rfl rfl rfl (Nat.le_of_ble_eq_true rfl) ⟨Nat.zero_le _, Nat.zero_le _⟩ dX4_ticks_15 ?_
  refine xg_abb (show (sX4_ticks_15 S) = _ from rfl) ?_
  refine xg_aload_n C dX4_ticks_18 rfl ?_
  refine xg_callVi C V (f := 0) (As := []) (r := (fX4_spills (sX4_ticks_15 S)).2) (fun l => kX4_spills l hap  (sX4_ticks_15 S)) gX4_ticks_X4_spills rfl hdX4_spills ⟨by decide, by decide⟩ rfl rfl rfl rfl rfl (Nat.le_of_ble_eq_true rfl) ⟨Nat.zero_le _, Nat.zero_le _⟩ dX4_ticks_19 ?_
  refine xg_abb (show (sX4_ticks_19 S) = _ from rfl) ?_
  refine xg_istore_n C dX4_ticks_22 (by decide) (L' := [some (.ref (G.2.2 0 0)), some (.int (fX4_spills (sX4_ticks_15 S)).2), none]) rfl ?_
  refine xg_aload_n C dX4_ticks_23 rfl ?_
  refine xg_callVv C V (f := 0) (As := []) (fun l => kX4_measures l hap  (sX4_ticks_19 S) (fun r hr => by simp only [sX4_ticks_19, sX4_ticks_15, sX4_ticks_11, xk_X4_spills, xk_X4_flowsOn, xk_X4_falls]; rw [xu_nf (by decide)]; exact hA r hr)) gX4_ticks_X4_measures rfl hdX4_measures ⟨by decide, by decide⟩ rfl rfl rfl rfl rfl (Nat.le_of_ble_eq_true rfl) ⟨Nat.zero_le _, Nat.zero_le _⟩ dX4_ticks_24 ?_
  refine xg_abb (show (sX4_ticks_24 S) = _ from rfl) ?_
  refine xg_aload_n C dX4_ticks_27 rfl ?_
  refine xg_callVv C V (f := 0) (As := []) (fun l => kX4_calls l hap  (sX4_ticks_24 S)) gX4_ticks_X4_calls rfl hdX4_calls ⟨by decide, by decide⟩ rfl rfl rfl rfl rfl (Nat.le_of_ble_eq_true rfl) ⟨Nat.zero_le _, Nat.zero_le _⟩ dX4_ticks_28 ?_
  refine xg_abb (show (sX4_ticks_28 S) = _ from rfl) ?_
  refine xg_aload_n C dX4_ticks_31 rfl ?_
  refine xg_callVv C V (f := 0) (As := []) (fun l => kX4_looks l hap  (sX4_ticks_28 S)) gX4_ticks_X4_looks rfl hdX4_looks ⟨by decide, by decide⟩ rfl rfl rfl rfl rfl (Nat.le_of_ble_eq_true rfl) ⟨Nat.zero_le _, Nat.zero_le _⟩ dX4_ticks_32 ?_
  refine xg_abb (show (sX4_ticks_32 S) = _ from rfl) ?_
  refine xg_iconst C dX4_ticks_35 (v := (0 : Int32)) (by decide) ?_
  refine xg_istore_n C dX4_ticks_36 (by decide) (L' := [some (.ref (G.2.2 0 0)), some (.int (fX4_spills (sX4_ticks_15 S)).2), some (.int (0 : Int32))]) rfl ?_
  refine xloop (fun (ii : Int32) (x : xS) => xg F 0 0 37 [some (.ref (G.2.2 0 0)), some (.int (fX4_spills (sX4_ticks_15 S)).2), some (.int ii)] [] (xP xYm G x)) bX4_ticks_37 8 (sX4_ticks_32 S) (fun i hi x K => ?_) ?_
  · have hi8 : vp_in (nI i) 8 := vp_in_nI hi (by decide)
    show xg F 0 0 37 [some (.ref (G.2.2 0 0)), some (.int (fX4_spills (sX4_ticks_15 S)).2), some (.int (nI i))] [] (xP xYm G x)
    refine xg_iload_n C dX4_ticks_37 rfl ?_
    refine xg_bipush C dX4_ticks_38 (v := (8 : Int32)) (by decide) ?_
    refine xg_icmp_ge C 72 dX4_ticks_40 (by decide) (fun h1 => absurd h1 (nI_ge hi (by decide))) (fun h1 => ?_)
    refine xg_aload_n C dX4_ticks_43 rfl ?_
    refine xg_getR C V (f := 0) qX4_ticks_56 rfl rfl rfl dX4_ticks_44 ?_
    refine xg_iload_n C dX4_ticks_47 rfl ?_
    refine xg_zald C V (f := 16) (n := 1) (N := 8) rfl (by decide) (xR_0 (by decide)) (by first | assumption | exact xin_one (by assumption) | exact xin_asks (by assumption) | exact xin_ask1 (by assumption) | exact xin_ask2 (by assumption)) dX4_ticks_48 (v := (x 16 0 (nI i))) rfl ?_
    refine xg_if_ne C 66 dX4_ticks_49 (by decide) (fun h2 => ?_) (fun h2 => ?_)
    · refine xg_iinc C dX4_ticks_66 rfl (v := (nI (i + 1))) (xinc i) (by decide) (L' := [some (.ref (G.2.2 0 0)), some (.int (fX4_spills (sX4_ticks_15 S)).2), some (.int (nI (i + 1)))]) rfl ?_
      refine xg_goto C 37 dX4_ticks_69 (by decide) ?_
      have e : bX4_ticks_37 (nI i) x = x := by first | (rw [bX4_ticks_37, if_neg h2]; done) | (rw [bX4_ticks_37, if_neg h2]; rfl)
      rw [e] at K
      exact xg_le K ⟨rfl, rfl, rfl, trivial⟩
    · refine xg_aload_n C dX4_ticks_52 rfl ?_
      refine xg_getR C V (f := 0) qX4_ticks_49 rfl rfl rfl dX4_ticks_53 ?_
      refine xg_iload_n C dX4_ticks_56 rfl ?_
      refine xg_zald C V (f := 14) (n := 1) (N := 8) rfl (by decide) (xR_0 (by decide)) (by first | assumption | exact xin_one (by assumption) | exact xin_asks (by assumption) | exact xin_ask1 (by assumption) | exact xin_ask2 (by assumption)) dX4_ticks_57 (v := (x 14 0 (nI i))) rfl ?_
      refine xg_if_ne C 66 dX4_ticks_58 (by decide) (fun h3 => ?_) (fun h3 => ?_)
      · refine xg_iinc C dX4_ticks_66 rfl (v := (nI (i + 1))) (xinc i) (by decide) (L' := [some (.ref (G.2.2 0 0)), some (.int (fX4_spills (sX4_ticks_15 S)).2), some (.int (nI (i + 1)))]) rfl ?_
        refine xg_goto C 37 dX4_ticks_69 (by decide) ?_
        have e : bX4_ticks_37 (nI i) x = x := by first | (rw [bX4_ticks_37, if_pos h2, if_neg h3]; done) | (rw [bX4_ticks_37, if_pos h2, if_neg h3]; rfl)
        rw [e] at K
        exact xg_le K ⟨rfl, rfl, rfl, trivial⟩
      · refine xg_aload_n C dX4_ticks_61 rfl ?_
        refine xg_iload_n C dX4_ticks_62 rfl ?_
        refine xg_callVv C V (f := 0) (As := [.int (nI i)]) (fun l => kX4_rules l hap (nI i) x (by first | assumption | exact xin_one (by assumption) | exact xin_asks (by assumption) | exact xin_ask1 (by assumption) | exact xin_ask2 (by assumption))) gX4_ticks_X4_rules rfl hdX4_rules ⟨by decide, by decide⟩ rfl rfl rfl rfl rfl (Nat.le_of_ble_eq_true rfl) ⟨Nat.zero_le _, Nat.zero_le _⟩ dX4_ticks_63 ?_
        refine xg_iinc C dX4_ticks_66 rfl (v := (nI (i + 1))) (xinc i) (by decide) (L' := [some (.ref (G.2.2 0 0)), some (.int (fX4_spills (sX4_ticks_15 S)).2), some (.int (nI (i + 1)))]) rfl ?_
        refine xg_goto C 37 dX4_ticks_69 (by decide) ?_
        have e : bX4_ticks_37 (nI i) x = (fX4_rules (nI i) x) := by first | (rw [bX4_ticks_37, if_pos h2, if_pos h3]; done) | (rw [bX4_ticks_37, if_pos h2, if_pos h3]; rfl)
        rw [e] at K
        exact xg_le K ⟨rfl, rfl, rfl, trivial⟩
  · show xg F 0 0 37 [some (.ref (G.2.2 0 0)), some (.int (fX4_spills (sX4_ticks_15 S)).2), some (.int (nI 8))] [] (xP xYm G (xfold bX4_ticks_37 8 (sX4_ticks_32 S)))
    refine xg_iload_n C dX4_ticks_37 rfl ?_
    refine xg_bipush C dX4_ticks_38 (v := (8 : Int32)) (by decide) ?_
    refine xg_icmp_ge C 72 dX4_ticks_40 (by decide) (fun h4 => ?_) (fun h4 => absurd (nI_le (Nat.le_refl _) (by decide)) h4)
    refine xg_iload_n C dX4_ticks_72 rfl ?_
    have e : (fX4_ticks S) = ((xfold bX4_ticks_37 8 (sX4_ticks_32 S)), (fX4_spills (sX4_ticks_15 S)).2) := rfl
    exact xret_i E dX4_ticks_73 (xsnd e) (xfst e)
theorem xk_X4_ticks {S : xS} : (fX4_ticks S).1 1 = S 1 := by
  have e : (fX4_ticks S).1 = xfold bX4_ticks_37 8 (sX4_ticks_32 S) := xfst (rfl : fX4_ticks S = (_, _))
  rw [e, xfold_keep 1 _ _ _ (fun i x => by unfold bX4_ticks_37; (repeat' split) <;> first | rfl | rw [xk_X4_rules])]
  simp only [sX4_ticks_32, sX4_ticks_28, sX4_ticks_24, sX4_ticks_19, sX4_ticks_15, sX4_ticks_11, xk_X4_looks, xk_X4_calls, xk_X4_measures, xk_X4_spills, xk_X4_flowsOn, xk_X4_falls]
  rw [xu_nf (by decide)]
theorem iX4_tick_X4 : ∀ w ∈ wsX40, w ∈ wsX4_tick := by decide +kernel
theorem qX4_tick_118 : xFr wsX4_tick RX4 118 RX4 TX4 30 28 := ⟨iX4_tick_X4, List.mem_of_getElem? (i := 1) rfl, by decide⟩
def bX4_tick_44 (T : Nat) (i : Int32) (x : xS × Int32) : xS × Int32 :=
  ((fX4_ticks x.1).1, (x.2 + (fX4_ticks x.1).2))
def fX4_tick (T : Nat) (S : xS) : xS × Int32 :=
  if (fX4_isIn (nI T) (1 : Int32) (100 : Int32)) = (0 : Int32) then
    ((xu S 0 0 (nI 29) (1 : Int32)), (0 : Int32))
  else
    if ((S 0 0 (nI 28)) + (nI T)) ≤ (5000 : Int32) then
      ((xfold (bX4_tick_44 T) T ((xu S 0 0 (nI 29) (0 : Int32)), (0 : Int32))).1, (xfold (bX4_tick_44 T) T ((xu S 0 0 (nI 29) (0 : Int32)), (0 : Int32))).2)
    else
      ((xu S 0 0 (nI 29) (2 : Int32)), (0 : Int32))
theorem hdX4_tick : yX4_tick.cls = RX4 ∧ yX4_tick.cls ≠ "java/lang/invoke/MethodHandle" ∧ yX4_tick.cls ≠ "java/lang/invoke/VarHandle" ∧ (parseMethodDescriptor yX4_tick.desc).map (fun d => d.parameters.length) = some 1 := by decide +kernel
set_option maxRecDepth 100000 in
set_option maxHeartbeats 4000000 in
theorem kX4_tick (l : Launch) {G : xG} (hap : xAp xYm G) (T : Nat) (S : xS) (hT : T ≤ 100) (hA : ∀ r, vp_in r 8 → ¬ S 1 0 r = (0 : Int32)) : xMi l xYm G yX4_tick wsX4_tick 5 116 [.ref (G.2.2 0 0), .int (nI T)] S (fX4_tick T S).1 (fX4_tick T S).2 := by
  refine xMi_of (cc := cX4_tick) (maxL := 4) (ty := .int) (own := RX4) [some (.ref (G.2.2 0 0)), some (.int (nI T)), none, none] pnX4 rfl rfl rfl (xcat1 rfl) (Nat.le_of_ble_eq_true rfl) rfl hap (fun F C V E => ?_)
  refine xg_aload_n C dX4_tick_0 rfl ?_
  refine xg_iload_n C dX4_tick_1 rfl ?_
  refine xg_iconst C dX4_tick_2 (v := (1 : Int32)) (by decide) ?_
  refine xg_bipush C dX4_tick_3 (v := (100 : Int32)) (by decide) ?_
  refine xg_callSi C V (as := [.int (nI T), .int (1 : Int32), .int (100 : Int32)]) (r := (fX4_isIn (nI T) (1 : Int32) (100 : Int32))) (fun l => kX4_isIn l hap (nI T) (1 : Int32) (100 : Int32) S) gX4_tick_X4_isIn rfl hdX4_isIn ⟨by decide, by decide⟩ rfl rfl (Nat.le_of_ble_eq_true rfl) ⟨Nat.zero_le _, Nat.zero_le _⟩ dX4_tick_5 ?_
  refine xg_if_ne C 15 dX4_tick_8 (by decide) (fun h1 => ?_) (fun h1 => ?_)
  · refine xg_aload_n C dX4_tick_15 rfl ?_
    refine xg_getI C V (f := 0) qX4_tick_118 rfl rfl rfl dX4_tick_16 (v := (S 0 0 (nI 28))) rfl ?_
    refine xg_iload_n C dX4_tick_19 rfl ?_
    refine xg_iadd C dX4_tick_20 ?_
    refine xg_sipush C dX4_tick_21 (v := (5000 : Int32)) (by decide) ?_
    refine xg_icmp_le C 31 dX4_tick_24 (by decide) (fun h2 => ?_) (fun h2 => ?_)
    · refine xg_iconst C dX4_tick_31 (v := (0 : Int32)) (by decide) ?_
      refine xg_callVi C V (f := 0) (As := [.int (0 : Int32)]) (r := (1 : Int32)) (fun l => kX4_goes0 l hap  S) gX4_tick_X4_goes rfl hdX4_goes ⟨by decide, by decide⟩ rfl rfl rfl rfl rfl (Nat.le_of_ble_eq_true rfl) ⟨Nat.zero_le _, Nat.zero_le _⟩ dX4_tick_32 ?_
      refine xg_if_ne C 40 dX4_tick_35 (by decide) (fun h3 => ?_) (fun h3 => by exact absurd h3 (by decide))
      refine xg_iconst C dX4_tick_40 (v := (0 : Int32)) (by decide) ?_
      refine xg_istore_n C dX4_tick_41 (by decide) (L' := [some (.ref (G.2.2 0 0)), some (.int (nI T)), some (.int (0 : Int32)), none]) rfl ?_
      refine xg_iconst C dX4_tick_42 (v := (0 : Int32)) (by decide) ?_
      refine xg_istore_n C dX4_tick_43 (by decide) (L' := [some (.ref (G.2.2 0 0)), some (.int (nI T)), some (.int (0 : Int32)), some (.int (0 : Int32))]) rfl ?_
      refine xloopI (fun (ii : Int32) (x : xS × Int32) => xg F 0 0 44 [some (.ref (G.2.2 0 0)), some (.int (nI T)), some (.int x.2), some (.int ii)] [] (xP xYm G x.1)) (bX4_tick_44 T) T ((xu S 0 0 (nI 29) (0 : Int32)), (0 : Int32)) (fun _ (x : xS × Int32) => x.1 1 = S 1) (show (xu S 0 0 (nI 29) (0 : Int32)) 1 = S 1 from xu_nf (by decide)) (fun i hi x h => by have e : (bX4_tick_44 T (nI i) x).1 = (fX4_ticks x.1).1 := xfst (rfl : bX4_tick_44 T (nI i) x = ((fX4_ticks x.1).1, x.2 + (fX4_ticks x.1).2)); show (bX4_tick_44 T (nI i) x).1 1 = S 1; rw [e, xk_X4_ticks]; exact h) (fun i hi x hJ K => ?_) (fun hJ => ?_)
      · have hi8 := hi
        have hJ2 : x.1 1 = S 1 := hJ
        show xg F 0 0 44 [some (.ref (G.2.2 0 0)), some (.int (nI T)), some (.int x.2), some (.int (nI i))] [] (xP xYm G x.1)
        refine xg_iload_n C dX4_tick_44 rfl ?_
        refine xg_iload_n C dX4_tick_45 rfl ?_
        refine xg_icmp_ge C 62 dX4_tick_46 (by decide) (fun h4 => absurd h4 (nI_ge hi (by omega))) (fun h4 => ?_)
        refine xg_iload_n C dX4_tick_49 rfl ?_
        refine xg_aload_n C dX4_tick_50 rfl ?_
        refine xg_callVi C V (f := 0) (As := []) (r := (fX4_ticks x.1).2) (fun l => kX4_ticks l hap  x.1 (fun r hr => by rw [hJ2]; exact hA r hr)) gX4_tick_X4_ticks rfl hdX4_ticks ⟨by decide, by decide⟩ rfl rfl rfl rfl rfl (Nat.le_of_ble_eq_true rfl) ⟨Nat.zero_le _, Nat.zero_le _⟩ dX4_tick_51 ?_
        refine xg_iadd C dX4_tick_54 ?_
        refine xg_istore_n C dX4_tick_55 (by decide) (L' := [some (.ref (G.2.2 0 0)), some (.int (nI T)), some (.int (x.2 + (fX4_ticks x.1).2)), some (.int (nI i))]) rfl ?_
        refine xg_iinc C dX4_tick_56 rfl (v := (nI (i + 1))) (xinc i) (by decide) (L' := [some (.ref (G.2.2 0 0)), some (.int (nI T)), some (.int (x.2 + (fX4_ticks x.1).2)), some (.int (nI (i + 1)))]) rfl ?_
        refine xg_goto C 44 dX4_tick_59 (by decide) ?_
        have e : (bX4_tick_44 T) (nI i) x = ((fX4_ticks x.1).1, (x.2 + (fX4_ticks x.1).2)) := rfl
        rw [e] at K
        try dsimp only at K
        exact xg_le K ⟨rfl, rfl, rfl, rfl, trivial⟩
      · show xg F 0 0 44 [some (.ref (G.2.2 0 0)), some (.int (nI T)), some (.int (xfold (bX4_tick_44 T) T ((xu S 0 0 (nI 29) (0 : Int32)), (0 : Int32))).2), some (.int (nI T))] [] (xP xYm G (xfold (bX4_tick_44 T) T ((xu S 0 0 (nI 29) (0 : Int32)), (0 : Int32))).1)
        refine xg_iload_n C dX4_tick_44 rfl ?_
        refine xg_iload_n C dX4_tick_45 rfl ?_
        refine xg_icmp_ge C 62 dX4_tick_46 (by decide) (fun h5 => ?_) (fun h5 => absurd (nI_le (Nat.le_refl _) (by omega)) h5)
        refine xg_iload_n C dX4_tick_62 rfl ?_
        have e : (fX4_tick T S) = ((xfold (bX4_tick_44 T) T ((xu S 0 0 (nI 29) (0 : Int32)), (0 : Int32))).1, (xfold (bX4_tick_44 T) T ((xu S 0 0 (nI 29) (0 : Int32)), (0 : Int32))).2) := by first | (rw [fX4_tick, if_neg h1, if_pos h2]; done) | (rw [fX4_tick, if_neg h1, if_pos h2]; rfl)
        exact xret_i E dX4_tick_63 (xsnd e) (xfst e)
    · refine xg_iconst C dX4_tick_27 (v := (2 : Int32)) (by decide) ?_
      refine xg_goto C 32 dX4_tick_28 (by decide) ?_
      refine xg_callVi C V (f := 0) (As := [.int (2 : Int32)]) (r := (0 : Int32)) (fun l => kX4_goes2 l hap  S) gX4_tick_X4_goes rfl hdX4_goes ⟨by decide, by decide⟩ rfl rfl rfl rfl rfl (Nat.le_of_ble_eq_true rfl) ⟨Nat.zero_le _, Nat.zero_le _⟩ dX4_tick_32 ?_
      refine xg_if_ne C 40 dX4_tick_35 (by decide) (fun h6 => by exact absurd h6 (by decide)) (fun h6 => ?_)
      refine xg_iconst C dX4_tick_38 (v := (0 : Int32)) (by decide) ?_
      have e : (fX4_tick T S) = ((xu S 0 0 (nI 29) (2 : Int32)), (0 : Int32)) := by first | (rw [fX4_tick, if_neg h1, if_neg h2]; done) | (rw [fX4_tick, if_neg h1, if_neg h2]; rfl)
      exact xret_i E dX4_tick_39 (xsnd e) (xfst e)
  · refine xg_iconst C dX4_tick_11 (v := (1 : Int32)) (by decide) ?_
    refine xg_goto C 32 dX4_tick_12 (by decide) ?_
    refine xg_callVi C V (f := 0) (As := [.int (1 : Int32)]) (r := (0 : Int32)) (fun l => kX4_goes1 l hap  S) gX4_tick_X4_goes rfl hdX4_goes ⟨by decide, by decide⟩ rfl rfl rfl rfl rfl (Nat.le_of_ble_eq_true rfl) ⟨Nat.zero_le _, Nat.zero_le _⟩ dX4_tick_32 ?_
    refine xg_if_ne C 40 dX4_tick_35 (by decide) (fun h7 => by exact absurd h7 (by decide)) (fun h7 => ?_)
    refine xg_iconst C dX4_tick_38 (v := (0 : Int32)) (by decide) ?_
    have e : (fX4_tick T S) = ((xu S 0 0 (nI 29) (1 : Int32)), (0 : Int32)) := by first | (rw [fX4_tick, if_pos h1]; done) | (rw [fX4_tick, if_pos h1]; rfl)
    exact xret_i E dX4_tick_39 (xsnd e) (xfst e)
def fX4_tickno (a1 : Int32) (S : xS) : xS × Int32 :=
  ((xu S 0 0 (nI 29) (1 : Int32)), (0 : Int32))
set_option maxRecDepth 100000 in
set_option maxHeartbeats 4000000 in
theorem kX4_tickno (l : Launch) {G : xG} (hap : xAp xYm G) (a1 : Int32) (S : xS) (hb : (fX4_isIn a1 (1 : Int32) (100 : Int32)) = (0 : Int32)) : xMi l xYm G yX4_tick wsX4_tick 1 22 [.ref (G.2.2 0 0), .int a1] S (fX4_tickno a1 S).1 (fX4_tickno a1 S).2 := by
  refine xMi_of (cc := cX4_tick) (maxL := 4) (ty := .int) (own := RX4) [some (.ref (G.2.2 0 0)), some (.int a1), none, none] pnX4 rfl rfl rfl (xcat1 rfl) (Nat.le_of_ble_eq_true rfl) rfl hap (fun F C V E => ?_)
  refine xg_aload_n C dX4_tick_0 rfl ?_
  refine xg_iload_n C dX4_tick_1 rfl ?_
  refine xg_iconst C dX4_tick_2 (v := (1 : Int32)) (by decide) ?_
  refine xg_bipush C dX4_tick_3 (v := (100 : Int32)) (by decide) ?_
  refine xg_callSi C V (as := [.int a1, .int (1 : Int32), .int (100 : Int32)]) (r := (fX4_isIn a1 (1 : Int32) (100 : Int32))) (fun l => kX4_isIn l hap a1 (1 : Int32) (100 : Int32) S) gX4_tick_X4_isIn rfl hdX4_isIn ⟨by decide, by decide⟩ rfl rfl (Nat.le_of_ble_eq_true rfl) ⟨Nat.zero_le _, Nat.zero_le _⟩ dX4_tick_5 ?_
  refine xg_if_ne C 15 dX4_tick_8 (by decide) (fun h1 => absurd hb h1) (fun h1 => ?_)
  refine xg_iconst C dX4_tick_11 (v := (1 : Int32)) (by decide) ?_
  refine xg_goto C 32 dX4_tick_12 (by decide) ?_
  refine xg_callVi C V (f := 0) (As := [.int (1 : Int32)]) (r := (0 : Int32)) (fun l => kX4_goes1 l hap  S) gX4_tick_X4_goes rfl hdX4_goes ⟨by decide, by decide⟩ rfl rfl rfl rfl rfl (Nat.le_of_ble_eq_true rfl) ⟨Nat.zero_le _, Nat.zero_le _⟩ dX4_tick_32 ?_
  refine xg_if_ne C 40 dX4_tick_35 (by decide) (fun h2 => by exact absurd h2 (by decide)) (fun h2 => ?_)
  refine xg_iconst C dX4_tick_38 (v := (0 : Int32)) (by decide) ?_
  have e : (fX4_tickno a1 S) = ((xu S 0 0 (nI 29) (1 : Int32)), (0 : Int32)) := rfl
  exact xret_i E dX4_tick_39 (xsnd e) (xfst e)
