theorem iX4_rules_X4 : ∀ w ∈ wsX40, w ∈ wsX4_rules := by decide +kernel
theorem qX4_rules_68 : xFr wsX4_rules RX4 68 RX4 TX4 30 20 := ⟨iX4_rules_X4, List.mem_of_getElem? (i := 1) rfl, by decide⟩
theorem qX4_rules_19 : xFr wsX4_rules RX4 19 RX4 TX4 30 3 := ⟨iX4_rules_X4, List.mem_of_getElem? (i := 3) rfl, by decide⟩
theorem qX4_rules_53 : xFr wsX4_rules RX4 53 RX4 TX4 30 15 := ⟨iX4_rules_X4, List.mem_of_getElem? (i := 4) rfl, by decide⟩
theorem qX4_rules_46 : xFr wsX4_rules RX4 46 RX4 TX4 30 13 := ⟨iX4_rules_X4, List.mem_of_getElem? (i := 2) rfl, by decide⟩
theorem qX4_rules_40 : xFr wsX4_rules RX4 40 RX4 TX4 30 11 := ⟨iX4_rules_X4, List.mem_of_getElem? (i := 5) rfl, by decide⟩
theorem qX4_rules_37 : xFr wsX4_rules RX4 37 RX4 TX4 30 10 := ⟨iX4_rules_X4, List.mem_of_getElem? (i := 7) rfl, by decide⟩
theorem qX4_rules_43 : xFr wsX4_rules RX4 43 RX4 TX4 30 12 := ⟨iX4_rules_X4, List.mem_of_getElem? (i := 6) rfl, by decide⟩
def fX4_rules (a1 : Int32) (S : xS) : xS :=
  if a1 = (7 : Int32) then
    if (S 20 0 (fX4_at a1 a1)) ≤ (S 11 0 a1) then
      if (S 10 0 a1) ≤ (S 20 0 (fX4_at a1 a1)) then
        if (0 : Int32) ≤ ((S 4 0 a1) + (0 : Int32)) then
          if ((S 4 0 a1) + (0 : Int32)) ≤ (10 : Int32) then
            (xu S 4 0 a1 ((S 4 0 a1) + (0 : Int32)))
          else
            (xu S 4 0 a1 (10 : Int32))
        else
          (xu S 4 0 a1 (0 : Int32))
      else
        if (0 : Int32) ≤ ((S 4 0 a1) + (-1 : Int32)) then
          if ((S 4 0 a1) + (-1 : Int32)) ≤ (10 : Int32) then
            (xu S 4 0 a1 ((S 4 0 a1) + (-1 : Int32)))
          else
            (xu S 4 0 a1 (10 : Int32))
        else
          (xu S 4 0 a1 (0 : Int32))
    else
      if (0 : Int32) ≤ ((S 4 0 a1) + (1 : Int32)) then
        if ((S 4 0 a1) + (1 : Int32)) ≤ (10 : Int32) then
          (xu S 4 0 a1 ((S 4 0 a1) + (1 : Int32)))
        else
          (xu S 4 0 a1 (10 : Int32))
      else
        (xu S 4 0 a1 (0 : Int32))
  else
    if (fX4_hasNews a1 (a1 + (1 : Int32)) S) = (0 : Int32) then
      if (10 : Int32) ≤ ((S 4 0 a1) + (2 : Int32)) then
        (xu (xu S 4 0 a1 (10 : Int32)) 15 0 a1 ((S 15 0 a1) + (1 : Int32)))
      else
        (xu (xu S 4 0 a1 ((S 4 0 a1) + (2 : Int32))) 15 0 a1 ((S 15 0 a1) + (1 : Int32)))
    else
      if (fX4_ageOf a1 (a1 + (1 : Int32)) S) ≤ (S 13 0 a1) then
        if (S 20 0 (fX4_at a1 a1)) ≤ (S 11 0 a1) then
          if (S 10 0 a1) ≤ (S 20 0 (fX4_at a1 a1)) then
            if (0 : Int32) ≤ ((S 4 0 a1) + (0 : Int32)) then
              if ((S 4 0 a1) + (0 : Int32)) ≤ (10 : Int32) then
                (xu S 4 0 a1 ((S 4 0 a1) + (0 : Int32)))
              else
                (xu S 4 0 a1 (10 : Int32))
            else
              (xu S 4 0 a1 (0 : Int32))
          else
            if (0 : Int32) ≤ ((S 4 0 a1) + (-1 : Int32)) then
              if ((S 4 0 a1) + (-1 : Int32)) ≤ (10 : Int32) then
                (xu S 4 0 a1 ((S 4 0 a1) + (-1 : Int32)))
              else
                (xu S 4 0 a1 (10 : Int32))
            else
              (xu S 4 0 a1 (0 : Int32))
        else
          if (S 12 0 a1) ≤ (S 20 0 (fX4_at a1 (a1 + (1 : Int32)))) then
            if (S 10 0 a1) ≤ (S 20 0 (fX4_at a1 a1)) then
              if (0 : Int32) ≤ ((S 4 0 a1) + (0 : Int32)) then
                if ((S 4 0 a1) + (0 : Int32)) ≤ (10 : Int32) then
                  (xu S 4 0 a1 ((S 4 0 a1) + (0 : Int32)))
                else
                  (xu S 4 0 a1 (10 : Int32))
              else
                (xu S 4 0 a1 (0 : Int32))
            else
              if (0 : Int32) ≤ ((S 4 0 a1) + (-1 : Int32)) then
                if ((S 4 0 a1) + (-1 : Int32)) ≤ (10 : Int32) then
                  (xu S 4 0 a1 ((S 4 0 a1) + (-1 : Int32)))
                else
                  (xu S 4 0 a1 (10 : Int32))
              else
                (xu S 4 0 a1 (0 : Int32))
          else
            if (0 : Int32) ≤ ((S 4 0 a1) + (1 : Int32)) then
              if ((S 4 0 a1) + (1 : Int32)) ≤ (10 : Int32) then
                (xu S 4 0 a1 ((S 4 0 a1) + (1 : Int32)))
              else
                (xu S 4 0 a1 (10 : Int32))
            else
              (xu S 4 0 a1 (0 : Int32))
      else
        if (10 : Int32) ≤ ((S 4 0 a1) + (2 : Int32)) then
          (xu (xu S 4 0 a1 (10 : Int32)) 15 0 a1 ((S 15 0 a1) + (1 : Int32)))
        else
          (xu (xu S 4 0 a1 ((S 4 0 a1) + (2 : Int32))) 15 0 a1 ((S 15 0 a1) + (1 : Int32)))
theorem hdX4_rules : yX4_rules.cls = RX4 ∧ yX4_rules.cls ≠ "java/lang/invoke/MethodHandle" ∧ yX4_rules.cls ≠ "java/lang/invoke/VarHandle" ∧ (parseMethodDescriptor yX4_rules.desc).map (fun d => d.parameters.length) = some 1 := by decide +kernel
set_option maxRecDepth 100000 in
set_option maxHeartbeats 4000000 in
theorem kX4_rules (l : Launch) {G : xG} (hap : xAp xYm G) (a1 : Int32) (S : xS) (g_a1 : vp_in a1 8) : xMv l xYm G yX4_rules wsX4_rules 3 65 [.ref (G.2.2 0 0), .int a1] S (fX4_rules a1 S) := by
  refine xMv_of (cc := cX4_rules) (maxL := 6) (own := RX4) [some (.ref (G.2.2 0 0)), some (.int a1), none, none, none, none] pnX4 rfl rfl (xcat1 rfl) (Nat.le_of_ble_eq_true rfl) rfl hap (fun F C V E => ?_)
  refine xg_aload_n C dX4_rules_0 rfl ?_
  refine xg_getR C V (f := 0) qX4_rules_68 rfl rfl rfl dX4_rules_1 ?_
  refine xg_iload_n C dX4_rules_4 rfl ?_
  refine xg_iload_n C dX4_rules_5 rfl ?_
  refine xg_callSi C V (as := [.int a1, .int a1]) (r := (fX4_at a1 a1)) (fun l => kX4_at l hap a1 a1 S) gX4_rules_X4_at rfl hdX4_at ⟨by decide, by decide⟩ rfl rfl (Nat.le_of_ble_eq_true rfl) ⟨Nat.zero_le _, Nat.zero_le _⟩ dX4_rules_6 ?_
  refine xg_iald C V (f := 20) (n := 1) (N := 64) rfl (by decide) (xR_0 (by decide)) (xin_at (by first | assumption | exact xin_one (by assumption) | exact xin_asks (by assumption) | exact xin_ask1 (by assumption) | exact xin_ask2 (by assumption)) (by first | assumption | exact xin_one (by assumption) | exact xin_asks (by assumption) | exact xin_ask1 (by assumption) | exact xin_ask2 (by assumption))) dX4_rules_9 (v := (S 20 0 (fX4_at a1 a1))) rfl ?_
  refine xg_istore_n C dX4_rules_10 (by decide) (L' := [some (.ref (G.2.2 0 0)), some (.int a1), some (.int (S 20 0 (fX4_at a1 a1))), none, none, none]) rfl ?_
  refine xg_iload_n C dX4_rules_11 rfl ?_
  refine xg_bipush C dX4_rules_12 (v := (7 : Int32)) (by decide) ?_
  refine xg_icmp_ne C 21 dX4_rules_14 (by decide) (fun h1 => ?_) (fun h1 => ?_)
  · refine xg_iconst C dX4_rules_21 (v := (0 : Int32)) (by decide) ?_
    refine xg_istore_n C dX4_rules_22 (by decide) (L' := [some (.ref (G.2.2 0 0)), some (.int a1), some (.int (S 20 0 (fX4_at a1 a1))), some (.int (0 : Int32)), none, none]) rfl ?_
    refine xg_iload_n C dX4_rules_23 rfl ?_
    refine xg_if_ne C 98 dX4_rules_24 (by decide) (fun h2 => by exact absurd h2 (by decide)) (fun h2 => ?_)
    refine xg_aload_n C dX4_rules_27 rfl ?_
    refine xg_iload_n C dX4_rules_28 rfl ?_
    refine xg_iload_n C dX4_rules_29 rfl ?_
    refine xg_iconst C dX4_rules_30 (v := (1 : Int32)) (by decide) ?_
    refine xg_iadd C dX4_rules_31 ?_
    refine xg_callVi C V (f := 0) (As := [.int a1, .int (a1 + (1 : Int32))]) (r := (fX4_hasNews a1 (a1 + (1 : Int32)) S)) (fun l => kX4_hasNews l hap a1 (a1 + (1 : Int32)) S (by first | assumption | exact xin_one (by assumption) | exact xin_asks (by assumption) | exact xin_ask1 (by assumption) | exact xin_ask2 (by assumption)) (by first | exact xin_a (by assumption) (by assumption) | exact xin_b (by assumption) (by assumption) | exact xin_c (by assumption) (by assumption))) gX4_rules_X4_hasNews rfl hdX4_hasNews ⟨by decide, by decide⟩ rfl rfl rfl rfl rfl (Nat.le_of_ble_eq_true rfl) ⟨Nat.zero_le _, Nat.zero_le _⟩ dX4_rules_32 ?_
    refine xg_if_eq C 55 dX4_rules_35 (by decide) (fun h3 => ?_) (fun h3 => ?_)
    · refine xg_aload_n C dX4_rules_55 rfl ?_
      refine xg_getR C V (f := 0) qX4_rules_19 rfl rfl rfl dX4_rules_56 ?_
      refine xg_iload_n C dX4_rules_59 rfl ?_
      refine xg_aload_n C dX4_rules_60 rfl ?_
      refine xg_getR C V (f := 0) qX4_rules_19 rfl rfl rfl dX4_rules_61 ?_
      refine xg_iload_n C dX4_rules_64 rfl ?_
      refine xg_iald C V (f := 4) (n := 1) (N := 8) rfl (by decide) (xR_0 (by decide)) (by first | assumption | exact xin_one (by assumption) | exact xin_asks (by assumption) | exact xin_ask1 (by assumption) | exact xin_ask2 (by assumption)) dX4_rules_65 (v := (S 4 0 a1)) rfl ?_
      refine xg_iconst C dX4_rules_66 (v := (2 : Int32)) (by decide) ?_
      refine xg_iadd C dX4_rules_67 ?_
      refine xg_bipush C dX4_rules_68 (v := (10 : Int32)) (by decide) ?_
      refine xg_icmp_ge C 84 dX4_rules_70 (by decide) (fun h4 => ?_) (fun h4 => ?_)
      · refine xg_bipush C dX4_rules_84 (v := (10 : Int32)) (by decide) ?_
        refine xg_iast C V (f := 4) (n := 1) (N := 8) rfl (by decide) (xR_0 (by decide)) (by first | assumption | exact xin_one (by assumption) | exact xin_asks (by assumption) | exact xin_ask1 (by assumption) | exact xin_ask2 (by assumption)) dX4_rules_86 ?_
        refine xg_aload_n C dX4_rules_87 rfl ?_
        refine xg_getR C V (f := 0) qX4_rules_53 rfl rfl rfl dX4_rules_88 ?_
        refine xg_iload_n C dX4_rules_91 rfl ?_
        refine xg_dup2 C dX4_rules_92 rfl rfl ?_
        refine xg_iald C V (f := 15) (n := 1) (N := 8) rfl (by decide) (xR_0 (by decide)) (by first | assumption | exact xin_one (by assumption) | exact xin_asks (by assumption) | exact xin_ask1 (by assumption) | exact xin_ask2 (by assumption)) dX4_rules_93 (v := (S 15 0 a1)) (xu_ne (by decide)) ?_
        refine xg_iconst C dX4_rules_94 (v := (1 : Int32)) (by decide) ?_
        refine xg_iadd C dX4_rules_95 ?_
        refine xg_iast C V (f := 15) (n := 1) (N := 8) rfl (by decide) (xR_0 (by decide)) (by first | assumption | exact xin_one (by assumption) | exact xin_asks (by assumption) | exact xin_ask1 (by assumption) | exact xin_ask2 (by assumption)) dX4_rules_96 ?_
        exact xret_v E dX4_rules_97 (by first | (rw [fX4_rules, if_neg h1, if_pos h3, if_pos h4]; done) | (rw [fX4_rules, if_neg h1, if_pos h3, if_pos h4]; rfl))
      · refine xg_aload_n C dX4_rules_73 rfl ?_
        refine xg_getR C V (f := 0) qX4_rules_19 rfl rfl rfl dX4_rules_74 ?_
        refine xg_iload_n C dX4_rules_77 rfl ?_
        refine xg_iald C V (f := 4) (n := 1) (N := 8) rfl (by decide) (xR_0 (by decide)) (by first | assumption | exact xin_one (by assumption) | exact xin_asks (by assumption) | exact xin_ask1 (by assumption) | exact xin_ask2 (by assumption)) dX4_rules_78 (v := (S 4 0 a1)) rfl ?_
        refine xg_iconst C dX4_rules_79 (v := (2 : Int32)) (by decide) ?_
        refine xg_iadd C dX4_rules_80 ?_
        refine xg_goto C 86 dX4_rules_81 (by decide) ?_
        refine xg_iast C V (f := 4) (n := 1) (N := 8) rfl (by decide) (xR_0 (by decide)) (by first | assumption | exact xin_one (by assumption) | exact xin_asks (by assumption) | exact xin_ask1 (by assumption) | exact xin_ask2 (by assumption)) dX4_rules_86 ?_
        refine xg_aload_n C dX4_rules_87 rfl ?_
        refine xg_getR C V (f := 0) qX4_rules_53 rfl rfl rfl dX4_rules_88 ?_
        refine xg_iload_n C dX4_rules_91 rfl ?_
        refine xg_dup2 C dX4_rules_92 rfl rfl ?_
        refine xg_iald C V (f := 15) (n := 1) (N := 8) rfl (by decide) (xR_0 (by decide)) (by first | assumption | exact xin_one (by assumption) | exact xin_asks (by assumption) | exact xin_ask1 (by assumption) | exact xin_ask2 (by assumption)) dX4_rules_93 (v := (S 15 0 a1)) (xu_ne (by decide)) ?_
        refine xg_iconst C dX4_rules_94 (v := (1 : Int32)) (by decide) ?_
        refine xg_iadd C dX4_rules_95 ?_
        refine xg_iast C V (f := 15) (n := 1) (N := 8) rfl (by decide) (xR_0 (by decide)) (by first | assumption | exact xin_one (by assumption) | exact xin_asks (by assumption) | exact xin_ask1 (by assumption) | exact xin_ask2 (by assumption)) dX4_rules_96 ?_
        exact xret_v E dX4_rules_97 (by first | (rw [fX4_rules, if_neg h1, if_pos h3, if_neg h4]; done) | (rw [fX4_rules, if_neg h1, if_pos h3, if_neg h4]; rfl))
    · refine xg_aload_n C dX4_rules_38 rfl ?_
      refine xg_iload_n C dX4_rules_39 rfl ?_
      refine xg_iload_n C dX4_rules_40 rfl ?_
      refine xg_iconst C dX4_rules_41 (v := (1 : Int32)) (by decide) ?_
      refine xg_iadd C dX4_rules_42 ?_
      refine xg_callVi C V (f := 0) (As := [.int a1, .int (a1 + (1 : Int32))]) (r := (fX4_ageOf a1 (a1 + (1 : Int32)) S)) (fun l => kX4_ageOf l hap a1 (a1 + (1 : Int32)) S (by first | assumption | exact xin_one (by assumption) | exact xin_asks (by assumption) | exact xin_ask1 (by assumption) | exact xin_ask2 (by assumption)) (by first | exact xin_a (by assumption) (by assumption) | exact xin_b (by assumption) (by assumption) | exact xin_c (by assumption) (by assumption))) gX4_rules_X4_ageOf rfl hdX4_ageOf ⟨by decide, by decide⟩ rfl rfl rfl rfl rfl (Nat.le_of_ble_eq_true rfl) ⟨Nat.zero_le _, Nat.zero_le _⟩ dX4_rules_43 ?_
      refine xg_aload_n C dX4_rules_46 rfl ?_
      refine xg_getR C V (f := 0) qX4_rules_46 rfl rfl rfl dX4_rules_47 ?_
      refine xg_iload_n C dX4_rules_50 rfl ?_
      refine xg_iald C V (f := 13) (n := 1) (N := 8) rfl (by decide) (xR_0 (by decide)) (by first | assumption | exact xin_one (by assumption) | exact xin_asks (by assumption) | exact xin_ask1 (by assumption) | exact xin_ask2 (by assumption)) dX4_rules_51 (v := (S 13 0 a1)) rfl ?_
      refine xg_icmp_le C 98 dX4_rules_52 (by decide) (fun h5 => ?_) (fun h5 => ?_)
      · refine xg_iload_n C dX4_rules_98 rfl ?_
        refine xg_aload_n C dX4_rules_99 rfl ?_
        refine xg_getR C V (f := 0) qX4_rules_40 rfl rfl rfl dX4_rules_100 ?_
        refine xg_iload_n C dX4_rules_103 rfl ?_
        refine xg_iald C V (f := 11) (n := 1) (N := 8) rfl (by decide) (xR_0 (by decide)) (by first | assumption | exact xin_one (by assumption) | exact xin_asks (by assumption) | exact xin_ask1 (by assumption) | exact xin_ask2 (by assumption)) dX4_rules_104 (v := (S 11 0 a1)) rfl ?_
        refine xg_icmp_le C 137 dX4_rules_105 (by decide) (fun h6 => ?_) (fun h6 => ?_)
        · refine xg_iconst C dX4_rules_137 (v := (0 : Int32)) (by decide) ?_
          refine xg_istore C dX4_rules_138 (by decide) (L' := [some (.ref (G.2.2 0 0)), some (.int a1), some (.int (S 20 0 (fX4_at a1 a1))), some (.int (0 : Int32)), some (.int (0 : Int32)), none]) rfl ?_
          refine xg_aload_n C dX4_rules_140 rfl ?_
          refine xg_getR C V (f := 0) qX4_rules_19 rfl rfl rfl dX4_rules_141 ?_
          refine xg_iload_n C dX4_rules_144 rfl ?_
          refine xg_iald C V (f := 4) (n := 1) (N := 8) rfl (by decide) (xR_0 (by decide)) (by first | assumption | exact xin_one (by assumption) | exact xin_asks (by assumption) | exact xin_ask1 (by assumption) | exact xin_ask2 (by assumption)) dX4_rules_145 (v := (S 4 0 a1)) rfl ?_
          refine xg_iload C dX4_rules_146 rfl ?_
          refine xg_if_eq C 155 dX4_rules_148 (by decide) (fun h7 => ?_) (fun h7 => by exact absurd h7 (by decide))
          refine xg_iload_n C dX4_rules_155 rfl ?_
          refine xg_aload_n C dX4_rules_156 rfl ?_
          refine xg_getR C V (f := 0) qX4_rules_37 rfl rfl rfl dX4_rules_157 ?_
          refine xg_iload_n C dX4_rules_160 rfl ?_
          refine xg_iald C V (f := 10) (n := 1) (N := 8) rfl (by decide) (xR_0 (by decide)) (by first | assumption | exact xin_one (by assumption) | exact xin_asks (by assumption) | exact xin_ask1 (by assumption) | exact xin_ask2 (by assumption)) dX4_rules_161 (v := (S 10 0 a1)) rfl ?_
          refine xg_icmp_ge C 169 dX4_rules_162 (by decide) (fun h8 => ?_) (fun h8 => ?_)
          · refine xg_iconst C dX4_rules_169 (v := (0 : Int32)) (by decide) ?_
            refine xg_iadd C dX4_rules_170 ?_
            refine xg_istore C dX4_rules_171 (by decide) (L' := [some (.ref (G.2.2 0 0)), some (.int a1), some (.int (S 20 0 (fX4_at a1 a1))), some (.int (0 : Int32)), some (.int (0 : Int32)), some (.int ((S 4 0 a1) + (0 : Int32)))]) rfl ?_
            refine xg_aload_n C dX4_rules_173 rfl ?_
            refine xg_getR C V (f := 0) qX4_rules_19 rfl rfl rfl dX4_rules_174 ?_
            refine xg_iload_n C dX4_rules_177 rfl ?_
            refine xg_iload C dX4_rules_178 rfl ?_
            refine xg_if_ge C 187 dX4_rules_180 (by decide) (fun h9 => ?_) (fun h9 => ?_)
            · refine xg_iload C dX4_rules_187 rfl ?_
              refine xg_bipush C dX4_rules_189 (v := (10 : Int32)) (by decide) ?_
              refine xg_icmp_le C 199 dX4_rules_191 (by decide) (fun h10 => ?_) (fun h10 => ?_)
              · refine xg_iload C dX4_rules_199 rfl ?_
                refine xg_iast C V (f := 4) (n := 1) (N := 8) rfl (by decide) (xR_0 (by decide)) (by first | assumption | exact xin_one (by assumption) | exact xin_asks (by assumption) | exact xin_ask1 (by assumption) | exact xin_ask2 (by assumption)) dX4_rules_201 ?_
                exact xret_v E dX4_rules_202 (by first | (rw [fX4_rules, if_neg h1, if_neg h3, if_pos h5, if_pos h6, if_pos h8, if_pos h9, if_pos h10]; done) | (rw [fX4_rules, if_neg h1, if_neg h3, if_pos h5, if_pos h6, if_pos h8, if_pos h9, if_pos h10]; rfl))
              · refine xg_bipush C dX4_rules_194 (v := (10 : Int32)) (by decide) ?_
                refine xg_goto C 201 dX4_rules_196 (by decide) ?_
                refine xg_iast C V (f := 4) (n := 1) (N := 8) rfl (by decide) (xR_0 (by decide)) (by first | assumption | exact xin_one (by assumption) | exact xin_asks (by assumption) | exact xin_ask1 (by assumption) | exact xin_ask2 (by assumption)) dX4_rules_201 ?_
                exact xret_v E dX4_rules_202 (by first | (rw [fX4_rules, if_neg h1, if_neg h3, if_pos h5, if_pos h6, if_pos h8, if_pos h9, if_neg h10]; done) | (rw [fX4_rules, if_neg h1, if_neg h3, if_pos h5, if_pos h6, if_pos h8, if_pos h9, if_neg h10]; rfl))
            · refine xg_iconst C dX4_rules_183 (v := (0 : Int32)) (by decide) ?_
              refine xg_goto C 201 dX4_rules_184 (by decide) ?_
              refine xg_iast C V (f := 4) (n := 1) (N := 8) rfl (by decide) (xR_0 (by decide)) (by first | assumption | exact xin_one (by assumption) | exact xin_asks (by assumption) | exact xin_ask1 (by assumption) | exact xin_ask2 (by assumption)) dX4_rules_201 ?_
              exact xret_v E dX4_rules_202 (by first | (rw [fX4_rules, if_neg h1, if_neg h3, if_pos h5, if_pos h6, if_pos h8, if_neg h9]; done) | (rw [fX4_rules, if_neg h1, if_neg h3, if_pos h5, if_pos h6, if_pos h8, if_neg h9]; rfl))
          · refine xg_iconst C dX4_rules_165 (v := (-1 : Int32)) (by decide) ?_
            refine xg_goto C 170 dX4_rules_166 (by decide) ?_
            refine xg_iadd C dX4_rules_170 ?_
            refine xg_istore C dX4_rules_171 (by decide) (L' := [some (.ref (G.2.2 0 0)), some (.int a1), some (.int (S 20 0 (fX4_at a1 a1))), some (.int (0 : Int32)), some (.int (0 : Int32)), some (.int ((S 4 0 a1) + (-1 : Int32)))]) rfl ?_
            refine xg_aload_n C dX4_rules_173 rfl ?_
            refine xg_getR C V (f := 0) qX4_rules_19 rfl rfl rfl dX4_rules_174 ?_
            refine xg_iload_n C dX4_rules_177 rfl ?_
            refine xg_iload C dX4_rules_178 rfl ?_
            refine xg_if_ge C 187 dX4_rules_180 (by decide) (fun h11 => ?_) (fun h11 => ?_)
            · refine xg_iload C dX4_rules_187 rfl ?_
              refine xg_bipush C dX4_rules_189 (v := (10 : Int32)) (by decide) ?_
              refine xg_icmp_le C 199 dX4_rules_191 (by decide) (fun h12 => ?_) (fun h12 => ?_)
              · refine xg_iload C dX4_rules_199 rfl ?_
                refine xg_iast C V (f := 4) (n := 1) (N := 8) rfl (by decide) (xR_0 (by decide)) (by first | assumption | exact xin_one (by assumption) | exact xin_asks (by assumption) | exact xin_ask1 (by assumption) | exact xin_ask2 (by assumption)) dX4_rules_201 ?_
                exact xret_v E dX4_rules_202 (by first | (rw [fX4_rules, if_neg h1, if_neg h3, if_pos h5, if_pos h6, if_neg h8, if_pos h11, if_pos h12]; done) | (rw [fX4_rules, if_neg h1, if_neg h3, if_pos h5, if_pos h6, if_neg h8, if_pos h11, if_pos h12]; rfl))
              · refine xg_bipush C dX4_rules_194 (v := (10 : Int32)) (by decide) ?_
                refine xg_goto C 201 dX4_rules_196 (by decide) ?_
                refine xg_iast C V (f := 4) (n := 1) (N := 8) rfl (by decide) (xR_0 (by decide)) (by first | assumption | exact xin_one (by assumption) | exact xin_asks (by assumption) | exact xin_ask1 (by assumption) | exact xin_ask2 (by assumption)) dX4_rules_201 ?_
                exact xret_v E dX4_rules_202 (by first | (rw [fX4_rules, if_neg h1, if_neg h3, if_pos h5, if_pos h6, if_neg h8, if_pos h11, if_neg h12]; done) | (rw [fX4_rules, if_neg h1, if_neg h3, if_pos h5, if_pos h6, if_neg h8, if_pos h11, if_neg h12]; rfl))
            · refine xg_iconst C dX4_rules_183 (v := (0 : Int32)) (by decide) ?_
              refine xg_goto C 201 dX4_rules_184 (by decide) ?_
              refine xg_iast C V (f := 4) (n := 1) (N := 8) rfl (by decide) (xR_0 (by decide)) (by first | assumption | exact xin_one (by assumption) | exact xin_asks (by assumption) | exact xin_ask1 (by assumption) | exact xin_ask2 (by assumption)) dX4_rules_201 ?_
              exact xret_v E dX4_rules_202 (by first | (rw [fX4_rules, if_neg h1, if_neg h3, if_pos h5, if_pos h6, if_neg h8, if_neg h11]; done) | (rw [fX4_rules, if_neg h1, if_neg h3, if_pos h5, if_pos h6, if_neg h8, if_neg h11]; rfl))
        · refine xg_iload_n C dX4_rules_108 rfl ?_
          refine xg_if_ne C 133 dX4_rules_109 (by decide) (fun h13 => by exact absurd h13 (by decide)) (fun h13 => ?_)
          refine xg_aload_n C dX4_rules_112 rfl ?_
          refine xg_getR C V (f := 0) qX4_rules_68 rfl rfl rfl dX4_rules_113 ?_
          refine xg_iload_n C dX4_rules_116 rfl ?_
          refine xg_iload_n C dX4_rules_117 rfl ?_
          refine xg_iconst C dX4_rules_118 (v := (1 : Int32)) (by decide) ?_
          refine xg_iadd C dX4_rules_119 ?_
          refine xg_callSi C V (as := [.int a1, .int (a1 + (1 : Int32))]) (r := (fX4_at a1 (a1 + (1 : Int32)))) (fun l => kX4_at l hap a1 (a1 + (1 : Int32)) S) gX4_rules_X4_at rfl hdX4_at ⟨by decide, by decide⟩ rfl rfl (Nat.le_of_ble_eq_true rfl) ⟨Nat.zero_le _, Nat.zero_le _⟩ dX4_rules_120 ?_
          refine xg_iald C V (f := 20) (n := 1) (N := 64) rfl (by decide) (xR_0 (by decide)) (xin_at (by first | assumption | exact xin_one (by assumption) | exact xin_asks (by assumption) | exact xin_ask1 (by assumption) | exact xin_ask2 (by assumption)) (by first | exact xin_a (by assumption) (by assumption) | exact xin_b (by assumption) (by assumption) | exact xin_c (by assumption) (by assumption))) dX4_rules_123 (v := (S 20 0 (fX4_at a1 (a1 + (1 : Int32))))) rfl ?_
          refine xg_aload_n C dX4_rules_124 rfl ?_
          refine xg_getR C V (f := 0) qX4_rules_43 rfl rfl rfl dX4_rules_125 ?_
          refine xg_iload_n C dX4_rules_128 rfl ?_
          refine xg_iald C V (f := 12) (n := 1) (N := 8) rfl (by decide) (xR_0 (by decide)) (by first | assumption | exact xin_one (by assumption) | exact xin_asks (by assumption) | exact xin_ask1 (by assumption) | exact xin_ask2 (by assumption)) dX4_rules_129 (v := (S 12 0 a1)) rfl ?_
          refine xg_icmp_ge C 137 dX4_rules_130 (by decide) (fun h14 => ?_) (fun h14 => ?_)
          · refine xg_iconst C dX4_rules_137 (v := (0 : Int32)) (by decide) ?_
            refine xg_istore C dX4_rules_138 (by decide) (L' := [some (.ref (G.2.2 0 0)), some (.int a1), some (.int (S 20 0 (fX4_at a1 a1))), some (.int (0 : Int32)), some (.int (0 : Int32)), none]) rfl ?_
            refine xg_aload_n C dX4_rules_140 rfl ?_
            refine xg_getR C V (f := 0) qX4_rules_19 rfl rfl rfl dX4_rules_141 ?_
            refine xg_iload_n C dX4_rules_144 rfl ?_
            refine xg_iald C V (f := 4) (n := 1) (N := 8) rfl (by decide) (xR_0 (by decide)) (by first | assumption | exact xin_one (by assumption) | exact xin_asks (by assumption) | exact xin_ask1 (by assumption) | exact xin_ask2 (by assumption)) dX4_rules_145 (v := (S 4 0 a1)) rfl ?_
            refine xg_iload C dX4_rules_146 rfl ?_
            refine xg_if_eq C 155 dX4_rules_148 (by decide) (fun h15 => ?_) (fun h15 => by exact absurd h15 (by decide))
            refine xg_iload_n C dX4_rules_155 rfl ?_
            refine xg_aload_n C dX4_rules_156 rfl ?_
            refine xg_getR C V (f := 0) qX4_rules_37 rfl rfl rfl dX4_rules_157 ?_
            refine xg_iload_n C dX4_rules_160 rfl ?_
            refine xg_iald C V (f := 10) (n := 1) (N := 8) rfl (by decide) (xR_0 (by decide)) (by first | assumption | exact xin_one (by assumption) | exact xin_asks (by assumption) | exact xin_ask1 (by assumption) | exact xin_ask2 (by assumption)) dX4_rules_161 (v := (S 10 0 a1)) rfl ?_
            refine xg_icmp_ge C 169 dX4_rules_162 (by decide) (fun h16 => ?_) (fun h16 => ?_)
            · refine xg_iconst C dX4_rules_169 (v := (0 : Int32)) (by decide) ?_
              refine xg_iadd C dX4_rules_170 ?_
              refine xg_istore C dX4_rules_171 (by decide) (L' := [some (.ref (G.2.2 0 0)), some (.int a1), some (.int (S 20 0 (fX4_at a1 a1))), some (.int (0 : Int32)), some (.int (0 : Int32)), some (.int ((S 4 0 a1) + (0 : Int32)))]) rfl ?_
              refine xg_aload_n C dX4_rules_173 rfl ?_
              refine xg_getR C V (f := 0) qX4_rules_19 rfl rfl rfl dX4_rules_174 ?_
              refine xg_iload_n C dX4_rules_177 rfl ?_
              refine xg_iload C dX4_rules_178 rfl ?_
              refine xg_if_ge C 187 dX4_rules_180 (by decide) (fun h17 => ?_) (fun h17 => ?_)
              · refine xg_iload C dX4_rules_187 rfl ?_
                refine xg_bipush C dX4_rules_189 (v := (10 : Int32)) (by decide) ?_
                refine xg_icmp_le C 199 dX4_rules_191 (by decide) (fun h18 => ?_) (fun h18 => ?_)
                · refine xg_iload C dX4_rules_199 rfl ?_
                  refine xg_iast C V (f := 4) (n := 1) (N := 8) rfl (by decide) (xR_0 (by decide)) (by first | assumption | exact xin_one (by assumption) | exact xin_asks (by assumption) | exact xin_ask1 (by assumption) | exact xin_ask2 (by assumption)) dX4_rules_201 ?_
                  exact xret_v E dX4_rules_202 (by first | (rw [fX4_rules, if_neg h1, if_neg h3, if_pos h5, if_neg h6, if_pos h14, if_pos h16, if_pos h17, if_pos h18]; done) | (rw [fX4_rules, if_neg h1, if_neg h3, if_pos h5, if_neg h6, if_pos h14, if_pos h16, if_pos h17, if_pos h18]; rfl))
                · refine xg_bipush C dX4_rules_194 (v := (10 : Int32)) (by decide) ?_
                  refine xg_goto C 201 dX4_rules_196 (by decide) ?_
                  refine xg_iast C V (f := 4) (n := 1) (N := 8) rfl (by decide) (xR_0 (by decide)) (by first | assumption | exact xin_one (by assumption) | exact xin_asks (by assumption) | exact xin_ask1 (by assumption) | exact xin_ask2 (by assumption)) dX4_rules_201 ?_
                  exact xret_v E dX4_rules_202 (by first | (rw [fX4_rules, if_neg h1, if_neg h3, if_pos h5, if_neg h6, if_pos h14, if_pos h16, if_pos h17, if_neg h18]; done) | (rw [fX4_rules, if_neg h1, if_neg h3, if_pos h5, if_neg h6, if_pos h14, if_pos h16, if_pos h17, if_neg h18]; rfl))
              · refine xg_iconst C dX4_rules_183 (v := (0 : Int32)) (by decide) ?_
                refine xg_goto C 201 dX4_rules_184 (by decide) ?_
                refine xg_iast C V (f := 4) (n := 1) (N := 8) rfl (by decide) (xR_0 (by decide)) (by first | assumption | exact xin_one (by assumption) | exact xin_asks (by assumption) | exact xin_ask1 (by assumption) | exact xin_ask2 (by assumption)) dX4_rules_201 ?_
                exact xret_v E dX4_rules_202 (by first | (rw [fX4_rules, if_neg h1, if_neg h3, if_pos h5, if_neg h6, if_pos h14, if_pos h16, if_neg h17]; done) | (rw [fX4_rules, if_neg h1, if_neg h3, if_pos h5, if_neg h6, if_pos h14, if_pos h16, if_neg h17]; rfl))
            · refine xg_iconst C dX4_rules_165 (v := (-1 : Int32)) (by decide) ?_
              refine xg_goto C 170 dX4_rules_166 (by decide) ?_
              refine xg_iadd C dX4_rules_170 ?_
              refine xg_istore C dX4_rules_171 (by decide) (L' := [some (.ref (G.2.2 0 0)), some (.int a1), some (.int (S 20 0 (fX4_at a1 a1))), some (.int (0 : Int32)), some (.int (0 : Int32)), some (.int ((S 4 0 a1) + (-1 : Int32)))]) rfl ?_
              refine xg_aload_n C dX4_rules_173 rfl ?_
              refine xg_getR C V (f := 0) qX4_rules_19 rfl rfl rfl dX4_rules_174 ?_
              refine xg_iload_n C dX4_rules_177 rfl ?_
              refine xg_iload C dX4_rules_178 rfl ?_
              refine xg_if_ge C 187 dX4_rules_180 (by decide) (fun h19 => ?_) (fun h19 => ?_)
              · refine xg_iload C dX4_rules_187 rfl ?_
                refine xg_bipush C dX4_rules_189 (v := (10 : Int32)) (by decide) ?_
                refine xg_icmp_le C 199 dX4_rules_191 (by decide) (fun h20 => ?_) (fun h20 => ?_)
                · refine xg_iload C dX4_rules_199 rfl ?_
                  refine xg_iast C V (f := 4) (n := 1) (N := 8) rfl (by decide) (xR_0 (by decide)) (by first | assumption | exact xin_one (by assumption) | exact xin_asks (by assumption) | exact xin_ask1 (by assumption) | exact xin_ask2 (by assumption)) dX4_rules_201 ?_
                  exact xret_v E dX4_rules_202 (by first | (rw [fX4_rules, if_neg h1, if_neg h3, if_pos h5, if_neg h6, if_pos h14, if_neg h16, if_pos h19, if_pos h20]; done) | (rw [fX4_rules, if_neg h1, if_neg h3, if_pos h5, if_neg h6, if_pos h14, if_neg h16, if_pos h19, if_pos h20]; rfl))
                · refine xg_bipush C dX4_rules_194 (v := (10 : Int32)) (by decide) ?_
                  refine xg_goto C 201 dX4_rules_196 (by decide) ?_
                  refine xg_iast C V (f := 4) (n := 1) (N := 8) rfl (by decide) (xR_0 (by decide)) (by first | assumption | exact xin_one (by assumption) | exact xin_asks (by assumption) | exact xin_ask1 (by assumption) | exact xin_ask2 (by assumption)) dX4_rules_201 ?_
                  exact xret_v E dX4_rules_202 (by first | (rw [fX4_rules, if_neg h1, if_neg h3, if_pos h5, if_neg h6, if_pos h14, if_neg h16, if_pos h19, if_neg h20]; done) | (rw [fX4_rules, if_neg h1, if_neg h3, if_pos h5, if_neg h6, if_pos h14, if_neg h16, if_pos h19, if_neg h20]; rfl))
              · refine xg_iconst C dX4_rules_183 (v := (0 : Int32)) (by decide) ?_
                refine xg_goto C 201 dX4_rules_184 (by decide) ?_
                refine xg_iast C V (f := 4) (n := 1) (N := 8) rfl (by decide) (xR_0 (by decide)) (by first | assumption | exact xin_one (by assumption) | exact xin_asks (by assumption) | exact xin_ask1 (by assumption) | exact xin_ask2 (by assumption)) dX4_rules_201 ?_
                exact xret_v E dX4_rules_202 (by first | (rw [fX4_rules, if_neg h1, if_neg h3, if_pos h5, if_neg h6, if_pos h14, if_neg h16, if_neg h19]; done) | (rw [fX4_rules, if_neg h1, if_neg h3, if_pos h5, if_neg h6, if_pos h14, if_neg h16, if_neg h19]; rfl))
          · refine xg_iconst C dX4_rules_133 (v := (1 : Int32)) (by decide) ?_
            refine xg_goto C 138 dX4_rules_134 (by decide) ?_
            refine xg_istore C dX4_rules_138 (by decide) (L' := [some (.ref (G.2.2 0 0)), some (.int a1), some (.int (S 20 0 (fX4_at a1 a1))), some (.int (0 : Int32)), some (.int (1 : Int32)), none]) rfl ?_
            refine xg_aload_n C dX4_rules_140 rfl ?_
            refine xg_getR C V (f := 0) qX4_rules_19 rfl rfl rfl dX4_rules_141 ?_
            refine xg_iload_n C dX4_rules_144 rfl ?_
            refine xg_iald C V (f := 4) (n := 1) (N := 8) rfl (by decide) (xR_0 (by decide)) (by first | assumption | exact xin_one (by assumption) | exact xin_asks (by assumption) | exact xin_ask1 (by assumption) | exact xin_ask2 (by assumption)) dX4_rules_145 (v := (S 4 0 a1)) rfl ?_
            refine xg_iload C dX4_rules_146 rfl ?_
            refine xg_if_eq C 155 dX4_rules_148 (by decide) (fun h21 => by exact absurd h21 (by decide)) (fun h21 => ?_)
            refine xg_iconst C dX4_rules_151 (v := (1 : Int32)) (by decide) ?_
            refine xg_goto C 170 dX4_rules_152 (by decide) ?_
            refine xg_iadd C dX4_rules_170 ?_
            refine xg_istore C dX4_rules_171 (by decide) (L' := [some (.ref (G.2.2 0 0)), some (.int a1), some (.int (S 20 0 (fX4_at a1 a1))), some (.int (0 : Int32)), some (.int (1 : Int32)), some (.int ((S 4 0 a1) + (1 : Int32)))]) rfl ?_
            refine xg_aload_n C dX4_rules_173 rfl ?_
            refine xg_getR C V (f := 0) qX4_rules_19 rfl rfl rfl dX4_rules_174 ?_
            refine xg_iload_n C dX4_rules_177 rfl ?_
            refine xg_iload C dX4_rules_178 rfl ?_
            refine xg_if_ge C 187 dX4_rules_180 (by decide) (fun h22 => ?_) (fun h22 => ?_)
            · refine xg_iload C dX4_rules_187 rfl ?_
              refine xg_bipush C dX4_rules_189 (v := (10 : Int32)) (by decide) ?_
              refine xg_icmp_le C 199 dX4_rules_191 (by decide) (fun h23 => ?_) (fun h23 => ?_)
              · refine xg_iload C dX4_rules_199 rfl ?_
                refine xg_iast C V (f := 4) (n := 1) (N := 8) rfl (by decide) (xR_0 (by decide)) (by first | assumption | exact xin_one (by assumption) | exact xin_asks (by assumption) | exact xin_ask1 (by assumption) | exact xin_ask2 (by assumption)) dX4_rules_201 ?_
                exact xret_v E dX4_rules_202 (by first | (rw [fX4_rules, if_neg h1, if_neg h3, if_pos h5, if_neg h6, if_neg h14, if_pos h22, if_pos h23]; done) | (rw [fX4_rules, if_neg h1, if_neg h3, if_pos h5, if_neg h6, if_neg h14, if_pos h22, if_pos h23]; rfl))
              · refine xg_bipush C dX4_rules_194 (v := (10 : Int32)) (by decide) ?_
                refine xg_goto C 201 dX4_rules_196 (by decide) ?_
                refine xg_iast C V (f := 4) (n := 1) (N := 8) rfl (by decide) (xR_0 (by decide)) (by first | assumption | exact xin_one (by assumption) | exact xin_asks (by assumption) | exact xin_ask1 (by assumption) | exact xin_ask2 (by assumption)) dX4_rules_201 ?_
                exact xret_v E dX4_rules_202 (by first | (rw [fX4_rules, if_neg h1, if_neg h3, if_pos h5, if_neg h6, if_neg h14, if_pos h22, if_neg h23]; done) | (rw [fX4_rules, if_neg h1, if_neg h3, if_pos h5, if_neg h6, if_neg h14, if_pos h22, if_neg h23]; rfl))
            · refine xg_iconst C dX4_rules_183 (v := (0 : Int32)) (by decide) ?_
              refine xg_goto C 201 dX4_rules_184 (by decide) ?_
              refine xg_iast C V (f := 4) (n := 1) (N := 8) rfl (by decide) (xR_0 (by decide)) (by first | assumption | exact xin_one (by assumption) | exact xin_asks (by assumption) | exact xin_ask1 (by assumption) | exact xin_ask2 (by assumption)) dX4_rules_201 ?_
              exact xret_v E dX4_rules_202 (by first | (rw [fX4_rules, if_neg h1, if_neg h3, if_pos h5, if_neg h6, if_neg h14, if_neg h22]; done) | (rw [fX4_rules, if_neg h1, if_neg h3, if_pos h5, if_neg h6, if_neg h14, if_neg h22]; rfl))
      · refine xg_aload_n C dX4_rules_55 rfl ?_
        refine xg_getR C V (f := 0) qX4_rules_19 rfl rfl rfl dX4_rules_56 ?_
        refine xg_iload_n C dX4_rules_59 rfl ?_
        refine xg_aload_n C dX4_rules_60 rfl ?_
        refine xg_getR C V (f := 0) qX4_rules_19 rfl rfl rfl dX4_rules_61 ?_
        refine xg_iload_n C dX4_rules_64 rfl ?_
        refine xg_iald C V (f := 4) (n := 1) (N := 8) rfl (by decide) (xR_0 (by decide)) (by first | assumption | exact xin_one (by assumption) | exact xin_asks (by assumption) | exact xin_ask1 (by assumption) | exact xin_ask2 (by assumption)) dX4_rules_65 (v := (S 4 0 a1)) rfl ?_
        refine xg_iconst C dX4_rules_66 (v := (2 : Int32)) (by decide) ?_
        refine xg_iadd C dX4_rules_67 ?_
        refine xg_bipush C dX4_rules_68 (v := (10 : Int32)) (by decide) ?_
        refine xg_icmp_ge C 84 dX4_rules_70 (by decide) (fun h24 => ?_) (fun h24 => ?_)
        · refine xg_bipush C dX4_rules_84 (v := (10 : Int32)) (by decide) ?_
          refine xg_iast C V (f := 4) (n := 1) (N := 8) rfl (by decide) (xR_0 (by decide)) (by first | assumption | exact xin_one (by assumption) | exact xin_asks (by assumption) | exact xin_ask1 (by assumption) | exact xin_ask2 (by assumption)) dX4_rules_86 ?_
          refine xg_aload_n C dX4_rules_87 rfl ?_
          refine xg_getR C V (f := 0) qX4_rules_53 rfl rfl rfl dX4_rules_88 ?_
          refine xg_iload_n C dX4_rules_91 rfl ?_
          refine xg_dup2 C dX4_rules_92 rfl rfl ?_
          refine xg_iald C V (f := 15) (n := 1) (N := 8) rfl (by decide) (xR_0 (by decide)) (by first | assumption | exact xin_one (by assumption) | exact xin_asks (by assumption) | exact xin_ask1 (by assumption) | exact xin_ask2 (by assumption)) dX4_rules_93 (v := (S 15 0 a1)) (xu_ne (by decide)) ?_
          refine xg_iconst C dX4_rules_94 (v := (1 : Int32)) (by decide) ?_
          refine xg_iadd C dX4_rules_95 ?_
          refine xg_iast C V (f := 15) (n := 1) (N := 8) rfl (by decide) (xR_0 (by decide)) (by first | assumption | exact xin_one (by assumption) | exact xin_asks (by assumption) | exact xin_ask1 (by assumption) | exact xin_ask2 (by assumption)) dX4_rules_96 ?_
          exact xret_v E dX4_rules_97 (by first | (rw [fX4_rules, if_neg h1, if_neg h3, if_neg h5, if_pos h24]; done) | (rw [fX4_rules, if_neg h1, if_neg h3, if_neg h5, if_pos h24]; rfl))
        · refine xg_aload_n C dX4_rules_73 rfl ?_
          refine xg_getR C V (f := 0) qX4_rules_19 rfl rfl rfl dX4_rules_74 ?_
          refine xg_iload_n C dX4_rules_77 rfl ?_
          refine xg_iald C V (f := 4) (n := 1) (N := 8) rfl (by decide) (xR_0 (by decide)) (by first | assumption | exact xin_one (by assumption) | exact xin_asks (by assumption) | exact xin_ask1 (by assumption) | exact xin_ask2 (by assumption)) dX4_rules_78 (v := (S 4 0 a1)) rfl ?_
          refine xg_iconst C dX4_rules_79 (v := (2 : Int32)) (by decide) ?_
          refine xg_iadd C dX4_rules_80 ?_
          refine xg_goto C 86 dX4_rules_81 (by decide) ?_
          refine xg_iast C V (f := 4) (n := 1) (N := 8) rfl (by decide) (xR_0 (by decide)) (by first | assumption | exact xin_one (by assumption) | exact xin_asks (by assumption) | exact xin_ask1 (by assumption) | exact xin_ask2 (by assumption)) dX4_rules_86 ?_
          refine xg_aload_n C dX4_rules_87 rfl ?_
          refine xg_getR C V (f := 0) qX4_rules_53 rfl rfl rfl dX4_rules_88 ?_
          refine xg_iload_n C dX4_rules_91 rfl ?_
          refine xg_dup2 C dX4_rules_92 rfl rfl ?_
          refine xg_iald C V (f := 15) (n := 1) (N := 8) rfl (by decide) (xR_0 (by decide)) (by first | assumption | exact xin_one (by assumption) | exact xin_asks (by assumption) | exact xin_ask1 (by assumption) | exact xin_ask2 (by assumption)) dX4_rules_93 (v := (S 15 0 a1)) (xu_ne (by decide)) ?_
          refine xg_iconst C dX4_rules_94 (v := (1 : Int32)) (by decide) ?_
          refine xg_iadd C dX4_rules_95 ?_
          refine xg_iast C V (f := 15) (n := 1) (N := 8) rfl (by decide) (xR_0 (by decide)) (by first | assumption | exact xin_one (by assumption) | exact xin_asks (by assumption) | exact xin_ask1 (by assumption) | exact xin_ask2 (by assumption)) dX4_rules_96 ?_
          exact xret_v E dX4_rules_97 (by first | (rw [fX4_rules, if_neg h1, if_neg h3, if_neg h5, if_neg h24]; done) | (rw [fX4_rules, if_neg h1, if_neg h3, if_neg h5, if_neg h24]; rfl))
  · refine xg_iconst C dX4_rules_17 (v := (1 : Int32)) (by decide) ?_
    refine xg_goto C 22 dX4_rules_18 (by decide) ?_
    refine xg_istore_n C dX4_rules_22 (by decide) (L' := [some (.ref (G.2.2 0 0)), some (.int a1), some (.int (S 20 0 (fX4_at a1 a1))), some (.int (1 : Int32)), none, none]) rfl ?_
    refine xg_iload_n C dX4_rules_23 rfl ?_
    refine xg_if_ne C 98 dX4_rules_24 (by decide) (fun h25 => ?_) (fun h25 => by exact absurd h25 (by decide))
    refine xg_iload_n C dX4_rules_98 rfl ?_
    refine xg_aload_n C dX4_rules_99 rfl ?_
    refine xg_getR C V (f := 0) qX4_rules_40 rfl rfl rfl dX4_rules_100 ?_
    refine xg_iload_n C dX4_rules_103 rfl ?_
    refine xg_iald C V (f := 11) (n := 1) (N := 8) rfl (by decide) (xR_0 (by decide)) (by first | assumption | exact xin_one (by assumption) | exact xin_asks (by assumption) | exact xin_ask1 (by assumption) | exact xin_ask2 (by assumption)) dX4_rules_104 (v := (S 11 0 a1)) rfl ?_
    refine xg_icmp_le C 137 dX4_rules_105 (by decide) (fun h26 => ?_) (fun h26 => ?_)
    · refine xg_iconst C dX4_rules_137 (v := (0 : Int32)) (by decide) ?_
      refine xg_istore C dX4_rules_138 (by decide) (L' := [some (.ref (G.2.2 0 0)), some (.int a1), some (.int (S 20 0 (fX4_at a1 a1))), some (.int (1 : Int32)), some (.int (0 : Int32)), none]) rfl ?_
      refine xg_aload_n C dX4_rules_140 rfl ?_
      refine xg_getR C V (f := 0) qX4_rules_19 rfl rfl rfl dX4_rules_141 ?_
      refine xg_iload_n C dX4_rules_144 rfl ?_
      refine xg_iald C V (f := 4) (n := 1) (N := 8) rfl (by decide) (xR_0 (by decide)) (by first | assumption | exact xin_one (by assumption) | exact xin_asks (by assumption) | exact xin_ask1 (by assumption) | exact xin_ask2 (by assumption)) dX4_rules_145 (v := (S 4 0 a1)) rfl ?_
      refine xg_iload C dX4_rules_146 rfl ?_
      refine xg_if_eq C 155 dX4_rules_148 (by decide) (fun h27 => ?_) (fun h27 => by exact absurd h27 (by decide))
      refine xg_iload_n C dX4_rules_155 rfl ?_
      refine xg_aload_n C dX4_rules_156 rfl ?_
      refine xg_getR C V (f := 0) qX4_rules_37 rfl rfl rfl dX4_rules_157 ?_
      refine xg_iload_n C dX4_rules_160 rfl ?_
      refine xg_iald C V (f := 10) (n := 1) (N := 8) rfl (by decide) (xR_0 (by decide)) (by first | assumption | exact xin_one (by assumption) | exact xin_asks (by assumption) | exact xin_ask1 (by assumption) | exact xin_ask2 (by assumption)) dX4_rules_161 (v := (S 10 0 a1)) rfl ?_
      refine xg_icmp_ge C 169 dX4_rules_162 (by decide) (fun h28 => ?_) (fun h28 => ?_)
      · refine xg_iconst C dX4_rules_169 (v := (0 : Int32)) (by decide) ?_
        refine xg_iadd C dX4_rules_170 ?_
        refine xg_istore C dX4_rules_171 (by decide) (L' := [some (.ref (G.2.2 0 0)), some (.int a1), some (.int (S 20 0 (fX4_at a1 a1))), some (.int (1 : Int32)), some (.int (0 : Int32)), some (.int ((S 4 0 a1) + (0 : Int32)))]) rfl ?_
        refine xg_aload_n C dX4_rules_173 rfl ?_
        refine xg_getR C V (f := 0) qX4_rules_19 rfl rfl rfl dX4_rules_174 ?_
        refine xg_iload_n C dX4_rules_177 rfl ?_
        refine xg_iload C dX4_rules_178 rfl ?_
        refine xg_if_ge C 187 dX4_rules_180 (by decide) (fun h29 => ?_) (fun h29 => ?_)
        · refine xg_iload C dX4_rules_187 rfl ?_
          refine xg_bipush C dX4_rules_189 (v := (10 : Int32)) (by decide) ?_
          refine xg_icmp_le C 199 dX4_rules_191 (by decide) (fun h30 => ?_) (fun h30 => ?_)
          · refine xg_iload C dX4_rules_199 rfl ?_
            refine xg_iast C V (f := 4) (n := 1) (N := 8) rfl (by decide) (xR_0 (by decide)) (by first | assumption | exact xin_one (by assumption) | exact xin_asks (by assumption) | exact xin_ask1 (by assumption) | exact xin_ask2 (by assumption)) dX4_rules_201 ?_
            exact xret_v E dX4_rules_202 (by first | (rw [fX4_rules, if_pos h1, if_pos h26, if_pos h28, if_pos h29, if_pos h30]; done) | (rw [fX4_rules, if_pos h1, if_pos h26, if_pos h28, if_pos h29, if_pos h30]; rfl))
          · refine xg_bipush C dX4_rules_194 (v := (10 : Int32)) (by decide) ?_
            refine xg_goto C 201 dX4_rules_196 (by decide) ?_
            refine xg_iast C V (f := 4) (n := 1) (N := 8) rfl (by decide) (xR_0 (by decide)) (by first | assumption | exact xin_one (by assumption) | exact xin_asks (by assumption) | exact xin_ask1 (by assumption) | exact xin_ask2 (by assumption)) dX4_rules_201 ?_
            exact xret_v E dX4_rules_202 (by first | (rw [fX4_rules, if_pos h1, if_pos h26, if_pos h28, if_pos h29, if_neg h30]; done) | (rw [fX4_rules, if_pos h1, if_pos h26, if_pos h28, if_pos h29, if_neg h30]; rfl))
        · refine xg_iconst C dX4_rules_183 (v := (0 : Int32)) (by decide) ?_
          refine xg_goto C 201 dX4_rules_184 (by decide) ?_
          refine xg_iast C V (f := 4) (n := 1) (N := 8) rfl (by decide) (xR_0 (by decide)) (by first | assumption | exact xin_one (by assumption) | exact xin_asks (by assumption) | exact xin_ask1 (by assumption) | exact xin_ask2 (by assumption)) dX4_rules_201 ?_
          exact xret_v E dX4_rules_202 (by first | (rw [fX4_rules, if_pos h1, if_pos h26, if_pos h28, if_neg h29]; done) | (rw [fX4_rules, if_pos h1, if_pos h26, if_pos h28, if_neg h29]; rfl))
      · refine xg_iconst C dX4_rules_165 (v := (-1 : Int32)) (by decide) ?_
        refine xg_goto C 170 dX4_rules_166 (by decide) ?_
        refine xg_iadd C dX4_rules_170 ?_
        refine xg_istore C dX4_rules_171 (by decide) (L' := [some (.ref (G.2.2 0 0)), some (.int a1), some (.int (S 20 0 (fX4_at a1 a1))), some (.int (1 : Int32)), some (.int (0 : Int32)), some (.int ((S 4 0 a1) + (-1 : Int32)))]) rfl ?_
        refine xg_aload_n C dX4_rules_173 rfl ?_
        refine xg_getR C V (f := 0) qX4_rules_19 rfl rfl rfl dX4_rules_174 ?_
        refine xg_iload_n C dX4_rules_177 rfl ?_
        refine xg_iload C dX4_rules_178 rfl ?_
        refine xg_if_ge C 187 dX4_rules_180 (by decide) (fun h31 => ?_) (fun h31 => ?_)
        · refine xg_iload C dX4_rules_187 rfl ?_
          refine xg_bipush C dX4_rules_189 (v := (10 : Int32)) (by decide) ?_
          refine xg_icmp_le C 199 dX4_rules_191 (by decide) (fun h32 => ?_) (fun h32 => ?_)
          · refine xg_iload C dX4_rules_199 rfl ?_
            refine xg_iast C V (f := 4) (n := 1) (N := 8) rfl (by decide) (xR_0 (by decide)) (by first | assumption | exact xin_one (by assumption) | exact xin_asks (by assumption) | exact xin_ask1 (by assumption) | exact xin_ask2 (by assumption)) dX4_rules_201 ?_
            exact xret_v E dX4_rules_202 (by first | (rw [fX4_rules, if_pos h1, if_pos h26, if_neg h28, if_pos h31, if_pos h32]; done) | (rw [fX4_rules, if_pos h1, if_pos h26, if_neg h28, if_pos h31, if_pos h32]; rfl))
          · refine xg_bipush C dX4_rules_194 (v := (10 : Int32)) (by decide) ?_
            refine xg_goto C 201 dX4_rules_196 (by decide) ?_
            refine xg_iast C V (f := 4) (n := 1) (N := 8) rfl (by decide) (xR_0 (by decide)) (by first | assumption | exact xin_one (by assumption) | exact xin_asks (by assumption) | exact xin_ask1 (by assumption) | exact xin_ask2 (by assumption)) dX4_rules_201 ?_
            exact xret_v E dX4_rules_202 (by first | (rw [fX4_rules, if_pos h1, if_pos h26, if_neg h28, if_pos h31, if_neg h32]; done) | (rw [fX4_rules, if_pos h1, if_pos h26, if_neg h28, if_pos h31, if_neg h32]; rfl))
        · refine xg_iconst C dX4_rules_183 (v := (0 : Int32)) (by decide) ?_
          refine xg_goto C 201 dX4_rules_184 (by decide) ?_
          refine xg_iast C V (f := 4) (n := 1) (N := 8) rfl (by decide) (xR_0 (by decide)) (by first | assumption | exact xin_one (by assumption) | exact xin_asks (by assumption) | exact xin_ask1 (by assumption) | exact xin_ask2 (by assumption)) dX4_rules_201 ?_
          exact xret_v E dX4_rules_202 (by first | (rw [fX4_rules, if_pos h1, if_pos h26, if_neg h28, if_neg h31]; done) | (rw [fX4_rules, if_pos h1, if_pos h26, if_neg h28, if_neg h31]; rfl))
    · refine xg_iload_n C dX4_rules_108 rfl ?_
      refine xg_if_ne C 133 dX4_rules_109 (by decide) (fun h33 => ?_) (fun h33 => by exact absurd h33 (by decide))
      refine xg_iconst C dX4_rules_133 (v := (1 : Int32)) (by decide) ?_
      refine xg_goto C 138 dX4_rules_134 (by decide) ?_
      refine xg_istore C dX4_rules_138 (by decide) (L' := [some (.ref (G.2.2 0 0)), some (.int a1), some (.int (S 20 0 (fX4_at a1 a1))), some (.int (1 : Int32)), some (.int (1 : Int32)), none]) rfl ?_
      refine xg_aload_n C dX4_rules_140 rfl ?_
      refine xg_getR C V (f := 0) qX4_rules_19 rfl rfl rfl dX4_rules_141 ?_
      refine xg_iload_n C dX4_rules_144 rfl ?_
      refine xg_iald C V (f := 4) (n := 1) (N := 8) rfl (by decide) (xR_0 (by decide)) (by first | assumption | exact xin_one (by assumption) | exact xin_asks (by assumption) | exact xin_ask1 (by assumption) | exact xin_ask2 (by assumption)) dX4_rules_145 (v := (S 4 0 a1)) rfl ?_
      refine xg_iload C dX4_rules_146 rfl ?_
      refine xg_if_eq C 155 dX4_rules_148 (by decide) (fun h34 => by exact absurd h34 (by decide)) (fun h34 => ?_)
      refine xg_iconst C dX4_rules_151 (v := (1 : Int32)) (by decide) ?_
      refine xg_goto C 170 dX4_rules_152 (by decide) ?_
      refine xg_iadd C dX4_rules_170 ?_
      refine xg_istore C dX4_rules_171 (by decide) (L' := [some (.ref (G.2.2 0 0)), some (.int a1), some (.int (S 20 0 (fX4_at a1 a1))), some (.int (1 : Int32)), some (.int (1 : Int32)), some (.int ((S 4 0 a1) + (1 : Int32)))]) rfl ?_
      refine xg_aload_n C dX4_rules_173 rfl ?_
      refine xg_getR C V (f := 0) qX4_rules_19 rfl rfl rfl dX4_rules_174 ?_
      refine xg_iload_n C dX4_rules_177 rfl ?_
      refine xg_iload C dX4_rules_178 rfl ?_
      refine xg_if_ge C 187 dX4_rules_180 (by decide) (fun h35 => ?_) (fun h35 => ?_)
      · refine xg_iload C dX4_rules_187 rfl ?_
        refine xg_bipush C dX4_rules_189 (v := (10 : Int32)) (by decide) ?_
        refine xg_icmp_le C 199 dX4_rules_191 (by decide) (fun h36 => ?_) (fun h36 => ?_)
        · refine xg_iload C dX4_rules_199 rfl ?_
          refine xg_iast C V (f := 4) (n := 1) (N := 8) rfl (by decide) (xR_0 (by decide)) (by first | assumption | exact xin_one (by assumption) | exact xin_asks (by assumption) | exact xin_ask1 (by assumption) | exact xin_ask2 (by assumption)) dX4_rules_201 ?_
          exact xret_v E dX4_rules_202 (by first | (rw [fX4_rules, if_pos h1, if_neg h26, if_pos h35, if_pos h36]; done) | (rw [fX4_rules, if_pos h1, if_neg h26, if_pos h35, if_pos h36]; rfl))
        · refine xg_bipush C dX4_rules_194 (v := (10 : Int32)) (by decide) ?_
          refine xg_goto C 201 dX4_rules_196 (by decide) ?_
          refine xg_iast C V (f := 4) (n := 1) (N := 8) rfl (by decide) (xR_0 (by decide)) (by first | assumption | exact xin_one (by assumption) | exact xin_asks (by assumption) | exact xin_ask1 (by assumption) | exact xin_ask2 (by assumption)) dX4_rules_201 ?_
          exact xret_v E dX4_rules_202 (by first | (rw [fX4_rules, if_pos h1, if_neg h26, if_pos h35, if_neg h36]; done) | (rw [fX4_rules, if_pos h1, if_neg h26, if_pos h35, if_neg h36]; rfl))
      · refine xg_iconst C dX4_rules_183 (v := (0 : Int32)) (by decide) ?_
        refine xg_goto C 201 dX4_rules_184 (by decide) ?_
        refine xg_iast C V (f := 4) (n := 1) (N := 8) rfl (by decide) (xR_0 (by decide)) (by first | assumption | exact xin_one (by assumption) | exact xin_asks (by assumption) | exact xin_ask1 (by assumption) | exact xin_ask2 (by assumption)) dX4_rules_201 ?_
        exact xret_v E dX4_rules_202 (by first | (rw [fX4_rules, if_pos h1, if_neg h26, if_neg h35]; done) | (rw [fX4_rules, if_pos h1, if_neg h26, if_neg h35]; rfl))
theorem xk_X4_rules {a1 : Int32} {S : xS} : fX4_rules a1 S 1 = S 1 := by
  unfold fX4_rules
  (repeat' split) <;> simp [xu]
