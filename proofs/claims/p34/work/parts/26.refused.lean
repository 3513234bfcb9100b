/-! 26: isRefused (plan26.py) -/
theorem xdown {P : Nat → Prop} (N : Nat) (fin : P N) (step : ∀ i, i < N → P (i + 1) → P i) : P 0 := by
  have key : ∀ d n, n + d = N → P n := by
    intro d
    induction d with
    | zero =>
      intro n hn
      rw [Nat.add_zero] at hn
      subst hn
      exact fin
    | succ d ih => exact fun n hn => step n (by omega) (ih (n + 1) (by omega))
  exact key N 0 (by omega)
theorem rq {X : Nat} (hX : X < 2147483648) : ((nI X) - (nI X) / (30 : Int32) * (30 : Int32)) = nI (X % 30) := by
  rw [show (30 : Int32) = nI 30 from by decide]
  exact pk_rem hX (by decide) (by decide)
theorem rq2 {X : Nat} (hX : X < 2147483648) : ((nI X) - (nI X) / (2 : Int32) * (2 : Int32)) = nI (X % 2) := by
  rw [show (2 : Int32) = nI 2 from by decide]
  exact pk_rem hX (by decide) (by decide)
theorem rqk {X : Nat} (hX : X < 2147483648) : vp_in (((nI X) / (2 : Int32)) - ((nI X) / (2 : Int32)) / (8 : Int32) * (8 : Int32)) 8 := by
  rw [show (2 : Int32) = nI 2 from by decide, show (8 : Int32) = nI 8 from by decide, pk_div hX (by decide) (by decide), pk_rem (by omega) (by decide) (by decide)]
  exact vp_in_nI (by omega) (by decide)
theorem rl {r c b : Nat} (hr : r < 30) (hc : c < 100) : (Int32.ofInt (-(c : Int)) - nI r).toInt = -(c : Int) - r := by
  have e : (Int32.ofInt (-(c : Int))).toInt = -(c : Int) := by rw [Int32.toInt_ofInt]; exact xbm _ (by omega) (by omega)
  rw [xtsub (by rw [e, nI_toInt (by omega)]; omega) (by rw [e, nI_toInt (by omega)]; omega), e, nI_toInt (by omega)]
theorem rl1 {r : Nat} (hr : r < 30) : ((0 : Int32) - nI r) < (1 : Int32) := by
  rw [Int32.lt_iff_toInt_lt, show ((0 : Int32) - nI r).toInt = _ from rl (b := 0) hr (c := 0) (by decide), xt1]
  omega
theorem rl0 {r : Nat} (hr : r < 30) : ((-1 : Int32) - nI r) < (0 : Int32) := by
  rw [Int32.lt_iff_toInt_lt, show ((-1 : Int32) - nI r).toInt = _ from rl (b := 0) hr (c := 1) (by decide), xt0]
  omega
theorem rlm {r : Nat} (hr : r < 30) : ((-2 : Int32) - nI r) < (-1 : Int32) := by
  rw [Int32.lt_iff_toInt_lt, show ((-2 : Int32) - nI r).toInt = _ from rl (b := 0) hr (c := 2) (by decide), show (-1 : Int32).toInt = -1 from rfl]
  omega
theorem rnl {r : Nat} (hr : r < 30) : ¬ vp_in ((-1 : Int32) - nI r) 8 := fun z => by
  rw [xti, show ((-1 : Int32) - nI r).toInt = _ from rl (b := 0) hr (c := 1) (by decide)] at z
  omega
theorem rnh {r : Nat} (hr : r < 30) : ¬ vp_in ((8 : Int32) + nI r) 8 := fun z => by
  rw [xti, xtadd (by rw [xt8, nI_toInt (by omega)]; omega) (by rw [xt8, nI_toInt (by omega)]; omega), xt8, nI_toInt (by omega)] at z
  omega
set_option maxRecDepth 100000 in
set_option maxHeartbeats 4000000 in
theorem rfA_low {X : Nat} {F : xF} {G : xG} {Sa : Nat → Nat} {sz : Nat} {S : xS} (C : xC F cL_isRefused 10 RL wsL_isRefused { frames := 11, cells := 69, slots := 414, locals := 220 }) (V : xV F xYc G) (Ev : xEv F Sa sz) (hsz : ∀ a : Nat, xA xYc G a → sz ≤ a) (hpar : ((nI X) - (nI X) / (2 : Int32) * (2 : Int32)) = (0 : Int32)) (hn : ¬ vp_in ((-1 : Int32) - ((nI X) - (nI X) / (30 : Int32) * (30 : Int32))) 8) (hk : vp_in (((nI X) / (2 : Int32)) - ((nI X) / (2 : Int32)) / (8 : Int32) * (8 : Int32)) 8) (hl1 : ((0 : Int32) - ((nI X) - (nI X) / (30 : Int32) * (30 : Int32))) < (1 : Int32)) (hl0 : ((-1 : Int32) - ((nI X) - (nI X) / (30 : Int32) * (30 : Int32))) < (0 : Int32)) (hlm : ((-2 : Int32) - ((nI X) - (nI X) / (30 : Int32) * (30 : Int32))) < (-1 : Int32)) (K : xg F 23 138 564 [some (.ref (G.2.2 0 0)), some (.ref (G.2.2 35 0)), some (.int (nI X)), some (.int (1 : Int32)), some (.int ((-1 : Int32) - ((nI X) - (nI X) / (30 : Int32) * (30 : Int32)))), some (.int (((nI X) / (2 : Int32)) - ((nI X) / (2 : Int32)) / (8 : Int32) * (8 : Int32))), some (.long (fL_all S)), none, some (.int (1 : Int32)), some (.int (0 : Int32))] [] (xP xYc G S)) : xg F 0 0 0 [some (.ref (G.2.2 0 0)), some (.ref (G.2.2 35 0)), some (.int (nI X)), none, none, none, none, none, none, none] [] (xP xYc G S) := by
  have hap : xAp xYc G := V.1
  refine xg_iload_n C dL_isRefused_0 rfl ?_
  refine xg_iconst C dL_isRefused_1 (v := (2 : Int32)) (by decide) ?_
  refine xg_irem C dL_isRefused_2 (by decide) ?_
  refine xg_if_ne C 10 dL_isRefused_3 (by decide) (fun h1 => absurd hpar h1) (fun h1 => ?_)
  refine xg_iconst C dL_isRefused_6 (v := (1 : Int32)) (by decide) ?_
  refine xg_goto C 11 dL_isRefused_7 (by decide) ?_
  refine xg_istore_n C dL_isRefused_11 (by decide) (L' := [some (.ref (G.2.2 0 0)), some (.ref (G.2.2 35 0)), some (.int (nI X)), some (.int (1 : Int32)), none, none, none, none, none, none]) rfl ?_
  refine xg_iload_n C dL_isRefused_12 rfl ?_
  refine xg_if_eq C 25 dL_isRefused_13 (by decide) (fun h2 => by exact absurd h2 (by decide)) (fun h2 => ?_)
  refine xg_iconst C dL_isRefused_16 (v := (-1 : Int32)) (by decide) ?_
  refine xg_iload_n C dL_isRefused_17 rfl ?_
  refine xg_bipush C dL_isRefused_18 (v := (30 : Int32)) (by decide) ?_
  refine xg_irem C dL_isRefused_20 (by decide) ?_
  refine xg_isub C dL_isRefused_21 ?_
  refine xg_goto C 32 dL_isRefused_22 (by decide) ?_
  refine xg_istore C dL_isRefused_32 (by decide) (L' := [some (.ref (G.2.2 0 0)), some (.ref (G.2.2 35 0)), some (.int (nI X)), some (.int (1 : Int32)), some (.int ((-1 : Int32) - ((nI X) - (nI X) / (30 : Int32) * (30 : Int32)))), none, none, none, none, none]) rfl ?_
  refine xg_iload_n C dL_isRefused_34 rfl ?_
  refine xg_iconst C dL_isRefused_35 (v := (2 : Int32)) (by decide) ?_
  refine xg_idiv C dL_isRefused_36 (by decide) ?_
  refine xg_bipush C dL_isRefused_37 (v := (8 : Int32)) (by decide) ?_
  refine xg_irem C dL_isRefused_39 (by decide) ?_
  refine xg_istore C dL_isRefused_40 (by decide) (L' := [some (.ref (G.2.2 0 0)), some (.ref (G.2.2 35 0)), some (.int (nI X)), some (.int (1 : Int32)), some (.int ((-1 : Int32) - ((nI X) - (nI X) / (30 : Int32) * (30 : Int32)))), some (.int (((nI X) / (2 : Int32)) - ((nI X) / (2 : Int32)) / (8 : Int32) * (8 : Int32))), none, none, none, none]) rfl ?_
  refine xg_aload_n C dL_isRefused_42 rfl ?_
  refine xg_callSl C V (as := [.ref (G.2.2 0 0)]) (r := (fL_all S)) (fun l => kL_all l hap  S) gL_isRefused_L_all rfl hdL_all ⟨by decide, by decide⟩ rfl rfl (Nat.le_of_ble_eq_true rfl) ⟨Nat.zero_le _, Nat.zero_le _⟩ dL_isRefused_43 ?_
  refine xg_lstore C dL_isRefused_46 (by decide) (L' := [some (.ref (G.2.2 0 0)), some (.ref (G.2.2 35 0)), some (.int (nI X)), some (.int (1 : Int32)), some (.int ((-1 : Int32) - ((nI X) - (nI X) / (30 : Int32) * (30 : Int32)))), some (.int (((nI X) / (2 : Int32)) - ((nI X) / (2 : Int32)) / (8 : Int32) * (8 : Int32))), some (.long (fL_all S)), none, none, none]) rfl rfl ?_
  refine xg_aload_n C dL_isRefused_48 rfl ?_
  refine xg_iload C dL_isRefused_49 rfl ?_
  refine xg_iconst C dL_isRefused_51 (v := (5 : Int32)) (by decide) ?_
  refine xg_iconst C dL_isRefused_52 (v := (5 : Int32)) (by decide) ?_
  refine xg_callSnW C V Ev (as := [.ref (G.2.2 0 0), .int ((-1 : Int32) - ((nI X) - (nI X) / (30 : Int32) * (30 : Int32))), .int (5 : Int32), .int (5 : Int32)]) (fun l hl => kxL_shaped l hl hsz V.1 ((-1 : Int32) - ((nI X) - (nI X) / (30 : Int32) * (30 : Int32))) (5 : Int32) (5 : Int32) S (fun z => hn z.1)) gL_isRefused_L_shaped rfl hdL_shaped ⟨by show _ ≤ 11; decide, by show _ ≤ 220; decide⟩ rfl rfl (Nat.le_of_ble_eq_true rfl) ⟨by show _ ≤ 69; decide, by show _ ≤ 414; decide⟩ dL_isRefused_53 ?_
  refine xg_sipush C dL_isRefused_56 (v := (-1232 : Int32)) (by decide) ?_
  refine xg_icmp_ne C 558 dL_isRefused_59 (by decide) (fun h3 => by exact absurd h3 (by decide)) (fun h3 => ?_)
  refine xg_aload_n C dL_isRefused_62 rfl ?_
  refine xg_iload C dL_isRefused_63 rfl ?_
  refine xg_iload_n C dL_isRefused_65 rfl ?_
  refine xg_if_eq C 78 dL_isRefused_66 (by decide) (fun h4 => by exact absurd h4 (by decide)) (fun h4 => ?_)
  refine xg_iconst C dL_isRefused_69 (v := (0 : Int32)) (by decide) ?_
  refine xg_iload_n C dL_isRefused_70 rfl ?_
  refine xg_bipush C dL_isRefused_71 (v := (30 : Int32)) (by decide) ?_
  refine xg_irem C dL_isRefused_73 (by decide) ?_
  refine xg_isub C dL_isRefused_74 ?_
  refine xg_goto C 80 dL_isRefused_75 (by decide) ?_
  refine xg_iconst C dL_isRefused_80 (v := (5 : Int32)) (by decide) ?_
  refine xg_callSnW C V Ev (as := [.ref (G.2.2 0 0), .int (((nI X) / (2 : Int32)) - ((nI X) / (2 : Int32)) / (8 : Int32) * (8 : Int32)), .int ((0 : Int32) - ((nI X) - (nI X) / (30 : Int32) * (30 : Int32))), .int (5 : Int32)]) (fun l hl => kxL_shaped l hl hsz V.1 (((nI X) / (2 : Int32)) - ((nI X) / (2 : Int32)) / (8 : Int32) * (8 : Int32)) ((0 : Int32) - ((nI X) - (nI X) / (30 : Int32) * (30 : Int32))) (5 : Int32) S (fun z => (fun y => y.1 hl1) z.2.1)) gL_isRefused_L_shaped rfl hdL_shaped ⟨by show _ ≤ 11; decide, by show _ ≤ 220; decide⟩ rfl rfl (Nat.le_of_ble_eq_true rfl) ⟨by show _ ≤ 69; decide, by show _ ≤ 414; decide⟩ dL_isRefused_81 ?_
  refine xg_sipush C dL_isRefused_84 (v := (-1232 : Int32)) (by decide) ?_
  refine xg_icmp_ne C 558 dL_isRefused_87 (by decide) (fun h5 => by exact absurd h5 (by decide)) (fun h5 => ?_)
  refine xg_aload_n C dL_isRefused_90 rfl ?_
  refine xg_iload C dL_isRefused_91 rfl ?_
  refine xg_iconst C dL_isRefused_93 (v := (5 : Int32)) (by decide) ?_
  refine xg_iload_n C dL_isRefused_94 rfl ?_
  refine xg_if_eq C 107 dL_isRefused_95 (by decide) (fun h6 => by exact absurd h6 (by decide)) (fun h6 => ?_)
  refine xg_iconst C dL_isRefused_98 (v := (0 : Int32)) (by decide) ?_
  refine xg_iload_n C dL_isRefused_99 rfl ?_
  refine xg_bipush C dL_isRefused_100 (v := (30 : Int32)) (by decide) ?_
  refine xg_irem C dL_isRefused_102 (by decide) ?_
  refine xg_isub C dL_isRefused_103 ?_
  refine xg_goto C 110 dL_isRefused_104 (by decide) ?_
  refine xg_callSnW C V Ev (as := [.ref (G.2.2 0 0), .int (((nI X) / (2 : Int32)) - ((nI X) / (2 : Int32)) / (8 : Int32) * (8 : Int32)), .int (5 : Int32), .int ((0 : Int32) - ((nI X) - (nI X) / (30 : Int32) * (30 : Int32)))]) (fun l hl => kxL_shaped l hl hsz V.1 (((nI X) / (2 : Int32)) - ((nI X) / (2 : Int32)) / (8 : Int32) * (8 : Int32)) (5 : Int32) ((0 : Int32) - ((nI X) - (nI X) / (30 : Int32) * (30 : Int32))) S (fun z => (fun y => y.1 hl1) z.2.2)) gL_isRefused_L_shaped rfl hdL_shaped ⟨by show _ ≤ 11; decide, by show _ ≤ 220; decide⟩ rfl rfl (Nat.le_of_ble_eq_true rfl) ⟨by show _ ≤ 69; decide, by show _ ≤ 414; decide⟩ dL_isRefused_110 ?_
  refine xg_sipush C dL_isRefused_113 (v := (-1232 : Int32)) (by decide) ?_
  refine xg_icmp_ne C 558 dL_isRefused_116 (by decide) (fun h7 => by exact absurd h7 (by decide)) (fun h7 => ?_)
  refine xg_aload_n C dL_isRefused_119 rfl ?_
  refine xg_iconst C dL_isRefused_120 (v := (0 : Int32)) (by decide) ?_
  refine xg_iload C dL_isRefused_121 rfl ?_
  refine xg_iconst C dL_isRefused_123 (v := (5 : Int32)) (by decide) ?_
  refine xg_callSnW C V Ev (as := [.ref (G.2.2 0 0), .int (0 : Int32), .int ((-1 : Int32) - ((nI X) - (nI X) / (30 : Int32) * (30 : Int32))), .int (5 : Int32)]) (fun l hl => kxL_act0 l hl hsz V.1 ((-1 : Int32) - ((nI X) - (nI X) / (30 : Int32) * (30 : Int32))) (5 : Int32) S (fun z => hn z.1)) gL_isRefused_L_act rfl hdL_act ⟨by show _ ≤ 11; decide, by show _ ≤ 220; decide⟩ rfl rfl (Nat.le_of_ble_eq_true rfl) ⟨by show _ ≤ 69; decide, by show _ ≤ 414; decide⟩ dL_isRefused_124 ?_
  refine xg_sipush C dL_isRefused_127 (v := (-1232 : Int32)) (by decide) ?_
  refine xg_icmp_ne C 558 dL_isRefused_130 (by decide) (fun h8 => by exact absurd h8 (by decide)) (fun h8 => ?_)
  refine xg_aload_n C dL_isRefused_133 rfl ?_
  refine xg_iconst C dL_isRefused_134 (v := (0 : Int32)) (by decide) ?_
  refine xg_iload C dL_isRefused_135 rfl ?_
  refine xg_iload_n C dL_isRefused_137 rfl ?_
  refine xg_if_eq C 150 dL_isRefused_138 (by decide) (fun h9 => by exact absurd h9 (by decide)) (fun h9 => ?_)
  refine xg_iconst C dL_isRefused_141 (v := (0 : Int32)) (by decide) ?_
  refine xg_iload_n C dL_isRefused_142 rfl ?_
  refine xg_bipush C dL_isRefused_143 (v := (30 : Int32)) (by decide) ?_
  refine xg_irem C dL_isRefused_145 (by decide) ?_
  refine xg_isub C dL_isRefused_146 ?_
  refine xg_goto C 152 dL_isRefused_147 (by decide) ?_
  refine xg_callSnW C V Ev (as := [.ref (G.2.2 0 0), .int (0 : Int32), .int (((nI X) / (2 : Int32)) - ((nI X) / (2 : Int32)) / (8 : Int32) * (8 : Int32)), .int ((0 : Int32) - ((nI X) - (nI X) / (30 : Int32) * (30 : Int32)))]) (fun l hl => kxL_act0 l hl hsz V.1 (((nI X) / (2 : Int32)) - ((nI X) / (2 : Int32)) / (8 : Int32) * (8 : Int32)) ((0 : Int32) - ((nI X) - (nI X) / (30 : Int32) * (30 : Int32))) S (fun z => (fun y => y.1 hl1) z.2)) gL_isRefused_L_act rfl hdL_act ⟨by show _ ≤ 11; decide, by show _ ≤ 220; decide⟩ rfl rfl (Nat.le_of_ble_eq_true rfl) ⟨by show _ ≤ 69; decide, by show _ ≤ 414; decide⟩ dL_isRefused_152 ?_
  refine xg_sipush C dL_isRefused_155 (v := (-1232 : Int32)) (by decide) ?_
  refine xg_icmp_ne C 558 dL_isRefused_158 (by decide) (fun h10 => by exact absurd h10 (by decide)) (fun h10 => ?_)
  refine xg_aload_n C dL_isRefused_161 rfl ?_
  refine xg_iconst C dL_isRefused_162 (v := (1 : Int32)) (by decide) ?_
  refine xg_iload_n C dL_isRefused_163 rfl ?_
  refine xg_if_eq C 176 dL_isRefused_164 (by decide) (fun h11 => by exact absurd h11 (by decide)) (fun h11 => ?_)
  refine xg_iconst C dL_isRefused_167 (v := (-1 : Int32)) (by decide) ?_
  refine xg_iload_n C dL_isRefused_168 rfl ?_
  refine xg_bipush C dL_isRefused_169 (v := (30 : Int32)) (by decide) ?_
  refine xg_irem C dL_isRefused_171 (by decide) ?_
  refine xg_isub C dL_isRefused_172 ?_
  refine xg_goto C 179 dL_isRefused_173 (by decide) ?_
  refine xg_iconst C dL_isRefused_179 (v := (0 : Int32)) (by decide) ?_
  refine xg_callSnW C V Ev (as := [.ref (G.2.2 0 0), .int (1 : Int32), .int ((-1 : Int32) - ((nI X) - (nI X) / (30 : Int32) * (30 : Int32))), .int (0 : Int32)]) (fun l hl => kxL_act1 l hl hsz V.1 ((-1 : Int32) - ((nI X) - (nI X) / (30 : Int32) * (30 : Int32))) (0 : Int32) S (fun z => (fun y => y.1 hl0) z)) gL_isRefused_L_act rfl hdL_act ⟨by show _ ≤ 11; decide, by show _ ≤ 220; decide⟩ rfl rfl (Nat.le_of_ble_eq_true rfl) ⟨by show _ ≤ 69; decide, by show _ ≤ 414; decide⟩ dL_isRefused_180 ?_
  refine xg_sipush C dL_isRefused_183 (v := (-1232 : Int32)) (by decide) ?_
  refine xg_icmp_ne C 558 dL_isRefused_186 (by decide) (fun h12 => by exact absurd h12 (by decide)) (fun h12 => ?_)
  refine xg_aload_n C dL_isRefused_189 rfl ?_
  refine xg_iconst C dL_isRefused_190 (v := (2 : Int32)) (by decide) ?_
  refine xg_iload C dL_isRefused_191 rfl ?_
  refine xg_iconst C dL_isRefused_193 (v := (5 : Int32)) (by decide) ?_
  refine xg_callSnW C V Ev (as := [.ref (G.2.2 0 0), .int (2 : Int32), .int ((-1 : Int32) - ((nI X) - (nI X) / (30 : Int32) * (30 : Int32))), .int (5 : Int32)]) (fun l hl => kxL_act2 l hl hsz V.1 ((-1 : Int32) - ((nI X) - (nI X) / (30 : Int32) * (30 : Int32))) (5 : Int32) S (fun z => hn z.1)) gL_isRefused_L_act rfl hdL_act ⟨by show _ ≤ 11; decide, by show _ ≤ 220; decide⟩ rfl rfl (Nat.le_of_ble_eq_true rfl) ⟨by show _ ≤ 69; decide, by show _ ≤ 414; decide⟩ dL_isRefused_194 ?_
  refine xg_sipush C dL_isRefused_197 (v := (-1232 : Int32)) (by decide) ?_
  refine xg_icmp_ne C 558 dL_isRefused_200 (by decide) (fun h13 => by exact absurd h13 (by decide)) (fun h13 => ?_)
  refine xg_aload_n C dL_isRefused_203 rfl ?_
  refine xg_iconst C dL_isRefused_204 (v := (2 : Int32)) (by decide) ?_
  refine xg_iload C dL_isRefused_205 rfl ?_
  refine xg_iload_n C dL_isRefused_207 rfl ?_
  refine xg_if_eq C 220 dL_isRefused_208 (by decide) (fun h14 => by exact absurd h14 (by decide)) (fun h14 => ?_)
  refine xg_iconst C dL_isRefused_211 (v := (0 : Int32)) (by decide) ?_
  refine xg_iload_n C dL_isRefused_212 rfl ?_
  refine xg_bipush C dL_isRefused_213 (v := (30 : Int32)) (by decide) ?_
  refine xg_irem C dL_isRefused_215 (by decide) ?_
  refine xg_isub C dL_isRefused_216 ?_
  refine xg_goto C 223 dL_isRefused_217 (by decide) ?_
  refine xg_callSnW C V Ev (as := [.ref (G.2.2 0 0), .int (2 : Int32), .int (((nI X) / (2 : Int32)) - ((nI X) / (2 : Int32)) / (8 : Int32) * (8 : Int32)), .int ((0 : Int32) - ((nI X) - (nI X) / (30 : Int32) * (30 : Int32)))]) (fun l hl => kxL_act2 l hl hsz V.1 (((nI X) / (2 : Int32)) - ((nI X) / (2 : Int32)) / (8 : Int32) * (8 : Int32)) ((0 : Int32) - ((nI X) - (nI X) / (30 : Int32) * (30 : Int32))) S (fun z => (fun y => y.1 hl1) z.2)) gL_isRefused_L_act rfl hdL_act ⟨by show _ ≤ 11; decide, by show _ ≤ 220; decide⟩ rfl rfl (Nat.le_of_ble_eq_true rfl) ⟨by show _ ≤ 69; decide, by show _ ≤ 414; decide⟩ dL_isRefused_223 ?_
  refine xg_sipush C dL_isRefused_226 (v := (-1232 : Int32)) (by decide) ?_
  refine xg_icmp_ne C 558 dL_isRefused_229 (by decide) (fun h15 => by exact absurd h15 (by decide)) (fun h15 => ?_)
  refine xg_aload_n C dL_isRefused_232 rfl ?_
  refine xg_iconst C dL_isRefused_233 (v := (3 : Int32)) (by decide) ?_
  refine xg_iload C dL_isRefused_234 rfl ?_
  refine xg_iconst C dL_isRefused_236 (v := (-1 : Int32)) (by decide) ?_
  refine xg_callSnW C V Ev (as := [.ref (G.2.2 0 0), .int (3 : Int32), .int ((-1 : Int32) - ((nI X) - (nI X) / (30 : Int32) * (30 : Int32))), .int (-1 : Int32)]) (fun l hl => kxL_act3 l hl hsz V.1 ((-1 : Int32) - ((nI X) - (nI X) / (30 : Int32) * (30 : Int32))) (-1 : Int32) S (fun z => hn z.1)) gL_isRefused_L_act rfl hdL_act ⟨by show _ ≤ 11; decide, by show _ ≤ 220; decide⟩ rfl rfl (Nat.le_of_ble_eq_true rfl) ⟨by show _ ≤ 69; decide, by show _ ≤ 414; decide⟩ dL_isRefused_237 ?_
  refine xg_sipush C dL_isRefused_240 (v := (-1232 : Int32)) (by decide) ?_
  refine xg_icmp_ne C 558 dL_isRefused_243 (by decide) (fun h16 => by exact absurd h16 (by decide)) (fun h16 => ?_)
  refine xg_aload_n C dL_isRefused_246 rfl ?_
  refine xg_iconst C dL_isRefused_247 (v := (3 : Int32)) (by decide) ?_
  refine xg_iload C dL_isRefused_248 rfl ?_
  refine xg_iload_n C dL_isRefused_250 rfl ?_
  refine xg_if_eq C 264 dL_isRefused_251 (by decide) (fun h17 => by exact absurd h17 (by decide)) (fun h17 => ?_)
  refine xg_bipush C dL_isRefused_254 (v := (-2 : Int32)) (by decide) ?_
  refine xg_iload_n C dL_isRefused_256 rfl ?_
  refine xg_bipush C dL_isRefused_257 (v := (30 : Int32)) (by decide) ?_
  refine xg_irem C dL_isRefused_259 (by decide) ?_
  refine xg_isub C dL_isRefused_260 ?_
  refine xg_goto C 266 dL_isRefused_261 (by decide) ?_
  refine xg_callSnW C V Ev (as := [.ref (G.2.2 0 0), .int (3 : Int32), .int (((nI X) / (2 : Int32)) - ((nI X) / (2 : Int32)) / (8 : Int32) * (8 : Int32)), .int ((-2 : Int32) - ((nI X) - (nI X) / (30 : Int32) * (30 : Int32)))]) (fun l hl => kxL_act3 l hl hsz V.1 (((nI X) / (2 : Int32)) - ((nI X) / (2 : Int32)) / (8 : Int32) * (8 : Int32)) ((-2 : Int32) - ((nI X) - (nI X) / (30 : Int32) * (30 : Int32))) S (fun z => (fun y => y.1 hlm) z.2)) gL_isRefused_L_act rfl hdL_act ⟨by show _ ≤ 11; decide, by show _ ≤ 220; decide⟩ rfl rfl (Nat.le_of_ble_eq_true rfl) ⟨by show _ ≤ 69; decide, by show _ ≤ 414; decide⟩ dL_isRefused_266 ?_
  refine xg_sipush C dL_isRefused_269 (v := (-1232 : Int32)) (by decide) ?_
  refine xg_icmp_ne C 558 dL_isRefused_272 (by decide) (fun h18 => by exact absurd h18 (by decide)) (fun h18 => ?_)
  refine xg_aload_n C dL_isRefused_275 rfl ?_
  refine xg_iconst C dL_isRefused_276 (v := (4 : Int32)) (by decide) ?_
  refine xg_iload C dL_isRefused_277 rfl ?_
  refine xg_iconst C dL_isRefused_279 (v := (0 : Int32)) (by decide) ?_
  refine xg_callSnW C V Ev (as := [.ref (G.2.2 0 0), .int (4 : Int32), .int ((-1 : Int32) - ((nI X) - (nI X) / (30 : Int32) * (30 : Int32))), .int (0 : Int32)]) (fun l hl => kxL_act4 l hl hsz V.1 ((-1 : Int32) - ((nI X) - (nI X) / (30 : Int32) * (30 : Int32))) (0 : Int32) S (fun z => hn z.1)) gL_isRefused_L_act rfl hdL_act ⟨by show _ ≤ 11; decide, by show _ ≤ 220; decide⟩ rfl rfl (Nat.le_of_ble_eq_true rfl) ⟨by show _ ≤ 69; decide, by show _ ≤ 414; decide⟩ dL_isRefused_280 ?_
  refine xg_sipush C dL_isRefused_283 (v := (-1232 : Int32)) (by decide) ?_
  refine xg_icmp_ne C 558 dL_isRefused_286 (by decide) (fun h19 => by exact absurd h19 (by decide)) (fun h19 => ?_)
  refine xg_aload_n C dL_isRefused_289 rfl ?_
  refine xg_iconst C dL_isRefused_290 (v := (4 : Int32)) (by decide) ?_
  refine xg_iload C dL_isRefused_291 rfl ?_
  refine xg_iload_n C dL_isRefused_293 rfl ?_
  refine xg_if_eq C 306 dL_isRefused_294 (by decide) (fun h20 => by exact absurd h20 (by decide)) (fun h20 => ?_)
  refine xg_iconst C dL_isRefused_297 (v := (-1 : Int32)) (by decide) ?_
  refine xg_iload_n C dL_isRefused_298 rfl ?_
  refine xg_bipush C dL_isRefused_299 (v := (30 : Int32)) (by decide) ?_
  refine xg_irem C dL_isRefused_301 (by decide) ?_
  refine xg_isub C dL_isRefused_302 ?_
  refine xg_goto C 307 dL_isRefused_303 (by decide) ?_
  refine xg_callSnW C V Ev (as := [.ref (G.2.2 0 0), .int (4 : Int32), .int (((nI X) / (2 : Int32)) - ((nI X) / (2 : Int32)) / (8 : Int32) * (8 : Int32)), .int ((-1 : Int32) - ((nI X) - (nI X) / (30 : Int32) * (30 : Int32)))]) (fun l hl => kxL_act4 l hl hsz V.1 (((nI X) / (2 : Int32)) - ((nI X) / (2 : Int32)) / (8 : Int32) * (8 : Int32)) ((-1 : Int32) - ((nI X) - (nI X) / (30 : Int32) * (30 : Int32))) S (fun z => (fun y => y.1 hl0) z.2)) gL_isRefused_L_act rfl hdL_act ⟨by show _ ≤ 11; decide, by show _ ≤ 220; decide⟩ rfl rfl (Nat.le_of_ble_eq_true rfl) ⟨by show _ ≤ 69; decide, by show _ ≤ 414; decide⟩ dL_isRefused_307 ?_
  refine xg_sipush C dL_isRefused_310 (v := (-1232 : Int32)) (by decide) ?_
  refine xg_icmp_ne C 558 dL_isRefused_313 (by decide) (fun h21 => by exact absurd h21 (by decide)) (fun h21 => ?_)
  refine xg_aload_n C dL_isRefused_316 rfl ?_
  refine xg_iconst C dL_isRefused_317 (v := (5 : Int32)) (by decide) ?_
  refine xg_iload C dL_isRefused_318 rfl ?_
  refine xg_iconst C dL_isRefused_320 (v := (1 : Int32)) (by decide) ?_
  refine xg_callSnW C V Ev (as := [.ref (G.2.2 0 0), .int (5 : Int32), .int ((-1 : Int32) - ((nI X) - (nI X) / (30 : Int32) * (30 : Int32))), .int (1 : Int32)]) (fun l hl => kxL_act5 l hl hsz V.1 ((-1 : Int32) - ((nI X) - (nI X) / (30 : Int32) * (30 : Int32))) S (fun z => hn z)) gL_isRefused_L_act rfl hdL_act ⟨by show _ ≤ 11; decide, by show _ ≤ 220; decide⟩ rfl rfl (Nat.le_of_ble_eq_true rfl) ⟨by show _ ≤ 69; decide, by show _ ≤ 414; decide⟩ dL_isRefused_321 ?_
  refine xg_sipush C dL_isRefused_324 (v := (-1232 : Int32)) (by decide) ?_
  refine xg_icmp_ne C 558 dL_isRefused_327 (by decide) (fun h22 => by exact absurd h22 (by decide)) (fun h22 => ?_)
  refine xg_aload_n C dL_isRefused_330 rfl ?_
  refine xg_bipush C dL_isRefused_331 (v := (6 : Int32)) (by decide) ?_
  refine xg_iload_n C dL_isRefused_333 rfl ?_
  refine xg_if_eq C 346 dL_isRefused_334 (by decide) (fun h23 => by exact absurd h23 (by decide)) (fun h23 => ?_)
  refine xg_iconst C dL_isRefused_337 (v := (0 : Int32)) (by decide) ?_
  refine xg_iload_n C dL_isRefused_338 rfl ?_
  refine xg_bipush C dL_isRefused_339 (v := (30 : Int32)) (by decide) ?_
  refine xg_irem C dL_isRefused_341 (by decide) ?_
  refine xg_isub C dL_isRefused_342 ?_
  refine xg_goto C 348 dL_isRefused_343 (by decide) ?_
  refine xg_iconst C dL_isRefused_348 (v := (0 : Int32)) (by decide) ?_
  refine xg_callSnW C V Ev (as := [.ref (G.2.2 0 0), .int (6 : Int32), .int ((0 : Int32) - ((nI X) - (nI X) / (30 : Int32) * (30 : Int32))), .int (0 : Int32)]) (fun l hl => kxL_act6 l hl hsz V.1 ((0 : Int32) - ((nI X) - (nI X) / (30 : Int32) * (30 : Int32))) (0 : Int32) S (fun z => (fun y => y.1 hl1) z)) gL_isRefused_L_act rfl hdL_act ⟨by show _ ≤ 11; decide, by show _ ≤ 220; decide⟩ rfl rfl (Nat.le_of_ble_eq_true rfl) ⟨by show _ ≤ 69; decide, by show _ ≤ 414; decide⟩ dL_isRefused_349 ?_
  refine xg_sipush C dL_isRefused_352 (v := (-1232 : Int32)) (by decide) ?_
  refine xg_icmp_ne C 558 dL_isRefused_355 (by decide) (fun h24 => by exact absurd h24 (by decide)) (fun h24 => ?_)
  refine xg_aload_n C dL_isRefused_358 rfl ?_
  refine xg_iload C dL_isRefused_359 rfl ?_
  refine xg_iconst C dL_isRefused_361 (v := (1 : Int32)) (by decide) ?_
  refine xg_iconst C dL_isRefused_362 (v := (2 : Int32)) (by decide) ?_
  refine xg_iconst C dL_isRefused_363 (v := (3 : Int32)) (by decide) ?_
  refine xg_iconst C dL_isRefused_364 (v := (4 : Int32)) (by decide) ?_
  refine xg_callSnW C V Ev (as := [.ref (G.2.2 0 0), .int ((-1 : Int32) - ((nI X) - (nI X) / (30 : Int32) * (30 : Int32))), .int (1 : Int32), .int (2 : Int32), .int (3 : Int32), .int (4 : Int32)]) (fun l hl => kxL_ruled l hl hsz V.1 ((-1 : Int32) - ((nI X) - (nI X) / (30 : Int32) * (30 : Int32))) (1 : Int32) (2 : Int32) (3 : Int32) (4 : Int32) S (fun z => hn z.1)) gL_isRefused_L_ruled rfl hdL_ruled ⟨by show _ ≤ 11; decide, by show _ ≤ 220; decide⟩ rfl rfl (Nat.le_of_ble_eq_true rfl) ⟨by show _ ≤ 69; decide, by show _ ≤ 414; decide⟩ dL_isRefused_365 ?_
  refine xg_sipush C dL_isRefused_368 (v := (-1232 : Int32)) (by decide) ?_
  refine xg_icmp_ne C 558 dL_isRefused_371 (by decide) (fun h25 => by exact absurd h25 (by decide)) (fun h25 => ?_)
  refine xg_aload_n C dL_isRefused_374 rfl ?_
  refine xg_iload C dL_isRefused_375 rfl ?_
  refine xg_iconst C dL_isRefused_377 (v := (-1 : Int32)) (by decide) ?_
  refine xg_iload_n C dL_isRefused_378 rfl ?_
  refine xg_bipush C dL_isRefused_379 (v := (30 : Int32)) (by decide) ?_
  refine xg_irem C dL_isRefused_381 (by decide) ?_
  refine xg_isub C dL_isRefused_382 ?_
  refine xg_iconst C dL_isRefused_383 (v := (2 : Int32)) (by decide) ?_
  refine xg_iconst C dL_isRefused_384 (v := (3 : Int32)) (by decide) ?_
  refine xg_iconst C dL_isRefused_385 (v := (4 : Int32)) (by decide) ?_
  refine xg_callSnW C V Ev (as := [.ref (G.2.2 0 0), .int (((nI X) / (2 : Int32)) - ((nI X) / (2 : Int32)) / (8 : Int32) * (8 : Int32)), .int ((-1 : Int32) - ((nI X) - (nI X) / (30 : Int32) * (30 : Int32))), .int (2 : Int32), .int (3 : Int32), .int (4 : Int32)]) (fun l hl => kxL_ruled l hl hsz V.1 (((nI X) / (2 : Int32)) - ((nI X) / (2 : Int32)) / (8 : Int32) * (8 : Int32)) ((-1 : Int32) - ((nI X) - (nI X) / (30 : Int32) * (30 : Int32))) (2 : Int32) (3 : Int32) (4 : Int32) S (fun z => (fun y => y.1 hl0) z.2.1)) gL_isRefused_L_ruled rfl hdL_ruled ⟨by show _ ≤ 11; decide, by show _ ≤ 220; decide⟩ rfl rfl (Nat.le_of_ble_eq_true rfl) ⟨by show _ ≤ 69; decide, by show _ ≤ 414; decide⟩ dL_isRefused_386 ?_
  refine xg_sipush C dL_isRefused_389 (v := (-1232 : Int32)) (by decide) ?_
  refine xg_icmp_ne C 558 dL_isRefused_392 (by decide) (fun h26 => by exact absurd h26 (by decide)) (fun h26 => ?_)
  refine xg_aload_n C dL_isRefused_395 rfl ?_
  refine xg_iload C dL_isRefused_396 rfl ?_
  refine xg_iconst C dL_isRefused_398 (v := (5 : Int32)) (by decide) ?_
  refine xg_iload_n C dL_isRefused_399 rfl ?_
  refine xg_if_eq C 407 dL_isRefused_400 (by decide) (fun h27 => by exact absurd h27 (by decide)) (fun h27 => ?_)
  refine xg_iconst C dL_isRefused_403 (v := (4 : Int32)) (by decide) ?_
  refine xg_goto C 410 dL_isRefused_404 (by decide) ?_
  refine xg_iconst C dL_isRefused_410 (v := (3 : Int32)) (by decide) ?_
  refine xg_iconst C dL_isRefused_411 (v := (4 : Int32)) (by decide) ?_
  refine xg_callSnW C V Ev (as := [.ref (G.2.2 0 0), .int (((nI X) / (2 : Int32)) - ((nI X) / (2 : Int32)) / (8 : Int32) * (8 : Int32)), .int (5 : Int32), .int (4 : Int32), .int (3 : Int32), .int (4 : Int32)]) (fun l hl => kxL_ruled l hl hsz V.1 (((nI X) / (2 : Int32)) - ((nI X) / (2 : Int32)) / (8 : Int32) * (8 : Int32)) (5 : Int32) (4 : Int32) (3 : Int32) (4 : Int32) S (fun z => absurd z.2.2.1 (by decide))) gL_isRefused_L_ruled rfl hdL_ruled ⟨by show _ ≤ 11; decide, by show _ ≤ 220; decide⟩ rfl rfl (Nat.le_of_ble_eq_true rfl) ⟨by show _ ≤ 69; decide, by show _ ≤ 414; decide⟩ dL_isRefused_412 ?_
  refine xg_sipush C dL_isRefused_415 (v := (-1232 : Int32)) (by decide) ?_
  refine xg_icmp_ne C 558 dL_isRefused_418 (by decide) (fun h28 => by exact absurd h28 (by decide)) (fun h28 => ?_)
  refine xg_aload_n C dL_isRefused_421 rfl ?_
  refine xg_iload C dL_isRefused_422 rfl ?_
  refine xg_iconst C dL_isRefused_424 (v := (1 : Int32)) (by decide) ?_
  refine xg_iconst C dL_isRefused_425 (v := (2 : Int32)) (by decide) ?_
  refine xg_iload_n C dL_isRefused_426 rfl ?_
  refine xg_if_eq C 439 dL_isRefused_427 (by decide) (fun h29 => by exact absurd h29 (by decide)) (fun h29 => ?_)
  refine xg_iconst C dL_isRefused_430 (v := (-1 : Int32)) (by decide) ?_
  refine xg_iload_n C dL_isRefused_431 rfl ?_
  refine xg_bipush C dL_isRefused_432 (v := (30 : Int32)) (by decide) ?_
  refine xg_irem C dL_isRefused_434 (by decide) ?_
  refine xg_isub C dL_isRefused_435 ?_
  refine xg_goto C 442 dL_isRefused_436 (by decide) ?_
  refine xg_iconst C dL_isRefused_442 (v := (4 : Int32)) (by decide) ?_
  refine xg_callSnW C V Ev (as := [.ref (G.2.2 0 0), .int (((nI X) / (2 : Int32)) - ((nI X) / (2 : Int32)) / (8 : Int32) * (8 : Int32)), .int (1 : Int32), .int (2 : Int32), .int ((-1 : Int32) - ((nI X) - (nI X) / (30 : Int32) * (30 : Int32))), .int (4 : Int32)]) (fun l hl => kxL_ruled l hl hsz V.1 (((nI X) / (2 : Int32)) - ((nI X) / (2 : Int32)) / (8 : Int32) * (8 : Int32)) (1 : Int32) (2 : Int32) ((-1 : Int32) - ((nI X) - (nI X) / (30 : Int32) * (30 : Int32))) (4 : Int32) S (fun z => (fun y => y.1 hl0) z.2.2.2.1)) gL_isRefused_L_ruled rfl hdL_ruled ⟨by show _ ≤ 11; decide, by show _ ≤ 220; decide⟩ rfl rfl (Nat.le_of_ble_eq_true rfl) ⟨by show _ ≤ 69; decide, by show _ ≤ 414; decide⟩ dL_isRefused_443 ?_
  refine xg_sipush C dL_isRefused_446 (v := (-1232 : Int32)) (by decide) ?_
  refine xg_icmp_ne C 558 dL_isRefused_449 (by decide) (fun h30 => by exact absurd h30 (by decide)) (fun h30 => ?_)
  refine xg_aload_n C dL_isRefused_452 rfl ?_
  refine xg_iload C dL_isRefused_453 rfl ?_
  refine xg_iconst C dL_isRefused_455 (v := (1 : Int32)) (by decide) ?_
  refine xg_iconst C dL_isRefused_456 (v := (2 : Int32)) (by decide) ?_
  refine xg_iconst C dL_isRefused_457 (v := (3 : Int32)) (by decide) ?_
  refine xg_iload_n C dL_isRefused_458 rfl ?_
  refine xg_if_eq C 471 dL_isRefused_459 (by decide) (fun h31 => by exact absurd h31 (by decide)) (fun h31 => ?_)
  refine xg_iconst C dL_isRefused_462 (v := (-1 : Int32)) (by decide) ?_
  refine xg_iload_n C dL_isRefused_463 rfl ?_
  refine xg_bipush C dL_isRefused_464 (v := (30 : Int32)) (by decide) ?_
  refine xg_irem C dL_isRefused_466 (by decide) ?_
  refine xg_isub C dL_isRefused_467 ?_
  refine xg_goto C 473 dL_isRefused_468 (by decide) ?_
  refine xg_callSnW C V Ev (as := [.ref (G.2.2 0 0), .int (((nI X) / (2 : Int32)) - ((nI X) / (2 : Int32)) / (8 : Int32) * (8 : Int32)), .int (1 : Int32), .int (2 : Int32), .int (3 : Int32), .int ((-1 : Int32) - ((nI X) - (nI X) / (30 : Int32) * (30 : Int32)))]) (fun l hl => kxL_ruled l hl hsz V.1 (((nI X) / (2 : Int32)) - ((nI X) / (2 : Int32)) / (8 : Int32) * (8 : Int32)) (1 : Int32) (2 : Int32) (3 : Int32) ((-1 : Int32) - ((nI X) - (nI X) / (30 : Int32) * (30 : Int32))) S (fun z => (fun y => y.1 hl0) z.2.2.2.2)) gL_isRefused_L_ruled rfl hdL_ruled ⟨by show _ ≤ 11; decide, by show _ ≤ 220; decide⟩ rfl rfl (Nat.le_of_ble_eq_true rfl) ⟨by show _ ≤ 69; decide, by show _ ≤ 414; decide⟩ dL_isRefused_473 ?_
  refine xg_sipush C dL_isRefused_476 (v := (-1232 : Int32)) (by decide) ?_
  refine xg_icmp_ne C 558 dL_isRefused_479 (by decide) (fun h32 => by exact absurd h32 (by decide)) (fun h32 => ?_)
  refine xg_aload_n C dL_isRefused_482 rfl ?_
  refine xg_iload_n C dL_isRefused_483 rfl ?_
  refine xg_if_eq C 496 dL_isRefused_484 (by decide) (fun h33 => by exact absurd h33 (by decide)) (fun h33 => ?_)
  refine xg_iconst C dL_isRefused_487 (v := (0 : Int32)) (by decide) ?_
  refine xg_iload_n C dL_isRefused_488 rfl ?_
  refine xg_bipush C dL_isRefused_489 (v := (30 : Int32)) (by decide) ?_
  refine xg_irem C dL_isRefused_491 (by decide) ?_
  refine xg_isub C dL_isRefused_492 ?_
  refine xg_goto C 498 dL_isRefused_493 (by decide) ?_
  refine xg_bipush C dL_isRefused_498 (v := (60 : Int32)) (by decide) ?_
  refine xg_callSnW C V Ev (as := [.ref (G.2.2 0 0), .int ((0 : Int32) - ((nI X) - (nI X) / (30 : Int32) * (30 : Int32))), .int (60 : Int32)]) (fun l hl => kxL_timed l hl hsz V.1 ((0 : Int32) - ((nI X) - (nI X) / (30 : Int32) * (30 : Int32))) (60 : Int32) S (fun z => (fun y => y.1 hl1) z.1)) gL_isRefused_L_timed rfl hdL_timed ⟨by show _ ≤ 11; decide, by show _ ≤ 220; decide⟩ rfl rfl (Nat.le_of_ble_eq_true rfl) ⟨by show _ ≤ 69; decide, by show _ ≤ 414; decide⟩ dL_isRefused_500 ?_
  refine xg_sipush C dL_isRefused_503 (v := (-1232 : Int32)) (by decide) ?_
  refine xg_icmp_ne C 558 dL_isRefused_506 (by decide) (fun h34 => by exact absurd h34 (by decide)) (fun h34 => ?_)
  refine xg_aload_n C dL_isRefused_509 rfl ?_
  refine xg_iconst C dL_isRefused_510 (v := (5 : Int32)) (by decide) ?_
  refine xg_iload_n C dL_isRefused_511 rfl ?_
  refine xg_if_eq C 519 dL_isRefused_512 (by decide) (fun h35 => by exact absurd h35 (by decide)) (fun h35 => ?_)
  refine xg_iconst C dL_isRefused_515 (v := (4 : Int32)) (by decide) ?_
  refine xg_goto C 521 dL_isRefused_516 (by decide) ?_
  refine xg_callSnW C V Ev (as := [.ref (G.2.2 0 0), .int (5 : Int32), .int (4 : Int32)]) (fun l hl => kxL_timed l hl hsz V.1 (5 : Int32) (4 : Int32) S (fun z => absurd z.2 (by decide))) gL_isRefused_L_timed rfl hdL_timed ⟨by show _ ≤ 11; decide, by show _ ≤ 220; decide⟩ rfl rfl (Nat.le_of_ble_eq_true rfl) ⟨by show _ ≤ 69; decide, by show _ ≤ 414; decide⟩ dL_isRefused_521 ?_
  refine xg_sipush C dL_isRefused_524 (v := (-1232 : Int32)) (by decide) ?_
  refine xg_icmp_ne C 558 dL_isRefused_527 (by decide) (fun h36 => by exact absurd h36 (by decide)) (fun h36 => ?_)
  refine xg_aload_n C dL_isRefused_530 rfl ?_
  refine xg_iload C dL_isRefused_531 rfl ?_
  refine xg_callSnW C V Ev (as := [.ref (G.2.2 0 0), .int ((-1 : Int32) - ((nI X) - (nI X) / (30 : Int32) * (30 : Int32)))]) (fun l hl => kxL_fallen l hl hsz V.1 ((-1 : Int32) - ((nI X) - (nI X) / (30 : Int32) * (30 : Int32))) S (fun z => hn z)) gL_isRefused_L_fallen rfl hdL_fallen ⟨by show _ ≤ 11; decide, by show _ ≤ 220; decide⟩ rfl rfl (Nat.le_of_ble_eq_true rfl) ⟨by show _ ≤ 69; decide, by show _ ≤ 414; decide⟩ dL_isRefused_533 ?_
  refine xg_sipush C dL_isRefused_536 (v := (-1232 : Int32)) (by decide) ?_
  refine xg_icmp_ne C 558 dL_isRefused_539 (by decide) (fun h37 => by exact absurd h37 (by decide)) (fun h37 => ?_)
  refine xg_aload_n C dL_isRefused_542 rfl ?_
  refine xg_iload C dL_isRefused_543 rfl ?_
  refine xg_callSnW C V Ev (as := [.ref (G.2.2 0 0), .int ((-1 : Int32) - ((nI X) - (nI X) / (30 : Int32) * (30 : Int32)))]) (fun l hl => kxL_risen l hl hsz V.1 ((-1 : Int32) - ((nI X) - (nI X) / (30 : Int32) * (30 : Int32))) S (fun z => hn z)) gL_isRefused_L_risen rfl hdL_risen ⟨by show _ ≤ 11; decide, by show _ ≤ 220; decide⟩ rfl rfl (Nat.le_of_ble_eq_true rfl) ⟨by show _ ≤ 69; decide, by show _ ≤ 414; decide⟩ dL_isRefused_545 ?_
  refine xg_sipush C dL_isRefused_548 (v := (-1232 : Int32)) (by decide) ?_
  refine xg_icmp_ne C 558 dL_isRefused_551 (by decide) (fun h38 => by exact absurd h38 (by decide)) (fun h38 => ?_)
  refine xg_iconst C dL_isRefused_554 (v := (1 : Int32)) (by decide) ?_
  refine xg_goto C 559 dL_isRefused_555 (by decide) ?_
  refine xg_istore C dL_isRefused_559 (by decide) (L' := [some (.ref (G.2.2 0 0)), some (.ref (G.2.2 35 0)), some (.int (nI X)), some (.int (1 : Int32)), some (.int ((-1 : Int32) - ((nI X) - (nI X) / (30 : Int32) * (30 : Int32)))), some (.int (((nI X) / (2 : Int32)) - ((nI X) / (2 : Int32)) / (8 : Int32) * (8 : Int32))), some (.long (fL_all S)), none, some (.int (1 : Int32)), none]) rfl ?_
  refine xg_iconst C dL_isRefused_561 (v := (0 : Int32)) (by decide) ?_
  refine xg_istore C dL_isRefused_562 (by decide) (L' := [some (.ref (G.2.2 0 0)), some (.ref (G.2.2 35 0)), some (.int (nI X)), some (.int (1 : Int32)), some (.int ((-1 : Int32) - ((nI X) - (nI X) / (30 : Int32) * (30 : Int32)))), some (.int (((nI X) / (2 : Int32)) - ((nI X) / (2 : Int32)) / (8 : Int32) * (8 : Int32))), some (.long (fL_all S)), none, some (.int (1 : Int32)), some (.int (0 : Int32))]) rfl ?_
  exact K
set_option maxRecDepth 100000 in
set_option maxHeartbeats 4000000 in
theorem rfA_high {X : Nat} {F : xF} {G : xG} {Sa : Nat → Nat} {sz : Nat} {S : xS} (C : xC F cL_isRefused 10 RL wsL_isRefused { frames := 11, cells := 69, slots := 414, locals := 220 }) (V : xV F xYc G) (Ev : xEv F Sa sz) (hsz : ∀ a : Nat, xA xYc G a → sz ≤ a) (hpar : ¬ ((nI X) - (nI X) / (2 : Int32) * (2 : Int32)) = (0 : Int32)) (hn : ¬ vp_in ((8 : Int32) + ((nI X) - (nI X) / (30 : Int32) * (30 : Int32))) 8) (hk : vp_in (((nI X) / (2 : Int32)) - ((nI X) / (2 : Int32)) / (8 : Int32) * (8 : Int32)) 8) (hl1 : ((0 : Int32) - ((nI X) - (nI X) / (30 : Int32) * (30 : Int32))) < (1 : Int32)) (hl0 : ((-1 : Int32) - ((nI X) - (nI X) / (30 : Int32) * (30 : Int32))) < (0 : Int32)) (hlm : ((-2 : Int32) - ((nI X) - (nI X) / (30 : Int32) * (30 : Int32))) < (-1 : Int32)) (K : xg F 23 138 564 [some (.ref (G.2.2 0 0)), some (.ref (G.2.2 35 0)), some (.int (nI X)), some (.int (0 : Int32)), some (.int ((8 : Int32) + ((nI X) - (nI X) / (30 : Int32) * (30 : Int32)))), some (.int (((nI X) / (2 : Int32)) - ((nI X) / (2 : Int32)) / (8 : Int32) * (8 : Int32))), some (.long (fL_all S)), none, some (.int (1 : Int32)), some (.int (0 : Int32))] [] (xP xYc G S)) : xg F 0 0 0 [some (.ref (G.2.2 0 0)), some (.ref (G.2.2 35 0)), some (.int (nI X)), none, none, none, none, none, none, none] [] (xP xYc G S) := by
  have hap : xAp xYc G := V.1
  refine xg_iload_n C dL_isRefused_0 rfl ?_
  refine xg_iconst C dL_isRefused_1 (v := (2 : Int32)) (by decide) ?_
  refine xg_irem C dL_isRefused_2 (by decide) ?_
  refine xg_if_ne C 10 dL_isRefused_3 (by decide) (fun h1 => ?_) (fun h1 => absurd h1 hpar)
  refine xg_iconst C dL_isRefused_10 (v := (0 : Int32)) (by decide) ?_
  refine xg_istore_n C dL_isRefused_11 (by decide) (L' := [some (.ref (G.2.2 0 0)), some (.ref (G.2.2 35 0)), some (.int (nI X)), some (.int (0 : Int32)), none, none, none, none, none, none]) rfl ?_
  refine xg_iload_n C dL_isRefused_12 rfl ?_
  refine xg_if_eq C 25 dL_isRefused_13 (by decide) (fun h2 => ?_) (fun h2 => by exact absurd h2 (by decide))
  refine xg_bipush C dL_isRefused_25 (v := (8 : Int32)) (by decide) ?_
  refine xg_iload_n C dL_isRefused_27 rfl ?_
  refine xg_bipush C dL_isRefused_28 (v := (30 : Int32)) (by decide) ?_
  refine xg_irem C dL_isRefused_30 (by decide) ?_
  refine xg_iadd C dL_isRefused_31 ?_
  refine xg_istore C dL_isRefused_32 (by decide) (L' := [some (.ref (G.2.2 0 0)), some (.ref (G.2.2 35 0)), some (.int (nI X)), some (.int (0 : Int32)), some (.int ((8 : Int32) + ((nI X) - (nI X) / (30 : Int32) * (30 : Int32)))), none, none, none, none, none]) rfl ?_
  refine xg_iload_n C dL_isRefused_34 rfl ?_
  refine xg_iconst C dL_isRefused_35 (v := (2 : Int32)) (by decide) ?_
  refine xg_idiv C dL_isRefused_36 (by decide) ?_
  refine xg_bipush C dL_isRefused_37 (v := (8 : Int32)) (by decide) ?_
  refine xg_irem C dL_isRefused_39 (by decide) ?_
  refine xg_istore C dL_isRefused_40 (by decide) (L' := [some (.ref (G.2.2 0 0)), some (.ref (G.2.2 35 0)), some (.int (nI X)), some (.int (0 : Int32)), some (.int ((8 : Int32) + ((nI X) - (nI X) / (30 : Int32) * (30 : Int32)))), some (.int (((nI X) / (2 : Int32)) - ((nI X) / (2 : Int32)) / (8 : Int32) * (8 : Int32))), none, none, none, none]) rfl ?_
  refine xg_aload_n C dL_isRefused_42 rfl ?_
  refine xg_callSl C V (as := [.ref (G.2.2 0 0)]) (r := (fL_all S)) (fun l => kL_all l hap  S) gL_isRefused_L_all rfl hdL_all ⟨by decide, by decide⟩ rfl rfl (Nat.le_of_ble_eq_true rfl) ⟨Nat.zero_le _, Nat.zero_le _⟩ dL_isRefused_43 ?_
  refine xg_lstore C dL_isRefused_46 (by decide) (L' := [some (.ref (G.2.2 0 0)), some (.ref (G.2.2 35 0)), some (.int (nI X)), some (.int (0 : Int32)), some (.int ((8 : Int32) + ((nI X) - (nI X) / (30 : Int32) * (30 : Int32)))), some (.int (((nI X) / (2 : Int32)) - ((nI X) / (2 : Int32)) / (8 : Int32) * (8 : Int32))), some (.long (fL_all S)), none, none, none]) rfl rfl ?_
  refine xg_aload_n C dL_isRefused_48 rfl ?_
  refine xg_iload C dL_isRefused_49 rfl ?_
  refine xg_iconst C dL_isRefused_51 (v := (5 : Int32)) (by decide) ?_
  refine xg_iconst C dL_isRefused_52 (v := (5 : Int32)) (by decide) ?_
  refine xg_callSnW C V Ev (as := [.ref (G.2.2 0 0), .int ((8 : Int32) + ((nI X) - (nI X) / (30 : Int32) * (30 : Int32))), .int (5 : Int32), .int (5 : Int32)]) (fun l hl => kxL_shaped l hl hsz V.1 ((8 : Int32) + ((nI X) - (nI X) / (30 : Int32) * (30 : Int32))) (5 : Int32) (5 : Int32) S (fun z => hn z.1)) gL_isRefused_L_shaped rfl hdL_shaped ⟨by show _ ≤ 11; decide, by show _ ≤ 220; decide⟩ rfl rfl (Nat.le_of_ble_eq_true rfl) ⟨by show _ ≤ 69; decide, by show _ ≤ 414; decide⟩ dL_isRefused_53 ?_
  refine xg_sipush C dL_isRefused_56 (v := (-1232 : Int32)) (by decide) ?_
  refine xg_icmp_ne C 558 dL_isRefused_59 (by decide) (fun h3 => by exact absurd h3 (by decide)) (fun h3 => ?_)
  refine xg_aload_n C dL_isRefused_62 rfl ?_
  refine xg_iload C dL_isRefused_63 rfl ?_
  refine xg_iload_n C dL_isRefused_65 rfl ?_
  refine xg_if_eq C 78 dL_isRefused_66 (by decide) (fun h4 => ?_) (fun h4 => by exact absurd h4 (by decide))
  refine xg_bipush C dL_isRefused_78 (v := (101 : Int32)) (by decide) ?_
  refine xg_iconst C dL_isRefused_80 (v := (5 : Int32)) (by decide) ?_
  refine xg_callSnW C V Ev (as := [.ref (G.2.2 0 0), .int (((nI X) / (2 : Int32)) - ((nI X) / (2 : Int32)) / (8 : Int32) * (8 : Int32)), .int (101 : Int32), .int (5 : Int32)]) (fun l hl => kxL_shaped l hl hsz V.1 (((nI X) / (2 : Int32)) - ((nI X) / (2 : Int32)) / (8 : Int32) * (8 : Int32)) (101 : Int32) (5 : Int32) S (fun z => absurd z.2.1 (by decide))) gL_isRefused_L_shaped rfl hdL_shaped ⟨by show _ ≤ 11; decide, by show _ ≤ 220; decide⟩ rfl rfl (Nat.le_of_ble_eq_true rfl) ⟨by show _ ≤ 69; decide, by show _ ≤ 414; decide⟩ dL_isRefused_81 ?_
  refine xg_sipush C dL_isRefused_84 (v := (-1232 : Int32)) (by decide) ?_
  refine xg_icmp_ne C 558 dL_isRefused_87 (by decide) (fun h5 => by exact absurd h5 (by decide)) (fun h5 => ?_)
  refine xg_aload_n C dL_isRefused_90 rfl ?_
  refine xg_iload C dL_isRefused_91 rfl ?_
  refine xg_iconst C dL_isRefused_93 (v := (5 : Int32)) (by decide) ?_
  refine xg_iload_n C dL_isRefused_94 rfl ?_
  refine xg_if_eq C 107 dL_isRefused_95 (by decide) (fun h6 => ?_) (fun h6 => by exact absurd h6 (by decide))
  refine xg_sipush C dL_isRefused_107 (v := (1001 : Int32)) (by decide) ?_
  refine xg_callSnW C V Ev (as := [.ref (G.2.2 0 0), .int (((nI X) / (2 : Int32)) - ((nI X) / (2 : Int32)) / (8 : Int32) * (8 : Int32)), .int (5 : Int32), .int (1001 : Int32)]) (fun l hl => kxL_shaped l hl hsz V.1 (((nI X) / (2 : Int32)) - ((nI X) / (2 : Int32)) / (8 : Int32) * (8 : Int32)) (5 : Int32) (1001 : Int32) S (fun z => absurd z.2.2 (by decide))) gL_isRefused_L_shaped rfl hdL_shaped ⟨by show _ ≤ 11; decide, by show _ ≤ 220; decide⟩ rfl rfl (Nat.le_of_ble_eq_true rfl) ⟨by show _ ≤ 69; decide, by show _ ≤ 414; decide⟩ dL_isRefused_110 ?_
  refine xg_sipush C dL_isRefused_113 (v := (-1232 : Int32)) (by decide) ?_
  refine xg_icmp_ne C 558 dL_isRefused_116 (by decide) (fun h7 => by exact absurd h7 (by decide)) (fun h7 => ?_)
  refine xg_aload_n C dL_isRefused_119 rfl ?_
  refine xg_iconst C dL_isRefused_120 (v := (0 : Int32)) (by decide) ?_
  refine xg_iload C dL_isRefused_121 rfl ?_
  refine xg_iconst C dL_isRefused_123 (v := (5 : Int32)) (by decide) ?_
  refine xg_callSnW C V Ev (as := [.ref (G.2.2 0 0), .int (0 : Int32), .int ((8 : Int32) + ((nI X) - (nI X) / (30 : Int32) * (30 : Int32))), .int (5 : Int32)]) (fun l hl => kxL_act0 l hl hsz V.1 ((8 : Int32) + ((nI X) - (nI X) / (30 : Int32) * (30 : Int32))) (5 : Int32) S (fun z => hn z.1)) gL_isRefused_L_act rfl hdL_act ⟨by show _ ≤ 11; decide, by show _ ≤ 220; decide⟩ rfl rfl (Nat.le_of_ble_eq_true rfl) ⟨by show _ ≤ 69; decide, by show _ ≤ 414; decide⟩ dL_isRefused_124 ?_
  refine xg_sipush C dL_isRefused_127 (v := (-1232 : Int32)) (by decide) ?_
  refine xg_icmp_ne C 558 dL_isRefused_130 (by decide) (fun h8 => by exact absurd h8 (by decide)) (fun h8 => ?_)
  refine xg_aload_n C dL_isRefused_133 rfl ?_
  refine xg_iconst C dL_isRefused_134 (v := (0 : Int32)) (by decide) ?_
  refine xg_iload C dL_isRefused_135 rfl ?_
  refine xg_iload_n C dL_isRefused_137 rfl ?_
  refine xg_if_eq C 150 dL_isRefused_138 (by decide) (fun h9 => ?_) (fun h9 => by exact absurd h9 (by decide))
  refine xg_bipush C dL_isRefused_150 (v := (51 : Int32)) (by decide) ?_
  refine xg_callSnW C V Ev (as := [.ref (G.2.2 0 0), .int (0 : Int32), .int (((nI X) / (2 : Int32)) - ((nI X) / (2 : Int32)) / (8 : Int32) * (8 : Int32)), .int (51 : Int32)]) (fun l hl => kxL_act0 l hl hsz V.1 (((nI X) / (2 : Int32)) - ((nI X) / (2 : Int32)) / (8 : Int32) * (8 : Int32)) (51 : Int32) S (fun z => absurd z.2 (by decide))) gL_isRefused_L_act rfl hdL_act ⟨by show _ ≤ 11; decide, by show _ ≤ 220; decide⟩ rfl rfl (Nat.le_of_ble_eq_true rfl) ⟨by show _ ≤ 69; decide, by show _ ≤ 414; decide⟩ dL_isRefused_152 ?_
  refine xg_sipush C dL_isRefused_155 (v := (-1232 : Int32)) (by decide) ?_
  refine xg_icmp_ne C 558 dL_isRefused_158 (by decide) (fun h10 => by exact absurd h10 (by decide)) (fun h10 => ?_)
  refine xg_aload_n C dL_isRefused_161 rfl ?_
  refine xg_iconst C dL_isRefused_162 (v := (1 : Int32)) (by decide) ?_
  refine xg_iload_n C dL_isRefused_163 rfl ?_
  refine xg_if_eq C 176 dL_isRefused_164 (by decide) (fun h11 => ?_) (fun h11 => by exact absurd h11 (by decide))
  refine xg_sipush C dL_isRefused_176 (v := (1001 : Int32)) (by decide) ?_
  refine xg_iconst C dL_isRefused_179 (v := (0 : Int32)) (by decide) ?_
  refine xg_callSnW C V Ev (as := [.ref (G.2.2 0 0), .int (1 : Int32), .int (1001 : Int32), .int (0 : Int32)]) (fun l hl => kxL_act1 l hl hsz V.1 (1001 : Int32) (0 : Int32) S (fun z => absurd z (by decide))) gL_isRefused_L_act rfl hdL_act ⟨by show _ ≤ 11; decide, by show _ ≤ 220; decide⟩ rfl rfl (Nat.le_of_ble_eq_true rfl) ⟨by show _ ≤ 69; decide, by show _ ≤ 414; decide⟩ dL_isRefused_180 ?_
  refine xg_sipush C dL_isRefused_183 (v := (-1232 : Int32)) (by decide) ?_
  refine xg_icmp_ne C 558 dL_isRefused_186 (by decide) (fun h12 => by exact absurd h12 (by decide)) (fun h12 => ?_)
  refine xg_aload_n C dL_isRefused_189 rfl ?_
  refine xg_iconst C dL_isRefused_190 (v := (2 : Int32)) (by decide) ?_
  refine xg_iload C dL_isRefused_191 rfl ?_
  refine xg_iconst C dL_isRefused_193 (v := (5 : Int32)) (by decide) ?_
  refine xg_callSnW C V Ev (as := [.ref (G.2.2 0 0), .int (2 : Int32), .int ((8 : Int32) + ((nI X) - (nI X) / (30 : Int32) * (30 : Int32))), .int (5 : Int32)]) (fun l hl => kxL_act2 l hl hsz V.1 ((8 : Int32) + ((nI X) - (nI X) / (30 : Int32) * (30 : Int32))) (5 : Int32) S (fun z => hn z.1)) gL_isRefused_L_act rfl hdL_act ⟨by show _ ≤ 11; decide, by show _ ≤ 220; decide⟩ rfl rfl (Nat.le_of_ble_eq_true rfl) ⟨by show _ ≤ 69; decide, by show _ ≤ 414; decide⟩ dL_isRefused_194 ?_
  refine xg_sipush C dL_isRefused_197 (v := (-1232 : Int32)) (by decide) ?_
  refine xg_icmp_ne C 558 dL_isRefused_200 (by decide) (fun h13 => by exact absurd h13 (by decide)) (fun h13 => ?_)
  refine xg_aload_n C dL_isRefused_203 rfl ?_
  refine xg_iconst C dL_isRefused_204 (v := (2 : Int32)) (by decide) ?_
  refine xg_iload C dL_isRefused_205 rfl ?_
  refine xg_iload_n C dL_isRefused_207 rfl ?_
  refine xg_if_eq C 220 dL_isRefused_208 (by decide) (fun h14 => ?_) (fun h14 => by exact absurd h14 (by decide))
  refine xg_sipush C dL_isRefused_220 (v := (10001 : Int32)) (by decide) ?_
  refine xg_callSnW C V Ev (as := [.ref (G.2.2 0 0), .int (2 : Int32), .int (((nI X) / (2 : Int32)) - ((nI X) / (2 : Int32)) / (8 : Int32) * (8 : Int32)), .int (10001 : Int32)]) (fun l hl => kxL_act2 l hl hsz V.1 (((nI X) / (2 : Int32)) - ((nI X) / (2 : Int32)) / (8 : Int32) * (8 : Int32)) (10001 : Int32) S (fun z => absurd z.2 (by decide))) gL_isRefused_L_act rfl hdL_act ⟨by show _ ≤ 11; decide, by show _ ≤ 220; decide⟩ rfl rfl (Nat.le_of_ble_eq_true rfl) ⟨by show _ ≤ 69; decide, by show _ ≤ 414; decide⟩ dL_isRefused_223 ?_
  refine xg_sipush C dL_isRefused_226 (v := (-1232 : Int32)) (by decide) ?_
  refine xg_icmp_ne C 558 dL_isRefused_229 (by decide) (fun h15 => by exact absurd h15 (by decide)) (fun h15 => ?_)
  refine xg_aload_n C dL_isRefused_232 rfl ?_
  refine xg_iconst C dL_isRefused_233 (v := (3 : Int32)) (by decide) ?_
  refine xg_iload C dL_isRefused_234 rfl ?_
  refine xg_iconst C dL_isRefused_236 (v := (-1 : Int32)) (by decide) ?_
  refine xg_callSnW C V Ev (as := [.ref (G.2.2 0 0), .int (3 : Int32), .int ((8 : Int32) + ((nI X) - (nI X) / (30 : Int32) * (30 : Int32))), .int (-1 : Int32)]) (fun l hl => kxL_act3 l hl hsz V.1 ((8 : Int32) + ((nI X) - (nI X) / (30 : Int32) * (30 : Int32))) (-1 : Int32) S (fun z => hn z.1)) gL_isRefused_L_act rfl hdL_act ⟨by show _ ≤ 11; decide, by show _ ≤ 220; decide⟩ rfl rfl (Nat.le_of_ble_eq_true rfl) ⟨by show _ ≤ 69; decide, by show _ ≤ 414; decide⟩ dL_isRefused_237 ?_
  refine xg_sipush C dL_isRefused_240 (v := (-1232 : Int32)) (by decide) ?_
  refine xg_icmp_ne C 558 dL_isRefused_243 (by decide) (fun h16 => by exact absurd h16 (by decide)) (fun h16 => ?_)
  refine xg_aload_n C dL_isRefused_246 rfl ?_
  refine xg_iconst C dL_isRefused_247 (v := (3 : Int32)) (by decide) ?_
  refine xg_iload C dL_isRefused_248 rfl ?_
  refine xg_iload_n C dL_isRefused_250 rfl ?_
  refine xg_if_eq C 264 dL_isRefused_251 (by decide) (fun h17 => ?_) (fun h17 => by exact absurd h17 (by decide))
  refine xg_bipush C dL_isRefused_264 (v := (11 : Int32)) (by decide) ?_
  refine xg_callSnW C V Ev (as := [.ref (G.2.2 0 0), .int (3 : Int32), .int (((nI X) / (2 : Int32)) - ((nI X) / (2 : Int32)) / (8 : Int32) * (8 : Int32)), .int (11 : Int32)]) (fun l hl => kxL_act3 l hl hsz V.1 (((nI X) / (2 : Int32)) - ((nI X) / (2 : Int32)) / (8 : Int32) * (8 : Int32)) (11 : Int32) S (fun z => absurd z.2 (by decide))) gL_isRefused_L_act rfl hdL_act ⟨by show _ ≤ 11; decide, by show _ ≤ 220; decide⟩ rfl rfl (Nat.le_of_ble_eq_true rfl) ⟨by show _ ≤ 69; decide, by show _ ≤ 414; decide⟩ dL_isRefused_266 ?_
  refine xg_sipush C dL_isRefused_269 (v := (-1232 : Int32)) (by decide) ?_
  refine xg_icmp_ne C 558 dL_isRefused_272 (by decide) (fun h18 => by exact absurd h18 (by decide)) (fun h18 => ?_)
  refine xg_aload_n C dL_isRefused_275 rfl ?_
  refine xg_iconst C dL_isRefused_276 (v := (4 : Int32)) (by decide) ?_
  refine xg_iload C dL_isRefused_277 rfl ?_
  refine xg_iconst C dL_isRefused_279 (v := (0 : Int32)) (by decide) ?_
  refine xg_callSnW C V Ev (as := [.ref (G.2.2 0 0), .int (4 : Int32), .int ((8 : Int32) + ((nI X) - (nI X) / (30 : Int32) * (30 : Int32))), .int (0 : Int32)]) (fun l hl => kxL_act4 l hl hsz V.1 ((8 : Int32) + ((nI X) - (nI X) / (30 : Int32) * (30 : Int32))) (0 : Int32) S (fun z => hn z.1)) gL_isRefused_L_act rfl hdL_act ⟨by show _ ≤ 11; decide, by show _ ≤ 220; decide⟩ rfl rfl (Nat.le_of_ble_eq_true rfl) ⟨by show _ ≤ 69; decide, by show _ ≤ 414; decide⟩ dL_isRefused_280 ?_
  refine xg_sipush C dL_isRefused_283 (v := (-1232 : Int32)) (by decide) ?_
  refine xg_icmp_ne C 558 dL_isRefused_286 (by decide) (fun h19 => by exact absurd h19 (by decide)) (fun h19 => ?_)
  refine xg_aload_n C dL_isRefused_289 rfl ?_
  refine xg_iconst C dL_isRefused_290 (v := (4 : Int32)) (by decide) ?_
  refine xg_iload C dL_isRefused_291 rfl ?_
  refine xg_iload_n C dL_isRefused_293 rfl ?_
  refine xg_if_eq C 306 dL_isRefused_294 (by decide) (fun h20 => ?_) (fun h20 => by exact absurd h20 (by decide))
  refine xg_iconst C dL_isRefused_306 (v := (4 : Int32)) (by decide) ?_
  refine xg_callSnW C V Ev (as := [.ref (G.2.2 0 0), .int (4 : Int32), .int (((nI X) / (2 : Int32)) - ((nI X) / (2 : Int32)) / (8 : Int32) * (8 : Int32)), .int (4 : Int32)]) (fun l hl => kxL_act4 l hl hsz V.1 (((nI X) / (2 : Int32)) - ((nI X) / (2 : Int32)) / (8 : Int32) * (8 : Int32)) (4 : Int32) S (fun z => absurd z.2 (by decide))) gL_isRefused_L_act rfl hdL_act ⟨by show _ ≤ 11; decide, by show _ ≤ 220; decide⟩ rfl rfl (Nat.le_of_ble_eq_true rfl) ⟨by show _ ≤ 69; decide, by show _ ≤ 414; decide⟩ dL_isRefused_307 ?_
  refine xg_sipush C dL_isRefused_310 (v := (-1232 : Int32)) (by decide) ?_
  refine xg_icmp_ne C 558 dL_isRefused_313 (by decide) (fun h21 => by exact absurd h21 (by decide)) (fun h21 => ?_)
  refine xg_aload_n C dL_isRefused_316 rfl ?_
  refine xg_iconst C dL_isRefused_317 (v := (5 : Int32)) (by decide) ?_
  refine xg_iload C dL_isRefused_318 rfl ?_
  refine xg_iconst C dL_isRefused_320 (v := (1 : Int32)) (by decide) ?_
  refine xg_callSnW C V Ev (as := [.ref (G.2.2 0 0), .int (5 : Int32), .int ((8 : Int32) + ((nI X) - (nI X) / (30 : Int32) * (30 : Int32))), .int (1 : Int32)]) (fun l hl => kxL_act5 l hl hsz V.1 ((8 : Int32) + ((nI X) - (nI X) / (30 : Int32) * (30 : Int32))) S (fun z => hn z)) gL_isRefused_L_act rfl hdL_act ⟨by show _ ≤ 11; decide, by show _ ≤ 220; decide⟩ rfl rfl (Nat.le_of_ble_eq_true rfl) ⟨by show _ ≤ 69; decide, by show _ ≤ 414; decide⟩ dL_isRefused_321 ?_
  refine xg_sipush C dL_isRefused_324 (v := (-1232 : Int32)) (by decide) ?_
  refine xg_icmp_ne C 558 dL_isRefused_327 (by decide) (fun h22 => by exact absurd h22 (by decide)) (fun h22 => ?_)
  refine xg_aload_n C dL_isRefused_330 rfl ?_
  refine xg_bipush C dL_isRefused_331 (v := (6 : Int32)) (by decide) ?_
  refine xg_iload_n C dL_isRefused_333 rfl ?_
  refine xg_if_eq C 346 dL_isRefused_334 (by decide) (fun h23 => ?_) (fun h23 => by exact absurd h23 (by decide))
  refine xg_bipush C dL_isRefused_346 (v := (101 : Int32)) (by decide) ?_
  refine xg_iconst C dL_isRefused_348 (v := (0 : Int32)) (by decide) ?_
  refine xg_callSnW C V Ev (as := [.ref (G.2.2 0 0), .int (6 : Int32), .int (101 : Int32), .int (0 : Int32)]) (fun l hl => kxL_act6 l hl hsz V.1 (101 : Int32) (0 : Int32) S (fun z => absurd z (by decide))) gL_isRefused_L_act rfl hdL_act ⟨by show _ ≤ 11; decide, by show _ ≤ 220; decide⟩ rfl rfl (Nat.le_of_ble_eq_true rfl) ⟨by show _ ≤ 69; decide, by show _ ≤ 414; decide⟩ dL_isRefused_349 ?_
  refine xg_sipush C dL_isRefused_352 (v := (-1232 : Int32)) (by decide) ?_
  refine xg_icmp_ne C 558 dL_isRefused_355 (by decide) (fun h24 => by exact absurd h24 (by decide)) (fun h24 => ?_)
  refine xg_aload_n C dL_isRefused_358 rfl ?_
  refine xg_iload C dL_isRefused_359 rfl ?_
  refine xg_iconst C dL_isRefused_361 (v := (1 : Int32)) (by decide) ?_
  refine xg_iconst C dL_isRefused_362 (v := (2 : Int32)) (by decide) ?_
  refine xg_iconst C dL_isRefused_363 (v := (3 : Int32)) (by decide) ?_
  refine xg_iconst C dL_isRefused_364 (v := (4 : Int32)) (by decide) ?_
  refine xg_callSnW C V Ev (as := [.ref (G.2.2 0 0), .int ((8 : Int32) + ((nI X) - (nI X) / (30 : Int32) * (30 : Int32))), .int (1 : Int32), .int (2 : Int32), .int (3 : Int32), .int (4 : Int32)]) (fun l hl => kxL_ruled l hl hsz V.1 ((8 : Int32) + ((nI X) - (nI X) / (30 : Int32) * (30 : Int32))) (1 : Int32) (2 : Int32) (3 : Int32) (4 : Int32) S (fun z => hn z.1)) gL_isRefused_L_ruled rfl hdL_ruled ⟨by show _ ≤ 11; decide, by show _ ≤ 220; decide⟩ rfl rfl (Nat.le_of_ble_eq_true rfl) ⟨by show _ ≤ 69; decide, by show _ ≤ 414; decide⟩ dL_isRefused_365 ?_
  refine xg_sipush C dL_isRefused_368 (v := (-1232 : Int32)) (by decide) ?_
  refine xg_icmp_ne C 558 dL_isRefused_371 (by decide) (fun h25 => by exact absurd h25 (by decide)) (fun h25 => ?_)
  refine xg_aload_n C dL_isRefused_374 rfl ?_
  refine xg_iload C dL_isRefused_375 rfl ?_
  refine xg_iconst C dL_isRefused_377 (v := (-1 : Int32)) (by decide) ?_
  refine xg_iload_n C dL_isRefused_378 rfl ?_
  refine xg_bipush C dL_isRefused_379 (v := (30 : Int32)) (by decide) ?_
  refine xg_irem C dL_isRefused_381 (by decide) ?_
  refine xg_isub C dL_isRefused_382 ?_
  refine xg_iconst C dL_isRefused_383 (v := (2 : Int32)) (by decide) ?_
  refine xg_iconst C dL_isRefused_384 (v := (3 : Int32)) (by decide) ?_
  refine xg_iconst C dL_isRefused_385 (v := (4 : Int32)) (by decide) ?_
  refine xg_callSnW C V Ev (as := [.ref (G.2.2 0 0), .int (((nI X) / (2 : Int32)) - ((nI X) / (2 : Int32)) / (8 : Int32) * (8 : Int32)), .int ((-1 : Int32) - ((nI X) - (nI X) / (30 : Int32) * (30 : Int32))), .int (2 : Int32), .int (3 : Int32), .int (4 : Int32)]) (fun l hl => kxL_ruled l hl hsz V.1 (((nI X) / (2 : Int32)) - ((nI X) / (2 : Int32)) / (8 : Int32) * (8 : Int32)) ((-1 : Int32) - ((nI X) - (nI X) / (30 : Int32) * (30 : Int32))) (2 : Int32) (3 : Int32) (4 : Int32) S (fun z => (fun y => y.1 hl0) z.2.1)) gL_isRefused_L_ruled rfl hdL_ruled ⟨by show _ ≤ 11; decide, by show _ ≤ 220; decide⟩ rfl rfl (Nat.le_of_ble_eq_true rfl) ⟨by show _ ≤ 69; decide, by show _ ≤ 414; decide⟩ dL_isRefused_386 ?_
  refine xg_sipush C dL_isRefused_389 (v := (-1232 : Int32)) (by decide) ?_
  refine xg_icmp_ne C 558 dL_isRefused_392 (by decide) (fun h26 => by exact absurd h26 (by decide)) (fun h26 => ?_)
  refine xg_aload_n C dL_isRefused_395 rfl ?_
  refine xg_iload C dL_isRefused_396 rfl ?_
  refine xg_iconst C dL_isRefused_398 (v := (5 : Int32)) (by decide) ?_
  refine xg_iload_n C dL_isRefused_399 rfl ?_
  refine xg_if_eq C 407 dL_isRefused_400 (by decide) (fun h27 => ?_) (fun h27 => by exact absurd h27 (by decide))
  refine xg_sipush C dL_isRefused_407 (v := (1001 : Int32)) (by decide) ?_
  refine xg_iconst C dL_isRefused_410 (v := (3 : Int32)) (by decide) ?_
  refine xg_iconst C dL_isRefused_411 (v := (4 : Int32)) (by decide) ?_
  refine xg_callSnW C V Ev (as := [.ref (G.2.2 0 0), .int (((nI X) / (2 : Int32)) - ((nI X) / (2 : Int32)) / (8 : Int32) * (8 : Int32)), .int (5 : Int32), .int (1001 : Int32), .int (3 : Int32), .int (4 : Int32)]) (fun l hl => kxL_ruled l hl hsz V.1 (((nI X) / (2 : Int32)) - ((nI X) / (2 : Int32)) / (8 : Int32) * (8 : Int32)) (5 : Int32) (1001 : Int32) (3 : Int32) (4 : Int32) S (fun z => absurd z.2.2.1 (by decide))) gL_isRefused_L_ruled rfl hdL_ruled ⟨by show _ ≤ 11; decide, by show _ ≤ 220; decide⟩ rfl rfl (Nat.le_of_ble_eq_true rfl) ⟨by show _ ≤ 69; decide, by show _ ≤ 414; decide⟩ dL_isRefused_412 ?_
  refine xg_sipush C dL_isRefused_415 (v := (-1232 : Int32)) (by decide) ?_
  refine xg_icmp_ne C 558 dL_isRefused_418 (by decide) (fun h28 => by exact absurd h28 (by decide)) (fun h28 => ?_)
  refine xg_aload_n C dL_isRefused_421 rfl ?_
  refine xg_iload C dL_isRefused_422 rfl ?_
  refine xg_iconst C dL_isRefused_424 (v := (1 : Int32)) (by decide) ?_
  refine xg_iconst C dL_isRefused_425 (v := (2 : Int32)) (by decide) ?_
  refine xg_iload_n C dL_isRefused_426 rfl ?_
  refine xg_if_eq C 439 dL_isRefused_427 (by decide) (fun h29 => ?_) (fun h29 => by exact absurd h29 (by decide))
  refine xg_sipush C dL_isRefused_439 (v := (1001 : Int32)) (by decide) ?_
  refine xg_iconst C dL_isRefused_442 (v := (4 : Int32)) (by decide) ?_
  refine xg_callSnW C V Ev (as := [.ref (G.2.2 0 0), .int (((nI X) / (2 : Int32)) - ((nI X) / (2 : Int32)) / (8 : Int32) * (8 : Int32)), .int (1 : Int32), .int (2 : Int32), .int (1001 : Int32), .int (4 : Int32)]) (fun l hl => kxL_ruled l hl hsz V.1 (((nI X) / (2 : Int32)) - ((nI X) / (2 : Int32)) / (8 : Int32) * (8 : Int32)) (1 : Int32) (2 : Int32) (1001 : Int32) (4 : Int32) S (fun z => absurd z.2.2.2.1 (by decide))) gL_isRefused_L_ruled rfl hdL_ruled ⟨by show _ ≤ 11; decide, by show _ ≤ 220; decide⟩ rfl rfl (Nat.le_of_ble_eq_true rfl) ⟨by show _ ≤ 69; decide, by show _ ≤ 414; decide⟩ dL_isRefused_443 ?_
  refine xg_sipush C dL_isRefused_446 (v := (-1232 : Int32)) (by decide) ?_
  refine xg_icmp_ne C 558 dL_isRefused_449 (by decide) (fun h30 => by exact absurd h30 (by decide)) (fun h30 => ?_)
  refine xg_aload_n C dL_isRefused_452 rfl ?_
  refine xg_iload C dL_isRefused_453 rfl ?_
  refine xg_iconst C dL_isRefused_455 (v := (1 : Int32)) (by decide) ?_
  refine xg_iconst C dL_isRefused_456 (v := (2 : Int32)) (by decide) ?_
  refine xg_iconst C dL_isRefused_457 (v := (3 : Int32)) (by decide) ?_
  refine xg_iload_n C dL_isRefused_458 rfl ?_
  refine xg_if_eq C 471 dL_isRefused_459 (by decide) (fun h31 => ?_) (fun h31 => by exact absurd h31 (by decide))
  refine xg_bipush C dL_isRefused_471 (v := (101 : Int32)) (by decide) ?_
  refine xg_callSnW C V Ev (as := [.ref (G.2.2 0 0), .int (((nI X) / (2 : Int32)) - ((nI X) / (2 : Int32)) / (8 : Int32) * (8 : Int32)), .int (1 : Int32), .int (2 : Int32), .int (3 : Int32), .int (101 : Int32)]) (fun l hl => kxL_ruled l hl hsz V.1 (((nI X) / (2 : Int32)) - ((nI X) / (2 : Int32)) / (8 : Int32) * (8 : Int32)) (1 : Int32) (2 : Int32) (3 : Int32) (101 : Int32) S (fun z => absurd z.2.2.2.2 (by decide))) gL_isRefused_L_ruled rfl hdL_ruled ⟨by show _ ≤ 11; decide, by show _ ≤ 220; decide⟩ rfl rfl (Nat.le_of_ble_eq_true rfl) ⟨by show _ ≤ 69; decide, by show _ ≤ 414; decide⟩ dL_isRefused_473 ?_
  refine xg_sipush C dL_isRefused_476 (v := (-1232 : Int32)) (by decide) ?_
  refine xg_icmp_ne C 558 dL_isRefused_479 (by decide) (fun h32 => by exact absurd h32 (by decide)) (fun h32 => ?_)
  refine xg_aload_n C dL_isRefused_482 rfl ?_
  refine xg_iload_n C dL_isRefused_483 rfl ?_
  refine xg_if_eq C 496 dL_isRefused_484 (by decide) (fun h33 => ?_) (fun h33 => by exact absurd h33 (by decide))
  refine xg_bipush C dL_isRefused_496 (v := (51 : Int32)) (by decide) ?_
  refine xg_bipush C dL_isRefused_498 (v := (60 : Int32)) (by decide) ?_
  refine xg_callSnW C V Ev (as := [.ref (G.2.2 0 0), .int (51 : Int32), .int (60 : Int32)]) (fun l hl => kxL_timed l hl hsz V.1 (51 : Int32) (60 : Int32) S (fun z => absurd z.1 (by decide))) gL_isRefused_L_timed rfl hdL_timed ⟨by show _ ≤ 11; decide, by show _ ≤ 220; decide⟩ rfl rfl (Nat.le_of_ble_eq_true rfl) ⟨by show _ ≤ 69; decide, by show _ ≤ 414; decide⟩ dL_isRefused_500 ?_
  refine xg_sipush C dL_isRefused_503 (v := (-1232 : Int32)) (by decide) ?_
  refine xg_icmp_ne C 558 dL_isRefused_506 (by decide) (fun h34 => by exact absurd h34 (by decide)) (fun h34 => ?_)
  refine xg_aload_n C dL_isRefused_509 rfl ?_
  refine xg_iconst C dL_isRefused_510 (v := (5 : Int32)) (by decide) ?_
  refine xg_iload_n C dL_isRefused_511 rfl ?_
  refine xg_if_eq C 519 dL_isRefused_512 (by decide) (fun h35 => ?_) (fun h35 => by exact absurd h35 (by decide))
  refine xg_bipush C dL_isRefused_519 (v := (101 : Int32)) (by decide) ?_
  refine xg_callSnW C V Ev (as := [.ref (G.2.2 0 0), .int (5 : Int32), .int (101 : Int32)]) (fun l hl => kxL_timed l hl hsz V.1 (5 : Int32) (101 : Int32) S (fun z => absurd z.2 (by decide))) gL_isRefused_L_timed rfl hdL_timed ⟨by show _ ≤ 11; decide, by show _ ≤ 220; decide⟩ rfl rfl (Nat.le_of_ble_eq_true rfl) ⟨by show _ ≤ 69; decide, by show _ ≤ 414; decide⟩ dL_isRefused_521 ?_
  refine xg_sipush C dL_isRefused_524 (v := (-1232 : Int32)) (by decide) ?_
  refine xg_icmp_ne C 558 dL_isRefused_527 (by decide) (fun h36 => by exact absurd h36 (by decide)) (fun h36 => ?_)
  refine xg_aload_n C dL_isRefused_530 rfl ?_
  refine xg_iload C dL_isRefused_531 rfl ?_
  refine xg_callSnW C V Ev (as := [.ref (G.2.2 0 0), .int ((8 : Int32) + ((nI X) - (nI X) / (30 : Int32) * (30 : Int32)))]) (fun l hl => kxL_fallen l hl hsz V.1 ((8 : Int32) + ((nI X) - (nI X) / (30 : Int32) * (30 : Int32))) S (fun z => hn z)) gL_isRefused_L_fallen rfl hdL_fallen ⟨by show _ ≤ 11; decide, by show _ ≤ 220; decide⟩ rfl rfl (Nat.le_of_ble_eq_true rfl) ⟨by show _ ≤ 69; decide, by show _ ≤ 414; decide⟩ dL_isRefused_533 ?_
  refine xg_sipush C dL_isRefused_536 (v := (-1232 : Int32)) (by decide) ?_
  refine xg_icmp_ne C 558 dL_isRefused_539 (by decide) (fun h37 => by exact absurd h37 (by decide)) (fun h37 => ?_)
  refine xg_aload_n C dL_isRefused_542 rfl ?_
  refine xg_iload C dL_isRefused_543 rfl ?_
  refine xg_callSnW C V Ev (as := [.ref (G.2.2 0 0), .int ((8 : Int32) + ((nI X) - (nI X) / (30 : Int32) * (30 : Int32)))]) (fun l hl => kxL_risen l hl hsz V.1 ((8 : Int32) + ((nI X) - (nI X) / (30 : Int32) * (30 : Int32))) S (fun z => hn z)) gL_isRefused_L_risen rfl hdL_risen ⟨by show _ ≤ 11; decide, by show _ ≤ 220; decide⟩ rfl rfl (Nat.le_of_ble_eq_true rfl) ⟨by show _ ≤ 69; decide, by show _ ≤ 414; decide⟩ dL_isRefused_545 ?_
  refine xg_sipush C dL_isRefused_548 (v := (-1232 : Int32)) (by decide) ?_
  refine xg_icmp_ne C 558 dL_isRefused_551 (by decide) (fun h38 => by exact absurd h38 (by decide)) (fun h38 => ?_)
  refine xg_iconst C dL_isRefused_554 (v := (1 : Int32)) (by decide) ?_
  refine xg_goto C 559 dL_isRefused_555 (by decide) ?_
  refine xg_istore C dL_isRefused_559 (by decide) (L' := [some (.ref (G.2.2 0 0)), some (.ref (G.2.2 35 0)), some (.int (nI X)), some (.int (0 : Int32)), some (.int ((8 : Int32) + ((nI X) - (nI X) / (30 : Int32) * (30 : Int32)))), some (.int (((nI X) / (2 : Int32)) - ((nI X) / (2 : Int32)) / (8 : Int32) * (8 : Int32))), some (.long (fL_all S)), none, some (.int (1 : Int32)), none]) rfl ?_
  refine xg_iconst C dL_isRefused_561 (v := (0 : Int32)) (by decide) ?_
  refine xg_istore C dL_isRefused_562 (by decide) (L' := [some (.ref (G.2.2 0 0)), some (.ref (G.2.2 35 0)), some (.int (nI X)), some (.int (0 : Int32)), some (.int ((8 : Int32) + ((nI X) - (nI X) / (30 : Int32) * (30 : Int32)))), some (.int (((nI X) / (2 : Int32)) - ((nI X) / (2 : Int32)) / (8 : Int32) * (8 : Int32))), some (.long (fL_all S)), none, some (.int (1 : Int32)), some (.int (0 : Int32))]) rfl ?_
  exact K
set_option maxRecDepth 100000 in
set_option maxHeartbeats 4000000 in
theorem rfB {X : Nat} {d3 n9 k9 : Int32} {was : Int64} {F : xF} {G : xG} {Sa : Nat → Nat} {sz : Nat} {S : xS} (C : xC F cL_isRefused 10 RL wsL_isRefused { frames := 11, cells := 69, slots := 414, locals := 220 }) (V : xV F xYc G) (Ev : xEv F Sa sz) (hsz : ∀ a : Nat, xA xYc G a → sz ≤ a) (hn : ¬ vp_in n9 8) (K : xg F 53 318 630 [some (.ref (G.2.2 0 0)), some (.ref (G.2.2 35 0)), some (.int (nI X)), some (.int d3), some (.int n9), some (.int k9), some (.long was), none, some (.int (1 : Int32)), some (.int (0 : Int32))] [] (xP xYc G S)) : xg F 23 138 564 [some (.ref (G.2.2 0 0)), some (.ref (G.2.2 35 0)), some (.int (nI X)), some (.int d3), some (.int n9), some (.int k9), some (.long was), none, some (.int (1 : Int32)), some (.int (0 : Int32))] [] (xP xYc G S) := by
  refine xdown (P := fun i => xg F (23 + 2 * i) (138 + 12 * i) 564 [some (.ref (G.2.2 0 0)), some (.ref (G.2.2 35 0)), some (.int (nI X)), some (.int d3), some (.int n9), some (.int k9), some (.long was), none, some (.int (1 : Int32)), some (.int (nI i))] [] (xP xYc G S)) 15 ?_ (fun i hi K => ?_)
  · refine xg_iload C dL_isRefused_564 rfl ?_
    refine xg_bipush C dL_isRefused_566 (v := (15 : Int32)) (by decide) ?_
    refine xg_icmp_ge C 627 dL_isRefused_568 (by decide) (fun h1 => ?_) (fun h1 => absurd (nI_le (Nat.le_refl _) (by decide)) h1)
    refine xg_iconst C dL_isRefused_627 (v := (0 : Int32)) (by decide) ?_
    refine xg_istore C dL_isRefused_628 (by decide) (L' := [some (.ref (G.2.2 0 0)), some (.ref (G.2.2 35 0)), some (.int (nI X)), some (.int d3), some (.int n9), some (.int k9), some (.long was), none, some (.int (1 : Int32)), some (.int (0 : Int32))]) rfl ?_
    exact K
  · refine xg_iload C dL_isRefused_564 rfl ?_
    refine xg_bipush C dL_isRefused_566 (v := (15 : Int32)) (by decide) ?_
    refine xg_icmp_ge C 627 dL_isRefused_568 (by decide) (fun h1 => absurd h1 (nI_ge hi (by decide))) (fun h1 => ?_)
    refine xg_iload C dL_isRefused_571 rfl ?_
    refine xg_if_eq C 627 dL_isRefused_573 (by decide) (fun h2 => by exact absurd h2 (by decide)) (fun h2 => ?_)
    refine xg_aload_n C dL_isRefused_576 rfl ?_
    refine xg_iload C dL_isRefused_577 rfl ?_
    refine xg_iload C dL_isRefused_579 rfl ?_
    refine xg_iconst C dL_isRefused_581 (v := (0 : Int32)) (by decide) ?_
    refine xg_callSnW C V Ev (as := [.ref (G.2.2 0 0), .int (nI i), .int n9, .int (0 : Int32)]) (fun l hl => kxL_ofA l hl hsz V.1 (nI i) n9 (0 : Int32) S hn) gL_isRefused_L_of rfl hdL_of ⟨by show _ ≤ 11; decide, by show _ ≤ 220; decide⟩ rfl rfl (Nat.le_of_ble_eq_true rfl) ⟨by show _ ≤ 69; omega, by show _ ≤ 414; omega⟩ dL_isRefused_582 ?_
    refine xg_sipush C dL_isRefused_585 (v := (-1232 : Int32)) (by decide) ?_
    refine xg_icmp_ne C 618 dL_isRefused_588 (by decide) (fun h3 => by exact absurd h3 (by decide)) (fun h3 => ?_)
    refine xg_iload C dL_isRefused_591 rfl ?_
    refine xg_bipush C dL_isRefused_593 (v := (10 : Int32)) (by decide) ?_
    refine xg_icmp_lt C 614 dL_isRefused_595 (by decide) (fun h4 => ?_) (fun h4 => ?_)
    · refine xg_iconst C dL_isRefused_614 (v := (1 : Int32)) (by decide) ?_
      refine xg_goto C 619 dL_isRefused_615 (by decide) ?_
      refine xg_istore C dL_isRefused_619 (by decide) (L' := [some (.ref (G.2.2 0 0)), some (.ref (G.2.2 35 0)), some (.int (nI X)), some (.int d3), some (.int n9), some (.int k9), some (.long was), none, some (.int (1 : Int32)), some (.int (nI i))]) rfl ?_
      refine xg_iinc C dL_isRefused_621 rfl (v := (nI (i + 1))) (xinc i) (by decide) (L' := [some (.ref (G.2.2 0 0)), some (.ref (G.2.2 35 0)), some (.int (nI X)), some (.int d3), some (.int n9), some (.int k9), some (.long was), none, some (.int (1 : Int32)), some (.int (nI (i + 1)))]) rfl ?_
      refine xg_goto C 564 dL_isRefused_624 (by decide) ?_
      exact xg_wide K (by omega) (by omega)
    · refine xg_aload_n C dL_isRefused_598 rfl ?_
      refine xg_iload C dL_isRefused_599 rfl ?_
      refine xg_iload C dL_isRefused_601 rfl ?_
      refine xg_iload C dL_isRefused_603 rfl ?_
      refine xg_callSnW C V Ev (as := [.ref (G.2.2 0 0), .int (nI i), .int k9, .int n9]) (fun l hl => kxL_ofB l hl hsz V.1 (nI i) k9 n9 S hn h4) gL_isRefused_L_of rfl hdL_of ⟨by show _ ≤ 11; decide, by show _ ≤ 220; decide⟩ rfl rfl (Nat.le_of_ble_eq_true rfl) ⟨by show _ ≤ 69; omega, by show _ ≤ 414; omega⟩ dL_isRefused_605 ?_
      refine xg_sipush C dL_isRefused_608 (v := (-1232 : Int32)) (by decide) ?_
      refine xg_icmp_ne C 618 dL_isRefused_611 (by decide) (fun h5 => by exact absurd h5 (by decide)) (fun h5 => ?_)
      refine xg_iconst C dL_isRefused_614 (v := (1 : Int32)) (by decide) ?_
      refine xg_goto C 619 dL_isRefused_615 (by decide) ?_
      refine xg_istore C dL_isRefused_619 (by decide) (L' := [some (.ref (G.2.2 0 0)), some (.ref (G.2.2 35 0)), some (.int (nI X)), some (.int d3), some (.int n9), some (.int k9), some (.long was), none, some (.int (1 : Int32)), some (.int (nI i))]) rfl ?_
      refine xg_iinc C dL_isRefused_621 rfl (v := (nI (i + 1))) (xinc i) (by decide) (L' := [some (.ref (G.2.2 0 0)), some (.ref (G.2.2 35 0)), some (.int (nI X)), some (.int d3), some (.int n9), some (.int k9), some (.long was), none, some (.int (1 : Int32)), some (.int (nI (i + 1)))]) rfl ?_
      refine xg_goto C 564 dL_isRefused_624 (by decide) ?_
      exact xg_wide K (by omega) (by omega)
set_option maxRecDepth 100000 in
set_option maxHeartbeats 4000000 in
theorem rfC {X : Nat} {d3 n9 k9 : Int32} {was : Int64} {F : xF} {G : xG} {Sa : Nat → Nat} {sz : Nat} {S : xS} (C : xC F cL_isRefused 10 RL wsL_isRefused { frames := 11, cells := 69, slots := 414, locals := 220 }) (V : xV F xYc G) (Ev : xEv F Sa sz) (hsz : ∀ a : Nat, xA xYc G a → sz ≤ a) (hdn : ∀ r, vp_in r 8 → (S 35 0 (((8 : Int32) * r) + (1 : Int32)) = (0 : Int32) ↔ S 19 0 r = (0 : Int32))) (hha : ∀ r, vp_in r 8 → S 35 0 ((8 : Int32) * r) = (1 : Int32) ∨ S 18 0 r = (0 : Int32)) (K : xg F 69 414 713 [some (.ref (G.2.2 0 0)), some (.ref (G.2.2 35 0)), some (.int (nI X)), some (.int d3), some (.int n9), some (.int k9), some (.long was), none, some (.int (1 : Int32)), some (.int (nI 8))] [] (xP xYc G S)) : xg F 53 318 630 [some (.ref (G.2.2 0 0)), some (.ref (G.2.2 35 0)), some (.int (nI X)), some (.int d3), some (.int n9), some (.int k9), some (.long was), none, some (.int (1 : Int32)), some (.int (0 : Int32))] [] (xP xYc G S) := by
  refine xdown (P := fun i => xg F (53 + 2 * i) (318 + 12 * i) 630 [some (.ref (G.2.2 0 0)), some (.ref (G.2.2 35 0)), some (.int (nI X)), some (.int d3), some (.int n9), some (.int k9), some (.long was), none, some (.int (1 : Int32)), some (.int (nI i))] [] (xP xYc G S)) 8 ?_ (fun i hi K => ?_)
  · refine xg_iload C dL_isRefused_630 rfl ?_
    refine xg_bipush C dL_isRefused_632 (v := (8 : Int32)) (by decide) ?_
    refine xg_icmp_ge C 713 dL_isRefused_634 (by decide) (fun h1 => ?_) (fun h1 => absurd (nI_le (Nat.le_refl _) (by decide)) h1)
    exact K
  · have hi8 : vp_in (nI i) 8 := vp_in_nI hi (by decide)
    refine xg_iload C dL_isRefused_630 rfl ?_
    refine xg_bipush C dL_isRefused_632 (v := (8 : Int32)) (by decide) ?_
    refine xg_icmp_ge C 713 dL_isRefused_634 (by decide) (fun h1 => absurd h1 (nI_ge hi (by decide))) (fun h1 => ?_)
    refine xg_iload C dL_isRefused_637 rfl ?_
    refine xg_if_eq C 713 dL_isRefused_639 (by decide) (fun h2 => by exact absurd h2 (by decide)) (fun h2 => ?_)
    refine xg_aload_n C dL_isRefused_642 rfl ?_
    refine xg_bipush C dL_isRefused_643 (v := (8 : Int32)) (by decide) ?_
    refine xg_iload C dL_isRefused_645 rfl ?_
    refine xg_imul C dL_isRefused_647 ?_
    refine xg_iconst C dL_isRefused_648 (v := (1 : Int32)) (by decide) ?_
    refine xg_iadd C dL_isRefused_649 ?_
    refine xg_iald C V (f := 35) (n := 1) (N := 64) rfl (by decide) (xR_0 (by decide)) (xin_8k (by assumption) (vp_in_iff.mpr ⟨by decide, by decide⟩)) dL_isRefused_650 (v := (S 35 0 (((8 : Int32) * (nI i)) + (1 : Int32)))) rfl ?_
    refine xg_if_ne C 663 dL_isRefused_651 (by decide) (fun h3 => ?_) (fun h3 => ?_)
    · refine xg_aload_n C dL_isRefused_663 rfl ?_
      refine xg_iload C dL_isRefused_664 rfl ?_
      refine xg_callSnW C V Ev (as := [.ref (G.2.2 0 0), .int (nI i)]) (fun l hl => kxL_fallens l hl hsz V.1 (nI i) S hi8 (fun z => h3 ((hdn _ hi8).mpr z))) gL_isRefused_L_fallen rfl hdL_fallen ⟨by show _ ≤ 11; decide, by show _ ≤ 220; decide⟩ rfl rfl (Nat.le_of_ble_eq_true rfl) ⟨by show _ ≤ 69; omega, by show _ ≤ 414; omega⟩ dL_isRefused_666 ?_
      refine xg_sipush C dL_isRefused_669 (v := (-1233 : Int32)) (by decide) ?_
      refine xg_icmp_ne C 704 dL_isRefused_672 (by decide) (fun h4 => by exact absurd h4 (by decide)) (fun h4 => ?_)
      refine xg_aload_n C dL_isRefused_675 rfl ?_
      refine xg_bipush C dL_isRefused_676 (v := (8 : Int32)) (by decide) ?_
      refine xg_iload C dL_isRefused_678 rfl ?_
      refine xg_imul C dL_isRefused_680 ?_
      refine xg_iald C V (f := 35) (n := 1) (N := 64) rfl (by decide) (xR_0 (by decide)) (xin_8 (by assumption)) dL_isRefused_681 (v := (S 35 0 ((8 : Int32) * (nI i)))) rfl ?_
      refine xg_iconst C dL_isRefused_682 (v := (1 : Int32)) (by decide) ?_
      refine xg_icmp_eq C 700 dL_isRefused_683 (by decide) (fun h5 => ?_) (fun h5 => ?_)
      · refine xg_iconst C dL_isRefused_700 (v := (1 : Int32)) (by decide) ?_
        refine xg_goto C 705 dL_isRefused_701 (by decide) ?_
        refine xg_istore C dL_isRefused_705 (by decide) (L' := [some (.ref (G.2.2 0 0)), some (.ref (G.2.2 35 0)), some (.int (nI X)), some (.int d3), some (.int n9), some (.int k9), some (.long was), none, some (.int (1 : Int32)), some (.int (nI i))]) rfl ?_
        refine xg_iinc C dL_isRefused_707 rfl (v := (nI (i + 1))) (xinc i) (by decide) (L' := [some (.ref (G.2.2 0 0)), some (.ref (G.2.2 35 0)), some (.int (nI X)), some (.int d3), some (.int n9), some (.int k9), some (.long was), none, some (.int (1 : Int32)), some (.int (nI (i + 1)))]) rfl ?_
        refine xg_goto C 630 dL_isRefused_710 (by decide) ?_
        exact xg_wide K (by omega) (by omega)
      · refine xg_aload_n C dL_isRefused_686 rfl ?_
        refine xg_iconst C dL_isRefused_687 (v := (3 : Int32)) (by decide) ?_
        refine xg_iload C dL_isRefused_688 rfl ?_
        refine xg_iconst C dL_isRefused_690 (v := (-1 : Int32)) (by decide) ?_
        refine xg_callSnW C V Ev (as := [.ref (G.2.2 0 0), .int (3 : Int32), .int (nI i), .int (-1 : Int32)]) (fun l hl => kxL_act3s l hl hsz V.1 (nI i) (-1 : Int32) S hi8 (by decide) (by decide) rfl ((hha _ hi8).resolve_left h5)) gL_isRefused_L_act rfl hdL_act ⟨by show _ ≤ 11; decide, by show _ ≤ 220; decide⟩ rfl rfl (Nat.le_of_ble_eq_true rfl) ⟨by show _ ≤ 69; omega, by show _ ≤ 414; omega⟩ dL_isRefused_691 ?_
        refine xg_sipush C dL_isRefused_694 (v := (-1233 : Int32)) (by decide) ?_
        refine xg_icmp_ne C 704 dL_isRefused_697 (by decide) (fun h6 => by exact absurd h6 (by decide)) (fun h6 => ?_)
        refine xg_iconst C dL_isRefused_700 (v := (1 : Int32)) (by decide) ?_
        refine xg_goto C 705 dL_isRefused_701 (by decide) ?_
        refine xg_istore C dL_isRefused_705 (by decide) (L' := [some (.ref (G.2.2 0 0)), some (.ref (G.2.2 35 0)), some (.int (nI X)), some (.int d3), some (.int n9), some (.int k9), some (.long was), none, some (.int (1 : Int32)), some (.int (nI i))]) rfl ?_
        refine xg_iinc C dL_isRefused_707 rfl (v := (nI (i + 1))) (xinc i) (by decide) (L' := [some (.ref (G.2.2 0 0)), some (.ref (G.2.2 35 0)), some (.int (nI X)), some (.int d3), some (.int n9), some (.int k9), some (.long was), none, some (.int (1 : Int32)), some (.int (nI (i + 1)))]) rfl ?_
        refine xg_goto C 630 dL_isRefused_710 (by decide) ?_
        exact xg_wide K (by omega) (by omega)
    · refine xg_aload_n C dL_isRefused_654 rfl ?_
      refine xg_iload C dL_isRefused_655 rfl ?_
      refine xg_callSnW C V Ev (as := [.ref (G.2.2 0 0), .int (nI i)]) (fun l hl => kxL_risens l hl hsz V.1 (nI i) S hi8 ((hdn _ hi8).mp h3)) gL_isRefused_L_risen rfl hdL_risen ⟨by show _ ≤ 11; decide, by show _ ≤ 220; decide⟩ rfl rfl (Nat.le_of_ble_eq_true rfl) ⟨by show _ ≤ 69; omega, by show _ ≤ 414; omega⟩ dL_isRefused_657 ?_
      refine xg_goto C 669 dL_isRefused_660 (by decide) ?_
      refine xg_sipush C dL_isRefused_669 (v := (-1233 : Int32)) (by decide) ?_
      refine xg_icmp_ne C 704 dL_isRefused_672 (by decide) (fun h7 => by exact absurd h7 (by decide)) (fun h7 => ?_)
      refine xg_aload_n C dL_isRefused_675 rfl ?_
      refine xg_bipush C dL_isRefused_676 (v := (8 : Int32)) (by decide) ?_
      refine xg_iload C dL_isRefused_678 rfl ?_
      refine xg_imul C dL_isRefused_680 ?_
      refine xg_iald C V (f := 35) (n := 1) (N := 64) rfl (by decide) (xR_0 (by decide)) (xin_8 (by assumption)) dL_isRefused_681 (v := (S 35 0 ((8 : Int32) * (nI i)))) rfl ?_
      refine xg_iconst C dL_isRefused_682 (v := (1 : Int32)) (by decide) ?_
      refine xg_icmp_eq C 700 dL_isRefused_683 (by decide) (fun h8 => ?_) (fun h8 => ?_)
      · refine xg_iconst C dL_isRefused_700 (v := (1 : Int32)) (by decide) ?_
        refine xg_goto C 705 dL_isRefused_701 (by decide) ?_
        refine xg_istore C dL_isRefused_705 (by decide) (L' := [some (.ref (G.2.2 0 0)), some (.ref (G.2.2 35 0)), some (.int (nI X)), some (.int d3), some (.int n9), some (.int k9), some (.long was), none, some (.int (1 : Int32)), some (.int (nI i))]) rfl ?_
        refine xg_iinc C dL_isRefused_707 rfl (v := (nI (i + 1))) (xinc i) (by decide) (L' := [some (.ref (G.2.2 0 0)), some (.ref (G.2.2 35 0)), some (.int (nI X)), some (.int d3), some (.int n9), some (.int k9), some (.long was), none, some (.int (1 : Int32)), some (.int (nI (i + 1)))]) rfl ?_
        refine xg_goto C 630 dL_isRefused_710 (by decide) ?_
        exact xg_wide K (by omega) (by omega)
      · refine xg_aload_n C dL_isRefused_686 rfl ?_
        refine xg_iconst C dL_isRefused_687 (v := (3 : Int32)) (by decide) ?_
        refine xg_iload C dL_isRefused_688 rfl ?_
        refine xg_iconst C dL_isRefused_690 (v := (-1 : Int32)) (by decide) ?_
        refine xg_callSnW C V Ev (as := [.ref (G.2.2 0 0), .int (3 : Int32), .int (nI i), .int (-1 : Int32)]) (fun l hl => kxL_act3s l hl hsz V.1 (nI i) (-1 : Int32) S hi8 (by decide) (by decide) rfl ((hha _ hi8).resolve_left h8)) gL_isRefused_L_act rfl hdL_act ⟨by show _ ≤ 11; decide, by show _ ≤ 220; decide⟩ rfl rfl (Nat.le_of_ble_eq_true rfl) ⟨by show _ ≤ 69; omega, by show _ ≤ 414; omega⟩ dL_isRefused_691 ?_
        refine xg_sipush C dL_isRefused_694 (v := (-1233 : Int32)) (by decide) ?_
        refine xg_icmp_ne C 704 dL_isRefused_697 (by decide) (fun h9 => by exact absurd h9 (by decide)) (fun h9 => ?_)
        refine xg_iconst C dL_isRefused_700 (v := (1 : Int32)) (by decide) ?_
        refine xg_goto C 705 dL_isRefused_701 (by decide) ?_
        refine xg_istore C dL_isRefused_705 (by decide) (L' := [some (.ref (G.2.2 0 0)), some (.ref (G.2.2 35 0)), some (.int (nI X)), some (.int d3), some (.int n9), some (.int k9), some (.long was), none, some (.int (1 : Int32)), some (.int (nI i))]) rfl ?_
        refine xg_iinc C dL_isRefused_707 rfl (v := (nI (i + 1))) (xinc i) (by decide) (L' := [some (.ref (G.2.2 0 0)), some (.ref (G.2.2 35 0)), some (.int (nI X)), some (.int d3), some (.int n9), some (.int k9), some (.long was), none, some (.int (1 : Int32)), some (.int (nI (i + 1)))]) rfl ?_
        refine xg_goto C 630 dL_isRefused_710 (by decide) ?_
        exact xg_wide K (by omega) (by omega)
set_option maxRecDepth 100000 in
set_option maxHeartbeats 4000000 in
theorem rfD {X : Nat} {d3 n9 k9 : Int32} {F : xF} {G : xG} {Sa : Nat → Nat} {sz : Nat} {S : xS} (C : xC F cL_isRefused 10 RL wsL_isRefused { frames := 11, cells := 69, slots := 414, locals := 220 }) (V : xV F xYc G) (Ev : xEv F Sa sz) (hsz : ∀ a : Nat, xA xYc G a → sz ≤ a) (hap : xAp xYc G) (E : ∀ pc L, decode cL_isRefused pc = .ok (.ireturn, 1) → xg F 69 414 pc L [.int (1 : Int32)] (xP xYc G S)) : xg F 69 414 713 [some (.ref (G.2.2 0 0)), some (.ref (G.2.2 35 0)), some (.int (nI X)), some (.int d3), some (.int n9), some (.int k9), some (.long (fL_all S)), none, some (.int (1 : Int32)), some (.int (nI 8))] [] (xP xYc G S) := by
  refine xg_iload C dL_isRefused_713 rfl ?_
  refine xg_if_eq C 732 dL_isRefused_715 (by decide) (fun h1 => by exact absurd h1 (by decide)) (fun h1 => ?_)
  refine xg_aload_n C dL_isRefused_718 rfl ?_
  refine xg_callSl C V (as := [.ref (G.2.2 0 0)]) (r := (fL_all S)) (fun l => kL_all l hap  S) gL_isRefused_L_all rfl hdL_all ⟨by decide, by decide⟩ rfl rfl (Nat.le_of_ble_eq_true rfl) ⟨Nat.le_refl _, Nat.le_refl _⟩ dL_isRefused_719 ?_
  refine xg_lload C dL_isRefused_722 rfl ?_
  refine xg_lcmp C dL_isRefused_724 ?_
  refine xg_if_ne C 732 dL_isRefused_725 (by decide) (fun h2 => absurd (lg_cmp_self _) h2) (fun h2 => ?_)
  refine xg_iconst C dL_isRefused_728 (v := (1 : Int32)) (by decide) ?_
  refine xg_goto C 733 dL_isRefused_729 (by decide) ?_
  exact xret_n E dL_isRefused_733 rfl rfl (Nat.le_refl _) (Nat.le_refl _)
theorem hdL_isRefused : yL_isRefused.cls ≠ "java/lang/invoke/MethodHandle" ∧ yL_isRefused.cls ≠ "java/lang/invoke/VarHandle" ∧ (parseMethodDescriptor yL_isRefused.desc).map (fun d => d.parameters.length) = some 3 := by decide +kernel
theorem kL_isRefused (l : Launch) (hlt : l.stackTraces = false) {G : xG} {Sa : Nat → Nat} {sz : Nat} (hsz : ∀ a : Nat, xA xYc G a → sz ≤ a) (hap : xAp xYc G) (X : Nat) (S : xS) (hX : X < 2147483648) (hdn : ∀ r, vp_in r 8 → (S 35 0 (((8 : Int32) * r) + (1 : Int32)) = (0 : Int32) ↔ S 19 0 r = (0 : Int32))) (hha : ∀ r, vp_in r 8 → S 35 0 ((8 : Int32) * r) = (1 : Int32) ∨ S 18 0 r = (0 : Int32)) : xMn l xYc G Sa sz yL_isRefused wsL_isRefused 11 69 414 220 [.ref (G.2.2 0 0), .ref (G.2.2 35 0), .int (nI X)] S S (1 : Int32) := by
  refine xMn_of (cc := cL_isRefused) (maxL := 10) (ty := .boolean) (own := RL) hlt hsz [some (.ref (G.2.2 0 0)), some (.ref (G.2.2 35 0)), some (.int (nI X)), none, none, none, none, none, none, none] pnL rfl rfl rfl (xcat1 rfl) (Nat.le_of_ble_eq_true rfl) rfl hap (fun F C V Ev E => ?_)
  have hr : X % 30 < 30 := Nat.mod_lt _ (by decide)
  by_cases hpar : ((nI X) - (nI X) / (2 : Int32) * (2 : Int32)) = (0 : Int32)
  · refine rfA_low C V Ev hsz hpar ?_ (rqk hX) ?_ ?_ ?_ (rfB C V Ev hsz ?_ (rfC C V Ev hsz hdn hha (rfD C V Ev hsz hap E)))
    · rw [rq hX]; exact rnl hr
    · rw [rq hX]; exact rl1 hr
    · rw [rq hX]; exact rl0 hr
    · rw [rq hX]; exact rlm hr
    · rw [rq hX]; exact rnl hr
  · refine rfA_high C V Ev hsz hpar ?_ (rqk hX) ?_ ?_ ?_ (rfB C V Ev hsz ?_ (rfC C V Ev hsz hdn hha (rfD C V Ev hsz hap E)))
    · rw [rq hX]; exact rnh hr
    · rw [rq hX]; exact rl1 hr
    · rw [rq hX]; exact rl0 hr
    · rw [rq hX]; exact rlm hr
    · rw [rq hX]; exact rnh hr
