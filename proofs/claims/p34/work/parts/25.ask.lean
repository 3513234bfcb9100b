/-! 25: what the law asks after a tick, and of the members (plan.py) -/
theorem xin_nn {r : Int32} (h1 : ¬ r < (0 : Int32)) (h2 : ¬ (8 : Int32) ≤ r) : vp_in r 8 := by
  rw [xti]
  rw [Int32.lt_iff_toInt_lt, xt0] at h1
  rw [Int32.le_iff_toInt_le, xt8] at h2
  omega
theorem x8k {r c : Int32} (h : vp_in r 8) (h2 : vp_in c 8) : ((8 : Int32) * r + c).toInt = 8 * r.toInt + c.toInt := by
  rw [xti] at h h2
  have e : ((8 : Int32) * r).toInt = 8 * r.toInt := by rw [xtmul (by rw [xt8]; omega) (by rw [xt8]; omega), xt8]
  rw [xtadd (by rw [e]; omega) (by rw [e]; omega), e]
theorem xin_8k {r c : Int32} (h : vp_in r 8) (h2 : vp_in c 8) : vp_in ((8 : Int32) * r + c) 64 := by
  rw [vp_in_iff, x8k h h2]
  rw [xti] at h h2
  omega
theorem xfold_I {σ : Type} (P : Nat → σ → Prop) {b : Int32 → σ → σ} : ∀ (n : Nat) (x : σ), P 0 x → (∀ i, i < n → ∀ x, P i x → P (i + 1) (b (nI i) x)) → P n (xfold b n x)
  | 0, _, h, _ => h
  | n + 1, x, h, hs => hs n (by omega) _ (xfold_I P n x h (fun i hi => hs i (by omega)))
theorem xin_8 {r : Int32} (h : vp_in r 8) : vp_in ((8 : Int32) * r) 64 := by
  have := xin_8k h (c := 0) (vp_in_iff.mpr ⟨by decide, by decide⟩)
  rwa [Int32.add_zero] at this
def bL_all_104 (k : Int32) (S : xS) (i : Int32) (y : Int64) : Int64 :=
  ((((((31 : Int64) * y) + ((fX3_version k i S)).toInt64) + ((7 : Int64) * ((fX3_beat k i S)).toInt64)) + ((3 : Int64) * ((fX3_status k i S)).toInt64)) + ((257 : Int64) * ((fX3_believed k i S)).toInt64))
def bL_all_38  (S : xS) (i : Int32) (x : Int64) : Int64 :=
  (xfold (bL_all_104 i S) 8 (((((((1000003 : Int64) * x) + ((fX3_volume i S)).toInt64) + ((31 : Int64) * ((fX3_opening i S)).toInt64)) + ((961 : Int64) * ((fX3_safety i S)).toInt64)) + ((29791 : Int64) * ((fX3_agree i S)).toInt64)) + ((65537 : Int64) * ((fX3_partner i S)).toInt64)))
def fL_all  (S : xS) : Int64 :=
  (xfold (bL_all_38 S) 8 (((((fX3_time S)).toInt64 + ((31 : Int64) * ((fX3_vain S)).toInt64)) + ((961 : Int64) * ((fX3_unnoticed S)).toInt64)) + ((29791 : Int64) * ((fX3_mistaken S)).toInt64)))
theorem hdL_all : yL_all.cls ≠ "java/lang/invoke/MethodHandle" ∧ yL_all.cls ≠ "java/lang/invoke/VarHandle" ∧ (parseMethodDescriptor yL_all.desc).map (fun d => d.parameters.length) = some 1 := by decide +kernel
set_option maxRecDepth 100000 in
set_option maxHeartbeats 4000000 in
theorem kL_all (l : Launch) {G : xG} (hap : xAp xYc G)  (S : xS)  : xMl l xYc G yL_all wsL_all 3 70 [.ref (G.2.2 0 0)] S S (fL_all S) := by
  refine xMl_of (cc := cL_all) (maxL := 5) (own := RL) [some (.ref (G.2.2 0 0)), none, none, none, none] pnL rfl rfl (xcat1 rfl) (Nat.le_of_ble_eq_true rfl) rfl hap (fun F C V E => ?_)
  refine xg_aload_n C dL_all_0 rfl ?_
  refine xg_callVi C V (f := 0) (As := []) (r := (fX3_time S)) (fun l => kX3_time l hap  S) gL_all_X3_time rfl hdX3_time ⟨by decide, by decide⟩ rfl rfl rfl rfl rfl (Nat.le_of_ble_eq_true rfl) ⟨Nat.zero_le _, Nat.zero_le _⟩ dL_all_1 ?_
  refine xg_i2l C dL_all_4 ?_
  refine xg_ldc2 C (v := (31 : Int64)) (List.mem_of_getElem? (i := 1) rfl) dL_all_5 ?_
  refine xg_aload_n C dL_all_8 rfl ?_
  refine xg_callVi C V (f := 0) (As := []) (r := (fX3_vain S)) (fun l => kX3_vain l hap  S) gL_all_X3_vain rfl hdX3_vain ⟨by decide, by decide⟩ rfl rfl rfl rfl rfl (Nat.le_of_ble_eq_true rfl) ⟨Nat.zero_le _, Nat.zero_le _⟩ dL_all_9 ?_
  refine xg_i2l C dL_all_12 ?_
  refine xg_lmul C dL_all_13 ?_
  refine xg_ladd C dL_all_14 ?_
  refine xg_ldc2 C (v := (961 : Int64)) (List.mem_of_getElem? (i := 2) rfl) dL_all_15 ?_
  refine xg_aload_n C dL_all_18 rfl ?_
  refine xg_callVi C V (f := 0) (As := []) (r := (fX3_unnoticed S)) (fun l => kX3_unnoticed l hap  S) gL_all_X3_unnoticed rfl hdX3_unnoticed ⟨by decide, by decide⟩ rfl rfl rfl rfl rfl (Nat.le_of_ble_eq_true rfl) ⟨Nat.zero_le _, Nat.zero_le _⟩ dL_all_19 ?_
  refine xg_i2l C dL_all_22 ?_
  refine xg_lmul C dL_all_23 ?_
  refine xg_ladd C dL_all_24 ?_
  refine xg_ldc2 C (v := (29791 : Int64)) (List.mem_of_getElem? (i := 3) rfl) dL_all_25 ?_
  refine xg_aload_n C dL_all_28 rfl ?_
  refine xg_callVi C V (f := 0) (As := []) (r := (fX3_mistaken S)) (fun l => kX3_mistaken l hap  S) gL_all_X3_mistaken rfl hdX3_mistaken ⟨by decide, by decide⟩ rfl rfl rfl rfl rfl (Nat.le_of_ble_eq_true rfl) ⟨Nat.zero_le _, Nat.zero_le _⟩ dL_all_29 ?_
  refine xg_i2l C dL_all_32 ?_
  refine xg_lmul C dL_all_33 ?_
  refine xg_ladd C dL_all_34 ?_
  refine xg_lstore_n C dL_all_35 (by decide) (L' := [some (.ref (G.2.2 0 0)), some (.long (((((fX3_time S)).toInt64 + ((31 : Int64) * ((fX3_vain S)).toInt64)) + ((961 : Int64) * ((fX3_unnoticed S)).toInt64)) + ((29791 : Int64) * ((fX3_mistaken S)).toInt64))), none, none, none]) rfl rfl ?_
  refine xg_iconst C dL_all_36 (v := (0 : Int32)) (by decide) ?_
  refine xg_istore_n C dL_all_37 (by decide) (L' := [some (.ref (G.2.2 0 0)), some (.long (((((fX3_time S)).toInt64 + ((31 : Int64) * ((fX3_vain S)).toInt64)) + ((961 : Int64) * ((fX3_unnoticed S)).toInt64)) + ((29791 : Int64) * ((fX3_mistaken S)).toInt64))), none, some (.int (0 : Int32)), none]) rfl ?_
  refine xloop (fun (ii : Int32) (x : Int64) => xg F 0 0 38 [some (.ref (G.2.2 0 0)), some (.long x), none, some (.int ii), none] [] (xP xYc G S)) (bL_all_38 S) 8 (((((fX3_time S)).toInt64 + ((31 : Int64) * ((fX3_vain S)).toInt64)) + ((961 : Int64) * ((fX3_unnoticed S)).toInt64)) + ((29791 : Int64) * ((fX3_mistaken S)).toInt64)) (fun i hi x K => ?_) ?_
  · have hi8 : vp_in (nI i) 8 := vp_in_nI hi (by decide)
    show xg F 0 0 38 [some (.ref (G.2.2 0 0)), some (.long x), none, some (.int (nI i)), none] [] (xP xYc G S)
    refine xg_iload_n C dL_all_38 rfl ?_
    refine xg_bipush C dL_all_39 (v := (8 : Int32)) (by decide) ?_
    refine xg_icmp_ge C 177 dL_all_41 (by decide) (fun h1 => absurd h1 (nI_ge hi (by decide))) (fun h1 => ?_)
    refine xg_ldc2 C (v := (1000003 : Int64)) (List.mem_of_getElem? (i := 4) rfl) dL_all_44 ?_
    refine xg_lload_n C dL_all_47 rfl ?_
    refine xg_lmul C dL_all_48 ?_
    refine xg_aload_n C dL_all_49 rfl ?_
    refine xg_iload_n C dL_all_50 rfl ?_
    refine xg_callVi C V (f := 0) (As := [.int (nI i)]) (r := (fX3_volume (nI i) S)) (fun l => kX3_volume l hap (nI i) S (by assumption)) gL_all_X3_volume rfl hdX3_volume ⟨by decide, by decide⟩ rfl rfl rfl rfl rfl (Nat.le_of_ble_eq_true rfl) ⟨Nat.zero_le _, Nat.zero_le _⟩ dL_all_51 ?_
    refine xg_i2l C dL_all_54 ?_
    refine xg_ladd C dL_all_55 ?_
    refine xg_ldc2 C (v := (31 : Int64)) (List.mem_of_getElem? (i := 1) rfl) dL_all_56 ?_
    refine xg_aload_n C dL_all_59 rfl ?_
    refine xg_iload_n C dL_all_60 rfl ?_
    refine xg_callVi C V (f := 0) (As := [.int (nI i)]) (r := (fX3_opening (nI i) S)) (fun l => kX3_opening l hap (nI i) S (by assumption)) gL_all_X3_opening rfl hdX3_opening ⟨by decide, by decide⟩ rfl rfl rfl rfl rfl (Nat.le_of_ble_eq_true rfl) ⟨Nat.zero_le _, Nat.zero_le _⟩ dL_all_61 ?_
    refine xg_i2l C dL_all_64 ?_
    refine xg_lmul C dL_all_65 ?_
    refine xg_ladd C dL_all_66 ?_
    refine xg_ldc2 C (v := (961 : Int64)) (List.mem_of_getElem? (i := 2) rfl) dL_all_67 ?_
    refine xg_aload_n C dL_all_70 rfl ?_
    refine xg_iload_n C dL_all_71 rfl ?_
    refine xg_callVi C V (f := 0) (As := [.int (nI i)]) (r := (fX3_safety (nI i) S)) (fun l => kX3_safety l hap (nI i) S (by assumption)) gL_all_X3_safety rfl hdX3_safety ⟨by decide, by decide⟩ rfl rfl rfl rfl rfl (Nat.le_of_ble_eq_true rfl) ⟨Nat.zero_le _, Nat.zero_le _⟩ dL_all_72 ?_
    refine xg_i2l C dL_all_75 ?_
    refine xg_lmul C dL_all_76 ?_
    refine xg_ladd C dL_all_77 ?_
    refine xg_ldc2 C (v := (29791 : Int64)) (List.mem_of_getElem? (i := 3) rfl) dL_all_78 ?_
    refine xg_aload_n C dL_all_81 rfl ?_
    refine xg_iload_n C dL_all_82 rfl ?_
    refine xg_callVi C V (f := 0) (As := [.int (nI i)]) (r := (fX3_agree (nI i) S)) (fun l => kX3_agree l hap (nI i) S (by assumption)) gL_all_X3_agree rfl hdX3_agree ⟨by decide, by decide⟩ rfl rfl rfl rfl rfl (Nat.le_of_ble_eq_true rfl) ⟨Nat.zero_le _, Nat.zero_le _⟩ dL_all_83 ?_
    refine xg_i2l C dL_all_86 ?_
    refine xg_lmul C dL_all_87 ?_
    refine xg_ladd C dL_all_88 ?_
    refine xg_ldc2 C (v := (65537 : Int64)) (List.mem_of_getElem? (i := 5) rfl) dL_all_89 ?_
    refine xg_aload_n C dL_all_92 rfl ?_
    refine xg_iload_n C dL_all_93 rfl ?_
    refine xg_callVi C V (f := 0) (As := [.int (nI i)]) (r := (fX3_partner (nI i) S)) (fun l => kX3_partner l hap (nI i) S (by assumption)) gL_all_X3_partner rfl hdX3_partner ⟨by decide, by decide⟩ rfl rfl rfl rfl rfl (Nat.le_of_ble_eq_true rfl) ⟨Nat.zero_le _, Nat.zero_le _⟩ dL_all_94 ?_
    refine xg_i2l C dL_all_97 ?_
    refine xg_lmul C dL_all_98 ?_
    refine xg_ladd C dL_all_99 ?_
    refine xg_lstore_n C dL_all_100 (by decide) (L' := [some (.ref (G.2.2 0 0)), some (.long (((((((1000003 : Int64) * x) + ((fX3_volume (nI i) S)).toInt64) + ((31 : Int64) * ((fX3_opening (nI i) S)).toInt64)) + ((961 : Int64) * ((fX3_safety (nI i) S)).toInt64)) + ((29791 : Int64) * ((fX3_agree (nI i) S)).toInt64)) + ((65537 : Int64) * ((fX3_partner (nI i) S)).toInt64))), none, some (.int (nI i)), none]) rfl rfl ?_
    refine xg_iconst C dL_all_101 (v := (0 : Int32)) (by decide) ?_
    refine xg_istore C dL_all_102 (by decide) (L' := [some (.ref (G.2.2 0 0)), some (.long (((((((1000003 : Int64) * x) + ((fX3_volume (nI i) S)).toInt64) + ((31 : Int64) * ((fX3_opening (nI i) S)).toInt64)) + ((961 : Int64) * ((fX3_safety (nI i) S)).toInt64)) + ((29791 : Int64) * ((fX3_agree (nI i) S)).toInt64)) + ((65537 : Int64) * ((fX3_partner (nI i) S)).toInt64))), none, some (.int (nI i)), some (.int (0 : Int32))]) rfl ?_
    refine xloop (fun (ii : Int32) (y : Int64) => xg F 0 0 104 [some (.ref (G.2.2 0 0)), some (.long y), none, some (.int (nI i)), some (.int ii)] [] (xP xYc G S)) (bL_all_104 (nI i) S) 8 (((((((1000003 : Int64) * x) + ((fX3_volume (nI i) S)).toInt64) + ((31 : Int64) * ((fX3_opening (nI i) S)).toInt64)) + ((961 : Int64) * ((fX3_safety (nI i) S)).toInt64)) + ((29791 : Int64) * ((fX3_agree (nI i) S)).toInt64)) + ((65537 : Int64) * ((fX3_partner (nI i) S)).toInt64)) (fun j hi y K => ?_) ?_
    · have hi8 : vp_in (nI j) 8 := vp_in_nI hi (by decide)
      show xg F 0 0 104 [some (.ref (G.2.2 0 0)), some (.long y), none, some (.int (nI i)), some (.int (nI j))] [] (xP xYc G S)
      refine xg_iload C dL_all_104 rfl ?_
      refine xg_bipush C dL_all_106 (v := (8 : Int32)) (by decide) ?_
      refine xg_icmp_ge C 171 dL_all_108 (by decide) (fun h2 => absurd h2 (nI_ge hi (by decide))) (fun h2 => ?_)
      refine xg_ldc2 C (v := (31 : Int64)) (List.mem_of_getElem? (i := 1) rfl) dL_all_111 ?_
      refine xg_lload_n C dL_all_114 rfl ?_
      refine xg_lmul C dL_all_115 ?_
      refine xg_aload_n C dL_all_116 rfl ?_
      refine xg_iload_n C dL_all_117 rfl ?_
      refine xg_iload C dL_all_118 rfl ?_
      refine xg_callVi C V (f := 0) (As := [.int (nI i), .int (nI j)]) (r := (fX3_version (nI i) (nI j) S)) (fun l => kX3_version l hap (nI i) (nI j) S (by assumption) (by assumption)) gL_all_X3_version rfl hdX3_version ⟨by decide, by decide⟩ rfl rfl rfl rfl rfl (Nat.le_of_ble_eq_true rfl) ⟨Nat.zero_le _, Nat.zero_le _⟩ dL_all_120 ?_
      refine xg_i2l C dL_all_123 ?_
      refine xg_ladd C dL_all_124 ?_
      refine xg_ldc2 C (v := (7 : Int64)) (List.mem_of_getElem? (i := 6) rfl) dL_all_125 ?_
      refine xg_aload_n C dL_all_128 rfl ?_
      refine xg_iload_n C dL_all_129 rfl ?_
      refine xg_iload C dL_all_130 rfl ?_
      refine xg_callVi C V (f := 0) (As := [.int (nI i), .int (nI j)]) (r := (fX3_beat (nI i) (nI j) S)) (fun l => kX3_beat l hap (nI i) (nI j) S (by assumption) (by assumption)) gL_all_X3_beat rfl hdX3_beat ⟨by decide, by decide⟩ rfl rfl rfl rfl rfl (Nat.le_of_ble_eq_true rfl) ⟨Nat.zero_le _, Nat.zero_le _⟩ dL_all_132 ?_
      refine xg_i2l C dL_all_135 ?_
      refine xg_lmul C dL_all_136 ?_
      refine xg_ladd C dL_all_137 ?_
      refine xg_ldc2 C (v := (3 : Int64)) (List.mem_of_getElem? (i := 7) rfl) dL_all_138 ?_
      refine xg_aload_n C dL_all_141 rfl ?_
      refine xg_iload_n C dL_all_142 rfl ?_
      refine xg_iload C dL_all_143 rfl ?_
      refine xg_callVi C V (f := 0) (As := [.int (nI i), .int (nI j)]) (r := (fX3_status (nI i) (nI j) S)) (fun l => kX3_status l hap (nI i) (nI j) S (by assumption) (by assumption)) gL_all_X3_status rfl hdX3_status ⟨by decide, by decide⟩ rfl rfl rfl rfl rfl (Nat.le_of_ble_eq_true rfl) ⟨Nat.zero_le _, Nat.zero_le _⟩ dL_all_145 ?_
      refine xg_i2l C dL_all_148 ?_
      refine xg_lmul C dL_all_149 ?_
      refine xg_ladd C dL_all_150 ?_
      refine xg_ldc2 C (v := (257 : Int64)) (List.mem_of_getElem? (i := 8) rfl) dL_all_151 ?_
      refine xg_aload_n C dL_all_154 rfl ?_
      refine xg_iload_n C dL_all_155 rfl ?_
      refine xg_iload C dL_all_156 rfl ?_
      refine xg_callVi C V (f := 0) (As := [.int (nI i), .int (nI j)]) (r := (fX3_believed (nI i) (nI j) S)) (fun l => kX3_believed l hap (nI i) (nI j) S (by assumption) (by assumption)) gL_all_X3_believed rfl hdX3_believed ⟨by decide, by decide⟩ rfl rfl rfl rfl rfl (Nat.le_of_ble_eq_true rfl) ⟨Nat.zero_le _, Nat.zero_le _⟩ dL_all_158 ?_
      refine xg_i2l C dL_all_161 ?_
      refine xg_lmul C dL_all_162 ?_
      refine xg_ladd C dL_all_163 ?_
      refine xg_lstore_n C dL_all_164 (by decide) (L' := [some (.ref (G.2.2 0 0)), some (.long ((((((31 : Int64) * y) + ((fX3_version (nI i) (nI j) S)).toInt64) + ((7 : Int64) * ((fX3_beat (nI i) (nI j) S)).toInt64)) + ((3 : Int64) * ((fX3_status (nI i) (nI j) S)).toInt64)) + ((257 : Int64) * ((fX3_believed (nI i) (nI j) S)).toInt64))), none, some (.int (nI i)), some (.int (nI j))]) rfl rfl ?_
      refine xg_iinc C dL_all_165 rfl (v := (nI (j + 1))) (xinc j) (by decide) (L' := [some (.ref (G.2.2 0 0)), some (.long ((((((31 : Int64) * y) + ((fX3_version (nI i) (nI j) S)).toInt64) + ((7 : Int64) * ((fX3_beat (nI i) (nI j) S)).toInt64)) + ((3 : Int64) * ((fX3_status (nI i) (nI j) S)).toInt64)) + ((257 : Int64) * ((fX3_believed (nI i) (nI j) S)).toInt64))), none, some (.int (nI i)), some (.int (nI (j + 1)))]) rfl ?_
      refine xg_goto C 104 dL_all_168 (by decide) ?_
      have e : (bL_all_104 (nI i) S) (nI j) y = ((((((31 : Int64) * y) + ((fX3_version (nI i) (nI j) S)).toInt64) + ((7 : Int64) * ((fX3_beat (nI i) (nI j) S)).toInt64)) + ((3 : Int64) * ((fX3_status (nI i) (nI j) S)).toInt64)) + ((257 : Int64) * ((fX3_believed (nI i) (nI j) S)).toInt64)) := rfl
      rw [e] at K
      exact xg_le K ⟨rfl, rfl, rfl, rfl, trivial⟩
    · show xg F 0 0 104 [some (.ref (G.2.2 0 0)), some (.long (xfold (bL_all_104 (nI i) S) 8 (((((((1000003 : Int64) * x) + ((fX3_volume (nI i) S)).toInt64) + ((31 : Int64) * ((fX3_opening (nI i) S)).toInt64)) + ((961 : Int64) * ((fX3_safety (nI i) S)).toInt64)) + ((29791 : Int64) * ((fX3_agree (nI i) S)).toInt64)) + ((65537 : Int64) * ((fX3_partner (nI i) S)).toInt64)))), none, some (.int (nI i)), some (.int (nI 8))] [] (xP xYc G S)
      refine xg_iload C dL_all_104 rfl ?_
      refine xg_bipush C dL_all_106 (v := (8 : Int32)) (by decide) ?_
      refine xg_icmp_ge C 171 dL_all_108 (by decide) (fun h3 => ?_) (fun h3 => absurd (nI_le (Nat.le_refl _) (by decide)) h3)
      refine xg_iinc C dL_all_171 rfl (v := (nI (i + 1))) (xinc i) (by decide) (L' := [some (.ref (G.2.2 0 0)), some (.long (xfold (bL_all_104 (nI i) S) 8 (((((((1000003 : Int64) * x) + ((fX3_volume (nI i) S)).toInt64) + ((31 : Int64) * ((fX3_opening (nI i) S)).toInt64)) + ((961 : Int64) * ((fX3_safety (nI i) S)).toInt64)) + ((29791 : Int64) * ((fX3_agree (nI i) S)).toInt64)) + ((65537 : Int64) * ((fX3_partner (nI i) S)).toInt64)))), none, some (.int (nI (i + 1))), some (.int (nI 8))]) rfl ?_
      refine xg_goto C 38 dL_all_174 (by decide) ?_
      have e : (bL_all_38 S) (nI i) x = (xfold (bL_all_104 (nI i) S) 8 (((((((1000003 : Int64) * x) + ((fX3_volume (nI i) S)).toInt64) + ((31 : Int64) * ((fX3_opening (nI i) S)).toInt64)) + ((961 : Int64) * ((fX3_safety (nI i) S)).toInt64)) + ((29791 : Int64) * ((fX3_agree (nI i) S)).toInt64)) + ((65537 : Int64) * ((fX3_partner (nI i) S)).toInt64))) := rfl
      rw [e] at K
      exact xg_le K ⟨rfl, rfl, rfl, trivial⟩
  · show xg F 0 0 38 [some (.ref (G.2.2 0 0)), some (.long (xfold (bL_all_38 S) 8 (((((fX3_time S)).toInt64 + ((31 : Int64) * ((fX3_vain S)).toInt64)) + ((961 : Int64) * ((fX3_unnoticed S)).toInt64)) + ((29791 : Int64) * ((fX3_mistaken S)).toInt64)))), none, some (.int (nI 8)), none] [] (xP xYc G S)
    refine xg_iload_n C dL_all_38 rfl ?_
    refine xg_bipush C dL_all_39 (v := (8 : Int32)) (by decide) ?_
    refine xg_icmp_ge C 177 dL_all_41 (by decide) (fun h4 => ?_) (fun h4 => absurd (nI_le (Nat.le_refl _) (by decide)) h4)
    refine xg_lload_n C dL_all_177 rfl ?_
    exact xret_l E dL_all_178 (rfl) rfl
def bL_keeps_65 (k : Int32) (i : Int32) (y : xS) : xS :=
  (xu y 36 0 (((8 : Int32) * k) + i) (fX3_beat k i y))
def bL_keeps_2  (i : Int32) (x : xS) : xS :=
  (xfold (bL_keeps_65 i) 8 (xu (xu (xu (xu x 35 0 (((8 : Int32) * i) + (4 : Int32)) (fX3_volume i x)) 35 0 (((8 : Int32) * i) + (5 : Int32)) (fX3_flowed i (xu x 35 0 (((8 : Int32) * i) + (4 : Int32)) (fX3_volume i x)))) 35 0 (((8 : Int32) * i) + (6 : Int32)) (fX3_spilled i (xu (xu x 35 0 (((8 : Int32) * i) + (4 : Int32)) (fX3_volume i x)) 35 0 (((8 : Int32) * i) + (5 : Int32)) (fX3_flowed i (xu x 35 0 (((8 : Int32) * i) + (4 : Int32)) (fX3_volume i x)))))) 35 0 (((8 : Int32) * i) + (7 : Int32)) (fX3_opening i (xu (xu (xu x 35 0 (((8 : Int32) * i) + (4 : Int32)) (fX3_volume i x)) 35 0 (((8 : Int32) * i) + (5 : Int32)) (fX3_flowed i (xu x 35 0 (((8 : Int32) * i) + (4 : Int32)) (fX3_volume i x)))) 35 0 (((8 : Int32) * i) + (6 : Int32)) (fX3_spilled i (xu (xu x 35 0 (((8 : Int32) * i) + (4 : Int32)) (fX3_volume i x)) 35 0 (((8 : Int32) * i) + (5 : Int32)) (fX3_flowed i (xu x 35 0 (((8 : Int32) * i) + (4 : Int32)) (fX3_volume i x)))))))))
def fL_keeps  (S : xS) : xS :=
  (xfold bL_keeps_2 8 S)
theorem hdL_keeps : yL_keeps.cls ≠ "java/lang/invoke/MethodHandle" ∧ yL_keeps.cls ≠ "java/lang/invoke/VarHandle" ∧ (parseMethodDescriptor yL_keeps.desc).map (fun d => d.parameters.length) = some 3 := by decide +kernel
set_option maxRecDepth 100000 in
set_option maxHeartbeats 4000000 in
theorem kL_keeps (l : Launch) {G : xG} (hap : xAp xYc G)  (S : xS)  : xMv l xYc G yL_keeps wsL_keeps 3 64 [.ref (G.2.2 0 0), .ref (G.2.2 35 0), .ref (G.2.2 36 0)] S (fL_keeps S) := by
  refine xMv_of (cc := cL_keeps) (maxL := 5) (own := RL) [some (.ref (G.2.2 0 0)), some (.ref (G.2.2 35 0)), some (.ref (G.2.2 36 0)), none, none] pnL rfl rfl (xcat1 rfl) (Nat.le_of_ble_eq_true rfl) rfl hap (fun F C V E => ?_)
  refine xg_iconst C dL_keeps_0 (v := (0 : Int32)) (by decide) ?_
  refine xg_istore_n C dL_keeps_1 (by decide) (L' := [some (.ref (G.2.2 0 0)), some (.ref (G.2.2 35 0)), some (.ref (G.2.2 36 0)), some (.int (0 : Int32)), none]) rfl ?_
  refine xloop (fun (ii : Int32) (x : xS) => xg F 0 0 2 [some (.ref (G.2.2 0 0)), some (.ref (G.2.2 35 0)), some (.ref (G.2.2 36 0)), some (.int ii), none] [] (xP xYc G x)) bL_keeps_2 8 S (fun i hi x K => ?_) ?_
  · have hi8 : vp_in (nI i) 8 := vp_in_nI hi (by decide)
    show xg F 0 0 2 [some (.ref (G.2.2 0 0)), some (.ref (G.2.2 35 0)), some (.ref (G.2.2 36 0)), some (.int (nI i)), none] [] (xP xYc G x)
    refine xg_iload_n C dL_keeps_2 rfl ?_
    refine xg_bipush C dL_keeps_3 (v := (8 : Int32)) (by decide) ?_
    refine xg_icmp_ge C 100 dL_keeps_5 (by decide) (fun h1 => absurd h1 (nI_ge hi (by decide))) (fun h1 => ?_)
    refine xg_aload_n C dL_keeps_8 rfl ?_
    refine xg_bipush C dL_keeps_9 (v := (8 : Int32)) (by decide) ?_
    refine xg_iload_n C dL_keeps_11 rfl ?_
    refine xg_imul C dL_keeps_12 ?_
    refine xg_iconst C dL_keeps_13 (v := (4 : Int32)) (by decide) ?_
    refine xg_iadd C dL_keeps_14 ?_
    refine xg_aload_n C dL_keeps_15 rfl ?_
    refine xg_iload_n C dL_keeps_16 rfl ?_
    refine xg_callVi C V (f := 0) (As := [.int (nI i)]) (r := (fX3_volume (nI i) x)) (fun l => kX3_volume l hap (nI i) x (by assumption)) gL_keeps_X3_volume rfl hdX3_volume ⟨by decide, by decide⟩ rfl rfl rfl rfl rfl (Nat.le_of_ble_eq_true rfl) ⟨Nat.zero_le _, Nat.zero_le _⟩ dL_keeps_17 ?_
    refine xg_iast C V (f := 35) (n := 1) (N := 64) rfl (by decide) (xR_0 (by decide)) (xin_8k (by assumption) (vp_in_iff.mpr ⟨by decide, by decide⟩)) dL_keeps_20 ?_
    refine xg_aload_n C dL_keeps_21 rfl ?_
    refine xg_bipush C dL_keeps_22 (v := (8 : Int32)) (by decide) ?_
    refine xg_iload_n C dL_keeps_24 rfl ?_
    refine xg_imul C dL_keeps_25 ?_
    refine xg_iconst C dL_keeps_26 (v := (5 : Int32)) (by decide) ?_
    refine xg_iadd C dL_keeps_27 ?_
    refine xg_aload_n C dL_keeps_28 rfl ?_
    refine xg_iload_n C dL_keeps_29 rfl ?_
    refine xg_callVi C V (f := 0) (As := [.int (nI i)]) (r := (fX3_flowed (nI i) (xu x 35 0 (((8 : Int32) * (nI i)) + (4 : Int32)) (fX3_volume (nI i) x)))) (fun l => kX3_flowed l hap (nI i) (xu x 35 0 (((8 : Int32) * (nI i)) + (4 : Int32)) (fX3_volume (nI i) x)) (by assumption)) gL_keeps_X3_flowed rfl hdX3_flowed ⟨by decide, by decide⟩ rfl rfl rfl rfl rfl (Nat.le_of_ble_eq_true rfl) ⟨Nat.zero_le _, Nat.zero_le _⟩ dL_keeps_30 ?_
    refine xg_iast C V (f := 35) (n := 1) (N := 64) rfl (by decide) (xR_0 (by decide)) (xin_8k (by assumption) (vp_in_iff.mpr ⟨by decide, by decide⟩)) dL_keeps_33 ?_
    refine xg_aload_n C dL_keeps_34 rfl ?_
    refine xg_bipush C dL_keeps_35 (v := (8 : Int32)) (by decide) ?_
    refine xg_iload_n C dL_keeps_37 rfl ?_
    refine xg_imul C dL_keeps_38 ?_
    refine xg_bipush C dL_keeps_39 (v := (6 : Int32)) (by decide) ?_
    refine xg_iadd C dL_keeps_41 ?_
    refine xg_aload_n C dL_keeps_42 rfl ?_
    refine xg_iload_n C dL_keeps_43 rfl ?_
    refine xg_callVi C V (f := 0) (As := [.int (nI i)]) (r := (fX3_spilled (nI i) (xu (xu x 35 0 (((8 : Int32) * (nI i)) + (4 : Int32)) (fX3_volume (nI i) x)) 35 0 (((8 : Int32) * (nI i)) + (5 : Int32)) (fX3_flowed (nI i) (xu x 35 0 (((8 : Int32) * (nI i)) + (4 : Int32)) (fX3_volume (nI i) x)))))) (fun l => kX3_spilled l hap (nI i) (xu (xu x 35 0 (((8 : Int32) * (nI i)) + (4 : Int32)) (fX3_volume (nI i) x)) 35 0 (((8 : Int32) * (nI i)) + (5 : Int32)) (fX3_flowed (nI i) (xu x 35 0 (((8 : Int32) * (nI i)) + (4 : Int32)) (fX3_volume (nI i) x)))) (by assumption)) gL_keeps_X3_spilled rfl hdX3_spilled ⟨by decide, by decide⟩ rfl rfl rfl rfl rfl (Nat.le_of_ble_eq_true rfl) ⟨Nat.zero_le _, Nat.zero_le _⟩ dL_keeps_44 ?_
    refine xg_iast C V (f := 35) (n := 1) (N := 64) rfl (by decide) (xR_0 (by decide)) (xin_8k (by assumption) (vp_in_iff.mpr ⟨by decide, by decide⟩)) dL_keeps_47 ?_
    refine xg_aload_n C dL_keeps_48 rfl ?_
    refine xg_bipush C dL_keeps_49 (v := (8 : Int32)) (by decide) ?_
    refine xg_iload_n C dL_keeps_51 rfl ?_
    refine xg_imul C dL_keeps_52 ?_
    refine xg_bipush C dL_keeps_53 (v := (7 : Int32)) (by decide) ?_
    refine xg_iadd C dL_keeps_55 ?_
    refine xg_aload_n C dL_keeps_56 rfl ?_
    refine xg_iload_n C dL_keeps_57 rfl ?_
    refine xg_callVi C V (f := 0) (As := [.int (nI i)]) (r := (fX3_opening (nI i) (xu (xu (xu x 35 0 (((8 : Int32) * (nI i)) + (4 : Int32)) (fX3_volume (nI i) x)) 35 0 (((8 : Int32) * (nI i)) + (5 : Int32)) (fX3_flowed (nI i) (xu x 35 0 (((8 : Int32) * (nI i)) + (4 : Int32)) (fX3_volume (nI i) x)))) 35 0 (((8 : Int32) * (nI i)) + (6 : Int32)) (fX3_spilled (nI i) (xu (xu x 35 0 (((8 : Int32) * (nI i)) + (4 : Int32)) (fX3_volume (nI i) x)) 35 0 (((8 : Int32) * (nI i)) + (5 : Int32)) (fX3_flowed (nI i) (xu x 35 0 (((8 : Int32) * (nI i)) + (4 : Int32)) (fX3_volume (nI i) x)))))))) (fun l => kX3_opening l hap (nI i) (xu (xu (xu x 35 0 (((8 : Int32) * (nI i)) + (4 : Int32)) (fX3_volume (nI i) x)) 35 0 (((8 : Int32) * (nI i)) + (5 : Int32)) (fX3_flowed (nI i) (xu x 35 0 (((8 : Int32) * (nI i)) + (4 : Int32)) (fX3_volume (nI i) x)))) 35 0 (((8 : Int32) * (nI i)) + (6 : Int32)) (fX3_spilled (nI i) (xu (xu x 35 0 (((8 : Int32) * (nI i)) + (4 : Int32)) (fX3_volume (nI i) x)) 35 0 (((8 : Int32) * (nI i)) + (5 : Int32)) (fX3_flowed (nI i) (xu x 35 0 (((8 : Int32) * (nI i)) + (4 : Int32)) (fX3_volume (nI i) x)))))) (by assumption)) gL_keeps_X3_opening rfl hdX3_opening ⟨by decide, by decide⟩ rfl rfl rfl rfl rfl (Nat.le_of_ble_eq_true rfl) ⟨Nat.zero_le _, Nat.zero_le _⟩ dL_keeps_58 ?_
    refine xg_iast C V (f := 35) (n := 1) (N := 64) rfl (by decide) (xR_0 (by decide)) (xin_8k (by assumption) (vp_in_iff.mpr ⟨by decide, by decide⟩)) dL_keeps_61 ?_
    refine xg_iconst C dL_keeps_62 (v := (0 : Int32)) (by decide) ?_
    refine xg_istore C dL_keeps_63 (by decide) (L' := [some (.ref (G.2.2 0 0)), some (.ref (G.2.2 35 0)), some (.ref (G.2.2 36 0)), some (.int (nI i)), some (.int (0 : Int32))]) rfl ?_
    refine xloop (fun (ii : Int32) (y : xS) => xg F 0 0 65 [some (.ref (G.2.2 0 0)), some (.ref (G.2.2 35 0)), some (.ref (G.2.2 36 0)), some (.int (nI i)), some (.int ii)] [] (xP xYc G y)) (bL_keeps_65 (nI i)) 8 (xu (xu (xu (xu x 35 0 (((8 : Int32) * (nI i)) + (4 : Int32)) (fX3_volume (nI i) x)) 35 0 (((8 : Int32) * (nI i)) + (5 : Int32)) (fX3_flowed (nI i) (xu x 35 0 (((8 : Int32) * (nI i)) + (4 : Int32)) (fX3_volume (nI i) x)))) 35 0 (((8 : Int32) * (nI i)) + (6 : Int32)) (fX3_spilled (nI i) (xu (xu x 35 0 (((8 : Int32) * (nI i)) + (4 : Int32)) (fX3_volume (nI i) x)) 35 0 (((8 : Int32) * (nI i)) + (5 : Int32)) (fX3_flowed (nI i) (xu x 35 0 (((8 : Int32) * (nI i)) + (4 : Int32)) (fX3_volume (nI i) x)))))) 35 0 (((8 : Int32) * (nI i)) + (7 : Int32)) (fX3_opening (nI i) (xu (xu (xu x 35 0 (((8 : Int32) * (nI i)) + (4 : Int32)) (fX3_volume (nI i) x)) 35 0 (((8 : Int32) * (nI i)) + (5 : Int32)) (fX3_flowed (nI i) (xu x 35 0 (((8 : Int32) * (nI i)) + (4 : Int32)) (fX3_volume (nI i) x)))) 35 0 (((8 : Int32) * (nI i)) + (6 : Int32)) (fX3_spilled (nI i) (xu (xu x 35 0 (((8 : Int32) * (nI i)) + (4 : Int32)) (fX3_volume (nI i) x)) 35 0 (((8 : Int32) * (nI i)) + (5 : Int32)) (fX3_flowed (nI i) (xu x 35 0 (((8 : Int32) * (nI i)) + (4 : Int32)) (fX3_volume (nI i) x)))))))) (fun j hi y K => ?_) ?_
    · have hi8 : vp_in (nI j) 8 := vp_in_nI hi (by decide)
      show xg F 0 0 65 [some (.ref (G.2.2 0 0)), some (.ref (G.2.2 35 0)), some (.ref (G.2.2 36 0)), some (.int (nI i)), some (.int (nI j))] [] (xP xYc G y)
      refine xg_iload C dL_keeps_65 rfl ?_
      refine xg_bipush C dL_keeps_67 (v := (8 : Int32)) (by decide) ?_
      refine xg_icmp_ge C 94 dL_keeps_69 (by decide) (fun h2 => absurd h2 (nI_ge hi (by decide))) (fun h2 => ?_)
      refine xg_aload_n C dL_keeps_72 rfl ?_
      refine xg_bipush C dL_keeps_73 (v := (8 : Int32)) (by decide) ?_
      refine xg_iload_n C dL_keeps_75 rfl ?_
      refine xg_imul C dL_keeps_76 ?_
      refine xg_iload C dL_keeps_77 rfl ?_
      refine xg_iadd C dL_keeps_79 ?_
      refine xg_aload_n C dL_keeps_80 rfl ?_
      refine xg_iload_n C dL_keeps_81 rfl ?_
      refine xg_iload C dL_keeps_82 rfl ?_
      refine xg_callVi C V (f := 0) (As := [.int (nI i), .int (nI j)]) (r := (fX3_beat (nI i) (nI j) y)) (fun l => kX3_beat l hap (nI i) (nI j) y (by assumption) (by assumption)) gL_keeps_X3_beat rfl hdX3_beat ⟨by decide, by decide⟩ rfl rfl rfl rfl rfl (Nat.le_of_ble_eq_true rfl) ⟨Nat.zero_le _, Nat.zero_le _⟩ dL_keeps_84 ?_
      refine xg_iast C V (f := 36) (n := 1) (N := 64) rfl (by decide) (xR_0 (by decide)) (xin_8k (by assumption) (by assumption)) dL_keeps_87 ?_
      refine xg_iinc C dL_keeps_88 rfl (v := (nI (j + 1))) (xinc j) (by decide) (L' := [some (.ref (G.2.2 0 0)), some (.ref (G.2.2 35 0)), some (.ref (G.2.2 36 0)), some (.int (nI i)), some (.int (nI (j + 1)))]) rfl ?_
      refine xg_goto C 65 dL_keeps_91 (by decide) ?_
      have e : (bL_keeps_65 (nI i)) (nI j) y = (xu y 36 0 (((8 : Int32) * (nI i)) + (nI j)) (fX3_beat (nI i) (nI j) y)) := rfl
      rw [e] at K
      exact xg_le K ⟨rfl, rfl, rfl, rfl, rfl, trivial⟩
    · show xg F 0 0 65 [some (.ref (G.2.2 0 0)), some (.ref (G.2.2 35 0)), some (.ref (G.2.2 36 0)), some (.int (nI i)), some (.int (nI 8))] [] (xP xYc G (xfold (bL_keeps_65 (nI i)) 8 (xu (xu (xu (xu x 35 0 (((8 : Int32) * (nI i)) + (4 : Int32)) (fX3_volume (nI i) x)) 35 0 (((8 : Int32) * (nI i)) + (5 : Int32)) (fX3_flowed (nI i) (xu x 35 0 (((8 : Int32) * (nI i)) + (4 : Int32)) (fX3_volume (nI i) x)))) 35 0 (((8 : Int32) * (nI i)) + (6 : Int32)) (fX3_spilled (nI i) (xu (xu x 35 0 (((8 : Int32) * (nI i)) + (4 : Int32)) (fX3_volume (nI i) x)) 35 0 (((8 : Int32) * (nI i)) + (5 : Int32)) (fX3_flowed (nI i) (xu x 35 0 (((8 : Int32) * (nI i)) + (4 : Int32)) (fX3_volume (nI i) x)))))) 35 0 (((8 : Int32) * (nI i)) + (7 : Int32)) (fX3_opening (nI i) (xu (xu (xu x 35 0 (((8 : Int32) * (nI i)) + (4 : Int32)) (fX3_volume (nI i) x)) 35 0 (((8 : Int32) * (nI i)) + (5 : Int32)) (fX3_flowed (nI i) (xu x 35 0 (((8 : Int32) * (nI i)) + (4 : Int32)) (fX3_volume (nI i) x)))) 35 0 (((8 : Int32) * (nI i)) + (6 : Int32)) (fX3_spilled (nI i) (xu (xu x 35 0 (((8 : Int32) * (nI i)) + (4 : Int32)) (fX3_volume (nI i) x)) 35 0 (((8 : Int32) * (nI i)) + (5 : Int32)) (fX3_flowed (nI i) (xu x 35 0 (((8 : Int32) * (nI i)) + (4 : Int32)) (fX3_volume (nI i) x))))))))))
      refine xg_iload C dL_keeps_65 rfl ?_
      refine xg_bipush C dL_keeps_67 (v := (8 : Int32)) (by decide) ?_
      refine xg_icmp_ge C 94 dL_keeps_69 (by decide) (fun h3 => ?_) (fun h3 => absurd (nI_le (Nat.le_refl _) (by decide)) h3)
      refine xg_iinc C dL_keeps_94 rfl (v := (nI (i + 1))) (xinc i) (by decide) (L' := [some (.ref (G.2.2 0 0)), some (.ref (G.2.2 35 0)), some (.ref (G.2.2 36 0)), some (.int (nI (i + 1))), some (.int (nI 8))]) rfl ?_
      refine xg_goto C 2 dL_keeps_97 (by decide) ?_
      have e : bL_keeps_2 (nI i) x = (xfold (bL_keeps_65 (nI i)) 8 (xu (xu (xu (xu x 35 0 (((8 : Int32) * (nI i)) + (4 : Int32)) (fX3_volume (nI i) x)) 35 0 (((8 : Int32) * (nI i)) + (5 : Int32)) (fX3_flowed (nI i) (xu x 35 0 (((8 : Int32) * (nI i)) + (4 : Int32)) (fX3_volume (nI i) x)))) 35 0 (((8 : Int32) * (nI i)) + (6 : Int32)) (fX3_spilled (nI i) (xu (xu x 35 0 (((8 : Int32) * (nI i)) + (4 : Int32)) (fX3_volume (nI i) x)) 35 0 (((8 : Int32) * (nI i)) + (5 : Int32)) (fX3_flowed (nI i) (xu x 35 0 (((8 : Int32) * (nI i)) + (4 : Int32)) (fX3_volume (nI i) x)))))) 35 0 (((8 : Int32) * (nI i)) + (7 : Int32)) (fX3_opening (nI i) (xu (xu (xu x 35 0 (((8 : Int32) * (nI i)) + (4 : Int32)) (fX3_volume (nI i) x)) 35 0 (((8 : Int32) * (nI i)) + (5 : Int32)) (fX3_flowed (nI i) (xu x 35 0 (((8 : Int32) * (nI i)) + (4 : Int32)) (fX3_volume (nI i) x)))) 35 0 (((8 : Int32) * (nI i)) + (6 : Int32)) (fX3_spilled (nI i) (xu (xu x 35 0 (((8 : Int32) * (nI i)) + (4 : Int32)) (fX3_volume (nI i) x)) 35 0 (((8 : Int32) * (nI i)) + (5 : Int32)) (fX3_flowed (nI i) (xu x 35 0 (((8 : Int32) * (nI i)) + (4 : Int32)) (fX3_volume (nI i) x))))))))) := rfl
      rw [e] at K
      exact xg_le K ⟨rfl, rfl, rfl, rfl, trivial⟩
  · show xg F 0 0 2 [some (.ref (G.2.2 0 0)), some (.ref (G.2.2 35 0)), some (.ref (G.2.2 36 0)), some (.int (nI 8)), none] [] (xP xYc G (xfold bL_keeps_2 8 S))
    refine xg_iload_n C dL_keeps_2 rfl ?_
    refine xg_bipush C dL_keeps_3 (v := (8 : Int32)) (by decide) ?_
    refine xg_icmp_ge C 100 dL_keeps_5 (by decide) (fun h4 => ?_) (fun h4 => absurd (nI_le (Nat.le_refl _) (by decide)) h4)
    exact xret_v E dL_keeps_100 (rfl)
def jL_isWater_46 (a1 : Int32) (S : xS) (i : Int32) : Int32 :=
  if i = (0 : Int32) then
    (S 39 0 (0 : Int32))
  else
    (0 : Int32)
def jL_isWater_139 (a1 : Int32) (came : Int32) (flow : Int32) (most : Int32) (spill : Int32) (room : Int32) (flowed : Int32) (ov : Int32) (S : xS) (i : Int32) : Int32 :=
  if came ≤ most then
    if flow = came then
      if (fX3_volume i S) = ((((came + flowed) + ov) - flow) - spill) then
        if (fX3_volumeByBalance i S) = (fX3_volume i S) then
          if room < (fX3_volume i S) then
            (0 : Int32)
          else
            if spill = (0 : Int32) then
              if spill < (0 : Int32) then
                (0 : Int32)
              else
                if (fX3_level i S) = ((fX3_volume i S) / (S 34 0 ((8 : Int32) * i))) then
                  (1 : Int32)
                else
                  (0 : Int32)
            else
              if (fX3_volume i S) = room then
                if spill < (0 : Int32) then
                  (0 : Int32)
                else
                  if (fX3_level i S) = ((fX3_volume i S) / (S 34 0 ((8 : Int32) * i))) then
                    (1 : Int32)
                  else
                    (0 : Int32)
              else
                (0 : Int32)
        else
          (0 : Int32)
      else
        (0 : Int32)
    else
      (0 : Int32)
  else
    if flow = most then
      if (fX3_volume i S) = ((((came + flowed) + ov) - flow) - spill) then
        if (fX3_volumeByBalance i S) = (fX3_volume i S) then
          if room < (fX3_volume i S) then
            (0 : Int32)
          else
            if spill = (0 : Int32) then
              if spill < (0 : Int32) then
                (0 : Int32)
              else
                if (fX3_level i S) = ((fX3_volume i S) / (S 34 0 ((8 : Int32) * i))) then
                  (1 : Int32)
                else
                  (0 : Int32)
            else
              if (fX3_volume i S) = room then
                if spill < (0 : Int32) then
                  (0 : Int32)
                else
                  if (fX3_level i S) = ((fX3_volume i S) / (S 34 0 ((8 : Int32) * i))) then
                    (1 : Int32)
                  else
                    (0 : Int32)
              else
                (0 : Int32)
        else
          (0 : Int32)
      else
        (0 : Int32)
    else
      (0 : Int32)
def bL_isWater_15 (a1 : Int32) (i : Int32) (x : xS × Int32 × Int32 × Int32 × Int32) : xS × Int32 × Int32 × Int32 × Int32 :=
  ((xu x.1 34 0 (((8 : Int32) * i) + (3 : Int32)) (0 : Int32)), (x.2.1 + ((fX3_spilled i x.1) - (x.1 35 0 (((8 : Int32) * i) + (6 : Int32))))), ((fX3_flowed i x.1) - (x.1 35 0 (((8 : Int32) * i) + (5 : Int32)))), ((fX3_spilled i x.1) - (x.1 35 0 (((8 : Int32) * i) + (6 : Int32)))), (jL_isWater_139 a1 (((x.1 35 0 (((8 : Int32) * i) + (4 : Int32))) + (x.1 34 0 (((8 : Int32) * i) + (3 : Int32)))) + (jL_isWater_46 a1 x.1 i)) ((fX3_flowed i x.1) - (x.1 35 0 (((8 : Int32) * i) + (5 : Int32)))) ((x.1 35 0 (((8 : Int32) * i) + (7 : Int32))) * (x.1 34 0 (((8 : Int32) * i) + (2 : Int32)))) ((fX3_spilled i x.1) - (x.1 35 0 (((8 : Int32) * i) + (6 : Int32)))) ((x.1 34 0 ((8 : Int32) * i)) * (x.1 34 0 (((8 : Int32) * i) + (1 : Int32)))) x.2.2.1 x.2.2.2.1 x.1 i))
def fL_isWater (a1 : Int32) (S : xS) : xS × Int32 :=
  ((xfold (bL_isWater_15 a1) 8 (S, (0 : Int32), (0 : Int32), (0 : Int32), (1 : Int32))).1, (1 : Int32))
def okW (a1 : Int32) (S : xS) : Prop := ∃ J : Nat → xS × Int32 × Int32 × Int32 × Int32 → Prop, J 0 (S, (0 : Int32), (0 : Int32), (0 : Int32), (1 : Int32)) ∧ (∀ i, i < 8 → ∀ x, J i x → J (i + 1) (bL_isWater_15 a1 (nI i) x)) ∧ (∀ i x, J i x → x.2.2.2.2 = (1 : Int32)) ∧ (∀ x, J 8 x → x.2.1 = a1) ∧ (∀ i, i < 8 → ∀ x, J i x → ¬ x.1 34 0 ((8 : Int32) * (nI i)) = (0 : Int32))
theorem hdL_isWater : yL_isWater.cls ≠ "java/lang/invoke/MethodHandle" ∧ yL_isWater.cls ≠ "java/lang/invoke/VarHandle" ∧ (parseMethodDescriptor yL_isWater.desc).map (fun d => d.parameters.length) = some 5 := by decide +kernel
set_option maxRecDepth 100000 in
set_option maxHeartbeats 4000000 in
theorem kL_isWater (l : Launch) {G : xG} (hap : xAp xYc G) (a1 : Int32) (S : xS) (hW : okW a1 S) : xMi l xYc G yL_isWater wsL_isWater 3 63 [.ref (G.2.2 0 0), .ref (G.2.2 34 0), .ref (G.2.2 35 0), .ref (G.2.2 39 0), .int a1] S (fL_isWater a1 S).1 (fL_isWater a1 S).2 := by
  refine xMi_of (cc := cL_isWater) (maxL := 15) (ty := .boolean) (own := RL) [some (.ref (G.2.2 0 0)), some (.ref (G.2.2 34 0)), some (.ref (G.2.2 35 0)), some (.ref (G.2.2 39 0)), some (.int a1), none, none, none, none, none, none, none, none, none, none] pnL rfl rfl (xn01 (Or.inr rfl)) (xcat1 rfl) (Nat.le_of_ble_eq_true rfl) rfl hap (fun F C V E => ?_)
  obtain ⟨J, hJ0, hJ1, hJi, hJe, hJn⟩ := hW
  refine xg_iconst C dL_isWater_0 (v := (0 : Int32)) (by decide) ?_
  refine xg_istore C dL_isWater_1 (by decide) (L' := [some (.ref (G.2.2 0 0)), some (.ref (G.2.2 34 0)), some (.ref (G.2.2 35 0)), some (.ref (G.2.2 39 0)), some (.int a1), some (.int (0 : Int32)), none, none, none, none, none, none, none, none, none]) rfl ?_
  refine xg_iconst C dL_isWater_3 (v := (0 : Int32)) (by decide) ?_
  refine xg_istore C dL_isWater_4 (by decide) (L' := [some (.ref (G.2.2 0 0)), some (.ref (G.2.2 34 0)), some (.ref (G.2.2 35 0)), some (.ref (G.2.2 39 0)), some (.int a1), some (.int (0 : Int32)), some (.int (0 : Int32)), none, none, none, none, none, none, none, none]) rfl ?_
  refine xg_iconst C dL_isWater_6 (v := (0 : Int32)) (by decide) ?_
  refine xg_istore C dL_isWater_7 (by decide) (L' := [some (.ref (G.2.2 0 0)), some (.ref (G.2.2 34 0)), some (.ref (G.2.2 35 0)), some (.ref (G.2.2 39 0)), some (.int a1), some (.int (0 : Int32)), some (.int (0 : Int32)), some (.int (0 : Int32)), none, none, none, none, none, none, none]) rfl ?_
  refine xg_iconst C dL_isWater_9 (v := (1 : Int32)) (by decide) ?_
  refine xg_istore C dL_isWater_10 (by decide) (L' := [some (.ref (G.2.2 0 0)), some (.ref (G.2.2 34 0)), some (.ref (G.2.2 35 0)), some (.ref (G.2.2 39 0)), some (.int a1), some (.int (0 : Int32)), some (.int (0 : Int32)), some (.int (0 : Int32)), some (.int (1 : Int32)), none, none, none, none, none, none]) rfl ?_
  refine xg_iconst C dL_isWater_12 (v := (0 : Int32)) (by decide) ?_
  refine xg_istore C dL_isWater_13 (by decide) (L' := [some (.ref (G.2.2 0 0)), some (.ref (G.2.2 34 0)), some (.ref (G.2.2 35 0)), some (.ref (G.2.2 39 0)), some (.int a1), some (.int (0 : Int32)), some (.int (0 : Int32)), some (.int (0 : Int32)), some (.int (1 : Int32)), some (.int (0 : Int32)), none, none, none, none, none]) rfl ?_
  refine xloopI (fun (ii : Int32) (x : xS × Int32 × Int32 × Int32 × Int32) => xg F 0 0 15 [some (.ref (G.2.2 0 0)), some (.ref (G.2.2 34 0)), some (.ref (G.2.2 35 0)), some (.ref (G.2.2 39 0)), some (.int a1), some (.int x.2.1), some (.int x.2.2.1), some (.int x.2.2.2.1), some (.int x.2.2.2.2), some (.int ii), none, none, none, none, none] [] (xP xYc G x.1)) (bL_isWater_15 a1) 8 (S, (0 : Int32), (0 : Int32), (0 : Int32), (1 : Int32)) J hJ0 hJ1 (fun i hi x hJ K => ?_) (fun hJ => ?_)
  · have hi8 : vp_in (nI i) 8 := vp_in_nI hi (by decide)
    have hisx : x.2.2.2.2 = (1 : Int32) := hJi _ _ hJ
    have hne9 := hJn i hi x hJ
    show xg F 0 0 15 [some (.ref (G.2.2 0 0)), some (.ref (G.2.2 34 0)), some (.ref (G.2.2 35 0)), some (.ref (G.2.2 39 0)), some (.int a1), some (.int x.2.1), some (.int x.2.2.1), some (.int x.2.2.2.1), some (.int x.2.2.2.2), some (.int (nI i)), none, none, none, none, none] [] (xP xYc G x.1)
    refine xg_iload C dL_isWater_15 rfl ?_
    refine xg_bipush C dL_isWater_17 (v := (8 : Int32)) (by decide) ?_
    refine xg_icmp_ge C 289 dL_isWater_19 (by decide) (fun h1 => absurd h1 (nI_ge hi (by decide))) (fun h1 => ?_)
    refine xg_iload C dL_isWater_22 rfl ?_
    refine xg_if_eq C 289 dL_isWater_24 (by decide) (fun h2 => absurd h2 (by rw [hisx]; decide)) (fun h2 => ?_)
    refine xg_aload_n C dL_isWater_27 rfl ?_
    refine xg_bipush C dL_isWater_28 (v := (8 : Int32)) (by decide) ?_
    refine xg_iload C dL_isWater_30 rfl ?_
    refine xg_imul C dL_isWater_32 ?_
    refine xg_iconst C dL_isWater_33 (v := (4 : Int32)) (by decide) ?_
    refine xg_iadd C dL_isWater_34 ?_
    refine xg_iald C V (f := 35) (n := 1) (N := 64) rfl (by decide) (xR_0 (by decide)) (xin_8k (by assumption) (vp_in_iff.mpr ⟨by decide, by decide⟩)) dL_isWater_35 (v := (x.1 35 0 (((8 : Int32) * (nI i)) + (4 : Int32)))) rfl ?_
    refine xg_aload_n C dL_isWater_36 rfl ?_
    refine xg_bipush C dL_isWater_37 (v := (8 : Int32)) (by decide) ?_
    refine xg_iload C dL_isWater_39 rfl ?_
    refine xg_imul C dL_isWater_41 ?_
    refine xg_iconst C dL_isWater_42 (v := (3 : Int32)) (by decide) ?_
    refine xg_iadd C dL_isWater_43 ?_
    refine xg_iald C V (f := 34) (n := 1) (N := 64) rfl (by decide) (xR_0 (by decide)) (xin_8k (by assumption) (vp_in_iff.mpr ⟨by decide, by decide⟩)) dL_isWater_44 (v := (x.1 34 0 (((8 : Int32) * (nI i)) + (3 : Int32)))) rfl ?_
    refine xg_iadd C dL_isWater_45 ?_
    suffices hj : xg F 0 0 58 [some (.ref (G.2.2 0 0)), some (.ref (G.2.2 34 0)), some (.ref (G.2.2 35 0)), some (.ref (G.2.2 39 0)), some (.int a1), some (.int x.2.1), some (.int x.2.2.1), some (.int x.2.2.2.1), some (.int x.2.2.2.2), some (.int (nI i)), none, none, none, none, none] [.int (jL_isWater_46 a1 x.1 (nI i)), .int ((x.1 35 0 (((8 : Int32) * (nI i)) + (4 : Int32))) + (x.1 34 0 (((8 : Int32) * (nI i)) + (3 : Int32))))] (xP xYc G x.1) by
      refine xg_iload C dL_isWater_46 rfl ?_
      refine xg_if_ne C 57 dL_isWater_48 (by decide) (fun h3 => ?_) (fun h3 => ?_)
      · refine xg_iconst C dL_isWater_57 (v := (0 : Int32)) (by decide) ?_
        have e : (jL_isWater_46 a1 x.1 (nI i)) = (0 : Int32) := by first | (rw [jL_isWater_46, if_neg h3]; done) | (rw [jL_isWater_46, if_neg h3]; rfl)
        rw [e] at hj
        exact hj
      · refine xg_aload_n C dL_isWater_51 rfl ?_
        refine xg_iconst C dL_isWater_52 (v := (0 : Int32)) (by decide) ?_
        refine xg_iald C V (f := 39) (n := 1) (N := 3) rfl (by decide) (xR_0 (by decide)) (vp_in_iff.mpr ⟨by decide, by decide⟩) dL_isWater_53 (v := (x.1 39 0 (0 : Int32))) rfl ?_
        refine xg_goto C 58 dL_isWater_54 (by decide) ?_
        have e : (jL_isWater_46 a1 x.1 (nI i)) = (x.1 39 0 (0 : Int32)) := by first | (rw [jL_isWater_46, if_pos h3]; done) | (rw [jL_isWater_46, if_pos h3]; rfl)
        rw [e] at hj
        exact hj
    refine xg_iadd C dL_isWater_58 ?_
    refine xg_istore C dL_isWater_59 (by decide) (L' := [some (.ref (G.2.2 0 0)), some (.ref (G.2.2 34 0)), some (.ref (G.2.2 35 0)), some (.ref (G.2.2 39 0)), some (.int a1), some (.int x.2.1), some (.int x.2.2.1), some (.int x.2.2.2.1), some (.int x.2.2.2.2), some (.int (nI i)), some (.int (((x.1 35 0 (((8 : Int32) * (nI i)) + (4 : Int32))) + (x.1 34 0 (((8 : Int32) * (nI i)) + (3 : Int32)))) + (jL_isWater_46 a1 x.1 (nI i)))), none, none, none, none]) rfl ?_
    refine xg_aload_n C dL_isWater_61 rfl ?_
    refine xg_iload C dL_isWater_62 rfl ?_
    refine xg_callVi C V (f := 0) (As := [.int (nI i)]) (r := (fX3_flowed (nI i) x.1)) (fun l => kX3_flowed l hap (nI i) x.1 (by assumption)) gL_isWater_X3_flowed rfl hdX3_flowed ⟨by decide, by decide⟩ rfl rfl rfl rfl rfl (Nat.le_of_ble_eq_true rfl) ⟨Nat.zero_le _, Nat.zero_le _⟩ dL_isWater_64 ?_
    refine xg_aload_n C dL_isWater_67 rfl ?_
    refine xg_bipush C dL_isWater_68 (v := (8 : Int32)) (by decide) ?_
    refine xg_iload C dL_isWater_70 rfl ?_
    refine xg_imul C dL_isWater_72 ?_
    refine xg_iconst C dL_isWater_73 (v := (5 : Int32)) (by decide) ?_
    refine xg_iadd C dL_isWater_74 ?_
    refine xg_iald C V (f := 35) (n := 1) (N := 64) rfl (by decide) (xR_0 (by decide)) (xin_8k (by assumption) (vp_in_iff.mpr ⟨by decide, by decide⟩)) dL_isWater_75 (v := (x.1 35 0 (((8 : Int32) * (nI i)) + (5 : Int32)))) rfl ?_
    refine xg_isub C dL_isWater_76 ?_
    refine xg_istore C dL_isWater_77 (by decide) (L' := [some (.ref (G.2.2 0 0)), some (.ref (G.2.2 34 0)), some (.ref (G.2.2 35 0)), some (.ref (G.2.2 39 0)), some (.int a1), some (.int x.2.1), some (.int x.2.2.1), some (.int x.2.2.2.1), some (.int x.2.2.2.2), some (.int (nI i)), some (.int (((x.1 35 0 (((8 : Int32) * (nI i)) + (4 : Int32))) + (x.1 34 0 (((8 : Int32) * (nI i)) + (3 : Int32)))) + (jL_isWater_46 a1 x.1 (nI i)))), some (.int ((fX3_flowed (nI i) x.1) - (x.1 35 0 (((8 : Int32) * (nI i)) + (5 : Int32))))), none, none, none]) rfl ?_
    refine xg_aload_n C dL_isWater_79 rfl ?_
    refine xg_bipush C dL_isWater_80 (v := (8 : Int32)) (by decide) ?_
    refine xg_iload C dL_isWater_82 rfl ?_
    refine xg_imul C dL_isWater_84 ?_
    refine xg_bipush C dL_isWater_85 (v := (7 : Int32)) (by decide) ?_
    refine xg_iadd C dL_isWater_87 ?_
    refine xg_iald C V (f := 35) (n := 1) (N := 64) rfl (by decide) (xR_0 (by decide)) (xin_8k (by assumption) (vp_in_iff.mpr ⟨by decide, by decide⟩)) dL_isWater_88 (v := (x.1 35 0 (((8 : Int32) * (nI i)) + (7 : Int32)))) rfl ?_
    refine xg_aload_n C dL_isWater_89 rfl ?_
    refine xg_bipush C dL_isWater_90 (v := (8 : Int32)) (by decide) ?_
    refine xg_iload C dL_isWater_92 rfl ?_
    refine xg_imul C dL_isWater_94 ?_
    refine xg_iconst C dL_isWater_95 (v := (2 : Int32)) (by decide) ?_
    refine xg_iadd C dL_isWater_96 ?_
    refine xg_iald C V (f := 34) (n := 1) (N := 64) rfl (by decide) (xR_0 (by decide)) (xin_8k (by assumption) (vp_in_iff.mpr ⟨by decide, by decide⟩)) dL_isWater_97 (v := (x.1 34 0 (((8 : Int32) * (nI i)) + (2 : Int32)))) rfl ?_
    refine xg_imul C dL_isWater_98 ?_
    refine xg_istore C dL_isWater_99 (by decide) (L' := [some (.ref (G.2.2 0 0)), some (.ref (G.2.2 34 0)), some (.ref (G.2.2 35 0)), some (.ref (G.2.2 39 0)), some (.int a1), some (.int x.2.1), some (.int x.2.2.1), some (.int x.2.2.2.1), some (.int x.2.2.2.2), some (.int (nI i)), some (.int (((x.1 35 0 (((8 : Int32) * (nI i)) + (4 : Int32))) + (x.1 34 0 (((8 : Int32) * (nI i)) + (3 : Int32)))) + (jL_isWater_46 a1 x.1 (nI i)))), some (.int ((fX3_flowed (nI i) x.1) - (x.1 35 0 (((8 : Int32) * (nI i)) + (5 : Int32))))), some (.int ((x.1 35 0 (((8 : Int32) * (nI i)) + (7 : Int32))) * (x.1 34 0 (((8 : Int32) * (nI i)) + (2 : Int32))))), none, none]) rfl ?_
    refine xg_aload_n C dL_isWater_101 rfl ?_
    refine xg_iload C dL_isWater_102 rfl ?_
    refine xg_callVi C V (f := 0) (As := [.int (nI i)]) (r := (fX3_spilled (nI i) x.1)) (fun l => kX3_spilled l hap (nI i) x.1 (by assumption)) gL_isWater_X3_spilled rfl hdX3_spilled ⟨by decide, by decide⟩ rfl rfl rfl rfl rfl (Nat.le_of_ble_eq_true rfl) ⟨Nat.zero_le _, Nat.zero_le _⟩ dL_isWater_104 ?_
    refine xg_aload_n C dL_isWater_107 rfl ?_
    refine xg_bipush C dL_isWater_108 (v := (8 : Int32)) (by decide) ?_
    refine xg_iload C dL_isWater_110 rfl ?_
    refine xg_imul C dL_isWater_112 ?_
    refine xg_bipush C dL_isWater_113 (v := (6 : Int32)) (by decide) ?_
    refine xg_iadd C dL_isWater_115 ?_
    refine xg_iald C V (f := 35) (n := 1) (N := 64) rfl (by decide) (xR_0 (by decide)) (xin_8k (by assumption) (vp_in_iff.mpr ⟨by decide, by decide⟩)) dL_isWater_116 (v := (x.1 35 0 (((8 : Int32) * (nI i)) + (6 : Int32)))) rfl ?_
    refine xg_isub C dL_isWater_117 ?_
    refine xg_istore C dL_isWater_118 (by decide) (L' := [some (.ref (G.2.2 0 0)), some (.ref (G.2.2 34 0)), some (.ref (G.2.2 35 0)), some (.ref (G.2.2 39 0)), some (.int a1), some (.int x.2.1), some (.int x.2.2.1), some (.int x.2.2.2.1), some (.int x.2.2.2.2), some (.int (nI i)), some (.int (((x.1 35 0 (((8 : Int32) * (nI i)) + (4 : Int32))) + (x.1 34 0 (((8 : Int32) * (nI i)) + (3 : Int32)))) + (jL_isWater_46 a1 x.1 (nI i)))), some (.int ((fX3_flowed (nI i) x.1) - (x.1 35 0 (((8 : Int32) * (nI i)) + (5 : Int32))))), some (.int ((x.1 35 0 (((8 : Int32) * (nI i)) + (7 : Int32))) * (x.1 34 0 (((8 : Int32) * (nI i)) + (2 : Int32))))), some (.int ((fX3_spilled (nI i) x.1) - (x.1 35 0 (((8 : Int32) * (nI i)) + (6 : Int32))))), none]) rfl ?_
    refine xg_aload_n C dL_isWater_120 rfl ?_
    refine xg_bipush C dL_isWater_121 (v := (8 : Int32)) (by decide) ?_
    refine xg_iload C dL_isWater_123 rfl ?_
    refine xg_imul C dL_isWater_125 ?_
    refine xg_iald C V (f := 34) (n := 1) (N := 64) rfl (by decide) (xR_0 (by decide)) (xin_8 (by assumption)) dL_isWater_126 (v := (x.1 34 0 ((8 : Int32) * (nI i)))) rfl ?_
    refine xg_aload_n C dL_isWater_127 rfl ?_
    refine xg_bipush C dL_isWater_128 (v := (8 : Int32)) (by decide) ?_
    refine xg_iload C dL_isWater_130 rfl ?_
    refine xg_imul C dL_isWater_132 ?_
    refine xg_iconst C dL_isWater_133 (v := (1 : Int32)) (by decide) ?_
    refine xg_iadd C dL_isWater_134 ?_
    refine xg_iald C V (f := 34) (n := 1) (N := 64) rfl (by decide) (xR_0 (by decide)) (xin_8k (by assumption) (vp_in_iff.mpr ⟨by decide, by decide⟩)) dL_isWater_135 (v := (x.1 34 0 (((8 : Int32) * (nI i)) + (1 : Int32)))) rfl ?_
    refine xg_imul C dL_isWater_136 ?_
    refine xg_istore C dL_isWater_137 (by decide) (L' := [some (.ref (G.2.2 0 0)), some (.ref (G.2.2 34 0)), some (.ref (G.2.2 35 0)), some (.ref (G.2.2 39 0)), some (.int a1), some (.int x.2.1), some (.int x.2.2.1), some (.int x.2.2.2.1), some (.int x.2.2.2.2), some (.int (nI i)), some (.int (((x.1 35 0 (((8 : Int32) * (nI i)) + (4 : Int32))) + (x.1 34 0 (((8 : Int32) * (nI i)) + (3 : Int32)))) + (jL_isWater_46 a1 x.1 (nI i)))), some (.int ((fX3_flowed (nI i) x.1) - (x.1 35 0 (((8 : Int32) * (nI i)) + (5 : Int32))))), some (.int ((x.1 35 0 (((8 : Int32) * (nI i)) + (7 : Int32))) * (x.1 34 0 (((8 : Int32) * (nI i)) + (2 : Int32))))), some (.int ((fX3_spilled (nI i) x.1) - (x.1 35 0 (((8 : Int32) * (nI i)) + (6 : Int32))))), some (.int ((x.1 34 0 ((8 : Int32) * (nI i))) * (x.1 34 0 (((8 : Int32) * (nI i)) + (1 : Int32)))))]) rfl ?_
    suffices hj : xg F 0 0 256 [some (.ref (G.2.2 0 0)), some (.ref (G.2.2 34 0)), some (.ref (G.2.2 35 0)), some (.ref (G.2.2 39 0)), some (.int a1), some (.int x.2.1), some (.int x.2.2.1), some (.int x.2.2.2.1), some (.int x.2.2.2.2), some (.int (nI i)), some (.int (((x.1 35 0 (((8 : Int32) * (nI i)) + (4 : Int32))) + (x.1 34 0 (((8 : Int32) * (nI i)) + (3 : Int32)))) + (jL_isWater_46 a1 x.1 (nI i)))), some (.int ((fX3_flowed (nI i) x.1) - (x.1 35 0 (((8 : Int32) * (nI i)) + (5 : Int32))))), some (.int ((x.1 35 0 (((8 : Int32) * (nI i)) + (7 : Int32))) * (x.1 34 0 (((8 : Int32) * (nI i)) + (2 : Int32))))), some (.int ((fX3_spilled (nI i) x.1) - (x.1 35 0 (((8 : Int32) * (nI i)) + (6 : Int32))))), some (.int ((x.1 34 0 ((8 : Int32) * (nI i))) * (x.1 34 0 (((8 : Int32) * (nI i)) + (1 : Int32)))))] [.int (jL_isWater_139 a1 (((x.1 35 0 (((8 : Int32) * (nI i)) + (4 : Int32))) + (x.1 34 0 (((8 : Int32) * (nI i)) + (3 : Int32)))) + (jL_isWater_46 a1 x.1 (nI i))) ((fX3_flowed (nI i) x.1) - (x.1 35 0 (((8 : Int32) * (nI i)) + (5 : Int32)))) ((x.1 35 0 (((8 : Int32) * (nI i)) + (7 : Int32))) * (x.1 34 0 (((8 : Int32) * (nI i)) + (2 : Int32)))) ((fX3_spilled (nI i) x.1) - (x.1 35 0 (((8 : Int32) * (nI i)) + (6 : Int32)))) ((x.1 34 0 ((8 : Int32) * (nI i))) * (x.1 34 0 (((8 : Int32) * (nI i)) + (1 : Int32)))) x.2.2.1 x.2.2.2.1 x.1 (nI i))] (xP xYc G x.1) by
      refine xg_iload C dL_isWater_139 rfl ?_
      refine xg_iload C dL_isWater_141 rfl ?_
      refine xg_iload C dL_isWater_143 rfl ?_
      refine xg_icmp_ge C 153 dL_isWater_145 (by decide) (fun h4 => ?_) (fun h4 => ?_)
      · refine xg_iload C dL_isWater_153 rfl ?_
        refine xg_icmp_ne C 255 dL_isWater_155 (by decide) (fun h5 => ?_) (fun h5 => ?_)
        · refine xg_iconst C dL_isWater_255 (v := (0 : Int32)) (by decide) ?_
          have e : (jL_isWater_139 a1 (((x.1 35 0 (((8 : Int32) * (nI i)) + (4 : Int32))) + (x.1 34 0 (((8 : Int32) * (nI i)) + (3 : Int32)))) + (jL_isWater_46 a1 x.1 (nI i))) ((fX3_flowed (nI i) x.1) - (x.1 35 0 (((8 : Int32) * (nI i)) + (5 : Int32)))) ((x.1 35 0 (((8 : Int32) * (nI i)) + (7 : Int32))) * (x.1 34 0 (((8 : Int32) * (nI i)) + (2 : Int32)))) ((fX3_spilled (nI i) x.1) - (x.1 35 0 (((8 : Int32) * (nI i)) + (6 : Int32)))) ((x.1 34 0 ((8 : Int32) * (nI i))) * (x.1 34 0 (((8 : Int32) * (nI i)) + (1 : Int32)))) x.2.2.1 x.2.2.2.1 x.1 (nI i)) = (0 : Int32) := by first | (rw [jL_isWater_139, if_pos h4, if_neg h5]; done) | (rw [jL_isWater_139, if_pos h4, if_neg h5]; rfl)
          rw [e] at hj
          exact hj
        · refine xg_aload_n C dL_isWater_158 rfl ?_
          refine xg_iload C dL_isWater_159 rfl ?_
          refine xg_callVi C V (f := 0) (As := [.int (nI i)]) (r := (fX3_volume (nI i) x.1)) (fun l => kX3_volume l hap (nI i) x.1 (by assumption)) gL_isWater_X3_volume rfl hdX3_volume ⟨by decide, by decide⟩ rfl rfl rfl rfl rfl (Nat.le_of_ble_eq_true rfl) ⟨Nat.zero_le _, Nat.zero_le _⟩ dL_isWater_161 ?_
          refine xg_iload C dL_isWater_164 rfl ?_
          refine xg_iload C dL_isWater_166 rfl ?_
          refine xg_iadd C dL_isWater_168 ?_
          refine xg_iload C dL_isWater_169 rfl ?_
          refine xg_iadd C dL_isWater_171 ?_
          refine xg_iload C dL_isWater_172 rfl ?_
          refine xg_isub C dL_isWater_174 ?_
          refine xg_iload C dL_isWater_175 rfl ?_
          refine xg_isub C dL_isWater_177 ?_
          refine xg_icmp_ne C 255 dL_isWater_178 (by decide) (fun h6 => ?_) (fun h6 => ?_)
          · refine xg_iconst C dL_isWater_255 (v := (0 : Int32)) (by decide) ?_
            have e : (jL_isWater_139 a1 (((x.1 35 0 (((8 : Int32) * (nI i)) + (4 : Int32))) + (x.1 34 0 (((8 : Int32) * (nI i)) + (3 : Int32)))) + (jL_isWater_46 a1 x.1 (nI i))) ((fX3_flowed (nI i) x.1) - (x.1 35 0 (((8 : Int32) * (nI i)) + (5 : Int32)))) ((x.1 35 0 (((8 : Int32) * (nI i)) + (7 : Int32))) * (x.1 34 0 (((8 : Int32) * (nI i)) + (2 : Int32)))) ((fX3_spilled (nI i) x.1) - (x.1 35 0 (((8 : Int32) * (nI i)) + (6 : Int32)))) ((x.1 34 0 ((8 : Int32) * (nI i))) * (x.1 34 0 (((8 : Int32) * (nI i)) + (1 : Int32)))) x.2.2.1 x.2.2.2.1 x.1 (nI i)) = (0 : Int32) := by first | (rw [jL_isWater_139, if_pos h4, if_pos h5, if_neg h6]; done) | (rw [jL_isWater_139, if_pos h4, if_pos h5, if_neg h6]; rfl)
            rw [e] at hj
            exact hj
          · refine xg_aload_n C dL_isWater_181 rfl ?_
            refine xg_iload C dL_isWater_182 rfl ?_
            refine xg_callVi C V (f := 0) (As := [.int (nI i)]) (r := (fX3_volumeByBalance (nI i) x.1)) (fun l => kX3_volumeByBalance l hap (nI i) x.1 (by assumption)) gL_isWater_X3_volumeByBalance rfl hdX3_volumeByBalance ⟨by decide, by decide⟩ rfl rfl rfl rfl rfl (Nat.le_of_ble_eq_true rfl) ⟨Nat.zero_le _, Nat.zero_le _⟩ dL_isWater_184 ?_
            refine xg_aload_n C dL_isWater_187 rfl ?_
            refine xg_iload C dL_isWater_188 rfl ?_
            refine xg_callVi C V (f := 0) (As := [.int (nI i)]) (r := (fX3_volume (nI i) x.1)) (fun l => kX3_volume l hap (nI i) x.1 (by assumption)) gL_isWater_X3_volume rfl hdX3_volume ⟨by decide, by decide⟩ rfl rfl rfl rfl rfl (Nat.le_of_ble_eq_true rfl) ⟨Nat.zero_le _, Nat.zero_le _⟩ dL_isWater_190 ?_
            refine xg_icmp_ne C 255 dL_isWater_193 (by decide) (fun h7 => ?_) (fun h7 => ?_)
            · refine xg_iconst C dL_isWater_255 (v := (0 : Int32)) (by decide) ?_
              have e : (jL_isWater_139 a1 (((x.1 35 0 (((8 : Int32) * (nI i)) + (4 : Int32))) + (x.1 34 0 (((8 : Int32) * (nI i)) + (3 : Int32)))) + (jL_isWater_46 a1 x.1 (nI i))) ((fX3_flowed (nI i) x.1) - (x.1 35 0 (((8 : Int32) * (nI i)) + (5 : Int32)))) ((x.1 35 0 (((8 : Int32) * (nI i)) + (7 : Int32))) * (x.1 34 0 (((8 : Int32) * (nI i)) + (2 : Int32)))) ((fX3_spilled (nI i) x.1) - (x.1 35 0 (((8 : Int32) * (nI i)) + (6 : Int32)))) ((x.1 34 0 ((8 : Int32) * (nI i))) * (x.1 34 0 (((8 : Int32) * (nI i)) + (1 : Int32)))) x.2.2.1 x.2.2.2.1 x.1 (nI i)) = (0 : Int32) := by first | (rw [jL_isWater_139, if_pos h4, if_pos h5, if_pos h6, if_neg h7]; done) | (rw [jL_isWater_139, if_pos h4, if_pos h5, if_pos h6, if_neg h7]; rfl)
              rw [e] at hj
              exact hj
            · refine xg_aload_n C dL_isWater_196 rfl ?_
              refine xg_iload C dL_isWater_197 rfl ?_
              refine xg_callVi C V (f := 0) (As := [.int (nI i)]) (r := (fX3_volume (nI i) x.1)) (fun l => kX3_volume l hap (nI i) x.1 (by assumption)) gL_isWater_X3_volume rfl hdX3_volume ⟨by decide, by decide⟩ rfl rfl rfl rfl rfl (Nat.le_of_ble_eq_true rfl) ⟨Nat.zero_le _, Nat.zero_le _⟩ dL_isWater_199 ?_
              refine xg_iload C dL_isWater_202 rfl ?_
              refine xg_icmp_gt C 255 dL_isWater_204 (by decide) (fun h8 => ?_) (fun h8 => ?_)
              · refine xg_iconst C dL_isWater_255 (v := (0 : Int32)) (by decide) ?_
                have e : (jL_isWater_139 a1 (((x.1 35 0 (((8 : Int32) * (nI i)) + (4 : Int32))) + (x.1 34 0 (((8 : Int32) * (nI i)) + (3 : Int32)))) + (jL_isWater_46 a1 x.1 (nI i))) ((fX3_flowed (nI i) x.1) - (x.1 35 0 (((8 : Int32) * (nI i)) + (5 : Int32)))) ((x.1 35 0 (((8 : Int32) * (nI i)) + (7 : Int32))) * (x.1 34 0 (((8 : Int32) * (nI i)) + (2 : Int32)))) ((fX3_spilled (nI i) x.1) - (x.1 35 0 (((8 : Int32) * (nI i)) + (6 : Int32)))) ((x.1 34 0 ((8 : Int32) * (nI i))) * (x.1 34 0 (((8 : Int32) * (nI i)) + (1 : Int32)))) x.2.2.1 x.2.2.2.1 x.1 (nI i)) = (0 : Int32) := by first | (rw [jL_isWater_139, if_pos h4, if_pos h5, if_pos h6, if_pos h7, if_pos h8]; done) | (rw [jL_isWater_139, if_pos h4, if_pos h5, if_pos h6, if_pos h7, if_pos h8]; rfl)
                rw [e] at hj
                exact hj
              · refine xg_iload C dL_isWater_207 rfl ?_
                refine xg_if_eq C 223 dL_isWater_209 (by decide) (fun h9 => ?_) (fun h9 => ?_)
                · refine xg_iload C dL_isWater_223 rfl ?_
                  refine xg_if_lt C 255 dL_isWater_225 (by decide) (fun h10 => ?_) (fun h10 => ?_)
                  · refine xg_iconst C dL_isWater_255 (v := (0 : Int32)) (by decide) ?_
                    have e : (jL_isWater_139 a1 (((x.1 35 0 (((8 : Int32) * (nI i)) + (4 : Int32))) + (x.1 34 0 (((8 : Int32) * (nI i)) + (3 : Int32)))) + (jL_isWater_46 a1 x.1 (nI i))) ((fX3_flowed (nI i) x.1) - (x.1 35 0 (((8 : Int32) * (nI i)) + (5 : Int32)))) ((x.1 35 0 (((8 : Int32) * (nI i)) + (7 : Int32))) * (x.1 34 0 (((8 : Int32) * (nI i)) + (2 : Int32)))) ((fX3_spilled (nI i) x.1) - (x.1 35 0 (((8 : Int32) * (nI i)) + (6 : Int32)))) ((x.1 34 0 ((8 : Int32) * (nI i))) * (x.1 34 0 (((8 : Int32) * (nI i)) + (1 : Int32)))) x.2.2.1 x.2.2.2.1 x.1 (nI i)) = (0 : Int32) := by first | (rw [jL_isWater_139, if_pos h4, if_pos h5, if_pos h6, if_pos h7, if_neg h8, if_pos h9, if_pos h10]; done) | (rw [jL_isWater_139, if_pos h4, if_pos h5, if_pos h6, if_pos h7, if_neg h8, if_pos h9, if_pos h10]; rfl)
                    rw [e] at hj
                    exact hj
                  · refine xg_aload_n C dL_isWater_228 rfl ?_
                    refine xg_iload C dL_isWater_229 rfl ?_
                    refine xg_callVi C V (f := 0) (As := [.int (nI i)]) (r := (fX3_level (nI i) x.1)) (fun l => kX3_level l hap (nI i) x.1 (by assumption)) gL_isWater_X3_level rfl hdX3_level ⟨by decide, by decide⟩ rfl rfl rfl rfl rfl (Nat.le_of_ble_eq_true rfl) ⟨Nat.zero_le _, Nat.zero_le _⟩ dL_isWater_231 ?_
                    refine xg_aload_n C dL_isWater_234 rfl ?_
                    refine xg_iload C dL_isWater_235 rfl ?_
                    refine xg_callVi C V (f := 0) (As := [.int (nI i)]) (r := (fX3_volume (nI i) x.1)) (fun l => kX3_volume l hap (nI i) x.1 (by assumption)) gL_isWater_X3_volume rfl hdX3_volume ⟨by decide, by decide⟩ rfl rfl rfl rfl rfl (Nat.le_of_ble_eq_true rfl) ⟨Nat.zero_le _, Nat.zero_le _⟩ dL_isWater_237 ?_
                    refine xg_aload_n C dL_isWater_240 rfl ?_
                    refine xg_bipush C dL_isWater_241 (v := (8 : Int32)) (by decide) ?_
                    refine xg_iload C dL_isWater_243 rfl ?_
                    refine xg_imul C dL_isWater_245 ?_
                    refine xg_iald C V (f := 34) (n := 1) (N := 64) rfl (by decide) (xR_0 (by decide)) (xin_8 (by assumption)) dL_isWater_246 (v := (x.1 34 0 ((8 : Int32) * (nI i)))) rfl ?_
                    refine xg_idiv C dL_isWater_247 (by assumption) ?_
                    refine xg_icmp_ne C 255 dL_isWater_248 (by decide) (fun h11 => ?_) (fun h11 => ?_)
                    · refine xg_iconst C dL_isWater_255 (v := (0 : Int32)) (by decide) ?_
                      have e : (jL_isWater_139 a1 (((x.1 35 0 (((8 : Int32) * (nI i)) + (4 : Int32))) + (x.1 34 0 (((8 : Int32) * (nI i)) + (3 : Int32)))) + (jL_isWater_46 a1 x.1 (nI i))) ((fX3_flowed (nI i) x.1) - (x.1 35 0 (((8 : Int32) * (nI i)) + (5 : Int32)))) ((x.1 35 0 (((8 : Int32) * (nI i)) + (7 : Int32))) * (x.1 34 0 (((8 : Int32) * (nI i)) + (2 : Int32)))) ((fX3_spilled (nI i) x.1) - (x.1 35 0 (((8 : Int32) * (nI i)) + (6 : Int32)))) ((x.1 34 0 ((8 : Int32) * (nI i))) * (x.1 34 0 (((8 : Int32) * (nI i)) + (1 : Int32)))) x.2.2.1 x.2.2.2.1 x.1 (nI i)) = (0 : Int32) := by first | (rw [jL_isWater_139, if_pos h4, if_pos h5, if_pos h6, if_pos h7, if_neg h8, if_pos h9, if_neg h10, if_neg h11]; done) | (rw [jL_isWater_139, if_pos h4, if_pos h5, if_pos h6, if_pos h7, if_neg h8, if_pos h9, if_neg h10, if_neg h11]; rfl)
                      rw [e] at hj
                      exact hj
                    · refine xg_iconst C dL_isWater_251 (v := (1 : Int32)) (by decide) ?_
                      refine xg_goto C 256 dL_isWater_252 (by decide) ?_
                      have e : (jL_isWater_139 a1 (((x.1 35 0 (((8 : Int32) * (nI i)) + (4 : Int32))) + (x.1 34 0 (((8 : Int32) * (nI i)) + (3 : Int32)))) + (jL_isWater_46 a1 x.1 (nI i))) ((fX3_flowed (nI i) x.1) - (x.1 35 0 (((8 : Int32) * (nI i)) + (5 : Int32)))) ((x.1 35 0 (((8 : Int32) * (nI i)) + (7 : Int32))) * (x.1 34 0 (((8 : Int32) * (nI i)) + (2 : Int32)))) ((fX3_spilled (nI i) x.1) - (x.1 35 0 (((8 : Int32) * (nI i)) + (6 : Int32)))) ((x.1 34 0 ((8 : Int32) * (nI i))) * (x.1 34 0 (((8 : Int32) * (nI i)) + (1 : Int32)))) x.2.2.1 x.2.2.2.1 x.1 (nI i)) = (1 : Int32) := by first | (rw [jL_isWater_139, if_pos h4, if_pos h5, if_pos h6, if_pos h7, if_neg h8, if_pos h9, if_neg h10, if_pos h11]; done) | (rw [jL_isWater_139, if_pos h4, if_pos h5, if_pos h6, if_pos h7, if_neg h8, if_pos h9, if_neg h10, if_pos h11]; rfl)
                      rw [e] at hj
                      exact hj
                · refine xg_aload_n C dL_isWater_212 rfl ?_
                  refine xg_iload C dL_isWater_213 rfl ?_
                  refine xg_callVi C V (f := 0) (As := [.int (nI i)]) (r := (fX3_volume (nI i) x.1)) (fun l => kX3_volume l hap (nI i) x.1 (by assumption)) gL_isWater_X3_volume rfl hdX3_volume ⟨by decide, by decide⟩ rfl rfl rfl rfl rfl (Nat.le_of_ble_eq_true rfl) ⟨Nat.zero_le _, Nat.zero_le _⟩ dL_isWater_215 ?_
                  refine xg_iload C dL_isWater_218 rfl ?_
                  refine xg_icmp_ne C 255 dL_isWater_220 (by decide) (fun h12 => ?_) (fun h12 => ?_)
                  · refine xg_iconst C dL_isWater_255 (v := (0 : Int32)) (by decide) ?_
                    have e : (jL_isWater_139 a1 (((x.1 35 0 (((8 : Int32) * (nI i)) + (4 : Int32))) + (x.1 34 0 (((8 : Int32) * (nI i)) + (3 : Int32)))) + (jL_isWater_46 a1 x.1 (nI i))) ((fX3_flowed (nI i) x.1) - (x.1 35 0 (((8 : Int32) * (nI i)) + (5 : Int32)))) ((x.1 35 0 (((8 : Int32) * (nI i)) + (7 : Int32))) * (x.1 34 0 (((8 : Int32) * (nI i)) + (2 : Int32)))) ((fX3_spilled (nI i) x.1) - (x.1 35 0 (((8 : Int32) * (nI i)) + (6 : Int32)))) ((x.1 34 0 ((8 : Int32) * (nI i))) * (x.1 34 0 (((8 : Int32) * (nI i)) + (1 : Int32)))) x.2.2.1 x.2.2.2.1 x.1 (nI i)) = (0 : Int32) := by first | (rw [jL_isWater_139, if_pos h4, if_pos h5, if_pos h6, if_pos h7, if_neg h8, if_neg h9, if_neg h12]; done) | (rw [jL_isWater_139, if_pos h4, if_pos h5, if_pos h6, if_pos h7, if_neg h8, if_neg h9, if_neg h12]; rfl)
                    rw [e] at hj
                    exact hj
                  · refine xg_iload C dL_isWater_223 rfl ?_
                    refine xg_if_lt C 255 dL_isWater_225 (by decide) (fun h13 => ?_) (fun h13 => ?_)
                    · refine xg_iconst C dL_isWater_255 (v := (0 : Int32)) (by decide) ?_
                      have e : (jL_isWater_139 a1 (((x.1 35 0 (((8 : Int32) * (nI i)) + (4 : Int32))) + (x.1 34 0 (((8 : Int32) * (nI i)) + (3 : Int32)))) + (jL_isWater_46 a1 x.1 (nI i))) ((fX3_flowed (nI i) x.1) - (x.1 35 0 (((8 : Int32) * (nI i)) + (5 : Int32)))) ((x.1 35 0 (((8 : Int32) * (nI i)) + (7 : Int32))) * (x.1 34 0 (((8 : Int32) * (nI i)) + (2 : Int32)))) ((fX3_spilled (nI i) x.1) - (x.1 35 0 (((8 : Int32) * (nI i)) + (6 : Int32)))) ((x.1 34 0 ((8 : Int32) * (nI i))) * (x.1 34 0 (((8 : Int32) * (nI i)) + (1 : Int32)))) x.2.2.1 x.2.2.2.1 x.1 (nI i)) = (0 : Int32) := by first | (rw [jL_isWater_139, if_pos h4, if_pos h5, if_pos h6, if_pos h7, if_neg h8, if_neg h9, if_pos h12, if_pos h13]; done) | (rw [jL_isWater_139, if_pos h4, if_pos h5, if_pos h6, if_pos h7, if_neg h8, if_neg h9, if_pos h12, if_pos h13]; rfl)
                      rw [e] at hj
                      exact hj
                    · refine xg_aload_n C dL_isWater_228 rfl ?_
                      refine xg_iload C dL_isWater_229 rfl ?_
                      refine xg_callVi C V (f := 0) (As := [.int (nI i)]) (r := (fX3_level (nI i) x.1)) (fun l => kX3_level l hap (nI i) x.1 (by assumption)) gL_isWater_X3_level rfl hdX3_level ⟨by decide, by decide⟩ rfl rfl rfl rfl rfl (Nat.le_of_ble_eq_true rfl) ⟨Nat.zero_le _, Nat.zero_le _⟩ dL_isWater_231 ?_
                      refine xg_aload_n C dL_isWater_234 rfl ?_
                      refine xg_iload C dL_isWater_235 rfl ?_
                      refine xg_callVi C V (f := 0) (As := [.int (nI i)]) (r := (fX3_volume (nI i) x.1)) (fun l => kX3_volume l hap (nI i) x.1 (by assumption)) gL_isWater_X3_volume rfl hdX3_volume ⟨by decide, by decide⟩ rfl rfl rfl rfl rfl (Nat.le_of_ble_eq_true rfl) ⟨Nat.zero_le _, Nat.zero_le _⟩ dL_isWater_237 ?_
                      refine xg_aload_n C dL_isWater_240 rfl ?_
                      refine xg_bipush C dL_isWater_241 (v := (8 : Int32)) (by decide) ?_
                      refine xg_iload C dL_isWater_243 rfl ?_
                      refine xg_imul C dL_isWater_245 ?_
                      refine xg_iald C V (f := 34) (n := 1) (N := 64) rfl (by decide) (xR_0 (by decide)) (xin_8 (by assumption)) dL_isWater_246 (v := (x.1 34 0 ((8 : Int32) * (nI i)))) rfl ?_
                      refine xg_idiv C dL_isWater_247 (by assumption) ?_
                      refine xg_icmp_ne C 255 dL_isWater_248 (by decide) (fun h14 => ?_) (fun h14 => ?_)
                      · refine xg_iconst C dL_isWater_255 (v := (0 : Int32)) (by decide) ?_
                        have e : (jL_isWater_139 a1 (((x.1 35 0 (((8 : Int32) * (nI i)) + (4 : Int32))) + (x.1 34 0 (((8 : Int32) * (nI i)) + (3 : Int32)))) + (jL_isWater_46 a1 x.1 (nI i))) ((fX3_flowed (nI i) x.1) - (x.1 35 0 (((8 : Int32) * (nI i)) + (5 : Int32)))) ((x.1 35 0 (((8 : Int32) * (nI i)) + (7 : Int32))) * (x.1 34 0 (((8 : Int32) * (nI i)) + (2 : Int32)))) ((fX3_spilled (nI i) x.1) - (x.1 35 0 (((8 : Int32) * (nI i)) + (6 : Int32)))) ((x.1 34 0 ((8 : Int32) * (nI i))) * (x.1 34 0 (((8 : Int32) * (nI i)) + (1 : Int32)))) x.2.2.1 x.2.2.2.1 x.1 (nI i)) = (0 : Int32) := by first | (rw [jL_isWater_139, if_pos h4, if_pos h5, if_pos h6, if_pos h7, if_neg h8, if_neg h9, if_pos h12, if_neg h13, if_neg h14]; done) | (rw [jL_isWater_139, if_pos h4, if_pos h5, if_pos h6, if_pos h7, if_neg h8, if_neg h9, if_pos h12, if_neg h13, if_neg h14]; rfl)
                        rw [e] at hj
                        exact hj
                      · refine xg_iconst C dL_isWater_251 (v := (1 : Int32)) (by decide) ?_
                        refine xg_goto C 256 dL_isWater_252 (by decide) ?_
                        have e : (jL_isWater_139 a1 (((x.1 35 0 (((8 : Int32) * (nI i)) + (4 : Int32))) + (x.1 34 0 (((8 : Int32) * (nI i)) + (3 : Int32)))) + (jL_isWater_46 a1 x.1 (nI i))) ((fX3_flowed (nI i) x.1) - (x.1 35 0 (((8 : Int32) * (nI i)) + (5 : Int32)))) ((x.1 35 0 (((8 : Int32) * (nI i)) + (7 : Int32))) * (x.1 34 0 (((8 : Int32) * (nI i)) + (2 : Int32)))) ((fX3_spilled (nI i) x.1) - (x.1 35 0 (((8 : Int32) * (nI i)) + (6 : Int32)))) ((x.1 34 0 ((8 : Int32) * (nI i))) * (x.1 34 0 (((8 : Int32) * (nI i)) + (1 : Int32)))) x.2.2.1 x.2.2.2.1 x.1 (nI i)) = (1 : Int32) := by first | (rw [jL_isWater_139, if_pos h4, if_pos h5, if_pos h6, if_pos h7, if_neg h8, if_neg h9, if_pos h12, if_neg h13, if_pos h14]; done) | (rw [jL_isWater_139, if_pos h4, if_pos h5, if_pos h6, if_pos h7, if_neg h8, if_neg h9, if_pos h12, if_neg h13, if_pos h14]; rfl)
                        rw [e] at hj
                        exact hj
      · refine xg_iload C dL_isWater_148 rfl ?_
        refine xg_goto C 155 dL_isWater_150 (by decide) ?_
        refine xg_icmp_ne C 255 dL_isWater_155 (by decide) (fun h15 => ?_) (fun h15 => ?_)
        · refine xg_iconst C dL_isWater_255 (v := (0 : Int32)) (by decide) ?_
          have e : (jL_isWater_139 a1 (((x.1 35 0 (((8 : Int32) * (nI i)) + (4 : Int32))) + (x.1 34 0 (((8 : Int32) * (nI i)) + (3 : Int32)))) + (jL_isWater_46 a1 x.1 (nI i))) ((fX3_flowed (nI i) x.1) - (x.1 35 0 (((8 : Int32) * (nI i)) + (5 : Int32)))) ((x.1 35 0 (((8 : Int32) * (nI i)) + (7 : Int32))) * (x.1 34 0 (((8 : Int32) * (nI i)) + (2 : Int32)))) ((fX3_spilled (nI i) x.1) - (x.1 35 0 (((8 : Int32) * (nI i)) + (6 : Int32)))) ((x.1 34 0 ((8 : Int32) * (nI i))) * (x.1 34 0 (((8 : Int32) * (nI i)) + (1 : Int32)))) x.2.2.1 x.2.2.2.1 x.1 (nI i)) = (0 : Int32) := by first | (rw [jL_isWater_139, if_neg h4, if_neg h15]; done) | (rw [jL_isWater_139, if_neg h4, if_neg h15]; rfl)
          rw [e] at hj
          exact hj
        · refine xg_aload_n C dL_isWater_158 rfl ?_
          refine xg_iload C dL_isWater_159 rfl ?_
          refine xg_callVi C V (f := 0) (As := [.int (nI i)]) (r := (fX3_volume (nI i) x.1)) (fun l => kX3_volume l hap (nI i) x.1 (by assumption)) gL_isWater_X3_volume rfl hdX3_volume ⟨by decide, by decide⟩ rfl rfl rfl rfl rfl (Nat.le_of_ble_eq_true rfl) ⟨Nat.zero_le _, Nat.zero_le _⟩ dL_isWater_161 ?_
          refine xg_iload C dL_isWater_164 rfl ?_
          refine xg_iload C dL_isWater_166 rfl ?_
          refine xg_iadd C dL_isWater_168 ?_
          refine xg_iload C dL_isWater_169 rfl ?_
          refine xg_iadd C dL_isWater_171 ?_
          refine xg_iload C dL_isWater_172 rfl ?_
          refine xg_isub C dL_isWater_174 ?_
          refine xg_iload C dL_isWater_175 rfl ?_
          refine xg_isub C dL_isWater_177 ?_
          refine xg_icmp_ne C 255 dL_isWater_178 (by decide) (fun h16 => ?_) (fun h16 => ?_)
          · refine xg_iconst C dL_isWater_255 (v := (0 : Int32)) (by decide) ?_
            have e : (jL_isWater_139 a1 (((x.1 35 0 (((8 : Int32) * (nI i)) + (4 : Int32))) + (x.1 34 0 (((8 : Int32) * (nI i)) + (3 : Int32)))) + (jL_isWater_46 a1 x.1 (nI i))) ((fX3_flowed (nI i) x.1) - (x.1 35 0 (((8 : Int32) * (nI i)) + (5 : Int32)))) ((x.1 35 0 (((8 : Int32) * (nI i)) + (7 : Int32))) * (x.1 34 0 (((8 : Int32) * (nI i)) + (2 : Int32)))) ((fX3_spilled (nI i) x.1) - (x.1 35 0 (((8 : Int32) * (nI i)) + (6 : Int32)))) ((x.1 34 0 ((8 : Int32) * (nI i))) * (x.1 34 0 (((8 : Int32) * (nI i)) + (1 : Int32)))) x.2.2.1 x.2.2.2.1 x.1 (nI i)) = (0 : Int32) := by first | (rw [jL_isWater_139, if_neg h4, if_pos h15, if_neg h16]; done) | (rw [jL_isWater_139, if_neg h4, if_pos h15, if_neg h16]; rfl)
            rw [e] at hj
            exact hj
          · refine xg_aload_n C dL_isWater_181 rfl ?_
            refine xg_iload C dL_isWater_182 rfl ?_
            refine xg_callVi C V (f := 0) (As := [.int (nI i)]) (r := (fX3_volumeByBalance (nI i) x.1)) (fun l => kX3_volumeByBalance l hap (nI i) x.1 (by assumption)) gL_isWater_X3_volumeByBalance rfl hdX3_volumeByBalance ⟨by decide, by decide⟩ rfl rfl rfl rfl rfl (Nat.le_of_ble_eq_true rfl) ⟨Nat.zero_le _, Nat.zero_le _⟩ dL_isWater_184 ?_
            refine xg_aload_n C dL_isWater_187 rfl ?_
            refine xg_iload C dL_isWater_188 rfl ?_
            refine xg_callVi C V (f := 0) (As := [.int (nI i)]) (r := (fX3_volume (nI i) x.1)) (fun l => kX3_volume l hap (nI i) x.1 (by assumption)) gL_isWater_X3_volume rfl hdX3_volume ⟨by decide, by decide⟩ rfl rfl rfl rfl rfl (Nat.le_of_ble_eq_true rfl) ⟨Nat.zero_le _, Nat.zero_le _⟩ dL_isWater_190 ?_
            refine xg_icmp_ne C 255 dL_isWater_193 (by decide) (fun h17 => ?_) (fun h17 => ?_)
            · refine xg_iconst C dL_isWater_255 (v := (0 : Int32)) (by decide) ?_
              have e : (jL_isWater_139 a1 (((x.1 35 0 (((8 : Int32) * (nI i)) + (4 : Int32))) + (x.1 34 0 (((8 : Int32) * (nI i)) + (3 : Int32)))) + (jL_isWater_46 a1 x.1 (nI i))) ((fX3_flowed (nI i) x.1) - (x.1 35 0 (((8 : Int32) * (nI i)) + (5 : Int32)))) ((x.1 35 0 (((8 : Int32) * (nI i)) + (7 : Int32))) * (x.1 34 0 (((8 : Int32) * (nI i)) + (2 : Int32)))) ((fX3_spilled (nI i) x.1) - (x.1 35 0 (((8 : Int32) * (nI i)) + (6 : Int32)))) ((x.1 34 0 ((8 : Int32) * (nI i))) * (x.1 34 0 (((8 : Int32) * (nI i)) + (1 : Int32)))) x.2.2.1 x.2.2.2.1 x.1 (nI i)) = (0 : Int32) := by first | (rw [jL_isWater_139, if_neg h4, if_pos h15, if_pos h16, if_neg h17]; done) | (rw [jL_isWater_139, if_neg h4, if_pos h15, if_pos h16, if_neg h17]; rfl)
              rw [e] at hj
              exact hj
            · refine xg_aload_n C dL_isWater_196 rfl ?_
              refine xg_iload C dL_isWater_197 rfl ?_
              refine xg_callVi C V (f := 0) (As := [.int (nI i)]) (r := (fX3_volume (nI i) x.1)) (fun l => kX3_volume l hap (nI i) x.1 (by assumption)) gL_isWater_X3_volume rfl hdX3_volume ⟨by decide, by decide⟩ rfl rfl rfl rfl rfl (Nat.le_of_ble_eq_true rfl) ⟨Nat.zero_le _, Nat.zero_le _⟩ dL_isWater_199 ?_
              refine xg_iload C dL_isWater_202 rfl ?_
              refine xg_icmp_gt C 255 dL_isWater_204 (by decide) (fun h18 => ?_) (fun h18 => ?_)
              · refine xg_iconst C dL_isWater_255 (v := (0 : Int32)) (by decide) ?_
                have e : (jL_isWater_139 a1 (((x.1 35 0 (((8 : Int32) * (nI i)) + (4 : Int32))) + (x.1 34 0 (((8 : Int32) * (nI i)) + (3 : Int32)))) + (jL_isWater_46 a1 x.1 (nI i))) ((fX3_flowed (nI i) x.1) - (x.1 35 0 (((8 : Int32) * (nI i)) + (5 : Int32)))) ((x.1 35 0 (((8 : Int32) * (nI i)) + (7 : Int32))) * (x.1 34 0 (((8 : Int32) * (nI i)) + (2 : Int32)))) ((fX3_spilled (nI i) x.1) - (x.1 35 0 (((8 : Int32) * (nI i)) + (6 : Int32)))) ((x.1 34 0 ((8 : Int32) * (nI i))) * (x.1 34 0 (((8 : Int32) * (nI i)) + (1 : Int32)))) x.2.2.1 x.2.2.2.1 x.1 (nI i)) = (0 : Int32) := by first | (rw [jL_isWater_139, if_neg h4, if_pos h15, if_pos h16, if_pos h17, if_pos h18]; done) | (rw [jL_isWater_139, if_neg h4, if_pos h15, if_pos h16, if_pos h17, if_pos h18]; rfl)
                rw [e] at hj
                exact hj
              · refine xg_iload C dL_isWater_207 rfl ?_
                refine xg_if_eq C 223 dL_isWater_209 (by decide) (fun h19 => ?_) (fun h19 => ?_)
                · refine xg_iload C dL_isWater_223 rfl ?_
                  refine xg_if_lt C 255 dL_isWater_225 (by decide) (fun h20 => ?_) (fun h20 => ?_)
                  · refine xg_iconst C dL_isWater_255 (v := (0 : Int32)) (by decide) ?_
                    have e : (jL_isWater_139 a1 (((x.1 35 0 (((8 : Int32) * (nI i)) + (4 : Int32))) + (x.1 34 0 (((8 : Int32) * (nI i)) + (3 : Int32)))) + (jL_isWater_46 a1 x.1 (nI i))) ((fX3_flowed (nI i) x.1) - (x.1 35 0 (((8 : Int32) * (nI i)) + (5 : Int32)))) ((x.1 35 0 (((8 : Int32) * (nI i)) + (7 : Int32))) * (x.1 34 0 (((8 : Int32) * (nI i)) + (2 : Int32)))) ((fX3_spilled (nI i) x.1) - (x.1 35 0 (((8 : Int32) * (nI i)) + (6 : Int32)))) ((x.1 34 0 ((8 : Int32) * (nI i))) * (x.1 34 0 (((8 : Int32) * (nI i)) + (1 : Int32)))) x.2.2.1 x.2.2.2.1 x.1 (nI i)) = (0 : Int32) := by first | (rw [jL_isWater_139, if_neg h4, if_pos h15, if_pos h16, if_pos h17, if_neg h18, if_pos h19, if_pos h20]; done) | (rw [jL_isWater_139, if_neg h4, if_pos h15, if_pos h16, if_pos h17, if_neg h18, if_pos h19, if_pos h20]; rfl)
                    rw [e] at hj
                    exact hj
                  · refine xg_aload_n C dL_isWater_228 rfl ?_
                    refine xg_iload C dL_isWater_229 rfl ?_
                    refine xg_callVi C V (f := 0) (As := [.int (nI i)]) (r := (fX3_level (nI i) x.1)) (fun l => kX3_level l hap (nI i) x.1 (by assumption)) gL_isWater_X3_level rfl hdX3_level ⟨by decide, by decide⟩ rfl rfl rfl rfl rfl (Nat.le_of_ble_eq_true rfl) ⟨Nat.zero_le _, Nat.zero_le _⟩ dL_isWater_231 ?_
                    refine xg_aload_n C dL_isWater_234 rfl ?_
                    refine xg_iload C dL_isWater_235 rfl ?_
                    refine xg_callVi C V (f := 0) (As := [.int (nI i)]) (r := (fX3_volume (nI i) x.1)) (fun l => kX3_volume l hap (nI i) x.1 (by assumption)) gL_isWater_X3_volume rfl hdX3_volume ⟨by decide, by decide⟩ rfl rfl rfl rfl rfl (Nat.le_of_ble_eq_true rfl) ⟨Nat.zero_le _, Nat.zero_le _⟩ dL_isWater_237 ?_
                    refine xg_aload_n C dL_isWater_240 rfl ?_
                    refine xg_bipush C dL_isWater_241 (v := (8 : Int32)) (by decide) ?_
                    refine xg_iload C dL_isWater_243 rfl ?_
                    refine xg_imul C dL_isWater_245 ?_
                    refine xg_iald C V (f := 34) (n := 1) (N := 64) rfl (by decide) (xR_0 (by decide)) (xin_8 (by assumption)) dL_isWater_246 (v := (x.1 34 0 ((8 : Int32) * (nI i)))) rfl ?_
                    refine xg_idiv C dL_isWater_247 (by assumption) ?_
                    refine xg_icmp_ne C 255 dL_isWater_248 (by decide) (fun h21 => ?_) (fun h21 => ?_)
                    · refine xg_iconst C dL_isWater_255 (v := (0 : Int32)) (by decide) ?_
                      have e : (jL_isWater_139 a1 (((x.1 35 0 (((8 : Int32) * (nI i)) + (4 : Int32))) + (x.1 34 0 (((8 : Int32) * (nI i)) + (3 : Int32)))) + (jL_isWater_46 a1 x.1 (nI i))) ((fX3_flowed (nI i) x.1) - (x.1 35 0 (((8 : Int32) * (nI i)) + (5 : Int32)))) ((x.1 35 0 (((8 : Int32) * (nI i)) + (7 : Int32))) * (x.1 34 0 (((8 : Int32) * (nI i)) + (2 : Int32)))) ((fX3_spilled (nI i) x.1) - (x.1 35 0 (((8 : Int32) * (nI i)) + (6 : Int32)))) ((x.1 34 0 ((8 : Int32) * (nI i))) * (x.1 34 0 (((8 : Int32) * (nI i)) + (1 : Int32)))) x.2.2.1 x.2.2.2.1 x.1 (nI i)) = (0 : Int32) := by first | (rw [jL_isWater_139, if_neg h4, if_pos h15, if_pos h16, if_pos h17, if_neg h18, if_pos h19, if_neg h20, if_neg h21]; done) | (rw [jL_isWater_139, if_neg h4, if_pos h15, if_pos h16, if_pos h17, if_neg h18, if_pos h19, if_neg h20, if_neg h21]; rfl)
                      rw [e] at hj
                      exact hj
                    · refine xg_iconst C dL_isWater_251 (v := (1 : Int32)) (by decide) ?_
                      refine xg_goto C 256 dL_isWater_252 (by decide) ?_
                      have e : (jL_isWater_139 a1 (((x.1 35 0 (((8 : Int32) * (nI i)) + (4 : Int32))) + (x.1 34 0 (((8 : Int32) * (nI i)) + (3 : Int32)))) + (jL_isWater_46 a1 x.1 (nI i))) ((fX3_flowed (nI i) x.1) - (x.1 35 0 (((8 : Int32) * (nI i)) + (5 : Int32)))) ((x.1 35 0 (((8 : Int32) * (nI i)) + (7 : Int32))) * (x.1 34 0 (((8 : Int32) * (nI i)) + (2 : Int32)))) ((fX3_spilled (nI i) x.1) - (x.1 35 0 (((8 : Int32) * (nI i)) + (6 : Int32)))) ((x.1 34 0 ((8 : Int32) * (nI i))) * (x.1 34 0 (((8 : Int32) * (nI i)) + (1 : Int32)))) x.2.2.1 x.2.2.2.1 x.1 (nI i)) = (1 : Int32) := by first | (rw [jL_isWater_139, if_neg h4, if_pos h15, if_pos h16, if_pos h17, if_neg h18, if_pos h19, if_neg h20, if_pos h21]; done) | (rw [jL_isWater_139, if_neg h4, if_pos h15, if_pos h16, if_pos h17, if_neg h18, if_pos h19, if_neg h20, if_pos h21]; rfl)
                      rw [e] at hj
                      exact hj
                · refine xg_aload_n C dL_isWater_212 rfl ?_
                  refine xg_iload C dL_isWater_213 rfl ?_
                  refine xg_callVi C V (f := 0) (As := [.int (nI i)]) (r := (fX3_volume (nI i) x.1)) (fun l => kX3_volume l hap (nI i) x.1 (by assumption)) gL_isWater_X3_volume rfl hdX3_volume ⟨by decide, by decide⟩ rfl rfl rfl rfl rfl (Nat.le_of_ble_eq_true rfl) ⟨Nat.zero_le _, Nat.zero_le _⟩ dL_isWater_215 ?_
                  refine xg_iload C dL_isWater_218 rfl ?_
                  refine xg_icmp_ne C 255 dL_isWater_220 (by decide) (fun h22 => ?_) (fun h22 => ?_)
                  · refine xg_iconst C dL_isWater_255 (v := (0 : Int32)) (by decide) ?_
                    have e : (jL_isWater_139 a1 (((x.1 35 0 (((8 : Int32) * (nI i)) + (4 : Int32))) + (x.1 34 0 (((8 : Int32) * (nI i)) + (3 : Int32)))) + (jL_isWater_46 a1 x.1 (nI i))) ((fX3_flowed (nI i) x.1) - (x.1 35 0 (((8 : Int32) * (nI i)) + (5 : Int32)))) ((x.1 35 0 (((8 : Int32) * (nI i)) + (7 : Int32))) * (x.1 34 0 (((8 : Int32) * (nI i)) + (2 : Int32)))) ((fX3_spilled (nI i) x.1) - (x.1 35 0 (((8 : Int32) * (nI i)) + (6 : Int32)))) ((x.1 34 0 ((8 : Int32) * (nI i))) * (x.1 34 0 (((8 : Int32) * (nI i)) + (1 : Int32)))) x.2.2.1 x.2.2.2.1 x.1 (nI i)) = (0 : Int32) := by first | (rw [jL_isWater_139, if_neg h4, if_pos h15, if_pos h16, if_pos h17, if_neg h18, if_neg h19, if_neg h22]; done) | (rw [jL_isWater_139, if_neg h4, if_pos h15, if_pos h16, if_pos h17, if_neg h18, if_neg h19, if_neg h22]; rfl)
                    rw [e] at hj
                    exact hj
                  · refine xg_iload C dL_isWater_223 rfl ?_
                    refine xg_if_lt C 255 dL_isWater_225 (by decide) (fun h23 => ?_) (fun h23 => ?_)
                    · refine xg_iconst C dL_isWater_255 (v := (0 : Int32)) (by decide) ?_
                      have e : (jL_isWater_139 a1 (((x.1 35 0 (((8 : Int32) * (nI i)) + (4 : Int32))) + (x.1 34 0 (((8 : Int32) * (nI i)) + (3 : Int32)))) + (jL_isWater_46 a1 x.1 (nI i))) ((fX3_flowed (nI i) x.1) - (x.1 35 0 (((8 : Int32) * (nI i)) + (5 : Int32)))) ((x.1 35 0 (((8 : Int32) * (nI i)) + (7 : Int32))) * (x.1 34 0 (((8 : Int32) * (nI i)) + (2 : Int32)))) ((fX3_spilled (nI i) x.1) - (x.1 35 0 (((8 : Int32) * (nI i)) + (6 : Int32)))) ((x.1 34 0 ((8 : Int32) * (nI i))) * (x.1 34 0 (((8 : Int32) * (nI i)) + (1 : Int32)))) x.2.2.1 x.2.2.2.1 x.1 (nI i)) = (0 : Int32) := by first | (rw [jL_isWater_139, if_neg h4, if_pos h15, if_pos h16, if_pos h17, if_neg h18, if_neg h19, if_pos h22, if_pos h23]; done) | (rw [jL_isWater_139, if_neg h4, if_pos h15, if_pos h16, if_pos h17, if_neg h18, if_neg h19, if_pos h22, if_pos h23]; rfl)
                      rw [e] at hj
                      exact hj
                    · refine xg_aload_n C dL_isWater_228 rfl ?_
                      refine xg_iload C dL_isWater_229 rfl ?_
                      refine xg_callVi C V (f := 0) (As := [.int (nI i)]) (r := (fX3_level (nI i) x.1)) (fun l => kX3_level l hap (nI i) x.1 (by assumption)) gL_isWater_X3_level rfl hdX3_level ⟨by decide, by decide⟩ rfl rfl rfl rfl rfl (Nat.le_of_ble_eq_true rfl) ⟨Nat.zero_le _, Nat.zero_le _⟩ dL_isWater_231 ?_
                      refine xg_aload_n C dL_isWater_234 rfl ?_
                      refine xg_iload C dL_isWater_235 rfl ?_
                      refine xg_callVi C V (f := 0) (As := [.int (nI i)]) (r := (fX3_volume (nI i) x.1)) (fun l => kX3_volume l hap (nI i) x.1 (by assumption)) gL_isWater_X3_volume rfl hdX3_volume ⟨by decide, by decide⟩ rfl rfl rfl rfl rfl (Nat.le_of_ble_eq_true rfl) ⟨Nat.zero_le _, Nat.zero_le _⟩ dL_isWater_237 ?_
                      refine xg_aload_n C dL_isWater_240 rfl ?_
                      refine xg_bipush C dL_isWater_241 (v := (8 : Int32)) (by decide) ?_
                      refine xg_iload C dL_isWater_243 rfl ?_
                      refine xg_imul C dL_isWater_245 ?_
                      refine xg_iald C V (f := 34) (n := 1) (N := 64) rfl (by decide) (xR_0 (by decide)) (xin_8 (by assumption)) dL_isWater_246 (v := (x.1 34 0 ((8 : Int32) * (nI i)))) rfl ?_
                      refine xg_idiv C dL_isWater_247 (by assumption) ?_
                      refine xg_icmp_ne C 255 dL_isWater_248 (by decide) (fun h24 => ?_) (fun h24 => ?_)
                      · refine xg_iconst C dL_isWater_255 (v := (0 : Int32)) (by decide) ?_
                        have e : (jL_isWater_139 a1 (((x.1 35 0 (((8 : Int32) * (nI i)) + (4 : Int32))) + (x.1 34 0 (((8 : Int32) * (nI i)) + (3 : Int32)))) + (jL_isWater_46 a1 x.1 (nI i))) ((fX3_flowed (nI i) x.1) - (x.1 35 0 (((8 : Int32) * (nI i)) + (5 : Int32)))) ((x.1 35 0 (((8 : Int32) * (nI i)) + (7 : Int32))) * (x.1 34 0 (((8 : Int32) * (nI i)) + (2 : Int32)))) ((fX3_spilled (nI i) x.1) - (x.1 35 0 (((8 : Int32) * (nI i)) + (6 : Int32)))) ((x.1 34 0 ((8 : Int32) * (nI i))) * (x.1 34 0 (((8 : Int32) * (nI i)) + (1 : Int32)))) x.2.2.1 x.2.2.2.1 x.1 (nI i)) = (0 : Int32) := by first | (rw [jL_isWater_139, if_neg h4, if_pos h15, if_pos h16, if_pos h17, if_neg h18, if_neg h19, if_pos h22, if_neg h23, if_neg h24]; done) | (rw [jL_isWater_139, if_neg h4, if_pos h15, if_pos h16, if_pos h17, if_neg h18, if_neg h19, if_pos h22, if_neg h23, if_neg h24]; rfl)
                        rw [e] at hj
                        exact hj
                      · refine xg_iconst C dL_isWater_251 (v := (1 : Int32)) (by decide) ?_
                        refine xg_goto C 256 dL_isWater_252 (by decide) ?_
                        have e : (jL_isWater_139 a1 (((x.1 35 0 (((8 : Int32) * (nI i)) + (4 : Int32))) + (x.1 34 0 (((8 : Int32) * (nI i)) + (3 : Int32)))) + (jL_isWater_46 a1 x.1 (nI i))) ((fX3_flowed (nI i) x.1) - (x.1 35 0 (((8 : Int32) * (nI i)) + (5 : Int32)))) ((x.1 35 0 (((8 : Int32) * (nI i)) + (7 : Int32))) * (x.1 34 0 (((8 : Int32) * (nI i)) + (2 : Int32)))) ((fX3_spilled (nI i) x.1) - (x.1 35 0 (((8 : Int32) * (nI i)) + (6 : Int32)))) ((x.1 34 0 ((8 : Int32) * (nI i))) * (x.1 34 0 (((8 : Int32) * (nI i)) + (1 : Int32)))) x.2.2.1 x.2.2.2.1 x.1 (nI i)) = (1 : Int32) := by first | (rw [jL_isWater_139, if_neg h4, if_pos h15, if_pos h16, if_pos h17, if_neg h18, if_neg h19, if_pos h22, if_neg h23, if_pos h24]; done) | (rw [jL_isWater_139, if_neg h4, if_pos h15, if_pos h16, if_pos h17, if_neg h18, if_neg h19, if_pos h22, if_neg h23, if_pos h24]; rfl)
                        rw [e] at hj
                        exact hj
    refine xg_istore C dL_isWater_256 (by decide) (L' := [some (.ref (G.2.2 0 0)), some (.ref (G.2.2 34 0)), some (.ref (G.2.2 35 0)), some (.ref (G.2.2 39 0)), some (.int a1), some (.int x.2.1), some (.int x.2.2.1), some (.int x.2.2.2.1), some (.int (jL_isWater_139 a1 (((x.1 35 0 (((8 : Int32) * (nI i)) + (4 : Int32))) + (x.1 34 0 (((8 : Int32) * (nI i)) + (3 : Int32)))) + (jL_isWater_46 a1 x.1 (nI i))) ((fX3_flowed (nI i) x.1) - (x.1 35 0 (((8 : Int32) * (nI i)) + (5 : Int32)))) ((x.1 35 0 (((8 : Int32) * (nI i)) + (7 : Int32))) * (x.1 34 0 (((8 : Int32) * (nI i)) + (2 : Int32)))) ((fX3_spilled (nI i) x.1) - (x.1 35 0 (((8 : Int32) * (nI i)) + (6 : Int32)))) ((x.1 34 0 ((8 : Int32) * (nI i))) * (x.1 34 0 (((8 : Int32) * (nI i)) + (1 : Int32)))) x.2.2.1 x.2.2.2.1 x.1 (nI i))), some (.int (nI i)), some (.int (((x.1 35 0 (((8 : Int32) * (nI i)) + (4 : Int32))) + (x.1 34 0 (((8 : Int32) * (nI i)) + (3 : Int32)))) + (jL_isWater_46 a1 x.1 (nI i)))), some (.int ((fX3_flowed (nI i) x.1) - (x.1 35 0 (((8 : Int32) * (nI i)) + (5 : Int32))))), some (.int ((x.1 35 0 (((8 : Int32) * (nI i)) + (7 : Int32))) * (x.1 34 0 (((8 : Int32) * (nI i)) + (2 : Int32))))), some (.int ((fX3_spilled (nI i) x.1) - (x.1 35 0 (((8 : Int32) * (nI i)) + (6 : Int32))))), some (.int ((x.1 34 0 ((8 : Int32) * (nI i))) * (x.1 34 0 (((8 : Int32) * (nI i)) + (1 : Int32)))))]) rfl ?_
    refine xg_iload C dL_isWater_258 rfl ?_
    refine xg_istore C dL_isWater_260 (by decide) (L' := [some (.ref (G.2.2 0 0)), some (.ref (G.2.2 34 0)), some (.ref (G.2.2 35 0)), some (.ref (G.2.2 39 0)), some (.int a1), some (.int x.2.1), some (.int ((fX3_flowed (nI i) x.1) - (x.1 35 0 (((8 : Int32) * (nI i)) + (5 : Int32))))), some (.int x.2.2.2.1), some (.int (jL_isWater_139 a1 (((x.1 35 0 (((8 : Int32) * (nI i)) + (4 : Int32))) + (x.1 34 0 (((8 : Int32) * (nI i)) + (3 : Int32)))) + (jL_isWater_46 a1 x.1 (nI i))) ((fX3_flowed (nI i) x.1) - (x.1 35 0 (((8 : Int32) * (nI i)) + (5 : Int32)))) ((x.1 35 0 (((8 : Int32) * (nI i)) + (7 : Int32))) * (x.1 34 0 (((8 : Int32) * (nI i)) + (2 : Int32)))) ((fX3_spilled (nI i) x.1) - (x.1 35 0 (((8 : Int32) * (nI i)) + (6 : Int32)))) ((x.1 34 0 ((8 : Int32) * (nI i))) * (x.1 34 0 (((8 : Int32) * (nI i)) + (1 : Int32)))) x.2.2.1 x.2.2.2.1 x.1 (nI i))), some (.int (nI i)), some (.int (((x.1 35 0 (((8 : Int32) * (nI i)) + (4 : Int32))) + (x.1 34 0 (((8 : Int32) * (nI i)) + (3 : Int32)))) + (jL_isWater_46 a1 x.1 (nI i)))), some (.int ((fX3_flowed (nI i) x.1) - (x.1 35 0 (((8 : Int32) * (nI i)) + (5 : Int32))))), some (.int ((x.1 35 0 (((8 : Int32) * (nI i)) + (7 : Int32))) * (x.1 34 0 (((8 : Int32) * (nI i)) + (2 : Int32))))), some (.int ((fX3_spilled (nI i) x.1) - (x.1 35 0 (((8 : Int32) * (nI i)) + (6 : Int32))))), some (.int ((x.1 34 0 ((8 : Int32) * (nI i))) * (x.1 34 0 (((8 : Int32) * (nI i)) + (1 : Int32)))))]) rfl ?_
    refine xg_iload C dL_isWater_262 rfl ?_
    refine xg_istore C dL_isWater_264 (by decide) (L' := [some (.ref (G.2.2 0 0)), some (.ref (G.2.2 34 0)), some (.ref (G.2.2 35 0)), some (.ref (G.2.2 39 0)), some (.int a1), some (.int x.2.1), some (.int ((fX3_flowed (nI i) x.1) - (x.1 35 0 (((8 : Int32) * (nI i)) + (5 : Int32))))), some (.int ((fX3_spilled (nI i) x.1) - (x.1 35 0 (((8 : Int32) * (nI i)) + (6 : Int32))))), some (.int (jL_isWater_139 a1 (((x.1 35 0 (((8 : Int32) * (nI i)) + (4 : Int32))) + (x.1 34 0 (((8 : Int32) * (nI i)) + (3 : Int32)))) + (jL_isWater_46 a1 x.1 (nI i))) ((fX3_flowed (nI i) x.1) - (x.1 35 0 (((8 : Int32) * (nI i)) + (5 : Int32)))) ((x.1 35 0 (((8 : Int32) * (nI i)) + (7 : Int32))) * (x.1 34 0 (((8 : Int32) * (nI i)) + (2 : Int32)))) ((fX3_spilled (nI i) x.1) - (x.1 35 0 (((8 : Int32) * (nI i)) + (6 : Int32)))) ((x.1 34 0 ((8 : Int32) * (nI i))) * (x.1 34 0 (((8 : Int32) * (nI i)) + (1 : Int32)))) x.2.2.1 x.2.2.2.1 x.1 (nI i))), some (.int (nI i)), some (.int (((x.1 35 0 (((8 : Int32) * (nI i)) + (4 : Int32))) + (x.1 34 0 (((8 : Int32) * (nI i)) + (3 : Int32)))) + (jL_isWater_46 a1 x.1 (nI i)))), some (.int ((fX3_flowed (nI i) x.1) - (x.1 35 0 (((8 : Int32) * (nI i)) + (5 : Int32))))), some (.int ((x.1 35 0 (((8 : Int32) * (nI i)) + (7 : Int32))) * (x.1 34 0 (((8 : Int32) * (nI i)) + (2 : Int32))))), some (.int ((fX3_spilled (nI i) x.1) - (x.1 35 0 (((8 : Int32) * (nI i)) + (6 : Int32))))), some (.int ((x.1 34 0 ((8 : Int32) * (nI i))) * (x.1 34 0 (((8 : Int32) * (nI i)) + (1 : Int32)))))]) rfl ?_
    refine xg_iload C dL_isWater_266 rfl ?_
    refine xg_iload C dL_isWater_268 rfl ?_
    refine xg_iadd C dL_isWater_270 ?_
    refine xg_istore C dL_isWater_271 (by decide) (L' := [some (.ref (G.2.2 0 0)), some (.ref (G.2.2 34 0)), some (.ref (G.2.2 35 0)), some (.ref (G.2.2 39 0)), some (.int a1), some (.int (x.2.1 + ((fX3_spilled (nI i) x.1) - (x.1 35 0 (((8 : Int32) * (nI i)) + (6 : Int32)))))), some (.int ((fX3_flowed (nI i) x.1) - (x.1 35 0 (((8 : Int32) * (nI i)) + (5 : Int32))))), some (.int ((fX3_spilled (nI i) x.1) - (x.1 35 0 (((8 : Int32) * (nI i)) + (6 : Int32))))), some (.int (jL_isWater_139 a1 (((x.1 35 0 (((8 : Int32) * (nI i)) + (4 : Int32))) + (x.1 34 0 (((8 : Int32) * (nI i)) + (3 : Int32)))) + (jL_isWater_46 a1 x.1 (nI i))) ((fX3_flowed (nI i) x.1) - (x.1 35 0 (((8 : Int32) * (nI i)) + (5 : Int32)))) ((x.1 35 0 (((8 : Int32) * (nI i)) + (7 : Int32))) * (x.1 34 0 (((8 : Int32) * (nI i)) + (2 : Int32)))) ((fX3_spilled (nI i) x.1) - (x.1 35 0 (((8 : Int32) * (nI i)) + (6 : Int32)))) ((x.1 34 0 ((8 : Int32) * (nI i))) * (x.1 34 0 (((8 : Int32) * (nI i)) + (1 : Int32)))) x.2.2.1 x.2.2.2.1 x.1 (nI i))), some (.int (nI i)), some (.int (((x.1 35 0 (((8 : Int32) * (nI i)) + (4 : Int32))) + (x.1 34 0 (((8 : Int32) * (nI i)) + (3 : Int32)))) + (jL_isWater_46 a1 x.1 (nI i)))), some (.int ((fX3_flowed (nI i) x.1) - (x.1 35 0 (((8 : Int32) * (nI i)) + (5 : Int32))))), some (.int ((x.1 35 0 (((8 : Int32) * (nI i)) + (7 : Int32))) * (x.1 34 0 (((8 : Int32) * (nI i)) + (2 : Int32))))), some (.int ((fX3_spilled (nI i) x.1) - (x.1 35 0 (((8 : Int32) * (nI i)) + (6 : Int32))))), some (.int ((x.1 34 0 ((8 : Int32) * (nI i))) * (x.1 34 0 (((8 : Int32) * (nI i)) + (1 : Int32)))))]) rfl ?_
    refine xg_aload_n C dL_isWater_273 rfl ?_
    refine xg_bipush C dL_isWater_274 (v := (8 : Int32)) (by decide) ?_
    refine xg_iload C dL_isWater_276 rfl ?_
    refine xg_imul C dL_isWater_278 ?_
    refine xg_iconst C dL_isWater_279 (v := (3 : Int32)) (by decide) ?_
    refine xg_iadd C dL_isWater_280 ?_
    refine xg_iconst C dL_isWater_281 (v := (0 : Int32)) (by decide) ?_
    refine xg_iast C V (f := 34) (n := 1) (N := 64) rfl (by decide) (xR_0 (by decide)) (xin_8k (by assumption) (vp_in_iff.mpr ⟨by decide, by decide⟩)) dL_isWater_282 ?_
    refine xg_iinc C dL_isWater_283 rfl (v := (nI (i + 1))) (xinc i) (by decide) (L' := [some (.ref (G.2.2 0 0)), some (.ref (G.2.2 34 0)), some (.ref (G.2.2 35 0)), some (.ref (G.2.2 39 0)), some (.int a1), some (.int (x.2.1 + ((fX3_spilled (nI i) x.1) - (x.1 35 0 (((8 : Int32) * (nI i)) + (6 : Int32)))))), some (.int ((fX3_flowed (nI i) x.1) - (x.1 35 0 (((8 : Int32) * (nI i)) + (5 : Int32))))), some (.int ((fX3_spilled (nI i) x.1) - (x.1 35 0 (((8 : Int32) * (nI i)) + (6 : Int32))))), some (.int (jL_isWater_139 a1 (((x.1 35 0 (((8 : Int32) * (nI i)) + (4 : Int32))) + (x.1 34 0 (((8 : Int32) * (nI i)) + (3 : Int32)))) + (jL_isWater_46 a1 x.1 (nI i))) ((fX3_flowed (nI i) x.1) - (x.1 35 0 (((8 : Int32) * (nI i)) + (5 : Int32)))) ((x.1 35 0 (((8 : Int32) * (nI i)) + (7 : Int32))) * (x.1 34 0 (((8 : Int32) * (nI i)) + (2 : Int32)))) ((fX3_spilled (nI i) x.1) - (x.1 35 0 (((8 : Int32) * (nI i)) + (6 : Int32)))) ((x.1 34 0 ((8 : Int32) * (nI i))) * (x.1 34 0 (((8 : Int32) * (nI i)) + (1 : Int32)))) x.2.2.1 x.2.2.2.1 x.1 (nI i))), some (.int (nI (i + 1))), some (.int (((x.1 35 0 (((8 : Int32) * (nI i)) + (4 : Int32))) + (x.1 34 0 (((8 : Int32) * (nI i)) + (3 : Int32)))) + (jL_isWater_46 a1 x.1 (nI i)))), some (.int ((fX3_flowed (nI i) x.1) - (x.1 35 0 (((8 : Int32) * (nI i)) + (5 : Int32))))), some (.int ((x.1 35 0 (((8 : Int32) * (nI i)) + (7 : Int32))) * (x.1 34 0 (((8 : Int32) * (nI i)) + (2 : Int32))))), some (.int ((fX3_spilled (nI i) x.1) - (x.1 35 0 (((8 : Int32) * (nI i)) + (6 : Int32))))), some (.int ((x.1 34 0 ((8 : Int32) * (nI i))) * (x.1 34 0 (((8 : Int32) * (nI i)) + (1 : Int32)))))]) rfl ?_
    refine xg_goto C 15 dL_isWater_286 (by decide) ?_
    have e : (bL_isWater_15 a1) (nI i) x = ((xu x.1 34 0 (((8 : Int32) * (nI i)) + (3 : Int32)) (0 : Int32)), (x.2.1 + ((fX3_spilled (nI i) x.1) - (x.1 35 0 (((8 : Int32) * (nI i)) + (6 : Int32))))), ((fX3_flowed (nI i) x.1) - (x.1 35 0 (((8 : Int32) * (nI i)) + (5 : Int32)))), ((fX3_spilled (nI i) x.1) - (x.1 35 0 (((8 : Int32) * (nI i)) + (6 : Int32)))), (jL_isWater_139 a1 (((x.1 35 0 (((8 : Int32) * (nI i)) + (4 : Int32))) + (x.1 34 0 (((8 : Int32) * (nI i)) + (3 : Int32)))) + (jL_isWater_46 a1 x.1 (nI i))) ((fX3_flowed (nI i) x.1) - (x.1 35 0 (((8 : Int32) * (nI i)) + (5 : Int32)))) ((x.1 35 0 (((8 : Int32) * (nI i)) + (7 : Int32))) * (x.1 34 0 (((8 : Int32) * (nI i)) + (2 : Int32)))) ((fX3_spilled (nI i) x.1) - (x.1 35 0 (((8 : Int32) * (nI i)) + (6 : Int32)))) ((x.1 34 0 ((8 : Int32) * (nI i))) * (x.1 34 0 (((8 : Int32) * (nI i)) + (1 : Int32)))) x.2.2.1 x.2.2.2.1 x.1 (nI i))) := rfl
    rw [e] at K
    try dsimp only at K
    exact xg_le K ⟨rfl, rfl, rfl, rfl, rfl, rfl, rfl, rfl, rfl, rfl, trivial⟩
  · show xg F 0 0 15 [some (.ref (G.2.2 0 0)), some (.ref (G.2.2 34 0)), some (.ref (G.2.2 35 0)), some (.ref (G.2.2 39 0)), some (.int a1), some (.int (xfold (bL_isWater_15 a1) 8 (S, (0 : Int32), (0 : Int32), (0 : Int32), (1 : Int32))).2.1), some (.int (xfold (bL_isWater_15 a1) 8 (S, (0 : Int32), (0 : Int32), (0 : Int32), (1 : Int32))).2.2.1), some (.int (xfold (bL_isWater_15 a1) 8 (S, (0 : Int32), (0 : Int32), (0 : Int32), (1 : Int32))).2.2.2.1), some (.int (xfold (bL_isWater_15 a1) 8 (S, (0 : Int32), (0 : Int32), (0 : Int32), (1 : Int32))).2.2.2.2), some (.int (nI 8)), none, none, none, none, none] [] (xP xYc G (xfold (bL_isWater_15 a1) 8 (S, (0 : Int32), (0 : Int32), (0 : Int32), (1 : Int32))).1)
    have hisE : ((xfold (bL_isWater_15 a1) 8 (S, (0 : Int32), (0 : Int32), (0 : Int32), (1 : Int32)))).2.2.2.2 = (1 : Int32) := hJi _ _ hJ
    have hsumE : ((xfold (bL_isWater_15 a1) 8 (S, (0 : Int32), (0 : Int32), (0 : Int32), (1 : Int32)))).2.1 = a1 := hJe _ hJ
    refine xg_iload C dL_isWater_15 rfl ?_
    refine xg_bipush C dL_isWater_17 (v := (8 : Int32)) (by decide) ?_
    refine xg_icmp_ge C 289 dL_isWater_19 (by decide) (fun h25 => ?_) (fun h25 => absurd (nI_le (Nat.le_refl _) (by decide)) h25)
    refine xg_iload C dL_isWater_289 rfl ?_
    refine xg_if_eq C 305 dL_isWater_291 (by decide) (fun h26 => absurd h26 (by rw [hisE]; decide)) (fun h26 => ?_)
    refine xg_iload C dL_isWater_294 rfl ?_
    refine xg_iload C dL_isWater_296 rfl ?_
    refine xg_icmp_ne C 305 dL_isWater_298 (by decide) (fun h27 => absurd hsumE h27) (fun h27 => ?_)
    refine xg_iconst C dL_isWater_301 (v := (1 : Int32)) (by decide) ?_
    refine xg_goto C 306 dL_isWater_302 (by decide) ?_
    have e : (fL_isWater a1 S) = ((xfold (bL_isWater_15 a1) 8 (S, (0 : Int32), (0 : Int32), (0 : Int32), (1 : Int32))).1, (1 : Int32)) := rfl
    exact xret_i E dL_isWater_306 (xsnd e) (xfst e)
