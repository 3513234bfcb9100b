/-! 23: the law's loop and start (planloop.py) -/
theorem xand31 (x : Int32) : ∃ j : Nat, j < 32 ∧ x &&& (31 : Int32) = nI j := by
  refine ⟨(x &&& (31 : Int32)).toBitVec.toNat, ?_, ?_⟩
  · rw [Int32.toBitVec_and, BitVec.toNat_and]
    exact Nat.lt_of_le_of_lt Nat.and_le_right (by decide)
  · apply Int32.toBitVec_inj.mp
    show _ = BitVec.ofNat 32 _
    rw [BitVec.ofNat_toNat, BitVec.setWidth_eq]
theorem xlast {N i : Nat} (hN : N ≤ 3072) (hi : i ≤ 3078) : (nI N - (6 : Int32) < nI i) ↔ N < i + 6 := by
  rw [Int32.lt_iff_toInt_lt, xtsub (by rw [nI_toInt (by omega), show (6 : Int32).toInt = 6 from rfl]; omega) (by rw [nI_toInt (by omega), show (6 : Int32).toInt = 6 from rfl]; omega), nI_toInt (by omega), nI_toInt (by omega), show (6 : Int32).toInt = 6 from rfl]
  omega
def simAll (Rel : Nat → xS → xS → Prop) : Prop := sim_shape Rel ∧ sim_setGauge Rel ∧ sim_setSource Rel ∧ sim_rain Rel ∧ sim_volume Rel ∧ sim_volumeByBalance Rel ∧ sim_level Rel ∧ sim_flowed Rel ∧ sim_spilled Rel ∧ sim_setRule Rel ∧ sim_byHand Rel ∧ sim_opening Rel ∧ sim_safety Rel ∧ sim_fall Rel ∧ sim_comeUp Rel ∧ sim_setGroup Rel ∧ sim_setStuck Rel ∧ sim_setTimes Rel ∧ sim_believed Rel ∧ sim_version Rel ∧ sim_age Rel ∧ sim_beat Rel ∧ sim_status Rel ∧ sim_partner Rel ∧ sim_freshest Rel ∧ sim_agree Rel ∧ sim_unnoticed Rel ∧ sim_mistaken Rel ∧ sim_vain Rel ∧ sim_tick Rel ∧ sim_time Rel ∧ (∀ c S M, Rel c S M → Rel (c + 1) S M)
set_option maxRecDepth 100000 in
set_option maxHeartbeats 4000000 in
theorem law_loop {F : xF} {G Gm : xG} {Sa : Nat → Nat} {sz b N ao : Nat} {xs : Nat → Int32} {cJ : ClassId} {Rel : Nat → xS → xS → Prop} (C : xC F cL_law 7 RL wsL_law room_1) (V : xV F xYc G) (Vm : xV F xYm Gm) (E3 : xE3 F Sa sz b N xs) (L2 : xL2 F cJ ao) (hsz : ∀ a : Nat, xA xYc G a → sz ≤ a) (hao : sz ≤ ao) (hd9 : xAway G Gm ao) (hN : N ≤ 3072) (hs : simAll Rel) (KE : ∀ (k w : Nat) (S M : xS) (o : Int64) (L : List (Option Value)), k ≤ 637548 → w ≤ 7183461 → xg F k w 1877 L [] (xPP G Gm cJ ao S M o)) : ∀ (n i c k w : Nat) (S M : xS) (o : Int64), N ≤ i + 6 * n → i = 6 * c → i ≤ 3078 → k ≤ 1000 + c → w ≤ 10000 + 6 * c → Rel c S M → xg F k w 23 [some (.ref b), some (.ref (G.2.2 0 0)), some (.ref (Gm.2.2 0 0)), some (.ref ao), some (.int (nI i)), none, none] [] (xPP G Gm cJ ao S M o) := by
  obtain ⟨s_shape, s_setGauge, s_setSource, s_rain, s_volume, s_volumeByBalance, s_level, s_flowed, s_spilled, s_setRule, s_byHand, s_opening, s_safety, s_fall, s_comeUp, s_setGroup, s_setStuck, s_setTimes, s_believed, s_version, s_age, s_beat, s_status, s_partner, s_freshest, s_agree, s_unnoticed, s_mistaken, s_vain, s_tick, s_time, smono⟩ := hs
  intro n
  induction n with
  | zero =>
    intro i c k w S M o hn hic hi hk hw hR
    refine xg_iload C dL_law_23 rfl ?_
    refine xg_aload_n C dL_law_25 rfl ?_
    refine xg_slen C E3 dL_law_26 ?_
    refine xg_bipush C dL_law_27 (v := (6 : Int32)) (by decide) ?_
    refine xg_isub C dL_law_29 ?_
    refine xg_icmp_gt C 1877 dL_law_30 (by decide) (fun _ => KE _ _ _ _ _ _ (by omega) (by omega)) (fun h => absurd ((xlast hN hi).mpr (by omega)) h)
  | succ n ih =>
    intro i c k w S M o hn hic hib hk hw hR
    refine xg_iload C dL_law_23 rfl ?_
    refine xg_aload_n C dL_law_25 rfl ?_
    refine xg_slen C E3 dL_law_26 ?_
    refine xg_bipush C dL_law_27 (v := (6 : Int32)) (by decide) ?_
    refine xg_isub C dL_law_29 ?_
    refine xg_icmp_gt C 1877 dL_law_30 (by decide) (fun _ => KE _ _ _ _ _ _ (by omega) (by omega)) (fun h => ?_)
    have hi : i + 6 ≤ N := Nat.not_lt.mp fun z => h ((xlast hN hib).mpr z)
    have hc : c < 512 := by omega
    have hk1 : k + 1 ≤ 637548 ∧ w + 6 ≤ 7183461 := by omega
    refine xg_aload_n C dL_law_33 rfl ?_
    refine xg_iload C dL_law_34 rfl ?_
    refine xg_scr C E3 (j := i) hN (by omega) rfl dL_law_36 ?_
    refine xg_bipush C dL_law_37 (v := (31 : Int32)) (by decide) ?_
    refine xg_iand C dL_law_39 ?_
    have KK : ∀ (S' M' : xS) (o' : Int64), Rel (c + 1) S' M' → xg F (k + 1) (w + 6) 1871 [some (.ref b), some (.ref (G.2.2 0 0)), some (.ref (Gm.2.2 0 0)), some (.ref ao), some (.int (nI i)), none, none] [] (xPP G Gm cJ ao S' M' o') := fun S' M' o' hR' => by
      refine xg_iinc C dL_law_1871 rfl (v := nI (i + 6)) (xia6 i) (by decide) (L' := [some (.ref b), some (.ref (G.2.2 0 0)), some (.ref (Gm.2.2 0 0)), some (.ref ao), some (.int (nI (i + 6))), none, none]) rfl ?_
      refine xg_goto C 23 dL_law_1874 (by decide) ?_
      exact ih (i + 6) (c + 1) (k + 1) (w + 6) S' M' o' (by omega) (by omega) (by omega) (by omega) (by omega) hR'
    obtain ⟨j, hj, e⟩ := xand31 (xs i)
    rw [e]
    match j, hj with
    | 0, _ => exact xg_tabIn C 180 dL_law_40 (by decide) (by decide) (off := 140) rfl (by decide) (law_shape C V Vm E3 L2 hsz hao hd9 hN hi hc hR hk1 s_shape KK)
    | 1, _ => exact xg_tabIn C 240 dL_law_40 (by decide) (by decide) (off := 200) rfl (by decide) (law_setGauge C V Vm E3 L2 hsz hao hd9 hN hi hc hR hk1 s_setGauge KK)
    | 2, _ => exact xg_tabIn C 308 dL_law_40 (by decide) (by decide) (off := 268) rfl (by decide) (law_setSource C V Vm E3 L2 hsz hao hd9 hN hi hc hR hk1 s_setSource KK)
    | 3, _ => exact xg_tabIn C 364 dL_law_40 (by decide) (by decide) (off := 324) rfl (by decide) (law_rain C V Vm E3 L2 hsz hao hd9 hN hi hc hR hk1 s_rain KK)
    | 4, _ => exact xg_tabIn C 432 dL_law_40 (by decide) (by decide) (off := 392) rfl (by decide) (law_volume C V Vm E3 L2 hsz hao hd9 hN hi hc hR hk1 s_volume KK)
    | 5, _ => exact xg_tabIn C 488 dL_law_40 (by decide) (by decide) (off := 448) rfl (by decide) (law_volumeByBalance C V Vm E3 L2 hsz hao hd9 hN hi hc hR hk1 s_volumeByBalance KK)
    | 6, _ => exact xg_tabIn C 544 dL_law_40 (by decide) (by decide) (off := 504) rfl (by decide) (law_level C V Vm E3 L2 hsz hao hd9 hN hi hc hR hk1 s_level KK)
    | 7, _ => exact xg_tabIn C 600 dL_law_40 (by decide) (by decide) (off := 560) rfl (by decide) (law_flowed C V Vm E3 L2 hsz hao hd9 hN hi hc hR hk1 s_flowed KK)
    | 8, _ => exact xg_tabIn C 656 dL_law_40 (by decide) (by decide) (off := 616) rfl (by decide) (law_spilled C V Vm E3 L2 hsz hao hd9 hN hi hc hR hk1 s_spilled KK)
    | 9, _ => exact xg_tabIn C 712 dL_law_40 (by decide) (by decide) (off := 672) rfl (by decide) (law_setRule C V Vm E3 L2 hsz hao hd9 hN hi hc hR hk1 s_setRule KK)
    | 10, _ => exact xg_tabIn C 796 dL_law_40 (by decide) (by decide) (off := 756) rfl (by decide) (law_byHand C V Vm E3 L2 hsz hao hd9 hN hi hc hR hk1 s_byHand KK)
    | 11, _ => exact xg_tabIn C 864 dL_law_40 (by decide) (by decide) (off := 824) rfl (by decide) (law_opening C V Vm E3 L2 hsz hao hd9 hN hi hc hR hk1 s_opening KK)
    | 12, _ => exact xg_tabIn C 920 dL_law_40 (by decide) (by decide) (off := 880) rfl (by decide) (law_safety C V Vm E3 L2 hsz hao hd9 hN hi hc hR hk1 s_safety KK)
    | 13, _ => exact xg_tabIn C 976 dL_law_40 (by decide) (by decide) (off := 936) rfl (by decide) (law_fall C V Vm E3 L2 hsz hao hd9 hN hi hc hR hk1 s_fall KK)
    | 14, _ => exact xg_tabIn C 1012 dL_law_40 (by decide) (by decide) (off := 972) rfl (by decide) (law_comeUp C V Vm E3 L2 hsz hao hd9 hN hi hc hR hk1 s_comeUp KK)
    | 15, _ => exact xg_tabIn C 1048 dL_law_40 (by decide) (by decide) (off := 1008) rfl (by decide) (law_setGroup C V Vm E3 L2 hsz hao hd9 hN hi hc hR hk1 s_setGroup KK)
    | 16, _ => exact xg_tabIn C 1116 dL_law_40 (by decide) (by decide) (off := 1076) rfl (by decide) (law_setStuck C V Vm E3 L2 hsz hao hd9 hN hi hc hR hk1 s_setStuck KK)
    | 17, _ => exact xg_tabIn C 1207 dL_law_40 (by decide) (by decide) (off := 1167) rfl (by decide) (law_setTimes C V Vm E3 L2 hsz hao hd9 hN hi hc hR hk1 s_setTimes KK)
    | 18, _ => exact xg_tabIn C 1255 dL_law_40 (by decide) (by decide) (off := 1215) rfl (by decide) (law_believed C V Vm E3 L2 hsz hao hd9 hN hi hc hR hk1 s_believed KK)
    | 19, _ => exact xg_tabIn C 1323 dL_law_40 (by decide) (by decide) (off := 1283) rfl (by decide) (law_version C V Vm E3 L2 hsz hao hd9 hN hi hc hR hk1 s_version KK)
    | 20, _ => exact xg_tabIn C 1391 dL_law_40 (by decide) (by decide) (off := 1351) rfl (by decide) (law_age C V Vm E3 L2 hsz hao hd9 hN hi hc hR hk1 s_age KK)
    | 21, _ => exact xg_tabIn C 1459 dL_law_40 (by decide) (by decide) (off := 1419) rfl (by decide) (law_beat C V Vm E3 L2 hsz hao hd9 hN hi hc hR hk1 s_beat KK)
    | 22, _ => exact xg_tabIn C 1527 dL_law_40 (by decide) (by decide) (off := 1487) rfl (by decide) (law_status C V Vm E3 L2 hsz hao hd9 hN hi hc hR hk1 s_status KK)
    | 23, _ => exact xg_tabIn C 1595 dL_law_40 (by decide) (by decide) (off := 1555) rfl (by decide) (law_partner C V Vm E3 L2 hsz hao hd9 hN hi hc hR hk1 s_partner KK)
    | 24, _ => exact xg_tabIn C 1651 dL_law_40 (by decide) (by decide) (off := 1611) rfl (by decide) (law_freshest C V Vm E3 L2 hsz hao hd9 hN hi hc hR hk1 s_freshest KK)
    | 25, _ => exact xg_tabIn C 1707 dL_law_40 (by decide) (by decide) (off := 1667) rfl (by decide) (law_agree C V Vm E3 L2 hsz hao hd9 hN hi hc hR hk1 s_agree KK)
    | 26, _ => exact xg_tabIn C 1763 dL_law_40 (by decide) (by decide) (off := 1723) rfl (by decide) (law_unnoticed C V Vm E3 L2 hsz hao hd9 hN hi hc hR hk1 s_unnoticed KK)
    | 27, _ => exact xg_tabIn C 1776 dL_law_40 (by decide) (by decide) (off := 1736) rfl (by decide) (law_mistaken C V Vm E3 L2 hsz hao hd9 hN hi hc hR hk1 s_mistaken KK)
    | 28, _ => exact xg_tabIn C 1789 dL_law_40 (by decide) (by decide) (off := 1749) rfl (by decide) (law_vain C V Vm E3 L2 hsz hao hd9 hN hi hc hR hk1 s_vain KK)
    | 29, _ => exact xg_tabIn C 1802 dL_law_40 (by decide) (by decide) (off := 1762) rfl (by decide) (law_tick C V Vm E3 L2 hsz hao hd9 hN hi hc hR hk1 s_tick KK)
    | 30, _ => exact xg_tabIn C 1858 dL_law_40 (by decide) (by decide) (off := 1818) rfl (by decide) (law_time C V Vm E3 L2 hsz hao hd9 hN hi hc hR hk1 s_time KK)
    | 31, _ => exact xg_tabOut C 1871 dL_law_40 (by decide) (by decide) (xg_wide (KK S M o (smono c S M hR)) (Nat.le_succ _) (Nat.le_add_right _ _))
    | j + 32, hj => exact absurd hj (by omega)
