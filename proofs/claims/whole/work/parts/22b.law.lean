/-! 22: cases spilled, setRule, byHand, opening, safety, fall, comeUp, setGroup -/
set_option maxRecDepth 100000 in
set_option maxHeartbeats 4000000 in
theorem law_spilled {F : xF} {G Gm : xG} {Sa : Nat → Nat} {sz b N ao k w i c : Nat} {xs : Nat → Int32} {cJ : ClassId} {S M : xS} {o : Int64} {Rel : Nat → xS → xS → Prop} (C : xC F cL_law 7 RL wsL_law room_1) (V : xV F xYc G) (Vm : xV F xYm Gm) (E3 : xE3 F Sa sz b N xs) (L2 : xL2 F cJ ao) (hsz : ∀ a : Nat, xA xYc G a → sz ≤ a) (hao : sz ≤ ao) (hd9 : xAway G Gm ao) (hN : N ≤ 3072) (hi : i + 6 ≤ N) (hc : c < 512) (hR : Rel c S M) (hk : k + 1 ≤ 637548 ∧ w + 6 ≤ 7183461) (hsim : sim_spilled Rel) (K : ∀ S' M' o', Rel (c + 1) S' M' → xg F (k + 1) (w + 6) 1871 [some (.ref b), some (.ref (G.2.2 0 0)), some (.ref (Gm.2.2 0 0)), some (.ref ao), some (.int (nI i)), none, none] [] (xPP G Gm cJ ao S' M' o')) : xg F k w 656 [some (.ref b), some (.ref (G.2.2 0 0)), some (.ref (Gm.2.2 0 0)), some (.ref ao), some (.int (nI i)), none, none] [] (xPP G Gm cJ ao S M o) := by
  refine xg_aload_n C dL_law_656 rfl ?_
  refine xg_aload_n C dL_law_657 rfl ?_
  refine xg_iload C dL_law_658 rfl ?_
  refine xg_iconst C dL_law_660 (v := (1 : Int32)) (by decide) ?_
  refine xg_iadd C dL_law_661 ?_
  refine xg_scr C E3 (j := i + 1) hN (by omega) (xia1 i) dL_law_662 ?_
  refine xg_aload_n C dL_law_663 rfl ?_
  obtain ⟨r, S1, o1, M1, v, fr1, lo1, q1, q2, q3, q4, q5, q6, q7⟩ := hsim c S M o (xs (i + 1)) hc hR
  have hR1 := q7
  refine xg_callW C V E3 L2 (xstW hd9) (S' := S1) (o' := o1) (r := r) (as := [.ref (G.2.2 0 0), .int (xs (i + 1)), .ref ao]) (n := 3) (fun l hl => kL_spilled l hl hsz hao hd9.2.1 V.1 (xs (i + 1)) S o r S1 o1 q1) gL_law_L_spilled rfl hdL_spilled ⟨by decide, by decide⟩ rfl rfl (Nat.le_of_ble_eq_true rfl) hk dL_law_664 ?_
  refine xg_istore C dL_law_667 (by decide) (L' := [some (.ref b), some (.ref (G.2.2 0 0)), some (.ref (Gm.2.2 0 0)), some (.ref ao), some (.int (nI i)), some (.int r), none]) rfl ?_
  refine xg_aload_n C dL_law_669 rfl ?_
  refine xg_aload_n C dL_law_670 rfl ?_
  refine xg_iload C dL_law_671 rfl ?_
  refine xg_iconst C dL_law_673 (v := (1 : Int32)) (by decide) ?_
  refine xg_iadd C dL_law_674 ?_
  refine xg_scr C E3 (j := i + 1) hN (by omega) (xia1 i) dL_law_675 ?_
  refine xg_I (I' := (fun H => xP xYm Gm M H ∧ xPo G cJ ao S1 o1 H)) ?_ (fun H h => ⟨h.2, h.1⟩)
  refine xg_callViJ C Vm (xstM hd9) (f := 0) (S' := M1) (As := [.int (xs (i + 1))]) (r := v) (fun l => q4 l Gm Vm.1) gL_law_X4_spilled rfl hdX4_spilled ⟨by show _ ≤ 12; omega, by show _ ≤ 436; have e9 : (2 : Nat) = 2 := rfl; omega⟩ rfl rfl rfl rfl rfl (Nat.le_of_ble_eq_true rfl) ⟨by show _ ≤ 637548; omega, by show _ ≤ 7183461; omega⟩ dL_law_676 ?_
  refine xg_istore C dL_law_679 (by decide) (L' := [some (.ref b), some (.ref (G.2.2 0 0)), some (.ref (Gm.2.2 0 0)), some (.ref ao), some (.int (nI i)), some (.int r), some (.int v)]) rfl ?_
  refine xg_aload_n C dL_law_681 rfl ?_
  refine xg_callViJ C Vm (xstM hd9) (f := 0) (As := []) (r := fX4_thrown M1) (fun l => kX4_thrown l Vm.1 M1) gL_law_X4_thrown rfl hdX4_thrown ⟨by decide, by decide⟩ rfl rfl rfl rfl rfl (Nat.le_of_ble_eq_true rfl) ⟨by show _ ≤ 637548; omega, by show _ ≤ 7183461; omega⟩ dL_law_682 ?_
  refine xg_iload C dL_law_685 rfl ?_
  refine xg_icmp_eq C 692 dL_law_687 (by decide) (fun h9 => ?_) (fun h9 => absurd (q5) h9)
  refine xg_iload C dL_law_692 rfl ?_
  refine xg_if_ne C 709 dL_law_694 (by decide) (fun h8 => ?_) (fun h8 => ?_)
  · refine xg_goto C 1871 dL_law_709 (by decide) ?_
    refine xg_I (I' := xPP G Gm cJ ao S1 M1 o1) ?_ (fun H h => ⟨h.2, h.1⟩)
    refine xg_le2 (L' := [some (.ref b), some (.ref (G.2.2 0 0)), some (.ref (Gm.2.2 0 0)), some (.ref ao), some (.int (nI i)), none, none]) ⟨rfl, rfl, rfl, rfl, rfl, trivial⟩ ?_
    exact K S1 M1 o1 hR1
  · refine xg_aload_n C dL_law_697 rfl ?_
    refine xg_iconst C dL_law_698 (v := (0 : Int32)) (by decide) ?_
    refine xg_lald C L2 (fun H h => h.2.2) dL_law_699 ?_
    refine xg_iload C dL_law_700 rfl ?_
    refine xg_i2l C dL_law_702 ?_
    refine xg_lcmp C dL_law_703 ?_
    refine xg_if_eq C 709 dL_law_704 (by decide) (fun _ => ?_) (fun h7 => absurd (by rw [q6 h8]; exact lg_cmp_self _) h7)
    refine xg_goto C 1871 dL_law_709 (by decide) ?_
    refine xg_I (I' := xPP G Gm cJ ao S1 M1 o1) ?_ (fun H h => ⟨h.2, h.1⟩)
    refine xg_le2 (L' := [some (.ref b), some (.ref (G.2.2 0 0)), some (.ref (Gm.2.2 0 0)), some (.ref ao), some (.int (nI i)), none, none]) ⟨rfl, rfl, rfl, rfl, rfl, trivial⟩ ?_
    exact K S1 M1 o1 hR1
set_option maxRecDepth 100000 in
set_option maxHeartbeats 4000000 in
theorem law_setRule {F : xF} {G Gm : xG} {Sa : Nat → Nat} {sz b N ao k w i c : Nat} {xs : Nat → Int32} {cJ : ClassId} {S M : xS} {o : Int64} {Rel : Nat → xS → xS → Prop} (C : xC F cL_law 7 RL wsL_law room_1) (V : xV F xYc G) (Vm : xV F xYm Gm) (E3 : xE3 F Sa sz b N xs) (L2 : xL2 F cJ ao) (hsz : ∀ a : Nat, xA xYc G a → sz ≤ a) (hao : sz ≤ ao) (hd9 : xAway G Gm ao) (hN : N ≤ 3072) (hi : i + 6 ≤ N) (hc : c < 512) (hR : Rel c S M) (hk : k + 1 ≤ 637548 ∧ w + 6 ≤ 7183461) (hsim : sim_setRule Rel) (K : ∀ S' M' o', Rel (c + 1) S' M' → xg F (k + 1) (w + 6) 1871 [some (.ref b), some (.ref (G.2.2 0 0)), some (.ref (Gm.2.2 0 0)), some (.ref ao), some (.int (nI i)), none, none] [] (xPP G Gm cJ ao S' M' o')) : xg F k w 712 [some (.ref b), some (.ref (G.2.2 0 0)), some (.ref (Gm.2.2 0 0)), some (.ref ao), some (.int (nI i)), none, none] [] (xPP G Gm cJ ao S M o) := by
  refine xg_aload_n C dL_law_712 rfl ?_
  refine xg_aload_n C dL_law_713 rfl ?_
  refine xg_iload C dL_law_714 rfl ?_
  refine xg_iconst C dL_law_716 (v := (1 : Int32)) (by decide) ?_
  refine xg_iadd C dL_law_717 ?_
  refine xg_scr C E3 (j := i + 1) hN (by omega) (xia1 i) dL_law_718 ?_
  refine xg_aload_n C dL_law_719 rfl ?_
  refine xg_iload C dL_law_720 rfl ?_
  refine xg_iconst C dL_law_722 (v := (2 : Int32)) (by decide) ?_
  refine xg_iadd C dL_law_723 ?_
  refine xg_scr C E3 (j := i + 2) hN (by omega) (xia2 i) dL_law_724 ?_
  refine xg_aload_n C dL_law_725 rfl ?_
  refine xg_iload C dL_law_726 rfl ?_
  refine xg_iconst C dL_law_728 (v := (3 : Int32)) (by decide) ?_
  refine xg_iadd C dL_law_729 ?_
  refine xg_scr C E3 (j := i + 3) hN (by omega) (xia3 i) dL_law_730 ?_
  refine xg_aload_n C dL_law_731 rfl ?_
  refine xg_iload C dL_law_732 rfl ?_
  refine xg_iconst C dL_law_734 (v := (4 : Int32)) (by decide) ?_
  refine xg_iadd C dL_law_735 ?_
  refine xg_scr C E3 (j := i + 4) hN (by omega) (xia4 i) dL_law_736 ?_
  refine xg_aload_n C dL_law_737 rfl ?_
  refine xg_iload C dL_law_738 rfl ?_
  refine xg_iconst C dL_law_740 (v := (5 : Int32)) (by decide) ?_
  refine xg_iadd C dL_law_741 ?_
  refine xg_scr C E3 (j := i + 5) hN (by omega) (xia5 i) dL_law_742 ?_
  obtain ⟨r, S1, o1, M1, v, fr1, lo1, q1, q2, q3, q4, q5, q7⟩ := hsim c S M o (xs (i + 1)) (xs (i + 2)) (xs (i + 3)) (xs (i + 4)) (xs (i + 5)) hc hR
  have hR1 := q7
  refine xg_callW C V E3 L2 (xstW hd9) (S' := S1) (o' := o1) (r := r) (as := [.ref (G.2.2 0 0), .int (xs (i + 1)), .int (xs (i + 2)), .int (xs (i + 3)), .int (xs (i + 4)), .int (xs (i + 5))]) (n := 6) (fun l hl => kL_setRule l hl hsz hao hd9.2.1 V.1 (xs (i + 1)) (xs (i + 2)) (xs (i + 3)) (xs (i + 4)) (xs (i + 5)) S o r S1 o1 q1) gL_law_L_setRule rfl hdL_setRule ⟨by decide, by decide⟩ rfl rfl (Nat.le_of_ble_eq_true rfl) hk dL_law_743 ?_
  refine xg_istore C dL_law_746 (by decide) (L' := [some (.ref b), some (.ref (G.2.2 0 0)), some (.ref (Gm.2.2 0 0)), some (.ref ao), some (.int (nI i)), some (.int r), none]) rfl ?_
  refine xg_aload_n C dL_law_748 rfl ?_
  refine xg_aload_n C dL_law_749 rfl ?_
  refine xg_iload C dL_law_750 rfl ?_
  refine xg_iconst C dL_law_752 (v := (1 : Int32)) (by decide) ?_
  refine xg_iadd C dL_law_753 ?_
  refine xg_scr C E3 (j := i + 1) hN (by omega) (xia1 i) dL_law_754 ?_
  refine xg_aload_n C dL_law_755 rfl ?_
  refine xg_iload C dL_law_756 rfl ?_
  refine xg_iconst C dL_law_758 (v := (2 : Int32)) (by decide) ?_
  refine xg_iadd C dL_law_759 ?_
  refine xg_scr C E3 (j := i + 2) hN (by omega) (xia2 i) dL_law_760 ?_
  refine xg_aload_n C dL_law_761 rfl ?_
  refine xg_iload C dL_law_762 rfl ?_
  refine xg_iconst C dL_law_764 (v := (3 : Int32)) (by decide) ?_
  refine xg_iadd C dL_law_765 ?_
  refine xg_scr C E3 (j := i + 3) hN (by omega) (xia3 i) dL_law_766 ?_
  refine xg_aload_n C dL_law_767 rfl ?_
  refine xg_iload C dL_law_768 rfl ?_
  refine xg_iconst C dL_law_770 (v := (4 : Int32)) (by decide) ?_
  refine xg_iadd C dL_law_771 ?_
  refine xg_scr C E3 (j := i + 4) hN (by omega) (xia4 i) dL_law_772 ?_
  refine xg_aload_n C dL_law_773 rfl ?_
  refine xg_iload C dL_law_774 rfl ?_
  refine xg_iconst C dL_law_776 (v := (5 : Int32)) (by decide) ?_
  refine xg_iadd C dL_law_777 ?_
  refine xg_scr C E3 (j := i + 5) hN (by omega) (xia5 i) dL_law_778 ?_
  refine xg_I (I' := (fun H => xP xYm Gm M H ∧ xPo G cJ ao S1 o1 H)) ?_ (fun H h => ⟨h.2, h.1⟩)
  refine xg_callVvJ C Vm (xstM hd9) (f := 0) (S' := M1) (As := [.int (xs (i + 1)), .int (xs (i + 2)), .int (xs (i + 3)), .int (xs (i + 4)), .int (xs (i + 5))]) (fun l => q4 l Gm Vm.1) gL_law_X4_setRule rfl hdX4_setRule ⟨by show _ ≤ 12; omega, by show _ ≤ 436; have e9 : (7 : Nat) = 7 := rfl; omega⟩ rfl rfl rfl rfl rfl (Nat.le_of_ble_eq_true rfl) ⟨by show _ ≤ 637548; omega, by show _ ≤ 7183461; omega⟩ dL_law_779 ?_
  refine xg_aload_n C dL_law_782 rfl ?_
  refine xg_callViJ C Vm (xstM hd9) (f := 0) (As := []) (r := fX4_thrown M1) (fun l => kX4_thrown l Vm.1 M1) gL_law_X4_thrown rfl hdX4_thrown ⟨by decide, by decide⟩ rfl rfl rfl rfl rfl (Nat.le_of_ble_eq_true rfl) ⟨by show _ ≤ 637548; omega, by show _ ≤ 7183461; omega⟩ dL_law_783 ?_
  refine xg_iload C dL_law_786 rfl ?_
  refine xg_icmp_eq C 793 dL_law_788 (by decide) (fun h9 => ?_) (fun h9 => absurd (q5) h9)
  refine xg_goto C 1871 dL_law_793 (by decide) ?_
  refine xg_I (I' := xPP G Gm cJ ao S1 M1 o1) ?_ (fun H h => ⟨h.2, h.1⟩)
  refine xg_le2 (L' := [some (.ref b), some (.ref (G.2.2 0 0)), some (.ref (Gm.2.2 0 0)), some (.ref ao), some (.int (nI i)), none, none]) ⟨rfl, rfl, rfl, rfl, rfl, trivial⟩ ?_
  exact K S1 M1 o1 hR1
set_option maxRecDepth 100000 in
set_option maxHeartbeats 4000000 in
theorem law_byHand {F : xF} {G Gm : xG} {Sa : Nat → Nat} {sz b N ao k w i c : Nat} {xs : Nat → Int32} {cJ : ClassId} {S M : xS} {o : Int64} {Rel : Nat → xS → xS → Prop} (C : xC F cL_law 7 RL wsL_law room_1) (V : xV F xYc G) (Vm : xV F xYm Gm) (E3 : xE3 F Sa sz b N xs) (L2 : xL2 F cJ ao) (hsz : ∀ a : Nat, xA xYc G a → sz ≤ a) (hao : sz ≤ ao) (hd9 : xAway G Gm ao) (hN : N ≤ 3072) (hi : i + 6 ≤ N) (hc : c < 512) (hR : Rel c S M) (hk : k + 1 ≤ 637548 ∧ w + 6 ≤ 7183461) (hsim : sim_byHand Rel) (K : ∀ S' M' o', Rel (c + 1) S' M' → xg F (k + 1) (w + 6) 1871 [some (.ref b), some (.ref (G.2.2 0 0)), some (.ref (Gm.2.2 0 0)), some (.ref ao), some (.int (nI i)), none, none] [] (xPP G Gm cJ ao S' M' o')) : xg F k w 796 [some (.ref b), some (.ref (G.2.2 0 0)), some (.ref (Gm.2.2 0 0)), some (.ref ao), some (.int (nI i)), none, none] [] (xPP G Gm cJ ao S M o) := by
  refine xg_aload_n C dL_law_796 rfl ?_
  refine xg_aload_n C dL_law_797 rfl ?_
  refine xg_iload C dL_law_798 rfl ?_
  refine xg_iconst C dL_law_800 (v := (1 : Int32)) (by decide) ?_
  refine xg_iadd C dL_law_801 ?_
  refine xg_scr C E3 (j := i + 1) hN (by omega) (xia1 i) dL_law_802 ?_
  refine xg_aload_n C dL_law_803 rfl ?_
  refine xg_iload C dL_law_804 rfl ?_
  refine xg_iconst C dL_law_806 (v := (2 : Int32)) (by decide) ?_
  refine xg_iadd C dL_law_807 ?_
  refine xg_scr C E3 (j := i + 2) hN (by omega) (xia2 i) dL_law_808 ?_
  refine xg_aload_n C dL_law_809 rfl ?_
  obtain ⟨r, S1, o1, M1, v, fr1, lo1, q1, q2, q3, q4, q5, q6, q7⟩ := hsim c S M o (xs (i + 1)) (xs (i + 2)) hc hR
  have hR1 := q7
  refine xg_callW C V E3 L2 (xstW hd9) (S' := S1) (o' := o1) (r := r) (as := [.ref (G.2.2 0 0), .int (xs (i + 1)), .int (xs (i + 2)), .ref ao]) (n := 4) (fun l hl => kL_byHand l hl hsz hao hd9.2.1 V.1 (xs (i + 1)) (xs (i + 2)) S o r S1 o1 q1) gL_law_L_byHand rfl hdL_byHand ⟨by decide, by decide⟩ rfl rfl (Nat.le_of_ble_eq_true rfl) hk dL_law_810 ?_
  refine xg_istore C dL_law_813 (by decide) (L' := [some (.ref b), some (.ref (G.2.2 0 0)), some (.ref (Gm.2.2 0 0)), some (.ref ao), some (.int (nI i)), some (.int r), none]) rfl ?_
  refine xg_aload_n C dL_law_815 rfl ?_
  refine xg_aload_n C dL_law_816 rfl ?_
  refine xg_iload C dL_law_817 rfl ?_
  refine xg_iconst C dL_law_819 (v := (1 : Int32)) (by decide) ?_
  refine xg_iadd C dL_law_820 ?_
  refine xg_scr C E3 (j := i + 1) hN (by omega) (xia1 i) dL_law_821 ?_
  refine xg_aload_n C dL_law_822 rfl ?_
  refine xg_iload C dL_law_823 rfl ?_
  refine xg_iconst C dL_law_825 (v := (2 : Int32)) (by decide) ?_
  refine xg_iadd C dL_law_826 ?_
  refine xg_scr C E3 (j := i + 2) hN (by omega) (xia2 i) dL_law_827 ?_
  refine xg_I (I' := (fun H => xP xYm Gm M H ∧ xPo G cJ ao S1 o1 H)) ?_ (fun H h => ⟨h.2, h.1⟩)
  refine xg_callViJ C Vm (xstM hd9) (f := 0) (S' := M1) (As := [.int (xs (i + 1)), .int (xs (i + 2))]) (r := v) (fun l => q4 l Gm Vm.1) gL_law_X4_byHand rfl hdX4_byHand ⟨by show _ ≤ 12; omega, by show _ ≤ 436; have e9 : (4 : Nat) = 4 := rfl; omega⟩ rfl rfl rfl rfl rfl (Nat.le_of_ble_eq_true rfl) ⟨by show _ ≤ 637548; omega, by show _ ≤ 7183461; omega⟩ dL_law_828 ?_
  refine xg_istore C dL_law_831 (by decide) (L' := [some (.ref b), some (.ref (G.2.2 0 0)), some (.ref (Gm.2.2 0 0)), some (.ref ao), some (.int (nI i)), some (.int r), some (.int v)]) rfl ?_
  refine xg_aload_n C dL_law_833 rfl ?_
  refine xg_callViJ C Vm (xstM hd9) (f := 0) (As := []) (r := fX4_thrown M1) (fun l => kX4_thrown l Vm.1 M1) gL_law_X4_thrown rfl hdX4_thrown ⟨by decide, by decide⟩ rfl rfl rfl rfl rfl (Nat.le_of_ble_eq_true rfl) ⟨by show _ ≤ 637548; omega, by show _ ≤ 7183461; omega⟩ dL_law_834 ?_
  refine xg_iload C dL_law_837 rfl ?_
  refine xg_icmp_eq C 844 dL_law_839 (by decide) (fun h9 => ?_) (fun h9 => absurd (q5) h9)
  refine xg_iload C dL_law_844 rfl ?_
  refine xg_if_ne C 861 dL_law_846 (by decide) (fun h8 => ?_) (fun h8 => ?_)
  · refine xg_goto C 1871 dL_law_861 (by decide) ?_
    refine xg_I (I' := xPP G Gm cJ ao S1 M1 o1) ?_ (fun H h => ⟨h.2, h.1⟩)
    refine xg_le2 (L' := [some (.ref b), some (.ref (G.2.2 0 0)), some (.ref (Gm.2.2 0 0)), some (.ref ao), some (.int (nI i)), none, none]) ⟨rfl, rfl, rfl, rfl, rfl, trivial⟩ ?_
    exact K S1 M1 o1 hR1
  · refine xg_aload_n C dL_law_849 rfl ?_
    refine xg_iconst C dL_law_850 (v := (0 : Int32)) (by decide) ?_
    refine xg_lald C L2 (fun H h => h.2.2) dL_law_851 ?_
    refine xg_iload C dL_law_852 rfl ?_
    refine xg_i2l C dL_law_854 ?_
    refine xg_lcmp C dL_law_855 ?_
    refine xg_if_eq C 861 dL_law_856 (by decide) (fun _ => ?_) (fun h7 => absurd (by rw [q6 h8]; exact lg_cmp_self _) h7)
    refine xg_goto C 1871 dL_law_861 (by decide) ?_
    refine xg_I (I' := xPP G Gm cJ ao S1 M1 o1) ?_ (fun H h => ⟨h.2, h.1⟩)
    refine xg_le2 (L' := [some (.ref b), some (.ref (G.2.2 0 0)), some (.ref (Gm.2.2 0 0)), some (.ref ao), some (.int (nI i)), none, none]) ⟨rfl, rfl, rfl, rfl, rfl, trivial⟩ ?_
    exact K S1 M1 o1 hR1
set_option maxRecDepth 100000 in
set_option maxHeartbeats 4000000 in
theorem law_opening {F : xF} {G Gm : xG} {Sa : Nat → Nat} {sz b N ao k w i c : Nat} {xs : Nat → Int32} {cJ : ClassId} {S M : xS} {o : Int64} {Rel : Nat → xS → xS → Prop} (C : xC F cL_law 7 RL wsL_law room_1) (V : xV F xYc G) (Vm : xV F xYm Gm) (E3 : xE3 F Sa sz b N xs) (L2 : xL2 F cJ ao) (hsz : ∀ a : Nat, xA xYc G a → sz ≤ a) (hao : sz ≤ ao) (hd9 : xAway G Gm ao) (hN : N ≤ 3072) (hi : i + 6 ≤ N) (hc : c < 512) (hR : Rel c S M) (hk : k + 1 ≤ 637548 ∧ w + 6 ≤ 7183461) (hsim : sim_opening Rel) (K : ∀ S' M' o', Rel (c + 1) S' M' → xg F (k + 1) (w + 6) 1871 [some (.ref b), some (.ref (G.2.2 0 0)), some (.ref (Gm.2.2 0 0)), some (.ref ao), some (.int (nI i)), none, none] [] (xPP G Gm cJ ao S' M' o')) : xg F k w 864 [some (.ref b), some (.ref (G.2.2 0 0)), some (.ref (Gm.2.2 0 0)), some (.ref ao), some (.int (nI i)), none, none] [] (xPP G Gm cJ ao S M o) := by
  refine xg_aload_n C dL_law_864 rfl ?_
  refine xg_aload_n C dL_law_865 rfl ?_
  refine xg_iload C dL_law_866 rfl ?_
  refine xg_iconst C dL_law_868 (v := (1 : Int32)) (by decide) ?_
  refine xg_iadd C dL_law_869 ?_
  refine xg_scr C E3 (j := i + 1) hN (by omega) (xia1 i) dL_law_870 ?_
  refine xg_aload_n C dL_law_871 rfl ?_
  obtain ⟨r, S1, o1, M1, v, fr1, lo1, q1, q2, q3, q4, q5, q6, q7⟩ := hsim c S M o (xs (i + 1)) hc hR
  have hR1 := q7
  refine xg_callW C V E3 L2 (xstW hd9) (S' := S1) (o' := o1) (r := r) (as := [.ref (G.2.2 0 0), .int (xs (i + 1)), .ref ao]) (n := 3) (fun l hl => kL_opening l hl hsz hao hd9.2.1 V.1 (xs (i + 1)) S o r S1 o1 q1) gL_law_L_opening rfl hdL_opening ⟨by decide, by decide⟩ rfl rfl (Nat.le_of_ble_eq_true rfl) hk dL_law_872 ?_
  refine xg_istore C dL_law_875 (by decide) (L' := [some (.ref b), some (.ref (G.2.2 0 0)), some (.ref (Gm.2.2 0 0)), some (.ref ao), some (.int (nI i)), some (.int r), none]) rfl ?_
  refine xg_aload_n C dL_law_877 rfl ?_
  refine xg_aload_n C dL_law_878 rfl ?_
  refine xg_iload C dL_law_879 rfl ?_
  refine xg_iconst C dL_law_881 (v := (1 : Int32)) (by decide) ?_
  refine xg_iadd C dL_law_882 ?_
  refine xg_scr C E3 (j := i + 1) hN (by omega) (xia1 i) dL_law_883 ?_
  refine xg_I (I' := (fun H => xP xYm Gm M H ∧ xPo G cJ ao S1 o1 H)) ?_ (fun H h => ⟨h.2, h.1⟩)
  refine xg_callViJ C Vm (xstM hd9) (f := 0) (S' := M1) (As := [.int (xs (i + 1))]) (r := v) (fun l => q4 l Gm Vm.1) gL_law_X4_opening rfl hdX4_opening ⟨by show _ ≤ 12; omega, by show _ ≤ 436; have e9 : (2 : Nat) = 2 := rfl; omega⟩ rfl rfl rfl rfl rfl (Nat.le_of_ble_eq_true rfl) ⟨by show _ ≤ 637548; omega, by show _ ≤ 7183461; omega⟩ dL_law_884 ?_
  refine xg_istore C dL_law_887 (by decide) (L' := [some (.ref b), some (.ref (G.2.2 0 0)), some (.ref (Gm.2.2 0 0)), some (.ref ao), some (.int (nI i)), some (.int r), some (.int v)]) rfl ?_
  refine xg_aload_n C dL_law_889 rfl ?_
  refine xg_callViJ C Vm (xstM hd9) (f := 0) (As := []) (r := fX4_thrown M1) (fun l => kX4_thrown l Vm.1 M1) gL_law_X4_thrown rfl hdX4_thrown ⟨by decide, by decide⟩ rfl rfl rfl rfl rfl (Nat.le_of_ble_eq_true rfl) ⟨by show _ ≤ 637548; omega, by show _ ≤ 7183461; omega⟩ dL_law_890 ?_
  refine xg_iload C dL_law_893 rfl ?_
  refine xg_icmp_eq C 900 dL_law_895 (by decide) (fun h9 => ?_) (fun h9 => absurd (q5) h9)
  refine xg_iload C dL_law_900 rfl ?_
  refine xg_if_ne C 917 dL_law_902 (by decide) (fun h8 => ?_) (fun h8 => ?_)
  · refine xg_goto C 1871 dL_law_917 (by decide) ?_
    refine xg_I (I' := xPP G Gm cJ ao S1 M1 o1) ?_ (fun H h => ⟨h.2, h.1⟩)
    refine xg_le2 (L' := [some (.ref b), some (.ref (G.2.2 0 0)), some (.ref (Gm.2.2 0 0)), some (.ref ao), some (.int (nI i)), none, none]) ⟨rfl, rfl, rfl, rfl, rfl, trivial⟩ ?_
    exact K S1 M1 o1 hR1
  · refine xg_aload_n C dL_law_905 rfl ?_
    refine xg_iconst C dL_law_906 (v := (0 : Int32)) (by decide) ?_
    refine xg_lald C L2 (fun H h => h.2.2) dL_law_907 ?_
    refine xg_iload C dL_law_908 rfl ?_
    refine xg_i2l C dL_law_910 ?_
    refine xg_lcmp C dL_law_911 ?_
    refine xg_if_eq C 917 dL_law_912 (by decide) (fun _ => ?_) (fun h7 => absurd (by rw [q6 h8]; exact lg_cmp_self _) h7)
    refine xg_goto C 1871 dL_law_917 (by decide) ?_
    refine xg_I (I' := xPP G Gm cJ ao S1 M1 o1) ?_ (fun H h => ⟨h.2, h.1⟩)
    refine xg_le2 (L' := [some (.ref b), some (.ref (G.2.2 0 0)), some (.ref (Gm.2.2 0 0)), some (.ref ao), some (.int (nI i)), none, none]) ⟨rfl, rfl, rfl, rfl, rfl, trivial⟩ ?_
    exact K S1 M1 o1 hR1
set_option maxRecDepth 100000 in
set_option maxHeartbeats 4000000 in
theorem law_safety {F : xF} {G Gm : xG} {Sa : Nat → Nat} {sz b N ao k w i c : Nat} {xs : Nat → Int32} {cJ : ClassId} {S M : xS} {o : Int64} {Rel : Nat → xS → xS → Prop} (C : xC F cL_law 7 RL wsL_law room_1) (V : xV F xYc G) (Vm : xV F xYm Gm) (E3 : xE3 F Sa sz b N xs) (L2 : xL2 F cJ ao) (hsz : ∀ a : Nat, xA xYc G a → sz ≤ a) (hao : sz ≤ ao) (hd9 : xAway G Gm ao) (hN : N ≤ 3072) (hi : i + 6 ≤ N) (hc : c < 512) (hR : Rel c S M) (hk : k + 1 ≤ 637548 ∧ w + 6 ≤ 7183461) (hsim : sim_safety Rel) (K : ∀ S' M' o', Rel (c + 1) S' M' → xg F (k + 1) (w + 6) 1871 [some (.ref b), some (.ref (G.2.2 0 0)), some (.ref (Gm.2.2 0 0)), some (.ref ao), some (.int (nI i)), none, none] [] (xPP G Gm cJ ao S' M' o')) : xg F k w 920 [some (.ref b), some (.ref (G.2.2 0 0)), some (.ref (Gm.2.2 0 0)), some (.ref ao), some (.int (nI i)), none, none] [] (xPP G Gm cJ ao S M o) := by
  refine xg_aload_n C dL_law_920 rfl ?_
  refine xg_aload_n C dL_law_921 rfl ?_
  refine xg_iload C dL_law_922 rfl ?_
  refine xg_iconst C dL_law_924 (v := (1 : Int32)) (by decide) ?_
  refine xg_iadd C dL_law_925 ?_
  refine xg_scr C E3 (j := i + 1) hN (by omega) (xia1 i) dL_law_926 ?_
  refine xg_aload_n C dL_law_927 rfl ?_
  obtain ⟨r, S1, o1, M1, v, fr1, lo1, q1, q2, q3, q4, q5, q6, q7⟩ := hsim c S M o (xs (i + 1)) hc hR
  have hR1 := q7
  refine xg_callW C V E3 L2 (xstW hd9) (S' := S1) (o' := o1) (r := r) (as := [.ref (G.2.2 0 0), .int (xs (i + 1)), .ref ao]) (n := 3) (fun l hl => kL_safety l hl hsz hao hd9.2.1 V.1 (xs (i + 1)) S o r S1 o1 q1) gL_law_L_safety rfl hdL_safety ⟨by decide, by decide⟩ rfl rfl (Nat.le_of_ble_eq_true rfl) hk dL_law_928 ?_
  refine xg_istore C dL_law_931 (by decide) (L' := [some (.ref b), some (.ref (G.2.2 0 0)), some (.ref (Gm.2.2 0 0)), some (.ref ao), some (.int (nI i)), some (.int r), none]) rfl ?_
  refine xg_aload_n C dL_law_933 rfl ?_
  refine xg_aload_n C dL_law_934 rfl ?_
  refine xg_iload C dL_law_935 rfl ?_
  refine xg_iconst C dL_law_937 (v := (1 : Int32)) (by decide) ?_
  refine xg_iadd C dL_law_938 ?_
  refine xg_scr C E3 (j := i + 1) hN (by omega) (xia1 i) dL_law_939 ?_
  refine xg_I (I' := (fun H => xP xYm Gm M H ∧ xPo G cJ ao S1 o1 H)) ?_ (fun H h => ⟨h.2, h.1⟩)
  refine xg_callViJ C Vm (xstM hd9) (f := 0) (S' := M1) (As := [.int (xs (i + 1))]) (r := v) (fun l => q4 l Gm Vm.1) gL_law_X4_safety rfl hdX4_safety ⟨by show _ ≤ 12; omega, by show _ ≤ 436; have e9 : (2 : Nat) = 2 := rfl; omega⟩ rfl rfl rfl rfl rfl (Nat.le_of_ble_eq_true rfl) ⟨by show _ ≤ 637548; omega, by show _ ≤ 7183461; omega⟩ dL_law_940 ?_
  refine xg_istore C dL_law_943 (by decide) (L' := [some (.ref b), some (.ref (G.2.2 0 0)), some (.ref (Gm.2.2 0 0)), some (.ref ao), some (.int (nI i)), some (.int r), some (.int v)]) rfl ?_
  refine xg_aload_n C dL_law_945 rfl ?_
  refine xg_callViJ C Vm (xstM hd9) (f := 0) (As := []) (r := fX4_thrown M1) (fun l => kX4_thrown l Vm.1 M1) gL_law_X4_thrown rfl hdX4_thrown ⟨by decide, by decide⟩ rfl rfl rfl rfl rfl (Nat.le_of_ble_eq_true rfl) ⟨by show _ ≤ 637548; omega, by show _ ≤ 7183461; omega⟩ dL_law_946 ?_
  refine xg_iload C dL_law_949 rfl ?_
  refine xg_icmp_eq C 956 dL_law_951 (by decide) (fun h9 => ?_) (fun h9 => absurd (q5) h9)
  refine xg_iload C dL_law_956 rfl ?_
  refine xg_if_ne C 973 dL_law_958 (by decide) (fun h8 => ?_) (fun h8 => ?_)
  · refine xg_goto C 1871 dL_law_973 (by decide) ?_
    refine xg_I (I' := xPP G Gm cJ ao S1 M1 o1) ?_ (fun H h => ⟨h.2, h.1⟩)
    refine xg_le2 (L' := [some (.ref b), some (.ref (G.2.2 0 0)), some (.ref (Gm.2.2 0 0)), some (.ref ao), some (.int (nI i)), none, none]) ⟨rfl, rfl, rfl, rfl, rfl, trivial⟩ ?_
    exact K S1 M1 o1 hR1
  · refine xg_aload_n C dL_law_961 rfl ?_
    refine xg_iconst C dL_law_962 (v := (0 : Int32)) (by decide) ?_
    refine xg_lald C L2 (fun H h => h.2.2) dL_law_963 ?_
    refine xg_iload C dL_law_964 rfl ?_
    refine xg_i2l C dL_law_966 ?_
    refine xg_lcmp C dL_law_967 ?_
    refine xg_if_eq C 973 dL_law_968 (by decide) (fun _ => ?_) (fun h7 => absurd (by rw [q6 h8]; exact lg_cmp_self _) h7)
    refine xg_goto C 1871 dL_law_973 (by decide) ?_
    refine xg_I (I' := xPP G Gm cJ ao S1 M1 o1) ?_ (fun H h => ⟨h.2, h.1⟩)
    refine xg_le2 (L' := [some (.ref b), some (.ref (G.2.2 0 0)), some (.ref (Gm.2.2 0 0)), some (.ref ao), some (.int (nI i)), none, none]) ⟨rfl, rfl, rfl, rfl, rfl, trivial⟩ ?_
    exact K S1 M1 o1 hR1
set_option maxRecDepth 100000 in
set_option maxHeartbeats 4000000 in
theorem law_fall {F : xF} {G Gm : xG} {Sa : Nat → Nat} {sz b N ao k w i c : Nat} {xs : Nat → Int32} {cJ : ClassId} {S M : xS} {o : Int64} {Rel : Nat → xS → xS → Prop} (C : xC F cL_law 7 RL wsL_law room_1) (V : xV F xYc G) (Vm : xV F xYm Gm) (E3 : xE3 F Sa sz b N xs) (L2 : xL2 F cJ ao) (hsz : ∀ a : Nat, xA xYc G a → sz ≤ a) (hao : sz ≤ ao) (hd9 : xAway G Gm ao) (hN : N ≤ 3072) (hi : i + 6 ≤ N) (hc : c < 512) (hR : Rel c S M) (hk : k + 1 ≤ 637548 ∧ w + 6 ≤ 7183461) (hsim : sim_fall Rel) (K : ∀ S' M' o', Rel (c + 1) S' M' → xg F (k + 1) (w + 6) 1871 [some (.ref b), some (.ref (G.2.2 0 0)), some (.ref (Gm.2.2 0 0)), some (.ref ao), some (.int (nI i)), none, none] [] (xPP G Gm cJ ao S' M' o')) : xg F k w 976 [some (.ref b), some (.ref (G.2.2 0 0)), some (.ref (Gm.2.2 0 0)), some (.ref ao), some (.int (nI i)), none, none] [] (xPP G Gm cJ ao S M o) := by
  refine xg_aload_n C dL_law_976 rfl ?_
  refine xg_aload_n C dL_law_977 rfl ?_
  refine xg_iload C dL_law_978 rfl ?_
  refine xg_iconst C dL_law_980 (v := (1 : Int32)) (by decide) ?_
  refine xg_iadd C dL_law_981 ?_
  refine xg_scr C E3 (j := i + 1) hN (by omega) (xia1 i) dL_law_982 ?_
  obtain ⟨r, S1, o1, M1, v, fr1, lo1, q1, q2, q3, q4, q5, q7⟩ := hsim c S M o (xs (i + 1)) hc hR
  have hR1 := q7
  refine xg_callW C V E3 L2 (xstW hd9) (S' := S1) (o' := o1) (r := r) (as := [.ref (G.2.2 0 0), .int (xs (i + 1))]) (n := 2) (fun l hl => kL_fall l hl hsz hao hd9.2.1 V.1 (xs (i + 1)) S o r S1 o1 q1) gL_law_L_fall rfl hdL_fall ⟨by decide, by decide⟩ rfl rfl (Nat.le_of_ble_eq_true rfl) hk dL_law_983 ?_
  refine xg_istore C dL_law_986 (by decide) (L' := [some (.ref b), some (.ref (G.2.2 0 0)), some (.ref (Gm.2.2 0 0)), some (.ref ao), some (.int (nI i)), some (.int r), none]) rfl ?_
  refine xg_aload_n C dL_law_988 rfl ?_
  refine xg_aload_n C dL_law_989 rfl ?_
  refine xg_iload C dL_law_990 rfl ?_
  refine xg_iconst C dL_law_992 (v := (1 : Int32)) (by decide) ?_
  refine xg_iadd C dL_law_993 ?_
  refine xg_scr C E3 (j := i + 1) hN (by omega) (xia1 i) dL_law_994 ?_
  refine xg_I (I' := (fun H => xP xYm Gm M H ∧ xPo G cJ ao S1 o1 H)) ?_ (fun H h => ⟨h.2, h.1⟩)
  refine xg_callVvJ C Vm (xstM hd9) (f := 0) (S' := M1) (As := [.int (xs (i + 1))]) (fun l => q4 l Gm Vm.1) gL_law_X4_fall rfl hdX4_fall ⟨by show _ ≤ 12; omega, by show _ ≤ 436; have e9 : (2 : Nat) = 2 := rfl; omega⟩ rfl rfl rfl rfl rfl (Nat.le_of_ble_eq_true rfl) ⟨by show _ ≤ 637548; omega, by show _ ≤ 7183461; omega⟩ dL_law_995 ?_
  refine xg_aload_n C dL_law_998 rfl ?_
  refine xg_callViJ C Vm (xstM hd9) (f := 0) (As := []) (r := fX4_thrown M1) (fun l => kX4_thrown l Vm.1 M1) gL_law_X4_thrown rfl hdX4_thrown ⟨by decide, by decide⟩ rfl rfl rfl rfl rfl (Nat.le_of_ble_eq_true rfl) ⟨by show _ ≤ 637548; omega, by show _ ≤ 7183461; omega⟩ dL_law_999 ?_
  refine xg_iload C dL_law_1002 rfl ?_
  refine xg_icmp_eq C 1009 dL_law_1004 (by decide) (fun h9 => ?_) (fun h9 => absurd (q5) h9)
  refine xg_goto C 1871 dL_law_1009 (by decide) ?_
  refine xg_I (I' := xPP G Gm cJ ao S1 M1 o1) ?_ (fun H h => ⟨h.2, h.1⟩)
  refine xg_le2 (L' := [some (.ref b), some (.ref (G.2.2 0 0)), some (.ref (Gm.2.2 0 0)), some (.ref ao), some (.int (nI i)), none, none]) ⟨rfl, rfl, rfl, rfl, rfl, trivial⟩ ?_
  exact K S1 M1 o1 hR1
set_option maxRecDepth 100000 in
set_option maxHeartbeats 4000000 in
theorem law_comeUp {F : xF} {G Gm : xG} {Sa : Nat → Nat} {sz b N ao k w i c : Nat} {xs : Nat → Int32} {cJ : ClassId} {S M : xS} {o : Int64} {Rel : Nat → xS → xS → Prop} (C : xC F cL_law 7 RL wsL_law room_1) (V : xV F xYc G) (Vm : xV F xYm Gm) (E3 : xE3 F Sa sz b N xs) (L2 : xL2 F cJ ao) (hsz : ∀ a : Nat, xA xYc G a → sz ≤ a) (hao : sz ≤ ao) (hd9 : xAway G Gm ao) (hN : N ≤ 3072) (hi : i + 6 ≤ N) (hc : c < 512) (hR : Rel c S M) (hk : k + 1 ≤ 637548 ∧ w + 6 ≤ 7183461) (hsim : sim_comeUp Rel) (K : ∀ S' M' o', Rel (c + 1) S' M' → xg F (k + 1) (w + 6) 1871 [some (.ref b), some (.ref (G.2.2 0 0)), some (.ref (Gm.2.2 0 0)), some (.ref ao), some (.int (nI i)), none, none] [] (xPP G Gm cJ ao S' M' o')) : xg F k w 1012 [some (.ref b), some (.ref (G.2.2 0 0)), some (.ref (Gm.2.2 0 0)), some (.ref ao), some (.int (nI i)), none, none] [] (xPP G Gm cJ ao S M o) := by
  refine xg_aload_n C dL_law_1012 rfl ?_
  refine xg_aload_n C dL_law_1013 rfl ?_
  refine xg_iload C dL_law_1014 rfl ?_
  refine xg_iconst C dL_law_1016 (v := (1 : Int32)) (by decide) ?_
  refine xg_iadd C dL_law_1017 ?_
  refine xg_scr C E3 (j := i + 1) hN (by omega) (xia1 i) dL_law_1018 ?_
  obtain ⟨r, S1, o1, M1, v, fr1, lo1, q1, q2, q3, q4, q5, q7⟩ := hsim c S M o (xs (i + 1)) hc hR
  have hR1 := q7
  refine xg_callW C V E3 L2 (xstW hd9) (S' := S1) (o' := o1) (r := r) (as := [.ref (G.2.2 0 0), .int (xs (i + 1))]) (n := 2) (fun l hl => kL_comeUp l hl hsz hao hd9.2.1 V.1 (xs (i + 1)) S o r S1 o1 q1) gL_law_L_comeUp rfl hdL_comeUp ⟨by decide, by decide⟩ rfl rfl (Nat.le_of_ble_eq_true rfl) hk dL_law_1019 ?_
  refine xg_istore C dL_law_1022 (by decide) (L' := [some (.ref b), some (.ref (G.2.2 0 0)), some (.ref (Gm.2.2 0 0)), some (.ref ao), some (.int (nI i)), some (.int r), none]) rfl ?_
  refine xg_aload_n C dL_law_1024 rfl ?_
  refine xg_aload_n C dL_law_1025 rfl ?_
  refine xg_iload C dL_law_1026 rfl ?_
  refine xg_iconst C dL_law_1028 (v := (1 : Int32)) (by decide) ?_
  refine xg_iadd C dL_law_1029 ?_
  refine xg_scr C E3 (j := i + 1) hN (by omega) (xia1 i) dL_law_1030 ?_
  refine xg_I (I' := (fun H => xP xYm Gm M H ∧ xPo G cJ ao S1 o1 H)) ?_ (fun H h => ⟨h.2, h.1⟩)
  refine xg_callVvJ C Vm (xstM hd9) (f := 0) (S' := M1) (As := [.int (xs (i + 1))]) (fun l => q4 l Gm Vm.1) gL_law_X4_comeUp rfl hdX4_comeUp ⟨by show _ ≤ 12; omega, by show _ ≤ 436; have e9 : (3 : Nat) = 3 := rfl; omega⟩ rfl rfl rfl rfl rfl (Nat.le_of_ble_eq_true rfl) ⟨by show _ ≤ 637548; omega, by show _ ≤ 7183461; omega⟩ dL_law_1031 ?_
  refine xg_aload_n C dL_law_1034 rfl ?_
  refine xg_callViJ C Vm (xstM hd9) (f := 0) (As := []) (r := fX4_thrown M1) (fun l => kX4_thrown l Vm.1 M1) gL_law_X4_thrown rfl hdX4_thrown ⟨by decide, by decide⟩ rfl rfl rfl rfl rfl (Nat.le_of_ble_eq_true rfl) ⟨by show _ ≤ 637548; omega, by show _ ≤ 7183461; omega⟩ dL_law_1035 ?_
  refine xg_iload C dL_law_1038 rfl ?_
  refine xg_icmp_eq C 1045 dL_law_1040 (by decide) (fun h9 => ?_) (fun h9 => absurd (q5) h9)
  refine xg_goto C 1871 dL_law_1045 (by decide) ?_
  refine xg_I (I' := xPP G Gm cJ ao S1 M1 o1) ?_ (fun H h => ⟨h.2, h.1⟩)
  refine xg_le2 (L' := [some (.ref b), some (.ref (G.2.2 0 0)), some (.ref (Gm.2.2 0 0)), some (.ref ao), some (.int (nI i)), none, none]) ⟨rfl, rfl, rfl, rfl, rfl, trivial⟩ ?_
  exact K S1 M1 o1 hR1
set_option maxRecDepth 100000 in
set_option maxHeartbeats 4000000 in
theorem law_setGroup {F : xF} {G Gm : xG} {Sa : Nat → Nat} {sz b N ao k w i c : Nat} {xs : Nat → Int32} {cJ : ClassId} {S M : xS} {o : Int64} {Rel : Nat → xS → xS → Prop} (C : xC F cL_law 7 RL wsL_law room_1) (V : xV F xYc G) (Vm : xV F xYm Gm) (E3 : xE3 F Sa sz b N xs) (L2 : xL2 F cJ ao) (hsz : ∀ a : Nat, xA xYc G a → sz ≤ a) (hao : sz ≤ ao) (hd9 : xAway G Gm ao) (hN : N ≤ 3072) (hi : i + 6 ≤ N) (hc : c < 512) (hR : Rel c S M) (hk : k + 1 ≤ 637548 ∧ w + 6 ≤ 7183461) (hsim : sim_setGroup Rel) (K : ∀ S' M' o', Rel (c + 1) S' M' → xg F (k + 1) (w + 6) 1871 [some (.ref b), some (.ref (G.2.2 0 0)), some (.ref (Gm.2.2 0 0)), some (.ref ao), some (.int (nI i)), none, none] [] (xPP G Gm cJ ao S' M' o')) : xg F k w 1048 [some (.ref b), some (.ref (G.2.2 0 0)), some (.ref (Gm.2.2 0 0)), some (.ref ao), some (.int (nI i)), none, none] [] (xPP G Gm cJ ao S M o) := by
  refine xg_aload_n C dL_law_1048 rfl ?_
  refine xg_aload_n C dL_law_1049 rfl ?_
  refine xg_iload C dL_law_1050 rfl ?_
  refine xg_iconst C dL_law_1052 (v := (1 : Int32)) (by decide) ?_
  refine xg_iadd C dL_law_1053 ?_
  refine xg_scr C E3 (j := i + 1) hN (by omega) (xia1 i) dL_law_1054 ?_
  refine xg_aload_n C dL_law_1055 rfl ?_
  refine xg_iload C dL_law_1056 rfl ?_
  refine xg_iconst C dL_law_1058 (v := (2 : Int32)) (by decide) ?_
  refine xg_iadd C dL_law_1059 ?_
  refine xg_scr C E3 (j := i + 2) hN (by omega) (xia2 i) dL_law_1060 ?_
  refine xg_aload_n C dL_law_1061 rfl ?_
  obtain ⟨r, S1, o1, M1, v, fr1, lo1, q1, q2, q3, q4, q5, q6, q7⟩ := hsim c S M o (xs (i + 1)) (xs (i + 2)) hc hR
  have hR1 := q7
  refine xg_callW C V E3 L2 (xstW hd9) (S' := S1) (o' := o1) (r := r) (as := [.ref (G.2.2 0 0), .int (xs (i + 1)), .int (xs (i + 2)), .ref ao]) (n := 4) (fun l hl => kL_setGroup l hl hsz hao hd9.2.1 V.1 (xs (i + 1)) (xs (i + 2)) S o r S1 o1 q1) gL_law_L_setGroup rfl hdL_setGroup ⟨by decide, by decide⟩ rfl rfl (Nat.le_of_ble_eq_true rfl) hk dL_law_1062 ?_
  refine xg_istore C dL_law_1065 (by decide) (L' := [some (.ref b), some (.ref (G.2.2 0 0)), some (.ref (Gm.2.2 0 0)), some (.ref ao), some (.int (nI i)), some (.int r), none]) rfl ?_
  refine xg_aload_n C dL_law_1067 rfl ?_
  refine xg_aload_n C dL_law_1068 rfl ?_
  refine xg_iload C dL_law_1069 rfl ?_
  refine xg_iconst C dL_law_1071 (v := (1 : Int32)) (by decide) ?_
  refine xg_iadd C dL_law_1072 ?_
  refine xg_scr C E3 (j := i + 1) hN (by omega) (xia1 i) dL_law_1073 ?_
  refine xg_aload_n C dL_law_1074 rfl ?_
  refine xg_iload C dL_law_1075 rfl ?_
  refine xg_iconst C dL_law_1077 (v := (2 : Int32)) (by decide) ?_
  refine xg_iadd C dL_law_1078 ?_
  refine xg_scr C E3 (j := i + 2) hN (by omega) (xia2 i) dL_law_1079 ?_
  refine xg_I (I' := (fun H => xP xYm Gm M H ∧ xPo G cJ ao S1 o1 H)) ?_ (fun H h => ⟨h.2, h.1⟩)
  refine xg_callViJ C Vm (xstM hd9) (f := 0) (S' := M1) (As := [.int (xs (i + 1)), .int (xs (i + 2))]) (r := v) (fun l => q4 l Gm Vm.1) gL_law_X4_setGroup rfl hdX4_setGroup ⟨by show _ ≤ 12; omega, by show _ ≤ 436; have e9 : (4 : Nat) = 4 := rfl; omega⟩ rfl rfl rfl rfl rfl (Nat.le_of_ble_eq_true rfl) ⟨by show _ ≤ 637548; omega, by show _ ≤ 7183461; omega⟩ dL_law_1080 ?_
  refine xg_istore C dL_law_1083 (by decide) (L' := [some (.ref b), some (.ref (G.2.2 0 0)), some (.ref (Gm.2.2 0 0)), some (.ref ao), some (.int (nI i)), some (.int r), some (.int v)]) rfl ?_
  refine xg_aload_n C dL_law_1085 rfl ?_
  refine xg_callViJ C Vm (xstM hd9) (f := 0) (As := []) (r := fX4_thrown M1) (fun l => kX4_thrown l Vm.1 M1) gL_law_X4_thrown rfl hdX4_thrown ⟨by decide, by decide⟩ rfl rfl rfl rfl rfl (Nat.le_of_ble_eq_true rfl) ⟨by show _ ≤ 637548; omega, by show _ ≤ 7183461; omega⟩ dL_law_1086 ?_
  refine xg_iload C dL_law_1089 rfl ?_
  refine xg_icmp_eq C 1096 dL_law_1091 (by decide) (fun h9 => ?_) (fun h9 => absurd (q5) h9)
  refine xg_iload C dL_law_1096 rfl ?_
  refine xg_if_ne C 1113 dL_law_1098 (by decide) (fun h8 => ?_) (fun h8 => ?_)
  · refine xg_goto C 1871 dL_law_1113 (by decide) ?_
    refine xg_I (I' := xPP G Gm cJ ao S1 M1 o1) ?_ (fun H h => ⟨h.2, h.1⟩)
    refine xg_le2 (L' := [some (.ref b), some (.ref (G.2.2 0 0)), some (.ref (Gm.2.2 0 0)), some (.ref ao), some (.int (nI i)), none, none]) ⟨rfl, rfl, rfl, rfl, rfl, trivial⟩ ?_
    exact K S1 M1 o1 hR1
  · refine xg_aload_n C dL_law_1101 rfl ?_
    refine xg_iconst C dL_law_1102 (v := (0 : Int32)) (by decide) ?_
    refine xg_lald C L2 (fun H h => h.2.2) dL_law_1103 ?_
    refine xg_iload C dL_law_1104 rfl ?_
    refine xg_i2l C dL_law_1106 ?_
    refine xg_lcmp C dL_law_1107 ?_
    refine xg_if_eq C 1113 dL_law_1108 (by decide) (fun _ => ?_) (fun h7 => absurd (by rw [q6 h8]; exact lg_cmp_self _) h7)
    refine xg_goto C 1871 dL_law_1113 (by decide) ?_
    refine xg_I (I' := xPP G Gm cJ ao S1 M1 o1) ?_ (fun H h => ⟨h.2, h.1⟩)
    refine xg_le2 (L' := [some (.ref b), some (.ref (G.2.2 0 0)), some (.ref (Gm.2.2 0 0)), some (.ref ao), some (.int (nI i)), none, none]) ⟨rfl, rfl, rfl, rfl, rfl, trivial⟩ ?_
    exact K S1 M1 o1 hR1
