/-! 22: cases freshest, agree, unnoticed, mistaken, vain, tick, time -/
set_option maxRecDepth 100000 in
set_option maxHeartbeats 4000000 in
theorem law_freshest {F : xF} {G Gm : xG} {Sa : Nat → Nat} {sz b N ao k w i c : Nat} {xs : Nat → Int32} {cJ : ClassId} {S M : xS} {o : Int64} {Rel : Nat → xS → xS → Prop} (C : xC F cL_law 7 RL wsL_law room_1) (V : xV F xYc G) (Vm : xV F xYm Gm) (E3 : xE3 F Sa sz b N xs) (L2 : xL2 F cJ ao) (hsz : ∀ a : Nat, xA xYc G a → sz ≤ a) (hao : sz ≤ ao) (hd9 : xAway G Gm ao) (hN : N ≤ 3072) (hi : i + 6 ≤ N) (hc : c < 512) (hR : Rel c S M) (hk : k + 1 ≤ 637548 ∧ w + 6 ≤ 7183461) (hsim : sim_freshest Rel) (K : ∀ S' M' o', Rel (c + 1) S' M' → xg F (k + 1) (w + 6) 1871 [some (.ref b), some (.ref (G.2.2 0 0)), some (.ref (Gm.2.2 0 0)), some (.ref ao), some (.int (nI i)), none, none] [] (xPP G Gm cJ ao S' M' o')) : xg F k w 1651 [some (.ref b), some (.ref (G.2.2 0 0)), some (.ref (Gm.2.2 0 0)), some (.ref ao), some (.int (nI i)), none, none] [] (xPP G Gm cJ ao S M o) := by
  refine xg_aload_n C dL_law_1651 rfl ?_
  refine xg_aload_n C dL_law_1652 rfl ?_
  refine xg_iload C dL_law_1653 rfl ?_
  refine xg_iconst C dL_law_1655 (v := (1 : Int32)) (by decide) ?_
  refine xg_iadd C dL_law_1656 ?_
  refine xg_scr C E3 (j := i + 1) hN (by omega) (xia1 i) dL_law_1657 ?_
  refine xg_aload_n C dL_law_1658 rfl ?_
  obtain ⟨r, S1, o1, M1, v, fr1, lo1, q1, q2, q3, q4, q5, q6, q7⟩ := hsim c S M o (xs (i + 1)) hc hR
  have hR1 := q7
  refine xg_callW C V E3 L2 (xstW hd9) (S' := S1) (o' := o1) (r := r) (as := [.ref (G.2.2 0 0), .int (xs (i + 1)), .ref ao]) (n := 3) (fun l hl => kL_freshest l hl hsz hao hd9.2.1 V.1 (xs (i + 1)) S o r S1 o1 q1) gL_law_L_freshest rfl hdL_freshest ⟨by decide, by decide⟩ rfl rfl (Nat.le_of_ble_eq_true rfl) hk dL_law_1659 ?_
  refine xg_istore C dL_law_1662 (by decide) (L' := [some (.ref b), some (.ref (G.2.2 0 0)), some (.ref (Gm.2.2 0 0)), some (.ref ao), some (.int (nI i)), some (.int r), none]) rfl ?_
  refine xg_aload_n C dL_law_1664 rfl ?_
  refine xg_aload_n C dL_law_1665 rfl ?_
  refine xg_iload C dL_law_1666 rfl ?_
  refine xg_iconst C dL_law_1668 (v := (1 : Int32)) (by decide) ?_
  refine xg_iadd C dL_law_1669 ?_
  refine xg_scr C E3 (j := i + 1) hN (by omega) (xia1 i) dL_law_1670 ?_
  refine xg_I (I' := (fun H => xP xYm Gm M H ∧ xPo G cJ ao S1 o1 H)) ?_ (fun H h => ⟨h.2, h.1⟩)
  refine xg_callViJ C Vm (xstM hd9) (f := 0) (S' := M1) (As := [.int (xs (i + 1))]) (r := v) (fun l => q4 l Gm Vm.1) gL_law_X4_freshest rfl hdX4_freshest ⟨by show _ ≤ 12; omega, by show _ ≤ 436; have e9 : (4 : Nat) = 4 := rfl; omega⟩ rfl rfl rfl rfl rfl (Nat.le_of_ble_eq_true rfl) ⟨by show _ ≤ 637548; omega, by show _ ≤ 7183461; omega⟩ dL_law_1671 ?_
  refine xg_istore C dL_law_1674 (by decide) (L' := [some (.ref b), some (.ref (G.2.2 0 0)), some (.ref (Gm.2.2 0 0)), some (.ref ao), some (.int (nI i)), some (.int r), some (.int v)]) rfl ?_
  refine xg_aload_n C dL_law_1676 rfl ?_
  refine xg_callViJ C Vm (xstM hd9) (f := 0) (As := []) (r := fX4_thrown M1) (fun l => kX4_thrown l Vm.1 M1) gL_law_X4_thrown rfl hdX4_thrown ⟨by decide, by decide⟩ rfl rfl rfl rfl rfl (Nat.le_of_ble_eq_true rfl) ⟨by show _ ≤ 637548; omega, by show _ ≤ 7183461; omega⟩ dL_law_1677 ?_
  refine xg_iload C dL_law_1680 rfl ?_
  refine xg_icmp_eq C 1687 dL_law_1682 (by decide) (fun h9 => ?_) (fun h9 => absurd (q5) h9)
  refine xg_iload C dL_law_1687 rfl ?_
  refine xg_if_ne C 1704 dL_law_1689 (by decide) (fun h8 => ?_) (fun h8 => ?_)
  · refine xg_goto C 1871 dL_law_1704 (by decide) ?_
    refine xg_I (I' := xPP G Gm cJ ao S1 M1 o1) ?_ (fun H h => ⟨h.2, h.1⟩)
    refine xg_le2 (L' := [some (.ref b), some (.ref (G.2.2 0 0)), some (.ref (Gm.2.2 0 0)), some (.ref ao), some (.int (nI i)), none, none]) ⟨rfl, rfl, rfl, rfl, rfl, trivial⟩ ?_
    exact K S1 M1 o1 hR1
  · refine xg_aload_n C dL_law_1692 rfl ?_
    refine xg_iconst C dL_law_1693 (v := (0 : Int32)) (by decide) ?_
    refine xg_lald C L2 (fun H h => h.2.2) dL_law_1694 ?_
    refine xg_iload C dL_law_1695 rfl ?_
    refine xg_i2l C dL_law_1697 ?_
    refine xg_lcmp C dL_law_1698 ?_
    refine xg_if_eq C 1704 dL_law_1699 (by decide) (fun _ => ?_) (fun h7 => absurd (by rw [q6 h8]; exact lg_cmp_self _) h7)
    refine xg_goto C 1871 dL_law_1704 (by decide) ?_
    refine xg_I (I' := xPP G Gm cJ ao S1 M1 o1) ?_ (fun H h => ⟨h.2, h.1⟩)
    refine xg_le2 (L' := [some (.ref b), some (.ref (G.2.2 0 0)), some (.ref (Gm.2.2 0 0)), some (.ref ao), some (.int (nI i)), none, none]) ⟨rfl, rfl, rfl, rfl, rfl, trivial⟩ ?_
    exact K S1 M1 o1 hR1
set_option maxRecDepth 100000 in
set_option maxHeartbeats 4000000 in
theorem law_agree {F : xF} {G Gm : xG} {Sa : Nat → Nat} {sz b N ao k w i c : Nat} {xs : Nat → Int32} {cJ : ClassId} {S M : xS} {o : Int64} {Rel : Nat → xS → xS → Prop} (C : xC F cL_law 7 RL wsL_law room_1) (V : xV F xYc G) (Vm : xV F xYm Gm) (E3 : xE3 F Sa sz b N xs) (L2 : xL2 F cJ ao) (hsz : ∀ a : Nat, xA xYc G a → sz ≤ a) (hao : sz ≤ ao) (hd9 : xAway G Gm ao) (hN : N ≤ 3072) (hi : i + 6 ≤ N) (hc : c < 512) (hR : Rel c S M) (hk : k + 1 ≤ 637548 ∧ w + 6 ≤ 7183461) (hsim : sim_agree Rel) (K : ∀ S' M' o', Rel (c + 1) S' M' → xg F (k + 1) (w + 6) 1871 [some (.ref b), some (.ref (G.2.2 0 0)), some (.ref (Gm.2.2 0 0)), some (.ref ao), some (.int (nI i)), none, none] [] (xPP G Gm cJ ao S' M' o')) : xg F k w 1707 [some (.ref b), some (.ref (G.2.2 0 0)), some (.ref (Gm.2.2 0 0)), some (.ref ao), some (.int (nI i)), none, none] [] (xPP G Gm cJ ao S M o) := by
  refine xg_aload_n C dL_law_1707 rfl ?_
  refine xg_aload_n C dL_law_1708 rfl ?_
  refine xg_iload C dL_law_1709 rfl ?_
  refine xg_iconst C dL_law_1711 (v := (1 : Int32)) (by decide) ?_
  refine xg_iadd C dL_law_1712 ?_
  refine xg_scr C E3 (j := i + 1) hN (by omega) (xia1 i) dL_law_1713 ?_
  refine xg_aload_n C dL_law_1714 rfl ?_
  obtain ⟨r, S1, o1, M1, v, fr1, lo1, q1, q2, q3, q4, q5, q6, q7⟩ := hsim c S M o (xs (i + 1)) hc hR
  have hR1 := q7
  refine xg_callW C V E3 L2 (xstW hd9) (S' := S1) (o' := o1) (r := r) (as := [.ref (G.2.2 0 0), .int (xs (i + 1)), .ref ao]) (n := 3) (fun l hl => kL_agree l hl hsz hao hd9.2.1 V.1 (xs (i + 1)) S o r S1 o1 q1) gL_law_L_agree rfl hdL_agree ⟨by decide, by decide⟩ rfl rfl (Nat.le_of_ble_eq_true rfl) hk dL_law_1715 ?_
  refine xg_istore C dL_law_1718 (by decide) (L' := [some (.ref b), some (.ref (G.2.2 0 0)), some (.ref (Gm.2.2 0 0)), some (.ref ao), some (.int (nI i)), some (.int r), none]) rfl ?_
  refine xg_aload_n C dL_law_1720 rfl ?_
  refine xg_aload_n C dL_law_1721 rfl ?_
  refine xg_iload C dL_law_1722 rfl ?_
  refine xg_iconst C dL_law_1724 (v := (1 : Int32)) (by decide) ?_
  refine xg_iadd C dL_law_1725 ?_
  refine xg_scr C E3 (j := i + 1) hN (by omega) (xia1 i) dL_law_1726 ?_
  refine xg_I (I' := (fun H => xP xYm Gm M H ∧ xPo G cJ ao S1 o1 H)) ?_ (fun H h => ⟨h.2, h.1⟩)
  refine xg_callViJ C Vm (xstM hd9) (f := 0) (S' := M1) (As := [.int (xs (i + 1))]) (r := v) (fun l => q4 l Gm Vm.1) gL_law_X4_agree rfl hdX4_agree ⟨by show _ ≤ 12; omega, by show _ ≤ 436; have e9 : (4 : Nat) = 4 := rfl; omega⟩ rfl rfl rfl rfl rfl (Nat.le_of_ble_eq_true rfl) ⟨by show _ ≤ 637548; omega, by show _ ≤ 7183461; omega⟩ dL_law_1727 ?_
  refine xg_istore C dL_law_1730 (by decide) (L' := [some (.ref b), some (.ref (G.2.2 0 0)), some (.ref (Gm.2.2 0 0)), some (.ref ao), some (.int (nI i)), some (.int r), some (.int v)]) rfl ?_
  refine xg_aload_n C dL_law_1732 rfl ?_
  refine xg_callViJ C Vm (xstM hd9) (f := 0) (As := []) (r := fX4_thrown M1) (fun l => kX4_thrown l Vm.1 M1) gL_law_X4_thrown rfl hdX4_thrown ⟨by decide, by decide⟩ rfl rfl rfl rfl rfl (Nat.le_of_ble_eq_true rfl) ⟨by show _ ≤ 637548; omega, by show _ ≤ 7183461; omega⟩ dL_law_1733 ?_
  refine xg_iload C dL_law_1736 rfl ?_
  refine xg_icmp_eq C 1743 dL_law_1738 (by decide) (fun h9 => ?_) (fun h9 => absurd (q5) h9)
  refine xg_iload C dL_law_1743 rfl ?_
  refine xg_if_ne C 1760 dL_law_1745 (by decide) (fun h8 => ?_) (fun h8 => ?_)
  · refine xg_goto C 1871 dL_law_1760 (by decide) ?_
    refine xg_I (I' := xPP G Gm cJ ao S1 M1 o1) ?_ (fun H h => ⟨h.2, h.1⟩)
    refine xg_le2 (L' := [some (.ref b), some (.ref (G.2.2 0 0)), some (.ref (Gm.2.2 0 0)), some (.ref ao), some (.int (nI i)), none, none]) ⟨rfl, rfl, rfl, rfl, rfl, trivial⟩ ?_
    exact K S1 M1 o1 hR1
  · refine xg_aload_n C dL_law_1748 rfl ?_
    refine xg_iconst C dL_law_1749 (v := (0 : Int32)) (by decide) ?_
    refine xg_lald C L2 (fun H h => h.2.2) dL_law_1750 ?_
    refine xg_iload C dL_law_1751 rfl ?_
    refine xg_i2l C dL_law_1753 ?_
    refine xg_lcmp C dL_law_1754 ?_
    refine xg_if_eq C 1760 dL_law_1755 (by decide) (fun _ => ?_) (fun h7 => absurd (by rw [q6 h8]; exact lg_cmp_self _) h7)
    refine xg_goto C 1871 dL_law_1760 (by decide) ?_
    refine xg_I (I' := xPP G Gm cJ ao S1 M1 o1) ?_ (fun H h => ⟨h.2, h.1⟩)
    refine xg_le2 (L' := [some (.ref b), some (.ref (G.2.2 0 0)), some (.ref (Gm.2.2 0 0)), some (.ref ao), some (.int (nI i)), none, none]) ⟨rfl, rfl, rfl, rfl, rfl, trivial⟩ ?_
    exact K S1 M1 o1 hR1
set_option maxRecDepth 100000 in
set_option maxHeartbeats 4000000 in
theorem law_unnoticed {F : xF} {G Gm : xG} {Sa : Nat → Nat} {sz b N ao k w i c : Nat} {xs : Nat → Int32} {cJ : ClassId} {S M : xS} {o : Int64} {Rel : Nat → xS → xS → Prop} (C : xC F cL_law 7 RL wsL_law room_1) (V : xV F xYc G) (Vm : xV F xYm Gm) (E3 : xE3 F Sa sz b N xs) (L2 : xL2 F cJ ao) (hsz : ∀ a : Nat, xA xYc G a → sz ≤ a) (hao : sz ≤ ao) (hd9 : xAway G Gm ao) (hN : N ≤ 3072) (hi : i + 6 ≤ N) (hc : c < 512) (hR : Rel c S M) (hk : k + 1 ≤ 637548 ∧ w + 6 ≤ 7183461) (hsim : sim_unnoticed Rel) (K : ∀ S' M' o', Rel (c + 1) S' M' → xg F (k + 1) (w + 6) 1871 [some (.ref b), some (.ref (G.2.2 0 0)), some (.ref (Gm.2.2 0 0)), some (.ref ao), some (.int (nI i)), none, none] [] (xPP G Gm cJ ao S' M' o')) : xg F k w 1763 [some (.ref b), some (.ref (G.2.2 0 0)), some (.ref (Gm.2.2 0 0)), some (.ref ao), some (.int (nI i)), none, none] [] (xPP G Gm cJ ao S M o) := by
  refine xg_aload_n C dL_law_1763 rfl ?_
  refine xg_I (I' := (fun H => xP xYc G S H ∧ (xO cJ ao o H ∧ xP xYm Gm M H))) ?_ (fun H h => ⟨h.1.1, h.1.2, h.2⟩)
  refine xg_callViJ C V (xstC hd9) (f := 0) (As := []) (r := fX3_unnoticed S) (fun l => kX3_unnoticed l V.1 S) gL_law_X3_unnoticed rfl hdX3_unnoticed ⟨by decide, by decide⟩ rfl rfl rfl rfl rfl (Nat.le_of_ble_eq_true rfl) ⟨by show _ ≤ 637548; omega, by show _ ≤ 7183461; omega⟩ dL_law_1764 ?_
  refine xg_aload_n C dL_law_1767 rfl ?_
  refine xg_I (I' := xPP G Gm cJ ao S M o) ?_ (fun H h => ⟨⟨h.1, h.2.1⟩, h.2.2⟩)
  refine xg_I (I' := (fun H => xP xYm Gm M H ∧ xPo G cJ ao S o H)) ?_ (fun H h => ⟨h.2, h.1⟩)
  obtain ⟨e1, hR1⟩ := hsim c S M hc hR
  refine xg_callViJ C Vm (xstM hd9) (f := 0) (As := []) (r := (fX4_unnoticed M).2) (fun l => kX4_unnoticed l Vm.1 M) gL_law_X4_unnoticed rfl hdX4_unnoticed ⟨by decide, by decide⟩ rfl rfl rfl rfl rfl (Nat.le_of_ble_eq_true rfl) ⟨by show _ ≤ 637548; omega, by show _ ≤ 7183461; omega⟩ dL_law_1768 ?_
  refine xg_icmp_eq C 1871 dL_law_1771 (by decide) (fun h9 => ?_) (fun h9 => absurd (e1) h9)
  refine xg_I (I' := xPP G Gm cJ ao S (fX4_unnoticed M).1 o) ?_ (fun H h => ⟨h.2, h.1⟩)
  refine xg_le2 (L' := [some (.ref b), some (.ref (G.2.2 0 0)), some (.ref (Gm.2.2 0 0)), some (.ref ao), some (.int (nI i)), none, none]) ⟨rfl, rfl, rfl, rfl, rfl, trivial⟩ ?_
  exact xg_wide (K S (fX4_unnoticed M).1 o hR1) (Nat.le_succ _) (Nat.le_add_right _ _)
set_option maxRecDepth 100000 in
set_option maxHeartbeats 4000000 in
theorem law_mistaken {F : xF} {G Gm : xG} {Sa : Nat → Nat} {sz b N ao k w i c : Nat} {xs : Nat → Int32} {cJ : ClassId} {S M : xS} {o : Int64} {Rel : Nat → xS → xS → Prop} (C : xC F cL_law 7 RL wsL_law room_1) (V : xV F xYc G) (Vm : xV F xYm Gm) (E3 : xE3 F Sa sz b N xs) (L2 : xL2 F cJ ao) (hsz : ∀ a : Nat, xA xYc G a → sz ≤ a) (hao : sz ≤ ao) (hd9 : xAway G Gm ao) (hN : N ≤ 3072) (hi : i + 6 ≤ N) (hc : c < 512) (hR : Rel c S M) (hk : k + 1 ≤ 637548 ∧ w + 6 ≤ 7183461) (hsim : sim_mistaken Rel) (K : ∀ S' M' o', Rel (c + 1) S' M' → xg F (k + 1) (w + 6) 1871 [some (.ref b), some (.ref (G.2.2 0 0)), some (.ref (Gm.2.2 0 0)), some (.ref ao), some (.int (nI i)), none, none] [] (xPP G Gm cJ ao S' M' o')) : xg F k w 1776 [some (.ref b), some (.ref (G.2.2 0 0)), some (.ref (Gm.2.2 0 0)), some (.ref ao), some (.int (nI i)), none, none] [] (xPP G Gm cJ ao S M o) := by
  refine xg_aload_n C dL_law_1776 rfl ?_
  refine xg_I (I' := (fun H => xP xYc G S H ∧ (xO cJ ao o H ∧ xP xYm Gm M H))) ?_ (fun H h => ⟨h.1.1, h.1.2, h.2⟩)
  refine xg_callViJ C V (xstC hd9) (f := 0) (As := []) (r := fX3_mistaken S) (fun l => kX3_mistaken l V.1 S) gL_law_X3_mistaken rfl hdX3_mistaken ⟨by decide, by decide⟩ rfl rfl rfl rfl rfl (Nat.le_of_ble_eq_true rfl) ⟨by show _ ≤ 637548; omega, by show _ ≤ 7183461; omega⟩ dL_law_1777 ?_
  refine xg_aload_n C dL_law_1780 rfl ?_
  refine xg_I (I' := xPP G Gm cJ ao S M o) ?_ (fun H h => ⟨⟨h.1, h.2.1⟩, h.2.2⟩)
  refine xg_I (I' := (fun H => xP xYm Gm M H ∧ xPo G cJ ao S o H)) ?_ (fun H h => ⟨h.2, h.1⟩)
  obtain ⟨e1, hR1⟩ := hsim c S M hc hR
  refine xg_callViJ C Vm (xstM hd9) (f := 0) (As := []) (r := (fX4_mistaken M).2) (fun l => kX4_mistaken l Vm.1 M) gL_law_X4_mistaken rfl hdX4_mistaken ⟨by decide, by decide⟩ rfl rfl rfl rfl rfl (Nat.le_of_ble_eq_true rfl) ⟨by show _ ≤ 637548; omega, by show _ ≤ 7183461; omega⟩ dL_law_1781 ?_
  refine xg_icmp_eq C 1871 dL_law_1784 (by decide) (fun h9 => ?_) (fun h9 => absurd (e1) h9)
  refine xg_I (I' := xPP G Gm cJ ao S (fX4_mistaken M).1 o) ?_ (fun H h => ⟨h.2, h.1⟩)
  refine xg_le2 (L' := [some (.ref b), some (.ref (G.2.2 0 0)), some (.ref (Gm.2.2 0 0)), some (.ref ao), some (.int (nI i)), none, none]) ⟨rfl, rfl, rfl, rfl, rfl, trivial⟩ ?_
  exact xg_wide (K S (fX4_mistaken M).1 o hR1) (Nat.le_succ _) (Nat.le_add_right _ _)
set_option maxRecDepth 100000 in
set_option maxHeartbeats 4000000 in
theorem law_vain {F : xF} {G Gm : xG} {Sa : Nat → Nat} {sz b N ao k w i c : Nat} {xs : Nat → Int32} {cJ : ClassId} {S M : xS} {o : Int64} {Rel : Nat → xS → xS → Prop} (C : xC F cL_law 7 RL wsL_law room_1) (V : xV F xYc G) (Vm : xV F xYm Gm) (E3 : xE3 F Sa sz b N xs) (L2 : xL2 F cJ ao) (hsz : ∀ a : Nat, xA xYc G a → sz ≤ a) (hao : sz ≤ ao) (hd9 : xAway G Gm ao) (hN : N ≤ 3072) (hi : i + 6 ≤ N) (hc : c < 512) (hR : Rel c S M) (hk : k + 1 ≤ 637548 ∧ w + 6 ≤ 7183461) (hsim : sim_vain Rel) (K : ∀ S' M' o', Rel (c + 1) S' M' → xg F (k + 1) (w + 6) 1871 [some (.ref b), some (.ref (G.2.2 0 0)), some (.ref (Gm.2.2 0 0)), some (.ref ao), some (.int (nI i)), none, none] [] (xPP G Gm cJ ao S' M' o')) : xg F k w 1789 [some (.ref b), some (.ref (G.2.2 0 0)), some (.ref (Gm.2.2 0 0)), some (.ref ao), some (.int (nI i)), none, none] [] (xPP G Gm cJ ao S M o) := by
  refine xg_aload_n C dL_law_1789 rfl ?_
  refine xg_I (I' := (fun H => xP xYc G S H ∧ (xO cJ ao o H ∧ xP xYm Gm M H))) ?_ (fun H h => ⟨h.1.1, h.1.2, h.2⟩)
  refine xg_callViJ C V (xstC hd9) (f := 0) (As := []) (r := fX3_vain S) (fun l => kX3_vain l V.1 S) gL_law_X3_vain rfl hdX3_vain ⟨by decide, by decide⟩ rfl rfl rfl rfl rfl (Nat.le_of_ble_eq_true rfl) ⟨by show _ ≤ 637548; omega, by show _ ≤ 7183461; omega⟩ dL_law_1790 ?_
  refine xg_aload_n C dL_law_1793 rfl ?_
  refine xg_I (I' := xPP G Gm cJ ao S M o) ?_ (fun H h => ⟨⟨h.1, h.2.1⟩, h.2.2⟩)
  refine xg_I (I' := (fun H => xP xYm Gm M H ∧ xPo G cJ ao S o H)) ?_ (fun H h => ⟨h.2, h.1⟩)
  obtain ⟨e1, hR1⟩ := hsim c S M hc hR
  refine xg_callViJ C Vm (xstM hd9) (f := 0) (As := []) (r := (fX4_vain M).2) (fun l => kX4_vain l Vm.1 M) gL_law_X4_vain rfl hdX4_vain ⟨by decide, by decide⟩ rfl rfl rfl rfl rfl (Nat.le_of_ble_eq_true rfl) ⟨by show _ ≤ 637548; omega, by show _ ≤ 7183461; omega⟩ dL_law_1794 ?_
  refine xg_icmp_eq C 1871 dL_law_1797 (by decide) (fun h9 => ?_) (fun h9 => absurd (e1) h9)
  refine xg_I (I' := xPP G Gm cJ ao S (fX4_vain M).1 o) ?_ (fun H h => ⟨h.2, h.1⟩)
  refine xg_le2 (L' := [some (.ref b), some (.ref (G.2.2 0 0)), some (.ref (Gm.2.2 0 0)), some (.ref ao), some (.int (nI i)), none, none]) ⟨rfl, rfl, rfl, rfl, rfl, trivial⟩ ?_
  exact xg_wide (K S (fX4_vain M).1 o hR1) (Nat.le_succ _) (Nat.le_add_right _ _)
set_option maxRecDepth 100000 in
set_option maxHeartbeats 4000000 in
theorem law_tick {F : xF} {G Gm : xG} {Sa : Nat → Nat} {sz b N ao k w i c : Nat} {xs : Nat → Int32} {cJ : ClassId} {S M : xS} {o : Int64} {Rel : Nat → xS → xS → Prop} (C : xC F cL_law 7 RL wsL_law room_1) (V : xV F xYc G) (Vm : xV F xYm Gm) (E3 : xE3 F Sa sz b N xs) (L2 : xL2 F cJ ao) (hsz : ∀ a : Nat, xA xYc G a → sz ≤ a) (hao : sz ≤ ao) (hd9 : xAway G Gm ao) (hN : N ≤ 3072) (hi : i + 6 ≤ N) (hc : c < 512) (hR : Rel c S M) (hk : k + 1 ≤ 637548 ∧ w + 6 ≤ 7183461) (hsim : sim_tick Rel) (K : ∀ S' M' o', Rel (c + 1) S' M' → xg F (k + 1) (w + 6) 1871 [some (.ref b), some (.ref (G.2.2 0 0)), some (.ref (Gm.2.2 0 0)), some (.ref ao), some (.int (nI i)), none, none] [] (xPP G Gm cJ ao S' M' o')) : xg F k w 1802 [some (.ref b), some (.ref (G.2.2 0 0)), some (.ref (Gm.2.2 0 0)), some (.ref ao), some (.int (nI i)), none, none] [] (xPP G Gm cJ ao S M o) := by
  refine xg_aload_n C dL_law_1802 rfl ?_
  refine xg_aload_n C dL_law_1803 rfl ?_
  refine xg_iload C dL_law_1804 rfl ?_
  refine xg_iconst C dL_law_1806 (v := (1 : Int32)) (by decide) ?_
  refine xg_iadd C dL_law_1807 ?_
  refine xg_scr C E3 (j := i + 1) hN (by omega) (xia1 i) dL_law_1808 ?_
  refine xg_aload_n C dL_law_1809 rfl ?_
  obtain ⟨r, S1, o1, M1, v, fr1, lo1, q1, q2, q3, q4, q5, q6, q7⟩ := hsim c S M o (xs (i + 1)) hc hR
  have hR1 := q7
  refine xg_callW C V E3 L2 (xstW hd9) (S' := S1) (o' := o1) (r := r) (as := [.ref (G.2.2 0 0), .int (xs (i + 1)), .ref ao]) (n := 3) (fun l hl => kL_tick l hl hsz hao hd9.2.1 V.1 (xs (i + 1)) S o r S1 o1 q1) gL_law_L_tick rfl hdL_tick ⟨by decide, by decide⟩ rfl rfl (Nat.le_of_ble_eq_true rfl) hk dL_law_1810 ?_
  refine xg_istore C dL_law_1813 (by decide) (L' := [some (.ref b), some (.ref (G.2.2 0 0)), some (.ref (Gm.2.2 0 0)), some (.ref ao), some (.int (nI i)), some (.int r), none]) rfl ?_
  refine xg_aload_n C dL_law_1815 rfl ?_
  refine xg_aload_n C dL_law_1816 rfl ?_
  refine xg_iload C dL_law_1817 rfl ?_
  refine xg_iconst C dL_law_1819 (v := (1 : Int32)) (by decide) ?_
  refine xg_iadd C dL_law_1820 ?_
  refine xg_scr C E3 (j := i + 1) hN (by omega) (xia1 i) dL_law_1821 ?_
  refine xg_I (I' := (fun H => xP xYm Gm M H ∧ xPo G cJ ao S1 o1 H)) ?_ (fun H h => ⟨h.2, h.1⟩)
  refine xg_callViJ C Vm (xstM hd9) (f := 0) (S' := M1) (As := [.int (xs (i + 1))]) (r := v) (fun l => q4 l Gm Vm.1) gL_law_X4_tick rfl hdX4_tick ⟨by show _ ≤ 12; omega, by show _ ≤ 436; have e9 : (4 : Nat) = 4 := rfl; omega⟩ rfl rfl rfl rfl rfl (Nat.le_of_ble_eq_true rfl) ⟨by show _ ≤ 637548; omega, by show _ ≤ 7183461; omega⟩ dL_law_1822 ?_
  refine xg_istore C dL_law_1825 (by decide) (L' := [some (.ref b), some (.ref (G.2.2 0 0)), some (.ref (Gm.2.2 0 0)), some (.ref ao), some (.int (nI i)), some (.int r), some (.int v)]) rfl ?_
  refine xg_aload_n C dL_law_1827 rfl ?_
  refine xg_callViJ C Vm (xstM hd9) (f := 0) (As := []) (r := fX4_thrown M1) (fun l => kX4_thrown l Vm.1 M1) gL_law_X4_thrown rfl hdX4_thrown ⟨by decide, by decide⟩ rfl rfl rfl rfl rfl (Nat.le_of_ble_eq_true rfl) ⟨by show _ ≤ 637548; omega, by show _ ≤ 7183461; omega⟩ dL_law_1828 ?_
  refine xg_iload C dL_law_1831 rfl ?_
  refine xg_icmp_eq C 1838 dL_law_1833 (by decide) (fun h9 => ?_) (fun h9 => absurd (q5) h9)
  refine xg_iload C dL_law_1838 rfl ?_
  refine xg_if_ne C 1855 dL_law_1840 (by decide) (fun h8 => ?_) (fun h8 => ?_)
  · refine xg_goto C 1871 dL_law_1855 (by decide) ?_
    refine xg_I (I' := xPP G Gm cJ ao S1 M1 o1) ?_ (fun H h => ⟨h.2, h.1⟩)
    refine xg_le2 (L' := [some (.ref b), some (.ref (G.2.2 0 0)), some (.ref (Gm.2.2 0 0)), some (.ref ao), some (.int (nI i)), none, none]) ⟨rfl, rfl, rfl, rfl, rfl, trivial⟩ ?_
    exact K S1 M1 o1 hR1
  · refine xg_aload_n C dL_law_1843 rfl ?_
    refine xg_iconst C dL_law_1844 (v := (0 : Int32)) (by decide) ?_
    refine xg_lald C L2 (fun H h => h.2.2) dL_law_1845 ?_
    refine xg_iload C dL_law_1846 rfl ?_
    refine xg_i2l C dL_law_1848 ?_
    refine xg_lcmp C dL_law_1849 ?_
    refine xg_if_eq C 1855 dL_law_1850 (by decide) (fun _ => ?_) (fun h7 => absurd (by rw [q6 h8]; exact lg_cmp_self _) h7)
    refine xg_goto C 1871 dL_law_1855 (by decide) ?_
    refine xg_I (I' := xPP G Gm cJ ao S1 M1 o1) ?_ (fun H h => ⟨h.2, h.1⟩)
    refine xg_le2 (L' := [some (.ref b), some (.ref (G.2.2 0 0)), some (.ref (Gm.2.2 0 0)), some (.ref ao), some (.int (nI i)), none, none]) ⟨rfl, rfl, rfl, rfl, rfl, trivial⟩ ?_
    exact K S1 M1 o1 hR1
set_option maxRecDepth 100000 in
set_option maxHeartbeats 4000000 in
theorem law_time {F : xF} {G Gm : xG} {Sa : Nat → Nat} {sz b N ao k w i c : Nat} {xs : Nat → Int32} {cJ : ClassId} {S M : xS} {o : Int64} {Rel : Nat → xS → xS → Prop} (C : xC F cL_law 7 RL wsL_law room_1) (V : xV F xYc G) (Vm : xV F xYm Gm) (E3 : xE3 F Sa sz b N xs) (L2 : xL2 F cJ ao) (hsz : ∀ a : Nat, xA xYc G a → sz ≤ a) (hao : sz ≤ ao) (hd9 : xAway G Gm ao) (hN : N ≤ 3072) (hi : i + 6 ≤ N) (hc : c < 512) (hR : Rel c S M) (hk : k + 1 ≤ 637548 ∧ w + 6 ≤ 7183461) (hsim : sim_time Rel) (K : ∀ S' M' o', Rel (c + 1) S' M' → xg F (k + 1) (w + 6) 1871 [some (.ref b), some (.ref (G.2.2 0 0)), some (.ref (Gm.2.2 0 0)), some (.ref ao), some (.int (nI i)), none, none] [] (xPP G Gm cJ ao S' M' o')) : xg F k w 1858 [some (.ref b), some (.ref (G.2.2 0 0)), some (.ref (Gm.2.2 0 0)), some (.ref ao), some (.int (nI i)), none, none] [] (xPP G Gm cJ ao S M o) := by
  refine xg_aload_n C dL_law_1858 rfl ?_
  refine xg_I (I' := (fun H => xP xYc G S H ∧ (xO cJ ao o H ∧ xP xYm Gm M H))) ?_ (fun H h => ⟨h.1.1, h.1.2, h.2⟩)
  refine xg_callViJ C V (xstC hd9) (f := 0) (As := []) (r := fX3_time S) (fun l => kX3_time l V.1 S) gL_law_X3_time rfl hdX3_time ⟨by decide, by decide⟩ rfl rfl rfl rfl rfl (Nat.le_of_ble_eq_true rfl) ⟨by show _ ≤ 637548; omega, by show _ ≤ 7183461; omega⟩ dL_law_1859 ?_
  refine xg_aload_n C dL_law_1862 rfl ?_
  refine xg_I (I' := xPP G Gm cJ ao S M o) ?_ (fun H h => ⟨⟨h.1, h.2.1⟩, h.2.2⟩)
  refine xg_I (I' := (fun H => xP xYm Gm M H ∧ xPo G cJ ao S o H)) ?_ (fun H h => ⟨h.2, h.1⟩)
  obtain ⟨e1, hR1⟩ := hsim c S M hc hR
  refine xg_callViJ C Vm (xstM hd9) (f := 0) (As := []) (r := (fX4_time M).2) (fun l => kX4_time l Vm.1 M) gL_law_X4_time rfl hdX4_time ⟨by decide, by decide⟩ rfl rfl rfl rfl rfl (Nat.le_of_ble_eq_true rfl) ⟨by show _ ≤ 637548; omega, by show _ ≤ 7183461; omega⟩ dL_law_1863 ?_
  refine xg_icmp_eq C 1871 dL_law_1866 (by decide) (fun h9 => ?_) (fun h9 => absurd (e1) h9)
  refine xg_I (I' := xPP G Gm cJ ao S (fX4_time M).1 o) ?_ (fun H h => ⟨h.2, h.1⟩)
  refine xg_le2 (L' := [some (.ref b), some (.ref (G.2.2 0 0)), some (.ref (Gm.2.2 0 0)), some (.ref ao), some (.int (nI i)), none, none]) ⟨rfl, rfl, rfl, rfl, rfl, trivial⟩ ?_
  exact xg_wide (K S (fX4_time M).1 o hR1) (Nat.le_succ _) (Nat.le_add_right _ _)
