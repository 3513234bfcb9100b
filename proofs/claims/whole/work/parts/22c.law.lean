/-! 22: cases setStuck, setTimes, believed, version, age, beat, status, partner -/
set_option maxRecDepth 100000 in
set_option maxHeartbeats 4000000 in
theorem law_setStuck {F : xF} {G Gm : xG} {Sa : Nat → Nat} {sz b N ao k w i c : Nat} {xs : Nat → Int32} {cJ : ClassId} {S M : xS} {o : Int64} {Rel : Nat → xS → xS → Prop} (C : xC F cL_law 7 RL wsL_law room_1) (V : xV F xYc G) (Vm : xV F xYm Gm) (E3 : xE3 F Sa sz b N xs) (L2 : xL2 F cJ ao) (hsz : ∀ a : Nat, xA xYc G a → sz ≤ a) (hao : sz ≤ ao) (hd9 : xAway G Gm ao) (hN : N ≤ 3072) (hi : i + 6 ≤ N) (hc : c < 512) (hR : Rel c S M) (hk : k + 1 ≤ 637548 ∧ w + 6 ≤ 7183461) (hsim : sim_setStuck Rel) (K : ∀ S' M' o', Rel (c + 1) S' M' → xg F (k + 1) (w + 6) 1871 [some (.ref b), some (.ref (G.2.2 0 0)), some (.ref (Gm.2.2 0 0)), some (.ref ao), some (.int (nI i)), none, none] [] (xPP G Gm cJ ao S' M' o')) : xg F k w 1116 [some (.ref b), some (.ref (G.2.2 0 0)), some (.ref (Gm.2.2 0 0)), some (.ref ao), some (.int (nI i)), none, none] [] (xPP G Gm cJ ao S M o) := by
  refine xg_aload_n C dL_law_1116 rfl ?_
  refine xg_aload_n C dL_law_1117 rfl ?_
  refine xg_iload C dL_law_1118 rfl ?_
  refine xg_iconst C dL_law_1120 (v := (1 : Int32)) (by decide) ?_
  refine xg_iadd C dL_law_1121 ?_
  refine xg_scr C E3 (j := i + 1) hN (by omega) (xia1 i) dL_law_1122 ?_
  refine xg_aload_n C dL_law_1123 rfl ?_
  refine xg_iload C dL_law_1124 rfl ?_
  refine xg_iconst C dL_law_1126 (v := (2 : Int32)) (by decide) ?_
  refine xg_iadd C dL_law_1127 ?_
  refine xg_scr C E3 (j := i + 2) hN (by omega) (xia2 i) dL_law_1128 ?_
  refine xg_if_eq C 1136 dL_law_1129 (by decide) (fun hz => ?_) (fun hz => ?_)
  · refine xg_iconst C dL_law_1136 (v := (0 : Int32)) (by decide) ?_
    refine xg_aload_n C dL_law_1137 rfl ?_
    obtain ⟨r, S1, o1, M1, v, fr1, lo1, q1, q2, q3, q4, q5, q6, q8, q7⟩ := hsim c S M o (xs (i + 1)) (0 : Int32) hc hR (Or.inl rfl)
    have hR1 := q7
    refine xg_callW C V E3 L2 (xstW hd9) (S' := S1) (o' := o1) (r := r) (as := [.ref (G.2.2 0 0), .int (xs (i + 1)), .int (0 : Int32), .ref ao]) (n := 4) (fun l hl => kL_setStuck l hl hsz hao hd9.2.1 V.1 (xs (i + 1)) (0 : Int32) S o r S1 o1 q8 (xn01 (Or.inl rfl)) q1) gL_law_L_setStuck rfl hdL_setStuck ⟨by decide, by decide⟩ rfl rfl (Nat.le_of_ble_eq_true rfl) hk dL_law_1138 ?_
    refine xg_istore C dL_law_1141 (by decide) (L' := [some (.ref b), some (.ref (G.2.2 0 0)), some (.ref (Gm.2.2 0 0)), some (.ref ao), some (.int (nI i)), some (.int r), none]) rfl ?_
    refine xg_aload_n C dL_law_1143 rfl ?_
    refine xg_aload_n C dL_law_1144 rfl ?_
    refine xg_iload C dL_law_1145 rfl ?_
    refine xg_iconst C dL_law_1147 (v := (1 : Int32)) (by decide) ?_
    refine xg_iadd C dL_law_1148 ?_
    refine xg_scr C E3 (j := i + 1) hN (by omega) (xia1 i) dL_law_1149 ?_
    refine xg_aload_n C dL_law_1150 rfl ?_
    refine xg_iload C dL_law_1151 rfl ?_
    refine xg_iconst C dL_law_1153 (v := (2 : Int32)) (by decide) ?_
    refine xg_iadd C dL_law_1154 ?_
    refine xg_scr C E3 (j := i + 2) hN (by omega) (xia2 i) dL_law_1155 ?_
    refine xg_if_eq C 1163 dL_law_1156 (by decide) (fun h6 => ?_) (fun h6 => absurd hz h6)
    refine xg_iconst C dL_law_1163 (v := (0 : Int32)) (by decide) ?_
    refine xg_I (I' := (fun H => xP xYm Gm M H ∧ xPo G cJ ao S1 o1 H)) ?_ (fun H h => ⟨h.2, h.1⟩)
    refine xg_callViJ C Vm (xstM hd9) (f := 0) (S' := M1) (As := [.int (xs (i + 1)), .int (0 : Int32)]) (r := v) (fun l => q4 l Gm Vm.1) gL_law_X4_setStuck rfl hdX4_setStuck ⟨by show _ ≤ 12; omega, by show _ ≤ 436; have e9 : (4 : Nat) = 4 := rfl; omega⟩ rfl rfl rfl rfl rfl (Nat.le_of_ble_eq_true rfl) ⟨by show _ ≤ 637548; omega, by show _ ≤ 7183461; omega⟩ dL_law_1164 ?_
    refine xg_istore C dL_law_1167 (by decide) (L' := [some (.ref b), some (.ref (G.2.2 0 0)), some (.ref (Gm.2.2 0 0)), some (.ref ao), some (.int (nI i)), some (.int r), some (.int v)]) rfl ?_
    refine xg_aload_n C dL_law_1169 rfl ?_
    refine xg_callViJ C Vm (xstM hd9) (f := 0) (As := []) (r := fX4_thrown M1) (fun l => kX4_thrown l Vm.1 M1) gL_law_X4_thrown rfl hdX4_thrown ⟨by decide, by decide⟩ rfl rfl rfl rfl rfl (Nat.le_of_ble_eq_true rfl) ⟨by show _ ≤ 637548; omega, by show _ ≤ 7183461; omega⟩ dL_law_1170 ?_
    refine xg_iload C dL_law_1173 rfl ?_
    refine xg_icmp_eq C 1180 dL_law_1175 (by decide) (fun h9 => ?_) (fun h9 => absurd (q5) h9)
    refine xg_iload C dL_law_1180 rfl ?_
    refine xg_if_ne C 1204 dL_law_1182 (by decide) (fun h8 => ?_) (fun h8 => ?_)
    · refine xg_goto C 1871 dL_law_1204 (by decide) ?_
      refine xg_I (I' := xPP G Gm cJ ao S1 M1 o1) ?_ (fun H h => ⟨h.2, h.1⟩)
      refine xg_le2 (L' := [some (.ref b), some (.ref (G.2.2 0 0)), some (.ref (Gm.2.2 0 0)), some (.ref ao), some (.int (nI i)), none, none]) ⟨rfl, rfl, rfl, rfl, rfl, trivial⟩ ?_
      exact K S1 M1 o1 hR1
    · refine xg_aload_n C dL_law_1185 rfl ?_
      refine xg_iconst C dL_law_1186 (v := (0 : Int32)) (by decide) ?_
      refine xg_lald C L2 (fun H h => h.2.2) dL_law_1187 ?_
      refine xg_iload C dL_law_1188 rfl ?_
      refine xg_if_eq C 1197 dL_law_1190 (by decide) (fun hv => ?_) (fun hv => ?_)
      · refine xg_lconst C dL_law_1197 (v := (0 : Int64)) (by decide) ?_
        refine xg_lcmp C dL_law_1198 ?_
        refine xg_if_eq C 1204 dL_law_1199 (by decide) (fun _ => ?_) (fun h7 => absurd (by rw [q6 h8, if_pos hv]; exact lg_cmp_self _) h7)
        refine xg_goto C 1871 dL_law_1204 (by decide) ?_
        refine xg_I (I' := xPP G Gm cJ ao S1 M1 o1) ?_ (fun H h => ⟨h.2, h.1⟩)
        refine xg_le2 (L' := [some (.ref b), some (.ref (G.2.2 0 0)), some (.ref (Gm.2.2 0 0)), some (.ref ao), some (.int (nI i)), none, none]) ⟨rfl, rfl, rfl, rfl, rfl, trivial⟩ ?_
        exact K S1 M1 o1 hR1
      · refine xg_lconst C dL_law_1193 (v := (1 : Int64)) (by decide) ?_
        refine xg_goto C 1198 dL_law_1194 (by decide) ?_
        refine xg_lcmp C dL_law_1198 ?_
        refine xg_if_eq C 1204 dL_law_1199 (by decide) (fun _ => ?_) (fun h7 => absurd (by rw [q6 h8, if_neg hv]; exact lg_cmp_self _) h7)
        refine xg_goto C 1871 dL_law_1204 (by decide) ?_
        refine xg_I (I' := xPP G Gm cJ ao S1 M1 o1) ?_ (fun H h => ⟨h.2, h.1⟩)
        refine xg_le2 (L' := [some (.ref b), some (.ref (G.2.2 0 0)), some (.ref (Gm.2.2 0 0)), some (.ref ao), some (.int (nI i)), none, none]) ⟨rfl, rfl, rfl, rfl, rfl, trivial⟩ ?_
        exact K S1 M1 o1 hR1
  · refine xg_iconst C dL_law_1132 (v := (1 : Int32)) (by decide) ?_
    refine xg_goto C 1137 dL_law_1133 (by decide) ?_
    refine xg_aload_n C dL_law_1137 rfl ?_
    obtain ⟨r, S1, o1, M1, v, fr1, lo1, q1, q2, q3, q4, q5, q6, q8, q7⟩ := hsim c S M o (xs (i + 1)) (1 : Int32) hc hR (Or.inr rfl)
    have hR1 := q7
    refine xg_callW C V E3 L2 (xstW hd9) (S' := S1) (o' := o1) (r := r) (as := [.ref (G.2.2 0 0), .int (xs (i + 1)), .int (1 : Int32), .ref ao]) (n := 4) (fun l hl => kL_setStuck l hl hsz hao hd9.2.1 V.1 (xs (i + 1)) (1 : Int32) S o r S1 o1 q8 (xn01 (Or.inr rfl)) q1) gL_law_L_setStuck rfl hdL_setStuck ⟨by decide, by decide⟩ rfl rfl (Nat.le_of_ble_eq_true rfl) hk dL_law_1138 ?_
    refine xg_istore C dL_law_1141 (by decide) (L' := [some (.ref b), some (.ref (G.2.2 0 0)), some (.ref (Gm.2.2 0 0)), some (.ref ao), some (.int (nI i)), some (.int r), none]) rfl ?_
    refine xg_aload_n C dL_law_1143 rfl ?_
    refine xg_aload_n C dL_law_1144 rfl ?_
    refine xg_iload C dL_law_1145 rfl ?_
    refine xg_iconst C dL_law_1147 (v := (1 : Int32)) (by decide) ?_
    refine xg_iadd C dL_law_1148 ?_
    refine xg_scr C E3 (j := i + 1) hN (by omega) (xia1 i) dL_law_1149 ?_
    refine xg_aload_n C dL_law_1150 rfl ?_
    refine xg_iload C dL_law_1151 rfl ?_
    refine xg_iconst C dL_law_1153 (v := (2 : Int32)) (by decide) ?_
    refine xg_iadd C dL_law_1154 ?_
    refine xg_scr C E3 (j := i + 2) hN (by omega) (xia2 i) dL_law_1155 ?_
    refine xg_if_eq C 1163 dL_law_1156 (by decide) (fun h6 => absurd h6 hz) (fun h6 => ?_)
    refine xg_iconst C dL_law_1159 (v := (1 : Int32)) (by decide) ?_
    refine xg_goto C 1164 dL_law_1160 (by decide) ?_
    refine xg_I (I' := (fun H => xP xYm Gm M H ∧ xPo G cJ ao S1 o1 H)) ?_ (fun H h => ⟨h.2, h.1⟩)
    refine xg_callViJ C Vm (xstM hd9) (f := 0) (S' := M1) (As := [.int (xs (i + 1)), .int (1 : Int32)]) (r := v) (fun l => q4 l Gm Vm.1) gL_law_X4_setStuck rfl hdX4_setStuck ⟨by show _ ≤ 12; omega, by show _ ≤ 436; have e9 : (4 : Nat) = 4 := rfl; omega⟩ rfl rfl rfl rfl rfl (Nat.le_of_ble_eq_true rfl) ⟨by show _ ≤ 637548; omega, by show _ ≤ 7183461; omega⟩ dL_law_1164 ?_
    refine xg_istore C dL_law_1167 (by decide) (L' := [some (.ref b), some (.ref (G.2.2 0 0)), some (.ref (Gm.2.2 0 0)), some (.ref ao), some (.int (nI i)), some (.int r), some (.int v)]) rfl ?_
    refine xg_aload_n C dL_law_1169 rfl ?_
    refine xg_callViJ C Vm (xstM hd9) (f := 0) (As := []) (r := fX4_thrown M1) (fun l => kX4_thrown l Vm.1 M1) gL_law_X4_thrown rfl hdX4_thrown ⟨by decide, by decide⟩ rfl rfl rfl rfl rfl (Nat.le_of_ble_eq_true rfl) ⟨by show _ ≤ 637548; omega, by show _ ≤ 7183461; omega⟩ dL_law_1170 ?_
    refine xg_iload C dL_law_1173 rfl ?_
    refine xg_icmp_eq C 1180 dL_law_1175 (by decide) (fun h9 => ?_) (fun h9 => absurd (q5) h9)
    refine xg_iload C dL_law_1180 rfl ?_
    refine xg_if_ne C 1204 dL_law_1182 (by decide) (fun h8 => ?_) (fun h8 => ?_)
    · refine xg_goto C 1871 dL_law_1204 (by decide) ?_
      refine xg_I (I' := xPP G Gm cJ ao S1 M1 o1) ?_ (fun H h => ⟨h.2, h.1⟩)
      refine xg_le2 (L' := [some (.ref b), some (.ref (G.2.2 0 0)), some (.ref (Gm.2.2 0 0)), some (.ref ao), some (.int (nI i)), none, none]) ⟨rfl, rfl, rfl, rfl, rfl, trivial⟩ ?_
      exact K S1 M1 o1 hR1
    · refine xg_aload_n C dL_law_1185 rfl ?_
      refine xg_iconst C dL_law_1186 (v := (0 : Int32)) (by decide) ?_
      refine xg_lald C L2 (fun H h => h.2.2) dL_law_1187 ?_
      refine xg_iload C dL_law_1188 rfl ?_
      refine xg_if_eq C 1197 dL_law_1190 (by decide) (fun hv => ?_) (fun hv => ?_)
      · refine xg_lconst C dL_law_1197 (v := (0 : Int64)) (by decide) ?_
        refine xg_lcmp C dL_law_1198 ?_
        refine xg_if_eq C 1204 dL_law_1199 (by decide) (fun _ => ?_) (fun h7 => absurd (by rw [q6 h8, if_pos hv]; exact lg_cmp_self _) h7)
        refine xg_goto C 1871 dL_law_1204 (by decide) ?_
        refine xg_I (I' := xPP G Gm cJ ao S1 M1 o1) ?_ (fun H h => ⟨h.2, h.1⟩)
        refine xg_le2 (L' := [some (.ref b), some (.ref (G.2.2 0 0)), some (.ref (Gm.2.2 0 0)), some (.ref ao), some (.int (nI i)), none, none]) ⟨rfl, rfl, rfl, rfl, rfl, trivial⟩ ?_
        exact K S1 M1 o1 hR1
      · refine xg_lconst C dL_law_1193 (v := (1 : Int64)) (by decide) ?_
        refine xg_goto C 1198 dL_law_1194 (by decide) ?_
        refine xg_lcmp C dL_law_1198 ?_
        refine xg_if_eq C 1204 dL_law_1199 (by decide) (fun _ => ?_) (fun h7 => absurd (by rw [q6 h8, if_neg hv]; exact lg_cmp_self _) h7)
        refine xg_goto C 1871 dL_law_1204 (by decide) ?_
        refine xg_I (I' := xPP G Gm cJ ao S1 M1 o1) ?_ (fun H h => ⟨h.2, h.1⟩)
        refine xg_le2 (L' := [some (.ref b), some (.ref (G.2.2 0 0)), some (.ref (Gm.2.2 0 0)), some (.ref ao), some (.int (nI i)), none, none]) ⟨rfl, rfl, rfl, rfl, rfl, trivial⟩ ?_
        exact K S1 M1 o1 hR1
set_option maxRecDepth 100000 in
set_option maxHeartbeats 4000000 in
theorem law_setTimes {F : xF} {G Gm : xG} {Sa : Nat → Nat} {sz b N ao k w i c : Nat} {xs : Nat → Int32} {cJ : ClassId} {S M : xS} {o : Int64} {Rel : Nat → xS → xS → Prop} (C : xC F cL_law 7 RL wsL_law room_1) (V : xV F xYc G) (Vm : xV F xYm Gm) (E3 : xE3 F Sa sz b N xs) (L2 : xL2 F cJ ao) (hsz : ∀ a : Nat, xA xYc G a → sz ≤ a) (hao : sz ≤ ao) (hd9 : xAway G Gm ao) (hN : N ≤ 3072) (hi : i + 6 ≤ N) (hc : c < 512) (hR : Rel c S M) (hk : k + 1 ≤ 637548 ∧ w + 6 ≤ 7183461) (hsim : sim_setTimes Rel) (K : ∀ S' M' o', Rel (c + 1) S' M' → xg F (k + 1) (w + 6) 1871 [some (.ref b), some (.ref (G.2.2 0 0)), some (.ref (Gm.2.2 0 0)), some (.ref ao), some (.int (nI i)), none, none] [] (xPP G Gm cJ ao S' M' o')) : xg F k w 1207 [some (.ref b), some (.ref (G.2.2 0 0)), some (.ref (Gm.2.2 0 0)), some (.ref ao), some (.int (nI i)), none, none] [] (xPP G Gm cJ ao S M o) := by
  refine xg_aload_n C dL_law_1207 rfl ?_
  refine xg_aload_n C dL_law_1208 rfl ?_
  refine xg_iload C dL_law_1209 rfl ?_
  refine xg_iconst C dL_law_1211 (v := (1 : Int32)) (by decide) ?_
  refine xg_iadd C dL_law_1212 ?_
  refine xg_scr C E3 (j := i + 1) hN (by omega) (xia1 i) dL_law_1213 ?_
  refine xg_aload_n C dL_law_1214 rfl ?_
  refine xg_iload C dL_law_1215 rfl ?_
  refine xg_iconst C dL_law_1217 (v := (2 : Int32)) (by decide) ?_
  refine xg_iadd C dL_law_1218 ?_
  refine xg_scr C E3 (j := i + 2) hN (by omega) (xia2 i) dL_law_1219 ?_
  obtain ⟨r, S1, o1, M1, v, fr1, lo1, q1, q2, q3, q4, q5, q7⟩ := hsim c S M o (xs (i + 1)) (xs (i + 2)) hc hR
  have hR1 := q7
  refine xg_callW C V E3 L2 (xstW hd9) (S' := S1) (o' := o1) (r := r) (as := [.ref (G.2.2 0 0), .int (xs (i + 1)), .int (xs (i + 2))]) (n := 3) (fun l hl => kL_setTimes l hl hsz hao hd9.2.1 V.1 (xs (i + 1)) (xs (i + 2)) S o r S1 o1 q1) gL_law_L_setTimes rfl hdL_setTimes ⟨by decide, by decide⟩ rfl rfl (Nat.le_of_ble_eq_true rfl) hk dL_law_1220 ?_
  refine xg_istore C dL_law_1223 (by decide) (L' := [some (.ref b), some (.ref (G.2.2 0 0)), some (.ref (Gm.2.2 0 0)), some (.ref ao), some (.int (nI i)), some (.int r), none]) rfl ?_
  refine xg_aload_n C dL_law_1225 rfl ?_
  refine xg_aload_n C dL_law_1226 rfl ?_
  refine xg_iload C dL_law_1227 rfl ?_
  refine xg_iconst C dL_law_1229 (v := (1 : Int32)) (by decide) ?_
  refine xg_iadd C dL_law_1230 ?_
  refine xg_scr C E3 (j := i + 1) hN (by omega) (xia1 i) dL_law_1231 ?_
  refine xg_aload_n C dL_law_1232 rfl ?_
  refine xg_iload C dL_law_1233 rfl ?_
  refine xg_iconst C dL_law_1235 (v := (2 : Int32)) (by decide) ?_
  refine xg_iadd C dL_law_1236 ?_
  refine xg_scr C E3 (j := i + 2) hN (by omega) (xia2 i) dL_law_1237 ?_
  refine xg_I (I' := (fun H => xP xYm Gm M H ∧ xPo G cJ ao S1 o1 H)) ?_ (fun H h => ⟨h.2, h.1⟩)
  refine xg_callVvJ C Vm (xstM hd9) (f := 0) (S' := M1) (As := [.int (xs (i + 1)), .int (xs (i + 2))]) (fun l => q4 l Gm Vm.1) gL_law_X4_setTimes rfl hdX4_setTimes ⟨by show _ ≤ 12; omega, by show _ ≤ 436; have e9 : (3 : Nat) = 3 := rfl; omega⟩ rfl rfl rfl rfl rfl (Nat.le_of_ble_eq_true rfl) ⟨by show _ ≤ 637548; omega, by show _ ≤ 7183461; omega⟩ dL_law_1238 ?_
  refine xg_aload_n C dL_law_1241 rfl ?_
  refine xg_callViJ C Vm (xstM hd9) (f := 0) (As := []) (r := fX4_thrown M1) (fun l => kX4_thrown l Vm.1 M1) gL_law_X4_thrown rfl hdX4_thrown ⟨by decide, by decide⟩ rfl rfl rfl rfl rfl (Nat.le_of_ble_eq_true rfl) ⟨by show _ ≤ 637548; omega, by show _ ≤ 7183461; omega⟩ dL_law_1242 ?_
  refine xg_iload C dL_law_1245 rfl ?_
  refine xg_icmp_eq C 1252 dL_law_1247 (by decide) (fun h9 => ?_) (fun h9 => absurd (q5) h9)
  refine xg_goto C 1871 dL_law_1252 (by decide) ?_
  refine xg_I (I' := xPP G Gm cJ ao S1 M1 o1) ?_ (fun H h => ⟨h.2, h.1⟩)
  refine xg_le2 (L' := [some (.ref b), some (.ref (G.2.2 0 0)), some (.ref (Gm.2.2 0 0)), some (.ref ao), some (.int (nI i)), none, none]) ⟨rfl, rfl, rfl, rfl, rfl, trivial⟩ ?_
  exact K S1 M1 o1 hR1
set_option maxRecDepth 100000 in
set_option maxHeartbeats 4000000 in
theorem law_believed {F : xF} {G Gm : xG} {Sa : Nat → Nat} {sz b N ao k w i c : Nat} {xs : Nat → Int32} {cJ : ClassId} {S M : xS} {o : Int64} {Rel : Nat → xS → xS → Prop} (C : xC F cL_law 7 RL wsL_law room_1) (V : xV F xYc G) (Vm : xV F xYm Gm) (E3 : xE3 F Sa sz b N xs) (L2 : xL2 F cJ ao) (hsz : ∀ a : Nat, xA xYc G a → sz ≤ a) (hao : sz ≤ ao) (hd9 : xAway G Gm ao) (hN : N ≤ 3072) (hi : i + 6 ≤ N) (hc : c < 512) (hR : Rel c S M) (hk : k + 1 ≤ 637548 ∧ w + 6 ≤ 7183461) (hsim : sim_believed Rel) (K : ∀ S' M' o', Rel (c + 1) S' M' → xg F (k + 1) (w + 6) 1871 [some (.ref b), some (.ref (G.2.2 0 0)), some (.ref (Gm.2.2 0 0)), some (.ref ao), some (.int (nI i)), none, none] [] (xPP G Gm cJ ao S' M' o')) : xg F k w 1255 [some (.ref b), some (.ref (G.2.2 0 0)), some (.ref (Gm.2.2 0 0)), some (.ref ao), some (.int (nI i)), none, none] [] (xPP G Gm cJ ao S M o) := by
  refine xg_aload_n C dL_law_1255 rfl ?_
  refine xg_aload_n C dL_law_1256 rfl ?_
  refine xg_iload C dL_law_1257 rfl ?_
  refine xg_iconst C dL_law_1259 (v := (1 : Int32)) (by decide) ?_
  refine xg_iadd C dL_law_1260 ?_
  refine xg_scr C E3 (j := i + 1) hN (by omega) (xia1 i) dL_law_1261 ?_
  refine xg_aload_n C dL_law_1262 rfl ?_
  refine xg_iload C dL_law_1263 rfl ?_
  refine xg_iconst C dL_law_1265 (v := (2 : Int32)) (by decide) ?_
  refine xg_iadd C dL_law_1266 ?_
  refine xg_scr C E3 (j := i + 2) hN (by omega) (xia2 i) dL_law_1267 ?_
  refine xg_aload_n C dL_law_1268 rfl ?_
  obtain ⟨r, S1, o1, M1, v, fr1, lo1, q1, q2, q3, q4, q5, q6, q7⟩ := hsim c S M o (xs (i + 1)) (xs (i + 2)) hc hR
  have hR1 := q7
  refine xg_callW C V E3 L2 (xstW hd9) (S' := S1) (o' := o1) (r := r) (as := [.ref (G.2.2 0 0), .int (xs (i + 1)), .int (xs (i + 2)), .ref ao]) (n := 4) (fun l hl => kL_believed l hl hsz hao hd9.2.1 V.1 (xs (i + 1)) (xs (i + 2)) S o r S1 o1 q1) gL_law_L_believed rfl hdL_believed ⟨by decide, by decide⟩ rfl rfl (Nat.le_of_ble_eq_true rfl) hk dL_law_1269 ?_
  refine xg_istore C dL_law_1272 (by decide) (L' := [some (.ref b), some (.ref (G.2.2 0 0)), some (.ref (Gm.2.2 0 0)), some (.ref ao), some (.int (nI i)), some (.int r), none]) rfl ?_
  refine xg_aload_n C dL_law_1274 rfl ?_
  refine xg_aload_n C dL_law_1275 rfl ?_
  refine xg_iload C dL_law_1276 rfl ?_
  refine xg_iconst C dL_law_1278 (v := (1 : Int32)) (by decide) ?_
  refine xg_iadd C dL_law_1279 ?_
  refine xg_scr C E3 (j := i + 1) hN (by omega) (xia1 i) dL_law_1280 ?_
  refine xg_aload_n C dL_law_1281 rfl ?_
  refine xg_iload C dL_law_1282 rfl ?_
  refine xg_iconst C dL_law_1284 (v := (2 : Int32)) (by decide) ?_
  refine xg_iadd C dL_law_1285 ?_
  refine xg_scr C E3 (j := i + 2) hN (by omega) (xia2 i) dL_law_1286 ?_
  refine xg_I (I' := (fun H => xP xYm Gm M H ∧ xPo G cJ ao S1 o1 H)) ?_ (fun H h => ⟨h.2, h.1⟩)
  refine xg_callViJ C Vm (xstM hd9) (f := 0) (S' := M1) (As := [.int (xs (i + 1)), .int (xs (i + 2))]) (r := v) (fun l => q4 l Gm Vm.1) gL_law_X4_believed rfl hdX4_believed ⟨by show _ ≤ 12; omega, by show _ ≤ 436; have e9 : (3 : Nat) = 3 := rfl; omega⟩ rfl rfl rfl rfl rfl (Nat.le_of_ble_eq_true rfl) ⟨by show _ ≤ 637548; omega, by show _ ≤ 7183461; omega⟩ dL_law_1287 ?_
  refine xg_istore C dL_law_1290 (by decide) (L' := [some (.ref b), some (.ref (G.2.2 0 0)), some (.ref (Gm.2.2 0 0)), some (.ref ao), some (.int (nI i)), some (.int r), some (.int v)]) rfl ?_
  refine xg_aload_n C dL_law_1292 rfl ?_
  refine xg_callViJ C Vm (xstM hd9) (f := 0) (As := []) (r := fX4_thrown M1) (fun l => kX4_thrown l Vm.1 M1) gL_law_X4_thrown rfl hdX4_thrown ⟨by decide, by decide⟩ rfl rfl rfl rfl rfl (Nat.le_of_ble_eq_true rfl) ⟨by show _ ≤ 637548; omega, by show _ ≤ 7183461; omega⟩ dL_law_1293 ?_
  refine xg_iload C dL_law_1296 rfl ?_
  refine xg_icmp_eq C 1303 dL_law_1298 (by decide) (fun h9 => ?_) (fun h9 => absurd (q5) h9)
  refine xg_iload C dL_law_1303 rfl ?_
  refine xg_if_ne C 1320 dL_law_1305 (by decide) (fun h8 => ?_) (fun h8 => ?_)
  · refine xg_goto C 1871 dL_law_1320 (by decide) ?_
    refine xg_I (I' := xPP G Gm cJ ao S1 M1 o1) ?_ (fun H h => ⟨h.2, h.1⟩)
    refine xg_le2 (L' := [some (.ref b), some (.ref (G.2.2 0 0)), some (.ref (Gm.2.2 0 0)), some (.ref ao), some (.int (nI i)), none, none]) ⟨rfl, rfl, rfl, rfl, rfl, trivial⟩ ?_
    exact K S1 M1 o1 hR1
  · refine xg_aload_n C dL_law_1308 rfl ?_
    refine xg_iconst C dL_law_1309 (v := (0 : Int32)) (by decide) ?_
    refine xg_lald C L2 (fun H h => h.2.2) dL_law_1310 ?_
    refine xg_iload C dL_law_1311 rfl ?_
    refine xg_i2l C dL_law_1313 ?_
    refine xg_lcmp C dL_law_1314 ?_
    refine xg_if_eq C 1320 dL_law_1315 (by decide) (fun _ => ?_) (fun h7 => absurd (by rw [q6 h8]; exact lg_cmp_self _) h7)
    refine xg_goto C 1871 dL_law_1320 (by decide) ?_
    refine xg_I (I' := xPP G Gm cJ ao S1 M1 o1) ?_ (fun H h => ⟨h.2, h.1⟩)
    refine xg_le2 (L' := [some (.ref b), some (.ref (G.2.2 0 0)), some (.ref (Gm.2.2 0 0)), some (.ref ao), some (.int (nI i)), none, none]) ⟨rfl, rfl, rfl, rfl, rfl, trivial⟩ ?_
    exact K S1 M1 o1 hR1
set_option maxRecDepth 100000 in
set_option maxHeartbeats 4000000 in
theorem law_version {F : xF} {G Gm : xG} {Sa : Nat → Nat} {sz b N ao k w i c : Nat} {xs : Nat → Int32} {cJ : ClassId} {S M : xS} {o : Int64} {Rel : Nat → xS → xS → Prop} (C : xC F cL_law 7 RL wsL_law room_1) (V : xV F xYc G) (Vm : xV F xYm Gm) (E3 : xE3 F Sa sz b N xs) (L2 : xL2 F cJ ao) (hsz : ∀ a : Nat, xA xYc G a → sz ≤ a) (hao : sz ≤ ao) (hd9 : xAway G Gm ao) (hN : N ≤ 3072) (hi : i + 6 ≤ N) (hc : c < 512) (hR : Rel c S M) (hk : k + 1 ≤ 637548 ∧ w + 6 ≤ 7183461) (hsim : sim_version Rel) (K : ∀ S' M' o', Rel (c + 1) S' M' → xg F (k + 1) (w + 6) 1871 [some (.ref b), some (.ref (G.2.2 0 0)), some (.ref (Gm.2.2 0 0)), some (.ref ao), some (.int (nI i)), none, none] [] (xPP G Gm cJ ao S' M' o')) : xg F k w 1323 [some (.ref b), some (.ref (G.2.2 0 0)), some (.ref (Gm.2.2 0 0)), some (.ref ao), some (.int (nI i)), none, none] [] (xPP G Gm cJ ao S M o) := by
  refine xg_aload_n C dL_law_1323 rfl ?_
  refine xg_aload_n C dL_law_1324 rfl ?_
  refine xg_iload C dL_law_1325 rfl ?_
  refine xg_iconst C dL_law_1327 (v := (1 : Int32)) (by decide) ?_
  refine xg_iadd C dL_law_1328 ?_
  refine xg_scr C E3 (j := i + 1) hN (by omega) (xia1 i) dL_law_1329 ?_
  refine xg_aload_n C dL_law_1330 rfl ?_
  refine xg_iload C dL_law_1331 rfl ?_
  refine xg_iconst C dL_law_1333 (v := (2 : Int32)) (by decide) ?_
  refine xg_iadd C dL_law_1334 ?_
  refine xg_scr C E3 (j := i + 2) hN (by omega) (xia2 i) dL_law_1335 ?_
  refine xg_aload_n C dL_law_1336 rfl ?_
  obtain ⟨r, S1, o1, M1, v, fr1, lo1, q1, q2, q3, q4, q5, q6, q7⟩ := hsim c S M o (xs (i + 1)) (xs (i + 2)) hc hR
  have hR1 := q7
  refine xg_callW C V E3 L2 (xstW hd9) (S' := S1) (o' := o1) (r := r) (as := [.ref (G.2.2 0 0), .int (xs (i + 1)), .int (xs (i + 2)), .ref ao]) (n := 4) (fun l hl => kL_version l hl hsz hao hd9.2.1 V.1 (xs (i + 1)) (xs (i + 2)) S o r S1 o1 q1) gL_law_L_version rfl hdL_version ⟨by decide, by decide⟩ rfl rfl (Nat.le_of_ble_eq_true rfl) hk dL_law_1337 ?_
  refine xg_istore C dL_law_1340 (by decide) (L' := [some (.ref b), some (.ref (G.2.2 0 0)), some (.ref (Gm.2.2 0 0)), some (.ref ao), some (.int (nI i)), some (.int r), none]) rfl ?_
  refine xg_aload_n C dL_law_1342 rfl ?_
  refine xg_aload_n C dL_law_1343 rfl ?_
  refine xg_iload C dL_law_1344 rfl ?_
  refine xg_iconst C dL_law_1346 (v := (1 : Int32)) (by decide) ?_
  refine xg_iadd C dL_law_1347 ?_
  refine xg_scr C E3 (j := i + 1) hN (by omega) (xia1 i) dL_law_1348 ?_
  refine xg_aload_n C dL_law_1349 rfl ?_
  refine xg_iload C dL_law_1350 rfl ?_
  refine xg_iconst C dL_law_1352 (v := (2 : Int32)) (by decide) ?_
  refine xg_iadd C dL_law_1353 ?_
  refine xg_scr C E3 (j := i + 2) hN (by omega) (xia2 i) dL_law_1354 ?_
  refine xg_I (I' := (fun H => xP xYm Gm M H ∧ xPo G cJ ao S1 o1 H)) ?_ (fun H h => ⟨h.2, h.1⟩)
  refine xg_callViJ C Vm (xstM hd9) (f := 0) (S' := M1) (As := [.int (xs (i + 1)), .int (xs (i + 2))]) (r := v) (fun l => q4 l Gm Vm.1) gL_law_X4_version rfl hdX4_version ⟨by show _ ≤ 12; omega, by show _ ≤ 436; have e9 : (3 : Nat) = 3 := rfl; omega⟩ rfl rfl rfl rfl rfl (Nat.le_of_ble_eq_true rfl) ⟨by show _ ≤ 637548; omega, by show _ ≤ 7183461; omega⟩ dL_law_1355 ?_
  refine xg_istore C dL_law_1358 (by decide) (L' := [some (.ref b), some (.ref (G.2.2 0 0)), some (.ref (Gm.2.2 0 0)), some (.ref ao), some (.int (nI i)), some (.int r), some (.int v)]) rfl ?_
  refine xg_aload_n C dL_law_1360 rfl ?_
  refine xg_callViJ C Vm (xstM hd9) (f := 0) (As := []) (r := fX4_thrown M1) (fun l => kX4_thrown l Vm.1 M1) gL_law_X4_thrown rfl hdX4_thrown ⟨by decide, by decide⟩ rfl rfl rfl rfl rfl (Nat.le_of_ble_eq_true rfl) ⟨by show _ ≤ 637548; omega, by show _ ≤ 7183461; omega⟩ dL_law_1361 ?_
  refine xg_iload C dL_law_1364 rfl ?_
  refine xg_icmp_eq C 1371 dL_law_1366 (by decide) (fun h9 => ?_) (fun h9 => absurd (q5) h9)
  refine xg_iload C dL_law_1371 rfl ?_
  refine xg_if_ne C 1388 dL_law_1373 (by decide) (fun h8 => ?_) (fun h8 => ?_)
  · refine xg_goto C 1871 dL_law_1388 (by decide) ?_
    refine xg_I (I' := xPP G Gm cJ ao S1 M1 o1) ?_ (fun H h => ⟨h.2, h.1⟩)
    refine xg_le2 (L' := [some (.ref b), some (.ref (G.2.2 0 0)), some (.ref (Gm.2.2 0 0)), some (.ref ao), some (.int (nI i)), none, none]) ⟨rfl, rfl, rfl, rfl, rfl, trivial⟩ ?_
    exact K S1 M1 o1 hR1
  · refine xg_aload_n C dL_law_1376 rfl ?_
    refine xg_iconst C dL_law_1377 (v := (0 : Int32)) (by decide) ?_
    refine xg_lald C L2 (fun H h => h.2.2) dL_law_1378 ?_
    refine xg_iload C dL_law_1379 rfl ?_
    refine xg_i2l C dL_law_1381 ?_
    refine xg_lcmp C dL_law_1382 ?_
    refine xg_if_eq C 1388 dL_law_1383 (by decide) (fun _ => ?_) (fun h7 => absurd (by rw [q6 h8]; exact lg_cmp_self _) h7)
    refine xg_goto C 1871 dL_law_1388 (by decide) ?_
    refine xg_I (I' := xPP G Gm cJ ao S1 M1 o1) ?_ (fun H h => ⟨h.2, h.1⟩)
    refine xg_le2 (L' := [some (.ref b), some (.ref (G.2.2 0 0)), some (.ref (Gm.2.2 0 0)), some (.ref ao), some (.int (nI i)), none, none]) ⟨rfl, rfl, rfl, rfl, rfl, trivial⟩ ?_
    exact K S1 M1 o1 hR1
set_option maxRecDepth 100000 in
set_option maxHeartbeats 4000000 in
theorem law_age {F : xF} {G Gm : xG} {Sa : Nat → Nat} {sz b N ao k w i c : Nat} {xs : Nat → Int32} {cJ : ClassId} {S M : xS} {o : Int64} {Rel : Nat → xS → xS → Prop} (C : xC F cL_law 7 RL wsL_law room_1) (V : xV F xYc G) (Vm : xV F xYm Gm) (E3 : xE3 F Sa sz b N xs) (L2 : xL2 F cJ ao) (hsz : ∀ a : Nat, xA xYc G a → sz ≤ a) (hao : sz ≤ ao) (hd9 : xAway G Gm ao) (hN : N ≤ 3072) (hi : i + 6 ≤ N) (hc : c < 512) (hR : Rel c S M) (hk : k + 1 ≤ 637548 ∧ w + 6 ≤ 7183461) (hsim : sim_age Rel) (K : ∀ S' M' o', Rel (c + 1) S' M' → xg F (k + 1) (w + 6) 1871 [some (.ref b), some (.ref (G.2.2 0 0)), some (.ref (Gm.2.2 0 0)), some (.ref ao), some (.int (nI i)), none, none] [] (xPP G Gm cJ ao S' M' o')) : xg F k w 1391 [some (.ref b), some (.ref (G.2.2 0 0)), some (.ref (Gm.2.2 0 0)), some (.ref ao), some (.int (nI i)), none, none] [] (xPP G Gm cJ ao S M o) := by
  refine xg_aload_n C dL_law_1391 rfl ?_
  refine xg_aload_n C dL_law_1392 rfl ?_
  refine xg_iload C dL_law_1393 rfl ?_
  refine xg_iconst C dL_law_1395 (v := (1 : Int32)) (by decide) ?_
  refine xg_iadd C dL_law_1396 ?_
  refine xg_scr C E3 (j := i + 1) hN (by omega) (xia1 i) dL_law_1397 ?_
  refine xg_aload_n C dL_law_1398 rfl ?_
  refine xg_iload C dL_law_1399 rfl ?_
  refine xg_iconst C dL_law_1401 (v := (2 : Int32)) (by decide) ?_
  refine xg_iadd C dL_law_1402 ?_
  refine xg_scr C E3 (j := i + 2) hN (by omega) (xia2 i) dL_law_1403 ?_
  refine xg_aload_n C dL_law_1404 rfl ?_
  obtain ⟨r, S1, o1, M1, v, fr1, lo1, q1, q2, q3, q4, q5, q6, q7⟩ := hsim c S M o (xs (i + 1)) (xs (i + 2)) hc hR
  have hR1 := q7
  refine xg_callW C V E3 L2 (xstW hd9) (S' := S1) (o' := o1) (r := r) (as := [.ref (G.2.2 0 0), .int (xs (i + 1)), .int (xs (i + 2)), .ref ao]) (n := 4) (fun l hl => kL_age l hl hsz hao hd9.2.1 V.1 (xs (i + 1)) (xs (i + 2)) S o r S1 o1 q1) gL_law_L_age rfl hdL_age ⟨by decide, by decide⟩ rfl rfl (Nat.le_of_ble_eq_true rfl) hk dL_law_1405 ?_
  refine xg_istore C dL_law_1408 (by decide) (L' := [some (.ref b), some (.ref (G.2.2 0 0)), some (.ref (Gm.2.2 0 0)), some (.ref ao), some (.int (nI i)), some (.int r), none]) rfl ?_
  refine xg_aload_n C dL_law_1410 rfl ?_
  refine xg_aload_n C dL_law_1411 rfl ?_
  refine xg_iload C dL_law_1412 rfl ?_
  refine xg_iconst C dL_law_1414 (v := (1 : Int32)) (by decide) ?_
  refine xg_iadd C dL_law_1415 ?_
  refine xg_scr C E3 (j := i + 1) hN (by omega) (xia1 i) dL_law_1416 ?_
  refine xg_aload_n C dL_law_1417 rfl ?_
  refine xg_iload C dL_law_1418 rfl ?_
  refine xg_iconst C dL_law_1420 (v := (2 : Int32)) (by decide) ?_
  refine xg_iadd C dL_law_1421 ?_
  refine xg_scr C E3 (j := i + 2) hN (by omega) (xia2 i) dL_law_1422 ?_
  refine xg_I (I' := (fun H => xP xYm Gm M H ∧ xPo G cJ ao S1 o1 H)) ?_ (fun H h => ⟨h.2, h.1⟩)
  refine xg_callViJ C Vm (xstM hd9) (f := 0) (S' := M1) (As := [.int (xs (i + 1)), .int (xs (i + 2))]) (r := v) (fun l => q4 l Gm Vm.1) gL_law_X4_age rfl hdX4_age ⟨by show _ ≤ 12; omega, by show _ ≤ 436; have e9 : (3 : Nat) = 3 := rfl; omega⟩ rfl rfl rfl rfl rfl (Nat.le_of_ble_eq_true rfl) ⟨by show _ ≤ 637548; omega, by show _ ≤ 7183461; omega⟩ dL_law_1423 ?_
  refine xg_istore C dL_law_1426 (by decide) (L' := [some (.ref b), some (.ref (G.2.2 0 0)), some (.ref (Gm.2.2 0 0)), some (.ref ao), some (.int (nI i)), some (.int r), some (.int v)]) rfl ?_
  refine xg_aload_n C dL_law_1428 rfl ?_
  refine xg_callViJ C Vm (xstM hd9) (f := 0) (As := []) (r := fX4_thrown M1) (fun l => kX4_thrown l Vm.1 M1) gL_law_X4_thrown rfl hdX4_thrown ⟨by decide, by decide⟩ rfl rfl rfl rfl rfl (Nat.le_of_ble_eq_true rfl) ⟨by show _ ≤ 637548; omega, by show _ ≤ 7183461; omega⟩ dL_law_1429 ?_
  refine xg_iload C dL_law_1432 rfl ?_
  refine xg_icmp_eq C 1439 dL_law_1434 (by decide) (fun h9 => ?_) (fun h9 => absurd (q5) h9)
  refine xg_iload C dL_law_1439 rfl ?_
  refine xg_if_ne C 1456 dL_law_1441 (by decide) (fun h8 => ?_) (fun h8 => ?_)
  · refine xg_goto C 1871 dL_law_1456 (by decide) ?_
    refine xg_I (I' := xPP G Gm cJ ao S1 M1 o1) ?_ (fun H h => ⟨h.2, h.1⟩)
    refine xg_le2 (L' := [some (.ref b), some (.ref (G.2.2 0 0)), some (.ref (Gm.2.2 0 0)), some (.ref ao), some (.int (nI i)), none, none]) ⟨rfl, rfl, rfl, rfl, rfl, trivial⟩ ?_
    exact K S1 M1 o1 hR1
  · refine xg_aload_n C dL_law_1444 rfl ?_
    refine xg_iconst C dL_law_1445 (v := (0 : Int32)) (by decide) ?_
    refine xg_lald C L2 (fun H h => h.2.2) dL_law_1446 ?_
    refine xg_iload C dL_law_1447 rfl ?_
    refine xg_i2l C dL_law_1449 ?_
    refine xg_lcmp C dL_law_1450 ?_
    refine xg_if_eq C 1456 dL_law_1451 (by decide) (fun _ => ?_) (fun h7 => absurd (by rw [q6 h8]; exact lg_cmp_self _) h7)
    refine xg_goto C 1871 dL_law_1456 (by decide) ?_
    refine xg_I (I' := xPP G Gm cJ ao S1 M1 o1) ?_ (fun H h => ⟨h.2, h.1⟩)
    refine xg_le2 (L' := [some (.ref b), some (.ref (G.2.2 0 0)), some (.ref (Gm.2.2 0 0)), some (.ref ao), some (.int (nI i)), none, none]) ⟨rfl, rfl, rfl, rfl, rfl, trivial⟩ ?_
    exact K S1 M1 o1 hR1
set_option maxRecDepth 100000 in
set_option maxHeartbeats 4000000 in
theorem law_beat {F : xF} {G Gm : xG} {Sa : Nat → Nat} {sz b N ao k w i c : Nat} {xs : Nat → Int32} {cJ : ClassId} {S M : xS} {o : Int64} {Rel : Nat → xS → xS → Prop} (C : xC F cL_law 7 RL wsL_law room_1) (V : xV F xYc G) (Vm : xV F xYm Gm) (E3 : xE3 F Sa sz b N xs) (L2 : xL2 F cJ ao) (hsz : ∀ a : Nat, xA xYc G a → sz ≤ a) (hao : sz ≤ ao) (hd9 : xAway G Gm ao) (hN : N ≤ 3072) (hi : i + 6 ≤ N) (hc : c < 512) (hR : Rel c S M) (hk : k + 1 ≤ 637548 ∧ w + 6 ≤ 7183461) (hsim : sim_beat Rel) (K : ∀ S' M' o', Rel (c + 1) S' M' → xg F (k + 1) (w + 6) 1871 [some (.ref b), some (.ref (G.2.2 0 0)), some (.ref (Gm.2.2 0 0)), some (.ref ao), some (.int (nI i)), none, none] [] (xPP G Gm cJ ao S' M' o')) : xg F k w 1459 [some (.ref b), some (.ref (G.2.2 0 0)), some (.ref (Gm.2.2 0 0)), some (.ref ao), some (.int (nI i)), none, none] [] (xPP G Gm cJ ao S M o) := by
  refine xg_aload_n C dL_law_1459 rfl ?_
  refine xg_aload_n C dL_law_1460 rfl ?_
  refine xg_iload C dL_law_1461 rfl ?_
  refine xg_iconst C dL_law_1463 (v := (1 : Int32)) (by decide) ?_
  refine xg_iadd C dL_law_1464 ?_
  refine xg_scr C E3 (j := i + 1) hN (by omega) (xia1 i) dL_law_1465 ?_
  refine xg_aload_n C dL_law_1466 rfl ?_
  refine xg_iload C dL_law_1467 rfl ?_
  refine xg_iconst C dL_law_1469 (v := (2 : Int32)) (by decide) ?_
  refine xg_iadd C dL_law_1470 ?_
  refine xg_scr C E3 (j := i + 2) hN (by omega) (xia2 i) dL_law_1471 ?_
  refine xg_aload_n C dL_law_1472 rfl ?_
  obtain ⟨r, S1, o1, M1, v, fr1, lo1, q1, q2, q3, q4, q5, q6, q7⟩ := hsim c S M o (xs (i + 1)) (xs (i + 2)) hc hR
  have hR1 := q7
  refine xg_callW C V E3 L2 (xstW hd9) (S' := S1) (o' := o1) (r := r) (as := [.ref (G.2.2 0 0), .int (xs (i + 1)), .int (xs (i + 2)), .ref ao]) (n := 4) (fun l hl => kL_beat l hl hsz hao hd9.2.1 V.1 (xs (i + 1)) (xs (i + 2)) S o r S1 o1 q1) gL_law_L_beat rfl hdL_beat ⟨by decide, by decide⟩ rfl rfl (Nat.le_of_ble_eq_true rfl) hk dL_law_1473 ?_
  refine xg_istore C dL_law_1476 (by decide) (L' := [some (.ref b), some (.ref (G.2.2 0 0)), some (.ref (Gm.2.2 0 0)), some (.ref ao), some (.int (nI i)), some (.int r), none]) rfl ?_
  refine xg_aload_n C dL_law_1478 rfl ?_
  refine xg_aload_n C dL_law_1479 rfl ?_
  refine xg_iload C dL_law_1480 rfl ?_
  refine xg_iconst C dL_law_1482 (v := (1 : Int32)) (by decide) ?_
  refine xg_iadd C dL_law_1483 ?_
  refine xg_scr C E3 (j := i + 1) hN (by omega) (xia1 i) dL_law_1484 ?_
  refine xg_aload_n C dL_law_1485 rfl ?_
  refine xg_iload C dL_law_1486 rfl ?_
  refine xg_iconst C dL_law_1488 (v := (2 : Int32)) (by decide) ?_
  refine xg_iadd C dL_law_1489 ?_
  refine xg_scr C E3 (j := i + 2) hN (by omega) (xia2 i) dL_law_1490 ?_
  refine xg_I (I' := (fun H => xP xYm Gm M H ∧ xPo G cJ ao S1 o1 H)) ?_ (fun H h => ⟨h.2, h.1⟩)
  refine xg_callViJ C Vm (xstM hd9) (f := 0) (S' := M1) (As := [.int (xs (i + 1)), .int (xs (i + 2))]) (r := v) (fun l => q4 l Gm Vm.1) gL_law_X4_beat rfl hdX4_beat ⟨by show _ ≤ 12; omega, by show _ ≤ 436; have e9 : (3 : Nat) = 3 := rfl; omega⟩ rfl rfl rfl rfl rfl (Nat.le_of_ble_eq_true rfl) ⟨by show _ ≤ 637548; omega, by show _ ≤ 7183461; omega⟩ dL_law_1491 ?_
  refine xg_istore C dL_law_1494 (by decide) (L' := [some (.ref b), some (.ref (G.2.2 0 0)), some (.ref (Gm.2.2 0 0)), some (.ref ao), some (.int (nI i)), some (.int r), some (.int v)]) rfl ?_
  refine xg_aload_n C dL_law_1496 rfl ?_
  refine xg_callViJ C Vm (xstM hd9) (f := 0) (As := []) (r := fX4_thrown M1) (fun l => kX4_thrown l Vm.1 M1) gL_law_X4_thrown rfl hdX4_thrown ⟨by decide, by decide⟩ rfl rfl rfl rfl rfl (Nat.le_of_ble_eq_true rfl) ⟨by show _ ≤ 637548; omega, by show _ ≤ 7183461; omega⟩ dL_law_1497 ?_
  refine xg_iload C dL_law_1500 rfl ?_
  refine xg_icmp_eq C 1507 dL_law_1502 (by decide) (fun h9 => ?_) (fun h9 => absurd (q5) h9)
  refine xg_iload C dL_law_1507 rfl ?_
  refine xg_if_ne C 1524 dL_law_1509 (by decide) (fun h8 => ?_) (fun h8 => ?_)
  · refine xg_goto C 1871 dL_law_1524 (by decide) ?_
    refine xg_I (I' := xPP G Gm cJ ao S1 M1 o1) ?_ (fun H h => ⟨h.2, h.1⟩)
    refine xg_le2 (L' := [some (.ref b), some (.ref (G.2.2 0 0)), some (.ref (Gm.2.2 0 0)), some (.ref ao), some (.int (nI i)), none, none]) ⟨rfl, rfl, rfl, rfl, rfl, trivial⟩ ?_
    exact K S1 M1 o1 hR1
  · refine xg_aload_n C dL_law_1512 rfl ?_
    refine xg_iconst C dL_law_1513 (v := (0 : Int32)) (by decide) ?_
    refine xg_lald C L2 (fun H h => h.2.2) dL_law_1514 ?_
    refine xg_iload C dL_law_1515 rfl ?_
    refine xg_i2l C dL_law_1517 ?_
    refine xg_lcmp C dL_law_1518 ?_
    refine xg_if_eq C 1524 dL_law_1519 (by decide) (fun _ => ?_) (fun h7 => absurd (by rw [q6 h8]; exact lg_cmp_self _) h7)
    refine xg_goto C 1871 dL_law_1524 (by decide) ?_
    refine xg_I (I' := xPP G Gm cJ ao S1 M1 o1) ?_ (fun H h => ⟨h.2, h.1⟩)
    refine xg_le2 (L' := [some (.ref b), some (.ref (G.2.2 0 0)), some (.ref (Gm.2.2 0 0)), some (.ref ao), some (.int (nI i)), none, none]) ⟨rfl, rfl, rfl, rfl, rfl, trivial⟩ ?_
    exact K S1 M1 o1 hR1
set_option maxRecDepth 100000 in
set_option maxHeartbeats 4000000 in
theorem law_status {F : xF} {G Gm : xG} {Sa : Nat → Nat} {sz b N ao k w i c : Nat} {xs : Nat → Int32} {cJ : ClassId} {S M : xS} {o : Int64} {Rel : Nat → xS → xS → Prop} (C : xC F cL_law 7 RL wsL_law room_1) (V : xV F xYc G) (Vm : xV F xYm Gm) (E3 : xE3 F Sa sz b N xs) (L2 : xL2 F cJ ao) (hsz : ∀ a : Nat, xA xYc G a → sz ≤ a) (hao : sz ≤ ao) (hd9 : xAway G Gm ao) (hN : N ≤ 3072) (hi : i + 6 ≤ N) (hc : c < 512) (hR : Rel c S M) (hk : k + 1 ≤ 637548 ∧ w + 6 ≤ 7183461) (hsim : sim_status Rel) (K : ∀ S' M' o', Rel (c + 1) S' M' → xg F (k + 1) (w + 6) 1871 [some (.ref b), some (.ref (G.2.2 0 0)), some (.ref (Gm.2.2 0 0)), some (.ref ao), some (.int (nI i)), none, none] [] (xPP G Gm cJ ao S' M' o')) : xg F k w 1527 [some (.ref b), some (.ref (G.2.2 0 0)), some (.ref (Gm.2.2 0 0)), some (.ref ao), some (.int (nI i)), none, none] [] (xPP G Gm cJ ao S M o) := by
  refine xg_aload_n C dL_law_1527 rfl ?_
  refine xg_aload_n C dL_law_1528 rfl ?_
  refine xg_iload C dL_law_1529 rfl ?_
  refine xg_iconst C dL_law_1531 (v := (1 : Int32)) (by decide) ?_
  refine xg_iadd C dL_law_1532 ?_
  refine xg_scr C E3 (j := i + 1) hN (by omega) (xia1 i) dL_law_1533 ?_
  refine xg_aload_n C dL_law_1534 rfl ?_
  refine xg_iload C dL_law_1535 rfl ?_
  refine xg_iconst C dL_law_1537 (v := (2 : Int32)) (by decide) ?_
  refine xg_iadd C dL_law_1538 ?_
  refine xg_scr C E3 (j := i + 2) hN (by omega) (xia2 i) dL_law_1539 ?_
  refine xg_aload_n C dL_law_1540 rfl ?_
  obtain ⟨r, S1, o1, M1, v, fr1, lo1, q1, q2, q3, q4, q5, q6, q7⟩ := hsim c S M o (xs (i + 1)) (xs (i + 2)) hc hR
  have hR1 := q7
  refine xg_callW C V E3 L2 (xstW hd9) (S' := S1) (o' := o1) (r := r) (as := [.ref (G.2.2 0 0), .int (xs (i + 1)), .int (xs (i + 2)), .ref ao]) (n := 4) (fun l hl => kL_status l hl hsz hao hd9.2.1 V.1 (xs (i + 1)) (xs (i + 2)) S o r S1 o1 q1) gL_law_L_status rfl hdL_status ⟨by decide, by decide⟩ rfl rfl (Nat.le_of_ble_eq_true rfl) hk dL_law_1541 ?_
  refine xg_istore C dL_law_1544 (by decide) (L' := [some (.ref b), some (.ref (G.2.2 0 0)), some (.ref (Gm.2.2 0 0)), some (.ref ao), some (.int (nI i)), some (.int r), none]) rfl ?_
  refine xg_aload_n C dL_law_1546 rfl ?_
  refine xg_aload_n C dL_law_1547 rfl ?_
  refine xg_iload C dL_law_1548 rfl ?_
  refine xg_iconst C dL_law_1550 (v := (1 : Int32)) (by decide) ?_
  refine xg_iadd C dL_law_1551 ?_
  refine xg_scr C E3 (j := i + 1) hN (by omega) (xia1 i) dL_law_1552 ?_
  refine xg_aload_n C dL_law_1553 rfl ?_
  refine xg_iload C dL_law_1554 rfl ?_
  refine xg_iconst C dL_law_1556 (v := (2 : Int32)) (by decide) ?_
  refine xg_iadd C dL_law_1557 ?_
  refine xg_scr C E3 (j := i + 2) hN (by omega) (xia2 i) dL_law_1558 ?_
  refine xg_I (I' := (fun H => xP xYm Gm M H ∧ xPo G cJ ao S1 o1 H)) ?_ (fun H h => ⟨h.2, h.1⟩)
  refine xg_callViJ C Vm (xstM hd9) (f := 0) (S' := M1) (As := [.int (xs (i + 1)), .int (xs (i + 2))]) (r := v) (fun l => q4 l Gm Vm.1) gL_law_X4_status rfl hdX4_status ⟨by show _ ≤ 12; omega, by show _ ≤ 436; have e9 : (3 : Nat) = 3 := rfl; omega⟩ rfl rfl rfl rfl rfl (Nat.le_of_ble_eq_true rfl) ⟨by show _ ≤ 637548; omega, by show _ ≤ 7183461; omega⟩ dL_law_1559 ?_
  refine xg_istore C dL_law_1562 (by decide) (L' := [some (.ref b), some (.ref (G.2.2 0 0)), some (.ref (Gm.2.2 0 0)), some (.ref ao), some (.int (nI i)), some (.int r), some (.int v)]) rfl ?_
  refine xg_aload_n C dL_law_1564 rfl ?_
  refine xg_callViJ C Vm (xstM hd9) (f := 0) (As := []) (r := fX4_thrown M1) (fun l => kX4_thrown l Vm.1 M1) gL_law_X4_thrown rfl hdX4_thrown ⟨by decide, by decide⟩ rfl rfl rfl rfl rfl (Nat.le_of_ble_eq_true rfl) ⟨by show _ ≤ 637548; omega, by show _ ≤ 7183461; omega⟩ dL_law_1565 ?_
  refine xg_iload C dL_law_1568 rfl ?_
  refine xg_icmp_eq C 1575 dL_law_1570 (by decide) (fun h9 => ?_) (fun h9 => absurd (q5) h9)
  refine xg_iload C dL_law_1575 rfl ?_
  refine xg_if_ne C 1592 dL_law_1577 (by decide) (fun h8 => ?_) (fun h8 => ?_)
  · refine xg_goto C 1871 dL_law_1592 (by decide) ?_
    refine xg_I (I' := xPP G Gm cJ ao S1 M1 o1) ?_ (fun H h => ⟨h.2, h.1⟩)
    refine xg_le2 (L' := [some (.ref b), some (.ref (G.2.2 0 0)), some (.ref (Gm.2.2 0 0)), some (.ref ao), some (.int (nI i)), none, none]) ⟨rfl, rfl, rfl, rfl, rfl, trivial⟩ ?_
    exact K S1 M1 o1 hR1
  · refine xg_aload_n C dL_law_1580 rfl ?_
    refine xg_iconst C dL_law_1581 (v := (0 : Int32)) (by decide) ?_
    refine xg_lald C L2 (fun H h => h.2.2) dL_law_1582 ?_
    refine xg_iload C dL_law_1583 rfl ?_
    refine xg_i2l C dL_law_1585 ?_
    refine xg_lcmp C dL_law_1586 ?_
    refine xg_if_eq C 1592 dL_law_1587 (by decide) (fun _ => ?_) (fun h7 => absurd (by rw [q6 h8]; exact lg_cmp_self _) h7)
    refine xg_goto C 1871 dL_law_1592 (by decide) ?_
    refine xg_I (I' := xPP G Gm cJ ao S1 M1 o1) ?_ (fun H h => ⟨h.2, h.1⟩)
    refine xg_le2 (L' := [some (.ref b), some (.ref (G.2.2 0 0)), some (.ref (Gm.2.2 0 0)), some (.ref ao), some (.int (nI i)), none, none]) ⟨rfl, rfl, rfl, rfl, rfl, trivial⟩ ?_
    exact K S1 M1 o1 hR1
set_option maxRecDepth 100000 in
set_option maxHeartbeats 4000000 in
theorem law_partner {F : xF} {G Gm : xG} {Sa : Nat → Nat} {sz b N ao k w i c : Nat} {xs : Nat → Int32} {cJ : ClassId} {S M : xS} {o : Int64} {Rel : Nat → xS → xS → Prop} (C : xC F cL_law 7 RL wsL_law room_1) (V : xV F xYc G) (Vm : xV F xYm Gm) (E3 : xE3 F Sa sz b N xs) (L2 : xL2 F cJ ao) (hsz : ∀ a : Nat, xA xYc G a → sz ≤ a) (hao : sz ≤ ao) (hd9 : xAway G Gm ao) (hN : N ≤ 3072) (hi : i + 6 ≤ N) (hc : c < 512) (hR : Rel c S M) (hk : k + 1 ≤ 637548 ∧ w + 6 ≤ 7183461) (hsim : sim_partner Rel) (K : ∀ S' M' o', Rel (c + 1) S' M' → xg F (k + 1) (w + 6) 1871 [some (.ref b), some (.ref (G.2.2 0 0)), some (.ref (Gm.2.2 0 0)), some (.ref ao), some (.int (nI i)), none, none] [] (xPP G Gm cJ ao S' M' o')) : xg F k w 1595 [some (.ref b), some (.ref (G.2.2 0 0)), some (.ref (Gm.2.2 0 0)), some (.ref ao), some (.int (nI i)), none, none] [] (xPP G Gm cJ ao S M o) := by
  refine xg_aload_n C dL_law_1595 rfl ?_
  refine xg_aload_n C dL_law_1596 rfl ?_
  refine xg_iload C dL_law_1597 rfl ?_
  refine xg_iconst C dL_law_1599 (v := (1 : Int32)) (by decide) ?_
  refine xg_iadd C dL_law_1600 ?_
  refine xg_scr C E3 (j := i + 1) hN (by omega) (xia1 i) dL_law_1601 ?_
  refine xg_aload_n C dL_law_1602 rfl ?_
  obtain ⟨r, S1, o1, M1, v, fr1, lo1, q1, q2, q3, q4, q5, q6, q7⟩ := hsim c S M o (xs (i + 1)) hc hR
  have hR1 := q7
  refine xg_callW C V E3 L2 (xstW hd9) (S' := S1) (o' := o1) (r := r) (as := [.ref (G.2.2 0 0), .int (xs (i + 1)), .ref ao]) (n := 3) (fun l hl => kL_partner l hl hsz hao hd9.2.1 V.1 (xs (i + 1)) S o r S1 o1 q1) gL_law_L_partner rfl hdL_partner ⟨by decide, by decide⟩ rfl rfl (Nat.le_of_ble_eq_true rfl) hk dL_law_1603 ?_
  refine xg_istore C dL_law_1606 (by decide) (L' := [some (.ref b), some (.ref (G.2.2 0 0)), some (.ref (Gm.2.2 0 0)), some (.ref ao), some (.int (nI i)), some (.int r), none]) rfl ?_
  refine xg_aload_n C dL_law_1608 rfl ?_
  refine xg_aload_n C dL_law_1609 rfl ?_
  refine xg_iload C dL_law_1610 rfl ?_
  refine xg_iconst C dL_law_1612 (v := (1 : Int32)) (by decide) ?_
  refine xg_iadd C dL_law_1613 ?_
  refine xg_scr C E3 (j := i + 1) hN (by omega) (xia1 i) dL_law_1614 ?_
  refine xg_I (I' := (fun H => xP xYm Gm M H ∧ xPo G cJ ao S1 o1 H)) ?_ (fun H h => ⟨h.2, h.1⟩)
  refine xg_callViJ C Vm (xstM hd9) (f := 0) (S' := M1) (As := [.int (xs (i + 1))]) (r := v) (fun l => q4 l Gm Vm.1) gL_law_X4_partner rfl hdX4_partner ⟨by show _ ≤ 12; omega, by show _ ≤ 436; have e9 : (2 : Nat) = 2 := rfl; omega⟩ rfl rfl rfl rfl rfl (Nat.le_of_ble_eq_true rfl) ⟨by show _ ≤ 637548; omega, by show _ ≤ 7183461; omega⟩ dL_law_1615 ?_
  refine xg_istore C dL_law_1618 (by decide) (L' := [some (.ref b), some (.ref (G.2.2 0 0)), some (.ref (Gm.2.2 0 0)), some (.ref ao), some (.int (nI i)), some (.int r), some (.int v)]) rfl ?_
  refine xg_aload_n C dL_law_1620 rfl ?_
  refine xg_callViJ C Vm (xstM hd9) (f := 0) (As := []) (r := fX4_thrown M1) (fun l => kX4_thrown l Vm.1 M1) gL_law_X4_thrown rfl hdX4_thrown ⟨by decide, by decide⟩ rfl rfl rfl rfl rfl (Nat.le_of_ble_eq_true rfl) ⟨by show _ ≤ 637548; omega, by show _ ≤ 7183461; omega⟩ dL_law_1621 ?_
  refine xg_iload C dL_law_1624 rfl ?_
  refine xg_icmp_eq C 1631 dL_law_1626 (by decide) (fun h9 => ?_) (fun h9 => absurd (q5) h9)
  refine xg_iload C dL_law_1631 rfl ?_
  refine xg_if_ne C 1648 dL_law_1633 (by decide) (fun h8 => ?_) (fun h8 => ?_)
  · refine xg_goto C 1871 dL_law_1648 (by decide) ?_
    refine xg_I (I' := xPP G Gm cJ ao S1 M1 o1) ?_ (fun H h => ⟨h.2, h.1⟩)
    refine xg_le2 (L' := [some (.ref b), some (.ref (G.2.2 0 0)), some (.ref (Gm.2.2 0 0)), some (.ref ao), some (.int (nI i)), none, none]) ⟨rfl, rfl, rfl, rfl, rfl, trivial⟩ ?_
    exact K S1 M1 o1 hR1
  · refine xg_aload_n C dL_law_1636 rfl ?_
    refine xg_iconst C dL_law_1637 (v := (0 : Int32)) (by decide) ?_
    refine xg_lald C L2 (fun H h => h.2.2) dL_law_1638 ?_
    refine xg_iload C dL_law_1639 rfl ?_
    refine xg_i2l C dL_law_1641 ?_
    refine xg_lcmp C dL_law_1642 ?_
    refine xg_if_eq C 1648 dL_law_1643 (by decide) (fun _ => ?_) (fun h7 => absurd (by rw [q6 h8]; exact lg_cmp_self _) h7)
    refine xg_goto C 1871 dL_law_1648 (by decide) ?_
    refine xg_I (I' := xPP G Gm cJ ao S1 M1 o1) ?_ (fun H h => ⟨h.2, h.1⟩)
    refine xg_le2 (L' := [some (.ref b), some (.ref (G.2.2 0 0)), some (.ref (Gm.2.2 0 0)), some (.ref ao), some (.int (nI i)), none, none]) ⟨rfl, rfl, rfl, rfl, rfl, trivial⟩ ?_
    exact K S1 M1 o1 hR1
