/-! 15: GossipGates: its face, where it throws -/
theorem xnum3 {r : Int32} (h : ¬ r < (0 : Int32) ∧ r ≤ (7 : Int32)) : vp_in r 8 := by
  obtain ⟨h1, h2⟩ := h
  rw [xti]
  rw [Int32.lt_iff_toInt_lt, xt0] at h1
  rw [Int32.le_iff_toInt_le, xt7] at h2
  omega
theorem fitIA : Bundle.fit xIA = true := by decide +kernel
theorem fitIS : Bundle.fit xIS = true := by decide +kernel
theorem fitU : ∀ n ∈ xUp, Bundle.fit n = true := by decide +kernel
theorem goodIA : (Cond.classLink RX3 213 xIA :: Cond.initialized xIA :: vx_atS RX3 217 xIA xUp).all vx_ot = true := by decide +kernel
theorem goodIS : (Cond.classLink RX3 90 xIS :: Cond.initialized xIS :: vx_atS RX3 94 xIS xUp).all vx_ot = true := by decide +kernel
set_option maxRecDepth 100000 in
set_option maxHeartbeats 4000000 in
theorem kxX3_requireWithin (l : Launch) (hl : l.stackTraces = false) {G : xG} {Sa : Nat → Nat} {sz : Nat} (hsz : ∀ a : Nat, xA xYc G a → sz ≤ a) (hap : xAp xYc G) (a1 : Int32) (a2 : Int32) (a3 : Int32) (S : xS) (hbad : ¬ (¬ a1 < a2 ∧ a1 ≤ a3)) : xMx l xYc G Sa sz yX3_requireWithin wsX3_requireWithin 6 90 [.int a1, .int a2, .int a3] S xIA := by
  refine xMx_of (cc := cX3_requireWithin) (maxL := 3) (ret := none) (own := RX3) hl hsz [some (.int a1), some (.int a2), some (.int a3)] pnX3 rfl rfl (xcat1 rfl) (Nat.le_of_ble_eq_true rfl) rfl hap (fun F C V Z => ?_)
  refine xg_iload_n C dX3_requireWithin_0 rfl ?_
  refine xg_iload_n C dX3_requireWithin_1 rfl ?_
  refine xg_icmp_lt C 10 dX3_requireWithin_2 (by decide) (fun h1 => ?_) (fun h1 => ?_)
  · exact xg_throwS C Z (ik := 213) (is := 215) (ic := 217) (i := 0) fitIA fitU (List.mem_of_getElem? (i := 1) rfl) (List.mem_of_getElem? (i := 2) rfl) (fun s h => h.2.2.1.1) (by decide +kernel) (fun w h => List.mem_append_left _ h) goodIA (by decide) (Nat.le_of_ble_eq_true rfl) ⟨Nat.le_refl _, Nat.le_refl _⟩ dX3_requireWithin_10 dX3_requireWithin_13 dX3_requireWithin_14 dX3_requireWithin_16 dX3_requireWithin_19
  · refine xg_iload_n C dX3_requireWithin_5 rfl ?_
    refine xg_iload_n C dX3_requireWithin_6 rfl ?_
    refine xg_icmp_le C 20 dX3_requireWithin_7 (by decide) (fun h2 => absurd ⟨by assumption, h2⟩ hbad) (fun h2 => ?_)
    exact xg_throwS C Z (ik := 213) (is := 215) (ic := 217) (i := 0) fitIA fitU (List.mem_of_getElem? (i := 1) rfl) (List.mem_of_getElem? (i := 2) rfl) (fun s h => h.2.2.1.1) (by decide +kernel) (fun w h => List.mem_append_left _ h) goodIA (by decide) (Nat.le_of_ble_eq_true rfl) ⟨Nat.le_refl _, Nat.le_refl _⟩ dX3_requireWithin_10 dX3_requireWithin_13 dX3_requireWithin_14 dX3_requireWithin_16 dX3_requireWithin_19
set_option maxRecDepth 100000 in
set_option maxHeartbeats 4000000 in
theorem kxX3_requireNumber (l : Launch) (hl : l.stackTraces = false) {G : xG} {Sa : Nat → Nat} {sz : Nat} (hsz : ∀ a : Nat, xA xYc G a → sz ≤ a) (hap : xAp xYc G) (a1 : Int32) (S : xS) (hb0 : ¬ vp_in a1 8) : xMx l xYc G Sa sz yX3_requireNumber wsX3_requireNumber 7 112 [.int a1] S xIA := by
  refine xMx_of (cc := cX3_requireNumber) (maxL := 1) (ret := none) (own := RX3) hl hsz [some (.int a1)] pnX3 rfl rfl (xcat1 rfl) (Nat.le_of_ble_eq_true rfl) rfl hap (fun F C V Z => ?_)
  have hbad : ¬ (¬ a1 < (0 : Int32) ∧ a1 ≤ (7 : Int32)) := fun z => hb0 (xnum3 z)
  refine xg_iload_n C dX3_requireNumber_0 rfl ?_
  refine xg_iconst C dX3_requireNumber_1 (v := (0 : Int32)) (by decide) ?_
  refine xg_bipush C dX3_requireNumber_2 (v := (7 : Int32)) (by decide) ?_
  by_cases c1 : ¬ a1 < (0 : Int32) ∧ a1 ≤ (7 : Int32)
  · refine xg_callSv C V (as := [.int a1, .int (0 : Int32), .int (7 : Int32)]) (fun l => kX3_requireWithin l hap a1 (0 : Int32) (7 : Int32) S c1.1 c1.2) gX3_requireNumber_X3_requireWithin rfl hdX3_requireWithin ⟨by decide, by decide⟩ rfl rfl (Nat.le_of_ble_eq_true rfl) ⟨Nat.zero_le _, Nat.zero_le _⟩ dX3_requireNumber_4 ?_
    exact absurd c1 hbad
  · exact xg_callSx C V Z (as := [.int a1, .int (0 : Int32), .int (7 : Int32)]) (fun l hl => kxX3_requireWithin l hl hsz hap a1 (0 : Int32) (7 : Int32) S c1) gX3_requireNumber_X3_requireWithin rfl hdX3_requireWithin ⟨by decide, by decide⟩ rfl rfl (Nat.le_of_ble_eq_true rfl) ⟨rfl, rfl⟩ dX3_requireNumber_4
set_option maxRecDepth 100000 in
set_option maxHeartbeats 4000000 in
theorem kxX3_shape (l : Launch) (hl : l.stackTraces = false) {G : xG} {Sa : Nat → Nat} {sz : Nat} (hsz : ∀ a : Nat, xA xYc G a → sz ≤ a) (hap : xAp xYc G) (a1 : Int32) (a2 : Int32) (a3 : Int32) (S : xS)  (hbad : ¬ (vp_in a1 8 ∧ (¬ a2 < (1 : Int32) ∧ a2 ≤ (100 : Int32)) ∧ (¬ a3 < (1 : Int32) ∧ a3 ≤ (1000 : Int32)))) : xMx l xYc G Sa sz yX3_shape wsX3_shape 8 132 [.ref (G.2.2 0 0), .int a1, .int a2, .int a3] S xIA := by
  refine xMx_of (cc := cX3_shape) (maxL := 4) (ret := none) (own := RX3) hl hsz [some (.ref (G.2.2 0 0)), some (.int a1), some (.int a2), some (.int a3)] pnX3 rfl rfl (xcat1 rfl) (Nat.le_of_ble_eq_true rfl) rfl hap (fun F C V Z => ?_)
  refine xg_iload_n C dX3_shape_0 rfl ?_
  by_cases c1 : vp_in a1 8
  · refine xg_callSv C V (as := [.int a1]) (fun l => kX3_requireNumber l hap a1 S c1) gX3_shape_X3_requireNumber rfl hdX3_requireNumber ⟨by decide, by decide⟩ rfl rfl (Nat.le_of_ble_eq_true rfl) ⟨Nat.zero_le _, Nat.zero_le _⟩ dX3_shape_1 ?_
    refine xg_iload_n C dX3_shape_4 rfl ?_
    refine xg_iconst C dX3_shape_5 (v := (1 : Int32)) (by decide) ?_
    refine xg_bipush C dX3_shape_6 (v := (100 : Int32)) (by decide) ?_
    by_cases c2 : ¬ a2 < (1 : Int32) ∧ a2 ≤ (100 : Int32)
    · refine xg_callSv C V (as := [.int a2, .int (1 : Int32), .int (100 : Int32)]) (fun l => kX3_requireWithin l hap a2 (1 : Int32) (100 : Int32) S c2.1 c2.2) gX3_shape_X3_requireWithin rfl hdX3_requireWithin ⟨by decide, by decide⟩ rfl rfl (Nat.le_of_ble_eq_true rfl) ⟨Nat.zero_le _, Nat.zero_le _⟩ dX3_shape_8 ?_
      refine xg_iload_n C dX3_shape_11 rfl ?_
      refine xg_iconst C dX3_shape_12 (v := (1 : Int32)) (by decide) ?_
      refine xg_sipush C dX3_shape_13 (v := (1000 : Int32)) (by decide) ?_
      by_cases c3 : ¬ a3 < (1 : Int32) ∧ a3 ≤ (1000 : Int32)
      · refine xg_callSv C V (as := [.int a3, .int (1 : Int32), .int (1000 : Int32)]) (fun l => kX3_requireWithin l hap a3 (1 : Int32) (1000 : Int32) S c3.1 c3.2) gX3_shape_X3_requireWithin rfl hdX3_requireWithin ⟨by decide, by decide⟩ rfl rfl (Nat.le_of_ble_eq_true rfl) ⟨Nat.zero_le _, Nat.zero_le _⟩ dX3_shape_16 ?_
        refine xg_aload_n C dX3_shape_19 rfl ?_
        exact absurd ⟨c1, c2, c3⟩ hbad
      · exact xg_callSx C V Z (as := [.int a3, .int (1 : Int32), .int (1000 : Int32)]) (fun l hl => kxX3_requireWithin l hl hsz hap a3 (1 : Int32) (1000 : Int32) S c3) gX3_shape_X3_requireWithin rfl hdX3_requireWithin ⟨by decide, by decide⟩ rfl rfl (Nat.le_of_ble_eq_true rfl) ⟨rfl, rfl⟩ dX3_shape_16
    · exact xg_callSx C V Z (as := [.int a2, .int (1 : Int32), .int (100 : Int32)]) (fun l hl => kxX3_requireWithin l hl hsz hap a2 (1 : Int32) (100 : Int32) S c2) gX3_shape_X3_requireWithin rfl hdX3_requireWithin ⟨by decide, by decide⟩ rfl rfl (Nat.le_of_ble_eq_true rfl) ⟨rfl, rfl⟩ dX3_shape_8
  · exact xg_callSx C V Z (as := [.int a1]) (fun l hl => kxX3_requireNumber l hl hsz hap a1 S c1) gX3_shape_X3_requireNumber rfl hdX3_requireNumber ⟨by decide, by decide⟩ rfl rfl (Nat.le_of_ble_eq_true rfl) ⟨rfl, rfl⟩ dX3_shape_1
set_option maxRecDepth 100000 in
set_option maxHeartbeats 4000000 in
theorem kxX3_setGauge (l : Launch) (hl : l.stackTraces = false) {G : xG} {Sa : Nat → Nat} {sz : Nat} (hsz : ∀ a : Nat, xA xYc G a → sz ≤ a) (hap : xAp xYc G) (a1 : Int32) (a2 : Int32) (S : xS)  (hbad : ¬ (vp_in a1 8 ∧ (¬ a2 < (1 : Int32) ∧ a2 ≤ (50 : Int32)))) : xMx l xYc G Sa sz yX3_setGauge wsX3_setGauge 8 132 [.ref (G.2.2 0 0), .int a1, .int a2] S xIA := by
  refine xMx_of (cc := cX3_setGauge) (maxL := 4) (ret := (some .int)) (own := RX3) hl hsz [some (.ref (G.2.2 0 0)), some (.int a1), some (.int a2), none] pnX3 rfl rfl (xcat1 rfl) (Nat.le_of_ble_eq_true rfl) rfl hap (fun F C V Z => ?_)
  refine xg_iload_n C dX3_setGauge_0 rfl ?_
  by_cases c1 : vp_in a1 8
  · refine xg_callSv C V (as := [.int a1]) (fun l => kX3_requireNumber l hap a1 S c1) gX3_setGauge_X3_requireNumber rfl hdX3_requireNumber ⟨by decide, by decide⟩ rfl rfl (Nat.le_of_ble_eq_true rfl) ⟨Nat.zero_le _, Nat.zero_le _⟩ dX3_setGauge_1 ?_
    refine xg_iload_n C dX3_setGauge_4 rfl ?_
    refine xg_iconst C dX3_setGauge_5 (v := (1 : Int32)) (by decide) ?_
    refine xg_bipush C dX3_setGauge_6 (v := (50 : Int32)) (by decide) ?_
    by_cases c2 : ¬ a2 < (1 : Int32) ∧ a2 ≤ (50 : Int32)
    · refine xg_callSv C V (as := [.int a2, .int (1 : Int32), .int (50 : Int32)]) (fun l => kX3_requireWithin l hap a2 (1 : Int32) (50 : Int32) S c2.1 c2.2) gX3_setGauge_X3_requireWithin rfl hdX3_requireWithin ⟨by decide, by decide⟩ rfl rfl (Nat.le_of_ble_eq_true rfl) ⟨Nat.zero_le _, Nat.zero_le _⟩ dX3_setGauge_8 ?_
      refine xg_aload_n C dX3_setGauge_11 rfl ?_
      exact absurd ⟨c1, c2⟩ hbad
    · exact xg_callSx C V Z (as := [.int a2, .int (1 : Int32), .int (50 : Int32)]) (fun l hl => kxX3_requireWithin l hl hsz hap a2 (1 : Int32) (50 : Int32) S c2) gX3_setGauge_X3_requireWithin rfl hdX3_requireWithin ⟨by decide, by decide⟩ rfl rfl (Nat.le_of_ble_eq_true rfl) ⟨rfl, rfl⟩ dX3_setGauge_8
  · exact xg_callSx C V Z (as := [.int a1]) (fun l hl => kxX3_requireNumber l hl hsz hap a1 S c1) gX3_setGauge_X3_requireNumber rfl hdX3_requireNumber ⟨by decide, by decide⟩ rfl rfl (Nat.le_of_ble_eq_true rfl) ⟨rfl, rfl⟩ dX3_setGauge_1
set_option maxRecDepth 100000 in
set_option maxHeartbeats 4000000 in
theorem kxX3_setSource (l : Launch) (hl : l.stackTraces = false) {G : xG} {Sa : Nat → Nat} {sz : Nat} (hsz : ∀ a : Nat, xA xYc G a → sz ≤ a) (hap : xAp xYc G) (a1 : Int32) (S : xS)  (hbad : ¬ ((¬ a1 < (0 : Int32) ∧ a1 ≤ (1000 : Int32)))) : xMx l xYc G Sa sz yX3_setSource wsX3_setSource 7 112 [.ref (G.2.2 0 0), .int a1] S xIA := by
  refine xMx_of (cc := cX3_setSource) (maxL := 3) (ret := (some .int)) (own := RX3) hl hsz [some (.ref (G.2.2 0 0)), some (.int a1), none] pnX3 rfl rfl (xcat1 rfl) (Nat.le_of_ble_eq_true rfl) rfl hap (fun F C V Z => ?_)
  refine xg_iload_n C dX3_setSource_0 rfl ?_
  refine xg_iconst C dX3_setSource_1 (v := (0 : Int32)) (by decide) ?_
  refine xg_sipush C dX3_setSource_2 (v := (1000 : Int32)) (by decide) ?_
  by_cases c1 : ¬ a1 < (0 : Int32) ∧ a1 ≤ (1000 : Int32)
  · refine xg_callSv C V (as := [.int a1, .int (0 : Int32), .int (1000 : Int32)]) (fun l => kX3_requireWithin l hap a1 (0 : Int32) (1000 : Int32) S c1.1 c1.2) gX3_setSource_X3_requireWithin rfl hdX3_requireWithin ⟨by decide, by decide⟩ rfl rfl (Nat.le_of_ble_eq_true rfl) ⟨Nat.zero_le _, Nat.zero_le _⟩ dX3_setSource_5 ?_
    refine xg_aload_n C dX3_setSource_8 rfl ?_
    exact absurd c1 hbad
  · exact xg_callSx C V Z (as := [.int a1, .int (0 : Int32), .int (1000 : Int32)]) (fun l hl => kxX3_requireWithin l hl hsz hap a1 (0 : Int32) (1000 : Int32) S c1) gX3_setSource_X3_requireWithin rfl hdX3_requireWithin ⟨by decide, by decide⟩ rfl rfl (Nat.le_of_ble_eq_true rfl) ⟨rfl, rfl⟩ dX3_setSource_5
set_option maxRecDepth 100000 in
set_option maxHeartbeats 4000000 in
theorem kxX3_rain (l : Launch) (hl : l.stackTraces = false) {G : xG} {Sa : Nat → Nat} {sz : Nat} (hsz : ∀ a : Nat, xA xYc G a → sz ≤ a) (hap : xAp xYc G) (a1 : Int32) (a2 : Int32) (S : xS)  (hbad : ¬ (vp_in a1 8 ∧ (¬ a2 < (1 : Int32) ∧ a2 ≤ (10000 : Int32)))) : xMx l xYc G Sa sz yX3_rain wsX3_rain 8 132 [.ref (G.2.2 0 0), .int a1, .int a2] S xIA := by
  refine xMx_of (cc := cX3_rain) (maxL := 3) (ret := (some .int)) (own := RX3) hl hsz [some (.ref (G.2.2 0 0)), some (.int a1), some (.int a2)] pnX3 rfl rfl (xcat1 rfl) (Nat.le_of_ble_eq_true rfl) rfl hap (fun F C V Z => ?_)
  refine xg_iload_n C dX3_rain_0 rfl ?_
  by_cases c1 : vp_in a1 8
  · refine xg_callSv C V (as := [.int a1]) (fun l => kX3_requireNumber l hap a1 S c1) gX3_rain_X3_requireNumber rfl hdX3_requireNumber ⟨by decide, by decide⟩ rfl rfl (Nat.le_of_ble_eq_true rfl) ⟨Nat.zero_le _, Nat.zero_le _⟩ dX3_rain_1 ?_
    refine xg_iload_n C dX3_rain_4 rfl ?_
    refine xg_iconst C dX3_rain_5 (v := (1 : Int32)) (by decide) ?_
    refine xg_sipush C dX3_rain_6 (v := (10000 : Int32)) (by decide) ?_
    by_cases c2 : ¬ a2 < (1 : Int32) ∧ a2 ≤ (10000 : Int32)
    · refine xg_callSv C V (as := [.int a2, .int (1 : Int32), .int (10000 : Int32)]) (fun l => kX3_requireWithin l hap a2 (1 : Int32) (10000 : Int32) S c2.1 c2.2) gX3_rain_X3_requireWithin rfl hdX3_requireWithin ⟨by decide, by decide⟩ rfl rfl (Nat.le_of_ble_eq_true rfl) ⟨Nat.zero_le _, Nat.zero_le _⟩ dX3_rain_9 ?_
      refine xg_aload_n C dX3_rain_12 rfl ?_
      exact absurd ⟨c1, c2⟩ hbad
    · exact xg_callSx C V Z (as := [.int a2, .int (1 : Int32), .int (10000 : Int32)]) (fun l hl => kxX3_requireWithin l hl hsz hap a2 (1 : Int32) (10000 : Int32) S c2) gX3_rain_X3_requireWithin rfl hdX3_requireWithin ⟨by decide, by decide⟩ rfl rfl (Nat.le_of_ble_eq_true rfl) ⟨rfl, rfl⟩ dX3_rain_9
  · exact xg_callSx C V Z (as := [.int a1]) (fun l hl => kxX3_requireNumber l hl hsz hap a1 S c1) gX3_rain_X3_requireNumber rfl hdX3_requireNumber ⟨by decide, by decide⟩ rfl rfl (Nat.le_of_ble_eq_true rfl) ⟨rfl, rfl⟩ dX3_rain_1
set_option maxRecDepth 100000 in
set_option maxHeartbeats 4000000 in
theorem kxX3_volume (l : Launch) (hl : l.stackTraces = false) {G : xG} {Sa : Nat → Nat} {sz : Nat} (hsz : ∀ a : Nat, xA xYc G a → sz ≤ a) (hap : xAp xYc G) (a1 : Int32) (S : xS)  (hbad : ¬ (vp_in a1 8)) : xMx l xYc G Sa sz yX3_volume wsX3_volume 8 132 [.ref (G.2.2 0 0), .int a1] S xIA := by
  refine xMx_of (cc := cX3_volume) (maxL := 2) (ret := (some .int)) (own := RX3) hl hsz [some (.ref (G.2.2 0 0)), some (.int a1)] pnX3 rfl rfl (xcat1 rfl) (Nat.le_of_ble_eq_true rfl) rfl hap (fun F C V Z => ?_)
  refine xg_iload_n C dX3_volume_0 rfl ?_
  by_cases c1 : vp_in a1 8
  · refine xg_callSv C V (as := [.int a1]) (fun l => kX3_requireNumber l hap a1 S c1) gX3_volume_X3_requireNumber rfl hdX3_requireNumber ⟨by decide, by decide⟩ rfl rfl (Nat.le_of_ble_eq_true rfl) ⟨Nat.zero_le _, Nat.zero_le _⟩ dX3_volume_1 ?_
    refine xg_aload_n C dX3_volume_4 rfl ?_
    exact absurd c1 hbad
  · exact xg_callSx C V Z (as := [.int a1]) (fun l hl => kxX3_requireNumber l hl hsz hap a1 S c1) gX3_volume_X3_requireNumber rfl hdX3_requireNumber ⟨by decide, by decide⟩ rfl rfl (Nat.le_of_ble_eq_true rfl) ⟨rfl, rfl⟩ dX3_volume_1
set_option maxRecDepth 100000 in
set_option maxHeartbeats 4000000 in
theorem kxX3_volumeByBalance (l : Launch) (hl : l.stackTraces = false) {G : xG} {Sa : Nat → Nat} {sz : Nat} (hsz : ∀ a : Nat, xA xYc G a → sz ≤ a) (hap : xAp xYc G) (a1 : Int32) (S : xS)  (hbad : ¬ (vp_in a1 8)) : xMx l xYc G Sa sz yX3_volumeByBalance wsX3_volumeByBalance 8 132 [.ref (G.2.2 0 0), .int a1] S xIA := by
  refine xMx_of (cc := cX3_volumeByBalance) (maxL := 2) (ret := (some .int)) (own := RX3) hl hsz [some (.ref (G.2.2 0 0)), some (.int a1)] pnX3 rfl rfl (xcat1 rfl) (Nat.le_of_ble_eq_true rfl) rfl hap (fun F C V Z => ?_)
  refine xg_iload_n C dX3_volumeByBalance_0 rfl ?_
  by_cases c1 : vp_in a1 8
  · refine xg_callSv C V (as := [.int a1]) (fun l => kX3_requireNumber l hap a1 S c1) gX3_volumeByBalance_X3_requireNumber rfl hdX3_requireNumber ⟨by decide, by decide⟩ rfl rfl (Nat.le_of_ble_eq_true rfl) ⟨Nat.zero_le _, Nat.zero_le _⟩ dX3_volumeByBalance_1 ?_
    refine xg_aload_n C dX3_volumeByBalance_4 rfl ?_
    exact absurd c1 hbad
  · exact xg_callSx C V Z (as := [.int a1]) (fun l hl => kxX3_requireNumber l hl hsz hap a1 S c1) gX3_volumeByBalance_X3_requireNumber rfl hdX3_requireNumber ⟨by decide, by decide⟩ rfl rfl (Nat.le_of_ble_eq_true rfl) ⟨rfl, rfl⟩ dX3_volumeByBalance_1
set_option maxRecDepth 100000 in
set_option maxHeartbeats 4000000 in
theorem kxX3_level (l : Launch) (hl : l.stackTraces = false) {G : xG} {Sa : Nat → Nat} {sz : Nat} (hsz : ∀ a : Nat, xA xYc G a → sz ≤ a) (hap : xAp xYc G) (a1 : Int32) (S : xS)  (hbad : ¬ (vp_in a1 8)) : xMx l xYc G Sa sz yX3_level wsX3_level 8 132 [.ref (G.2.2 0 0), .int a1] S xIA := by
  refine xMx_of (cc := cX3_level) (maxL := 2) (ret := (some .int)) (own := RX3) hl hsz [some (.ref (G.2.2 0 0)), some (.int a1)] pnX3 rfl rfl (xcat1 rfl) (Nat.le_of_ble_eq_true rfl) rfl hap (fun F C V Z => ?_)
  refine xg_iload_n C dX3_level_0 rfl ?_
  by_cases c1 : vp_in a1 8
  · refine xg_callSv C V (as := [.int a1]) (fun l => kX3_requireNumber l hap a1 S c1) gX3_level_X3_requireNumber rfl hdX3_requireNumber ⟨by decide, by decide⟩ rfl rfl (Nat.le_of_ble_eq_true rfl) ⟨Nat.zero_le _, Nat.zero_le _⟩ dX3_level_1 ?_
    refine xg_aload_n C dX3_level_4 rfl ?_
    exact absurd c1 hbad
  · exact xg_callSx C V Z (as := [.int a1]) (fun l hl => kxX3_requireNumber l hl hsz hap a1 S c1) gX3_level_X3_requireNumber rfl hdX3_requireNumber ⟨by decide, by decide⟩ rfl rfl (Nat.le_of_ble_eq_true rfl) ⟨rfl, rfl⟩ dX3_level_1
set_option maxRecDepth 100000 in
set_option maxHeartbeats 4000000 in
theorem kxX3_flowed (l : Launch) (hl : l.stackTraces = false) {G : xG} {Sa : Nat → Nat} {sz : Nat} (hsz : ∀ a : Nat, xA xYc G a → sz ≤ a) (hap : xAp xYc G) (a1 : Int32) (S : xS)  (hbad : ¬ (vp_in a1 8)) : xMx l xYc G Sa sz yX3_flowed wsX3_flowed 8 132 [.ref (G.2.2 0 0), .int a1] S xIA := by
  refine xMx_of (cc := cX3_flowed) (maxL := 2) (ret := (some .int)) (own := RX3) hl hsz [some (.ref (G.2.2 0 0)), some (.int a1)] pnX3 rfl rfl (xcat1 rfl) (Nat.le_of_ble_eq_true rfl) rfl hap (fun F C V Z => ?_)
  refine xg_iload_n C dX3_flowed_0 rfl ?_
  by_cases c1 : vp_in a1 8
  · refine xg_callSv C V (as := [.int a1]) (fun l => kX3_requireNumber l hap a1 S c1) gX3_flowed_X3_requireNumber rfl hdX3_requireNumber ⟨by decide, by decide⟩ rfl rfl (Nat.le_of_ble_eq_true rfl) ⟨Nat.zero_le _, Nat.zero_le _⟩ dX3_flowed_1 ?_
    refine xg_aload_n C dX3_flowed_4 rfl ?_
    exact absurd c1 hbad
  · exact xg_callSx C V Z (as := [.int a1]) (fun l hl => kxX3_requireNumber l hl hsz hap a1 S c1) gX3_flowed_X3_requireNumber rfl hdX3_requireNumber ⟨by decide, by decide⟩ rfl rfl (Nat.le_of_ble_eq_true rfl) ⟨rfl, rfl⟩ dX3_flowed_1
set_option maxRecDepth 100000 in
set_option maxHeartbeats 4000000 in
theorem kxX3_spilled (l : Launch) (hl : l.stackTraces = false) {G : xG} {Sa : Nat → Nat} {sz : Nat} (hsz : ∀ a : Nat, xA xYc G a → sz ≤ a) (hap : xAp xYc G) (a1 : Int32) (S : xS)  (hbad : ¬ (vp_in a1 8)) : xMx l xYc G Sa sz yX3_spilled wsX3_spilled 8 132 [.ref (G.2.2 0 0), .int a1] S xIA := by
  refine xMx_of (cc := cX3_spilled) (maxL := 2) (ret := (some .int)) (own := RX3) hl hsz [some (.ref (G.2.2 0 0)), some (.int a1)] pnX3 rfl rfl (xcat1 rfl) (Nat.le_of_ble_eq_true rfl) rfl hap (fun F C V Z => ?_)
  refine xg_iload_n C dX3_spilled_0 rfl ?_
  by_cases c1 : vp_in a1 8
  · refine xg_callSv C V (as := [.int a1]) (fun l => kX3_requireNumber l hap a1 S c1) gX3_spilled_X3_requireNumber rfl hdX3_requireNumber ⟨by decide, by decide⟩ rfl rfl (Nat.le_of_ble_eq_true rfl) ⟨Nat.zero_le _, Nat.zero_le _⟩ dX3_spilled_1 ?_
    refine xg_aload_n C dX3_spilled_4 rfl ?_
    exact absurd c1 hbad
  · exact xg_callSx C V Z (as := [.int a1]) (fun l hl => kxX3_requireNumber l hl hsz hap a1 S c1) gX3_spilled_X3_requireNumber rfl hdX3_requireNumber ⟨by decide, by decide⟩ rfl rfl (Nat.le_of_ble_eq_true rfl) ⟨rfl, rfl⟩ dX3_spilled_1
set_option maxRecDepth 100000 in
set_option maxHeartbeats 4000000 in
theorem kxX3_setRule (l : Launch) (hl : l.stackTraces = false) {G : xG} {Sa : Nat → Nat} {sz : Nat} (hsz : ∀ a : Nat, xA xYc G a → sz ≤ a) (hap : xAp xYc G) (a1 : Int32) (a2 : Int32) (a3 : Int32) (a4 : Int32) (a5 : Int32) (S : xS)  (hbad : ¬ (vp_in a1 8 ∧ (¬ a2 < (0 : Int32) ∧ a2 ≤ (1000 : Int32)) ∧ (¬ a3 < a2 ∧ a3 ≤ (1000 : Int32)) ∧ (¬ a4 < (0 : Int32) ∧ a4 ≤ (1000 : Int32)) ∧ (¬ a5 < (0 : Int32) ∧ a5 ≤ (100 : Int32)))) : xMx l xYc G Sa sz yX3_setRule wsX3_setRule 8 132 [.ref (G.2.2 0 0), .int a1, .int a2, .int a3, .int a4, .int a5] S xIA := by
  refine xMx_of (cc := cX3_setRule) (maxL := 6) (ret := none) (own := RX3) hl hsz [some (.ref (G.2.2 0 0)), some (.int a1), some (.int a2), some (.int a3), some (.int a4), some (.int a5)] pnX3 rfl rfl (xcat1 rfl) (Nat.le_of_ble_eq_true rfl) rfl hap (fun F C V Z => ?_)
  refine xg_iload_n C dX3_setRule_0 rfl ?_
  by_cases c1 : vp_in a1 8
  · refine xg_callSv C V (as := [.int a1]) (fun l => kX3_requireNumber l hap a1 S c1) gX3_setRule_X3_requireNumber rfl hdX3_requireNumber ⟨by decide, by decide⟩ rfl rfl (Nat.le_of_ble_eq_true rfl) ⟨Nat.zero_le _, Nat.zero_le _⟩ dX3_setRule_1 ?_
    refine xg_iload_n C dX3_setRule_4 rfl ?_
    refine xg_iconst C dX3_setRule_5 (v := (0 : Int32)) (by decide) ?_
    refine xg_sipush C dX3_setRule_6 (v := (1000 : Int32)) (by decide) ?_
    by_cases c2 : ¬ a2 < (0 : Int32) ∧ a2 ≤ (1000 : Int32)
    · refine xg_callSv C V (as := [.int a2, .int (0 : Int32), .int (1000 : Int32)]) (fun l => kX3_requireWithin l hap a2 (0 : Int32) (1000 : Int32) S c2.1 c2.2) gX3_setRule_X3_requireWithin rfl hdX3_requireWithin ⟨by decide, by decide⟩ rfl rfl (Nat.le_of_ble_eq_true rfl) ⟨Nat.zero_le _, Nat.zero_le _⟩ dX3_setRule_9 ?_
      refine xg_iload_n C dX3_setRule_12 rfl ?_
      refine xg_iload_n C dX3_setRule_13 rfl ?_
      refine xg_sipush C dX3_setRule_14 (v := (1000 : Int32)) (by decide) ?_
      by_cases c3 : ¬ a3 < a2 ∧ a3 ≤ (1000 : Int32)
      · refine xg_callSv C V (as := [.int a3, .int a2, .int (1000 : Int32)]) (fun l => kX3_requireWithin l hap a3 a2 (1000 : Int32) S c3.1 c3.2) gX3_setRule_X3_requireWithin rfl hdX3_requireWithin ⟨by decide, by decide⟩ rfl rfl (Nat.le_of_ble_eq_true rfl) ⟨Nat.zero_le _, Nat.zero_le _⟩ dX3_setRule_17 ?_
        refine xg_iload C dX3_setRule_20 rfl ?_
        refine xg_iconst C dX3_setRule_22 (v := (0 : Int32)) (by decide) ?_
        refine xg_sipush C dX3_setRule_23 (v := (1000 : Int32)) (by decide) ?_
        by_cases c4 : ¬ a4 < (0 : Int32) ∧ a4 ≤ (1000 : Int32)
        · refine xg_callSv C V (as := [.int a4, .int (0 : Int32), .int (1000 : Int32)]) (fun l => kX3_requireWithin l hap a4 (0 : Int32) (1000 : Int32) S c4.1 c4.2) gX3_setRule_X3_requireWithin rfl hdX3_requireWithin ⟨by decide, by decide⟩ rfl rfl (Nat.le_of_ble_eq_true rfl) ⟨Nat.zero_le _, Nat.zero_le _⟩ dX3_setRule_26 ?_
          refine xg_iload C dX3_setRule_29 rfl ?_
          refine xg_iconst C dX3_setRule_31 (v := (0 : Int32)) (by decide) ?_
          refine xg_bipush C dX3_setRule_32 (v := (100 : Int32)) (by decide) ?_
          by_cases c5 : ¬ a5 < (0 : Int32) ∧ a5 ≤ (100 : Int32)
          · refine xg_callSv C V (as := [.int a5, .int (0 : Int32), .int (100 : Int32)]) (fun l => kX3_requireWithin l hap a5 (0 : Int32) (100 : Int32) S c5.1 c5.2) gX3_setRule_X3_requireWithin rfl hdX3_requireWithin ⟨by decide, by decide⟩ rfl rfl (Nat.le_of_ble_eq_true rfl) ⟨Nat.zero_le _, Nat.zero_le _⟩ dX3_setRule_34 ?_
            refine xg_aload_n C dX3_setRule_37 rfl ?_
            exact absurd ⟨c1, c2, c3, c4, c5⟩ hbad
          · exact xg_callSx C V Z (as := [.int a5, .int (0 : Int32), .int (100 : Int32)]) (fun l hl => kxX3_requireWithin l hl hsz hap a5 (0 : Int32) (100 : Int32) S c5) gX3_setRule_X3_requireWithin rfl hdX3_requireWithin ⟨by decide, by decide⟩ rfl rfl (Nat.le_of_ble_eq_true rfl) ⟨rfl, rfl⟩ dX3_setRule_34
        · exact xg_callSx C V Z (as := [.int a4, .int (0 : Int32), .int (1000 : Int32)]) (fun l hl => kxX3_requireWithin l hl hsz hap a4 (0 : Int32) (1000 : Int32) S c4) gX3_setRule_X3_requireWithin rfl hdX3_requireWithin ⟨by decide, by decide⟩ rfl rfl (Nat.le_of_ble_eq_true rfl) ⟨rfl, rfl⟩ dX3_setRule_26
      · exact xg_callSx C V Z (as := [.int a3, .int a2, .int (1000 : Int32)]) (fun l hl => kxX3_requireWithin l hl hsz hap a3 a2 (1000 : Int32) S c3) gX3_setRule_X3_requireWithin rfl hdX3_requireWithin ⟨by decide, by decide⟩ rfl rfl (Nat.le_of_ble_eq_true rfl) ⟨rfl, rfl⟩ dX3_setRule_17
    · exact xg_callSx C V Z (as := [.int a2, .int (0 : Int32), .int (1000 : Int32)]) (fun l hl => kxX3_requireWithin l hl hsz hap a2 (0 : Int32) (1000 : Int32) S c2) gX3_setRule_X3_requireWithin rfl hdX3_requireWithin ⟨by decide, by decide⟩ rfl rfl (Nat.le_of_ble_eq_true rfl) ⟨rfl, rfl⟩ dX3_setRule_9
  · exact xg_callSx C V Z (as := [.int a1]) (fun l hl => kxX3_requireNumber l hl hsz hap a1 S c1) gX3_setRule_X3_requireNumber rfl hdX3_requireNumber ⟨by decide, by decide⟩ rfl rfl (Nat.le_of_ble_eq_true rfl) ⟨rfl, rfl⟩ dX3_setRule_1
set_option maxRecDepth 100000 in
set_option maxHeartbeats 4000000 in
theorem kxX3_byHand (l : Launch) (hl : l.stackTraces = false) {G : xG} {Sa : Nat → Nat} {sz : Nat} (hsz : ∀ a : Nat, xA xYc G a → sz ≤ a) (hap : xAp xYc G) (a1 : Int32) (a2 : Int32) (S : xS)  (hbad : ¬ (vp_in a1 8 ∧ (¬ a2 < (-1 : Int32) ∧ a2 ≤ (10 : Int32)))) : xMx l xYc G Sa sz yX3_byHand wsX3_byHand 8 132 [.ref (G.2.2 0 0), .int a1, .int a2] S xIA := by
  refine xMx_of (cc := cX3_byHand) (maxL := 4) (ret := (some .int)) (own := RX3) hl hsz [some (.ref (G.2.2 0 0)), some (.int a1), some (.int a2), none] pnX3 rfl rfl (xcat1 rfl) (Nat.le_of_ble_eq_true rfl) rfl hap (fun F C V Z => ?_)
  refine xg_iload_n C dX3_byHand_0 rfl ?_
  by_cases c1 : vp_in a1 8
  · refine xg_callSv C V (as := [.int a1]) (fun l => kX3_requireNumber l hap a1 S c1) gX3_byHand_X3_requireNumber rfl hdX3_requireNumber ⟨by decide, by decide⟩ rfl rfl (Nat.le_of_ble_eq_true rfl) ⟨Nat.zero_le _, Nat.zero_le _⟩ dX3_byHand_1 ?_
    refine xg_iload_n C dX3_byHand_4 rfl ?_
    refine xg_iconst C dX3_byHand_5 (v := (-1 : Int32)) (by decide) ?_
    refine xg_bipush C dX3_byHand_6 (v := (10 : Int32)) (by decide) ?_
    by_cases c2 : ¬ a2 < (-1 : Int32) ∧ a2 ≤ (10 : Int32)
    · refine xg_callSv C V (as := [.int a2, .int (-1 : Int32), .int (10 : Int32)]) (fun l => kX3_requireWithin l hap a2 (-1 : Int32) (10 : Int32) S c2.1 c2.2) gX3_byHand_X3_requireWithin rfl hdX3_requireWithin ⟨by decide, by decide⟩ rfl rfl (Nat.le_of_ble_eq_true rfl) ⟨Nat.zero_le _, Nat.zero_le _⟩ dX3_byHand_8 ?_
      refine xg_iload_n C dX3_byHand_11 rfl ?_
      refine xg_iconst C dX3_byHand_12 (v := (-1 : Int32)) (by decide) ?_
      exact absurd ⟨c1, c2⟩ hbad
    · exact xg_callSx C V Z (as := [.int a2, .int (-1 : Int32), .int (10 : Int32)]) (fun l hl => kxX3_requireWithin l hl hsz hap a2 (-1 : Int32) (10 : Int32) S c2) gX3_byHand_X3_requireWithin rfl hdX3_requireWithin ⟨by decide, by decide⟩ rfl rfl (Nat.le_of_ble_eq_true rfl) ⟨rfl, rfl⟩ dX3_byHand_8
  · exact xg_callSx C V Z (as := [.int a1]) (fun l hl => kxX3_requireNumber l hl hsz hap a1 S c1) gX3_byHand_X3_requireNumber rfl hdX3_requireNumber ⟨by decide, by decide⟩ rfl rfl (Nat.le_of_ble_eq_true rfl) ⟨rfl, rfl⟩ dX3_byHand_1
set_option maxRecDepth 100000 in
set_option maxHeartbeats 4000000 in
theorem kxX3_opening (l : Launch) (hl : l.stackTraces = false) {G : xG} {Sa : Nat → Nat} {sz : Nat} (hsz : ∀ a : Nat, xA xYc G a → sz ≤ a) (hap : xAp xYc G) (a1 : Int32) (S : xS)  (hbad : ¬ (vp_in a1 8)) : xMx l xYc G Sa sz yX3_opening wsX3_opening 8 132 [.ref (G.2.2 0 0), .int a1] S xIA := by
  refine xMx_of (cc := cX3_opening) (maxL := 2) (ret := (some .int)) (own := RX3) hl hsz [some (.ref (G.2.2 0 0)), some (.int a1)] pnX3 rfl rfl (xcat1 rfl) (Nat.le_of_ble_eq_true rfl) rfl hap (fun F C V Z => ?_)
  refine xg_iload_n C dX3_opening_0 rfl ?_
  by_cases c1 : vp_in a1 8
  · refine xg_callSv C V (as := [.int a1]) (fun l => kX3_requireNumber l hap a1 S c1) gX3_opening_X3_requireNumber rfl hdX3_requireNumber ⟨by decide, by decide⟩ rfl rfl (Nat.le_of_ble_eq_true rfl) ⟨Nat.zero_le _, Nat.zero_le _⟩ dX3_opening_1 ?_
    refine xg_aload_n C dX3_opening_4 rfl ?_
    exact absurd c1 hbad
  · exact xg_callSx C V Z (as := [.int a1]) (fun l hl => kxX3_requireNumber l hl hsz hap a1 S c1) gX3_opening_X3_requireNumber rfl hdX3_requireNumber ⟨by decide, by decide⟩ rfl rfl (Nat.le_of_ble_eq_true rfl) ⟨rfl, rfl⟩ dX3_opening_1
set_option maxRecDepth 100000 in
set_option maxHeartbeats 4000000 in
theorem kxX3_safety (l : Launch) (hl : l.stackTraces = false) {G : xG} {Sa : Nat → Nat} {sz : Nat} (hsz : ∀ a : Nat, xA xYc G a → sz ≤ a) (hap : xAp xYc G) (a1 : Int32) (S : xS)  (hbad : ¬ (vp_in a1 8)) : xMx l xYc G Sa sz yX3_safety wsX3_safety 8 132 [.ref (G.2.2 0 0), .int a1] S xIA := by
  refine xMx_of (cc := cX3_safety) (maxL := 2) (ret := (some .int)) (own := RX3) hl hsz [some (.ref (G.2.2 0 0)), some (.int a1)] pnX3 rfl rfl (xcat1 rfl) (Nat.le_of_ble_eq_true rfl) rfl hap (fun F C V Z => ?_)
  refine xg_iload_n C dX3_safety_0 rfl ?_
  by_cases c1 : vp_in a1 8
  · refine xg_callSv C V (as := [.int a1]) (fun l => kX3_requireNumber l hap a1 S c1) gX3_safety_X3_requireNumber rfl hdX3_requireNumber ⟨by decide, by decide⟩ rfl rfl (Nat.le_of_ble_eq_true rfl) ⟨Nat.zero_le _, Nat.zero_le _⟩ dX3_safety_1 ?_
    refine xg_aload_n C dX3_safety_4 rfl ?_
    exact absurd c1 hbad
  · exact xg_callSx C V Z (as := [.int a1]) (fun l hl => kxX3_requireNumber l hl hsz hap a1 S c1) gX3_safety_X3_requireNumber rfl hdX3_requireNumber ⟨by decide, by decide⟩ rfl rfl (Nat.le_of_ble_eq_true rfl) ⟨rfl, rfl⟩ dX3_safety_1
set_option maxRecDepth 100000 in
set_option maxHeartbeats 4000000 in
theorem kxX3_fall (l : Launch) (hl : l.stackTraces = false) {G : xG} {Sa : Nat → Nat} {sz : Nat} (hsz : ∀ a : Nat, xA xYc G a → sz ≤ a) (hap : xAp xYc G) (a1 : Int32) (S : xS)  (hbad : ¬ (vp_in a1 8)) : xMx l xYc G Sa sz yX3_fall wsX3_fall 8 132 [.ref (G.2.2 0 0), .int a1] S xIA := by
  refine xMx_of (cc := cX3_fall) (maxL := 2) (ret := none) (own := RX3) hl hsz [some (.ref (G.2.2 0 0)), some (.int a1)] pnX3 rfl rfl (xcat1 rfl) (Nat.le_of_ble_eq_true rfl) rfl hap (fun F C V Z => ?_)
  refine xg_iload_n C dX3_fall_0 rfl ?_
  by_cases c1 : vp_in a1 8
  · refine xg_callSv C V (as := [.int a1]) (fun l => kX3_requireNumber l hap a1 S c1) gX3_fall_X3_requireNumber rfl hdX3_requireNumber ⟨by decide, by decide⟩ rfl rfl (Nat.le_of_ble_eq_true rfl) ⟨Nat.zero_le _, Nat.zero_le _⟩ dX3_fall_1 ?_
    refine xg_aload_n C dX3_fall_4 rfl ?_
    exact absurd c1 hbad
  · exact xg_callSx C V Z (as := [.int a1]) (fun l hl => kxX3_requireNumber l hl hsz hap a1 S c1) gX3_fall_X3_requireNumber rfl hdX3_requireNumber ⟨by decide, by decide⟩ rfl rfl (Nat.le_of_ble_eq_true rfl) ⟨rfl, rfl⟩ dX3_fall_1
set_option maxRecDepth 100000 in
set_option maxHeartbeats 4000000 in
theorem kxX3_comeUp (l : Launch) (hl : l.stackTraces = false) {G : xG} {Sa : Nat → Nat} {sz : Nat} (hsz : ∀ a : Nat, xA xYc G a → sz ≤ a) (hap : xAp xYc G) (a1 : Int32) (S : xS)  (hbad : ¬ (vp_in a1 8)) : xMx l xYc G Sa sz yX3_comeUp wsX3_comeUp 8 132 [.ref (G.2.2 0 0), .int a1] S xIA := by
  refine xMx_of (cc := cX3_comeUp) (maxL := 2) (ret := none) (own := RX3) hl hsz [some (.ref (G.2.2 0 0)), some (.int a1)] pnX3 rfl rfl (xcat1 rfl) (Nat.le_of_ble_eq_true rfl) rfl hap (fun F C V Z => ?_)
  refine xg_iload_n C dX3_comeUp_0 rfl ?_
  by_cases c1 : vp_in a1 8
  · refine xg_callSv C V (as := [.int a1]) (fun l => kX3_requireNumber l hap a1 S c1) gX3_comeUp_X3_requireNumber rfl hdX3_requireNumber ⟨by decide, by decide⟩ rfl rfl (Nat.le_of_ble_eq_true rfl) ⟨Nat.zero_le _, Nat.zero_le _⟩ dX3_comeUp_1 ?_
    refine xg_aload_n C dX3_comeUp_4 rfl ?_
    exact absurd c1 hbad
  · exact xg_callSx C V Z (as := [.int a1]) (fun l hl => kxX3_requireNumber l hl hsz hap a1 S c1) gX3_comeUp_X3_requireNumber rfl hdX3_requireNumber ⟨by decide, by decide⟩ rfl rfl (Nat.le_of_ble_eq_true rfl) ⟨rfl, rfl⟩ dX3_comeUp_1
set_option maxRecDepth 100000 in
set_option maxHeartbeats 4000000 in
theorem kxX3_setGroup (l : Launch) (hl : l.stackTraces = false) {G : xG} {Sa : Nat → Nat} {sz : Nat} (hsz : ∀ a : Nat, xA xYc G a → sz ≤ a) (hap : xAp xYc G) (a1 : Int32) (a2 : Int32) (S : xS)  (hbad : ¬ (vp_in a1 8 ∧ (¬ a2 < (0 : Int32) ∧ a2 ≤ (3 : Int32)))) : xMx l xYc G Sa sz yX3_setGroup wsX3_setGroup 8 132 [.ref (G.2.2 0 0), .int a1, .int a2] S xIA := by
  refine xMx_of (cc := cX3_setGroup) (maxL := 4) (ret := (some .int)) (own := RX3) hl hsz [some (.ref (G.2.2 0 0)), some (.int a1), some (.int a2), none] pnX3 rfl rfl (xcat1 rfl) (Nat.le_of_ble_eq_true rfl) rfl hap (fun F C V Z => ?_)
  refine xg_iload_n C dX3_setGroup_0 rfl ?_
  by_cases c1 : vp_in a1 8
  · refine xg_callSv C V (as := [.int a1]) (fun l => kX3_requireNumber l hap a1 S c1) gX3_setGroup_X3_requireNumber rfl hdX3_requireNumber ⟨by decide, by decide⟩ rfl rfl (Nat.le_of_ble_eq_true rfl) ⟨Nat.zero_le _, Nat.zero_le _⟩ dX3_setGroup_1 ?_
    refine xg_iload_n C dX3_setGroup_4 rfl ?_
    refine xg_iconst C dX3_setGroup_5 (v := (0 : Int32)) (by decide) ?_
    refine xg_iconst C dX3_setGroup_6 (v := (3 : Int32)) (by decide) ?_
    by_cases c2 : ¬ a2 < (0 : Int32) ∧ a2 ≤ (3 : Int32)
    · refine xg_callSv C V (as := [.int a2, .int (0 : Int32), .int (3 : Int32)]) (fun l => kX3_requireWithin l hap a2 (0 : Int32) (3 : Int32) S c2.1 c2.2) gX3_setGroup_X3_requireWithin rfl hdX3_requireWithin ⟨by decide, by decide⟩ rfl rfl (Nat.le_of_ble_eq_true rfl) ⟨Nat.zero_le _, Nat.zero_le _⟩ dX3_setGroup_7 ?_
      refine xg_aload_n C dX3_setGroup_10 rfl ?_
      exact absurd ⟨c1, c2⟩ hbad
    · exact xg_callSx C V Z (as := [.int a2, .int (0 : Int32), .int (3 : Int32)]) (fun l hl => kxX3_requireWithin l hl hsz hap a2 (0 : Int32) (3 : Int32) S c2) gX3_setGroup_X3_requireWithin rfl hdX3_requireWithin ⟨by decide, by decide⟩ rfl rfl (Nat.le_of_ble_eq_true rfl) ⟨rfl, rfl⟩ dX3_setGroup_7
  · exact xg_callSx C V Z (as := [.int a1]) (fun l hl => kxX3_requireNumber l hl hsz hap a1 S c1) gX3_setGroup_X3_requireNumber rfl hdX3_requireNumber ⟨by decide, by decide⟩ rfl rfl (Nat.le_of_ble_eq_true rfl) ⟨rfl, rfl⟩ dX3_setGroup_1
set_option maxRecDepth 100000 in
set_option maxHeartbeats 4000000 in
theorem kxX3_setStuck (l : Launch) (hl : l.stackTraces = false) {G : xG} {Sa : Nat → Nat} {sz : Nat} (hsz : ∀ a : Nat, xA xYc G a → sz ≤ a) (hap : xAp xYc G) (a1 : Int32) (a2 : Int32) (S : xS)  (hbad : ¬ (vp_in a1 8)) : xMx l xYc G Sa sz yX3_setStuck wsX3_setStuck 8 132 [.ref (G.2.2 0 0), .int a1, .int a2] S xIA := by
  refine xMx_of (cc := cX3_setStuck) (maxL := 4) (ret := (some .boolean)) (own := RX3) hl hsz [some (.ref (G.2.2 0 0)), some (.int a1), some (.int a2), none] pnX3 rfl rfl (xcat1 rfl) (Nat.le_of_ble_eq_true rfl) rfl hap (fun F C V Z => ?_)
  refine xg_iload_n C dX3_setStuck_0 rfl ?_
  by_cases c1 : vp_in a1 8
  · refine xg_callSv C V (as := [.int a1]) (fun l => kX3_requireNumber l hap a1 S c1) gX3_setStuck_X3_requireNumber rfl hdX3_requireNumber ⟨by decide, by decide⟩ rfl rfl (Nat.le_of_ble_eq_true rfl) ⟨Nat.zero_le _, Nat.zero_le _⟩ dX3_setStuck_1 ?_
    refine xg_aload_n C dX3_setStuck_4 rfl ?_
    exact absurd c1 hbad
  · exact xg_callSx C V Z (as := [.int a1]) (fun l hl => kxX3_requireNumber l hl hsz hap a1 S c1) gX3_setStuck_X3_requireNumber rfl hdX3_requireNumber ⟨by decide, by decide⟩ rfl rfl (Nat.le_of_ble_eq_true rfl) ⟨rfl, rfl⟩ dX3_setStuck_1
set_option maxRecDepth 100000 in
set_option maxHeartbeats 4000000 in
theorem kxX3_setTimes (l : Launch) (hl : l.stackTraces = false) {G : xG} {Sa : Nat → Nat} {sz : Nat} (hsz : ∀ a : Nat, xA xYc G a → sz ≤ a) (hap : xAp xYc G) (a1 : Int32) (a2 : Int32) (S : xS)  (hbad : ¬ ((¬ a1 < (1 : Int32) ∧ a1 ≤ (50 : Int32)) ∧ (¬ a2 < a1 ∧ a2 ≤ (100 : Int32)))) : xMx l xYc G Sa sz yX3_setTimes wsX3_setTimes 7 112 [.ref (G.2.2 0 0), .int a1, .int a2] S xIA := by
  refine xMx_of (cc := cX3_setTimes) (maxL := 3) (ret := none) (own := RX3) hl hsz [some (.ref (G.2.2 0 0)), some (.int a1), some (.int a2)] pnX3 rfl rfl (xcat1 rfl) (Nat.le_of_ble_eq_true rfl) rfl hap (fun F C V Z => ?_)
  refine xg_iload_n C dX3_setTimes_0 rfl ?_
  refine xg_iconst C dX3_setTimes_1 (v := (1 : Int32)) (by decide) ?_
  refine xg_bipush C dX3_setTimes_2 (v := (50 : Int32)) (by decide) ?_
  by_cases c1 : ¬ a1 < (1 : Int32) ∧ a1 ≤ (50 : Int32)
  · refine xg_callSv C V (as := [.int a1, .int (1 : Int32), .int (50 : Int32)]) (fun l => kX3_requireWithin l hap a1 (1 : Int32) (50 : Int32) S c1.1 c1.2) gX3_setTimes_X3_requireWithin rfl hdX3_requireWithin ⟨by decide, by decide⟩ rfl rfl (Nat.le_of_ble_eq_true rfl) ⟨Nat.zero_le _, Nat.zero_le _⟩ dX3_setTimes_4 ?_
    refine xg_iload_n C dX3_setTimes_7 rfl ?_
    refine xg_iload_n C dX3_setTimes_8 rfl ?_
    refine xg_bipush C dX3_setTimes_9 (v := (100 : Int32)) (by decide) ?_
    by_cases c2 : ¬ a2 < a1 ∧ a2 ≤ (100 : Int32)
    · refine xg_callSv C V (as := [.int a2, .int a1, .int (100 : Int32)]) (fun l => kX3_requireWithin l hap a2 a1 (100 : Int32) S c2.1 c2.2) gX3_setTimes_X3_requireWithin rfl hdX3_requireWithin ⟨by decide, by decide⟩ rfl rfl (Nat.le_of_ble_eq_true rfl) ⟨Nat.zero_le _, Nat.zero_le _⟩ dX3_setTimes_11 ?_
      refine xg_aload_n C dX3_setTimes_14 rfl ?_
      exact absurd ⟨c1, c2⟩ hbad
    · exact xg_callSx C V Z (as := [.int a2, .int a1, .int (100 : Int32)]) (fun l hl => kxX3_requireWithin l hl hsz hap a2 a1 (100 : Int32) S c2) gX3_setTimes_X3_requireWithin rfl hdX3_requireWithin ⟨by decide, by decide⟩ rfl rfl (Nat.le_of_ble_eq_true rfl) ⟨rfl, rfl⟩ dX3_setTimes_11
  · exact xg_callSx C V Z (as := [.int a1, .int (1 : Int32), .int (50 : Int32)]) (fun l hl => kxX3_requireWithin l hl hsz hap a1 (1 : Int32) (50 : Int32) S c1) gX3_setTimes_X3_requireWithin rfl hdX3_requireWithin ⟨by decide, by decide⟩ rfl rfl (Nat.le_of_ble_eq_true rfl) ⟨rfl, rfl⟩ dX3_setTimes_4
set_option maxRecDepth 100000 in
set_option maxHeartbeats 4000000 in
theorem kxX3_believed (l : Launch) (hl : l.stackTraces = false) {G : xG} {Sa : Nat → Nat} {sz : Nat} (hsz : ∀ a : Nat, xA xYc G a → sz ≤ a) (hap : xAp xYc G) (a1 : Int32) (a2 : Int32) (S : xS)  (hbad : ¬ (vp_in a1 8 ∧ vp_in a2 8)) : xMx l xYc G Sa sz yX3_believed wsX3_believed 8 132 [.ref (G.2.2 0 0), .int a1, .int a2] S xIA := by
  refine xMx_of (cc := cX3_believed) (maxL := 3) (ret := (some .int)) (own := RX3) hl hsz [some (.ref (G.2.2 0 0)), some (.int a1), some (.int a2)] pnX3 rfl rfl (xcat1 rfl) (Nat.le_of_ble_eq_true rfl) rfl hap (fun F C V Z => ?_)
  refine xg_iload_n C dX3_believed_0 rfl ?_
  by_cases c1 : vp_in a1 8
  · refine xg_callSv C V (as := [.int a1]) (fun l => kX3_requireNumber l hap a1 S c1) gX3_believed_X3_requireNumber rfl hdX3_requireNumber ⟨by decide, by decide⟩ rfl rfl (Nat.le_of_ble_eq_true rfl) ⟨Nat.zero_le _, Nat.zero_le _⟩ dX3_believed_1 ?_
    refine xg_iload_n C dX3_believed_4 rfl ?_
    by_cases c2 : vp_in a2 8
    · refine xg_callSv C V (as := [.int a2]) (fun l => kX3_requireNumber l hap a2 S c2) gX3_believed_X3_requireNumber rfl hdX3_requireNumber ⟨by decide, by decide⟩ rfl rfl (Nat.le_of_ble_eq_true rfl) ⟨Nat.zero_le _, Nat.zero_le _⟩ dX3_believed_5 ?_
      refine xg_aload_n C dX3_believed_8 rfl ?_
      exact absurd ⟨c1, c2⟩ hbad
    · exact xg_callSx C V Z (as := [.int a2]) (fun l hl => kxX3_requireNumber l hl hsz hap a2 S c2) gX3_believed_X3_requireNumber rfl hdX3_requireNumber ⟨by decide, by decide⟩ rfl rfl (Nat.le_of_ble_eq_true rfl) ⟨rfl, rfl⟩ dX3_believed_5
  · exact xg_callSx C V Z (as := [.int a1]) (fun l hl => kxX3_requireNumber l hl hsz hap a1 S c1) gX3_believed_X3_requireNumber rfl hdX3_requireNumber ⟨by decide, by decide⟩ rfl rfl (Nat.le_of_ble_eq_true rfl) ⟨rfl, rfl⟩ dX3_believed_1
set_option maxRecDepth 100000 in
set_option maxHeartbeats 4000000 in
theorem kxX3_version (l : Launch) (hl : l.stackTraces = false) {G : xG} {Sa : Nat → Nat} {sz : Nat} (hsz : ∀ a : Nat, xA xYc G a → sz ≤ a) (hap : xAp xYc G) (a1 : Int32) (a2 : Int32) (S : xS)  (hbad : ¬ (vp_in a1 8 ∧ vp_in a2 8)) : xMx l xYc G Sa sz yX3_version wsX3_version 8 132 [.ref (G.2.2 0 0), .int a1, .int a2] S xIA := by
  refine xMx_of (cc := cX3_version) (maxL := 3) (ret := (some .int)) (own := RX3) hl hsz [some (.ref (G.2.2 0 0)), some (.int a1), some (.int a2)] pnX3 rfl rfl (xcat1 rfl) (Nat.le_of_ble_eq_true rfl) rfl hap (fun F C V Z => ?_)
  refine xg_iload_n C dX3_version_0 rfl ?_
  by_cases c1 : vp_in a1 8
  · refine xg_callSv C V (as := [.int a1]) (fun l => kX3_requireNumber l hap a1 S c1) gX3_version_X3_requireNumber rfl hdX3_requireNumber ⟨by decide, by decide⟩ rfl rfl (Nat.le_of_ble_eq_true rfl) ⟨Nat.zero_le _, Nat.zero_le _⟩ dX3_version_1 ?_
    refine xg_iload_n C dX3_version_4 rfl ?_
    by_cases c2 : vp_in a2 8
    · refine xg_callSv C V (as := [.int a2]) (fun l => kX3_requireNumber l hap a2 S c2) gX3_version_X3_requireNumber rfl hdX3_requireNumber ⟨by decide, by decide⟩ rfl rfl (Nat.le_of_ble_eq_true rfl) ⟨Nat.zero_le _, Nat.zero_le _⟩ dX3_version_5 ?_
      refine xg_aload_n C dX3_version_8 rfl ?_
      exact absurd ⟨c1, c2⟩ hbad
    · exact xg_callSx C V Z (as := [.int a2]) (fun l hl => kxX3_requireNumber l hl hsz hap a2 S c2) gX3_version_X3_requireNumber rfl hdX3_requireNumber ⟨by decide, by decide⟩ rfl rfl (Nat.le_of_ble_eq_true rfl) ⟨rfl, rfl⟩ dX3_version_5
  · exact xg_callSx C V Z (as := [.int a1]) (fun l hl => kxX3_requireNumber l hl hsz hap a1 S c1) gX3_version_X3_requireNumber rfl hdX3_requireNumber ⟨by decide, by decide⟩ rfl rfl (Nat.le_of_ble_eq_true rfl) ⟨rfl, rfl⟩ dX3_version_1
set_option maxRecDepth 100000 in
set_option maxHeartbeats 4000000 in
theorem kxX3_age (l : Launch) (hl : l.stackTraces = false) {G : xG} {Sa : Nat → Nat} {sz : Nat} (hsz : ∀ a : Nat, xA xYc G a → sz ≤ a) (hap : xAp xYc G) (a1 : Int32) (a2 : Int32) (S : xS)  (hbad : ¬ (vp_in a1 8 ∧ vp_in a2 8)) : xMx l xYc G Sa sz yX3_age wsX3_age 8 132 [.ref (G.2.2 0 0), .int a1, .int a2] S xIA := by
  refine xMx_of (cc := cX3_age) (maxL := 3) (ret := (some .int)) (own := RX3) hl hsz [some (.ref (G.2.2 0 0)), some (.int a1), some (.int a2)] pnX3 rfl rfl (xcat1 rfl) (Nat.le_of_ble_eq_true rfl) rfl hap (fun F C V Z => ?_)
  refine xg_iload_n C dX3_age_0 rfl ?_
  by_cases c1 : vp_in a1 8
  · refine xg_callSv C V (as := [.int a1]) (fun l => kX3_requireNumber l hap a1 S c1) gX3_age_X3_requireNumber rfl hdX3_requireNumber ⟨by decide, by decide⟩ rfl rfl (Nat.le_of_ble_eq_true rfl) ⟨Nat.zero_le _, Nat.zero_le _⟩ dX3_age_1 ?_
    refine xg_iload_n C dX3_age_4 rfl ?_
    by_cases c2 : vp_in a2 8
    · refine xg_callSv C V (as := [.int a2]) (fun l => kX3_requireNumber l hap a2 S c2) gX3_age_X3_requireNumber rfl hdX3_requireNumber ⟨by decide, by decide⟩ rfl rfl (Nat.le_of_ble_eq_true rfl) ⟨Nat.zero_le _, Nat.zero_le _⟩ dX3_age_5 ?_
      refine xg_aload_n C dX3_age_8 rfl ?_
      exact absurd ⟨c1, c2⟩ hbad
    · exact xg_callSx C V Z (as := [.int a2]) (fun l hl => kxX3_requireNumber l hl hsz hap a2 S c2) gX3_age_X3_requireNumber rfl hdX3_requireNumber ⟨by decide, by decide⟩ rfl rfl (Nat.le_of_ble_eq_true rfl) ⟨rfl, rfl⟩ dX3_age_5
  · exact xg_callSx C V Z (as := [.int a1]) (fun l hl => kxX3_requireNumber l hl hsz hap a1 S c1) gX3_age_X3_requireNumber rfl hdX3_requireNumber ⟨by decide, by decide⟩ rfl rfl (Nat.le_of_ble_eq_true rfl) ⟨rfl, rfl⟩ dX3_age_1
set_option maxRecDepth 100000 in
set_option maxHeartbeats 4000000 in
theorem kxX3_beat (l : Launch) (hl : l.stackTraces = false) {G : xG} {Sa : Nat → Nat} {sz : Nat} (hsz : ∀ a : Nat, xA xYc G a → sz ≤ a) (hap : xAp xYc G) (a1 : Int32) (a2 : Int32) (S : xS)  (hbad : ¬ (vp_in a1 8 ∧ vp_in a2 8)) : xMx l xYc G Sa sz yX3_beat wsX3_beat 8 132 [.ref (G.2.2 0 0), .int a1, .int a2] S xIA := by
  refine xMx_of (cc := cX3_beat) (maxL := 3) (ret := (some .int)) (own := RX3) hl hsz [some (.ref (G.2.2 0 0)), some (.int a1), some (.int a2)] pnX3 rfl rfl (xcat1 rfl) (Nat.le_of_ble_eq_true rfl) rfl hap (fun F C V Z => ?_)
  refine xg_iload_n C dX3_beat_0 rfl ?_
  by_cases c1 : vp_in a1 8
  · refine xg_callSv C V (as := [.int a1]) (fun l => kX3_requireNumber l hap a1 S c1) gX3_beat_X3_requireNumber rfl hdX3_requireNumber ⟨by decide, by decide⟩ rfl rfl (Nat.le_of_ble_eq_true rfl) ⟨Nat.zero_le _, Nat.zero_le _⟩ dX3_beat_1 ?_
    refine xg_iload_n C dX3_beat_4 rfl ?_
    by_cases c2 : vp_in a2 8
    · refine xg_callSv C V (as := [.int a2]) (fun l => kX3_requireNumber l hap a2 S c2) gX3_beat_X3_requireNumber rfl hdX3_requireNumber ⟨by decide, by decide⟩ rfl rfl (Nat.le_of_ble_eq_true rfl) ⟨Nat.zero_le _, Nat.zero_le _⟩ dX3_beat_5 ?_
      refine xg_aload_n C dX3_beat_8 rfl ?_
      exact absurd ⟨c1, c2⟩ hbad
    · exact xg_callSx C V Z (as := [.int a2]) (fun l hl => kxX3_requireNumber l hl hsz hap a2 S c2) gX3_beat_X3_requireNumber rfl hdX3_requireNumber ⟨by decide, by decide⟩ rfl rfl (Nat.le_of_ble_eq_true rfl) ⟨rfl, rfl⟩ dX3_beat_5
  · exact xg_callSx C V Z (as := [.int a1]) (fun l hl => kxX3_requireNumber l hl hsz hap a1 S c1) gX3_beat_X3_requireNumber rfl hdX3_requireNumber ⟨by decide, by decide⟩ rfl rfl (Nat.le_of_ble_eq_true rfl) ⟨rfl, rfl⟩ dX3_beat_1
set_option maxRecDepth 100000 in
set_option maxHeartbeats 4000000 in
theorem kxX3_status (l : Launch) (hl : l.stackTraces = false) {G : xG} {Sa : Nat → Nat} {sz : Nat} (hsz : ∀ a : Nat, xA xYc G a → sz ≤ a) (hap : xAp xYc G) (a1 : Int32) (a2 : Int32) (S : xS)  (hbad : ¬ (vp_in a1 8 ∧ vp_in a2 8)) : xMx l xYc G Sa sz yX3_status wsX3_status 8 132 [.ref (G.2.2 0 0), .int a1, .int a2] S xIA := by
  refine xMx_of (cc := cX3_status) (maxL := 3) (ret := (some .int)) (own := RX3) hl hsz [some (.ref (G.2.2 0 0)), some (.int a1), some (.int a2)] pnX3 rfl rfl (xcat1 rfl) (Nat.le_of_ble_eq_true rfl) rfl hap (fun F C V Z => ?_)
  refine xg_iload_n C dX3_status_0 rfl ?_
  by_cases c1 : vp_in a1 8
  · refine xg_callSv C V (as := [.int a1]) (fun l => kX3_requireNumber l hap a1 S c1) gX3_status_X3_requireNumber rfl hdX3_requireNumber ⟨by decide, by decide⟩ rfl rfl (Nat.le_of_ble_eq_true rfl) ⟨Nat.zero_le _, Nat.zero_le _⟩ dX3_status_1 ?_
    refine xg_iload_n C dX3_status_4 rfl ?_
    by_cases c2 : vp_in a2 8
    · refine xg_callSv C V (as := [.int a2]) (fun l => kX3_requireNumber l hap a2 S c2) gX3_status_X3_requireNumber rfl hdX3_requireNumber ⟨by decide, by decide⟩ rfl rfl (Nat.le_of_ble_eq_true rfl) ⟨Nat.zero_le _, Nat.zero_le _⟩ dX3_status_5 ?_
      refine xg_aload_n C dX3_status_8 rfl ?_
      exact absurd ⟨c1, c2⟩ hbad
    · exact xg_callSx C V Z (as := [.int a2]) (fun l hl => kxX3_requireNumber l hl hsz hap a2 S c2) gX3_status_X3_requireNumber rfl hdX3_requireNumber ⟨by decide, by decide⟩ rfl rfl (Nat.le_of_ble_eq_true rfl) ⟨rfl, rfl⟩ dX3_status_5
  · exact xg_callSx C V Z (as := [.int a1]) (fun l hl => kxX3_requireNumber l hl hsz hap a1 S c1) gX3_status_X3_requireNumber rfl hdX3_requireNumber ⟨by decide, by decide⟩ rfl rfl (Nat.le_of_ble_eq_true rfl) ⟨rfl, rfl⟩ dX3_status_1
set_option maxRecDepth 100000 in
set_option maxHeartbeats 4000000 in
theorem kxX3_partner (l : Launch) (hl : l.stackTraces = false) {G : xG} {Sa : Nat → Nat} {sz : Nat} (hsz : ∀ a : Nat, xA xYc G a → sz ≤ a) (hap : xAp xYc G) (a1 : Int32) (S : xS)  (hbad : ¬ (vp_in a1 8)) : xMx l xYc G Sa sz yX3_partner wsX3_partner 8 132 [.ref (G.2.2 0 0), .int a1] S xIA := by
  refine xMx_of (cc := cX3_partner) (maxL := 2) (ret := (some .int)) (own := RX3) hl hsz [some (.ref (G.2.2 0 0)), some (.int a1)] pnX3 rfl rfl (xcat1 rfl) (Nat.le_of_ble_eq_true rfl) rfl hap (fun F C V Z => ?_)
  refine xg_iload_n C dX3_partner_0 rfl ?_
  by_cases c1 : vp_in a1 8
  · refine xg_callSv C V (as := [.int a1]) (fun l => kX3_requireNumber l hap a1 S c1) gX3_partner_X3_requireNumber rfl hdX3_requireNumber ⟨by decide, by decide⟩ rfl rfl (Nat.le_of_ble_eq_true rfl) ⟨Nat.zero_le _, Nat.zero_le _⟩ dX3_partner_1 ?_
    refine xg_aload_n C dX3_partner_4 rfl ?_
    exact absurd c1 hbad
  · exact xg_callSx C V Z (as := [.int a1]) (fun l hl => kxX3_requireNumber l hl hsz hap a1 S c1) gX3_partner_X3_requireNumber rfl hdX3_requireNumber ⟨by decide, by decide⟩ rfl rfl (Nat.le_of_ble_eq_true rfl) ⟨rfl, rfl⟩ dX3_partner_1
set_option maxRecDepth 100000 in
set_option maxHeartbeats 4000000 in
theorem kxX3_freshest (l : Launch) (hl : l.stackTraces = false) {G : xG} {Sa : Nat → Nat} {sz : Nat} (hsz : ∀ a : Nat, xA xYc G a → sz ≤ a) (hap : xAp xYc G) (a1 : Int32) (S : xS)  (hbad : ¬ (vp_in a1 8)) : xMx l xYc G Sa sz yX3_freshest wsX3_freshest 8 132 [.ref (G.2.2 0 0), .int a1] S xIA := by
  refine xMx_of (cc := cX3_freshest) (maxL := 2) (ret := (some .int)) (own := RX3) hl hsz [some (.ref (G.2.2 0 0)), some (.int a1)] pnX3 rfl rfl (xcat1 rfl) (Nat.le_of_ble_eq_true rfl) rfl hap (fun F C V Z => ?_)
  refine xg_iload_n C dX3_freshest_0 rfl ?_
  by_cases c1 : vp_in a1 8
  · refine xg_callSv C V (as := [.int a1]) (fun l => kX3_requireNumber l hap a1 S c1) gX3_freshest_X3_requireNumber rfl hdX3_requireNumber ⟨by decide, by decide⟩ rfl rfl (Nat.le_of_ble_eq_true rfl) ⟨Nat.zero_le _, Nat.zero_le _⟩ dX3_freshest_1 ?_
    refine xg_aload_n C dX3_freshest_4 rfl ?_
    exact absurd c1 hbad
  · exact xg_callSx C V Z (as := [.int a1]) (fun l hl => kxX3_requireNumber l hl hsz hap a1 S c1) gX3_freshest_X3_requireNumber rfl hdX3_requireNumber ⟨by decide, by decide⟩ rfl rfl (Nat.le_of_ble_eq_true rfl) ⟨rfl, rfl⟩ dX3_freshest_1
set_option maxRecDepth 100000 in
set_option maxHeartbeats 4000000 in
theorem kxX3_agree (l : Launch) (hl : l.stackTraces = false) {G : xG} {Sa : Nat → Nat} {sz : Nat} (hsz : ∀ a : Nat, xA xYc G a → sz ≤ a) (hap : xAp xYc G) (a1 : Int32) (S : xS)  (hbad : ¬ (vp_in a1 8)) : xMx l xYc G Sa sz yX3_agree wsX3_agree 8 132 [.ref (G.2.2 0 0), .int a1] S xIA := by
  refine xMx_of (cc := cX3_agree) (maxL := 2) (ret := (some .int)) (own := RX3) hl hsz [some (.ref (G.2.2 0 0)), some (.int a1)] pnX3 rfl rfl (xcat1 rfl) (Nat.le_of_ble_eq_true rfl) rfl hap (fun F C V Z => ?_)
  refine xg_iload_n C dX3_agree_0 rfl ?_
  by_cases c1 : vp_in a1 8
  · refine xg_callSv C V (as := [.int a1]) (fun l => kX3_requireNumber l hap a1 S c1) gX3_agree_X3_requireNumber rfl hdX3_requireNumber ⟨by decide, by decide⟩ rfl rfl (Nat.le_of_ble_eq_true rfl) ⟨Nat.zero_le _, Nat.zero_le _⟩ dX3_agree_1 ?_
    refine xg_aload_n C dX3_agree_4 rfl ?_
    exact absurd c1 hbad
  · exact xg_callSx C V Z (as := [.int a1]) (fun l hl => kxX3_requireNumber l hl hsz hap a1 S c1) gX3_agree_X3_requireNumber rfl hdX3_requireNumber ⟨by decide, by decide⟩ rfl rfl (Nat.le_of_ble_eq_true rfl) ⟨rfl, rfl⟩ dX3_agree_1
set_option maxRecDepth 100000 in
set_option maxHeartbeats 4000000 in
theorem kxX3_tick (l : Launch) (hl : l.stackTraces = false) {G : xG} {Sa : Nat → Nat} {sz : Nat} (hsz : ∀ a : Nat, xA xYc G a → sz ≤ a) (hap : xAp xYc G) (a1 : Int32) (S : xS)  (hbad : ¬ ((¬ a1 < (1 : Int32) ∧ a1 ≤ (100 : Int32)))) : xMx l xYc G Sa sz yX3_tick wsX3_tick 7 112 [.ref (G.2.2 0 0), .int a1] S xIA := by
  refine xMx_of (cc := cX3_tick) (maxL := 4) (ret := (some .int)) (own := RX3) hl hsz [some (.ref (G.2.2 0 0)), some (.int a1), none, none] pnX3 rfl rfl (xcat1 rfl) (Nat.le_of_ble_eq_true rfl) rfl hap (fun F C V Z => ?_)
  refine xg_iload_n C dX3_tick_0 rfl ?_
  refine xg_iconst C dX3_tick_1 (v := (1 : Int32)) (by decide) ?_
  refine xg_bipush C dX3_tick_2 (v := (100 : Int32)) (by decide) ?_
  by_cases c1 : ¬ a1 < (1 : Int32) ∧ a1 ≤ (100 : Int32)
  · refine xg_callSv C V (as := [.int a1, .int (1 : Int32), .int (100 : Int32)]) (fun l => kX3_requireWithin l hap a1 (1 : Int32) (100 : Int32) S c1.1 c1.2) gX3_tick_X3_requireWithin rfl hdX3_requireWithin ⟨by decide, by decide⟩ rfl rfl (Nat.le_of_ble_eq_true rfl) ⟨Nat.zero_le _, Nat.zero_le _⟩ dX3_tick_4 ?_
    refine xg_aload_n C dX3_tick_7 rfl ?_
    exact absurd c1 hbad
  · exact xg_callSx C V Z (as := [.int a1, .int (1 : Int32), .int (100 : Int32)]) (fun l hl => kxX3_requireWithin l hl hsz hap a1 (1 : Int32) (100 : Int32) S c1) gX3_tick_X3_requireWithin rfl hdX3_requireWithin ⟨by decide, by decide⟩ rfl rfl (Nat.le_of_ble_eq_true rfl) ⟨rfl, rfl⟩ dX3_tick_4
set_option maxRecDepth 100000 in
set_option maxHeartbeats 4000000 in
theorem kyX3_byHand (l : Launch) (hl : l.stackTraces = false) {G : xG} {Sa : Nat → Nat} {sz : Nat} (hsz : ∀ a : Nat, xA xYc G a → sz ≤ a) (hap : xAp xYc G) (a1 : Int32) (a2 : Int32) (S : xS) (g_a1 : vp_in a1 8) (v1 : ¬ a2 < (-1 : Int32)) (w1 : a2 ≤ (10 : Int32)) (ha : a2 = (-1 : Int32)) (hc : S 18 0 a1 = (0 : Int32)) : xMx l xYc G Sa sz yX3_byHand wsX3_byHand 6 90 [.ref (G.2.2 0 0), .int a1, .int a2] S xIS := by
  refine xMx_of (cc := cX3_byHand) (maxL := 4) (ret := (some .int)) (own := RX3) hl hsz [some (.ref (G.2.2 0 0)), some (.int a1), some (.int a2), none] pnX3 rfl rfl (xcat1 rfl) (Nat.le_of_ble_eq_true rfl) rfl hap (fun F C V Z => ?_)
  refine xg_iload_n C dX3_byHand_0 rfl ?_
  refine xg_callSv C V (as := [.int a1]) (fun l => kX3_requireNumber l hap a1 S (by assumption)) gX3_byHand_X3_requireNumber rfl hdX3_requireNumber ⟨by decide, by decide⟩ rfl rfl (Nat.le_of_ble_eq_true rfl) ⟨Nat.zero_le _, Nat.zero_le _⟩ dX3_byHand_1 ?_
  refine xg_iload_n C dX3_byHand_4 rfl ?_
  refine xg_iconst C dX3_byHand_5 (v := (-1 : Int32)) (by decide) ?_
  refine xg_bipush C dX3_byHand_6 (v := (10 : Int32)) (by decide) ?_
  refine xg_callSv C V (as := [.int a2, .int (-1 : Int32), .int (10 : Int32)]) (fun l => kX3_requireWithin l hap a2 (-1 : Int32) (10 : Int32) S (by first | assumption | exact xnum1 (by assumption)) (by first | assumption | exact xnum2 (by assumption))) gX3_byHand_X3_requireWithin rfl hdX3_requireWithin ⟨by decide, by decide⟩ rfl rfl (Nat.le_of_ble_eq_true rfl) ⟨Nat.zero_le _, Nat.zero_le _⟩ dX3_byHand_8 ?_
  refine xg_iload_n C dX3_byHand_11 rfl ?_
  refine xg_iconst C dX3_byHand_12 (v := (-1 : Int32)) (by decide) ?_
  refine xg_icmp_ne C 38 dX3_byHand_13 (by decide) (fun h1 => by contradiction) (fun h1 => ?_)
  refine xg_aload_n C dX3_byHand_16 rfl ?_
  refine xg_getR C V (f := 0) qX3_byHand_19 rfl rfl rfl dX3_byHand_17 ?_
  refine xg_getR C V (f := 2) qX3_byHand_86 rfl rfl rfl dX3_byHand_20 ?_
  refine xg_iload_n C dX3_byHand_23 rfl ?_
  refine xg_zald C V (f := 18) (n := 1) (N := 8) rfl (by decide) (xR_0 (by decide)) (by assumption) dX3_byHand_24 (v := (S 18 0 a1)) rfl ?_
  refine xg_if_ne C 38 dX3_byHand_25 (by decide) (fun h2 => by contradiction) (fun h2 => ?_)
  exact xg_throwS C Z (ik := 90) (is := 92) (ic := 94) (i := 1) fitIS fitU (List.mem_of_getElem? (i := 1) rfl) (List.mem_of_getElem? (i := 2) rfl) (fun s h => h.2.2.1.2.1) (by decide +kernel) (fun w h => List.mem_append_right _ h) goodIS (by decide) (Nat.le_of_ble_eq_true rfl) ⟨Nat.le_refl _, Nat.le_refl _⟩ dX3_byHand_28 dX3_byHand_31 dX3_byHand_32 dX3_byHand_34 dX3_byHand_37
set_option maxRecDepth 100000 in
set_option maxHeartbeats 4000000 in
theorem kyX3_fall (l : Launch) (hl : l.stackTraces = false) {G : xG} {Sa : Nat → Nat} {sz : Nat} (hsz : ∀ a : Nat, xA xYc G a → sz ≤ a) (hap : xAp xYc G) (a1 : Int32) (S : xS) (g_a1 : vp_in a1 8) (hd : ¬ S 19 0 a1 = (0 : Int32)) : xMx l xYc G Sa sz yX3_fall wsX3_fall 6 90 [.ref (G.2.2 0 0), .int a1] S xIS := by
  refine xMx_of (cc := cX3_fall) (maxL := 2) (ret := none) (own := RX3) hl hsz [some (.ref (G.2.2 0 0)), some (.int a1)] pnX3 rfl rfl (xcat1 rfl) (Nat.le_of_ble_eq_true rfl) rfl hap (fun F C V Z => ?_)
  refine xg_iload_n C dX3_fall_0 rfl ?_
  refine xg_callSv C V (as := [.int a1]) (fun l => kX3_requireNumber l hap a1 S (by assumption)) gX3_fall_X3_requireNumber rfl hdX3_requireNumber ⟨by decide, by decide⟩ rfl rfl (Nat.le_of_ble_eq_true rfl) ⟨Nat.zero_le _, Nat.zero_le _⟩ dX3_fall_1 ?_
  refine xg_aload_n C dX3_fall_4 rfl ?_
  refine xg_getR C V (f := 0) qX3_fall_26 rfl rfl rfl dX3_fall_5 ?_
  refine xg_getR C V (f := 3) qX3_fall_103 rfl rfl rfl dX3_fall_8 ?_
  refine xg_iload_n C dX3_fall_11 rfl ?_
  refine xg_zald C V (f := 19) (n := 1) (N := 8) rfl (by decide) (xR_0 (by decide)) (by assumption) dX3_fall_12 (v := (S 19 0 a1)) rfl ?_
  refine xg_if_eq C 26 dX3_fall_13 (by decide) (fun h1 => by contradiction) (fun h1 => ?_)
  exact xg_throwS C Z (ik := 90) (is := 106) (ic := 94) (i := 2) fitIS fitU (List.mem_of_getElem? (i := 1) rfl) (List.mem_of_getElem? (i := 2) rfl) (fun s h => h.2.2.1.2.2.1) (by decide +kernel) (fun w h => List.mem_append_right _ h) goodIS (by decide) (Nat.le_of_ble_eq_true rfl) ⟨Nat.le_refl _, Nat.le_refl _⟩ dX3_fall_16 dX3_fall_19 dX3_fall_20 dX3_fall_22 dX3_fall_25
set_option maxRecDepth 100000 in
set_option maxHeartbeats 4000000 in
theorem kyX3_comeUp (l : Launch) (hl : l.stackTraces = false) {G : xG} {Sa : Nat → Nat} {sz : Nat} (hsz : ∀ a : Nat, xA xYc G a → sz ≤ a) (hap : xAp xYc G) (a1 : Int32) (S : xS) (g_a1 : vp_in a1 8) (hd : S 19 0 a1 = (0 : Int32)) : xMx l xYc G Sa sz yX3_comeUp wsX3_comeUp 6 90 [.ref (G.2.2 0 0), .int a1] S xIS := by
  refine xMx_of (cc := cX3_comeUp) (maxL := 2) (ret := none) (own := RX3) hl hsz [some (.ref (G.2.2 0 0)), some (.int a1)] pnX3 rfl rfl (xcat1 rfl) (Nat.le_of_ble_eq_true rfl) rfl hap (fun F C V Z => ?_)
  refine xg_iload_n C dX3_comeUp_0 rfl ?_
  refine xg_callSv C V (as := [.int a1]) (fun l => kX3_requireNumber l hap a1 S (by assumption)) gX3_comeUp_X3_requireNumber rfl hdX3_requireNumber ⟨by decide, by decide⟩ rfl rfl (Nat.le_of_ble_eq_true rfl) ⟨Nat.zero_le _, Nat.zero_le _⟩ dX3_comeUp_1 ?_
  refine xg_aload_n C dX3_comeUp_4 rfl ?_
  refine xg_getR C V (f := 0) qX3_comeUp_26 rfl rfl rfl dX3_comeUp_5 ?_
  refine xg_getR C V (f := 3) qX3_comeUp_103 rfl rfl rfl dX3_comeUp_8 ?_
  refine xg_iload_n C dX3_comeUp_11 rfl ?_
  refine xg_zald C V (f := 19) (n := 1) (N := 8) rfl (by decide) (xR_0 (by decide)) (by assumption) dX3_comeUp_12 (v := (S 19 0 a1)) rfl ?_
  refine xg_if_ne C 26 dX3_comeUp_13 (by decide) (fun h1 => by contradiction) (fun h1 => ?_)
  exact xg_throwS C Z (ik := 90) (is := 108) (ic := 94) (i := 3) fitIS fitU (List.mem_of_getElem? (i := 1) rfl) (List.mem_of_getElem? (i := 2) rfl) (fun s h => h.2.2.1.2.2.2.1) (by decide +kernel) (fun w h => List.mem_append_right _ h) goodIS (by decide) (Nat.le_of_ble_eq_true rfl) ⟨Nat.le_refl _, Nat.le_refl _⟩ dX3_comeUp_16 dX3_comeUp_19 dX3_comeUp_20 dX3_comeUp_22 dX3_comeUp_25
set_option maxRecDepth 100000 in
set_option maxHeartbeats 4000000 in
theorem kyX3_tick (l : Launch) (hl : l.stackTraces = false) {G : xG} {Sa : Nat → Nat} {sz : Nat} (hsz : ∀ a : Nat, xA xYc G a → sz ≤ a) (hap : xAp xYc G) (a1 : Int32) (S : xS) (v1 : ¬ a1 < (1 : Int32)) (w1 : a1 ≤ (100 : Int32)) (hc : ¬ ((S 0 0 (nI 3)) + a1) ≤ (5000 : Int32)) : xMx l xYc G Sa sz yX3_tick wsX3_tick 6 90 [.ref (G.2.2 0 0), .int a1] S xIS := by
  refine xMx_of (cc := cX3_tick) (maxL := 4) (ret := (some .int)) (own := RX3) hl hsz [some (.ref (G.2.2 0 0)), some (.int a1), none, none] pnX3 rfl rfl (xcat1 rfl) (Nat.le_of_ble_eq_true rfl) rfl hap (fun F C V Z => ?_)
  refine xg_iload_n C dX3_tick_0 rfl ?_
  refine xg_iconst C dX3_tick_1 (v := (1 : Int32)) (by decide) ?_
  refine xg_bipush C dX3_tick_2 (v := (100 : Int32)) (by decide) ?_
  refine xg_callSv C V (as := [.int a1, .int (1 : Int32), .int (100 : Int32)]) (fun l => kX3_requireWithin l hap a1 (1 : Int32) (100 : Int32) S (by first | assumption | exact xnum1 (by assumption)) (by first | assumption | exact xnum2 (by assumption))) gX3_tick_X3_requireWithin rfl hdX3_requireWithin ⟨by decide, by decide⟩ rfl rfl (Nat.le_of_ble_eq_true rfl) ⟨Nat.zero_le _, Nat.zero_le _⟩ dX3_tick_4 ?_
  refine xg_aload_n C dX3_tick_7 rfl ?_
  refine xg_getI C V (f := 0) qX3_tick_30 rfl rfl rfl dX3_tick_8 (v := (S 0 0 (nI 3))) rfl ?_
  refine xg_iload_n C dX3_tick_11 rfl ?_
  refine xg_iadd C dX3_tick_12 ?_
  refine xg_sipush C dX3_tick_13 (v := (5000 : Int32)) (by decide) ?_
  refine xg_icmp_le C 29 dX3_tick_16 (by decide) (fun h1 => by contradiction) (fun h1 => ?_)
  exact xg_throwS C Z (ik := 90) (is := 171) (ic := 94) (i := 4) fitIS fitU (List.mem_of_getElem? (i := 1) rfl) (List.mem_of_getElem? (i := 2) rfl) (fun s h => h.2.2.1.2.2.2.2) (by decide +kernel) (fun w h => List.mem_append_right _ h) goodIS (by decide) (Nat.le_of_ble_eq_true rfl) ⟨Nat.le_refl _, Nat.le_refl _⟩ dX3_tick_19 dX3_tick_22 dX3_tick_23 dX3_tick_25 dX3_tick_28
