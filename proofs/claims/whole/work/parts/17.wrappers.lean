/-! 17: the law's wrappers: what they answer, by program (planw.py) -/
theorem pnL : plainName RL = true := by decide +kernel
theorem xT1 {T : Nat} (h : 1 ≤ T) (h2 : T ≤ 100) : ¬ (nI T) < (1 : Int32) := by
  rw [Int32.lt_iff_toInt_lt, nI_toInt (by omega), xt1]
  omega
theorem xT2 {T : Nat} (h2 : T ≤ 100) : (nI T) ≤ (100 : Int32) := by
  rw [Int32.le_iff_toInt_le, nI_toInt (by omega), show (100 : Int32).toInt = 100 from rfl]
  omega
def rL_shape (a1 : Int32) (a2 : Int32) (a3 : Int32) (S : xS) (o : Int64) (r : Int32) (S' : xS) (o' : Int64) : Prop :=
  (((vp_in a1 8) ∧ (¬ a2 < (1 : Int32) ∧ a2 ≤ (100 : Int32)) ∧ (¬ a3 < (1 : Int32) ∧ a3 ≤ (1000 : Int32))) ∧ r = 0 ∧ S' = (fX3_shape a1 a2 a3 S) ∧ o = o') ∨ (¬ ((vp_in a1 8) ∧ (¬ a2 < (1 : Int32) ∧ a2 ≤ (100 : Int32)) ∧ (¬ a3 < (1 : Int32) ∧ a3 ≤ (1000 : Int32))) ∧ r = 1 ∧ S = S' ∧ o = o')
set_option maxRecDepth 100000 in
set_option maxHeartbeats 4000000 in
theorem kL_shape (l : Launch) (hlt : l.stackTraces = false) {G : xG} {Sa : Nat → Nat} {sz : Nat} {cJ : ClassId} {ao : Nat} (hsz : ∀ a : Nat, xA xYc G a → sz ≤ a) (hao : sz ≤ ao) (hnao : ¬ xA xYc G ao) (hap : xAp xYc G) (a1 : Int32) (a2 : Int32) (a3 : Int32) (S : xS) (o : Int64) (r : Int32) (S' : xS) (o' : Int64) (h : rL_shape a1 a2 a3 S o r S' o') : xMw l G Sa sz cJ ao yL_shape wsL_shape 9 155 [.ref (G.2.2 0 0), .int a1, .int a2, .int a3] S S' o o' r := by
  rcases h with ⟨⟨c1, c2, c3⟩, rfl, rfl, rfl⟩ | ⟨hbad, rfl, rfl, rfl⟩
  · refine xMw_of (cc := cL_shape) (maxL := 5) (hh := [(0, 7, 10, 13)]) (own := RL) hlt hsz hao [some (.ref (G.2.2 0 0)), some (.int a1), some (.int a2), some (.int a3), none] pnL rfl rfl (xcat1 rfl) (Nat.le_of_ble_eq_true rfl) rfl hap (fun F C V E2 L2 E => ?_)
    refine xg_aload_n C dL_shape_0 rfl ?_
    refine xg_iload_n C dL_shape_1 rfl ?_
    refine xg_iload_n C dL_shape_2 rfl ?_
    refine xg_iload_n C dL_shape_3 rfl ?_
    refine xg_callVvJ C V (xO_st hnao) (f := 0) (As := [.int a1, .int a2, .int a3]) (fun l => kX3_shape l hap a1 a2 a3 S c1 c2.1 c2.2 c3.1 c3.2) gL_shape_X3_shape rfl hdX3_shape ⟨by decide, by decide⟩ rfl rfl rfl rfl rfl (Nat.le_of_ble_eq_true rfl) ⟨Nat.zero_le _, Nat.zero_le _⟩ dL_shape_4 ?_
    refine xg_goto C 14 dL_shape_7 (by decide) ?_
    refine xg_iconst C dL_shape_14 (v := (0 : Int32)) (by decide) ?_
    exact xretw E dL_shape_15 rfl rfl rfl (Nat.zero_le _) (Nat.zero_le _)
  · refine xMw_of (cc := cL_shape) (maxL := 5) (hh := [(0, 7, 10, 13)]) (own := RL) hlt hsz hao [some (.ref (G.2.2 0 0)), some (.int a1), some (.int a2), some (.int a3), none] pnL rfl rfl (xcat1 rfl) (Nat.le_of_ble_eq_true rfl) rfl hap (fun F C V E2 L2 E => ?_)
    refine xg_aload_n C dL_shape_0 rfl ?_
    refine xg_iload_n C dL_shape_1 rfl ?_
    refine xg_iload_n C dL_shape_2 rfl ?_
    refine xg_iload_n C dL_shape_3 rfl ?_
    refine xg_callVxJ (X := xIA) C V E2 (xO_st hnao) (f := 0) (As := [.int a1, .int a2, .int a3]) (fun l hl => kxX3_shape l hl hsz hap a1 a2 a3 S hbad) gL_shape_X3_shape rfl hdX3_shape ⟨by decide, by decide⟩ rfl rfl rfl rfl rfl (Nat.le_of_ble_eq_true rfl) ⟨by decide, by decide⟩ dL_shape_4 [] ⟨0, 7, 10, 13⟩ [] rfl (fun z hz => by cases hz) (by decide) (by decide) (List.mem_of_getElem? (i := 1) rfl) (by decide +kernel) (fun q9 => ?_)
    refine xg_astore C dL_shape_10 (by decide) (L' := [some (.ref (G.2.2 0 0)), some (.int a1), some (.int a2), some (.int a3), some (.ref q9)]) rfl ?_
    refine xg_iconst C dL_shape_12 (v := (1 : Int32)) (by decide) ?_
    exact xretw E dL_shape_13 rfl rfl rfl (Nat.le_refl _) (Nat.le_refl _)
def rL_setGauge (a1 : Int32) (a2 : Int32) (S : xS) (o : Int64) (r : Int32) (S' : xS) (o' : Int64) : Prop :=
  (((vp_in a1 8) ∧ (¬ a2 < (1 : Int32) ∧ a2 ≤ (50 : Int32))) ∧ r = 0 ∧ S' = (fX3_setGauge a1 a2 S).1 ∧ o' = (fX3_setGauge a1 a2 S).2.toInt64) ∨ (¬ ((vp_in a1 8) ∧ (¬ a2 < (1 : Int32) ∧ a2 ≤ (50 : Int32))) ∧ r = 1 ∧ S = S' ∧ o = o')
set_option maxRecDepth 100000 in
set_option maxHeartbeats 4000000 in
theorem kL_setGauge (l : Launch) (hlt : l.stackTraces = false) {G : xG} {Sa : Nat → Nat} {sz : Nat} {cJ : ClassId} {ao : Nat} (hsz : ∀ a : Nat, xA xYc G a → sz ≤ a) (hao : sz ≤ ao) (hnao : ¬ xA xYc G ao) (hap : xAp xYc G) (a1 : Int32) (a2 : Int32) (S : xS) (o : Int64) (r : Int32) (S' : xS) (o' : Int64) (h : rL_setGauge a1 a2 S o r S' o') : xMw l G Sa sz cJ ao yL_setGauge wsL_setGauge 9 155 [.ref (G.2.2 0 0), .int a1, .int a2, .ref ao] S S' o o' r := by
  rcases h with ⟨⟨c1, c2⟩, rfl, rfl, rfl⟩ | ⟨hbad, rfl, rfl, rfl⟩
  · refine xMw_of (cc := cL_setGauge) (maxL := 5) (hh := [(0, 10, 13, 13)]) (own := RL) hlt hsz hao [some (.ref (G.2.2 0 0)), some (.int a1), some (.int a2), some (.ref ao), none] pnL rfl rfl (xcat1 rfl) (Nat.le_of_ble_eq_true rfl) rfl hap (fun F C V E2 L2 E => ?_)
    refine xg_aload_n C dL_setGauge_0 rfl ?_
    refine xg_iconst C dL_setGauge_1 (v := (0 : Int32)) (by decide) ?_
    refine xg_aload_n C dL_setGauge_2 rfl ?_
    refine xg_iload_n C dL_setGauge_3 rfl ?_
    refine xg_iload_n C dL_setGauge_4 rfl ?_
    refine xg_callViJ C V (xO_st hnao) (f := 0) (As := [.int a1, .int a2]) (r := (fX3_setGauge a1 a2 S).2) (fun l => kX3_setGauge l hap a1 a2 S c1 c2.1 c2.2) gL_setGauge_X3_setGauge rfl hdX3_setGauge ⟨by decide, by decide⟩ rfl rfl rfl rfl rfl (Nat.le_of_ble_eq_true rfl) ⟨Nat.zero_le _, Nat.zero_le _⟩ dL_setGauge_5 ?_
    refine xg_i2l C dL_setGauge_8 ?_
    refine xg_last C L2 hnao dL_setGauge_9 ?_
    refine xg_goto C 17 dL_setGauge_10 (by decide) ?_
    refine xg_iconst C dL_setGauge_17 (v := (0 : Int32)) (by decide) ?_
    exact xretw E dL_setGauge_18 rfl rfl rfl (Nat.zero_le _) (Nat.zero_le _)
  · refine xMw_of (cc := cL_setGauge) (maxL := 5) (hh := [(0, 10, 13, 13)]) (own := RL) hlt hsz hao [some (.ref (G.2.2 0 0)), some (.int a1), some (.int a2), some (.ref ao), none] pnL rfl rfl (xcat1 rfl) (Nat.le_of_ble_eq_true rfl) rfl hap (fun F C V E2 L2 E => ?_)
    refine xg_aload_n C dL_setGauge_0 rfl ?_
    refine xg_iconst C dL_setGauge_1 (v := (0 : Int32)) (by decide) ?_
    refine xg_aload_n C dL_setGauge_2 rfl ?_
    refine xg_iload_n C dL_setGauge_3 rfl ?_
    refine xg_iload_n C dL_setGauge_4 rfl ?_
    refine xg_callVxJ (X := xIA) C V E2 (xO_st hnao) (f := 0) (As := [.int a1, .int a2]) (fun l hl => kxX3_setGauge l hl hsz hap a1 a2 S hbad) gL_setGauge_X3_setGauge rfl hdX3_setGauge ⟨by decide, by decide⟩ rfl rfl rfl rfl rfl (Nat.le_of_ble_eq_true rfl) ⟨by decide, by decide⟩ dL_setGauge_5 [] ⟨0, 10, 13, 13⟩ [] rfl (fun z hz => by cases hz) (by decide) (by decide) (List.mem_of_getElem? (i := 1) rfl) (by decide +kernel) (fun q9 => ?_)
    refine xg_astore C dL_setGauge_13 (by decide) (L' := [some (.ref (G.2.2 0 0)), some (.int a1), some (.int a2), some (.ref ao), some (.ref q9)]) rfl ?_
    refine xg_iconst C dL_setGauge_15 (v := (1 : Int32)) (by decide) ?_
    exact xretw E dL_setGauge_16 rfl rfl rfl (Nat.le_refl _) (Nat.le_refl _)
def rL_setSource (a1 : Int32) (S : xS) (o : Int64) (r : Int32) (S' : xS) (o' : Int64) : Prop :=
  (((¬ a1 < (0 : Int32) ∧ a1 ≤ (1000 : Int32))) ∧ r = 0 ∧ S' = (fX3_setSource a1 S).1 ∧ o' = (fX3_setSource a1 S).2.toInt64) ∨ (¬ (¬ a1 < (0 : Int32) ∧ a1 ≤ (1000 : Int32)) ∧ r = 1 ∧ S = S' ∧ o = o')
set_option maxRecDepth 100000 in
set_option maxHeartbeats 4000000 in
theorem kL_setSource (l : Launch) (hlt : l.stackTraces = false) {G : xG} {Sa : Nat → Nat} {sz : Nat} {cJ : ClassId} {ao : Nat} (hsz : ∀ a : Nat, xA xYc G a → sz ≤ a) (hao : sz ≤ ao) (hnao : ¬ xA xYc G ao) (hap : xAp xYc G) (a1 : Int32) (S : xS) (o : Int64) (r : Int32) (S' : xS) (o' : Int64) (h : rL_setSource a1 S o r S' o') : xMw l G Sa sz cJ ao yL_setSource wsL_setSource 8 134 [.ref (G.2.2 0 0), .int a1, .ref ao] S S' o o' r := by
  rcases h with ⟨c1, rfl, rfl, rfl⟩ | ⟨hbad, rfl, rfl, rfl⟩
  · refine xMw_of (cc := cL_setSource) (maxL := 4) (hh := [(0, 9, 12, 13)]) (own := RL) hlt hsz hao [some (.ref (G.2.2 0 0)), some (.int a1), some (.ref ao), none] pnL rfl rfl (xcat1 rfl) (Nat.le_of_ble_eq_true rfl) rfl hap (fun F C V E2 L2 E => ?_)
    refine xg_aload_n C dL_setSource_0 rfl ?_
    refine xg_iconst C dL_setSource_1 (v := (0 : Int32)) (by decide) ?_
    refine xg_aload_n C dL_setSource_2 rfl ?_
    refine xg_iload_n C dL_setSource_3 rfl ?_
    refine xg_callViJ C V (xO_st hnao) (f := 0) (As := [.int a1]) (r := (fX3_setSource a1 S).2) (fun l => kX3_setSource l hap a1 S c1.1 c1.2) gL_setSource_X3_setSource rfl hdX3_setSource ⟨by decide, by decide⟩ rfl rfl rfl rfl rfl (Nat.le_of_ble_eq_true rfl) ⟨Nat.zero_le _, Nat.zero_le _⟩ dL_setSource_4 ?_
    refine xg_i2l C dL_setSource_7 ?_
    refine xg_last C L2 hnao dL_setSource_8 ?_
    refine xg_goto C 15 dL_setSource_9 (by decide) ?_
    refine xg_iconst C dL_setSource_15 (v := (0 : Int32)) (by decide) ?_
    exact xretw E dL_setSource_16 rfl rfl rfl (Nat.zero_le _) (Nat.zero_le _)
  · refine xMw_of (cc := cL_setSource) (maxL := 4) (hh := [(0, 9, 12, 13)]) (own := RL) hlt hsz hao [some (.ref (G.2.2 0 0)), some (.int a1), some (.ref ao), none] pnL rfl rfl (xcat1 rfl) (Nat.le_of_ble_eq_true rfl) rfl hap (fun F C V E2 L2 E => ?_)
    refine xg_aload_n C dL_setSource_0 rfl ?_
    refine xg_iconst C dL_setSource_1 (v := (0 : Int32)) (by decide) ?_
    refine xg_aload_n C dL_setSource_2 rfl ?_
    refine xg_iload_n C dL_setSource_3 rfl ?_
    refine xg_callVxJ (X := xIA) C V E2 (xO_st hnao) (f := 0) (As := [.int a1]) (fun l hl => kxX3_setSource l hl hsz hap a1 S hbad) gL_setSource_X3_setSource rfl hdX3_setSource ⟨by decide, by decide⟩ rfl rfl rfl rfl rfl (Nat.le_of_ble_eq_true rfl) ⟨by decide, by decide⟩ dL_setSource_4 [] ⟨0, 9, 12, 13⟩ [] rfl (fun z hz => by cases hz) (by decide) (by decide) (List.mem_of_getElem? (i := 1) rfl) (by decide +kernel) (fun q9 => ?_)
    refine xg_astore_n C dL_setSource_12 (by decide) (L' := [some (.ref (G.2.2 0 0)), some (.int a1), some (.ref ao), some (.ref q9)]) rfl ?_
    refine xg_iconst C dL_setSource_13 (v := (1 : Int32)) (by decide) ?_
    exact xretw E dL_setSource_14 rfl rfl rfl (Nat.le_refl _) (Nat.le_refl _)
def rL_rain (a1 : Int32) (a2 : Int32) (S : xS) (o : Int64) (r : Int32) (S' : xS) (o' : Int64) : Prop :=
  (((vp_in a1 8) ∧ (¬ a2 < (1 : Int32) ∧ a2 ≤ (10000 : Int32))) ∧ r = 0 ∧ S' = (fX3_rain a1 a2 S).1 ∧ o' = (fX3_rain a1 a2 S).2.toInt64) ∨ (¬ ((vp_in a1 8) ∧ (¬ a2 < (1 : Int32) ∧ a2 ≤ (10000 : Int32))) ∧ r = 1 ∧ S = S' ∧ o = o')
set_option maxRecDepth 100000 in
set_option maxHeartbeats 4000000 in
theorem kL_rain (l : Launch) (hlt : l.stackTraces = false) {G : xG} {Sa : Nat → Nat} {sz : Nat} {cJ : ClassId} {ao : Nat} (hsz : ∀ a : Nat, xA xYc G a → sz ≤ a) (hao : sz ≤ ao) (hnao : ¬ xA xYc G ao) (hap : xAp xYc G) (a1 : Int32) (a2 : Int32) (S : xS) (o : Int64) (r : Int32) (S' : xS) (o' : Int64) (h : rL_rain a1 a2 S o r S' o') : xMw l G Sa sz cJ ao yL_rain wsL_rain 9 154 [.ref (G.2.2 0 0), .int a1, .int a2, .ref ao] S S' o o' r := by
  rcases h with ⟨⟨c1, c2⟩, rfl, rfl, rfl⟩ | ⟨hbad, rfl, rfl, rfl⟩
  · refine xMw_of (cc := cL_rain) (maxL := 5) (hh := [(0, 10, 13, 13)]) (own := RL) hlt hsz hao [some (.ref (G.2.2 0 0)), some (.int a1), some (.int a2), some (.ref ao), none] pnL rfl rfl (xcat1 rfl) (Nat.le_of_ble_eq_true rfl) rfl hap (fun F C V E2 L2 E => ?_)
    refine xg_aload_n C dL_rain_0 rfl ?_
    refine xg_iconst C dL_rain_1 (v := (0 : Int32)) (by decide) ?_
    refine xg_aload_n C dL_rain_2 rfl ?_
    refine xg_iload_n C dL_rain_3 rfl ?_
    refine xg_iload_n C dL_rain_4 rfl ?_
    refine xg_callViJ C V (xO_st hnao) (f := 0) (As := [.int a1, .int a2]) (r := (fX3_rain a1 a2 S).2) (fun l => kX3_rain l hap a1 a2 S c1 c2.1 c2.2) gL_rain_X3_rain rfl hdX3_rain ⟨by decide, by decide⟩ rfl rfl rfl rfl rfl (Nat.le_of_ble_eq_true rfl) ⟨Nat.zero_le _, Nat.zero_le _⟩ dL_rain_5 ?_
    refine xg_i2l C dL_rain_8 ?_
    refine xg_last C L2 hnao dL_rain_9 ?_
    refine xg_goto C 17 dL_rain_10 (by decide) ?_
    refine xg_iconst C dL_rain_17 (v := (0 : Int32)) (by decide) ?_
    exact xretw E dL_rain_18 rfl rfl rfl (Nat.zero_le _) (Nat.zero_le _)
  · refine xMw_of (cc := cL_rain) (maxL := 5) (hh := [(0, 10, 13, 13)]) (own := RL) hlt hsz hao [some (.ref (G.2.2 0 0)), some (.int a1), some (.int a2), some (.ref ao), none] pnL rfl rfl (xcat1 rfl) (Nat.le_of_ble_eq_true rfl) rfl hap (fun F C V E2 L2 E => ?_)
    refine xg_aload_n C dL_rain_0 rfl ?_
    refine xg_iconst C dL_rain_1 (v := (0 : Int32)) (by decide) ?_
    refine xg_aload_n C dL_rain_2 rfl ?_
    refine xg_iload_n C dL_rain_3 rfl ?_
    refine xg_iload_n C dL_rain_4 rfl ?_
    refine xg_callVxJ (X := xIA) C V E2 (xO_st hnao) (f := 0) (As := [.int a1, .int a2]) (fun l hl => kxX3_rain l hl hsz hap a1 a2 S hbad) gL_rain_X3_rain rfl hdX3_rain ⟨by decide, by decide⟩ rfl rfl rfl rfl rfl (Nat.le_of_ble_eq_true rfl) ⟨by decide, by decide⟩ dL_rain_5 [] ⟨0, 10, 13, 13⟩ [] rfl (fun z hz => by cases hz) (by decide) (by decide) (List.mem_of_getElem? (i := 1) rfl) (by decide +kernel) (fun q9 => ?_)
    refine xg_astore C dL_rain_13 (by decide) (L' := [some (.ref (G.2.2 0 0)), some (.int a1), some (.int a2), some (.ref ao), some (.ref q9)]) rfl ?_
    refine xg_iconst C dL_rain_15 (v := (1 : Int32)) (by decide) ?_
    exact xretw E dL_rain_16 rfl rfl rfl (Nat.le_refl _) (Nat.le_refl _)
def rL_volume (a1 : Int32) (S : xS) (o : Int64) (r : Int32) (S' : xS) (o' : Int64) : Prop :=
  (((vp_in a1 8)) ∧ r = 0 ∧ S = S' ∧ o' = (fX3_volume a1 S).toInt64) ∨ (¬ (vp_in a1 8) ∧ r = 1 ∧ S = S' ∧ o = o')
set_option maxRecDepth 100000 in
set_option maxHeartbeats 4000000 in
theorem kL_volume (l : Launch) (hlt : l.stackTraces = false) {G : xG} {Sa : Nat → Nat} {sz : Nat} {cJ : ClassId} {ao : Nat} (hsz : ∀ a : Nat, xA xYc G a → sz ≤ a) (hao : sz ≤ ao) (hnao : ¬ xA xYc G ao) (hap : xAp xYc G) (a1 : Int32) (S : xS) (o : Int64) (r : Int32) (S' : xS) (o' : Int64) (h : rL_volume a1 S o r S' o') : xMw l G Sa sz cJ ao yL_volume wsL_volume 9 153 [.ref (G.2.2 0 0), .int a1, .ref ao] S S' o o' r := by
  rcases h with ⟨c1, rfl, rfl, rfl⟩ | ⟨hbad, rfl, rfl, rfl⟩
  · refine xMw_of (cc := cL_volume) (maxL := 4) (hh := [(0, 9, 12, 13)]) (own := RL) hlt hsz hao [some (.ref (G.2.2 0 0)), some (.int a1), some (.ref ao), none] pnL rfl rfl (xcat1 rfl) (Nat.le_of_ble_eq_true rfl) rfl hap (fun F C V E2 L2 E => ?_)
    refine xg_aload_n C dL_volume_0 rfl ?_
    refine xg_iconst C dL_volume_1 (v := (0 : Int32)) (by decide) ?_
    refine xg_aload_n C dL_volume_2 rfl ?_
    refine xg_iload_n C dL_volume_3 rfl ?_
    refine xg_callViJ C V (xO_st hnao) (f := 0) (As := [.int a1]) (r := (fX3_volume a1 S)) (fun l => kX3_volume l hap a1 S c1) gL_volume_X3_volume rfl hdX3_volume ⟨by decide, by decide⟩ rfl rfl rfl rfl rfl (Nat.le_of_ble_eq_true rfl) ⟨Nat.zero_le _, Nat.zero_le _⟩ dL_volume_4 ?_
    refine xg_i2l C dL_volume_7 ?_
    refine xg_last C L2 hnao dL_volume_8 ?_
    refine xg_goto C 15 dL_volume_9 (by decide) ?_
    refine xg_iconst C dL_volume_15 (v := (0 : Int32)) (by decide) ?_
    exact xretw E dL_volume_16 rfl rfl rfl (Nat.zero_le _) (Nat.zero_le _)
  · refine xMw_of (cc := cL_volume) (maxL := 4) (hh := [(0, 9, 12, 13)]) (own := RL) hlt hsz hao [some (.ref (G.2.2 0 0)), some (.int a1), some (.ref ao), none] pnL rfl rfl (xcat1 rfl) (Nat.le_of_ble_eq_true rfl) rfl hap (fun F C V E2 L2 E => ?_)
    refine xg_aload_n C dL_volume_0 rfl ?_
    refine xg_iconst C dL_volume_1 (v := (0 : Int32)) (by decide) ?_
    refine xg_aload_n C dL_volume_2 rfl ?_
    refine xg_iload_n C dL_volume_3 rfl ?_
    refine xg_callVxJ (X := xIA) C V E2 (xO_st hnao) (f := 0) (As := [.int a1]) (fun l hl => kxX3_volume l hl hsz hap a1 S hbad) gL_volume_X3_volume rfl hdX3_volume ⟨by decide, by decide⟩ rfl rfl rfl rfl rfl (Nat.le_of_ble_eq_true rfl) ⟨by decide, by decide⟩ dL_volume_4 [] ⟨0, 9, 12, 13⟩ [] rfl (fun z hz => by cases hz) (by decide) (by decide) (List.mem_of_getElem? (i := 1) rfl) (by decide +kernel) (fun q9 => ?_)
    refine xg_astore_n C dL_volume_12 (by decide) (L' := [some (.ref (G.2.2 0 0)), some (.int a1), some (.ref ao), some (.ref q9)]) rfl ?_
    refine xg_iconst C dL_volume_13 (v := (1 : Int32)) (by decide) ?_
    exact xretw E dL_volume_14 rfl rfl rfl (Nat.le_refl _) (Nat.le_refl _)
def rL_volumeByBalance (a1 : Int32) (S : xS) (o : Int64) (r : Int32) (S' : xS) (o' : Int64) : Prop :=
  (((vp_in a1 8)) ∧ r = 0 ∧ S = S' ∧ o' = (fX3_volumeByBalance a1 S).toInt64) ∨ (¬ (vp_in a1 8) ∧ r = 1 ∧ S = S' ∧ o = o')
set_option maxRecDepth 100000 in
set_option maxHeartbeats 4000000 in
theorem kL_volumeByBalance (l : Launch) (hlt : l.stackTraces = false) {G : xG} {Sa : Nat → Nat} {sz : Nat} {cJ : ClassId} {ao : Nat} (hsz : ∀ a : Nat, xA xYc G a → sz ≤ a) (hao : sz ≤ ao) (hnao : ¬ xA xYc G ao) (hap : xAp xYc G) (a1 : Int32) (S : xS) (o : Int64) (r : Int32) (S' : xS) (o' : Int64) (h : rL_volumeByBalance a1 S o r S' o') : xMw l G Sa sz cJ ao yL_volumeByBalance wsL_volumeByBalance 9 153 [.ref (G.2.2 0 0), .int a1, .ref ao] S S' o o' r := by
  rcases h with ⟨c1, rfl, rfl, rfl⟩ | ⟨hbad, rfl, rfl, rfl⟩
  · refine xMw_of (cc := cL_volumeByBalance) (maxL := 4) (hh := [(0, 9, 12, 13)]) (own := RL) hlt hsz hao [some (.ref (G.2.2 0 0)), some (.int a1), some (.ref ao), none] pnL rfl rfl (xcat1 rfl) (Nat.le_of_ble_eq_true rfl) rfl hap (fun F C V E2 L2 E => ?_)
    refine xg_aload_n C dL_volumeByBalance_0 rfl ?_
    refine xg_iconst C dL_volumeByBalance_1 (v := (0 : Int32)) (by decide) ?_
    refine xg_aload_n C dL_volumeByBalance_2 rfl ?_
    refine xg_iload_n C dL_volumeByBalance_3 rfl ?_
    refine xg_callViJ C V (xO_st hnao) (f := 0) (As := [.int a1]) (r := (fX3_volumeByBalance a1 S)) (fun l => kX3_volumeByBalance l hap a1 S c1) gL_volumeByBalance_X3_volumeByBalance rfl hdX3_volumeByBalance ⟨by decide, by decide⟩ rfl rfl rfl rfl rfl (Nat.le_of_ble_eq_true rfl) ⟨Nat.zero_le _, Nat.zero_le _⟩ dL_volumeByBalance_4 ?_
    refine xg_i2l C dL_volumeByBalance_7 ?_
    refine xg_last C L2 hnao dL_volumeByBalance_8 ?_
    refine xg_goto C 15 dL_volumeByBalance_9 (by decide) ?_
    refine xg_iconst C dL_volumeByBalance_15 (v := (0 : Int32)) (by decide) ?_
    exact xretw E dL_volumeByBalance_16 rfl rfl rfl (Nat.zero_le _) (Nat.zero_le _)
  · refine xMw_of (cc := cL_volumeByBalance) (maxL := 4) (hh := [(0, 9, 12, 13)]) (own := RL) hlt hsz hao [some (.ref (G.2.2 0 0)), some (.int a1), some (.ref ao), none] pnL rfl rfl (xcat1 rfl) (Nat.le_of_ble_eq_true rfl) rfl hap (fun F C V E2 L2 E => ?_)
    refine xg_aload_n C dL_volumeByBalance_0 rfl ?_
    refine xg_iconst C dL_volumeByBalance_1 (v := (0 : Int32)) (by decide) ?_
    refine xg_aload_n C dL_volumeByBalance_2 rfl ?_
    refine xg_iload_n C dL_volumeByBalance_3 rfl ?_
    refine xg_callVxJ (X := xIA) C V E2 (xO_st hnao) (f := 0) (As := [.int a1]) (fun l hl => kxX3_volumeByBalance l hl hsz hap a1 S hbad) gL_volumeByBalance_X3_volumeByBalance rfl hdX3_volumeByBalance ⟨by decide, by decide⟩ rfl rfl rfl rfl rfl (Nat.le_of_ble_eq_true rfl) ⟨by decide, by decide⟩ dL_volumeByBalance_4 [] ⟨0, 9, 12, 13⟩ [] rfl (fun z hz => by cases hz) (by decide) (by decide) (List.mem_of_getElem? (i := 1) rfl) (by decide +kernel) (fun q9 => ?_)
    refine xg_astore_n C dL_volumeByBalance_12 (by decide) (L' := [some (.ref (G.2.2 0 0)), some (.int a1), some (.ref ao), some (.ref q9)]) rfl ?_
    refine xg_iconst C dL_volumeByBalance_13 (v := (1 : Int32)) (by decide) ?_
    exact xretw E dL_volumeByBalance_14 rfl rfl rfl (Nat.le_refl _) (Nat.le_refl _)
def rL_level (a1 : Int32) (S : xS) (o : Int64) (r : Int32) (S' : xS) (o' : Int64) : Prop :=
  (((vp_in a1 8)) ∧ r = 0 ∧ S = S' ∧ o' = (fX3_level a1 S).toInt64) ∨ (¬ (vp_in a1 8) ∧ r = 1 ∧ S = S' ∧ o = o')
set_option maxRecDepth 100000 in
set_option maxHeartbeats 4000000 in
theorem kL_level (l : Launch) (hlt : l.stackTraces = false) {G : xG} {Sa : Nat → Nat} {sz : Nat} {cJ : ClassId} {ao : Nat} (hsz : ∀ a : Nat, xA xYc G a → sz ≤ a) (hao : sz ≤ ao) (hnao : ¬ xA xYc G ao) (hap : xAp xYc G) (a1 : Int32) (S : xS) (o : Int64) (r : Int32) (S' : xS) (o' : Int64) (h : rL_level a1 S o r S' o') : xMw l G Sa sz cJ ao yL_level wsL_level 9 153 [.ref (G.2.2 0 0), .int a1, .ref ao] S S' o o' r := by
  rcases h with ⟨c1, rfl, rfl, rfl⟩ | ⟨hbad, rfl, rfl, rfl⟩
  · refine xMw_of (cc := cL_level) (maxL := 4) (hh := [(0, 9, 12, 13)]) (own := RL) hlt hsz hao [some (.ref (G.2.2 0 0)), some (.int a1), some (.ref ao), none] pnL rfl rfl (xcat1 rfl) (Nat.le_of_ble_eq_true rfl) rfl hap (fun F C V E2 L2 E => ?_)
    refine xg_aload_n C dL_level_0 rfl ?_
    refine xg_iconst C dL_level_1 (v := (0 : Int32)) (by decide) ?_
    refine xg_aload_n C dL_level_2 rfl ?_
    refine xg_iload_n C dL_level_3 rfl ?_
    refine xg_callViJ C V (xO_st hnao) (f := 0) (As := [.int a1]) (r := (fX3_level a1 S)) (fun l => kX3_level l hap a1 S c1) gL_level_X3_level rfl hdX3_level ⟨by decide, by decide⟩ rfl rfl rfl rfl rfl (Nat.le_of_ble_eq_true rfl) ⟨Nat.zero_le _, Nat.zero_le _⟩ dL_level_4 ?_
    refine xg_i2l C dL_level_7 ?_
    refine xg_last C L2 hnao dL_level_8 ?_
    refine xg_goto C 15 dL_level_9 (by decide) ?_
    refine xg_iconst C dL_level_15 (v := (0 : Int32)) (by decide) ?_
    exact xretw E dL_level_16 rfl rfl rfl (Nat.zero_le _) (Nat.zero_le _)
  · refine xMw_of (cc := cL_level) (maxL := 4) (hh := [(0, 9, 12, 13)]) (own := RL) hlt hsz hao [some (.ref (G.2.2 0 0)), some (.int a1), some (.ref ao), none] pnL rfl rfl (xcat1 rfl) (Nat.le_of_ble_eq_true rfl) rfl hap (fun F C V E2 L2 E => ?_)
    refine xg_aload_n C dL_level_0 rfl ?_
    refine xg_iconst C dL_level_1 (v := (0 : Int32)) (by decide) ?_
    refine xg_aload_n C dL_level_2 rfl ?_
    refine xg_iload_n C dL_level_3 rfl ?_
    refine xg_callVxJ (X := xIA) C V E2 (xO_st hnao) (f := 0) (As := [.int a1]) (fun l hl => kxX3_level l hl hsz hap a1 S hbad) gL_level_X3_level rfl hdX3_level ⟨by decide, by decide⟩ rfl rfl rfl rfl rfl (Nat.le_of_ble_eq_true rfl) ⟨by decide, by decide⟩ dL_level_4 [] ⟨0, 9, 12, 13⟩ [] rfl (fun z hz => by cases hz) (by decide) (by decide) (List.mem_of_getElem? (i := 1) rfl) (by decide +kernel) (fun q9 => ?_)
    refine xg_astore_n C dL_level_12 (by decide) (L' := [some (.ref (G.2.2 0 0)), some (.int a1), some (.ref ao), some (.ref q9)]) rfl ?_
    refine xg_iconst C dL_level_13 (v := (1 : Int32)) (by decide) ?_
    exact xretw E dL_level_14 rfl rfl rfl (Nat.le_refl _) (Nat.le_refl _)
def rL_flowed (a1 : Int32) (S : xS) (o : Int64) (r : Int32) (S' : xS) (o' : Int64) : Prop :=
  (((vp_in a1 8)) ∧ r = 0 ∧ S = S' ∧ o' = (fX3_flowed a1 S).toInt64) ∨ (¬ (vp_in a1 8) ∧ r = 1 ∧ S = S' ∧ o = o')
set_option maxRecDepth 100000 in
set_option maxHeartbeats 4000000 in
theorem kL_flowed (l : Launch) (hlt : l.stackTraces = false) {G : xG} {Sa : Nat → Nat} {sz : Nat} {cJ : ClassId} {ao : Nat} (hsz : ∀ a : Nat, xA xYc G a → sz ≤ a) (hao : sz ≤ ao) (hnao : ¬ xA xYc G ao) (hap : xAp xYc G) (a1 : Int32) (S : xS) (o : Int64) (r : Int32) (S' : xS) (o' : Int64) (h : rL_flowed a1 S o r S' o') : xMw l G Sa sz cJ ao yL_flowed wsL_flowed 9 153 [.ref (G.2.2 0 0), .int a1, .ref ao] S S' o o' r := by
  rcases h with ⟨c1, rfl, rfl, rfl⟩ | ⟨hbad, rfl, rfl, rfl⟩
  · refine xMw_of (cc := cL_flowed) (maxL := 4) (hh := [(0, 9, 12, 13)]) (own := RL) hlt hsz hao [some (.ref (G.2.2 0 0)), some (.int a1), some (.ref ao), none] pnL rfl rfl (xcat1 rfl) (Nat.le_of_ble_eq_true rfl) rfl hap (fun F C V E2 L2 E => ?_)
    refine xg_aload_n C dL_flowed_0 rfl ?_
    refine xg_iconst C dL_flowed_1 (v := (0 : Int32)) (by decide) ?_
    refine xg_aload_n C dL_flowed_2 rfl ?_
    refine xg_iload_n C dL_flowed_3 rfl ?_
    refine xg_callViJ C V (xO_st hnao) (f := 0) (As := [.int a1]) (r := (fX3_flowed a1 S)) (fun l => kX3_flowed l hap a1 S c1) gL_flowed_X3_flowed rfl hdX3_flowed ⟨by decide, by decide⟩ rfl rfl rfl rfl rfl (Nat.le_of_ble_eq_true rfl) ⟨Nat.zero_le _, Nat.zero_le _⟩ dL_flowed_4 ?_
    refine xg_i2l C dL_flowed_7 ?_
    refine xg_last C L2 hnao dL_flowed_8 ?_
    refine xg_goto C 15 dL_flowed_9 (by decide) ?_
    refine xg_iconst C dL_flowed_15 (v := (0 : Int32)) (by decide) ?_
    exact xretw E dL_flowed_16 rfl rfl rfl (Nat.zero_le _) (Nat.zero_le _)
  · refine xMw_of (cc := cL_flowed) (maxL := 4) (hh := [(0, 9, 12, 13)]) (own := RL) hlt hsz hao [some (.ref (G.2.2 0 0)), some (.int a1), some (.ref ao), none] pnL rfl rfl (xcat1 rfl) (Nat.le_of_ble_eq_true rfl) rfl hap (fun F C V E2 L2 E => ?_)
    refine xg_aload_n C dL_flowed_0 rfl ?_
    refine xg_iconst C dL_flowed_1 (v := (0 : Int32)) (by decide) ?_
    refine xg_aload_n C dL_flowed_2 rfl ?_
    refine xg_iload_n C dL_flowed_3 rfl ?_
    refine xg_callVxJ (X := xIA) C V E2 (xO_st hnao) (f := 0) (As := [.int a1]) (fun l hl => kxX3_flowed l hl hsz hap a1 S hbad) gL_flowed_X3_flowed rfl hdX3_flowed ⟨by decide, by decide⟩ rfl rfl rfl rfl rfl (Nat.le_of_ble_eq_true rfl) ⟨by decide, by decide⟩ dL_flowed_4 [] ⟨0, 9, 12, 13⟩ [] rfl (fun z hz => by cases hz) (by decide) (by decide) (List.mem_of_getElem? (i := 1) rfl) (by decide +kernel) (fun q9 => ?_)
    refine xg_astore_n C dL_flowed_12 (by decide) (L' := [some (.ref (G.2.2 0 0)), some (.int a1), some (.ref ao), some (.ref q9)]) rfl ?_
    refine xg_iconst C dL_flowed_13 (v := (1 : Int32)) (by decide) ?_
    exact xretw E dL_flowed_14 rfl rfl rfl (Nat.le_refl _) (Nat.le_refl _)
def rL_spilled (a1 : Int32) (S : xS) (o : Int64) (r : Int32) (S' : xS) (o' : Int64) : Prop :=
  (((vp_in a1 8)) ∧ r = 0 ∧ S = S' ∧ o' = (fX3_spilled a1 S).toInt64) ∨ (¬ (vp_in a1 8) ∧ r = 1 ∧ S = S' ∧ o = o')
set_option maxRecDepth 100000 in
set_option maxHeartbeats 4000000 in
theorem kL_spilled (l : Launch) (hlt : l.stackTraces = false) {G : xG} {Sa : Nat → Nat} {sz : Nat} {cJ : ClassId} {ao : Nat} (hsz : ∀ a : Nat, xA xYc G a → sz ≤ a) (hao : sz ≤ ao) (hnao : ¬ xA xYc G ao) (hap : xAp xYc G) (a1 : Int32) (S : xS) (o : Int64) (r : Int32) (S' : xS) (o' : Int64) (h : rL_spilled a1 S o r S' o') : xMw l G Sa sz cJ ao yL_spilled wsL_spilled 9 153 [.ref (G.2.2 0 0), .int a1, .ref ao] S S' o o' r := by
  rcases h with ⟨c1, rfl, rfl, rfl⟩ | ⟨hbad, rfl, rfl, rfl⟩
  · refine xMw_of (cc := cL_spilled) (maxL := 4) (hh := [(0, 9, 12, 13)]) (own := RL) hlt hsz hao [some (.ref (G.2.2 0 0)), some (.int a1), some (.ref ao), none] pnL rfl rfl (xcat1 rfl) (Nat.le_of_ble_eq_true rfl) rfl hap (fun F C V E2 L2 E => ?_)
    refine xg_aload_n C dL_spilled_0 rfl ?_
    refine xg_iconst C dL_spilled_1 (v := (0 : Int32)) (by decide) ?_
    refine xg_aload_n C dL_spilled_2 rfl ?_
    refine xg_iload_n C dL_spilled_3 rfl ?_
    refine xg_callViJ C V (xO_st hnao) (f := 0) (As := [.int a1]) (r := (fX3_spilled a1 S)) (fun l => kX3_spilled l hap a1 S c1) gL_spilled_X3_spilled rfl hdX3_spilled ⟨by decide, by decide⟩ rfl rfl rfl rfl rfl (Nat.le_of_ble_eq_true rfl) ⟨Nat.zero_le _, Nat.zero_le _⟩ dL_spilled_4 ?_
    refine xg_i2l C dL_spilled_7 ?_
    refine xg_last C L2 hnao dL_spilled_8 ?_
    refine xg_goto C 15 dL_spilled_9 (by decide) ?_
    refine xg_iconst C dL_spilled_15 (v := (0 : Int32)) (by decide) ?_
    exact xretw E dL_spilled_16 rfl rfl rfl (Nat.zero_le _) (Nat.zero_le _)
  · refine xMw_of (cc := cL_spilled) (maxL := 4) (hh := [(0, 9, 12, 13)]) (own := RL) hlt hsz hao [some (.ref (G.2.2 0 0)), some (.int a1), some (.ref ao), none] pnL rfl rfl (xcat1 rfl) (Nat.le_of_ble_eq_true rfl) rfl hap (fun F C V E2 L2 E => ?_)
    refine xg_aload_n C dL_spilled_0 rfl ?_
    refine xg_iconst C dL_spilled_1 (v := (0 : Int32)) (by decide) ?_
    refine xg_aload_n C dL_spilled_2 rfl ?_
    refine xg_iload_n C dL_spilled_3 rfl ?_
    refine xg_callVxJ (X := xIA) C V E2 (xO_st hnao) (f := 0) (As := [.int a1]) (fun l hl => kxX3_spilled l hl hsz hap a1 S hbad) gL_spilled_X3_spilled rfl hdX3_spilled ⟨by decide, by decide⟩ rfl rfl rfl rfl rfl (Nat.le_of_ble_eq_true rfl) ⟨by decide, by decide⟩ dL_spilled_4 [] ⟨0, 9, 12, 13⟩ [] rfl (fun z hz => by cases hz) (by decide) (by decide) (List.mem_of_getElem? (i := 1) rfl) (by decide +kernel) (fun q9 => ?_)
    refine xg_astore_n C dL_spilled_12 (by decide) (L' := [some (.ref (G.2.2 0 0)), some (.int a1), some (.ref ao), some (.ref q9)]) rfl ?_
    refine xg_iconst C dL_spilled_13 (v := (1 : Int32)) (by decide) ?_
    exact xretw E dL_spilled_14 rfl rfl rfl (Nat.le_refl _) (Nat.le_refl _)
def rL_setRule (a1 : Int32) (a2 : Int32) (a3 : Int32) (a4 : Int32) (a5 : Int32) (S : xS) (o : Int64) (r : Int32) (S' : xS) (o' : Int64) : Prop :=
  (((vp_in a1 8) ∧ (¬ a2 < (0 : Int32) ∧ a2 ≤ (1000 : Int32)) ∧ (¬ a3 < a2 ∧ a3 ≤ (1000 : Int32)) ∧ (¬ a4 < (0 : Int32) ∧ a4 ≤ (1000 : Int32)) ∧ (¬ a5 < (0 : Int32) ∧ a5 ≤ (100 : Int32))) ∧ r = 0 ∧ S' = (fX3_setRule a1 a2 a3 a4 a5 S) ∧ o = o') ∨ (¬ ((vp_in a1 8) ∧ (¬ a2 < (0 : Int32) ∧ a2 ≤ (1000 : Int32)) ∧ (¬ a3 < a2 ∧ a3 ≤ (1000 : Int32)) ∧ (¬ a4 < (0 : Int32) ∧ a4 ≤ (1000 : Int32)) ∧ (¬ a5 < (0 : Int32) ∧ a5 ≤ (100 : Int32))) ∧ r = 1 ∧ S = S' ∧ o = o')
set_option maxRecDepth 100000 in
set_option maxHeartbeats 4000000 in
theorem kL_setRule (l : Launch) (hlt : l.stackTraces = false) {G : xG} {Sa : Nat → Nat} {sz : Nat} {cJ : ClassId} {ao : Nat} (hsz : ∀ a : Nat, xA xYc G a → sz ≤ a) (hao : sz ≤ ao) (hnao : ¬ xA xYc G ao) (hap : xAp xYc G) (a1 : Int32) (a2 : Int32) (a3 : Int32) (a4 : Int32) (a5 : Int32) (S : xS) (o : Int64) (r : Int32) (S' : xS) (o' : Int64) (h : rL_setRule a1 a2 a3 a4 a5 S o r S' o') : xMw l G Sa sz cJ ao yL_setRule wsL_setRule 9 157 [.ref (G.2.2 0 0), .int a1, .int a2, .int a3, .int a4, .int a5] S S' o o' r := by
  rcases h with ⟨⟨c1, c2, c3, c4, c5⟩, rfl, rfl, rfl⟩ | ⟨hbad, rfl, rfl, rfl⟩
  · refine xMw_of (cc := cL_setRule) (maxL := 7) (hh := [(0, 11, 14, 13)]) (own := RL) hlt hsz hao [some (.ref (G.2.2 0 0)), some (.int a1), some (.int a2), some (.int a3), some (.int a4), some (.int a5), none] pnL rfl rfl (xcat1 rfl) (Nat.le_of_ble_eq_true rfl) rfl hap (fun F C V E2 L2 E => ?_)
    refine xg_aload_n C dL_setRule_0 rfl ?_
    refine xg_iload_n C dL_setRule_1 rfl ?_
    refine xg_iload_n C dL_setRule_2 rfl ?_
    refine xg_iload_n C dL_setRule_3 rfl ?_
    refine xg_iload C dL_setRule_4 rfl ?_
    refine xg_iload C dL_setRule_6 rfl ?_
    refine xg_callVvJ C V (xO_st hnao) (f := 0) (As := [.int a1, .int a2, .int a3, .int a4, .int a5]) (fun l => kX3_setRule l hap a1 a2 a3 a4 a5 S c1 c2.1 c2.2 c3.1 c3.2 c4.1 c4.2 c5.1 c5.2) gL_setRule_X3_setRule rfl hdX3_setRule ⟨by decide, by decide⟩ rfl rfl rfl rfl rfl (Nat.le_of_ble_eq_true rfl) ⟨Nat.zero_le _, Nat.zero_le _⟩ dL_setRule_8 ?_
    refine xg_goto C 18 dL_setRule_11 (by decide) ?_
    refine xg_iconst C dL_setRule_18 (v := (0 : Int32)) (by decide) ?_
    exact xretw E dL_setRule_19 rfl rfl rfl (Nat.zero_le _) (Nat.zero_le _)
  · refine xMw_of (cc := cL_setRule) (maxL := 7) (hh := [(0, 11, 14, 13)]) (own := RL) hlt hsz hao [some (.ref (G.2.2 0 0)), some (.int a1), some (.int a2), some (.int a3), some (.int a4), some (.int a5), none] pnL rfl rfl (xcat1 rfl) (Nat.le_of_ble_eq_true rfl) rfl hap (fun F C V E2 L2 E => ?_)
    refine xg_aload_n C dL_setRule_0 rfl ?_
    refine xg_iload_n C dL_setRule_1 rfl ?_
    refine xg_iload_n C dL_setRule_2 rfl ?_
    refine xg_iload_n C dL_setRule_3 rfl ?_
    refine xg_iload C dL_setRule_4 rfl ?_
    refine xg_iload C dL_setRule_6 rfl ?_
    refine xg_callVxJ (X := xIA) C V E2 (xO_st hnao) (f := 0) (As := [.int a1, .int a2, .int a3, .int a4, .int a5]) (fun l hl => kxX3_setRule l hl hsz hap a1 a2 a3 a4 a5 S hbad) gL_setRule_X3_setRule rfl hdX3_setRule ⟨by decide, by decide⟩ rfl rfl rfl rfl rfl (Nat.le_of_ble_eq_true rfl) ⟨by decide, by decide⟩ dL_setRule_8 [] ⟨0, 11, 14, 13⟩ [] rfl (fun z hz => by cases hz) (by decide) (by decide) (List.mem_of_getElem? (i := 1) rfl) (by decide +kernel) (fun q9 => ?_)
    refine xg_astore C dL_setRule_14 (by decide) (L' := [some (.ref (G.2.2 0 0)), some (.int a1), some (.int a2), some (.int a3), some (.int a4), some (.int a5), some (.ref q9)]) rfl ?_
    refine xg_iconst C dL_setRule_16 (v := (1 : Int32)) (by decide) ?_
    exact xretw E dL_setRule_17 rfl rfl rfl (Nat.le_refl _) (Nat.le_refl _)
def rL_byHand (a1 : Int32) (a2 : Int32) (S : xS) (o : Int64) (r : Int32) (S' : xS) (o' : Int64) : Prop :=
  (((vp_in a1 8) ∧ (¬ a2 < (-1 : Int32) ∧ a2 ≤ (10 : Int32))) ∧ (a2 = (-1 : Int32) → ¬ S 18 0 a1 = (0 : Int32)) ∧ r = 0 ∧ S' = (fX3_byHand a1 a2 S).1 ∧ o' = (fX3_byHand a1 a2 S).2.toInt64) ∨ (¬ ((vp_in a1 8) ∧ (¬ a2 < (-1 : Int32) ∧ a2 ≤ (10 : Int32))) ∧ r = 1 ∧ S = S' ∧ o = o') ∨ (((vp_in a1 8) ∧ (¬ a2 < (-1 : Int32) ∧ a2 ≤ (10 : Int32))) ∧ (a2 = (-1 : Int32) ∧ S 18 0 a1 = (0 : Int32)) ∧ r = 2 ∧ S = S' ∧ o = o')
set_option maxRecDepth 100000 in
set_option maxHeartbeats 4000000 in
theorem kL_byHand (l : Launch) (hlt : l.stackTraces = false) {G : xG} {Sa : Nat → Nat} {sz : Nat} {cJ : ClassId} {ao : Nat} (hsz : ∀ a : Nat, xA xYc G a → sz ≤ a) (hao : sz ≤ ao) (hnao : ¬ xA xYc G ao) (hap : xAp xYc G) (a1 : Int32) (a2 : Int32) (S : xS) (o : Int64) (r : Int32) (S' : xS) (o' : Int64) (h : rL_byHand a1 a2 S o r S' o') : xMw l G Sa sz cJ ao yL_byHand wsL_byHand 9 155 [.ref (G.2.2 0 0), .int a1, .int a2, .ref ao] S S' o o' r := by
  rcases h with ⟨⟨c1, c2⟩, x1, rfl, rfl, rfl⟩ | ⟨hbad, rfl, rfl, rfl⟩ | ⟨⟨c1, c2⟩, x1, rfl, rfl, rfl⟩
  · refine xMw_of (cc := cL_byHand) (maxL := 5) (hh := [(0, 10, 13, 13), (0, 10, 17, 48)]) (own := RL) hlt hsz hao [some (.ref (G.2.2 0 0)), some (.int a1), some (.int a2), some (.ref ao), none] pnL rfl rfl (xcat1 rfl) (Nat.le_of_ble_eq_true rfl) rfl hap (fun F C V E2 L2 E => ?_)
    refine xg_aload_n C dL_byHand_0 rfl ?_
    refine xg_iconst C dL_byHand_1 (v := (0 : Int32)) (by decide) ?_
    refine xg_aload_n C dL_byHand_2 rfl ?_
    refine xg_iload_n C dL_byHand_3 rfl ?_
    refine xg_iload_n C dL_byHand_4 rfl ?_
    refine xg_callViJ C V (xO_st hnao) (f := 0) (As := [.int a1, .int a2]) (r := (fX3_byHand a1 a2 S).2) (fun l => kX3_byHand l hap a1 a2 S c1 c2.1 c2.2 x1) gL_byHand_X3_byHand rfl hdX3_byHand ⟨by decide, by decide⟩ rfl rfl rfl rfl rfl (Nat.le_of_ble_eq_true rfl) ⟨Nat.zero_le _, Nat.zero_le _⟩ dL_byHand_5 ?_
    refine xg_i2l C dL_byHand_8 ?_
    refine xg_last C L2 hnao dL_byHand_9 ?_
    refine xg_goto C 21 dL_byHand_10 (by decide) ?_
    refine xg_iconst C dL_byHand_21 (v := (0 : Int32)) (by decide) ?_
    exact xretw E dL_byHand_22 rfl rfl rfl (Nat.zero_le _) (Nat.zero_le _)
  · refine xMw_of (cc := cL_byHand) (maxL := 5) (hh := [(0, 10, 13, 13), (0, 10, 17, 48)]) (own := RL) hlt hsz hao [some (.ref (G.2.2 0 0)), some (.int a1), some (.int a2), some (.ref ao), none] pnL rfl rfl (xcat1 rfl) (Nat.le_of_ble_eq_true rfl) rfl hap (fun F C V E2 L2 E => ?_)
    refine xg_aload_n C dL_byHand_0 rfl ?_
    refine xg_iconst C dL_byHand_1 (v := (0 : Int32)) (by decide) ?_
    refine xg_aload_n C dL_byHand_2 rfl ?_
    refine xg_iload_n C dL_byHand_3 rfl ?_
    refine xg_iload_n C dL_byHand_4 rfl ?_
    refine xg_callVxJ (X := xIA) C V E2 (xO_st hnao) (f := 0) (As := [.int a1, .int a2]) (fun l hl => kxX3_byHand l hl hsz hap a1 a2 S hbad) gL_byHand_X3_byHand rfl hdX3_byHand ⟨by decide, by decide⟩ rfl rfl rfl rfl rfl (Nat.le_of_ble_eq_true rfl) ⟨by decide, by decide⟩ dL_byHand_5 [] ⟨0, 10, 13, 13⟩ [⟨0, 10, 17, 48⟩] rfl (fun z hz => by cases hz) (by decide) (by decide) (List.mem_of_getElem? (i := 1) rfl) (by decide +kernel) (fun q9 => ?_)
    refine xg_astore C dL_byHand_13 (by decide) (L' := [some (.ref (G.2.2 0 0)), some (.int a1), some (.int a2), some (.ref ao), some (.ref q9)]) rfl ?_
    refine xg_iconst C dL_byHand_15 (v := (1 : Int32)) (by decide) ?_
    exact xretw E dL_byHand_16 rfl rfl rfl (Nat.le_refl _) (Nat.le_refl _)
  · refine xMw_of (cc := cL_byHand) (maxL := 5) (hh := [(0, 10, 13, 13), (0, 10, 17, 48)]) (own := RL) hlt hsz hao [some (.ref (G.2.2 0 0)), some (.int a1), some (.int a2), some (.ref ao), none] pnL rfl rfl (xcat1 rfl) (Nat.le_of_ble_eq_true rfl) rfl hap (fun F C V E2 L2 E => ?_)
    refine xg_aload_n C dL_byHand_0 rfl ?_
    refine xg_iconst C dL_byHand_1 (v := (0 : Int32)) (by decide) ?_
    refine xg_aload_n C dL_byHand_2 rfl ?_
    refine xg_iload_n C dL_byHand_3 rfl ?_
    refine xg_iload_n C dL_byHand_4 rfl ?_
    refine xg_callVxJ (X := xIS) C V E2 (xO_st hnao) (f := 0) (As := [.int a1, .int a2]) (fun l hl => kyX3_byHand l hl hsz hap a1 a2 S c1 c2.1 c2.2 x1.1 x1.2) gL_byHand_X3_byHand rfl hdX3_byHand ⟨by decide, by decide⟩ rfl rfl rfl rfl rfl (Nat.le_of_ble_eq_true rfl) ⟨by decide, by decide⟩ dL_byHand_5 [⟨0, 10, 13, 13⟩] ⟨0, 10, 17, 48⟩ [] rfl (fun z hz => by obtain rfl := List.mem_singleton.mp hz; exact ⟨by decide, (List.mem_of_getElem? (i := 1) rfl), rfl⟩) (by decide) (by decide) (List.mem_of_getElem? (i := 2) rfl) (by decide +kernel) (fun q9 => ?_)
    refine xg_astore C dL_byHand_17 (by decide) (L' := [some (.ref (G.2.2 0 0)), some (.int a1), some (.int a2), some (.ref ao), some (.ref q9)]) rfl ?_
    refine xg_iconst C dL_byHand_19 (v := (2 : Int32)) (by decide) ?_
    exact xretw E dL_byHand_20 rfl rfl rfl (Nat.le_refl _) (Nat.le_refl _)
def rL_opening (a1 : Int32) (S : xS) (o : Int64) (r : Int32) (S' : xS) (o' : Int64) : Prop :=
  (((vp_in a1 8)) ∧ r = 0 ∧ S = S' ∧ o' = (fX3_opening a1 S).toInt64) ∨ (¬ (vp_in a1 8) ∧ r = 1 ∧ S = S' ∧ o = o')
set_option maxRecDepth 100000 in
set_option maxHeartbeats 4000000 in
theorem kL_opening (l : Launch) (hlt : l.stackTraces = false) {G : xG} {Sa : Nat → Nat} {sz : Nat} {cJ : ClassId} {ao : Nat} (hsz : ∀ a : Nat, xA xYc G a → sz ≤ a) (hao : sz ≤ ao) (hnao : ¬ xA xYc G ao) (hap : xAp xYc G) (a1 : Int32) (S : xS) (o : Int64) (r : Int32) (S' : xS) (o' : Int64) (h : rL_opening a1 S o r S' o') : xMw l G Sa sz cJ ao yL_opening wsL_opening 9 153 [.ref (G.2.2 0 0), .int a1, .ref ao] S S' o o' r := by
  rcases h with ⟨c1, rfl, rfl, rfl⟩ | ⟨hbad, rfl, rfl, rfl⟩
  · refine xMw_of (cc := cL_opening) (maxL := 4) (hh := [(0, 9, 12, 13)]) (own := RL) hlt hsz hao [some (.ref (G.2.2 0 0)), some (.int a1), some (.ref ao), none] pnL rfl rfl (xcat1 rfl) (Nat.le_of_ble_eq_true rfl) rfl hap (fun F C V E2 L2 E => ?_)
    refine xg_aload_n C dL_opening_0 rfl ?_
    refine xg_iconst C dL_opening_1 (v := (0 : Int32)) (by decide) ?_
    refine xg_aload_n C dL_opening_2 rfl ?_
    refine xg_iload_n C dL_opening_3 rfl ?_
    refine xg_callViJ C V (xO_st hnao) (f := 0) (As := [.int a1]) (r := (fX3_opening a1 S)) (fun l => kX3_opening l hap a1 S c1) gL_opening_X3_opening rfl hdX3_opening ⟨by decide, by decide⟩ rfl rfl rfl rfl rfl (Nat.le_of_ble_eq_true rfl) ⟨Nat.zero_le _, Nat.zero_le _⟩ dL_opening_4 ?_
    refine xg_i2l C dL_opening_7 ?_
    refine xg_last C L2 hnao dL_opening_8 ?_
    refine xg_goto C 15 dL_opening_9 (by decide) ?_
    refine xg_iconst C dL_opening_15 (v := (0 : Int32)) (by decide) ?_
    exact xretw E dL_opening_16 rfl rfl rfl (Nat.zero_le _) (Nat.zero_le _)
  · refine xMw_of (cc := cL_opening) (maxL := 4) (hh := [(0, 9, 12, 13)]) (own := RL) hlt hsz hao [some (.ref (G.2.2 0 0)), some (.int a1), some (.ref ao), none] pnL rfl rfl (xcat1 rfl) (Nat.le_of_ble_eq_true rfl) rfl hap (fun F C V E2 L2 E => ?_)
    refine xg_aload_n C dL_opening_0 rfl ?_
    refine xg_iconst C dL_opening_1 (v := (0 : Int32)) (by decide) ?_
    refine xg_aload_n C dL_opening_2 rfl ?_
    refine xg_iload_n C dL_opening_3 rfl ?_
    refine xg_callVxJ (X := xIA) C V E2 (xO_st hnao) (f := 0) (As := [.int a1]) (fun l hl => kxX3_opening l hl hsz hap a1 S hbad) gL_opening_X3_opening rfl hdX3_opening ⟨by decide, by decide⟩ rfl rfl rfl rfl rfl (Nat.le_of_ble_eq_true rfl) ⟨by decide, by decide⟩ dL_opening_4 [] ⟨0, 9, 12, 13⟩ [] rfl (fun z hz => by cases hz) (by decide) (by decide) (List.mem_of_getElem? (i := 1) rfl) (by decide +kernel) (fun q9 => ?_)
    refine xg_astore_n C dL_opening_12 (by decide) (L' := [some (.ref (G.2.2 0 0)), some (.int a1), some (.ref ao), some (.ref q9)]) rfl ?_
    refine xg_iconst C dL_opening_13 (v := (1 : Int32)) (by decide) ?_
    exact xretw E dL_opening_14 rfl rfl rfl (Nat.le_refl _) (Nat.le_refl _)
def rL_safety (a1 : Int32) (S : xS) (o : Int64) (r : Int32) (S' : xS) (o' : Int64) : Prop :=
  (((vp_in a1 8)) ∧ r = 0 ∧ S = S' ∧ o' = (fX3_safety a1 S).toInt64) ∨ (¬ (vp_in a1 8) ∧ r = 1 ∧ S = S' ∧ o = o')
set_option maxRecDepth 100000 in
set_option maxHeartbeats 4000000 in
theorem kL_safety (l : Launch) (hlt : l.stackTraces = false) {G : xG} {Sa : Nat → Nat} {sz : Nat} {cJ : ClassId} {ao : Nat} (hsz : ∀ a : Nat, xA xYc G a → sz ≤ a) (hao : sz ≤ ao) (hnao : ¬ xA xYc G ao) (hap : xAp xYc G) (a1 : Int32) (S : xS) (o : Int64) (r : Int32) (S' : xS) (o' : Int64) (h : rL_safety a1 S o r S' o') : xMw l G Sa sz cJ ao yL_safety wsL_safety 9 153 [.ref (G.2.2 0 0), .int a1, .ref ao] S S' o o' r := by
  rcases h with ⟨c1, rfl, rfl, rfl⟩ | ⟨hbad, rfl, rfl, rfl⟩
  · refine xMw_of (cc := cL_safety) (maxL := 4) (hh := [(0, 9, 12, 13)]) (own := RL) hlt hsz hao [some (.ref (G.2.2 0 0)), some (.int a1), some (.ref ao), none] pnL rfl rfl (xcat1 rfl) (Nat.le_of_ble_eq_true rfl) rfl hap (fun F C V E2 L2 E => ?_)
    refine xg_aload_n C dL_safety_0 rfl ?_
    refine xg_iconst C dL_safety_1 (v := (0 : Int32)) (by decide) ?_
    refine xg_aload_n C dL_safety_2 rfl ?_
    refine xg_iload_n C dL_safety_3 rfl ?_
    refine xg_callViJ C V (xO_st hnao) (f := 0) (As := [.int a1]) (r := (fX3_safety a1 S)) (fun l => kX3_safety l hap a1 S c1) gL_safety_X3_safety rfl hdX3_safety ⟨by decide, by decide⟩ rfl rfl rfl rfl rfl (Nat.le_of_ble_eq_true rfl) ⟨Nat.zero_le _, Nat.zero_le _⟩ dL_safety_4 ?_
    refine xg_i2l C dL_safety_7 ?_
    refine xg_last C L2 hnao dL_safety_8 ?_
    refine xg_goto C 15 dL_safety_9 (by decide) ?_
    refine xg_iconst C dL_safety_15 (v := (0 : Int32)) (by decide) ?_
    exact xretw E dL_safety_16 rfl rfl rfl (Nat.zero_le _) (Nat.zero_le _)
  · refine xMw_of (cc := cL_safety) (maxL := 4) (hh := [(0, 9, 12, 13)]) (own := RL) hlt hsz hao [some (.ref (G.2.2 0 0)), some (.int a1), some (.ref ao), none] pnL rfl rfl (xcat1 rfl) (Nat.le_of_ble_eq_true rfl) rfl hap (fun F C V E2 L2 E => ?_)
    refine xg_aload_n C dL_safety_0 rfl ?_
    refine xg_iconst C dL_safety_1 (v := (0 : Int32)) (by decide) ?_
    refine xg_aload_n C dL_safety_2 rfl ?_
    refine xg_iload_n C dL_safety_3 rfl ?_
    refine xg_callVxJ (X := xIA) C V E2 (xO_st hnao) (f := 0) (As := [.int a1]) (fun l hl => kxX3_safety l hl hsz hap a1 S hbad) gL_safety_X3_safety rfl hdX3_safety ⟨by decide, by decide⟩ rfl rfl rfl rfl rfl (Nat.le_of_ble_eq_true rfl) ⟨by decide, by decide⟩ dL_safety_4 [] ⟨0, 9, 12, 13⟩ [] rfl (fun z hz => by cases hz) (by decide) (by decide) (List.mem_of_getElem? (i := 1) rfl) (by decide +kernel) (fun q9 => ?_)
    refine xg_astore_n C dL_safety_12 (by decide) (L' := [some (.ref (G.2.2 0 0)), some (.int a1), some (.ref ao), some (.ref q9)]) rfl ?_
    refine xg_iconst C dL_safety_13 (v := (1 : Int32)) (by decide) ?_
    exact xretw E dL_safety_14 rfl rfl rfl (Nat.le_refl _) (Nat.le_refl _)
def rL_fall (a1 : Int32) (S : xS) (o : Int64) (r : Int32) (S' : xS) (o' : Int64) : Prop :=
  (((vp_in a1 8)) ∧ S 19 0 a1 = (0 : Int32) ∧ r = 0 ∧ S' = (fX3_fall a1 S) ∧ o = o') ∨ (¬ (vp_in a1 8) ∧ r = 1 ∧ S = S' ∧ o = o') ∨ (((vp_in a1 8)) ∧ (¬ S 19 0 a1 = (0 : Int32)) ∧ r = 2 ∧ S = S' ∧ o = o')
set_option maxRecDepth 100000 in
set_option maxHeartbeats 4000000 in
theorem kL_fall (l : Launch) (hlt : l.stackTraces = false) {G : xG} {Sa : Nat → Nat} {sz : Nat} {cJ : ClassId} {ao : Nat} (hsz : ∀ a : Nat, xA xYc G a → sz ≤ a) (hao : sz ≤ ao) (hnao : ¬ xA xYc G ao) (hap : xAp xYc G) (a1 : Int32) (S : xS) (o : Int64) (r : Int32) (S' : xS) (o' : Int64) (h : rL_fall a1 S o r S' o') : xMw l G Sa sz cJ ao yL_fall wsL_fall 9 153 [.ref (G.2.2 0 0), .int a1] S S' o o' r := by
  rcases h with ⟨c1, x1, rfl, rfl, rfl⟩ | ⟨hbad, rfl, rfl, rfl⟩ | ⟨c1, x1, rfl, rfl, rfl⟩
  · refine xMw_of (cc := cL_fall) (maxL := 3) (hh := [(0, 5, 8, 13), (0, 5, 11, 48)]) (own := RL) hlt hsz hao [some (.ref (G.2.2 0 0)), some (.int a1), none] pnL rfl rfl (xcat1 rfl) (Nat.le_of_ble_eq_true rfl) rfl hap (fun F C V E2 L2 E => ?_)
    refine xg_aload_n C dL_fall_0 rfl ?_
    refine xg_iload_n C dL_fall_1 rfl ?_
    refine xg_callVvJ C V (xO_st hnao) (f := 0) (As := [.int a1]) (fun l => kX3_fall l hap a1 S c1 x1) gL_fall_X3_fall rfl hdX3_fall ⟨by decide, by decide⟩ rfl rfl rfl rfl rfl (Nat.le_of_ble_eq_true rfl) ⟨Nat.zero_le _, Nat.zero_le _⟩ dL_fall_2 ?_
    refine xg_goto C 14 dL_fall_5 (by decide) ?_
    refine xg_iconst C dL_fall_14 (v := (0 : Int32)) (by decide) ?_
    exact xretw E dL_fall_15 rfl rfl rfl (Nat.zero_le _) (Nat.zero_le _)
  · refine xMw_of (cc := cL_fall) (maxL := 3) (hh := [(0, 5, 8, 13), (0, 5, 11, 48)]) (own := RL) hlt hsz hao [some (.ref (G.2.2 0 0)), some (.int a1), none] pnL rfl rfl (xcat1 rfl) (Nat.le_of_ble_eq_true rfl) rfl hap (fun F C V E2 L2 E => ?_)
    refine xg_aload_n C dL_fall_0 rfl ?_
    refine xg_iload_n C dL_fall_1 rfl ?_
    refine xg_callVxJ (X := xIA) C V E2 (xO_st hnao) (f := 0) (As := [.int a1]) (fun l hl => kxX3_fall l hl hsz hap a1 S hbad) gL_fall_X3_fall rfl hdX3_fall ⟨by decide, by decide⟩ rfl rfl rfl rfl rfl (Nat.le_of_ble_eq_true rfl) ⟨by decide, by decide⟩ dL_fall_2 [] ⟨0, 5, 8, 13⟩ [⟨0, 5, 11, 48⟩] rfl (fun z hz => by cases hz) (by decide) (by decide) (List.mem_of_getElem? (i := 1) rfl) (by decide +kernel) (fun q9 => ?_)
    refine xg_astore_n C dL_fall_8 (by decide) (L' := [some (.ref (G.2.2 0 0)), some (.int a1), some (.ref q9)]) rfl ?_
    refine xg_iconst C dL_fall_9 (v := (1 : Int32)) (by decide) ?_
    exact xretw E dL_fall_10 rfl rfl rfl (Nat.le_refl _) (Nat.le_refl _)
  · refine xMw_of (cc := cL_fall) (maxL := 3) (hh := [(0, 5, 8, 13), (0, 5, 11, 48)]) (own := RL) hlt hsz hao [some (.ref (G.2.2 0 0)), some (.int a1), none] pnL rfl rfl (xcat1 rfl) (Nat.le_of_ble_eq_true rfl) rfl hap (fun F C V E2 L2 E => ?_)
    refine xg_aload_n C dL_fall_0 rfl ?_
    refine xg_iload_n C dL_fall_1 rfl ?_
    refine xg_callVxJ (X := xIS) C V E2 (xO_st hnao) (f := 0) (As := [.int a1]) (fun l hl => kyX3_fall l hl hsz hap a1 S c1 x1) gL_fall_X3_fall rfl hdX3_fall ⟨by decide, by decide⟩ rfl rfl rfl rfl rfl (Nat.le_of_ble_eq_true rfl) ⟨by decide, by decide⟩ dL_fall_2 [⟨0, 5, 8, 13⟩] ⟨0, 5, 11, 48⟩ [] rfl (fun z hz => by obtain rfl := List.mem_singleton.mp hz; exact ⟨by decide, (List.mem_of_getElem? (i := 1) rfl), rfl⟩) (by decide) (by decide) (List.mem_of_getElem? (i := 2) rfl) (by decide +kernel) (fun q9 => ?_)
    refine xg_astore_n C dL_fall_11 (by decide) (L' := [some (.ref (G.2.2 0 0)), some (.int a1), some (.ref q9)]) rfl ?_
    refine xg_iconst C dL_fall_12 (v := (2 : Int32)) (by decide) ?_
    exact xretw E dL_fall_13 rfl rfl rfl (Nat.le_refl _) (Nat.le_refl _)
def rL_comeUp (a1 : Int32) (S : xS) (o : Int64) (r : Int32) (S' : xS) (o' : Int64) : Prop :=
  (((vp_in a1 8)) ∧ ¬ S 19 0 a1 = (0 : Int32) ∧ r = 0 ∧ S' = (fX3_comeUp a1 S) ∧ o = o') ∨ (¬ (vp_in a1 8) ∧ r = 1 ∧ S = S' ∧ o = o') ∨ (((vp_in a1 8)) ∧ (S 19 0 a1 = (0 : Int32)) ∧ r = 2 ∧ S = S' ∧ o = o')
set_option maxRecDepth 100000 in
set_option maxHeartbeats 4000000 in
theorem kL_comeUp (l : Launch) (hlt : l.stackTraces = false) {G : xG} {Sa : Nat → Nat} {sz : Nat} {cJ : ClassId} {ao : Nat} (hsz : ∀ a : Nat, xA xYc G a → sz ≤ a) (hao : sz ≤ ao) (hnao : ¬ xA xYc G ao) (hap : xAp xYc G) (a1 : Int32) (S : xS) (o : Int64) (r : Int32) (S' : xS) (o' : Int64) (h : rL_comeUp a1 S o r S' o') : xMw l G Sa sz cJ ao yL_comeUp wsL_comeUp 9 153 [.ref (G.2.2 0 0), .int a1] S S' o o' r := by
  rcases h with ⟨c1, x1, rfl, rfl, rfl⟩ | ⟨hbad, rfl, rfl, rfl⟩ | ⟨c1, x1, rfl, rfl, rfl⟩
  · refine xMw_of (cc := cL_comeUp) (maxL := 3) (hh := [(0, 5, 8, 13), (0, 5, 11, 48)]) (own := RL) hlt hsz hao [some (.ref (G.2.2 0 0)), some (.int a1), none] pnL rfl rfl (xcat1 rfl) (Nat.le_of_ble_eq_true rfl) rfl hap (fun F C V E2 L2 E => ?_)
    refine xg_aload_n C dL_comeUp_0 rfl ?_
    refine xg_iload_n C dL_comeUp_1 rfl ?_
    refine xg_callVvJ C V (xO_st hnao) (f := 0) (As := [.int a1]) (fun l => kX3_comeUp l hap a1 S c1 x1) gL_comeUp_X3_comeUp rfl hdX3_comeUp ⟨by decide, by decide⟩ rfl rfl rfl rfl rfl (Nat.le_of_ble_eq_true rfl) ⟨Nat.zero_le _, Nat.zero_le _⟩ dL_comeUp_2 ?_
    refine xg_goto C 14 dL_comeUp_5 (by decide) ?_
    refine xg_iconst C dL_comeUp_14 (v := (0 : Int32)) (by decide) ?_
    exact xretw E dL_comeUp_15 rfl rfl rfl (Nat.zero_le _) (Nat.zero_le _)
  · refine xMw_of (cc := cL_comeUp) (maxL := 3) (hh := [(0, 5, 8, 13), (0, 5, 11, 48)]) (own := RL) hlt hsz hao [some (.ref (G.2.2 0 0)), some (.int a1), none] pnL rfl rfl (xcat1 rfl) (Nat.le_of_ble_eq_true rfl) rfl hap (fun F C V E2 L2 E => ?_)
    refine xg_aload_n C dL_comeUp_0 rfl ?_
    refine xg_iload_n C dL_comeUp_1 rfl ?_
    refine xg_callVxJ (X := xIA) C V E2 (xO_st hnao) (f := 0) (As := [.int a1]) (fun l hl => kxX3_comeUp l hl hsz hap a1 S hbad) gL_comeUp_X3_comeUp rfl hdX3_comeUp ⟨by decide, by decide⟩ rfl rfl rfl rfl rfl (Nat.le_of_ble_eq_true rfl) ⟨by decide, by decide⟩ dL_comeUp_2 [] ⟨0, 5, 8, 13⟩ [⟨0, 5, 11, 48⟩] rfl (fun z hz => by cases hz) (by decide) (by decide) (List.mem_of_getElem? (i := 1) rfl) (by decide +kernel) (fun q9 => ?_)
    refine xg_astore_n C dL_comeUp_8 (by decide) (L' := [some (.ref (G.2.2 0 0)), some (.int a1), some (.ref q9)]) rfl ?_
    refine xg_iconst C dL_comeUp_9 (v := (1 : Int32)) (by decide) ?_
    exact xretw E dL_comeUp_10 rfl rfl rfl (Nat.le_refl _) (Nat.le_refl _)
  · refine xMw_of (cc := cL_comeUp) (maxL := 3) (hh := [(0, 5, 8, 13), (0, 5, 11, 48)]) (own := RL) hlt hsz hao [some (.ref (G.2.2 0 0)), some (.int a1), none] pnL rfl rfl (xcat1 rfl) (Nat.le_of_ble_eq_true rfl) rfl hap (fun F C V E2 L2 E => ?_)
    refine xg_aload_n C dL_comeUp_0 rfl ?_
    refine xg_iload_n C dL_comeUp_1 rfl ?_
    refine xg_callVxJ (X := xIS) C V E2 (xO_st hnao) (f := 0) (As := [.int a1]) (fun l hl => kyX3_comeUp l hl hsz hap a1 S c1 x1) gL_comeUp_X3_comeUp rfl hdX3_comeUp ⟨by decide, by decide⟩ rfl rfl rfl rfl rfl (Nat.le_of_ble_eq_true rfl) ⟨by decide, by decide⟩ dL_comeUp_2 [⟨0, 5, 8, 13⟩] ⟨0, 5, 11, 48⟩ [] rfl (fun z hz => by obtain rfl := List.mem_singleton.mp hz; exact ⟨by decide, (List.mem_of_getElem? (i := 1) rfl), rfl⟩) (by decide) (by decide) (List.mem_of_getElem? (i := 2) rfl) (by decide +kernel) (fun q9 => ?_)
    refine xg_astore_n C dL_comeUp_11 (by decide) (L' := [some (.ref (G.2.2 0 0)), some (.int a1), some (.ref q9)]) rfl ?_
    refine xg_iconst C dL_comeUp_12 (v := (2 : Int32)) (by decide) ?_
    exact xretw E dL_comeUp_13 rfl rfl rfl (Nat.le_refl _) (Nat.le_refl _)
def rL_setGroup (a1 : Int32) (a2 : Int32) (S : xS) (o : Int64) (r : Int32) (S' : xS) (o' : Int64) : Prop :=
  (((vp_in a1 8) ∧ (¬ a2 < (0 : Int32) ∧ a2 ≤ (3 : Int32))) ∧ r = 0 ∧ S' = (fX3_setGroup a1 a2 S).1 ∧ o' = (fX3_setGroup a1 a2 S).2.toInt64) ∨ (¬ ((vp_in a1 8) ∧ (¬ a2 < (0 : Int32) ∧ a2 ≤ (3 : Int32))) ∧ r = 1 ∧ S = S' ∧ o = o')
set_option maxRecDepth 100000 in
set_option maxHeartbeats 4000000 in
theorem kL_setGroup (l : Launch) (hlt : l.stackTraces = false) {G : xG} {Sa : Nat → Nat} {sz : Nat} {cJ : ClassId} {ao : Nat} (hsz : ∀ a : Nat, xA xYc G a → sz ≤ a) (hao : sz ≤ ao) (hnao : ¬ xA xYc G ao) (hap : xAp xYc G) (a1 : Int32) (a2 : Int32) (S : xS) (o : Int64) (r : Int32) (S' : xS) (o' : Int64) (h : rL_setGroup a1 a2 S o r S' o') : xMw l G Sa sz cJ ao yL_setGroup wsL_setGroup 9 155 [.ref (G.2.2 0 0), .int a1, .int a2, .ref ao] S S' o o' r := by
  rcases h with ⟨⟨c1, c2⟩, rfl, rfl, rfl⟩ | ⟨hbad, rfl, rfl, rfl⟩
  · refine xMw_of (cc := cL_setGroup) (maxL := 5) (hh := [(0, 10, 13, 13)]) (own := RL) hlt hsz hao [some (.ref (G.2.2 0 0)), some (.int a1), some (.int a2), some (.ref ao), none] pnL rfl rfl (xcat1 rfl) (Nat.le_of_ble_eq_true rfl) rfl hap (fun F C V E2 L2 E => ?_)
    refine xg_aload_n C dL_setGroup_0 rfl ?_
    refine xg_iconst C dL_setGroup_1 (v := (0 : Int32)) (by decide) ?_
    refine xg_aload_n C dL_setGroup_2 rfl ?_
    refine xg_iload_n C dL_setGroup_3 rfl ?_
    refine xg_iload_n C dL_setGroup_4 rfl ?_
    refine xg_callViJ C V (xO_st hnao) (f := 0) (As := [.int a1, .int a2]) (r := (fX3_setGroup a1 a2 S).2) (fun l => kX3_setGroup l hap a1 a2 S c1 c2.1 c2.2) gL_setGroup_X3_setGroup rfl hdX3_setGroup ⟨by decide, by decide⟩ rfl rfl rfl rfl rfl (Nat.le_of_ble_eq_true rfl) ⟨Nat.zero_le _, Nat.zero_le _⟩ dL_setGroup_5 ?_
    refine xg_i2l C dL_setGroup_8 ?_
    refine xg_last C L2 hnao dL_setGroup_9 ?_
    refine xg_goto C 17 dL_setGroup_10 (by decide) ?_
    refine xg_iconst C dL_setGroup_17 (v := (0 : Int32)) (by decide) ?_
    exact xretw E dL_setGroup_18 rfl rfl rfl (Nat.zero_le _) (Nat.zero_le _)
  · refine xMw_of (cc := cL_setGroup) (maxL := 5) (hh := [(0, 10, 13, 13)]) (own := RL) hlt hsz hao [some (.ref (G.2.2 0 0)), some (.int a1), some (.int a2), some (.ref ao), none] pnL rfl rfl (xcat1 rfl) (Nat.le_of_ble_eq_true rfl) rfl hap (fun F C V E2 L2 E => ?_)
    refine xg_aload_n C dL_setGroup_0 rfl ?_
    refine xg_iconst C dL_setGroup_1 (v := (0 : Int32)) (by decide) ?_
    refine xg_aload_n C dL_setGroup_2 rfl ?_
    refine xg_iload_n C dL_setGroup_3 rfl ?_
    refine xg_iload_n C dL_setGroup_4 rfl ?_
    refine xg_callVxJ (X := xIA) C V E2 (xO_st hnao) (f := 0) (As := [.int a1, .int a2]) (fun l hl => kxX3_setGroup l hl hsz hap a1 a2 S hbad) gL_setGroup_X3_setGroup rfl hdX3_setGroup ⟨by decide, by decide⟩ rfl rfl rfl rfl rfl (Nat.le_of_ble_eq_true rfl) ⟨by decide, by decide⟩ dL_setGroup_5 [] ⟨0, 10, 13, 13⟩ [] rfl (fun z hz => by cases hz) (by decide) (by decide) (List.mem_of_getElem? (i := 1) rfl) (by decide +kernel) (fun q9 => ?_)
    refine xg_astore C dL_setGroup_13 (by decide) (L' := [some (.ref (G.2.2 0 0)), some (.int a1), some (.int a2), some (.ref ao), some (.ref q9)]) rfl ?_
    refine xg_iconst C dL_setGroup_15 (v := (1 : Int32)) (by decide) ?_
    exact xretw E dL_setGroup_16 rfl rfl rfl (Nat.le_refl _) (Nat.le_refl _)
def rL_setStuck (a1 : Int32) (a2 : Int32) (S : xS) (o : Int64) (r : Int32) (S' : xS) (o' : Int64) : Prop :=
  (((vp_in a1 8)) ∧ r = 0 ∧ S' = (fX3_setStuck a1 a2 S).1 ∧ o' = (if (fX3_setStuck a1 a2 S).2 = (0 : Int32) then (0 : Int64) else (1 : Int64))) ∨ (¬ (vp_in a1 8) ∧ r = 1 ∧ S = S' ∧ o = o')
set_option maxRecDepth 100000 in
set_option maxHeartbeats 4000000 in
theorem kL_setStuck (l : Launch) (hlt : l.stackTraces = false) {G : xG} {Sa : Nat → Nat} {sz : Nat} {cJ : ClassId} {ao : Nat} (hsz : ∀ a : Nat, xA xYc G a → sz ≤ a) (hao : sz ≤ ao) (hnao : ¬ xA xYc G ao) (hap : xAp xYc G) (a1 : Int32) (a2 : Int32) (S : xS) (o : Int64) (r : Int32) (S' : xS) (o' : Int64) (hz : narrow .boolean (.int (S 20 0 a1)) = .int (S 20 0 a1)) (hb : narrow .boolean (.int a2) = .int a2) (h : rL_setStuck a1 a2 S o r S' o') : xMw l G Sa sz cJ ao yL_setStuck wsL_setStuck 9 155 [.ref (G.2.2 0 0), .int a1, .int a2, .ref ao] S S' o o' r := by
  rcases h with ⟨c1, rfl, rfl, rfl⟩ | ⟨hbad, rfl, rfl, rfl⟩
  · refine xMw_of (cc := cL_setStuck) (maxL := 5) (hh := [(0, 17, 20, 13)]) (own := RL) hlt hsz hao [some (.ref (G.2.2 0 0)), some (.int a1), some (.int a2), some (.ref ao), none] pnL rfl rfl (xcat1 rfl) (Nat.le_of_ble_eq_true rfl) rfl hap (fun F C V E2 L2 E => ?_)
    refine xg_aload_n C dL_setStuck_0 rfl ?_
    refine xg_iconst C dL_setStuck_1 (v := (0 : Int32)) (by decide) ?_
    refine xg_aload_n C dL_setStuck_2 rfl ?_
    refine xg_iload_n C dL_setStuck_3 rfl ?_
    refine xg_iload_n C dL_setStuck_4 rfl ?_
    refine xg_callViJ C V (xO_st hnao) (f := 0) (As := [.int a1, .int a2]) (r := (fX3_setStuck a1 a2 S).2) (fun l => kX3_setStuck l hap a1 a2 S c1 hz hb) gL_setStuck_X3_setStuck rfl hdX3_setStuck ⟨by decide, by decide⟩ rfl rfl rfl rfl rfl (Nat.le_of_ble_eq_true rfl) ⟨Nat.zero_le _, Nat.zero_le _⟩ dL_setStuck_5 ?_
    refine xg_if_eq C 15 dL_setStuck_8 (by decide) (fun h => ?_) (fun h => ?_)
    · refine xg_lconst C dL_setStuck_15 (v := (0 : Int64)) (by decide) ?_
      refine xg_last C L2 hnao dL_setStuck_16 ?_
      refine xg_goto C 24 dL_setStuck_17 (by decide) ?_
      refine xg_iconst C dL_setStuck_24 (v := (0 : Int32)) (by decide) ?_
      exact xretw E dL_setStuck_25 rfl rfl (by rw [if_pos h]) (Nat.zero_le _) (Nat.zero_le _)
    · refine xg_lconst C dL_setStuck_11 (v := (1 : Int64)) (by decide) ?_
      refine xg_goto C 16 dL_setStuck_12 (by decide) ?_
      refine xg_last C L2 hnao dL_setStuck_16 ?_
      refine xg_goto C 24 dL_setStuck_17 (by decide) ?_
      refine xg_iconst C dL_setStuck_24 (v := (0 : Int32)) (by decide) ?_
      exact xretw E dL_setStuck_25 rfl rfl (by rw [if_neg h]) (Nat.zero_le _) (Nat.zero_le _)
  · refine xMw_of (cc := cL_setStuck) (maxL := 5) (hh := [(0, 17, 20, 13)]) (own := RL) hlt hsz hao [some (.ref (G.2.2 0 0)), some (.int a1), some (.int a2), some (.ref ao), none] pnL rfl rfl (xcat1 rfl) (Nat.le_of_ble_eq_true rfl) rfl hap (fun F C V E2 L2 E => ?_)
    refine xg_aload_n C dL_setStuck_0 rfl ?_
    refine xg_iconst C dL_setStuck_1 (v := (0 : Int32)) (by decide) ?_
    refine xg_aload_n C dL_setStuck_2 rfl ?_
    refine xg_iload_n C dL_setStuck_3 rfl ?_
    refine xg_iload_n C dL_setStuck_4 rfl ?_
    refine xg_callVxJ (X := xIA) C V E2 (xO_st hnao) (f := 0) (As := [.int a1, .int a2]) (fun l hl => kxX3_setStuck l hl hsz hap a1 a2 S hbad) gL_setStuck_X3_setStuck rfl hdX3_setStuck ⟨by decide, by decide⟩ rfl rfl rfl rfl rfl (Nat.le_of_ble_eq_true rfl) ⟨by decide, by decide⟩ dL_setStuck_5 [] ⟨0, 17, 20, 13⟩ [] rfl (fun z hz => by cases hz) (by decide) (by decide) (List.mem_of_getElem? (i := 1) rfl) (by decide +kernel) (fun q9 => ?_)
    refine xg_astore C dL_setStuck_20 (by decide) (L' := [some (.ref (G.2.2 0 0)), some (.int a1), some (.int a2), some (.ref ao), some (.ref q9)]) rfl ?_
    refine xg_iconst C dL_setStuck_22 (v := (1 : Int32)) (by decide) ?_
    exact xretw E dL_setStuck_23 rfl rfl rfl (Nat.le_refl _) (Nat.le_refl _)
def rL_setTimes (a1 : Int32) (a2 : Int32) (S : xS) (o : Int64) (r : Int32) (S' : xS) (o' : Int64) : Prop :=
  (((¬ a1 < (1 : Int32) ∧ a1 ≤ (50 : Int32)) ∧ (¬ a2 < a1 ∧ a2 ≤ (100 : Int32))) ∧ r = 0 ∧ S' = (fX3_setTimes a1 a2 S) ∧ o = o') ∨ (¬ ((¬ a1 < (1 : Int32) ∧ a1 ≤ (50 : Int32)) ∧ (¬ a2 < a1 ∧ a2 ≤ (100 : Int32))) ∧ r = 1 ∧ S = S' ∧ o = o')
set_option maxRecDepth 100000 in
set_option maxHeartbeats 4000000 in
theorem kL_setTimes (l : Launch) (hlt : l.stackTraces = false) {G : xG} {Sa : Nat → Nat} {sz : Nat} {cJ : ClassId} {ao : Nat} (hsz : ∀ a : Nat, xA xYc G a → sz ≤ a) (hao : sz ≤ ao) (hnao : ¬ xA xYc G ao) (hap : xAp xYc G) (a1 : Int32) (a2 : Int32) (S : xS) (o : Int64) (r : Int32) (S' : xS) (o' : Int64) (h : rL_setTimes a1 a2 S o r S' o') : xMw l G Sa sz cJ ao yL_setTimes wsL_setTimes 8 134 [.ref (G.2.2 0 0), .int a1, .int a2] S S' o o' r := by
  rcases h with ⟨⟨c1, c2⟩, rfl, rfl, rfl⟩ | ⟨hbad, rfl, rfl, rfl⟩
  · refine xMw_of (cc := cL_setTimes) (maxL := 4) (hh := [(0, 6, 9, 13)]) (own := RL) hlt hsz hao [some (.ref (G.2.2 0 0)), some (.int a1), some (.int a2), none] pnL rfl rfl (xcat1 rfl) (Nat.le_of_ble_eq_true rfl) rfl hap (fun F C V E2 L2 E => ?_)
    refine xg_aload_n C dL_setTimes_0 rfl ?_
    refine xg_iload_n C dL_setTimes_1 rfl ?_
    refine xg_iload_n C dL_setTimes_2 rfl ?_
    refine xg_callVvJ C V (xO_st hnao) (f := 0) (As := [.int a1, .int a2]) (fun l => kX3_setTimes l hap a1 a2 S c1.1 c1.2 c2.1 c2.2) gL_setTimes_X3_setTimes rfl hdX3_setTimes ⟨by decide, by decide⟩ rfl rfl rfl rfl rfl (Nat.le_of_ble_eq_true rfl) ⟨Nat.zero_le _, Nat.zero_le _⟩ dL_setTimes_3 ?_
    refine xg_goto C 12 dL_setTimes_6 (by decide) ?_
    refine xg_iconst C dL_setTimes_12 (v := (0 : Int32)) (by decide) ?_
    exact xretw E dL_setTimes_13 rfl rfl rfl (Nat.zero_le _) (Nat.zero_le _)
  · refine xMw_of (cc := cL_setTimes) (maxL := 4) (hh := [(0, 6, 9, 13)]) (own := RL) hlt hsz hao [some (.ref (G.2.2 0 0)), some (.int a1), some (.int a2), none] pnL rfl rfl (xcat1 rfl) (Nat.le_of_ble_eq_true rfl) rfl hap (fun F C V E2 L2 E => ?_)
    refine xg_aload_n C dL_setTimes_0 rfl ?_
    refine xg_iload_n C dL_setTimes_1 rfl ?_
    refine xg_iload_n C dL_setTimes_2 rfl ?_
    refine xg_callVxJ (X := xIA) C V E2 (xO_st hnao) (f := 0) (As := [.int a1, .int a2]) (fun l hl => kxX3_setTimes l hl hsz hap a1 a2 S hbad) gL_setTimes_X3_setTimes rfl hdX3_setTimes ⟨by decide, by decide⟩ rfl rfl rfl rfl rfl (Nat.le_of_ble_eq_true rfl) ⟨by decide, by decide⟩ dL_setTimes_3 [] ⟨0, 6, 9, 13⟩ [] rfl (fun z hz => by cases hz) (by decide) (by decide) (List.mem_of_getElem? (i := 1) rfl) (by decide +kernel) (fun q9 => ?_)
    refine xg_astore_n C dL_setTimes_9 (by decide) (L' := [some (.ref (G.2.2 0 0)), some (.int a1), some (.int a2), some (.ref q9)]) rfl ?_
    refine xg_iconst C dL_setTimes_10 (v := (1 : Int32)) (by decide) ?_
    exact xretw E dL_setTimes_11 rfl rfl rfl (Nat.le_refl _) (Nat.le_refl _)
def rL_believed (a1 : Int32) (a2 : Int32) (S : xS) (o : Int64) (r : Int32) (S' : xS) (o' : Int64) : Prop :=
  (((vp_in a1 8) ∧ (vp_in a2 8)) ∧ r = 0 ∧ S = S' ∧ o' = (fX3_believed a1 a2 S).toInt64) ∨ (¬ ((vp_in a1 8) ∧ (vp_in a2 8)) ∧ r = 1 ∧ S = S' ∧ o = o')
set_option maxRecDepth 100000 in
set_option maxHeartbeats 4000000 in
theorem kL_believed (l : Launch) (hlt : l.stackTraces = false) {G : xG} {Sa : Nat → Nat} {sz : Nat} {cJ : ClassId} {ao : Nat} (hsz : ∀ a : Nat, xA xYc G a → sz ≤ a) (hao : sz ≤ ao) (hnao : ¬ xA xYc G ao) (hap : xAp xYc G) (a1 : Int32) (a2 : Int32) (S : xS) (o : Int64) (r : Int32) (S' : xS) (o' : Int64) (h : rL_believed a1 a2 S o r S' o') : xMw l G Sa sz cJ ao yL_believed wsL_believed 9 154 [.ref (G.2.2 0 0), .int a1, .int a2, .ref ao] S S' o o' r := by
  rcases h with ⟨⟨c1, c2⟩, rfl, rfl, rfl⟩ | ⟨hbad, rfl, rfl, rfl⟩
  · refine xMw_of (cc := cL_believed) (maxL := 5) (hh := [(0, 10, 13, 13)]) (own := RL) hlt hsz hao [some (.ref (G.2.2 0 0)), some (.int a1), some (.int a2), some (.ref ao), none] pnL rfl rfl (xcat1 rfl) (Nat.le_of_ble_eq_true rfl) rfl hap (fun F C V E2 L2 E => ?_)
    refine xg_aload_n C dL_believed_0 rfl ?_
    refine xg_iconst C dL_believed_1 (v := (0 : Int32)) (by decide) ?_
    refine xg_aload_n C dL_believed_2 rfl ?_
    refine xg_iload_n C dL_believed_3 rfl ?_
    refine xg_iload_n C dL_believed_4 rfl ?_
    refine xg_callViJ C V (xO_st hnao) (f := 0) (As := [.int a1, .int a2]) (r := (fX3_believed a1 a2 S)) (fun l => kX3_believed l hap a1 a2 S c1 c2) gL_believed_X3_believed rfl hdX3_believed ⟨by decide, by decide⟩ rfl rfl rfl rfl rfl (Nat.le_of_ble_eq_true rfl) ⟨Nat.zero_le _, Nat.zero_le _⟩ dL_believed_5 ?_
    refine xg_i2l C dL_believed_8 ?_
    refine xg_last C L2 hnao dL_believed_9 ?_
    refine xg_goto C 17 dL_believed_10 (by decide) ?_
    refine xg_iconst C dL_believed_17 (v := (0 : Int32)) (by decide) ?_
    exact xretw E dL_believed_18 rfl rfl rfl (Nat.zero_le _) (Nat.zero_le _)
  · refine xMw_of (cc := cL_believed) (maxL := 5) (hh := [(0, 10, 13, 13)]) (own := RL) hlt hsz hao [some (.ref (G.2.2 0 0)), some (.int a1), some (.int a2), some (.ref ao), none] pnL rfl rfl (xcat1 rfl) (Nat.le_of_ble_eq_true rfl) rfl hap (fun F C V E2 L2 E => ?_)
    refine xg_aload_n C dL_believed_0 rfl ?_
    refine xg_iconst C dL_believed_1 (v := (0 : Int32)) (by decide) ?_
    refine xg_aload_n C dL_believed_2 rfl ?_
    refine xg_iload_n C dL_believed_3 rfl ?_
    refine xg_iload_n C dL_believed_4 rfl ?_
    refine xg_callVxJ (X := xIA) C V E2 (xO_st hnao) (f := 0) (As := [.int a1, .int a2]) (fun l hl => kxX3_believed l hl hsz hap a1 a2 S hbad) gL_believed_X3_believed rfl hdX3_believed ⟨by decide, by decide⟩ rfl rfl rfl rfl rfl (Nat.le_of_ble_eq_true rfl) ⟨by decide, by decide⟩ dL_believed_5 [] ⟨0, 10, 13, 13⟩ [] rfl (fun z hz => by cases hz) (by decide) (by decide) (List.mem_of_getElem? (i := 1) rfl) (by decide +kernel) (fun q9 => ?_)
    refine xg_astore C dL_believed_13 (by decide) (L' := [some (.ref (G.2.2 0 0)), some (.int a1), some (.int a2), some (.ref ao), some (.ref q9)]) rfl ?_
    refine xg_iconst C dL_believed_15 (v := (1 : Int32)) (by decide) ?_
    exact xretw E dL_believed_16 rfl rfl rfl (Nat.le_refl _) (Nat.le_refl _)
def rL_version (a1 : Int32) (a2 : Int32) (S : xS) (o : Int64) (r : Int32) (S' : xS) (o' : Int64) : Prop :=
  (((vp_in a1 8) ∧ (vp_in a2 8)) ∧ r = 0 ∧ S = S' ∧ o' = (fX3_version a1 a2 S).toInt64) ∨ (¬ ((vp_in a1 8) ∧ (vp_in a2 8)) ∧ r = 1 ∧ S = S' ∧ o = o')
set_option maxRecDepth 100000 in
set_option maxHeartbeats 4000000 in
theorem kL_version (l : Launch) (hlt : l.stackTraces = false) {G : xG} {Sa : Nat → Nat} {sz : Nat} {cJ : ClassId} {ao : Nat} (hsz : ∀ a : Nat, xA xYc G a → sz ≤ a) (hao : sz ≤ ao) (hnao : ¬ xA xYc G ao) (hap : xAp xYc G) (a1 : Int32) (a2 : Int32) (S : xS) (o : Int64) (r : Int32) (S' : xS) (o' : Int64) (h : rL_version a1 a2 S o r S' o') : xMw l G Sa sz cJ ao yL_version wsL_version 9 154 [.ref (G.2.2 0 0), .int a1, .int a2, .ref ao] S S' o o' r := by
  rcases h with ⟨⟨c1, c2⟩, rfl, rfl, rfl⟩ | ⟨hbad, rfl, rfl, rfl⟩
  · refine xMw_of (cc := cL_version) (maxL := 5) (hh := [(0, 10, 13, 13)]) (own := RL) hlt hsz hao [some (.ref (G.2.2 0 0)), some (.int a1), some (.int a2), some (.ref ao), none] pnL rfl rfl (xcat1 rfl) (Nat.le_of_ble_eq_true rfl) rfl hap (fun F C V E2 L2 E => ?_)
    refine xg_aload_n C dL_version_0 rfl ?_
    refine xg_iconst C dL_version_1 (v := (0 : Int32)) (by decide) ?_
    refine xg_aload_n C dL_version_2 rfl ?_
    refine xg_iload_n C dL_version_3 rfl ?_
    refine xg_iload_n C dL_version_4 rfl ?_
    refine xg_callViJ C V (xO_st hnao) (f := 0) (As := [.int a1, .int a2]) (r := (fX3_version a1 a2 S)) (fun l => kX3_version l hap a1 a2 S c1 c2) gL_version_X3_version rfl hdX3_version ⟨by decide, by decide⟩ rfl rfl rfl rfl rfl (Nat.le_of_ble_eq_true rfl) ⟨Nat.zero_le _, Nat.zero_le _⟩ dL_version_5 ?_
    refine xg_i2l C dL_version_8 ?_
    refine xg_last C L2 hnao dL_version_9 ?_
    refine xg_goto C 17 dL_version_10 (by decide) ?_
    refine xg_iconst C dL_version_17 (v := (0 : Int32)) (by decide) ?_
    exact xretw E dL_version_18 rfl rfl rfl (Nat.zero_le _) (Nat.zero_le _)
  · refine xMw_of (cc := cL_version) (maxL := 5) (hh := [(0, 10, 13, 13)]) (own := RL) hlt hsz hao [some (.ref (G.2.2 0 0)), some (.int a1), some (.int a2), some (.ref ao), none] pnL rfl rfl (xcat1 rfl) (Nat.le_of_ble_eq_true rfl) rfl hap (fun F C V E2 L2 E => ?_)
    refine xg_aload_n C dL_version_0 rfl ?_
    refine xg_iconst C dL_version_1 (v := (0 : Int32)) (by decide) ?_
    refine xg_aload_n C dL_version_2 rfl ?_
    refine xg_iload_n C dL_version_3 rfl ?_
    refine xg_iload_n C dL_version_4 rfl ?_
    refine xg_callVxJ (X := xIA) C V E2 (xO_st hnao) (f := 0) (As := [.int a1, .int a2]) (fun l hl => kxX3_version l hl hsz hap a1 a2 S hbad) gL_version_X3_version rfl hdX3_version ⟨by decide, by decide⟩ rfl rfl rfl rfl rfl (Nat.le_of_ble_eq_true rfl) ⟨by decide, by decide⟩ dL_version_5 [] ⟨0, 10, 13, 13⟩ [] rfl (fun z hz => by cases hz) (by decide) (by decide) (List.mem_of_getElem? (i := 1) rfl) (by decide +kernel) (fun q9 => ?_)
    refine xg_astore C dL_version_13 (by decide) (L' := [some (.ref (G.2.2 0 0)), some (.int a1), some (.int a2), some (.ref ao), some (.ref q9)]) rfl ?_
    refine xg_iconst C dL_version_15 (v := (1 : Int32)) (by decide) ?_
    exact xretw E dL_version_16 rfl rfl rfl (Nat.le_refl _) (Nat.le_refl _)
def rL_age (a1 : Int32) (a2 : Int32) (S : xS) (o : Int64) (r : Int32) (S' : xS) (o' : Int64) : Prop :=
  (((vp_in a1 8) ∧ (vp_in a2 8)) ∧ r = 0 ∧ S = S' ∧ o' = (fX3_age a1 a2 S).toInt64) ∨ (¬ ((vp_in a1 8) ∧ (vp_in a2 8)) ∧ r = 1 ∧ S = S' ∧ o = o')
set_option maxRecDepth 100000 in
set_option maxHeartbeats 4000000 in
theorem kL_age (l : Launch) (hlt : l.stackTraces = false) {G : xG} {Sa : Nat → Nat} {sz : Nat} {cJ : ClassId} {ao : Nat} (hsz : ∀ a : Nat, xA xYc G a → sz ≤ a) (hao : sz ≤ ao) (hnao : ¬ xA xYc G ao) (hap : xAp xYc G) (a1 : Int32) (a2 : Int32) (S : xS) (o : Int64) (r : Int32) (S' : xS) (o' : Int64) (h : rL_age a1 a2 S o r S' o') : xMw l G Sa sz cJ ao yL_age wsL_age 9 154 [.ref (G.2.2 0 0), .int a1, .int a2, .ref ao] S S' o o' r := by
  rcases h with ⟨⟨c1, c2⟩, rfl, rfl, rfl⟩ | ⟨hbad, rfl, rfl, rfl⟩
  · refine xMw_of (cc := cL_age) (maxL := 5) (hh := [(0, 10, 13, 13)]) (own := RL) hlt hsz hao [some (.ref (G.2.2 0 0)), some (.int a1), some (.int a2), some (.ref ao), none] pnL rfl rfl (xcat1 rfl) (Nat.le_of_ble_eq_true rfl) rfl hap (fun F C V E2 L2 E => ?_)
    refine xg_aload_n C dL_age_0 rfl ?_
    refine xg_iconst C dL_age_1 (v := (0 : Int32)) (by decide) ?_
    refine xg_aload_n C dL_age_2 rfl ?_
    refine xg_iload_n C dL_age_3 rfl ?_
    refine xg_iload_n C dL_age_4 rfl ?_
    refine xg_callViJ C V (xO_st hnao) (f := 0) (As := [.int a1, .int a2]) (r := (fX3_age a1 a2 S)) (fun l => kX3_age l hap a1 a2 S c1 c2) gL_age_X3_age rfl hdX3_age ⟨by decide, by decide⟩ rfl rfl rfl rfl rfl (Nat.le_of_ble_eq_true rfl) ⟨Nat.zero_le _, Nat.zero_le _⟩ dL_age_5 ?_
    refine xg_i2l C dL_age_8 ?_
    refine xg_last C L2 hnao dL_age_9 ?_
    refine xg_goto C 17 dL_age_10 (by decide) ?_
    refine xg_iconst C dL_age_17 (v := (0 : Int32)) (by decide) ?_
    exact xretw E dL_age_18 rfl rfl rfl (Nat.zero_le _) (Nat.zero_le _)
  · refine xMw_of (cc := cL_age) (maxL := 5) (hh := [(0, 10, 13, 13)]) (own := RL) hlt hsz hao [some (.ref (G.2.2 0 0)), some (.int a1), some (.int a2), some (.ref ao), none] pnL rfl rfl (xcat1 rfl) (Nat.le_of_ble_eq_true rfl) rfl hap (fun F C V E2 L2 E => ?_)
    refine xg_aload_n C dL_age_0 rfl ?_
    refine xg_iconst C dL_age_1 (v := (0 : Int32)) (by decide) ?_
    refine xg_aload_n C dL_age_2 rfl ?_
    refine xg_iload_n C dL_age_3 rfl ?_
    refine xg_iload_n C dL_age_4 rfl ?_
    refine xg_callVxJ (X := xIA) C V E2 (xO_st hnao) (f := 0) (As := [.int a1, .int a2]) (fun l hl => kxX3_age l hl hsz hap a1 a2 S hbad) gL_age_X3_age rfl hdX3_age ⟨by decide, by decide⟩ rfl rfl rfl rfl rfl (Nat.le_of_ble_eq_true rfl) ⟨by decide, by decide⟩ dL_age_5 [] ⟨0, 10, 13, 13⟩ [] rfl (fun z hz => by cases hz) (by decide) (by decide) (List.mem_of_getElem? (i := 1) rfl) (by decide +kernel) (fun q9 => ?_)
    refine xg_astore C dL_age_13 (by decide) (L' := [some (.ref (G.2.2 0 0)), some (.int a1), some (.int a2), some (.ref ao), some (.ref q9)]) rfl ?_
    refine xg_iconst C dL_age_15 (v := (1 : Int32)) (by decide) ?_
    exact xretw E dL_age_16 rfl rfl rfl (Nat.le_refl _) (Nat.le_refl _)
def rL_beat (a1 : Int32) (a2 : Int32) (S : xS) (o : Int64) (r : Int32) (S' : xS) (o' : Int64) : Prop :=
  (((vp_in a1 8) ∧ (vp_in a2 8)) ∧ r = 0 ∧ S = S' ∧ o' = (fX3_beat a1 a2 S).toInt64) ∨ (¬ ((vp_in a1 8) ∧ (vp_in a2 8)) ∧ r = 1 ∧ S = S' ∧ o = o')
set_option maxRecDepth 100000 in
set_option maxHeartbeats 4000000 in
theorem kL_beat (l : Launch) (hlt : l.stackTraces = false) {G : xG} {Sa : Nat → Nat} {sz : Nat} {cJ : ClassId} {ao : Nat} (hsz : ∀ a : Nat, xA xYc G a → sz ≤ a) (hao : sz ≤ ao) (hnao : ¬ xA xYc G ao) (hap : xAp xYc G) (a1 : Int32) (a2 : Int32) (S : xS) (o : Int64) (r : Int32) (S' : xS) (o' : Int64) (h : rL_beat a1 a2 S o r S' o') : xMw l G Sa sz cJ ao yL_beat wsL_beat 9 154 [.ref (G.2.2 0 0), .int a1, .int a2, .ref ao] S S' o o' r := by
  rcases h with ⟨⟨c1, c2⟩, rfl, rfl, rfl⟩ | ⟨hbad, rfl, rfl, rfl⟩
  · refine xMw_of (cc := cL_beat) (maxL := 5) (hh := [(0, 10, 13, 13)]) (own := RL) hlt hsz hao [some (.ref (G.2.2 0 0)), some (.int a1), some (.int a2), some (.ref ao), none] pnL rfl rfl (xcat1 rfl) (Nat.le_of_ble_eq_true rfl) rfl hap (fun F C V E2 L2 E => ?_)
    refine xg_aload_n C dL_beat_0 rfl ?_
    refine xg_iconst C dL_beat_1 (v := (0 : Int32)) (by decide) ?_
    refine xg_aload_n C dL_beat_2 rfl ?_
    refine xg_iload_n C dL_beat_3 rfl ?_
    refine xg_iload_n C dL_beat_4 rfl ?_
    refine xg_callViJ C V (xO_st hnao) (f := 0) (As := [.int a1, .int a2]) (r := (fX3_beat a1 a2 S)) (fun l => kX3_beat l hap a1 a2 S c1 c2) gL_beat_X3_beat rfl hdX3_beat ⟨by decide, by decide⟩ rfl rfl rfl rfl rfl (Nat.le_of_ble_eq_true rfl) ⟨Nat.zero_le _, Nat.zero_le _⟩ dL_beat_5 ?_
    refine xg_i2l C dL_beat_8 ?_
    refine xg_last C L2 hnao dL_beat_9 ?_
    refine xg_goto C 17 dL_beat_10 (by decide) ?_
    refine xg_iconst C dL_beat_17 (v := (0 : Int32)) (by decide) ?_
    exact xretw E dL_beat_18 rfl rfl rfl (Nat.zero_le _) (Nat.zero_le _)
  · refine xMw_of (cc := cL_beat) (maxL := 5) (hh := [(0, 10, 13, 13)]) (own := RL) hlt hsz hao [some (.ref (G.2.2 0 0)), some (.int a1), some (.int a2), some (.ref ao), none] pnL rfl rfl (xcat1 rfl) (Nat.le_of_ble_eq_true rfl) rfl hap (fun F C V E2 L2 E => ?_)
    refine xg_aload_n C dL_beat_0 rfl ?_
    refine xg_iconst C dL_beat_1 (v := (0 : Int32)) (by decide) ?_
    refine xg_aload_n C dL_beat_2 rfl ?_
    refine xg_iload_n C dL_beat_3 rfl ?_
    refine xg_iload_n C dL_beat_4 rfl ?_
    refine xg_callVxJ (X := xIA) C V E2 (xO_st hnao) (f := 0) (As := [.int a1, .int a2]) (fun l hl => kxX3_beat l hl hsz hap a1 a2 S hbad) gL_beat_X3_beat rfl hdX3_beat ⟨by decide, by decide⟩ rfl rfl rfl rfl rfl (Nat.le_of_ble_eq_true rfl) ⟨by decide, by decide⟩ dL_beat_5 [] ⟨0, 10, 13, 13⟩ [] rfl (fun z hz => by cases hz) (by decide) (by decide) (List.mem_of_getElem? (i := 1) rfl) (by decide +kernel) (fun q9 => ?_)
    refine xg_astore C dL_beat_13 (by decide) (L' := [some (.ref (G.2.2 0 0)), some (.int a1), some (.int a2), some (.ref ao), some (.ref q9)]) rfl ?_
    refine xg_iconst C dL_beat_15 (v := (1 : Int32)) (by decide) ?_
    exact xretw E dL_beat_16 rfl rfl rfl (Nat.le_refl _) (Nat.le_refl _)
def rL_status (a1 : Int32) (a2 : Int32) (S : xS) (o : Int64) (r : Int32) (S' : xS) (o' : Int64) : Prop :=
  (((vp_in a1 8) ∧ (vp_in a2 8)) ∧ r = 0 ∧ S = S' ∧ o' = (fX3_status a1 a2 S).toInt64) ∨ (¬ ((vp_in a1 8) ∧ (vp_in a2 8)) ∧ r = 1 ∧ S = S' ∧ o = o')
set_option maxRecDepth 100000 in
set_option maxHeartbeats 4000000 in
theorem kL_status (l : Launch) (hlt : l.stackTraces = false) {G : xG} {Sa : Nat → Nat} {sz : Nat} {cJ : ClassId} {ao : Nat} (hsz : ∀ a : Nat, xA xYc G a → sz ≤ a) (hao : sz ≤ ao) (hnao : ¬ xA xYc G ao) (hap : xAp xYc G) (a1 : Int32) (a2 : Int32) (S : xS) (o : Int64) (r : Int32) (S' : xS) (o' : Int64) (h : rL_status a1 a2 S o r S' o') : xMw l G Sa sz cJ ao yL_status wsL_status 9 154 [.ref (G.2.2 0 0), .int a1, .int a2, .ref ao] S S' o o' r := by
  rcases h with ⟨⟨c1, c2⟩, rfl, rfl, rfl⟩ | ⟨hbad, rfl, rfl, rfl⟩
  · refine xMw_of (cc := cL_status) (maxL := 5) (hh := [(0, 10, 13, 13)]) (own := RL) hlt hsz hao [some (.ref (G.2.2 0 0)), some (.int a1), some (.int a2), some (.ref ao), none] pnL rfl rfl (xcat1 rfl) (Nat.le_of_ble_eq_true rfl) rfl hap (fun F C V E2 L2 E => ?_)
    refine xg_aload_n C dL_status_0 rfl ?_
    refine xg_iconst C dL_status_1 (v := (0 : Int32)) (by decide) ?_
    refine xg_aload_n C dL_status_2 rfl ?_
    refine xg_iload_n C dL_status_3 rfl ?_
    refine xg_iload_n C dL_status_4 rfl ?_
    refine xg_callViJ C V (xO_st hnao) (f := 0) (As := [.int a1, .int a2]) (r := (fX3_status a1 a2 S)) (fun l => kX3_status l hap a1 a2 S c1 c2) gL_status_X3_status rfl hdX3_status ⟨by decide, by decide⟩ rfl rfl rfl rfl rfl (Nat.le_of_ble_eq_true rfl) ⟨Nat.zero_le _, Nat.zero_le _⟩ dL_status_5 ?_
    refine xg_i2l C dL_status_8 ?_
    refine xg_last C L2 hnao dL_status_9 ?_
    refine xg_goto C 17 dL_status_10 (by decide) ?_
    refine xg_iconst C dL_status_17 (v := (0 : Int32)) (by decide) ?_
    exact xretw E dL_status_18 rfl rfl rfl (Nat.zero_le _) (Nat.zero_le _)
  · refine xMw_of (cc := cL_status) (maxL := 5) (hh := [(0, 10, 13, 13)]) (own := RL) hlt hsz hao [some (.ref (G.2.2 0 0)), some (.int a1), some (.int a2), some (.ref ao), none] pnL rfl rfl (xcat1 rfl) (Nat.le_of_ble_eq_true rfl) rfl hap (fun F C V E2 L2 E => ?_)
    refine xg_aload_n C dL_status_0 rfl ?_
    refine xg_iconst C dL_status_1 (v := (0 : Int32)) (by decide) ?_
    refine xg_aload_n C dL_status_2 rfl ?_
    refine xg_iload_n C dL_status_3 rfl ?_
    refine xg_iload_n C dL_status_4 rfl ?_
    refine xg_callVxJ (X := xIA) C V E2 (xO_st hnao) (f := 0) (As := [.int a1, .int a2]) (fun l hl => kxX3_status l hl hsz hap a1 a2 S hbad) gL_status_X3_status rfl hdX3_status ⟨by decide, by decide⟩ rfl rfl rfl rfl rfl (Nat.le_of_ble_eq_true rfl) ⟨by decide, by decide⟩ dL_status_5 [] ⟨0, 10, 13, 13⟩ [] rfl (fun z hz => by cases hz) (by decide) (by decide) (List.mem_of_getElem? (i := 1) rfl) (by decide +kernel) (fun q9 => ?_)
    refine xg_astore C dL_status_13 (by decide) (L' := [some (.ref (G.2.2 0 0)), some (.int a1), some (.int a2), some (.ref ao), some (.ref q9)]) rfl ?_
    refine xg_iconst C dL_status_15 (v := (1 : Int32)) (by decide) ?_
    exact xretw E dL_status_16 rfl rfl rfl (Nat.le_refl _) (Nat.le_refl _)
def rL_partner (a1 : Int32) (S : xS) (o : Int64) (r : Int32) (S' : xS) (o' : Int64) : Prop :=
  (((vp_in a1 8)) ∧ r = 0 ∧ S = S' ∧ o' = (fX3_partner a1 S).toInt64) ∨ (¬ (vp_in a1 8) ∧ r = 1 ∧ S = S' ∧ o = o')
set_option maxRecDepth 100000 in
set_option maxHeartbeats 4000000 in
theorem kL_partner (l : Launch) (hlt : l.stackTraces = false) {G : xG} {Sa : Nat → Nat} {sz : Nat} {cJ : ClassId} {ao : Nat} (hsz : ∀ a : Nat, xA xYc G a → sz ≤ a) (hao : sz ≤ ao) (hnao : ¬ xA xYc G ao) (hap : xAp xYc G) (a1 : Int32) (S : xS) (o : Int64) (r : Int32) (S' : xS) (o' : Int64) (h : rL_partner a1 S o r S' o') : xMw l G Sa sz cJ ao yL_partner wsL_partner 9 153 [.ref (G.2.2 0 0), .int a1, .ref ao] S S' o o' r := by
  rcases h with ⟨c1, rfl, rfl, rfl⟩ | ⟨hbad, rfl, rfl, rfl⟩
  · refine xMw_of (cc := cL_partner) (maxL := 4) (hh := [(0, 9, 12, 13)]) (own := RL) hlt hsz hao [some (.ref (G.2.2 0 0)), some (.int a1), some (.ref ao), none] pnL rfl rfl (xcat1 rfl) (Nat.le_of_ble_eq_true rfl) rfl hap (fun F C V E2 L2 E => ?_)
    refine xg_aload_n C dL_partner_0 rfl ?_
    refine xg_iconst C dL_partner_1 (v := (0 : Int32)) (by decide) ?_
    refine xg_aload_n C dL_partner_2 rfl ?_
    refine xg_iload_n C dL_partner_3 rfl ?_
    refine xg_callViJ C V (xO_st hnao) (f := 0) (As := [.int a1]) (r := (fX3_partner a1 S)) (fun l => kX3_partner l hap a1 S c1) gL_partner_X3_partner rfl hdX3_partner ⟨by decide, by decide⟩ rfl rfl rfl rfl rfl (Nat.le_of_ble_eq_true rfl) ⟨Nat.zero_le _, Nat.zero_le _⟩ dL_partner_4 ?_
    refine xg_i2l C dL_partner_7 ?_
    refine xg_last C L2 hnao dL_partner_8 ?_
    refine xg_goto C 15 dL_partner_9 (by decide) ?_
    refine xg_iconst C dL_partner_15 (v := (0 : Int32)) (by decide) ?_
    exact xretw E dL_partner_16 rfl rfl rfl (Nat.zero_le _) (Nat.zero_le _)
  · refine xMw_of (cc := cL_partner) (maxL := 4) (hh := [(0, 9, 12, 13)]) (own := RL) hlt hsz hao [some (.ref (G.2.2 0 0)), some (.int a1), some (.ref ao), none] pnL rfl rfl (xcat1 rfl) (Nat.le_of_ble_eq_true rfl) rfl hap (fun F C V E2 L2 E => ?_)
    refine xg_aload_n C dL_partner_0 rfl ?_
    refine xg_iconst C dL_partner_1 (v := (0 : Int32)) (by decide) ?_
    refine xg_aload_n C dL_partner_2 rfl ?_
    refine xg_iload_n C dL_partner_3 rfl ?_
    refine xg_callVxJ (X := xIA) C V E2 (xO_st hnao) (f := 0) (As := [.int a1]) (fun l hl => kxX3_partner l hl hsz hap a1 S hbad) gL_partner_X3_partner rfl hdX3_partner ⟨by decide, by decide⟩ rfl rfl rfl rfl rfl (Nat.le_of_ble_eq_true rfl) ⟨by decide, by decide⟩ dL_partner_4 [] ⟨0, 9, 12, 13⟩ [] rfl (fun z hz => by cases hz) (by decide) (by decide) (List.mem_of_getElem? (i := 1) rfl) (by decide +kernel) (fun q9 => ?_)
    refine xg_astore_n C dL_partner_12 (by decide) (L' := [some (.ref (G.2.2 0 0)), some (.int a1), some (.ref ao), some (.ref q9)]) rfl ?_
    refine xg_iconst C dL_partner_13 (v := (1 : Int32)) (by decide) ?_
    exact xretw E dL_partner_14 rfl rfl rfl (Nat.le_refl _) (Nat.le_refl _)
def rL_freshest (a1 : Int32) (S : xS) (o : Int64) (r : Int32) (S' : xS) (o' : Int64) : Prop :=
  (((vp_in a1 8)) ∧ r = 0 ∧ S = S' ∧ o' = (fX3_freshest a1 S).toInt64) ∨ (¬ (vp_in a1 8) ∧ r = 1 ∧ S = S' ∧ o = o')
set_option maxRecDepth 100000 in
set_option maxHeartbeats 4000000 in
theorem kL_freshest (l : Launch) (hlt : l.stackTraces = false) {G : xG} {Sa : Nat → Nat} {sz : Nat} {cJ : ClassId} {ao : Nat} (hsz : ∀ a : Nat, xA xYc G a → sz ≤ a) (hao : sz ≤ ao) (hnao : ¬ xA xYc G ao) (hap : xAp xYc G) (a1 : Int32) (S : xS) (o : Int64) (r : Int32) (S' : xS) (o' : Int64) (h : rL_freshest a1 S o r S' o') : xMw l G Sa sz cJ ao yL_freshest wsL_freshest 9 153 [.ref (G.2.2 0 0), .int a1, .ref ao] S S' o o' r := by
  rcases h with ⟨c1, rfl, rfl, rfl⟩ | ⟨hbad, rfl, rfl, rfl⟩
  · refine xMw_of (cc := cL_freshest) (maxL := 4) (hh := [(0, 9, 12, 13)]) (own := RL) hlt hsz hao [some (.ref (G.2.2 0 0)), some (.int a1), some (.ref ao), none] pnL rfl rfl (xcat1 rfl) (Nat.le_of_ble_eq_true rfl) rfl hap (fun F C V E2 L2 E => ?_)
    refine xg_aload_n C dL_freshest_0 rfl ?_
    refine xg_iconst C dL_freshest_1 (v := (0 : Int32)) (by decide) ?_
    refine xg_aload_n C dL_freshest_2 rfl ?_
    refine xg_iload_n C dL_freshest_3 rfl ?_
    refine xg_callViJ C V (xO_st hnao) (f := 0) (As := [.int a1]) (r := (fX3_freshest a1 S)) (fun l => kX3_freshest l hap a1 S c1) gL_freshest_X3_freshest rfl hdX3_freshest ⟨by decide, by decide⟩ rfl rfl rfl rfl rfl (Nat.le_of_ble_eq_true rfl) ⟨Nat.zero_le _, Nat.zero_le _⟩ dL_freshest_4 ?_
    refine xg_i2l C dL_freshest_7 ?_
    refine xg_last C L2 hnao dL_freshest_8 ?_
    refine xg_goto C 15 dL_freshest_9 (by decide) ?_
    refine xg_iconst C dL_freshest_15 (v := (0 : Int32)) (by decide) ?_
    exact xretw E dL_freshest_16 rfl rfl rfl (Nat.zero_le _) (Nat.zero_le _)
  · refine xMw_of (cc := cL_freshest) (maxL := 4) (hh := [(0, 9, 12, 13)]) (own := RL) hlt hsz hao [some (.ref (G.2.2 0 0)), some (.int a1), some (.ref ao), none] pnL rfl rfl (xcat1 rfl) (Nat.le_of_ble_eq_true rfl) rfl hap (fun F C V E2 L2 E => ?_)
    refine xg_aload_n C dL_freshest_0 rfl ?_
    refine xg_iconst C dL_freshest_1 (v := (0 : Int32)) (by decide) ?_
    refine xg_aload_n C dL_freshest_2 rfl ?_
    refine xg_iload_n C dL_freshest_3 rfl ?_
    refine xg_callVxJ (X := xIA) C V E2 (xO_st hnao) (f := 0) (As := [.int a1]) (fun l hl => kxX3_freshest l hl hsz hap a1 S hbad) gL_freshest_X3_freshest rfl hdX3_freshest ⟨by decide, by decide⟩ rfl rfl rfl rfl rfl (Nat.le_of_ble_eq_true rfl) ⟨by decide, by decide⟩ dL_freshest_4 [] ⟨0, 9, 12, 13⟩ [] rfl (fun z hz => by cases hz) (by decide) (by decide) (List.mem_of_getElem? (i := 1) rfl) (by decide +kernel) (fun q9 => ?_)
    refine xg_astore_n C dL_freshest_12 (by decide) (L' := [some (.ref (G.2.2 0 0)), some (.int a1), some (.ref ao), some (.ref q9)]) rfl ?_
    refine xg_iconst C dL_freshest_13 (v := (1 : Int32)) (by decide) ?_
    exact xretw E dL_freshest_14 rfl rfl rfl (Nat.le_refl _) (Nat.le_refl _)
def rL_agree (a1 : Int32) (S : xS) (o : Int64) (r : Int32) (S' : xS) (o' : Int64) : Prop :=
  (((vp_in a1 8)) ∧ r = 0 ∧ S = S' ∧ o' = (fX3_agree a1 S).toInt64) ∨ (¬ (vp_in a1 8) ∧ r = 1 ∧ S = S' ∧ o = o')
set_option maxRecDepth 100000 in
set_option maxHeartbeats 4000000 in
theorem kL_agree (l : Launch) (hlt : l.stackTraces = false) {G : xG} {Sa : Nat → Nat} {sz : Nat} {cJ : ClassId} {ao : Nat} (hsz : ∀ a : Nat, xA xYc G a → sz ≤ a) (hao : sz ≤ ao) (hnao : ¬ xA xYc G ao) (hap : xAp xYc G) (a1 : Int32) (S : xS) (o : Int64) (r : Int32) (S' : xS) (o' : Int64) (h : rL_agree a1 S o r S' o') : xMw l G Sa sz cJ ao yL_agree wsL_agree 9 153 [.ref (G.2.2 0 0), .int a1, .ref ao] S S' o o' r := by
  rcases h with ⟨c1, rfl, rfl, rfl⟩ | ⟨hbad, rfl, rfl, rfl⟩
  · refine xMw_of (cc := cL_agree) (maxL := 4) (hh := [(0, 9, 12, 13)]) (own := RL) hlt hsz hao [some (.ref (G.2.2 0 0)), some (.int a1), some (.ref ao), none] pnL rfl rfl (xcat1 rfl) (Nat.le_of_ble_eq_true rfl) rfl hap (fun F C V E2 L2 E => ?_)
    refine xg_aload_n C dL_agree_0 rfl ?_
    refine xg_iconst C dL_agree_1 (v := (0 : Int32)) (by decide) ?_
    refine xg_aload_n C dL_agree_2 rfl ?_
    refine xg_iload_n C dL_agree_3 rfl ?_
    refine xg_callViJ C V (xO_st hnao) (f := 0) (As := [.int a1]) (r := (fX3_agree a1 S)) (fun l => kX3_agree l hap a1 S c1) gL_agree_X3_agree rfl hdX3_agree ⟨by decide, by decide⟩ rfl rfl rfl rfl rfl (Nat.le_of_ble_eq_true rfl) ⟨Nat.zero_le _, Nat.zero_le _⟩ dL_agree_4 ?_
    refine xg_i2l C dL_agree_7 ?_
    refine xg_last C L2 hnao dL_agree_8 ?_
    refine xg_goto C 15 dL_agree_9 (by decide) ?_
    refine xg_iconst C dL_agree_15 (v := (0 : Int32)) (by decide) ?_
    exact xretw E dL_agree_16 rfl rfl rfl (Nat.zero_le _) (Nat.zero_le _)
  · refine xMw_of (cc := cL_agree) (maxL := 4) (hh := [(0, 9, 12, 13)]) (own := RL) hlt hsz hao [some (.ref (G.2.2 0 0)), some (.int a1), some (.ref ao), none] pnL rfl rfl (xcat1 rfl) (Nat.le_of_ble_eq_true rfl) rfl hap (fun F C V E2 L2 E => ?_)
    refine xg_aload_n C dL_agree_0 rfl ?_
    refine xg_iconst C dL_agree_1 (v := (0 : Int32)) (by decide) ?_
    refine xg_aload_n C dL_agree_2 rfl ?_
    refine xg_iload_n C dL_agree_3 rfl ?_
    refine xg_callVxJ (X := xIA) C V E2 (xO_st hnao) (f := 0) (As := [.int a1]) (fun l hl => kxX3_agree l hl hsz hap a1 S hbad) gL_agree_X3_agree rfl hdX3_agree ⟨by decide, by decide⟩ rfl rfl rfl rfl rfl (Nat.le_of_ble_eq_true rfl) ⟨by decide, by decide⟩ dL_agree_4 [] ⟨0, 9, 12, 13⟩ [] rfl (fun z hz => by cases hz) (by decide) (by decide) (List.mem_of_getElem? (i := 1) rfl) (by decide +kernel) (fun q9 => ?_)
    refine xg_astore_n C dL_agree_12 (by decide) (L' := [some (.ref (G.2.2 0 0)), some (.int a1), some (.ref ao), some (.ref q9)]) rfl ?_
    refine xg_iconst C dL_agree_13 (v := (1 : Int32)) (by decide) ?_
    exact xretw E dL_agree_14 rfl rfl rfl (Nat.le_refl _) (Nat.le_refl _)
def rL_tick (a1 : Int32) (S : xS) (o : Int64) (r : Int32) (S' : xS) (o' : Int64) : Prop :=
  (∃ T : Nat, a1 = nI T ∧ 1 ≤ T ∧ T ≤ 100 ∧ ((S 0 0 (nI 3)) + (nI T)) ≤ (5000 : Int32) ∧ r = 0 ∧ S' = (fX3_tick T S).1 ∧ o' = (fX3_tick T S).2.toInt64) ∨ (¬ (¬ a1 < (1 : Int32) ∧ a1 ≤ (100 : Int32)) ∧ r = 1 ∧ S = S' ∧ o = o') ∨ (((¬ a1 < (1 : Int32) ∧ a1 ≤ (100 : Int32))) ∧ (¬ ((S 0 0 (nI 3)) + a1) ≤ (5000 : Int32)) ∧ r = 2 ∧ S = S' ∧ o = o')
set_option maxRecDepth 100000 in
set_option maxHeartbeats 4000000 in
theorem kL_tick (l : Launch) (hlt : l.stackTraces = false) {G : xG} {Sa : Nat → Nat} {sz : Nat} {cJ : ClassId} {ao : Nat} (hsz : ∀ a : Nat, xA xYc G a → sz ≤ a) (hao : sz ≤ ao) (hnao : ¬ xA xYc G ao) (hap : xAp xYc G) (a1 : Int32) (S : xS) (o : Int64) (r : Int32) (S' : xS) (o' : Int64) (h : rL_tick a1 S o r S' o') : xMw l G Sa sz cJ ao yL_tick wsL_tick 8 152 [.ref (G.2.2 0 0), .int a1, .ref ao] S S' o o' r := by
  rcases h with ⟨T, rfl, t1, t2, t3, rfl, rfl, rfl⟩ | ⟨hbad, rfl, rfl, rfl⟩ | ⟨c1, x1, rfl, rfl, rfl⟩
  · refine xMw_of (cc := cL_tick) (maxL := 4) (hh := [(0, 9, 12, 13), (0, 9, 15, 48)]) (own := RL) hlt hsz hao [some (.ref (G.2.2 0 0)), some (.int (nI T)), some (.ref ao), none] pnL rfl rfl (xcat1 rfl) (Nat.le_of_ble_eq_true rfl) rfl hap (fun F C V E2 L2 E => ?_)
    refine xg_aload_n C dL_tick_0 rfl ?_
    refine xg_iconst C dL_tick_1 (v := (0 : Int32)) (by decide) ?_
    refine xg_aload_n C dL_tick_2 rfl ?_
    refine xg_iload_n C dL_tick_3 rfl ?_
    refine xg_callViJ C V (xO_st hnao) (f := 0) (As := [.int (nI T)]) (r := (fX3_tick T S).2) (fun l => kX3_tick l hap T S t1 t2 (xT1 t1 t2) (xT2 t2) t3) gL_tick_X3_tick rfl hdX3_tick ⟨by decide, by decide⟩ rfl rfl rfl rfl rfl (Nat.le_of_ble_eq_true rfl) ⟨Nat.zero_le _, Nat.zero_le _⟩ dL_tick_4 ?_
    refine xg_i2l C dL_tick_7 ?_
    refine xg_last C L2 hnao dL_tick_8 ?_
    refine xg_goto C 18 dL_tick_9 (by decide) ?_
    refine xg_iconst C dL_tick_18 (v := (0 : Int32)) (by decide) ?_
    exact xretw E dL_tick_19 rfl rfl rfl (Nat.zero_le _) (Nat.zero_le _)
  · refine xMw_of (cc := cL_tick) (maxL := 4) (hh := [(0, 9, 12, 13), (0, 9, 15, 48)]) (own := RL) hlt hsz hao [some (.ref (G.2.2 0 0)), some (.int a1), some (.ref ao), none] pnL rfl rfl (xcat1 rfl) (Nat.le_of_ble_eq_true rfl) rfl hap (fun F C V E2 L2 E => ?_)
    refine xg_aload_n C dL_tick_0 rfl ?_
    refine xg_iconst C dL_tick_1 (v := (0 : Int32)) (by decide) ?_
    refine xg_aload_n C dL_tick_2 rfl ?_
    refine xg_iload_n C dL_tick_3 rfl ?_
    refine xg_callVxJ (X := xIA) C V E2 (xO_st hnao) (f := 0) (As := [.int a1]) (fun l hl => kxX3_tick l hl hsz hap a1 S hbad) gL_tick_X3_tick rfl hdX3_tick ⟨by decide, by decide⟩ rfl rfl rfl rfl rfl (Nat.le_of_ble_eq_true rfl) ⟨by decide, by decide⟩ dL_tick_4 [] ⟨0, 9, 12, 13⟩ [⟨0, 9, 15, 48⟩] rfl (fun z hz => by cases hz) (by decide) (by decide) (List.mem_of_getElem? (i := 1) rfl) (by decide +kernel) (fun q9 => ?_)
    refine xg_astore_n C dL_tick_12 (by decide) (L' := [some (.ref (G.2.2 0 0)), some (.int a1), some (.ref ao), some (.ref q9)]) rfl ?_
    refine xg_iconst C dL_tick_13 (v := (1 : Int32)) (by decide) ?_
    exact xretw E dL_tick_14 rfl rfl rfl (Nat.le_refl _) (Nat.le_refl _)
  · refine xMw_of (cc := cL_tick) (maxL := 4) (hh := [(0, 9, 12, 13), (0, 9, 15, 48)]) (own := RL) hlt hsz hao [some (.ref (G.2.2 0 0)), some (.int a1), some (.ref ao), none] pnL rfl rfl (xcat1 rfl) (Nat.le_of_ble_eq_true rfl) rfl hap (fun F C V E2 L2 E => ?_)
    refine xg_aload_n C dL_tick_0 rfl ?_
    refine xg_iconst C dL_tick_1 (v := (0 : Int32)) (by decide) ?_
    refine xg_aload_n C dL_tick_2 rfl ?_
    refine xg_iload_n C dL_tick_3 rfl ?_
    refine xg_callVxJ (X := xIS) C V E2 (xO_st hnao) (f := 0) (As := [.int a1]) (fun l hl => kyX3_tick l hl hsz hap a1 S c1.1 c1.2 x1) gL_tick_X3_tick rfl hdX3_tick ⟨by decide, by decide⟩ rfl rfl rfl rfl rfl (Nat.le_of_ble_eq_true rfl) ⟨by decide, by decide⟩ dL_tick_4 [⟨0, 9, 12, 13⟩] ⟨0, 9, 15, 48⟩ [] rfl (fun z hz => by obtain rfl := List.mem_singleton.mp hz; exact ⟨by decide, (List.mem_of_getElem? (i := 1) rfl), rfl⟩) (by decide) (by decide) (List.mem_of_getElem? (i := 2) rfl) (by decide +kernel) (fun q9 => ?_)
    refine xg_astore_n C dL_tick_15 (by decide) (L' := [some (.ref (G.2.2 0 0)), some (.int a1), some (.ref ao), some (.ref q9)]) rfl ?_
    refine xg_iconst C dL_tick_16 (v := (2 : Int32)) (by decide) ?_
    exact xretw E dL_tick_17 rfl rfl rfl (Nat.le_refl _) (Nat.le_refl _)
