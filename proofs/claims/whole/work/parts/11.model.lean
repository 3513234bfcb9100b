/-! 11: GossipGatesModel: contracts by program -/
theorem iX4_goes_X4 : ∀ w ∈ wsX40, w ∈ wsX4_goes := by decide +kernel
theorem qX4_goes_90 : xFr wsX4_goes RX4 90 RX4 TX4 30 29 := ⟨iX4_goes_X4, List.mem_of_getElem? (i := 1) rfl, by decide⟩
theorem hdX4_goes : yX4_goes.cls = RX4 ∧ yX4_goes.cls ≠ "java/lang/invoke/MethodHandle" ∧ yX4_goes.cls ≠ "java/lang/invoke/VarHandle" ∧ (parseMethodDescriptor yX4_goes.desc).map (fun d => d.parameters.length) = some 1 := by decide +kernel
set_option maxRecDepth 100000 in
set_option maxHeartbeats 4000000 in
theorem kX4_goes0 (l : Launch) {G : xG} (hap : xAp xYm G)  (S : xS)  : xMi l xYm G yX4_goes wsX4_goes 0 0 [.ref (G.2.2 0 0), .int (0 : Int32)] S (xu S 0 0 (nI 29) (0 : Int32)) (1 : Int32) := by
  refine xMi_of (cc := cX4_goes) (maxL := 2) (ty := .boolean) (own := RX4) [some (.ref (G.2.2 0 0)), some (.int (0 : Int32))] pnX4 rfl rfl rfl (xcat1 rfl) (Nat.le_of_ble_eq_true rfl) rfl hap (fun F C V E => ?_)
  refine xg_aload_n C dX4_goes_0 rfl ?_
  refine xg_iload_n C dX4_goes_1 rfl ?_
  refine xg_putI C V (f := 0) qX4_goes_90 rfl (by decide) rfl rfl tyX4_ok nmX4 rfl rfl dX4_goes_2 ?_
  refine xg_iload_n C dX4_goes_5 rfl ?_
  refine xg_if_ne C 13 dX4_goes_6 (by decide) (fun h1 => by exact absurd h1 (by decide)) (fun h1 => ?_)
  refine xg_iconst C dX4_goes_9 (v := (1 : Int32)) (by decide) ?_
  refine xg_goto C 14 dX4_goes_10 (by decide) ?_
  exact xret_i E dX4_goes_14 rfl rfl
set_option maxRecDepth 100000 in
set_option maxHeartbeats 4000000 in
theorem kX4_goes1 (l : Launch) {G : xG} (hap : xAp xYm G)  (S : xS)  : xMi l xYm G yX4_goes wsX4_goes 0 0 [.ref (G.2.2 0 0), .int (1 : Int32)] S (xu S 0 0 (nI 29) (1 : Int32)) (0 : Int32) := by
  refine xMi_of (cc := cX4_goes) (maxL := 2) (ty := .boolean) (own := RX4) [some (.ref (G.2.2 0 0)), some (.int (1 : Int32))] pnX4 rfl rfl rfl (xcat1 rfl) (Nat.le_of_ble_eq_true rfl) rfl hap (fun F C V E => ?_)
  refine xg_aload_n C dX4_goes_0 rfl ?_
  refine xg_iload_n C dX4_goes_1 rfl ?_
  refine xg_putI C V (f := 0) qX4_goes_90 rfl (by decide) rfl rfl tyX4_ok nmX4 rfl rfl dX4_goes_2 ?_
  refine xg_iload_n C dX4_goes_5 rfl ?_
  refine xg_if_ne C 13 dX4_goes_6 (by decide) (fun h1 => ?_) (fun h1 => by exact absurd h1 (by decide))
  refine xg_iconst C dX4_goes_13 (v := (0 : Int32)) (by decide) ?_
  exact xret_i E dX4_goes_14 rfl rfl
set_option maxRecDepth 100000 in
set_option maxHeartbeats 4000000 in
theorem kX4_goes2 (l : Launch) {G : xG} (hap : xAp xYm G)  (S : xS)  : xMi l xYm G yX4_goes wsX4_goes 0 0 [.ref (G.2.2 0 0), .int (2 : Int32)] S (xu S 0 0 (nI 29) (2 : Int32)) (0 : Int32) := by
  refine xMi_of (cc := cX4_goes) (maxL := 2) (ty := .boolean) (own := RX4) [some (.ref (G.2.2 0 0)), some (.int (2 : Int32))] pnX4 rfl rfl rfl (xcat1 rfl) (Nat.le_of_ble_eq_true rfl) rfl hap (fun F C V E => ?_)
  refine xg_aload_n C dX4_goes_0 rfl ?_
  refine xg_iload_n C dX4_goes_1 rfl ?_
  refine xg_putI C V (f := 0) qX4_goes_90 rfl (by decide) rfl rfl tyX4_ok nmX4 rfl rfl dX4_goes_2 ?_
  refine xg_iload_n C dX4_goes_5 rfl ?_
  refine xg_if_ne C 13 dX4_goes_6 (by decide) (fun h1 => ?_) (fun h1 => by exact absurd h1 (by decide))
  refine xg_iconst C dX4_goes_13 (v := (0 : Int32)) (by decide) ?_
  exact xret_i E dX4_goes_14 rfl rfl
def fX4_isIn (a1 : Int32) (a2 : Int32) (a3 : Int32) : Int32 :=
  if a1 < a2 then
    (0 : Int32)
  else
    if a3 < a1 then
      (0 : Int32)
    else
      (1 : Int32)
theorem z01X4_isIn {a1 a2 a3 : Int32} : narrow .boolean (.int (fX4_isIn a1 a2 a3)) = .int (fX4_isIn a1 a2 a3) := xn01 (by unfold fX4_isIn; (repeat' split) <;> first | exact Or.inl rfl | exact Or.inr rfl)
theorem hdX4_isIn : yX4_isIn.cls ≠ "java/lang/invoke/MethodHandle" ∧ yX4_isIn.cls ≠ "java/lang/invoke/VarHandle" ∧ (parseMethodDescriptor yX4_isIn.desc).map (fun d => d.parameters.length) = some 3 := by decide +kernel
set_option maxRecDepth 100000 in
set_option maxHeartbeats 4000000 in
theorem kX4_isIn (l : Launch) {G : xG} (hap : xAp xYm G) (a1 : Int32) (a2 : Int32) (a3 : Int32) (S : xS)  : xMi l xYm G yX4_isIn wsX4_isIn 0 0 [.int a1, .int a2, .int a3] S S (fX4_isIn a1 a2 a3) := by
  refine xMi_of (cc := cX4_isIn) (maxL := 3) (ty := .boolean) (own := RX4) [some (.int a1), some (.int a2), some (.int a3)] pnX4 rfl rfl z01X4_isIn (xcat1 rfl) (Nat.le_of_ble_eq_true rfl) rfl hap (fun F C V E => ?_)
  refine xg_iload_n C dX4_isIn_0 rfl ?_
  refine xg_iload_n C dX4_isIn_1 rfl ?_
  refine xg_icmp_lt C 14 dX4_isIn_2 (by decide) (fun h1 => ?_) (fun h1 => ?_)
  · refine xg_iconst C dX4_isIn_14 (v := (0 : Int32)) (by decide) ?_
    exact xret_i E dX4_isIn_15 (by first | (rw [fX4_isIn, if_pos h1]; done) | (rw [fX4_isIn, if_pos h1]; rfl)) rfl
  · refine xg_iload_n C dX4_isIn_5 rfl ?_
    refine xg_iload_n C dX4_isIn_6 rfl ?_
    refine xg_icmp_gt C 14 dX4_isIn_7 (by decide) (fun h2 => ?_) (fun h2 => ?_)
    · refine xg_iconst C dX4_isIn_14 (v := (0 : Int32)) (by decide) ?_
      exact xret_i E dX4_isIn_15 (by first | (rw [fX4_isIn, if_neg h1, if_pos h2]; done) | (rw [fX4_isIn, if_neg h1, if_pos h2]; rfl)) rfl
    · refine xg_iconst C dX4_isIn_10 (v := (1 : Int32)) (by decide) ?_
      refine xg_goto C 15 dX4_isIn_11 (by decide) ?_
      exact xret_i E dX4_isIn_15 (by first | (rw [fX4_isIn, if_neg h1, if_neg h2]; done) | (rw [fX4_isIn, if_neg h1, if_neg h2]; rfl)) rfl
def fX4_isOne (a1 : Int32) : Int32 :=
  (fX4_isIn a1 (0 : Int32) (7 : Int32))
theorem z01X4_isOne {a1 : Int32} : narrow .boolean (.int (fX4_isOne a1)) = .int (fX4_isOne a1) := z01X4_isIn
theorem hdX4_isOne : yX4_isOne.cls ≠ "java/lang/invoke/MethodHandle" ∧ yX4_isOne.cls ≠ "java/lang/invoke/VarHandle" ∧ (parseMethodDescriptor yX4_isOne.desc).map (fun d => d.parameters.length) = some 1 := by decide +kernel
set_option maxRecDepth 100000 in
set_option maxHeartbeats 4000000 in
theorem kX4_isOne (l : Launch) {G : xG} (hap : xAp xYm G) (a1 : Int32) (S : xS)  : xMi l xYm G yX4_isOne wsX4_isOne 1 22 [.int a1] S S (fX4_isOne a1) := by
  refine xMi_of (cc := cX4_isOne) (maxL := 1) (ty := .boolean) (own := RX4) [some (.int a1)] pnX4 rfl rfl z01X4_isOne (xcat1 rfl) (Nat.le_of_ble_eq_true rfl) rfl hap (fun F C V E => ?_)
  refine xg_iload_n C dX4_isOne_0 rfl ?_
  refine xg_iconst C dX4_isOne_1 (v := (0 : Int32)) (by decide) ?_
  refine xg_bipush C dX4_isOne_2 (v := (7 : Int32)) (by decide) ?_
  refine xg_callSi C V (as := [.int a1, .int (0 : Int32), .int (7 : Int32)]) (r := (fX4_isIn a1 (0 : Int32) (7 : Int32))) (fun l => kX4_isIn l hap a1 (0 : Int32) (7 : Int32) S) gX4_isOne_X4_isIn rfl hdX4_isIn ⟨by decide, by decide⟩ rfl rfl (Nat.le_of_ble_eq_true rfl) ⟨Nat.zero_le _, Nat.zero_le _⟩ dX4_isOne_4 ?_
  exact xret_i E dX4_isOne_7 (rfl) rfl
theorem xin_in {a lo hi : Int32} (h : ¬ fX4_isIn a lo hi = (0 : Int32)) : ¬ a < lo ∧ a ≤ hi := by
  unfold fX4_isIn at h
  by_cases h1 : a < lo
  · rw [if_pos h1] at h
    exact absurd rfl h
  · rw [if_neg h1] at h
    by_cases h2 : hi < a
    · rw [if_pos h2] at h
      exact absurd rfl h
    · refine ⟨h1, ?_⟩
      rw [Int32.lt_iff_toInt_lt] at h2
      rw [Int32.le_iff_toInt_le]
      omega
theorem xin_one {a : Int32} (h : ¬ fX4_isOne a = (0 : Int32)) : vp_in a 8 := by
  obtain ⟨h1, h2⟩ := xin_in h
  rw [xti]
  rw [Int32.lt_iff_toInt_lt, xt0] at h1
  rw [Int32.le_iff_toInt_le, xt7] at h2
  omega
def fX4_at (a1 : Int32) (a2 : Int32) : Int32 :=
  (((8 : Int32) * a1) + a2)
theorem hdX4_at : yX4_at.cls ≠ "java/lang/invoke/MethodHandle" ∧ yX4_at.cls ≠ "java/lang/invoke/VarHandle" ∧ (parseMethodDescriptor yX4_at.desc).map (fun d => d.parameters.length) = some 2 := by decide +kernel
set_option maxRecDepth 100000 in
set_option maxHeartbeats 4000000 in
theorem kX4_at (l : Launch) {G : xG} (hap : xAp xYm G) (a1 : Int32) (a2 : Int32) (S : xS)  : xMi l xYm G yX4_at wsX4_at 0 0 [.int a1, .int a2] S S (fX4_at a1 a2) := by
  refine xMi_of (cc := cX4_at) (maxL := 2) (ty := .int) (own := RX4) [some (.int a1), some (.int a2)] pnX4 rfl rfl rfl (xcat1 rfl) (Nat.le_of_ble_eq_true rfl) rfl hap (fun F C V E => ?_)
  refine xg_bipush C dX4_at_0 (v := (8 : Int32)) (by decide) ?_
  refine xg_iload_n C dX4_at_2 rfl ?_
  refine xg_imul C dX4_at_3 ?_
  refine xg_iload_n C dX4_at_4 rfl ?_
  refine xg_iadd C dX4_at_5 ?_
  exact xret_i E dX4_at_6 (rfl) rfl
theorem xat_toInt {m o : Int32} (h : vp_in m 8) (h2 : vp_in o 8) : (fX4_at m o).toInt = 8 * m.toInt + o.toInt := by
  rw [xti] at h h2
  show ((8 : Int32) * m + o).toInt = _
  rw [xtadd, xtmul, xt8]
  all_goals (try rw [xtmul]) <;> rw [xt8] <;> omega
theorem xin_at {m o : Int32} (h : vp_in m 8) (h2 : vp_in o 8) : vp_in (fX4_at m o) 64 := by
  rw [vp_in_iff, xat_toInt h h2]
  rw [xti] at h h2
  omega
def fX4_asks (a1 : Int32) (S : xS) : xS × Int32 :=
  if (fX4_isOne a1) = (0 : Int32) then
    ((xu S 0 0 (nI 29) (1 : Int32)), (0 : Int32))
  else
    ((xu S 0 0 (nI 29) (0 : Int32)), (1 : Int32))
theorem z01X4_asks {a1 : Int32} {S : xS} : narrow .boolean (.int (fX4_asks a1 S).2) = .int (fX4_asks a1 S).2 := xn01 (by unfold fX4_asks; (repeat' split) <;> first | exact Or.inl rfl | exact Or.inr rfl)
theorem hdX4_asks : yX4_asks.cls = RX4 ∧ yX4_asks.cls ≠ "java/lang/invoke/MethodHandle" ∧ yX4_asks.cls ≠ "java/lang/invoke/VarHandle" ∧ (parseMethodDescriptor yX4_asks.desc).map (fun d => d.parameters.length) = some 1 := by decide +kernel
set_option maxRecDepth 100000 in
set_option maxHeartbeats 4000000 in
theorem kX4_asks (l : Launch) {G : xG} (hap : xAp xYm G) (a1 : Int32) (S : xS)  : xMi l xYm G yX4_asks wsX4_asks 2 42 [.ref (G.2.2 0 0), .int a1] S (fX4_asks a1 S).1 (fX4_asks a1 S).2 := by
  refine xMi_of (cc := cX4_asks) (maxL := 2) (ty := .boolean) (own := RX4) [some (.ref (G.2.2 0 0)), some (.int a1)] pnX4 rfl rfl z01X4_asks (xcat1 rfl) (Nat.le_of_ble_eq_true rfl) rfl hap (fun F C V E => ?_)
  refine xg_aload_n C dX4_asks_0 rfl ?_
  refine xg_iload_n C dX4_asks_1 rfl ?_
  refine xg_callSi C V (as := [.int a1]) (r := (fX4_isOne a1)) (fun l => kX4_isOne l hap a1 S) gX4_asks_X4_isOne rfl hdX4_isOne ⟨by decide, by decide⟩ rfl rfl (Nat.le_of_ble_eq_true rfl) ⟨Nat.zero_le _, Nat.zero_le _⟩ dX4_asks_2 ?_
  refine xg_if_eq C 12 dX4_asks_5 (by decide) (fun h1 => ?_) (fun h1 => ?_)
  · refine xg_iconst C dX4_asks_12 (v := (1 : Int32)) (by decide) ?_
    refine xg_callVi C V (f := 0) (As := [.int (1 : Int32)]) (r := (0 : Int32)) (fun l => kX4_goes1 l hap  S) gX4_asks_X4_goes rfl hdX4_goes ⟨by decide, by decide⟩ rfl rfl rfl rfl rfl (Nat.le_of_ble_eq_true rfl) ⟨Nat.zero_le _, Nat.zero_le _⟩ dX4_asks_13 ?_
    have e : (fX4_asks a1 S) = ((xu S 0 0 (nI 29) (1 : Int32)), (0 : Int32)) := by first | (rw [fX4_asks, if_pos h1]; done) | (rw [fX4_asks, if_pos h1]; rfl)
    exact xret_i E dX4_asks_16 (xsnd e) (xfst e)
  · refine xg_iconst C dX4_asks_8 (v := (0 : Int32)) (by decide) ?_
    refine xg_goto C 13 dX4_asks_9 (by decide) ?_
    refine xg_callVi C V (f := 0) (As := [.int (0 : Int32)]) (r := (1 : Int32)) (fun l => kX4_goes0 l hap  S) gX4_asks_X4_goes rfl hdX4_goes ⟨by decide, by decide⟩ rfl rfl rfl rfl rfl (Nat.le_of_ble_eq_true rfl) ⟨Nat.zero_le _, Nat.zero_le _⟩ dX4_asks_13 ?_
    have e : (fX4_asks a1 S) = ((xu S 0 0 (nI 29) (0 : Int32)), (1 : Int32)) := by first | (rw [fX4_asks, if_neg h1]; done) | (rw [fX4_asks, if_neg h1]; rfl)
    exact xret_i E dX4_asks_16 (xsnd e) (xfst e)
def fX4_ask (a1 : Int32) (a2 : Int32) (S : xS) : xS × Int32 :=
  if (fX4_isOne a1) = (0 : Int32) then
    ((xu S 0 0 (nI 29) (1 : Int32)), (0 : Int32))
  else
    if (fX4_isOne a2) = (0 : Int32) then
      ((xu S 0 0 (nI 29) (1 : Int32)), (0 : Int32))
    else
      ((xu S 0 0 (nI 29) (0 : Int32)), (1 : Int32))
theorem z01X4_ask {a1 a2 : Int32} {S : xS} : narrow .boolean (.int (fX4_ask a1 a2 S).2) = .int (fX4_ask a1 a2 S).2 := xn01 (by unfold fX4_ask; (repeat' split) <;> first | exact Or.inl rfl | exact Or.inr rfl)
theorem hdX4_ask : yX4_ask.cls = RX4 ∧ yX4_ask.cls ≠ "java/lang/invoke/MethodHandle" ∧ yX4_ask.cls ≠ "java/lang/invoke/VarHandle" ∧ (parseMethodDescriptor yX4_ask.desc).map (fun d => d.parameters.length) = some 2 := by decide +kernel
set_option maxRecDepth 100000 in
set_option maxHeartbeats 4000000 in
theorem kX4_ask (l : Launch) {G : xG} (hap : xAp xYm G) (a1 : Int32) (a2 : Int32) (S : xS)  : xMi l xYm G yX4_ask wsX4_ask 2 42 [.ref (G.2.2 0 0), .int a1, .int a2] S (fX4_ask a1 a2 S).1 (fX4_ask a1 a2 S).2 := by
  refine xMi_of (cc := cX4_ask) (maxL := 3) (ty := .boolean) (own := RX4) [some (.ref (G.2.2 0 0)), some (.int a1), some (.int a2)] pnX4 rfl rfl z01X4_ask (xcat1 rfl) (Nat.le_of_ble_eq_true rfl) rfl hap (fun F C V E => ?_)
  refine xg_aload_n C dX4_ask_0 rfl ?_
  refine xg_iload_n C dX4_ask_1 rfl ?_
  refine xg_callSi C V (as := [.int a1]) (r := (fX4_isOne a1)) (fun l => kX4_isOne l hap a1 S) gX4_ask_X4_isOne rfl hdX4_isOne ⟨by decide, by decide⟩ rfl rfl (Nat.le_of_ble_eq_true rfl) ⟨Nat.zero_le _, Nat.zero_le _⟩ dX4_ask_2 ?_
  refine xg_if_eq C 19 dX4_ask_5 (by decide) (fun h1 => ?_) (fun h1 => ?_)
  · refine xg_iconst C dX4_ask_19 (v := (1 : Int32)) (by decide) ?_
    refine xg_callVi C V (f := 0) (As := [.int (1 : Int32)]) (r := (0 : Int32)) (fun l => kX4_goes1 l hap  S) gX4_ask_X4_goes rfl hdX4_goes ⟨by decide, by decide⟩ rfl rfl rfl rfl rfl (Nat.le_of_ble_eq_true rfl) ⟨Nat.zero_le _, Nat.zero_le _⟩ dX4_ask_20 ?_
    have e : (fX4_ask a1 a2 S) = ((xu S 0 0 (nI 29) (1 : Int32)), (0 : Int32)) := by first | (rw [fX4_ask, if_pos h1]; done) | (rw [fX4_ask, if_pos h1]; rfl)
    exact xret_i E dX4_ask_23 (xsnd e) (xfst e)
  · refine xg_iload_n C dX4_ask_8 rfl ?_
    refine xg_callSi C V (as := [.int a2]) (r := (fX4_isOne a2)) (fun l => kX4_isOne l hap a2 S) gX4_ask_X4_isOne rfl hdX4_isOne ⟨by decide, by decide⟩ rfl rfl (Nat.le_of_ble_eq_true rfl) ⟨Nat.zero_le _, Nat.zero_le _⟩ dX4_ask_9 ?_
    refine xg_if_eq C 19 dX4_ask_12 (by decide) (fun h2 => ?_) (fun h2 => ?_)
    · refine xg_iconst C dX4_ask_19 (v := (1 : Int32)) (by decide) ?_
      refine xg_callVi C V (f := 0) (As := [.int (1 : Int32)]) (r := (0 : Int32)) (fun l => kX4_goes1 l hap  S) gX4_ask_X4_goes rfl hdX4_goes ⟨by decide, by decide⟩ rfl rfl rfl rfl rfl (Nat.le_of_ble_eq_true rfl) ⟨Nat.zero_le _, Nat.zero_le _⟩ dX4_ask_20 ?_
      have e : (fX4_ask a1 a2 S) = ((xu S 0 0 (nI 29) (1 : Int32)), (0 : Int32)) := by first | (rw [fX4_ask, if_neg h1, if_pos h2]; done) | (rw [fX4_ask, if_neg h1, if_pos h2]; rfl)
      exact xret_i E dX4_ask_23 (xsnd e) (xfst e)
    · refine xg_iconst C dX4_ask_15 (v := (0 : Int32)) (by decide) ?_
      refine xg_goto C 20 dX4_ask_16 (by decide) ?_
      refine xg_callVi C V (f := 0) (As := [.int (0 : Int32)]) (r := (1 : Int32)) (fun l => kX4_goes0 l hap  S) gX4_ask_X4_goes rfl hdX4_goes ⟨by decide, by decide⟩ rfl rfl rfl rfl rfl (Nat.le_of_ble_eq_true rfl) ⟨Nat.zero_le _, Nat.zero_le _⟩ dX4_ask_20 ?_
      have e : (fX4_ask a1 a2 S) = ((xu S 0 0 (nI 29) (0 : Int32)), (1 : Int32)) := by first | (rw [fX4_ask, if_neg h1, if_neg h2]; done) | (rw [fX4_ask, if_neg h1, if_neg h2]; rfl)
      exact xret_i E dX4_ask_23 (xsnd e) (xfst e)
theorem xasks_ne {a : Int32} {S : xS} {f : Nat} (h : f ≠ 0) : (fX4_asks a S).1 f = S f := by
  unfold fX4_asks
  (repeat' split) <;> exact xu_nf h
theorem xin_asks {a : Int32} {S : xS} (h : ¬ (fX4_asks a S).2 = (0 : Int32)) : vp_in a 8 := by
  unfold fX4_asks at h
  split at h
  · exact absurd rfl h
  · exact xin_one (by assumption)
theorem xin_ask {a b : Int32} {S : xS} (h : ¬ (fX4_ask a b S).2 = (0 : Int32)) : vp_in a 8 ∧ vp_in b 8 := by
  unfold fX4_ask at h
  split at h
  · exact absurd rfl h
  · split at h
    · exact absurd rfl h
    · exact ⟨xin_one (by assumption), xin_one (by assumption)⟩
theorem xin_ask1 {a b : Int32} {S : xS} (h : ¬ (fX4_ask a b S).2 = (0 : Int32)) : vp_in a 8 := (xin_ask h).1
theorem xin_ask2 {a b : Int32} {S : xS} (h : ¬ (fX4_ask a b S).2 = (0 : Int32)) : vp_in b 8 := (xin_ask h).2
theorem iX4_shape_X4 : ∀ w ∈ wsX40, w ∈ wsX4_shape := by decide +kernel
theorem qX4_shape_7 : xFr wsX4_shape RX4 7 RX4 TX4 30 0 := ⟨iX4_shape_X4, List.mem_of_getElem? (i := 1) rfl, by decide⟩
theorem qX4_shape_13 : xFr wsX4_shape RX4 13 RX4 TX4 30 1 := ⟨iX4_shape_X4, List.mem_of_getElem? (i := 2) rfl, by decide⟩
def fX4_shape (a1 : Int32) (a2 : Int32) (a3 : Int32) (S : xS) : xS :=
  if (fX4_isOne a1) = (0 : Int32) then
    (xu S 0 0 (nI 29) (1 : Int32))
  else
    if (fX4_isIn a2 (1 : Int32) (100 : Int32)) = (0 : Int32) then
      (xu S 0 0 (nI 29) (1 : Int32))
    else
      if (fX4_isIn a3 (1 : Int32) (1000 : Int32)) = (0 : Int32) then
        (xu S 0 0 (nI 29) (1 : Int32))
      else
        (xu (xu (xu S 0 0 (nI 29) (0 : Int32)) 1 0 a1 a2) 2 0 a1 a3)
theorem hdX4_shape : yX4_shape.cls = RX4 ∧ yX4_shape.cls ≠ "java/lang/invoke/MethodHandle" ∧ yX4_shape.cls ≠ "java/lang/invoke/VarHandle" ∧ (parseMethodDescriptor yX4_shape.desc).map (fun d => d.parameters.length) = some 3 := by decide +kernel
set_option maxRecDepth 100000 in
set_option maxHeartbeats 4000000 in
theorem kX4_shape (l : Launch) {G : xG} (hap : xAp xYm G) (a1 : Int32) (a2 : Int32) (a3 : Int32) (S : xS)  : xMv l xYm G yX4_shape wsX4_shape 2 42 [.ref (G.2.2 0 0), .int a1, .int a2, .int a3] S (fX4_shape a1 a2 a3 S) := by
  refine xMv_of (cc := cX4_shape) (maxL := 4) (own := RX4) [some (.ref (G.2.2 0 0)), some (.int a1), some (.int a2), some (.int a3)] pnX4 rfl rfl (xcat1 rfl) (Nat.le_of_ble_eq_true rfl) rfl hap (fun F C V E => ?_)
  refine xg_aload_n C dX4_shape_0 rfl ?_
  refine xg_iload_n C dX4_shape_1 rfl ?_
  refine xg_callSi C V (as := [.int a1]) (r := (fX4_isOne a1)) (fun l => kX4_isOne l hap a1 S) gX4_shape_X4_isOne rfl hdX4_isOne ⟨by decide, by decide⟩ rfl rfl (Nat.le_of_ble_eq_true rfl) ⟨Nat.zero_le _, Nat.zero_le _⟩ dX4_shape_2 ?_
  refine xg_if_eq C 33 dX4_shape_5 (by decide) (fun h1 => ?_) (fun h1 => ?_)
  · refine xg_iconst C dX4_shape_33 (v := (1 : Int32)) (by decide) ?_
    refine xg_callVi C V (f := 0) (As := [.int (1 : Int32)]) (r := (0 : Int32)) (fun l => kX4_goes1 l hap  S) gX4_shape_X4_goes rfl hdX4_goes ⟨by decide, by decide⟩ rfl rfl rfl rfl rfl (Nat.le_of_ble_eq_true rfl) ⟨Nat.zero_le _, Nat.zero_le _⟩ dX4_shape_34 ?_
    refine xg_if_eq C 54 dX4_shape_37 (by decide) (fun h2 => ?_) (fun h2 => by exact absurd h2 (by decide))
    exact xret_v E dX4_shape_54 (by first | (rw [fX4_shape, if_pos h1]; done) | (rw [fX4_shape, if_pos h1]; rfl))
  · refine xg_iload_n C dX4_shape_8 rfl ?_
    refine xg_iconst C dX4_shape_9 (v := (1 : Int32)) (by decide) ?_
    refine xg_bipush C dX4_shape_10 (v := (100 : Int32)) (by decide) ?_
    refine xg_callSi C V (as := [.int a2, .int (1 : Int32), .int (100 : Int32)]) (r := (fX4_isIn a2 (1 : Int32) (100 : Int32))) (fun l => kX4_isIn l hap a2 (1 : Int32) (100 : Int32) S) gX4_shape_X4_isIn rfl hdX4_isIn ⟨by decide, by decide⟩ rfl rfl (Nat.le_of_ble_eq_true rfl) ⟨Nat.zero_le _, Nat.zero_le _⟩ dX4_shape_12 ?_
    refine xg_if_eq C 33 dX4_shape_15 (by decide) (fun h3 => ?_) (fun h3 => ?_)
    · refine xg_iconst C dX4_shape_33 (v := (1 : Int32)) (by decide) ?_
      refine xg_callVi C V (f := 0) (As := [.int (1 : Int32)]) (r := (0 : Int32)) (fun l => kX4_goes1 l hap  S) gX4_shape_X4_goes rfl hdX4_goes ⟨by decide, by decide⟩ rfl rfl rfl rfl rfl (Nat.le_of_ble_eq_true rfl) ⟨Nat.zero_le _, Nat.zero_le _⟩ dX4_shape_34 ?_
      refine xg_if_eq C 54 dX4_shape_37 (by decide) (fun h4 => ?_) (fun h4 => by exact absurd h4 (by decide))
      exact xret_v E dX4_shape_54 (by first | (rw [fX4_shape, if_neg h1, if_pos h3]; done) | (rw [fX4_shape, if_neg h1, if_pos h3]; rfl))
    · refine xg_iload_n C dX4_shape_18 rfl ?_
      refine xg_iconst C dX4_shape_19 (v := (1 : Int32)) (by decide) ?_
      refine xg_sipush C dX4_shape_20 (v := (1000 : Int32)) (by decide) ?_
      refine xg_callSi C V (as := [.int a3, .int (1 : Int32), .int (1000 : Int32)]) (r := (fX4_isIn a3 (1 : Int32) (1000 : Int32))) (fun l => kX4_isIn l hap a3 (1 : Int32) (1000 : Int32) S) gX4_shape_X4_isIn rfl hdX4_isIn ⟨by decide, by decide⟩ rfl rfl (Nat.le_of_ble_eq_true rfl) ⟨Nat.zero_le _, Nat.zero_le _⟩ dX4_shape_23 ?_
      refine xg_if_eq C 33 dX4_shape_26 (by decide) (fun h5 => ?_) (fun h5 => ?_)
      · refine xg_iconst C dX4_shape_33 (v := (1 : Int32)) (by decide) ?_
        refine xg_callVi C V (f := 0) (As := [.int (1 : Int32)]) (r := (0 : Int32)) (fun l => kX4_goes1 l hap  S) gX4_shape_X4_goes rfl hdX4_goes ⟨by decide, by decide⟩ rfl rfl rfl rfl rfl (Nat.le_of_ble_eq_true rfl) ⟨Nat.zero_le _, Nat.zero_le _⟩ dX4_shape_34 ?_
        refine xg_if_eq C 54 dX4_shape_37 (by decide) (fun h6 => ?_) (fun h6 => by exact absurd h6 (by decide))
        exact xret_v E dX4_shape_54 (by first | (rw [fX4_shape, if_neg h1, if_neg h3, if_pos h5]; done) | (rw [fX4_shape, if_neg h1, if_neg h3, if_pos h5]; rfl))
      · refine xg_iconst C dX4_shape_29 (v := (0 : Int32)) (by decide) ?_
        refine xg_goto C 34 dX4_shape_30 (by decide) ?_
        refine xg_callVi C V (f := 0) (As := [.int (0 : Int32)]) (r := (1 : Int32)) (fun l => kX4_goes0 l hap  S) gX4_shape_X4_goes rfl hdX4_goes ⟨by decide, by decide⟩ rfl rfl rfl rfl rfl (Nat.le_of_ble_eq_true rfl) ⟨Nat.zero_le _, Nat.zero_le _⟩ dX4_shape_34 ?_
        refine xg_if_eq C 54 dX4_shape_37 (by decide) (fun h7 => by exact absurd h7 (by decide)) (fun h7 => ?_)
        refine xg_aload_n C dX4_shape_40 rfl ?_
        refine xg_getR C V (f := 0) qX4_shape_7 rfl rfl rfl dX4_shape_41 ?_
        refine xg_iload_n C dX4_shape_44 rfl ?_
        refine xg_iload_n C dX4_shape_45 rfl ?_
        refine xg_iast C V (f := 1) (n := 1) (N := 8) rfl (by decide) (xR_0 (by decide)) (by first | assumption | exact xin_one (by assumption) | exact xin_asks (by assumption) | exact xin_ask1 (by assumption) | exact xin_ask2 (by assumption)) dX4_shape_46 ?_
        refine xg_aload_n C dX4_shape_47 rfl ?_
        refine xg_getR C V (f := 0) qX4_shape_13 rfl rfl rfl dX4_shape_48 ?_
        refine xg_iload_n C dX4_shape_51 rfl ?_
        refine xg_iload_n C dX4_shape_52 rfl ?_
        refine xg_iast C V (f := 2) (n := 1) (N := 8) rfl (by decide) (xR_0 (by decide)) (by first | assumption | exact xin_one (by assumption) | exact xin_asks (by assumption) | exact xin_ask1 (by assumption) | exact xin_ask2 (by assumption)) dX4_shape_53 ?_
        exact xret_v E dX4_shape_54 (by first | (rw [fX4_shape, if_neg h1, if_neg h3, if_neg h5]; done) | (rw [fX4_shape, if_neg h1, if_neg h3, if_neg h5]; rfl))
theorem iX4_setGauge_X4 : ∀ w ∈ wsX40, w ∈ wsX4_setGauge := by decide +kernel
theorem qX4_setGauge_22 : xFr wsX4_setGauge RX4 22 RX4 TX4 30 4 := ⟨iX4_setGauge_X4, List.mem_of_getElem? (i := 1) rfl, by decide⟩
def fX4_setGauge (a1 : Int32) (a2 : Int32) (S : xS) : xS × Int32 :=
  if (fX4_isOne a1) = (0 : Int32) then
    ((xu S 0 0 (nI 29) (1 : Int32)), (0 : Int32))
  else
    if (fX4_isIn a2 (1 : Int32) (50 : Int32)) = (0 : Int32) then
      ((xu S 0 0 (nI 29) (1 : Int32)), (0 : Int32))
    else
      ((xu (xu S 0 0 (nI 29) (0 : Int32)) 5 0 a1 a2), (S 5 0 a1))
theorem hdX4_setGauge : yX4_setGauge.cls = RX4 ∧ yX4_setGauge.cls ≠ "java/lang/invoke/MethodHandle" ∧ yX4_setGauge.cls ≠ "java/lang/invoke/VarHandle" ∧ (parseMethodDescriptor yX4_setGauge.desc).map (fun d => d.parameters.length) = some 2 := by decide +kernel
set_option maxRecDepth 100000 in
set_option maxHeartbeats 4000000 in
theorem kX4_setGauge (l : Launch) {G : xG} (hap : xAp xYm G) (a1 : Int32) (a2 : Int32) (S : xS)  : xMi l xYm G yX4_setGauge wsX4_setGauge 2 42 [.ref (G.2.2 0 0), .int a1, .int a2] S (fX4_setGauge a1 a2 S).1 (fX4_setGauge a1 a2 S).2 := by
  refine xMi_of (cc := cX4_setGauge) (maxL := 4) (ty := .int) (own := RX4) [some (.ref (G.2.2 0 0)), some (.int a1), some (.int a2), none] pnX4 rfl rfl rfl (xcat1 rfl) (Nat.le_of_ble_eq_true rfl) rfl hap (fun F C V E => ?_)
  refine xg_aload_n C dX4_setGauge_0 rfl ?_
  refine xg_iload_n C dX4_setGauge_1 rfl ?_
  refine xg_callSi C V (as := [.int a1]) (r := (fX4_isOne a1)) (fun l => kX4_isOne l hap a1 S) gX4_setGauge_X4_isOne rfl hdX4_isOne ⟨by decide, by decide⟩ rfl rfl (Nat.le_of_ble_eq_true rfl) ⟨Nat.zero_le _, Nat.zero_le _⟩ dX4_setGauge_2 ?_
  refine xg_if_eq C 22 dX4_setGauge_5 (by decide) (fun h1 => ?_) (fun h1 => ?_)
  · refine xg_iconst C dX4_setGauge_22 (v := (1 : Int32)) (by decide) ?_
    refine xg_callVi C V (f := 0) (As := [.int (1 : Int32)]) (r := (0 : Int32)) (fun l => kX4_goes1 l hap  S) gX4_setGauge_X4_goes rfl hdX4_goes ⟨by decide, by decide⟩ rfl rfl rfl rfl rfl (Nat.le_of_ble_eq_true rfl) ⟨Nat.zero_le _, Nat.zero_le _⟩ dX4_setGauge_23 ?_
    refine xg_if_ne C 31 dX4_setGauge_26 (by decide) (fun h2 => by exact absurd h2 (by decide)) (fun h2 => ?_)
    refine xg_iconst C dX4_setGauge_29 (v := (0 : Int32)) (by decide) ?_
    have e : (fX4_setGauge a1 a2 S) = ((xu S 0 0 (nI 29) (1 : Int32)), (0 : Int32)) := by first | (rw [fX4_setGauge, if_pos h1]; done) | (rw [fX4_setGauge, if_pos h1]; rfl)
    exact xret_i E dX4_setGauge_30 (xsnd e) (xfst e)
  · refine xg_iload_n C dX4_setGauge_8 rfl ?_
    refine xg_iconst C dX4_setGauge_9 (v := (1 : Int32)) (by decide) ?_
    refine xg_bipush C dX4_setGauge_10 (v := (50 : Int32)) (by decide) ?_
    refine xg_callSi C V (as := [.int a2, .int (1 : Int32), .int (50 : Int32)]) (r := (fX4_isIn a2 (1 : Int32) (50 : Int32))) (fun l => kX4_isIn l hap a2 (1 : Int32) (50 : Int32) S) gX4_setGauge_X4_isIn rfl hdX4_isIn ⟨by decide, by decide⟩ rfl rfl (Nat.le_of_ble_eq_true rfl) ⟨Nat.zero_le _, Nat.zero_le _⟩ dX4_setGauge_12 ?_
    refine xg_if_eq C 22 dX4_setGauge_15 (by decide) (fun h3 => ?_) (fun h3 => ?_)
    · refine xg_iconst C dX4_setGauge_22 (v := (1 : Int32)) (by decide) ?_
      refine xg_callVi C V (f := 0) (As := [.int (1 : Int32)]) (r := (0 : Int32)) (fun l => kX4_goes1 l hap  S) gX4_setGauge_X4_goes rfl hdX4_goes ⟨by decide, by decide⟩ rfl rfl rfl rfl rfl (Nat.le_of_ble_eq_true rfl) ⟨Nat.zero_le _, Nat.zero_le _⟩ dX4_setGauge_23 ?_
      refine xg_if_ne C 31 dX4_setGauge_26 (by decide) (fun h4 => by exact absurd h4 (by decide)) (fun h4 => ?_)
      refine xg_iconst C dX4_setGauge_29 (v := (0 : Int32)) (by decide) ?_
      have e : (fX4_setGauge a1 a2 S) = ((xu S 0 0 (nI 29) (1 : Int32)), (0 : Int32)) := by first | (rw [fX4_setGauge, if_neg h1, if_pos h3]; done) | (rw [fX4_setGauge, if_neg h1, if_pos h3]; rfl)
      exact xret_i E dX4_setGauge_30 (xsnd e) (xfst e)
    · refine xg_iconst C dX4_setGauge_18 (v := (0 : Int32)) (by decide) ?_
      refine xg_goto C 23 dX4_setGauge_19 (by decide) ?_
      refine xg_callVi C V (f := 0) (As := [.int (0 : Int32)]) (r := (1 : Int32)) (fun l => kX4_goes0 l hap  S) gX4_setGauge_X4_goes rfl hdX4_goes ⟨by decide, by decide⟩ rfl rfl rfl rfl rfl (Nat.le_of_ble_eq_true rfl) ⟨Nat.zero_le _, Nat.zero_le _⟩ dX4_setGauge_23 ?_
      refine xg_if_ne C 31 dX4_setGauge_26 (by decide) (fun h5 => ?_) (fun h5 => by exact absurd h5 (by decide))
      refine xg_aload_n C dX4_setGauge_31 rfl ?_
      refine xg_getR C V (f := 0) qX4_setGauge_22 rfl rfl rfl dX4_setGauge_32 ?_
      refine xg_iload_n C dX4_setGauge_35 rfl ?_
      refine xg_iald C V (f := 5) (n := 1) (N := 8) rfl (by decide) (xR_0 (by decide)) (by first | assumption | exact xin_one (by assumption) | exact xin_asks (by assumption) | exact xin_ask1 (by assumption) | exact xin_ask2 (by assumption)) dX4_setGauge_36 (v := (S 5 0 a1)) (xu_ne (by decide)) ?_
      refine xg_istore_n C dX4_setGauge_37 (by decide) (L' := [some (.ref (G.2.2 0 0)), some (.int a1), some (.int a2), some (.int (S 5 0 a1))]) rfl ?_
      refine xg_aload_n C dX4_setGauge_38 rfl ?_
      refine xg_getR C V (f := 0) qX4_setGauge_22 rfl rfl rfl dX4_setGauge_39 ?_
      refine xg_iload_n C dX4_setGauge_42 rfl ?_
      refine xg_iload_n C dX4_setGauge_43 rfl ?_
      refine xg_iast C V (f := 5) (n := 1) (N := 8) rfl (by decide) (xR_0 (by decide)) (by first | assumption | exact xin_one (by assumption) | exact xin_asks (by assumption) | exact xin_ask1 (by assumption) | exact xin_ask2 (by assumption)) dX4_setGauge_44 ?_
      refine xg_iload_n C dX4_setGauge_45 rfl ?_
      have e : (fX4_setGauge a1 a2 S) = ((xu (xu S 0 0 (nI 29) (0 : Int32)) 5 0 a1 a2), (S 5 0 a1)) := by first | (rw [fX4_setGauge, if_neg h1, if_neg h3]; done) | (rw [fX4_setGauge, if_neg h1, if_neg h3]; rfl)
      exact xret_i E dX4_setGauge_46 (xsnd e) (xfst e)
theorem iX4_setSource_X4 : ∀ w ∈ wsX40, w ∈ wsX4_setSource := by decide +kernel
theorem qX4_setSource_104 : xFr wsX4_setSource RX4 104 RX4 TX4 30 9 := ⟨iX4_setSource_X4, List.mem_of_getElem? (i := 1) rfl, by decide⟩
def fX4_setSource (a1 : Int32) (S : xS) : xS × Int32 :=
  if (fX4_isIn a1 (0 : Int32) (1000 : Int32)) = (0 : Int32) then
    ((xu S 0 0 (nI 29) (1 : Int32)), (0 : Int32))
  else
    ((xu (xu S 0 0 (nI 29) (0 : Int32)) 0 0 (nI 9) a1), (S 0 0 (nI 9)))
theorem hdX4_setSource : yX4_setSource.cls = RX4 ∧ yX4_setSource.cls ≠ "java/lang/invoke/MethodHandle" ∧ yX4_setSource.cls ≠ "java/lang/invoke/VarHandle" ∧ (parseMethodDescriptor yX4_setSource.desc).map (fun d => d.parameters.length) = some 1 := by decide +kernel
set_option maxRecDepth 100000 in
set_option maxHeartbeats 4000000 in
theorem kX4_setSource (l : Launch) {G : xG} (hap : xAp xYm G) (a1 : Int32) (S : xS)  : xMi l xYm G yX4_setSource wsX4_setSource 1 22 [.ref (G.2.2 0 0), .int a1] S (fX4_setSource a1 S).1 (fX4_setSource a1 S).2 := by
  refine xMi_of (cc := cX4_setSource) (maxL := 3) (ty := .int) (own := RX4) [some (.ref (G.2.2 0 0)), some (.int a1), none] pnX4 rfl rfl rfl (xcat1 rfl) (Nat.le_of_ble_eq_true rfl) rfl hap (fun F C V E => ?_)
  refine xg_aload_n C dX4_setSource_0 rfl ?_
  refine xg_iload_n C dX4_setSource_1 rfl ?_
  refine xg_iconst C dX4_setSource_2 (v := (0 : Int32)) (by decide) ?_
  refine xg_sipush C dX4_setSource_3 (v := (1000 : Int32)) (by decide) ?_
  refine xg_callSi C V (as := [.int a1, .int (0 : Int32), .int (1000 : Int32)]) (r := (fX4_isIn a1 (0 : Int32) (1000 : Int32))) (fun l => kX4_isIn l hap a1 (0 : Int32) (1000 : Int32) S) gX4_setSource_X4_isIn rfl hdX4_isIn ⟨by decide, by decide⟩ rfl rfl (Nat.le_of_ble_eq_true rfl) ⟨Nat.zero_le _, Nat.zero_le _⟩ dX4_setSource_6 ?_
  refine xg_if_eq C 16 dX4_setSource_9 (by decide) (fun h1 => ?_) (fun h1 => ?_)
  · refine xg_iconst C dX4_setSource_16 (v := (1 : Int32)) (by decide) ?_
    refine xg_callVi C V (f := 0) (As := [.int (1 : Int32)]) (r := (0 : Int32)) (fun l => kX4_goes1 l hap  S) gX4_setSource_X4_goes rfl hdX4_goes ⟨by decide, by decide⟩ rfl rfl rfl rfl rfl (Nat.le_of_ble_eq_true rfl) ⟨Nat.zero_le _, Nat.zero_le _⟩ dX4_setSource_17 ?_
    refine xg_if_ne C 25 dX4_setSource_20 (by decide) (fun h2 => by exact absurd h2 (by decide)) (fun h2 => ?_)
    refine xg_iconst C dX4_setSource_23 (v := (0 : Int32)) (by decide) ?_
    have e : (fX4_setSource a1 S) = ((xu S 0 0 (nI 29) (1 : Int32)), (0 : Int32)) := by first | (rw [fX4_setSource, if_pos h1]; done) | (rw [fX4_setSource, if_pos h1]; rfl)
    exact xret_i E dX4_setSource_24 (xsnd e) (xfst e)
  · refine xg_iconst C dX4_setSource_12 (v := (0 : Int32)) (by decide) ?_
    refine xg_goto C 17 dX4_setSource_13 (by decide) ?_
    refine xg_callVi C V (f := 0) (As := [.int (0 : Int32)]) (r := (1 : Int32)) (fun l => kX4_goes0 l hap  S) gX4_setSource_X4_goes rfl hdX4_goes ⟨by decide, by decide⟩ rfl rfl rfl rfl rfl (Nat.le_of_ble_eq_true rfl) ⟨Nat.zero_le _, Nat.zero_le _⟩ dX4_setSource_17 ?_
    refine xg_if_ne C 25 dX4_setSource_20 (by decide) (fun h3 => ?_) (fun h3 => by exact absurd h3 (by decide))
    refine xg_aload_n C dX4_setSource_25 rfl ?_
    refine xg_getI C V (f := 0) qX4_setSource_104 rfl rfl rfl dX4_setSource_26 (v := (S 0 0 (nI 9))) (xu_ni (by decide)) ?_
    refine xg_istore_n C dX4_setSource_29 (by decide) (L' := [some (.ref (G.2.2 0 0)), some (.int a1), some (.int (S 0 0 (nI 9)))]) rfl ?_
    refine xg_aload_n C dX4_setSource_30 rfl ?_
    refine xg_iload_n C dX4_setSource_31 rfl ?_
    refine xg_putI C V (f := 0) qX4_setSource_104 rfl (by decide) rfl rfl tyX4_ok nmX4 rfl rfl dX4_setSource_32 ?_
    refine xg_iload_n C dX4_setSource_35 rfl ?_
    have e : (fX4_setSource a1 S) = ((xu (xu S 0 0 (nI 29) (0 : Int32)) 0 0 (nI 9) a1), (S 0 0 (nI 9))) := by first | (rw [fX4_setSource, if_neg h1]; done) | (rw [fX4_setSource, if_neg h1]; rfl)
    exact xret_i E dX4_setSource_36 (xsnd e) (xfst e)
theorem iX4_rain_X4 : ∀ w ∈ wsX40, w ∈ wsX4_rain := by decide +kernel
theorem qX4_rain_25 : xFr wsX4_rain RX4 25 RX4 TX4 30 5 := ⟨iX4_rain_X4, List.mem_of_getElem? (i := 1) rfl, by decide⟩
def fX4_rain (a1 : Int32) (a2 : Int32) (S : xS) : xS × Int32 :=
  if (fX4_isOne a1) = (0 : Int32) then
    ((xu S 0 0 (nI 29) (1 : Int32)), (0 : Int32))
  else
    if (fX4_isIn a2 (1 : Int32) (10000 : Int32)) = (0 : Int32) then
      ((xu S 0 0 (nI 29) (1 : Int32)), (0 : Int32))
    else
      ((xu (xu S 0 0 (nI 29) (0 : Int32)) 6 0 a1 ((S 6 0 a1) + a2)), ((S 6 0 a1) + a2))
theorem hdX4_rain : yX4_rain.cls = RX4 ∧ yX4_rain.cls ≠ "java/lang/invoke/MethodHandle" ∧ yX4_rain.cls ≠ "java/lang/invoke/VarHandle" ∧ (parseMethodDescriptor yX4_rain.desc).map (fun d => d.parameters.length) = some 2 := by decide +kernel
set_option maxRecDepth 100000 in
set_option maxHeartbeats 4000000 in
theorem kX4_rain (l : Launch) {G : xG} (hap : xAp xYm G) (a1 : Int32) (a2 : Int32) (S : xS)  : xMi l xYm G yX4_rain wsX4_rain 2 42 [.ref (G.2.2 0 0), .int a1, .int a2] S (fX4_rain a1 a2 S).1 (fX4_rain a1 a2 S).2 := by
  refine xMi_of (cc := cX4_rain) (maxL := 3) (ty := .int) (own := RX4) [some (.ref (G.2.2 0 0)), some (.int a1), some (.int a2)] pnX4 rfl rfl rfl (xcat1 rfl) (Nat.le_of_ble_eq_true rfl) rfl hap (fun F C V E => ?_)
  refine xg_aload_n C dX4_rain_0 rfl ?_
  refine xg_iload_n C dX4_rain_1 rfl ?_
  refine xg_callSi C V (as := [.int a1]) (r := (fX4_isOne a1)) (fun l => kX4_isOne l hap a1 S) gX4_rain_X4_isOne rfl hdX4_isOne ⟨by decide, by decide⟩ rfl rfl (Nat.le_of_ble_eq_true rfl) ⟨Nat.zero_le _, Nat.zero_le _⟩ dX4_rain_2 ?_
  refine xg_if_eq C 23 dX4_rain_5 (by decide) (fun h1 => ?_) (fun h1 => ?_)
  · refine xg_iconst C dX4_rain_23 (v := (1 : Int32)) (by decide) ?_
    refine xg_callVi C V (f := 0) (As := [.int (1 : Int32)]) (r := (0 : Int32)) (fun l => kX4_goes1 l hap  S) gX4_rain_X4_goes rfl hdX4_goes ⟨by decide, by decide⟩ rfl rfl rfl rfl rfl (Nat.le_of_ble_eq_true rfl) ⟨Nat.zero_le _, Nat.zero_le _⟩ dX4_rain_24 ?_
    refine xg_if_ne C 32 dX4_rain_27 (by decide) (fun h2 => by exact absurd h2 (by decide)) (fun h2 => ?_)
    refine xg_iconst C dX4_rain_30 (v := (0 : Int32)) (by decide) ?_
    have e : (fX4_rain a1 a2 S) = ((xu S 0 0 (nI 29) (1 : Int32)), (0 : Int32)) := by first | (rw [fX4_rain, if_pos h1]; done) | (rw [fX4_rain, if_pos h1]; rfl)
    exact xret_i E dX4_rain_31 (xsnd e) (xfst e)
  · refine xg_iload_n C dX4_rain_8 rfl ?_
    refine xg_iconst C dX4_rain_9 (v := (1 : Int32)) (by decide) ?_
    refine xg_sipush C dX4_rain_10 (v := (10000 : Int32)) (by decide) ?_
    refine xg_callSi C V (as := [.int a2, .int (1 : Int32), .int (10000 : Int32)]) (r := (fX4_isIn a2 (1 : Int32) (10000 : Int32))) (fun l => kX4_isIn l hap a2 (1 : Int32) (10000 : Int32) S) gX4_rain_X4_isIn rfl hdX4_isIn ⟨by decide, by decide⟩ rfl rfl (Nat.le_of_ble_eq_true rfl) ⟨Nat.zero_le _, Nat.zero_le _⟩ dX4_rain_13 ?_
    refine xg_if_eq C 23 dX4_rain_16 (by decide) (fun h3 => ?_) (fun h3 => ?_)
    · refine xg_iconst C dX4_rain_23 (v := (1 : Int32)) (by decide) ?_
      refine xg_callVi C V (f := 0) (As := [.int (1 : Int32)]) (r := (0 : Int32)) (fun l => kX4_goes1 l hap  S) gX4_rain_X4_goes rfl hdX4_goes ⟨by decide, by decide⟩ rfl rfl rfl rfl rfl (Nat.le_of_ble_eq_true rfl) ⟨Nat.zero_le _, Nat.zero_le _⟩ dX4_rain_24 ?_
      refine xg_if_ne C 32 dX4_rain_27 (by decide) (fun h4 => by exact absurd h4 (by decide)) (fun h4 => ?_)
      refine xg_iconst C dX4_rain_30 (v := (0 : Int32)) (by decide) ?_
      have e : (fX4_rain a1 a2 S) = ((xu S 0 0 (nI 29) (1 : Int32)), (0 : Int32)) := by first | (rw [fX4_rain, if_neg h1, if_pos h3]; done) | (rw [fX4_rain, if_neg h1, if_pos h3]; rfl)
      exact xret_i E dX4_rain_31 (xsnd e) (xfst e)
    · refine xg_iconst C dX4_rain_19 (v := (0 : Int32)) (by decide) ?_
      refine xg_goto C 24 dX4_rain_20 (by decide) ?_
      refine xg_callVi C V (f := 0) (As := [.int (0 : Int32)]) (r := (1 : Int32)) (fun l => kX4_goes0 l hap  S) gX4_rain_X4_goes rfl hdX4_goes ⟨by decide, by decide⟩ rfl rfl rfl rfl rfl (Nat.le_of_ble_eq_true rfl) ⟨Nat.zero_le _, Nat.zero_le _⟩ dX4_rain_24 ?_
      refine xg_if_ne C 32 dX4_rain_27 (by decide) (fun h5 => ?_) (fun h5 => by exact absurd h5 (by decide))
      refine xg_aload_n C dX4_rain_32 rfl ?_
      refine xg_getR C V (f := 0) qX4_rain_25 rfl rfl rfl dX4_rain_33 ?_
      refine xg_iload_n C dX4_rain_36 rfl ?_
      refine xg_dup2 C dX4_rain_37 rfl rfl ?_
      refine xg_iald C V (f := 6) (n := 1) (N := 8) rfl (by decide) (xR_0 (by decide)) (by first | assumption | exact xin_one (by assumption) | exact xin_asks (by assumption) | exact xin_ask1 (by assumption) | exact xin_ask2 (by assumption)) dX4_rain_38 (v := (S 6 0 a1)) (xu_ne (by decide)) ?_
      refine xg_iload_n C dX4_rain_39 rfl ?_
      refine xg_iadd C dX4_rain_40 ?_
      refine xg_iast C V (f := 6) (n := 1) (N := 8) rfl (by decide) (xR_0 (by decide)) (by first | assumption | exact xin_one (by assumption) | exact xin_asks (by assumption) | exact xin_ask1 (by assumption) | exact xin_ask2 (by assumption)) dX4_rain_41 ?_
      refine xg_aload_n C dX4_rain_42 rfl ?_
      refine xg_getR C V (f := 0) qX4_rain_25 rfl rfl rfl dX4_rain_43 ?_
      refine xg_iload_n C dX4_rain_46 rfl ?_
      refine xg_iald C V (f := 6) (n := 1) (N := 8) rfl (by decide) (xR_0 (by decide)) (by first | assumption | exact xin_one (by assumption) | exact xin_asks (by assumption) | exact xin_ask1 (by assumption) | exact xin_ask2 (by assumption)) dX4_rain_47 (v := ((S 6 0 a1) + a2)) xu_same ?_
      have e : (fX4_rain a1 a2 S) = ((xu (xu S 0 0 (nI 29) (0 : Int32)) 6 0 a1 ((S 6 0 a1) + a2)), ((S 6 0 a1) + a2)) := by first | (rw [fX4_rain, if_neg h1, if_neg h3]; done) | (rw [fX4_rain, if_neg h1, if_neg h3]; rfl)
      exact xret_i E dX4_rain_48 (xsnd e) (xfst e)
theorem iX4_byHand_X4 : ∀ w ∈ wsX40, w ∈ wsX4_byHand := by decide +kernel
theorem qX4_byHand_19 : xFr wsX4_byHand RX4 19 RX4 TX4 30 3 := ⟨iX4_byHand_X4, List.mem_of_getElem? (i := 2) rfl, by decide⟩
theorem qX4_byHand_49 : xFr wsX4_byHand RX4 49 RX4 TX4 30 14 := ⟨iX4_byHand_X4, List.mem_of_getElem? (i := 1) rfl, by decide⟩
def fX4_byHand (a1 : Int32) (a2 : Int32) (S : xS) : xS × Int32 :=
  if (fX4_isOne a1) = (0 : Int32) then
    ((xu S 0 0 (nI 29) (1 : Int32)), (0 : Int32))
  else
    if (fX4_isIn a2 (-1 : Int32) (10 : Int32)) = (0 : Int32) then
      ((xu S 0 0 (nI 29) (1 : Int32)), (0 : Int32))
    else
      if a2 = (-1 : Int32) then
        if (S 14 0 a1) = (0 : Int32) then
          ((xu S 0 0 (nI 29) (2 : Int32)), (0 : Int32))
        else
          ((xu (xu (xu S 0 0 (nI 29) (0 : Int32)) 14 0 a1 (0 : Int32)) 4 0 a1 (S 4 0 a1)), (S 4 0 a1))
      else
        ((xu (xu (xu S 0 0 (nI 29) (0 : Int32)) 14 0 a1 (1 : Int32)) 4 0 a1 a2), (S 4 0 a1))
theorem hdX4_byHand : yX4_byHand.cls = RX4 ∧ yX4_byHand.cls ≠ "java/lang/invoke/MethodHandle" ∧ yX4_byHand.cls ≠ "java/lang/invoke/VarHandle" ∧ (parseMethodDescriptor yX4_byHand.desc).map (fun d => d.parameters.length) = some 2 := by decide +kernel
set_option maxRecDepth 100000 in
set_option maxHeartbeats 4000000 in
theorem kX4_byHand (l : Launch) {G : xG} (hap : xAp xYm G) (a1 : Int32) (a2 : Int32) (S : xS)  : xMi l xYm G yX4_byHand wsX4_byHand 2 42 [.ref (G.2.2 0 0), .int a1, .int a2] S (fX4_byHand a1 a2 S).1 (fX4_byHand a1 a2 S).2 := by
  refine xMi_of (cc := cX4_byHand) (maxL := 4) (ty := .int) (own := RX4) [some (.ref (G.2.2 0 0)), some (.int a1), some (.int a2), none] pnX4 rfl rfl rfl (xcat1 rfl) (Nat.le_of_ble_eq_true rfl) rfl hap (fun F C V E => ?_)
  refine xg_aload_n C dX4_byHand_0 rfl ?_
  refine xg_iload_n C dX4_byHand_1 rfl ?_
  refine xg_callSi C V (as := [.int a1]) (r := (fX4_isOne a1)) (fun l => kX4_isOne l hap a1 S) gX4_byHand_X4_isOne rfl hdX4_isOne ⟨by decide, by decide⟩ rfl rfl (Nat.le_of_ble_eq_true rfl) ⟨Nat.zero_le _, Nat.zero_le _⟩ dX4_byHand_2 ?_
  refine xg_if_eq C 18 dX4_byHand_5 (by decide) (fun h1 => ?_) (fun h1 => ?_)
  · refine xg_iconst C dX4_byHand_18 (v := (1 : Int32)) (by decide) ?_
    refine xg_goto C 41 dX4_byHand_19 (by decide) ?_
    refine xg_callVi C V (f := 0) (As := [.int (1 : Int32)]) (r := (0 : Int32)) (fun l => kX4_goes1 l hap  S) gX4_byHand_X4_goes rfl hdX4_goes ⟨by decide, by decide⟩ rfl rfl rfl rfl rfl (Nat.le_of_ble_eq_true rfl) ⟨Nat.zero_le _, Nat.zero_le _⟩ dX4_byHand_41 ?_
    refine xg_if_ne C 49 dX4_byHand_44 (by decide) (fun h2 => by exact absurd h2 (by decide)) (fun h2 => ?_)
    refine xg_iconst C dX4_byHand_47 (v := (0 : Int32)) (by decide) ?_
    have e : (fX4_byHand a1 a2 S) = ((xu S 0 0 (nI 29) (1 : Int32)), (0 : Int32)) := by first | (rw [fX4_byHand, if_pos h1]; done) | (rw [fX4_byHand, if_pos h1]; rfl)
    exact xret_i E dX4_byHand_48 (xsnd e) (xfst e)
  · refine xg_iload_n C dX4_byHand_8 rfl ?_
    refine xg_iconst C dX4_byHand_9 (v := (-1 : Int32)) (by decide) ?_
    refine xg_bipush C dX4_byHand_10 (v := (10 : Int32)) (by decide) ?_
    refine xg_callSi C V (as := [.int a2, .int (-1 : Int32), .int (10 : Int32)]) (r := (fX4_isIn a2 (-1 : Int32) (10 : Int32))) (fun l => kX4_isIn l hap a2 (-1 : Int32) (10 : Int32) S) gX4_byHand_X4_isIn rfl hdX4_isIn ⟨by decide, by decide⟩ rfl rfl (Nat.le_of_ble_eq_true rfl) ⟨Nat.zero_le _, Nat.zero_le _⟩ dX4_byHand_12 ?_
    refine xg_if_ne C 22 dX4_byHand_15 (by decide) (fun h3 => ?_) (fun h3 => ?_)
    · refine xg_iload_n C dX4_byHand_22 rfl ?_
      refine xg_iconst C dX4_byHand_23 (v := (-1 : Int32)) (by decide) ?_
      refine xg_icmp_ne C 40 dX4_byHand_24 (by decide) (fun h4 => ?_) (fun h4 => ?_)
      · refine xg_iconst C dX4_byHand_40 (v := (0 : Int32)) (by decide) ?_
        refine xg_callVi C V (f := 0) (As := [.int (0 : Int32)]) (r := (1 : Int32)) (fun l => kX4_goes0 l hap  S) gX4_byHand_X4_goes rfl hdX4_goes ⟨by decide, by decide⟩ rfl rfl rfl rfl rfl (Nat.le_of_ble_eq_true rfl) ⟨Nat.zero_le _, Nat.zero_le _⟩ dX4_byHand_41 ?_
        refine xg_if_ne C 49 dX4_byHand_44 (by decide) (fun h5 => ?_) (fun h5 => by exact absurd h5 (by decide))
        refine xg_aload_n C dX4_byHand_49 rfl ?_
        refine xg_getR C V (f := 0) qX4_byHand_19 rfl rfl rfl dX4_byHand_50 ?_
        refine xg_iload_n C dX4_byHand_53 rfl ?_
        refine xg_iald C V (f := 4) (n := 1) (N := 8) rfl (by decide) (xR_0 (by decide)) (by first | assumption | exact xin_one (by assumption) | exact xin_asks (by assumption) | exact xin_ask1 (by assumption) | exact xin_ask2 (by assumption)) dX4_byHand_54 (v := (S 4 0 a1)) (xu_ne (by decide)) ?_
        refine xg_istore_n C dX4_byHand_55 (by decide) (L' := [some (.ref (G.2.2 0 0)), some (.int a1), some (.int a2), some (.int (S 4 0 a1))]) rfl ?_
        refine xg_aload_n C dX4_byHand_56 rfl ?_
        refine xg_getR C V (f := 0) qX4_byHand_49 rfl rfl rfl dX4_byHand_57 ?_
        refine xg_iload_n C dX4_byHand_60 rfl ?_
        refine xg_iload_n C dX4_byHand_61 rfl ?_
        refine xg_iconst C dX4_byHand_62 (v := (-1 : Int32)) (by decide) ?_
        refine xg_icmp_eq C 70 dX4_byHand_63 (by decide) (fun h6 => by contradiction) (fun h6 => ?_)
        refine xg_iconst C dX4_byHand_66 (v := (1 : Int32)) (by decide) ?_
        refine xg_goto C 71 dX4_byHand_67 (by decide) ?_
        refine xg_zast C V (f := 14) (n := 1) (N := 8) rfl (by decide) (xR_0 (by decide)) (by first | assumption | exact xin_one (by assumption) | exact xin_asks (by assumption) | exact xin_ask1 (by assumption) | exact xin_ask2 (by assumption)) rfl dX4_byHand_71 ?_
        refine xg_aload_n C dX4_byHand_72 rfl ?_
        refine xg_getR C V (f := 0) qX4_byHand_19 rfl rfl rfl dX4_byHand_73 ?_
        refine xg_iload_n C dX4_byHand_76 rfl ?_
        refine xg_iload_n C dX4_byHand_77 rfl ?_
        refine xg_iconst C dX4_byHand_78 (v := (-1 : Int32)) (by decide) ?_
        refine xg_icmp_ne C 86 dX4_byHand_79 (by decide) (fun h7 => ?_) (fun h7 => by contradiction)
        refine xg_iload_n C dX4_byHand_86 rfl ?_
        refine xg_iast C V (f := 4) (n := 1) (N := 8) rfl (by decide) (xR_0 (by decide)) (by first | assumption | exact xin_one (by assumption) | exact xin_asks (by assumption) | exact xin_ask1 (by assumption) | exact xin_ask2 (by assumption)) dX4_byHand_87 ?_
        refine xg_iload_n C dX4_byHand_88 rfl ?_
        have e : (fX4_byHand a1 a2 S) = ((xu (xu (xu S 0 0 (nI 29) (0 : Int32)) 14 0 a1 (1 : Int32)) 4 0 a1 a2), (S 4 0 a1)) := by first | (rw [fX4_byHand, if_neg h1, if_neg h3, if_neg h4]; done) | (rw [fX4_byHand, if_neg h1, if_neg h3, if_neg h4]; rfl)
        exact xret_i E dX4_byHand_89 (xsnd e) (xfst e)
      · refine xg_aload_n C dX4_byHand_27 rfl ?_
        refine xg_getR C V (f := 0) qX4_byHand_49 rfl rfl rfl dX4_byHand_28 ?_
        refine xg_iload_n C dX4_byHand_31 rfl ?_
        refine xg_zald C V (f := 14) (n := 1) (N := 8) rfl (by decide) (xR_0 (by decide)) (by first | assumption | exact xin_one (by assumption) | exact xin_asks (by assumption) | exact xin_ask1 (by assumption) | exact xin_ask2 (by assumption)) dX4_byHand_32 (v := (S 14 0 a1)) rfl ?_
        refine xg_if_ne C 40 dX4_byHand_33 (by decide) (fun h8 => ?_) (fun h8 => ?_)
        · refine xg_iconst C dX4_byHand_40 (v := (0 : Int32)) (by decide) ?_
          refine xg_callVi C V (f := 0) (As := [.int (0 : Int32)]) (r := (1 : Int32)) (fun l => kX4_goes0 l hap  S) gX4_byHand_X4_goes rfl hdX4_goes ⟨by decide, by decide⟩ rfl rfl rfl rfl rfl (Nat.le_of_ble_eq_true rfl) ⟨Nat.zero_le _, Nat.zero_le _⟩ dX4_byHand_41 ?_
          refine xg_if_ne C 49 dX4_byHand_44 (by decide) (fun h9 => ?_) (fun h9 => by exact absurd h9 (by decide))
          refine xg_aload_n C dX4_byHand_49 rfl ?_
          refine xg_getR C V (f := 0) qX4_byHand_19 rfl rfl rfl dX4_byHand_50 ?_
          refine xg_iload_n C dX4_byHand_53 rfl ?_
          refine xg_iald C V (f := 4) (n := 1) (N := 8) rfl (by decide) (xR_0 (by decide)) (by first | assumption | exact xin_one (by assumption) | exact xin_asks (by assumption) | exact xin_ask1 (by assumption) | exact xin_ask2 (by assumption)) dX4_byHand_54 (v := (S 4 0 a1)) (xu_ne (by decide)) ?_
          refine xg_istore_n C dX4_byHand_55 (by decide) (L' := [some (.ref (G.2.2 0 0)), some (.int a1), some (.int a2), some (.int (S 4 0 a1))]) rfl ?_
          refine xg_aload_n C dX4_byHand_56 rfl ?_
          refine xg_getR C V (f := 0) qX4_byHand_49 rfl rfl rfl dX4_byHand_57 ?_
          refine xg_iload_n C dX4_byHand_60 rfl ?_
          refine xg_iload_n C dX4_byHand_61 rfl ?_
          refine xg_iconst C dX4_byHand_62 (v := (-1 : Int32)) (by decide) ?_
          refine xg_icmp_eq C 70 dX4_byHand_63 (by decide) (fun h10 => ?_) (fun h10 => by contradiction)
          refine xg_iconst C dX4_byHand_70 (v := (0 : Int32)) (by decide) ?_
          refine xg_zast C V (f := 14) (n := 1) (N := 8) rfl (by decide) (xR_0 (by decide)) (by first | assumption | exact xin_one (by assumption) | exact xin_asks (by assumption) | exact xin_ask1 (by assumption) | exact xin_ask2 (by assumption)) rfl dX4_byHand_71 ?_
          refine xg_aload_n C dX4_byHand_72 rfl ?_
          refine xg_getR C V (f := 0) qX4_byHand_19 rfl rfl rfl dX4_byHand_73 ?_
          refine xg_iload_n C dX4_byHand_76 rfl ?_
          refine xg_iload_n C dX4_byHand_77 rfl ?_
          refine xg_iconst C dX4_byHand_78 (v := (-1 : Int32)) (by decide) ?_
          refine xg_icmp_ne C 86 dX4_byHand_79 (by decide) (fun h11 => by contradiction) (fun h11 => ?_)
          refine xg_iload_n C dX4_byHand_82 rfl ?_
          refine xg_goto C 87 dX4_byHand_83 (by decide) ?_
          refine xg_iast C V (f := 4) (n := 1) (N := 8) rfl (by decide) (xR_0 (by decide)) (by first | assumption | exact xin_one (by assumption) | exact xin_asks (by assumption) | exact xin_ask1 (by assumption) | exact xin_ask2 (by assumption)) dX4_byHand_87 ?_
          refine xg_iload_n C dX4_byHand_88 rfl ?_
          have e : (fX4_byHand a1 a2 S) = ((xu (xu (xu S 0 0 (nI 29) (0 : Int32)) 14 0 a1 (0 : Int32)) 4 0 a1 (S 4 0 a1)), (S 4 0 a1)) := by first | (rw [fX4_byHand, if_neg h1, if_neg h3, if_pos h4, if_neg h8]; done) | (rw [fX4_byHand, if_neg h1, if_neg h3, if_pos h4, if_neg h8]; rfl)
          exact xret_i E dX4_byHand_89 (xsnd e) (xfst e)
        · refine xg_iconst C dX4_byHand_36 (v := (2 : Int32)) (by decide) ?_
          refine xg_goto C 41 dX4_byHand_37 (by decide) ?_
          refine xg_callVi C V (f := 0) (As := [.int (2 : Int32)]) (r := (0 : Int32)) (fun l => kX4_goes2 l hap  S) gX4_byHand_X4_goes rfl hdX4_goes ⟨by decide, by decide⟩ rfl rfl rfl rfl rfl (Nat.le_of_ble_eq_true rfl) ⟨Nat.zero_le _, Nat.zero_le _⟩ dX4_byHand_41 ?_
          refine xg_if_ne C 49 dX4_byHand_44 (by decide) (fun h12 => by exact absurd h12 (by decide)) (fun h12 => ?_)
          refine xg_iconst C dX4_byHand_47 (v := (0 : Int32)) (by decide) ?_
          have e : (fX4_byHand a1 a2 S) = ((xu S 0 0 (nI 29) (2 : Int32)), (0 : Int32)) := by first | (rw [fX4_byHand, if_neg h1, if_neg h3, if_pos h4, if_pos h8]; done) | (rw [fX4_byHand, if_neg h1, if_neg h3, if_pos h4, if_pos h8]; rfl)
          exact xret_i E dX4_byHand_48 (xsnd e) (xfst e)
    · refine xg_iconst C dX4_byHand_18 (v := (1 : Int32)) (by decide) ?_
      refine xg_goto C 41 dX4_byHand_19 (by decide) ?_
      refine xg_callVi C V (f := 0) (As := [.int (1 : Int32)]) (r := (0 : Int32)) (fun l => kX4_goes1 l hap  S) gX4_byHand_X4_goes rfl hdX4_goes ⟨by decide, by decide⟩ rfl rfl rfl rfl rfl (Nat.le_of_ble_eq_true rfl) ⟨Nat.zero_le _, Nat.zero_le _⟩ dX4_byHand_41 ?_
      refine xg_if_ne C 49 dX4_byHand_44 (by decide) (fun h13 => by exact absurd h13 (by decide)) (fun h13 => ?_)
      refine xg_iconst C dX4_byHand_47 (v := (0 : Int32)) (by decide) ?_
      have e : (fX4_byHand a1 a2 S) = ((xu S 0 0 (nI 29) (1 : Int32)), (0 : Int32)) := by first | (rw [fX4_byHand, if_neg h1, if_pos h3]; done) | (rw [fX4_byHand, if_neg h1, if_pos h3]; rfl)
      exact xret_i E dX4_byHand_48 (xsnd e) (xfst e)
theorem iX4_setGroup_X4 : ∀ w ∈ wsX40, w ∈ wsX4_setGroup := by decide +kernel
theorem qX4_setGroup_59 : xFr wsX4_setGroup RX4 59 RX4 TX4 30 17 := ⟨iX4_setGroup_X4, List.mem_of_getElem? (i := 1) rfl, by decide⟩
def fX4_setGroup (a1 : Int32) (a2 : Int32) (S : xS) : xS × Int32 :=
  if (fX4_isOne a1) = (0 : Int32) then
    ((xu S 0 0 (nI 29) (1 : Int32)), (0 : Int32))
  else
    if (fX4_isIn a2 (0 : Int32) (3 : Int32)) = (0 : Int32) then
      ((xu S 0 0 (nI 29) (1 : Int32)), (0 : Int32))
    else
      ((xu (xu S 0 0 (nI 29) (0 : Int32)) 17 0 a1 a2), (S 17 0 a1))
theorem hdX4_setGroup : yX4_setGroup.cls = RX4 ∧ yX4_setGroup.cls ≠ "java/lang/invoke/MethodHandle" ∧ yX4_setGroup.cls ≠ "java/lang/invoke/VarHandle" ∧ (parseMethodDescriptor yX4_setGroup.desc).map (fun d => d.parameters.length) = some 2 := by decide +kernel
set_option maxRecDepth 100000 in
set_option maxHeartbeats 4000000 in
theorem kX4_setGroup (l : Launch) {G : xG} (hap : xAp xYm G) (a1 : Int32) (a2 : Int32) (S : xS)  : xMi l xYm G yX4_setGroup wsX4_setGroup 2 42 [.ref (G.2.2 0 0), .int a1, .int a2] S (fX4_setGroup a1 a2 S).1 (fX4_setGroup a1 a2 S).2 := by
  refine xMi_of (cc := cX4_setGroup) (maxL := 4) (ty := .int) (own := RX4) [some (.ref (G.2.2 0 0)), some (.int a1), some (.int a2), none] pnX4 rfl rfl rfl (xcat1 rfl) (Nat.le_of_ble_eq_true rfl) rfl hap (fun F C V E => ?_)
  refine xg_aload_n C dX4_setGroup_0 rfl ?_
  refine xg_iload_n C dX4_setGroup_1 rfl ?_
  refine xg_callSi C V (as := [.int a1]) (r := (fX4_isOne a1)) (fun l => kX4_isOne l hap a1 S) gX4_setGroup_X4_isOne rfl hdX4_isOne ⟨by decide, by decide⟩ rfl rfl (Nat.le_of_ble_eq_true rfl) ⟨Nat.zero_le _, Nat.zero_le _⟩ dX4_setGroup_2 ?_
  refine xg_if_eq C 21 dX4_setGroup_5 (by decide) (fun h1 => ?_) (fun h1 => ?_)
  · refine xg_iconst C dX4_setGroup_21 (v := (1 : Int32)) (by decide) ?_
    refine xg_callVi C V (f := 0) (As := [.int (1 : Int32)]) (r := (0 : Int32)) (fun l => kX4_goes1 l hap  S) gX4_setGroup_X4_goes rfl hdX4_goes ⟨by decide, by decide⟩ rfl rfl rfl rfl rfl (Nat.le_of_ble_eq_true rfl) ⟨Nat.zero_le _, Nat.zero_le _⟩ dX4_setGroup_22 ?_
    refine xg_if_ne C 30 dX4_setGroup_25 (by decide) (fun h2 => by exact absurd h2 (by decide)) (fun h2 => ?_)
    refine xg_iconst C dX4_setGroup_28 (v := (0 : Int32)) (by decide) ?_
    have e : (fX4_setGroup a1 a2 S) = ((xu S 0 0 (nI 29) (1 : Int32)), (0 : Int32)) := by first | (rw [fX4_setGroup, if_pos h1]; done) | (rw [fX4_setGroup, if_pos h1]; rfl)
    exact xret_i E dX4_setGroup_29 (xsnd e) (xfst e)
  · refine xg_iload_n C dX4_setGroup_8 rfl ?_
    refine xg_iconst C dX4_setGroup_9 (v := (0 : Int32)) (by decide) ?_
    refine xg_iconst C dX4_setGroup_10 (v := (3 : Int32)) (by decide) ?_
    refine xg_callSi C V (as := [.int a2, .int (0 : Int32), .int (3 : Int32)]) (r := (fX4_isIn a2 (0 : Int32) (3 : Int32))) (fun l => kX4_isIn l hap a2 (0 : Int32) (3 : Int32) S) gX4_setGroup_X4_isIn rfl hdX4_isIn ⟨by decide, by decide⟩ rfl rfl (Nat.le_of_ble_eq_true rfl) ⟨Nat.zero_le _, Nat.zero_le _⟩ dX4_setGroup_11 ?_
    refine xg_if_eq C 21 dX4_setGroup_14 (by decide) (fun h3 => ?_) (fun h3 => ?_)
    · refine xg_iconst C dX4_setGroup_21 (v := (1 : Int32)) (by decide) ?_
      refine xg_callVi C V (f := 0) (As := [.int (1 : Int32)]) (r := (0 : Int32)) (fun l => kX4_goes1 l hap  S) gX4_setGroup_X4_goes rfl hdX4_goes ⟨by decide, by decide⟩ rfl rfl rfl rfl rfl (Nat.le_of_ble_eq_true rfl) ⟨Nat.zero_le _, Nat.zero_le _⟩ dX4_setGroup_22 ?_
      refine xg_if_ne C 30 dX4_setGroup_25 (by decide) (fun h4 => by exact absurd h4 (by decide)) (fun h4 => ?_)
      refine xg_iconst C dX4_setGroup_28 (v := (0 : Int32)) (by decide) ?_
      have e : (fX4_setGroup a1 a2 S) = ((xu S 0 0 (nI 29) (1 : Int32)), (0 : Int32)) := by first | (rw [fX4_setGroup, if_neg h1, if_pos h3]; done) | (rw [fX4_setGroup, if_neg h1, if_pos h3]; rfl)
      exact xret_i E dX4_setGroup_29 (xsnd e) (xfst e)
    · refine xg_iconst C dX4_setGroup_17 (v := (0 : Int32)) (by decide) ?_
      refine xg_goto C 22 dX4_setGroup_18 (by decide) ?_
      refine xg_callVi C V (f := 0) (As := [.int (0 : Int32)]) (r := (1 : Int32)) (fun l => kX4_goes0 l hap  S) gX4_setGroup_X4_goes rfl hdX4_goes ⟨by decide, by decide⟩ rfl rfl rfl rfl rfl (Nat.le_of_ble_eq_true rfl) ⟨Nat.zero_le _, Nat.zero_le _⟩ dX4_setGroup_22 ?_
      refine xg_if_ne C 30 dX4_setGroup_25 (by decide) (fun h5 => ?_) (fun h5 => by exact absurd h5 (by decide))
      refine xg_aload_n C dX4_setGroup_30 rfl ?_
      refine xg_getR C V (f := 0) qX4_setGroup_59 rfl rfl rfl dX4_setGroup_31 ?_
      refine xg_iload_n C dX4_setGroup_34 rfl ?_
      refine xg_iald C V (f := 17) (n := 1) (N := 8) rfl (by decide) (xR_0 (by decide)) (by first | assumption | exact xin_one (by assumption) | exact xin_asks (by assumption) | exact xin_ask1 (by assumption) | exact xin_ask2 (by assumption)) dX4_setGroup_35 (v := (S 17 0 a1)) (xu_ne (by decide)) ?_
      refine xg_istore_n C dX4_setGroup_36 (by decide) (L' := [some (.ref (G.2.2 0 0)), some (.int a1), some (.int a2), some (.int (S 17 0 a1))]) rfl ?_
      refine xg_aload_n C dX4_setGroup_37 rfl ?_
      refine xg_getR C V (f := 0) qX4_setGroup_59 rfl rfl rfl dX4_setGroup_38 ?_
      refine xg_iload_n C dX4_setGroup_41 rfl ?_
      refine xg_iload_n C dX4_setGroup_42 rfl ?_
      refine xg_iast C V (f := 17) (n := 1) (N := 8) rfl (by decide) (xR_0 (by decide)) (by first | assumption | exact xin_one (by assumption) | exact xin_asks (by assumption) | exact xin_ask1 (by assumption) | exact xin_ask2 (by assumption)) dX4_setGroup_43 ?_
      refine xg_iload_n C dX4_setGroup_44 rfl ?_
      have e : (fX4_setGroup a1 a2 S) = ((xu (xu S 0 0 (nI 29) (0 : Int32)) 17 0 a1 a2), (S 17 0 a1)) := by first | (rw [fX4_setGroup, if_neg h1, if_neg h3]; done) | (rw [fX4_setGroup, if_neg h1, if_neg h3]; rfl)
      exact xret_i E dX4_setGroup_45 (xsnd e) (xfst e)
theorem iX4_volume_X4 : ∀ w ∈ wsX40, w ∈ wsX4_volume := by decide +kernel
theorem qX4_volume_16 : xFr wsX4_volume RX4 16 RX4 TX4 30 2 := ⟨iX4_volume_X4, List.mem_of_getElem? (i := 1) rfl, by decide⟩
def fX4_volume (a1 : Int32) (S : xS) : xS × Int32 :=
  if (fX4_asks a1 S).2 = (0 : Int32) then
    ((fX4_asks a1 S).1, (0 : Int32))
  else
    ((fX4_asks a1 S).1, ((fX4_asks a1 S).1 3 0 a1))
theorem hdX4_volume : yX4_volume.cls = RX4 ∧ yX4_volume.cls ≠ "java/lang/invoke/MethodHandle" ∧ yX4_volume.cls ≠ "java/lang/invoke/VarHandle" ∧ (parseMethodDescriptor yX4_volume.desc).map (fun d => d.parameters.length) = some 1 := by decide +kernel
set_option maxRecDepth 100000 in
set_option maxHeartbeats 4000000 in
theorem kX4_volume (l : Launch) {G : xG} (hap : xAp xYm G) (a1 : Int32) (S : xS)  : xMi l xYm G yX4_volume wsX4_volume 3 63 [.ref (G.2.2 0 0), .int a1] S (fX4_volume a1 S).1 (fX4_volume a1 S).2 := by
  refine xMi_of (cc := cX4_volume) (maxL := 2) (ty := .int) (own := RX4) [some (.ref (G.2.2 0 0)), some (.int a1)] pnX4 rfl rfl rfl (xcat1 rfl) (Nat.le_of_ble_eq_true rfl) rfl hap (fun F C V E => ?_)
  refine xg_aload_n C dX4_volume_0 rfl ?_
  refine xg_iload_n C dX4_volume_1 rfl ?_
  refine xg_callVi C V (f := 0) (As := [.int a1]) (r := (fX4_asks a1 S).2) (fun l => kX4_asks l hap a1 S) gX4_volume_X4_asks rfl hdX4_asks ⟨by decide, by decide⟩ rfl rfl rfl rfl rfl (Nat.le_of_ble_eq_true rfl) ⟨Nat.zero_le _, Nat.zero_le _⟩ dX4_volume_2 ?_
  refine xg_if_eq C 17 dX4_volume_5 (by decide) (fun h1 => ?_) (fun h1 => ?_)
  · refine xg_iconst C dX4_volume_17 (v := (0 : Int32)) (by decide) ?_
    have e : (fX4_volume a1 S) = ((fX4_asks a1 S).1, (0 : Int32)) := by first | (rw [fX4_volume, if_pos h1]; done) | (rw [fX4_volume, if_pos h1]; rfl)
    exact xret_i E dX4_volume_18 (xsnd e) (xfst e)
  · refine xg_aload_n C dX4_volume_8 rfl ?_
    refine xg_getR C V (f := 0) qX4_volume_16 rfl rfl rfl dX4_volume_9 ?_
    refine xg_iload_n C dX4_volume_12 rfl ?_
    refine xg_iald C V (f := 3) (n := 1) (N := 8) rfl (by decide) (xR_0 (by decide)) (by first | assumption | exact xin_one (by assumption) | exact xin_asks (by assumption) | exact xin_ask1 (by assumption) | exact xin_ask2 (by assumption)) dX4_volume_13 (v := ((fX4_asks a1 S).1 3 0 a1)) rfl ?_
    refine xg_goto C 18 dX4_volume_14 (by decide) ?_
    have e : (fX4_volume a1 S) = ((fX4_asks a1 S).1, ((fX4_asks a1 S).1 3 0 a1)) := by first | (rw [fX4_volume, if_neg h1]; done) | (rw [fX4_volume, if_neg h1]; rfl)
    exact xret_i E dX4_volume_18 (xsnd e) (xfst e)
theorem iX4_volumeByBalance_X4 : ∀ w ∈ wsX40, w ∈ wsX4_volumeByBalance := by decide +kernel
theorem qX4_volumeByBalance_16 : xFr wsX4_volumeByBalance RX4 16 RX4 TX4 30 2 := ⟨iX4_volumeByBalance_X4, List.mem_of_getElem? (i := 1) rfl, by decide⟩
def fX4_volumeByBalance (a1 : Int32) (S : xS) : xS × Int32 :=
  if (fX4_asks a1 S).2 = (0 : Int32) then
    ((fX4_asks a1 S).1, (0 : Int32))
  else
    ((fX4_asks a1 S).1, ((fX4_asks a1 S).1 3 0 a1))
theorem hdX4_volumeByBalance : yX4_volumeByBalance.cls = RX4 ∧ yX4_volumeByBalance.cls ≠ "java/lang/invoke/MethodHandle" ∧ yX4_volumeByBalance.cls ≠ "java/lang/invoke/VarHandle" ∧ (parseMethodDescriptor yX4_volumeByBalance.desc).map (fun d => d.parameters.length) = some 1 := by decide +kernel
set_option maxRecDepth 100000 in
set_option maxHeartbeats 4000000 in
theorem kX4_volumeByBalance (l : Launch) {G : xG} (hap : xAp xYm G) (a1 : Int32) (S : xS)  : xMi l xYm G yX4_volumeByBalance wsX4_volumeByBalance 3 63 [.ref (G.2.2 0 0), .int a1] S (fX4_volumeByBalance a1 S).1 (fX4_volumeByBalance a1 S).2 := by
  refine xMi_of (cc := cX4_volumeByBalance) (maxL := 2) (ty := .int) (own := RX4) [some (.ref (G.2.2 0 0)), some (.int a1)] pnX4 rfl rfl rfl (xcat1 rfl) (Nat.le_of_ble_eq_true rfl) rfl hap (fun F C V E => ?_)
  refine xg_aload_n C dX4_volumeByBalance_0 rfl ?_
  refine xg_iload_n C dX4_volumeByBalance_1 rfl ?_
  refine xg_callVi C V (f := 0) (As := [.int a1]) (r := (fX4_asks a1 S).2) (fun l => kX4_asks l hap a1 S) gX4_volumeByBalance_X4_asks rfl hdX4_asks ⟨by decide, by decide⟩ rfl rfl rfl rfl rfl (Nat.le_of_ble_eq_true rfl) ⟨Nat.zero_le _, Nat.zero_le _⟩ dX4_volumeByBalance_2 ?_
  refine xg_if_eq C 17 dX4_volumeByBalance_5 (by decide) (fun h1 => ?_) (fun h1 => ?_)
  · refine xg_iconst C dX4_volumeByBalance_17 (v := (0 : Int32)) (by decide) ?_
    have e : (fX4_volumeByBalance a1 S) = ((fX4_asks a1 S).1, (0 : Int32)) := by first | (rw [fX4_volumeByBalance, if_pos h1]; done) | (rw [fX4_volumeByBalance, if_pos h1]; rfl)
    exact xret_i E dX4_volumeByBalance_18 (xsnd e) (xfst e)
  · refine xg_aload_n C dX4_volumeByBalance_8 rfl ?_
    refine xg_getR C V (f := 0) qX4_volumeByBalance_16 rfl rfl rfl dX4_volumeByBalance_9 ?_
    refine xg_iload_n C dX4_volumeByBalance_12 rfl ?_
    refine xg_iald C V (f := 3) (n := 1) (N := 8) rfl (by decide) (xR_0 (by decide)) (by first | assumption | exact xin_one (by assumption) | exact xin_asks (by assumption) | exact xin_ask1 (by assumption) | exact xin_ask2 (by assumption)) dX4_volumeByBalance_13 (v := ((fX4_asks a1 S).1 3 0 a1)) rfl ?_
    refine xg_goto C 18 dX4_volumeByBalance_14 (by decide) ?_
    have e : (fX4_volumeByBalance a1 S) = ((fX4_asks a1 S).1, ((fX4_asks a1 S).1 3 0 a1)) := by first | (rw [fX4_volumeByBalance, if_neg h1]; done) | (rw [fX4_volumeByBalance, if_neg h1]; rfl)
    exact xret_i E dX4_volumeByBalance_18 (xsnd e) (xfst e)
theorem iX4_flowed_X4 : ∀ w ∈ wsX40, w ∈ wsX4_flowed := by decide +kernel
theorem qX4_flowed_31 : xFr wsX4_flowed RX4 31 RX4 TX4 30 7 := ⟨iX4_flowed_X4, List.mem_of_getElem? (i := 1) rfl, by decide⟩
def fX4_flowed (a1 : Int32) (S : xS) : xS × Int32 :=
  if (fX4_asks a1 S).2 = (0 : Int32) then
    ((fX4_asks a1 S).1, (0 : Int32))
  else
    ((fX4_asks a1 S).1, ((fX4_asks a1 S).1 8 0 a1))
theorem hdX4_flowed : yX4_flowed.cls = RX4 ∧ yX4_flowed.cls ≠ "java/lang/invoke/MethodHandle" ∧ yX4_flowed.cls ≠ "java/lang/invoke/VarHandle" ∧ (parseMethodDescriptor yX4_flowed.desc).map (fun d => d.parameters.length) = some 1 := by decide +kernel
set_option maxRecDepth 100000 in
set_option maxHeartbeats 4000000 in
theorem kX4_flowed (l : Launch) {G : xG} (hap : xAp xYm G) (a1 : Int32) (S : xS)  : xMi l xYm G yX4_flowed wsX4_flowed 3 63 [.ref (G.2.2 0 0), .int a1] S (fX4_flowed a1 S).1 (fX4_flowed a1 S).2 := by
  refine xMi_of (cc := cX4_flowed) (maxL := 2) (ty := .int) (own := RX4) [some (.ref (G.2.2 0 0)), some (.int a1)] pnX4 rfl rfl rfl (xcat1 rfl) (Nat.le_of_ble_eq_true rfl) rfl hap (fun F C V E => ?_)
  refine xg_aload_n C dX4_flowed_0 rfl ?_
  refine xg_iload_n C dX4_flowed_1 rfl ?_
  refine xg_callVi C V (f := 0) (As := [.int a1]) (r := (fX4_asks a1 S).2) (fun l => kX4_asks l hap a1 S) gX4_flowed_X4_asks rfl hdX4_asks ⟨by decide, by decide⟩ rfl rfl rfl rfl rfl (Nat.le_of_ble_eq_true rfl) ⟨Nat.zero_le _, Nat.zero_le _⟩ dX4_flowed_2 ?_
  refine xg_if_eq C 17 dX4_flowed_5 (by decide) (fun h1 => ?_) (fun h1 => ?_)
  · refine xg_iconst C dX4_flowed_17 (v := (0 : Int32)) (by decide) ?_
    have e : (fX4_flowed a1 S) = ((fX4_asks a1 S).1, (0 : Int32)) := by first | (rw [fX4_flowed, if_pos h1]; done) | (rw [fX4_flowed, if_pos h1]; rfl)
    exact xret_i E dX4_flowed_18 (xsnd e) (xfst e)
  · refine xg_aload_n C dX4_flowed_8 rfl ?_
    refine xg_getR C V (f := 0) qX4_flowed_31 rfl rfl rfl dX4_flowed_9 ?_
    refine xg_iload_n C dX4_flowed_12 rfl ?_
    refine xg_iald C V (f := 8) (n := 1) (N := 8) rfl (by decide) (xR_0 (by decide)) (by first | assumption | exact xin_one (by assumption) | exact xin_asks (by assumption) | exact xin_ask1 (by assumption) | exact xin_ask2 (by assumption)) dX4_flowed_13 (v := ((fX4_asks a1 S).1 8 0 a1)) rfl ?_
    refine xg_goto C 18 dX4_flowed_14 (by decide) ?_
    have e : (fX4_flowed a1 S) = ((fX4_asks a1 S).1, ((fX4_asks a1 S).1 8 0 a1)) := by first | (rw [fX4_flowed, if_neg h1]; done) | (rw [fX4_flowed, if_neg h1]; rfl)
    exact xret_i E dX4_flowed_18 (xsnd e) (xfst e)
theorem iX4_spilled_X4 : ∀ w ∈ wsX40, w ∈ wsX4_spilled := by decide +kernel
theorem qX4_spilled_34 : xFr wsX4_spilled RX4 34 RX4 TX4 30 8 := ⟨iX4_spilled_X4, List.mem_of_getElem? (i := 1) rfl, by decide⟩
def fX4_spilled (a1 : Int32) (S : xS) : xS × Int32 :=
  if (fX4_asks a1 S).2 = (0 : Int32) then
    ((fX4_asks a1 S).1, (0 : Int32))
  else
    ((fX4_asks a1 S).1, ((fX4_asks a1 S).1 9 0 a1))
theorem hdX4_spilled : yX4_spilled.cls = RX4 ∧ yX4_spilled.cls ≠ "java/lang/invoke/MethodHandle" ∧ yX4_spilled.cls ≠ "java/lang/invoke/VarHandle" ∧ (parseMethodDescriptor yX4_spilled.desc).map (fun d => d.parameters.length) = some 1 := by decide +kernel
set_option maxRecDepth 100000 in
set_option maxHeartbeats 4000000 in
theorem kX4_spilled (l : Launch) {G : xG} (hap : xAp xYm G) (a1 : Int32) (S : xS)  : xMi l xYm G yX4_spilled wsX4_spilled 3 63 [.ref (G.2.2 0 0), .int a1] S (fX4_spilled a1 S).1 (fX4_spilled a1 S).2 := by
  refine xMi_of (cc := cX4_spilled) (maxL := 2) (ty := .int) (own := RX4) [some (.ref (G.2.2 0 0)), some (.int a1)] pnX4 rfl rfl rfl (xcat1 rfl) (Nat.le_of_ble_eq_true rfl) rfl hap (fun F C V E => ?_)
  refine xg_aload_n C dX4_spilled_0 rfl ?_
  refine xg_iload_n C dX4_spilled_1 rfl ?_
  refine xg_callVi C V (f := 0) (As := [.int a1]) (r := (fX4_asks a1 S).2) (fun l => kX4_asks l hap a1 S) gX4_spilled_X4_asks rfl hdX4_asks ⟨by decide, by decide⟩ rfl rfl rfl rfl rfl (Nat.le_of_ble_eq_true rfl) ⟨Nat.zero_le _, Nat.zero_le _⟩ dX4_spilled_2 ?_
  refine xg_if_eq C 17 dX4_spilled_5 (by decide) (fun h1 => ?_) (fun h1 => ?_)
  · refine xg_iconst C dX4_spilled_17 (v := (0 : Int32)) (by decide) ?_
    have e : (fX4_spilled a1 S) = ((fX4_asks a1 S).1, (0 : Int32)) := by first | (rw [fX4_spilled, if_pos h1]; done) | (rw [fX4_spilled, if_pos h1]; rfl)
    exact xret_i E dX4_spilled_18 (xsnd e) (xfst e)
  · refine xg_aload_n C dX4_spilled_8 rfl ?_
    refine xg_getR C V (f := 0) qX4_spilled_34 rfl rfl rfl dX4_spilled_9 ?_
    refine xg_iload_n C dX4_spilled_12 rfl ?_
    refine xg_iald C V (f := 9) (n := 1) (N := 8) rfl (by decide) (xR_0 (by decide)) (by first | assumption | exact xin_one (by assumption) | exact xin_asks (by assumption) | exact xin_ask1 (by assumption) | exact xin_ask2 (by assumption)) dX4_spilled_13 (v := ((fX4_asks a1 S).1 9 0 a1)) rfl ?_
    refine xg_goto C 18 dX4_spilled_14 (by decide) ?_
    have e : (fX4_spilled a1 S) = ((fX4_asks a1 S).1, ((fX4_asks a1 S).1 9 0 a1)) := by first | (rw [fX4_spilled, if_neg h1]; done) | (rw [fX4_spilled, if_neg h1]; rfl)
    exact xret_i E dX4_spilled_18 (xsnd e) (xfst e)
theorem iX4_opening_X4 : ∀ w ∈ wsX40, w ∈ wsX4_opening := by decide +kernel
theorem qX4_opening_19 : xFr wsX4_opening RX4 19 RX4 TX4 30 3 := ⟨iX4_opening_X4, List.mem_of_getElem? (i := 1) rfl, by decide⟩
def fX4_opening (a1 : Int32) (S : xS) : xS × Int32 :=
  if (fX4_asks a1 S).2 = (0 : Int32) then
    ((fX4_asks a1 S).1, (0 : Int32))
  else
    ((fX4_asks a1 S).1, ((fX4_asks a1 S).1 4 0 a1))
theorem hdX4_opening : yX4_opening.cls = RX4 ∧ yX4_opening.cls ≠ "java/lang/invoke/MethodHandle" ∧ yX4_opening.cls ≠ "java/lang/invoke/VarHandle" ∧ (parseMethodDescriptor yX4_opening.desc).map (fun d => d.parameters.length) = some 1 := by decide +kernel
set_option maxRecDepth 100000 in
set_option maxHeartbeats 4000000 in
theorem kX4_opening (l : Launch) {G : xG} (hap : xAp xYm G) (a1 : Int32) (S : xS)  : xMi l xYm G yX4_opening wsX4_opening 3 63 [.ref (G.2.2 0 0), .int a1] S (fX4_opening a1 S).1 (fX4_opening a1 S).2 := by
  refine xMi_of (cc := cX4_opening) (maxL := 2) (ty := .int) (own := RX4) [some (.ref (G.2.2 0 0)), some (.int a1)] pnX4 rfl rfl rfl (xcat1 rfl) (Nat.le_of_ble_eq_true rfl) rfl hap (fun F C V E => ?_)
  refine xg_aload_n C dX4_opening_0 rfl ?_
  refine xg_iload_n C dX4_opening_1 rfl ?_
  refine xg_callVi C V (f := 0) (As := [.int a1]) (r := (fX4_asks a1 S).2) (fun l => kX4_asks l hap a1 S) gX4_opening_X4_asks rfl hdX4_asks ⟨by decide, by decide⟩ rfl rfl rfl rfl rfl (Nat.le_of_ble_eq_true rfl) ⟨Nat.zero_le _, Nat.zero_le _⟩ dX4_opening_2 ?_
  refine xg_if_eq C 17 dX4_opening_5 (by decide) (fun h1 => ?_) (fun h1 => ?_)
  · refine xg_iconst C dX4_opening_17 (v := (0 : Int32)) (by decide) ?_
    have e : (fX4_opening a1 S) = ((fX4_asks a1 S).1, (0 : Int32)) := by first | (rw [fX4_opening, if_pos h1]; done) | (rw [fX4_opening, if_pos h1]; rfl)
    exact xret_i E dX4_opening_18 (xsnd e) (xfst e)
  · refine xg_aload_n C dX4_opening_8 rfl ?_
    refine xg_getR C V (f := 0) qX4_opening_19 rfl rfl rfl dX4_opening_9 ?_
    refine xg_iload_n C dX4_opening_12 rfl ?_
    refine xg_iald C V (f := 4) (n := 1) (N := 8) rfl (by decide) (xR_0 (by decide)) (by first | assumption | exact xin_one (by assumption) | exact xin_asks (by assumption) | exact xin_ask1 (by assumption) | exact xin_ask2 (by assumption)) dX4_opening_13 (v := ((fX4_asks a1 S).1 4 0 a1)) rfl ?_
    refine xg_goto C 18 dX4_opening_14 (by decide) ?_
    have e : (fX4_opening a1 S) = ((fX4_asks a1 S).1, ((fX4_asks a1 S).1 4 0 a1)) := by first | (rw [fX4_opening, if_neg h1]; done) | (rw [fX4_opening, if_neg h1]; rfl)
    exact xret_i E dX4_opening_18 (xsnd e) (xfst e)
theorem iX4_safety_X4 : ∀ w ∈ wsX40, w ∈ wsX4_safety := by decide +kernel
theorem qX4_safety_53 : xFr wsX4_safety RX4 53 RX4 TX4 30 15 := ⟨iX4_safety_X4, List.mem_of_getElem? (i := 1) rfl, by decide⟩
def fX4_safety (a1 : Int32) (S : xS) : xS × Int32 :=
  if (fX4_asks a1 S).2 = (0 : Int32) then
    ((fX4_asks a1 S).1, (0 : Int32))
  else
    ((fX4_asks a1 S).1, ((fX4_asks a1 S).1 15 0 a1))
theorem hdX4_safety : yX4_safety.cls = RX4 ∧ yX4_safety.cls ≠ "java/lang/invoke/MethodHandle" ∧ yX4_safety.cls ≠ "java/lang/invoke/VarHandle" ∧ (parseMethodDescriptor yX4_safety.desc).map (fun d => d.parameters.length) = some 1 := by decide +kernel
set_option maxRecDepth 100000 in
set_option maxHeartbeats 4000000 in
theorem kX4_safety (l : Launch) {G : xG} (hap : xAp xYm G) (a1 : Int32) (S : xS)  : xMi l xYm G yX4_safety wsX4_safety 3 63 [.ref (G.2.2 0 0), .int a1] S (fX4_safety a1 S).1 (fX4_safety a1 S).2 := by
  refine xMi_of (cc := cX4_safety) (maxL := 2) (ty := .int) (own := RX4) [some (.ref (G.2.2 0 0)), some (.int a1)] pnX4 rfl rfl rfl (xcat1 rfl) (Nat.le_of_ble_eq_true rfl) rfl hap (fun F C V E => ?_)
  refine xg_aload_n C dX4_safety_0 rfl ?_
  refine xg_iload_n C dX4_safety_1 rfl ?_
  refine xg_callVi C V (f := 0) (As := [.int a1]) (r := (fX4_asks a1 S).2) (fun l => kX4_asks l hap a1 S) gX4_safety_X4_asks rfl hdX4_asks ⟨by decide, by decide⟩ rfl rfl rfl rfl rfl (Nat.le_of_ble_eq_true rfl) ⟨Nat.zero_le _, Nat.zero_le _⟩ dX4_safety_2 ?_
  refine xg_if_eq C 17 dX4_safety_5 (by decide) (fun h1 => ?_) (fun h1 => ?_)
  · refine xg_iconst C dX4_safety_17 (v := (0 : Int32)) (by decide) ?_
    have e : (fX4_safety a1 S) = ((fX4_asks a1 S).1, (0 : Int32)) := by first | (rw [fX4_safety, if_pos h1]; done) | (rw [fX4_safety, if_pos h1]; rfl)
    exact xret_i E dX4_safety_18 (xsnd e) (xfst e)
  · refine xg_aload_n C dX4_safety_8 rfl ?_
    refine xg_getR C V (f := 0) qX4_safety_53 rfl rfl rfl dX4_safety_9 ?_
    refine xg_iload_n C dX4_safety_12 rfl ?_
    refine xg_iald C V (f := 15) (n := 1) (N := 8) rfl (by decide) (xR_0 (by decide)) (by first | assumption | exact xin_one (by assumption) | exact xin_asks (by assumption) | exact xin_ask1 (by assumption) | exact xin_ask2 (by assumption)) dX4_safety_13 (v := ((fX4_asks a1 S).1 15 0 a1)) rfl ?_
    refine xg_goto C 18 dX4_safety_14 (by decide) ?_
    have e : (fX4_safety a1 S) = ((fX4_asks a1 S).1, ((fX4_asks a1 S).1 15 0 a1)) := by first | (rw [fX4_safety, if_neg h1]; done) | (rw [fX4_safety, if_neg h1]; rfl)
    exact xret_i E dX4_safety_18 (xsnd e) (xfst e)
theorem iX4_levelOf_X4 : ∀ w ∈ wsX40, w ∈ wsX4_levelOf := by decide +kernel
theorem qX4_levelOf_16 : xFr wsX4_levelOf RX4 16 RX4 TX4 30 2 := ⟨iX4_levelOf_X4, List.mem_of_getElem? (i := 1) rfl, by decide⟩
theorem qX4_levelOf_7 : xFr wsX4_levelOf RX4 7 RX4 TX4 30 0 := ⟨iX4_levelOf_X4, List.mem_of_getElem? (i := 2) rfl, by decide⟩
def fX4_levelOf (a1 : Int32) (S : xS) : Int32 :=
  ((S 3 0 a1) / (S 1 0 a1))
theorem hdX4_levelOf : yX4_levelOf.cls = RX4 ∧ yX4_levelOf.cls ≠ "java/lang/invoke/MethodHandle" ∧ yX4_levelOf.cls ≠ "java/lang/invoke/VarHandle" ∧ (parseMethodDescriptor yX4_levelOf.desc).map (fun d => d.parameters.length) = some 1 := by decide +kernel
set_option maxRecDepth 100000 in
set_option maxHeartbeats 4000000 in
theorem kX4_levelOf (l : Launch) {G : xG} (hap : xAp xYm G) (a1 : Int32) (S : xS) (g_a1 : vp_in a1 8) (hA : ¬ S 1 0 a1 = (0 : Int32)) : xMi l xYm G yX4_levelOf wsX4_levelOf 0 0 [.ref (G.2.2 0 0), .int a1] S S (fX4_levelOf a1 S) := by
  refine xMi_of (cc := cX4_levelOf) (maxL := 2) (ty := .int) (own := RX4) [some (.ref (G.2.2 0 0)), some (.int a1)] pnX4 rfl rfl rfl (xcat1 rfl) (Nat.le_of_ble_eq_true rfl) rfl hap (fun F C V E => ?_)
  refine xg_aload_n C dX4_levelOf_0 rfl ?_
  refine xg_getR C V (f := 0) qX4_levelOf_16 rfl rfl rfl dX4_levelOf_1 ?_
  refine xg_iload_n C dX4_levelOf_4 rfl ?_
  refine xg_iald C V (f := 3) (n := 1) (N := 8) rfl (by decide) (xR_0 (by decide)) (by first | assumption | exact xin_one (by assumption) | exact xin_asks (by assumption) | exact xin_ask1 (by assumption) | exact xin_ask2 (by assumption)) dX4_levelOf_5 (v := (S 3 0 a1)) rfl ?_
  refine xg_aload_n C dX4_levelOf_6 rfl ?_
  refine xg_getR C V (f := 0) qX4_levelOf_7 rfl rfl rfl dX4_levelOf_7 ?_
  refine xg_iload_n C dX4_levelOf_10 rfl ?_
  refine xg_iald C V (f := 1) (n := 1) (N := 8) rfl (by decide) (xR_0 (by decide)) (by first | assumption | exact xin_one (by assumption) | exact xin_asks (by assumption) | exact xin_ask1 (by assumption) | exact xin_ask2 (by assumption)) dX4_levelOf_11 (v := (S 1 0 a1)) rfl ?_
  refine xg_idiv C dX4_levelOf_12 (by assumption) ?_
  exact xret_i E dX4_levelOf_13 (rfl) rfl
def fX4_level (a1 : Int32) (S : xS) : xS × Int32 :=
  if (fX4_asks a1 S).2 = (0 : Int32) then
    ((fX4_asks a1 S).1, (0 : Int32))
  else
    ((fX4_asks a1 S).1, (fX4_levelOf a1 (fX4_asks a1 S).1))
theorem hdX4_level : yX4_level.cls = RX4 ∧ yX4_level.cls ≠ "java/lang/invoke/MethodHandle" ∧ yX4_level.cls ≠ "java/lang/invoke/VarHandle" ∧ (parseMethodDescriptor yX4_level.desc).map (fun d => d.parameters.length) = some 1 := by decide +kernel
set_option maxRecDepth 100000 in
set_option maxHeartbeats 4000000 in
theorem kX4_level (l : Launch) {G : xG} (hap : xAp xYm G) (a1 : Int32) (S : xS) (hA : ∀ r, vp_in r 8 → ¬ S 1 0 r = (0 : Int32)) : xMi l xYm G yX4_level wsX4_level 3 63 [.ref (G.2.2 0 0), .int a1] S (fX4_level a1 S).1 (fX4_level a1 S).2 := by
  refine xMi_of (cc := cX4_level) (maxL := 2) (ty := .int) (own := RX4) [some (.ref (G.2.2 0 0)), some (.int a1)] pnX4 rfl rfl rfl (xcat1 rfl) (Nat.le_of_ble_eq_true rfl) rfl hap (fun F C V E => ?_)
  refine xg_aload_n C dX4_level_0 rfl ?_
  refine xg_iload_n C dX4_level_1 rfl ?_
  refine xg_callVi C V (f := 0) (As := [.int a1]) (r := (fX4_asks a1 S).2) (fun l => kX4_asks l hap a1 S) gX4_level_X4_asks rfl hdX4_asks ⟨by decide, by decide⟩ rfl rfl rfl rfl rfl (Nat.le_of_ble_eq_true rfl) ⟨Nat.zero_le _, Nat.zero_le _⟩ dX4_level_2 ?_
  refine xg_if_eq C 16 dX4_level_5 (by decide) (fun h1 => ?_) (fun h1 => ?_)
  · refine xg_iconst C dX4_level_16 (v := (0 : Int32)) (by decide) ?_
    have e : (fX4_level a1 S) = ((fX4_asks a1 S).1, (0 : Int32)) := by first | (rw [fX4_level, if_pos h1]; done) | (rw [fX4_level, if_pos h1]; rfl)
    exact xret_i E dX4_level_17 (xsnd e) (xfst e)
  · refine xg_aload_n C dX4_level_8 rfl ?_
    refine xg_iload_n C dX4_level_9 rfl ?_
    refine xg_callVi C V (f := 0) (As := [.int a1]) (r := (fX4_levelOf a1 (fX4_asks a1 S).1)) (fun l => kX4_levelOf l hap a1 (fX4_asks a1 S).1 (by first | assumption | exact xin_one (by assumption) | exact xin_asks (by assumption) | exact xin_ask1 (by assumption) | exact xin_ask2 (by assumption)) (by rw [xasks_ne (by decide)]; exact hA _ (xin_asks (by assumption)))) gX4_level_X4_levelOf rfl hdX4_levelOf ⟨by decide, by decide⟩ rfl rfl rfl rfl rfl (Nat.le_of_ble_eq_true rfl) ⟨Nat.zero_le _, Nat.zero_le _⟩ dX4_level_10 ?_
    refine xg_goto C 17 dX4_level_13 (by decide) ?_
    have e : (fX4_level a1 S) = ((fX4_asks a1 S).1, (fX4_levelOf a1 (fX4_asks a1 S).1)) := by first | (rw [fX4_level, if_neg h1]; done) | (rw [fX4_level, if_neg h1]; rfl)
    exact xret_i E dX4_level_17 (xsnd e) (xfst e)
theorem iX4_setRule_X4 : ∀ w ∈ wsX40, w ∈ wsX4_setRule := by decide +kernel
theorem qX4_setRule_37 : xFr wsX4_setRule RX4 37 RX4 TX4 30 10 := ⟨iX4_setRule_X4, List.mem_of_getElem? (i := 1) rfl, by decide⟩
theorem qX4_setRule_40 : xFr wsX4_setRule RX4 40 RX4 TX4 30 11 := ⟨iX4_setRule_X4, List.mem_of_getElem? (i := 2) rfl, by decide⟩
theorem qX4_setRule_43 : xFr wsX4_setRule RX4 43 RX4 TX4 30 12 := ⟨iX4_setRule_X4, List.mem_of_getElem? (i := 3) rfl, by decide⟩
theorem qX4_setRule_46 : xFr wsX4_setRule RX4 46 RX4 TX4 30 13 := ⟨iX4_setRule_X4, List.mem_of_getElem? (i := 4) rfl, by decide⟩
def fX4_setRule (a1 : Int32) (a2 : Int32) (a3 : Int32) (a4 : Int32) (a5 : Int32) (S : xS) : xS :=
  if (fX4_isOne a1) = (0 : Int32) then
    (xu S 0 0 (nI 29) (1 : Int32))
  else
    if (fX4_isIn a2 (0 : Int32) (1000 : Int32)) = (0 : Int32) then
      (xu S 0 0 (nI 29) (1 : Int32))
    else
      if (fX4_isIn a3 a2 (1000 : Int32)) = (0 : Int32) then
        (xu S 0 0 (nI 29) (1 : Int32))
      else
        if (fX4_isIn a4 (0 : Int32) (1000 : Int32)) = (0 : Int32) then
          (xu S 0 0 (nI 29) (1 : Int32))
        else
          if (fX4_isIn a5 (0 : Int32) (100 : Int32)) = (0 : Int32) then
            (xu S 0 0 (nI 29) (1 : Int32))
          else
            (xu (xu (xu (xu (xu S 0 0 (nI 29) (0 : Int32)) 10 0 a1 a2) 11 0 a1 a3) 12 0 a1 a4) 13 0 a1 a5)
theorem hdX4_setRule : yX4_setRule.cls = RX4 ∧ yX4_setRule.cls ≠ "java/lang/invoke/MethodHandle" ∧ yX4_setRule.cls ≠ "java/lang/invoke/VarHandle" ∧ (parseMethodDescriptor yX4_setRule.desc).map (fun d => d.parameters.length) = some 5 := by decide +kernel
set_option maxRecDepth 100000 in
set_option maxHeartbeats 4000000 in
theorem kX4_setRule (l : Launch) {G : xG} (hap : xAp xYm G) (a1 : Int32) (a2 : Int32) (a3 : Int32) (a4 : Int32) (a5 : Int32) (S : xS)  : xMv l xYm G yX4_setRule wsX4_setRule 2 42 [.ref (G.2.2 0 0), .int a1, .int a2, .int a3, .int a4, .int a5] S (fX4_setRule a1 a2 a3 a4 a5 S) := by
  refine xMv_of (cc := cX4_setRule) (maxL := 7) (own := RX4) [some (.ref (G.2.2 0 0)), some (.int a1), some (.int a2), some (.int a3), some (.int a4), some (.int a5), none] pnX4 rfl rfl (xcat1 rfl) (Nat.le_of_ble_eq_true rfl) rfl hap (fun F C V E => ?_)
  refine xg_iload_n C dX4_setRule_0 rfl ?_
  refine xg_callSi C V (as := [.int a1]) (r := (fX4_isOne a1)) (fun l => kX4_isOne l hap a1 S) gX4_setRule_X4_isOne rfl hdX4_isOne ⟨by decide, by decide⟩ rfl rfl (Nat.le_of_ble_eq_true rfl) ⟨Nat.zero_le _, Nat.zero_le _⟩ dX4_setRule_1 ?_
  refine xg_if_eq C 56 dX4_setRule_4 (by decide) (fun h1 => ?_) (fun h1 => ?_)
  · refine xg_iconst C dX4_setRule_56 (v := (0 : Int32)) (by decide) ?_
    refine xg_istore C dX4_setRule_57 (by decide) (L' := [some (.ref (G.2.2 0 0)), some (.int a1), some (.int a2), some (.int a3), some (.int a4), some (.int a5), some (.int (0 : Int32))]) rfl ?_
    refine xg_aload_n C dX4_setRule_59 rfl ?_
    refine xg_iload C dX4_setRule_60 rfl ?_
    refine xg_if_eq C 69 dX4_setRule_62 (by decide) (fun h2 => ?_) (fun h2 => by exact absurd h2 (by decide))
    refine xg_iconst C dX4_setRule_69 (v := (1 : Int32)) (by decide) ?_
    refine xg_callVi C V (f := 0) (As := [.int (1 : Int32)]) (r := (0 : Int32)) (fun l => kX4_goes1 l hap  S) gX4_setRule_X4_goes rfl hdX4_goes ⟨by decide, by decide⟩ rfl rfl rfl rfl rfl (Nat.le_of_ble_eq_true rfl) ⟨Nat.zero_le _, Nat.zero_le _⟩ dX4_setRule_70 ?_
    refine xg_if_eq C 106 dX4_setRule_73 (by decide) (fun h3 => ?_) (fun h3 => by exact absurd h3 (by decide))
    exact xret_v E dX4_setRule_106 (by first | (rw [fX4_setRule, if_pos h1]; done) | (rw [fX4_setRule, if_pos h1]; rfl))
  · refine xg_iload_n C dX4_setRule_7 rfl ?_
    refine xg_iconst C dX4_setRule_8 (v := (0 : Int32)) (by decide) ?_
    refine xg_sipush C dX4_setRule_9 (v := (1000 : Int32)) (by decide) ?_
    refine xg_callSi C V (as := [.int a2, .int (0 : Int32), .int (1000 : Int32)]) (r := (fX4_isIn a2 (0 : Int32) (1000 : Int32))) (fun l => kX4_isIn l hap a2 (0 : Int32) (1000 : Int32) S) gX4_setRule_X4_isIn rfl hdX4_isIn ⟨by decide, by decide⟩ rfl rfl (Nat.le_of_ble_eq_true rfl) ⟨Nat.zero_le _, Nat.zero_le _⟩ dX4_setRule_12 ?_
    refine xg_if_eq C 56 dX4_setRule_15 (by decide) (fun h4 => ?_) (fun h4 => ?_)
    · refine xg_iconst C dX4_setRule_56 (v := (0 : Int32)) (by decide) ?_
      refine xg_istore C dX4_setRule_57 (by decide) (L' := [some (.ref (G.2.2 0 0)), some (.int a1), some (.int a2), some (.int a3), some (.int a4), some (.int a5), some (.int (0 : Int32))]) rfl ?_
      refine xg_aload_n C dX4_setRule_59 rfl ?_
      refine xg_iload C dX4_setRule_60 rfl ?_
      refine xg_if_eq C 69 dX4_setRule_62 (by decide) (fun h5 => ?_) (fun h5 => by exact absurd h5 (by decide))
      refine xg_iconst C dX4_setRule_69 (v := (1 : Int32)) (by decide) ?_
      refine xg_callVi C V (f := 0) (As := [.int (1 : Int32)]) (r := (0 : Int32)) (fun l => kX4_goes1 l hap  S) gX4_setRule_X4_goes rfl hdX4_goes ⟨by decide, by decide⟩ rfl rfl rfl rfl rfl (Nat.le_of_ble_eq_true rfl) ⟨Nat.zero_le _, Nat.zero_le _⟩ dX4_setRule_70 ?_
      refine xg_if_eq C 106 dX4_setRule_73 (by decide) (fun h6 => ?_) (fun h6 => by exact absurd h6 (by decide))
      exact xret_v E dX4_setRule_106 (by first | (rw [fX4_setRule, if_neg h1, if_pos h4]; done) | (rw [fX4_setRule, if_neg h1, if_pos h4]; rfl))
    · refine xg_iload_n C dX4_setRule_18 rfl ?_
      refine xg_iload_n C dX4_setRule_19 rfl ?_
      refine xg_sipush C dX4_setRule_20 (v := (1000 : Int32)) (by decide) ?_
      refine xg_callSi C V (as := [.int a3, .int a2, .int (1000 : Int32)]) (r := (fX4_isIn a3 a2 (1000 : Int32))) (fun l => kX4_isIn l hap a3 a2 (1000 : Int32) S) gX4_setRule_X4_isIn rfl hdX4_isIn ⟨by decide, by decide⟩ rfl rfl (Nat.le_of_ble_eq_true rfl) ⟨Nat.zero_le _, Nat.zero_le _⟩ dX4_setRule_23 ?_
      refine xg_if_eq C 56 dX4_setRule_26 (by decide) (fun h7 => ?_) (fun h7 => ?_)
      · refine xg_iconst C dX4_setRule_56 (v := (0 : Int32)) (by decide) ?_
        refine xg_istore C dX4_setRule_57 (by decide) (L' := [some (.ref (G.2.2 0 0)), some (.int a1), some (.int a2), some (.int a3), some (.int a4), some (.int a5), some (.int (0 : Int32))]) rfl ?_
        refine xg_aload_n C dX4_setRule_59 rfl ?_
        refine xg_iload C dX4_setRule_60 rfl ?_
        refine xg_if_eq C 69 dX4_setRule_62 (by decide) (fun h8 => ?_) (fun h8 => by exact absurd h8 (by decide))
        refine xg_iconst C dX4_setRule_69 (v := (1 : Int32)) (by decide) ?_
        refine xg_callVi C V (f := 0) (As := [.int (1 : Int32)]) (r := (0 : Int32)) (fun l => kX4_goes1 l hap  S) gX4_setRule_X4_goes rfl hdX4_goes ⟨by decide, by decide⟩ rfl rfl rfl rfl rfl (Nat.le_of_ble_eq_true rfl) ⟨Nat.zero_le _, Nat.zero_le _⟩ dX4_setRule_70 ?_
        refine xg_if_eq C 106 dX4_setRule_73 (by decide) (fun h9 => ?_) (fun h9 => by exact absurd h9 (by decide))
        exact xret_v E dX4_setRule_106 (by first | (rw [fX4_setRule, if_neg h1, if_neg h4, if_pos h7]; done) | (rw [fX4_setRule, if_neg h1, if_neg h4, if_pos h7]; rfl))
      · refine xg_iload C dX4_setRule_29 rfl ?_
        refine xg_iconst C dX4_setRule_31 (v := (0 : Int32)) (by decide) ?_
        refine xg_sipush C dX4_setRule_32 (v := (1000 : Int32)) (by decide) ?_
        refine xg_callSi C V (as := [.int a4, .int (0 : Int32), .int (1000 : Int32)]) (r := (fX4_isIn a4 (0 : Int32) (1000 : Int32))) (fun l => kX4_isIn l hap a4 (0 : Int32) (1000 : Int32) S) gX4_setRule_X4_isIn rfl hdX4_isIn ⟨by decide, by decide⟩ rfl rfl (Nat.le_of_ble_eq_true rfl) ⟨Nat.zero_le _, Nat.zero_le _⟩ dX4_setRule_35 ?_
        refine xg_if_eq C 56 dX4_setRule_38 (by decide) (fun h10 => ?_) (fun h10 => ?_)
        · refine xg_iconst C dX4_setRule_56 (v := (0 : Int32)) (by decide) ?_
          refine xg_istore C dX4_setRule_57 (by decide) (L' := [some (.ref (G.2.2 0 0)), some (.int a1), some (.int a2), some (.int a3), some (.int a4), some (.int a5), some (.int (0 : Int32))]) rfl ?_
          refine xg_aload_n C dX4_setRule_59 rfl ?_
          refine xg_iload C dX4_setRule_60 rfl ?_
          refine xg_if_eq C 69 dX4_setRule_62 (by decide) (fun h11 => ?_) (fun h11 => by exact absurd h11 (by decide))
          refine xg_iconst C dX4_setRule_69 (v := (1 : Int32)) (by decide) ?_
          refine xg_callVi C V (f := 0) (As := [.int (1 : Int32)]) (r := (0 : Int32)) (fun l => kX4_goes1 l hap  S) gX4_setRule_X4_goes rfl hdX4_goes ⟨by decide, by decide⟩ rfl rfl rfl rfl rfl (Nat.le_of_ble_eq_true rfl) ⟨Nat.zero_le _, Nat.zero_le _⟩ dX4_setRule_70 ?_
          refine xg_if_eq C 106 dX4_setRule_73 (by decide) (fun h12 => ?_) (fun h12 => by exact absurd h12 (by decide))
          exact xret_v E dX4_setRule_106 (by first | (rw [fX4_setRule, if_neg h1, if_neg h4, if_neg h7, if_pos h10]; done) | (rw [fX4_setRule, if_neg h1, if_neg h4, if_neg h7, if_pos h10]; rfl))
        · refine xg_iload C dX4_setRule_41 rfl ?_
          refine xg_iconst C dX4_setRule_43 (v := (0 : Int32)) (by decide) ?_
          refine xg_bipush C dX4_setRule_44 (v := (100 : Int32)) (by decide) ?_
          refine xg_callSi C V (as := [.int a5, .int (0 : Int32), .int (100 : Int32)]) (r := (fX4_isIn a5 (0 : Int32) (100 : Int32))) (fun l => kX4_isIn l hap a5 (0 : Int32) (100 : Int32) S) gX4_setRule_X4_isIn rfl hdX4_isIn ⟨by decide, by decide⟩ rfl rfl (Nat.le_of_ble_eq_true rfl) ⟨Nat.zero_le _, Nat.zero_le _⟩ dX4_setRule_46 ?_
          refine xg_if_eq C 56 dX4_setRule_49 (by decide) (fun h13 => ?_) (fun h13 => ?_)
          · refine xg_iconst C dX4_setRule_56 (v := (0 : Int32)) (by decide) ?_
            refine xg_istore C dX4_setRule_57 (by decide) (L' := [some (.ref (G.2.2 0 0)), some (.int a1), some (.int a2), some (.int a3), some (.int a4), some (.int a5), some (.int (0 : Int32))]) rfl ?_
            refine xg_aload_n C dX4_setRule_59 rfl ?_
            refine xg_iload C dX4_setRule_60 rfl ?_
            refine xg_if_eq C 69 dX4_setRule_62 (by decide) (fun h14 => ?_) (fun h14 => by exact absurd h14 (by decide))
            refine xg_iconst C dX4_setRule_69 (v := (1 : Int32)) (by decide) ?_
            refine xg_callVi C V (f := 0) (As := [.int (1 : Int32)]) (r := (0 : Int32)) (fun l => kX4_goes1 l hap  S) gX4_setRule_X4_goes rfl hdX4_goes ⟨by decide, by decide⟩ rfl rfl rfl rfl rfl (Nat.le_of_ble_eq_true rfl) ⟨Nat.zero_le _, Nat.zero_le _⟩ dX4_setRule_70 ?_
            refine xg_if_eq C 106 dX4_setRule_73 (by decide) (fun h15 => ?_) (fun h15 => by exact absurd h15 (by decide))
            exact xret_v E dX4_setRule_106 (by first | (rw [fX4_setRule, if_neg h1, if_neg h4, if_neg h7, if_neg h10, if_pos h13]; done) | (rw [fX4_setRule, if_neg h1, if_neg h4, if_neg h7, if_neg h10, if_pos h13]; rfl))
          · refine xg_iconst C dX4_setRule_52 (v := (1 : Int32)) (by decide) ?_
            refine xg_goto C 57 dX4_setRule_53 (by decide) ?_
            refine xg_istore C dX4_setRule_57 (by decide) (L' := [some (.ref (G.2.2 0 0)), some (.int a1), some (.int a2), some (.int a3), some (.int a4), some (.int a5), some (.int (1 : Int32))]) rfl ?_
            refine xg_aload_n C dX4_setRule_59 rfl ?_
            refine xg_iload C dX4_setRule_60 rfl ?_
            refine xg_if_eq C 69 dX4_setRule_62 (by decide) (fun h16 => by exact absurd h16 (by decide)) (fun h16 => ?_)
            refine xg_iconst C dX4_setRule_65 (v := (0 : Int32)) (by decide) ?_
            refine xg_goto C 70 dX4_setRule_66 (by decide) ?_
            refine xg_callVi C V (f := 0) (As := [.int (0 : Int32)]) (r := (1 : Int32)) (fun l => kX4_goes0 l hap  S) gX4_setRule_X4_goes rfl hdX4_goes ⟨by decide, by decide⟩ rfl rfl rfl rfl rfl (Nat.le_of_ble_eq_true rfl) ⟨Nat.zero_le _, Nat.zero_le _⟩ dX4_setRule_70 ?_
            refine xg_if_eq C 106 dX4_setRule_73 (by decide) (fun h17 => by exact absurd h17 (by decide)) (fun h17 => ?_)
            refine xg_aload_n C dX4_setRule_76 rfl ?_
            refine xg_getR C V (f := 0) qX4_setRule_37 rfl rfl rfl dX4_setRule_77 ?_
            refine xg_iload_n C dX4_setRule_80 rfl ?_
            refine xg_iload_n C dX4_setRule_81 rfl ?_
            refine xg_iast C V (f := 10) (n := 1) (N := 8) rfl (by decide) (xR_0 (by decide)) (by first | assumption | exact xin_one (by assumption) | exact xin_asks (by assumption) | exact xin_ask1 (by assumption) | exact xin_ask2 (by assumption)) dX4_setRule_82 ?_
            refine xg_aload_n C dX4_setRule_83 rfl ?_
            refine xg_getR C V (f := 0) qX4_setRule_40 rfl rfl rfl dX4_setRule_84 ?_
            refine xg_iload_n C dX4_setRule_87 rfl ?_
            refine xg_iload_n C dX4_setRule_88 rfl ?_
            refine xg_iast C V (f := 11) (n := 1) (N := 8) rfl (by decide) (xR_0 (by decide)) (by first | assumption | exact xin_one (by assumption) | exact xin_asks (by assumption) | exact xin_ask1 (by assumption) | exact xin_ask2 (by assumption)) dX4_setRule_89 ?_
            refine xg_aload_n C dX4_setRule_90 rfl ?_
            refine xg_getR C V (f := 0) qX4_setRule_43 rfl rfl rfl dX4_setRule_91 ?_
            refine xg_iload_n C dX4_setRule_94 rfl ?_
            refine xg_iload C dX4_setRule_95 rfl ?_
            refine xg_iast C V (f := 12) (n := 1) (N := 8) rfl (by decide) (xR_0 (by decide)) (by first | assumption | exact xin_one (by assumption) | exact xin_asks (by assumption) | exact xin_ask1 (by assumption) | exact xin_ask2 (by assumption)) dX4_setRule_97 ?_
            refine xg_aload_n C dX4_setRule_98 rfl ?_
            refine xg_getR C V (f := 0) qX4_setRule_46 rfl rfl rfl dX4_setRule_99 ?_
            refine xg_iload_n C dX4_setRule_102 rfl ?_
            refine xg_iload C dX4_setRule_103 rfl ?_
            refine xg_iast C V (f := 13) (n := 1) (N := 8) rfl (by decide) (xR_0 (by decide)) (by first | assumption | exact xin_one (by assumption) | exact xin_asks (by assumption) | exact xin_ask1 (by assumption) | exact xin_ask2 (by assumption)) dX4_setRule_105 ?_
            exact xret_v E dX4_setRule_106 (by first | (rw [fX4_setRule, if_neg h1, if_neg h4, if_neg h7, if_neg h10, if_neg h13]; done) | (rw [fX4_setRule, if_neg h1, if_neg h4, if_neg h7, if_neg h10, if_neg h13]; rfl))
theorem iX4_fall_X4 : ∀ w ∈ wsX40, w ∈ wsX4_fall := by decide +kernel
theorem qX4_fall_56 : xFr wsX4_fall RX4 56 RX4 TX4 30 16 := ⟨iX4_fall_X4, List.mem_of_getElem? (i := 1) rfl, by decide⟩
def fX4_fall (a1 : Int32) (S : xS) : xS :=
  if (fX4_isOne a1) = (0 : Int32) then
    (xu S 0 0 (nI 29) (1 : Int32))
  else
    if (S 16 0 a1) = (0 : Int32) then
      (xu (xu S 0 0 (nI 29) (0 : Int32)) 16 0 a1 (1 : Int32))
    else
      (xu S 0 0 (nI 29) (2 : Int32))
theorem hdX4_fall : yX4_fall.cls = RX4 ∧ yX4_fall.cls ≠ "java/lang/invoke/MethodHandle" ∧ yX4_fall.cls ≠ "java/lang/invoke/VarHandle" ∧ (parseMethodDescriptor yX4_fall.desc).map (fun d => d.parameters.length) = some 1 := by decide +kernel
set_option maxRecDepth 100000 in
set_option maxHeartbeats 4000000 in
theorem kX4_fall (l : Launch) {G : xG} (hap : xAp xYm G) (a1 : Int32) (S : xS)  : xMv l xYm G yX4_fall wsX4_fall 2 42 [.ref (G.2.2 0 0), .int a1] S (fX4_fall a1 S) := by
  refine xMv_of (cc := cX4_fall) (maxL := 2) (own := RX4) [some (.ref (G.2.2 0 0)), some (.int a1)] pnX4 rfl rfl (xcat1 rfl) (Nat.le_of_ble_eq_true rfl) rfl hap (fun F C V E => ?_)
  refine xg_aload_n C dX4_fall_0 rfl ?_
  refine xg_iload_n C dX4_fall_1 rfl ?_
  refine xg_callSi C V (as := [.int a1]) (r := (fX4_isOne a1)) (fun l => kX4_isOne l hap a1 S) gX4_fall_X4_isOne rfl hdX4_isOne ⟨by decide, by decide⟩ rfl rfl (Nat.le_of_ble_eq_true rfl) ⟨Nat.zero_le _, Nat.zero_le _⟩ dX4_fall_2 ?_
  refine xg_if_ne C 12 dX4_fall_5 (by decide) (fun h1 => ?_) (fun h1 => ?_)
  · refine xg_aload_n C dX4_fall_12 rfl ?_
    refine xg_getR C V (f := 0) qX4_fall_56 rfl rfl rfl dX4_fall_13 ?_
    refine xg_iload_n C dX4_fall_16 rfl ?_
    refine xg_zald C V (f := 16) (n := 1) (N := 8) rfl (by decide) (xR_0 (by decide)) (by first | assumption | exact xin_one (by assumption) | exact xin_asks (by assumption) | exact xin_ask1 (by assumption) | exact xin_ask2 (by assumption)) dX4_fall_17 (v := (S 16 0 a1)) rfl ?_
    refine xg_if_eq C 25 dX4_fall_18 (by decide) (fun h2 => ?_) (fun h2 => ?_)
    · refine xg_iconst C dX4_fall_25 (v := (0 : Int32)) (by decide) ?_
      refine xg_callVi C V (f := 0) (As := [.int (0 : Int32)]) (r := (1 : Int32)) (fun l => kX4_goes0 l hap  S) gX4_fall_X4_goes rfl hdX4_goes ⟨by decide, by decide⟩ rfl rfl rfl rfl rfl (Nat.le_of_ble_eq_true rfl) ⟨Nat.zero_le _, Nat.zero_le _⟩ dX4_fall_26 ?_
      refine xg_if_eq C 39 dX4_fall_29 (by decide) (fun h3 => by exact absurd h3 (by decide)) (fun h3 => ?_)
      refine xg_aload_n C dX4_fall_32 rfl ?_
      refine xg_getR C V (f := 0) qX4_fall_56 rfl rfl rfl dX4_fall_33 ?_
      refine xg_iload_n C dX4_fall_36 rfl ?_
      refine xg_iconst C dX4_fall_37 (v := (1 : Int32)) (by decide) ?_
      refine xg_zast C V (f := 16) (n := 1) (N := 8) rfl (by decide) (xR_0 (by decide)) (by first | assumption | exact xin_one (by assumption) | exact xin_asks (by assumption) | exact xin_ask1 (by assumption) | exact xin_ask2 (by assumption)) rfl dX4_fall_38 ?_
      exact xret_v E dX4_fall_39 (by first | (rw [fX4_fall, if_neg h1, if_pos h2]; done) | (rw [fX4_fall, if_neg h1, if_pos h2]; rfl))
    · refine xg_iconst C dX4_fall_21 (v := (2 : Int32)) (by decide) ?_
      refine xg_goto C 26 dX4_fall_22 (by decide) ?_
      refine xg_callVi C V (f := 0) (As := [.int (2 : Int32)]) (r := (0 : Int32)) (fun l => kX4_goes2 l hap  S) gX4_fall_X4_goes rfl hdX4_goes ⟨by decide, by decide⟩ rfl rfl rfl rfl rfl (Nat.le_of_ble_eq_true rfl) ⟨Nat.zero_le _, Nat.zero_le _⟩ dX4_fall_26 ?_
      refine xg_if_eq C 39 dX4_fall_29 (by decide) (fun h4 => ?_) (fun h4 => by exact absurd h4 (by decide))
      exact xret_v E dX4_fall_39 (by first | (rw [fX4_fall, if_neg h1, if_neg h2]; done) | (rw [fX4_fall, if_neg h1, if_neg h2]; rfl))
  · refine xg_iconst C dX4_fall_8 (v := (1 : Int32)) (by decide) ?_
    refine xg_goto C 26 dX4_fall_9 (by decide) ?_
    refine xg_callVi C V (f := 0) (As := [.int (1 : Int32)]) (r := (0 : Int32)) (fun l => kX4_goes1 l hap  S) gX4_fall_X4_goes rfl hdX4_goes ⟨by decide, by decide⟩ rfl rfl rfl rfl rfl (Nat.le_of_ble_eq_true rfl) ⟨Nat.zero_le _, Nat.zero_le _⟩ dX4_fall_26 ?_
    refine xg_if_eq C 39 dX4_fall_29 (by decide) (fun h5 => ?_) (fun h5 => by exact absurd h5 (by decide))
    exact xret_v E dX4_fall_39 (by first | (rw [fX4_fall, if_pos h1]; done) | (rw [fX4_fall, if_pos h1]; rfl))
theorem iX4_comeUp_X4 : ∀ w ∈ wsX40, w ∈ wsX4_comeUp := by decide +kernel
theorem qX4_comeUp_56 : xFr wsX4_comeUp RX4 56 RX4 TX4 30 16 := ⟨iX4_comeUp_X4, List.mem_of_getElem? (i := 1) rfl, by decide⟩
theorem qX4_comeUp_77 : xFr wsX4_comeUp RX4 77 RX4 TX4 30 23 := ⟨iX4_comeUp_X4, List.mem_of_getElem? (i := 2) rfl, by decide⟩
theorem qX4_comeUp_118 : xFr wsX4_comeUp RX4 118 RX4 TX4 30 28 := ⟨iX4_comeUp_X4, List.mem_of_getElem? (i := 3) rfl, by decide⟩
def bX4_comeUp_41 (a1 : Int32) (i : Int32) (x : xS) : xS :=
  (xu x 23 0 (fX4_at a1 i) (x 0 0 (nI 28)))
def fX4_comeUp (a1 : Int32) (S : xS) : xS :=
  if (fX4_isOne a1) = (0 : Int32) then
    (xu S 0 0 (nI 29) (1 : Int32))
  else
    if (S 16 0 a1) = (0 : Int32) then
      (xu S 0 0 (nI 29) (2 : Int32))
    else
      (xfold (bX4_comeUp_41 a1) 8 (xu (xu S 0 0 (nI 29) (0 : Int32)) 16 0 a1 (0 : Int32)))
theorem hdX4_comeUp : yX4_comeUp.cls = RX4 ∧ yX4_comeUp.cls ≠ "java/lang/invoke/MethodHandle" ∧ yX4_comeUp.cls ≠ "java/lang/invoke/VarHandle" ∧ (parseMethodDescriptor yX4_comeUp.desc).map (fun d => d.parameters.length) = some 1 := by decide +kernel
set_option maxRecDepth 100000 in
set_option maxHeartbeats 4000000 in
theorem kX4_comeUp (l : Launch) {G : xG} (hap : xAp xYm G) (a1 : Int32) (S : xS)  : xMv l xYm G yX4_comeUp wsX4_comeUp 2 42 [.ref (G.2.2 0 0), .int a1] S (fX4_comeUp a1 S) := by
  refine xMv_of (cc := cX4_comeUp) (maxL := 3) (own := RX4) [some (.ref (G.2.2 0 0)), some (.int a1), none] pnX4 rfl rfl (xcat1 rfl) (Nat.le_of_ble_eq_true rfl) rfl hap (fun F C V E => ?_)
  refine xg_aload_n C dX4_comeUp_0 rfl ?_
  refine xg_iload_n C dX4_comeUp_1 rfl ?_
  refine xg_callSi C V (as := [.int a1]) (r := (fX4_isOne a1)) (fun l => kX4_isOne l hap a1 S) gX4_comeUp_X4_isOne rfl hdX4_isOne ⟨by decide, by decide⟩ rfl rfl (Nat.le_of_ble_eq_true rfl) ⟨Nat.zero_le _, Nat.zero_le _⟩ dX4_comeUp_2 ?_
  refine xg_if_ne C 12 dX4_comeUp_5 (by decide) (fun h1 => ?_) (fun h1 => ?_)
  · refine xg_aload_n C dX4_comeUp_12 rfl ?_
    refine xg_getR C V (f := 0) qX4_comeUp_56 rfl rfl rfl dX4_comeUp_13 ?_
    refine xg_iload_n C dX4_comeUp_16 rfl ?_
    refine xg_zald C V (f := 16) (n := 1) (N := 8) rfl (by decide) (xR_0 (by decide)) (by first | assumption | exact xin_one (by assumption) | exact xin_asks (by assumption) | exact xin_ask1 (by assumption) | exact xin_ask2 (by assumption)) dX4_comeUp_17 (v := (S 16 0 a1)) rfl ?_
    refine xg_if_eq C 25 dX4_comeUp_18 (by decide) (fun h2 => ?_) (fun h2 => ?_)
    · refine xg_iconst C dX4_comeUp_25 (v := (2 : Int32)) (by decide) ?_
      refine xg_callVi C V (f := 0) (As := [.int (2 : Int32)]) (r := (0 : Int32)) (fun l => kX4_goes2 l hap  S) gX4_comeUp_X4_goes rfl hdX4_goes ⟨by decide, by decide⟩ rfl rfl rfl rfl rfl (Nat.le_of_ble_eq_true rfl) ⟨Nat.zero_le _, Nat.zero_le _⟩ dX4_comeUp_26 ?_
      refine xg_if_eq C 67 dX4_comeUp_29 (by decide) (fun h3 => ?_) (fun h3 => by exact absurd h3 (by decide))
      exact xret_v E dX4_comeUp_67 (by first | (rw [fX4_comeUp, if_neg h1, if_pos h2]; done) | (rw [fX4_comeUp, if_neg h1, if_pos h2]; rfl))
    · refine xg_iconst C dX4_comeUp_21 (v := (0 : Int32)) (by decide) ?_
      refine xg_goto C 26 dX4_comeUp_22 (by decide) ?_
      refine xg_callVi C V (f := 0) (As := [.int (0 : Int32)]) (r := (1 : Int32)) (fun l => kX4_goes0 l hap  S) gX4_comeUp_X4_goes rfl hdX4_goes ⟨by decide, by decide⟩ rfl rfl rfl rfl rfl (Nat.le_of_ble_eq_true rfl) ⟨Nat.zero_le _, Nat.zero_le _⟩ dX4_comeUp_26 ?_
      refine xg_if_eq C 67 dX4_comeUp_29 (by decide) (fun h4 => by exact absurd h4 (by decide)) (fun h4 => ?_)
      refine xg_aload_n C dX4_comeUp_32 rfl ?_
      refine xg_getR C V (f := 0) qX4_comeUp_56 rfl rfl rfl dX4_comeUp_33 ?_
      refine xg_iload_n C dX4_comeUp_36 rfl ?_
      refine xg_iconst C dX4_comeUp_37 (v := (0 : Int32)) (by decide) ?_
      refine xg_zast C V (f := 16) (n := 1) (N := 8) rfl (by decide) (xR_0 (by decide)) (by first | assumption | exact xin_one (by assumption) | exact xin_asks (by assumption) | exact xin_ask1 (by assumption) | exact xin_ask2 (by assumption)) rfl dX4_comeUp_38 ?_
      refine xg_iconst C dX4_comeUp_39 (v := (0 : Int32)) (by decide) ?_
      refine xg_istore_n C dX4_comeUp_40 (by decide) (L' := [some (.ref (G.2.2 0 0)), some (.int a1), some (.int (0 : Int32))]) rfl ?_
      refine xloop (fun (ii : Int32) (x : xS) => xg F 0 0 41 [some (.ref (G.2.2 0 0)), some (.int a1), some (.int ii)] [] (xP xYm G x)) (bX4_comeUp_41 a1) 8 (xu (xu S 0 0 (nI 29) (0 : Int32)) 16 0 a1 (0 : Int32)) (fun i hi x K => ?_) ?_
      · have hi8 : vp_in (nI i) 8 := vp_in_nI hi (by decide)
        show xg F 0 0 41 [some (.ref (G.2.2 0 0)), some (.int a1), some (.int (nI i))] [] (xP xYm G x)
        refine xg_iload_n C dX4_comeUp_41 rfl ?_
        refine xg_bipush C dX4_comeUp_42 (v := (8 : Int32)) (by decide) ?_
        refine xg_icmp_ge C 67 dX4_comeUp_44 (by decide) (fun h5 => absurd h5 (nI_ge hi (by decide))) (fun h5 => ?_)
        refine xg_aload_n C dX4_comeUp_47 rfl ?_
        refine xg_getR C V (f := 0) qX4_comeUp_77 rfl rfl rfl dX4_comeUp_48 ?_
        refine xg_iload_n C dX4_comeUp_51 rfl ?_
        refine xg_iload_n C dX4_comeUp_52 rfl ?_
        refine xg_callSi C V (as := [.int a1, .int (nI i)]) (r := (fX4_at a1 (nI i))) (fun l => kX4_at l hap a1 (nI i) x) gX4_comeUp_X4_at rfl hdX4_at ⟨by decide, by decide⟩ rfl rfl (Nat.le_of_ble_eq_true rfl) ⟨Nat.zero_le _, Nat.zero_le _⟩ dX4_comeUp_53 ?_
        refine xg_aload_n C dX4_comeUp_56 rfl ?_
        refine xg_getI C V (f := 0) qX4_comeUp_118 rfl rfl rfl dX4_comeUp_57 (v := (x 0 0 (nI 28))) rfl ?_
        refine xg_iast C V (f := 23) (n := 1) (N := 64) rfl (by decide) (xR_0 (by decide)) (xin_at (by first | assumption | exact xin_one (by assumption) | exact xin_asks (by assumption) | exact xin_ask1 (by assumption) | exact xin_ask2 (by assumption)) (by first | assumption | exact xin_one (by assumption) | exact xin_asks (by assumption) | exact xin_ask1 (by assumption) | exact xin_ask2 (by assumption))) dX4_comeUp_60 ?_
        refine xg_iinc C dX4_comeUp_61 rfl (v := (nI (i + 1))) (xinc i) (by decide) (L' := [some (.ref (G.2.2 0 0)), some (.int a1), some (.int (nI (i + 1)))]) rfl ?_
        refine xg_goto C 41 dX4_comeUp_64 (by decide) ?_
        have e : (bX4_comeUp_41 a1) (nI i) x = (xu x 23 0 (fX4_at a1 (nI i)) (x 0 0 (nI 28))) := rfl
        rw [e] at K
        exact xg_le K ⟨rfl, rfl, rfl, trivial⟩
      · show xg F 0 0 41 [some (.ref (G.2.2 0 0)), some (.int a1), some (.int (nI 8))] [] (xP xYm G (xfold (bX4_comeUp_41 a1) 8 (xu (xu S 0 0 (nI 29) (0 : Int32)) 16 0 a1 (0 : Int32))))
        refine xg_iload_n C dX4_comeUp_41 rfl ?_
        refine xg_bipush C dX4_comeUp_42 (v := (8 : Int32)) (by decide) ?_
        refine xg_icmp_ge C 67 dX4_comeUp_44 (by decide) (fun h6 => ?_) (fun h6 => absurd (nI_le (Nat.le_refl _) (by decide)) h6)
        exact xret_v E dX4_comeUp_67 (by first | (rw [fX4_comeUp, if_neg h1, if_neg h2]; done) | (rw [fX4_comeUp, if_neg h1, if_neg h2]; rfl))
  · refine xg_iconst C dX4_comeUp_8 (v := (1 : Int32)) (by decide) ?_
    refine xg_goto C 26 dX4_comeUp_9 (by decide) ?_
    refine xg_callVi C V (f := 0) (As := [.int (1 : Int32)]) (r := (0 : Int32)) (fun l => kX4_goes1 l hap  S) gX4_comeUp_X4_goes rfl hdX4_goes ⟨by decide, by decide⟩ rfl rfl rfl rfl rfl (Nat.le_of_ble_eq_true rfl) ⟨Nat.zero_le _, Nat.zero_le _⟩ dX4_comeUp_26 ?_
    refine xg_if_eq C 67 dX4_comeUp_29 (by decide) (fun h7 => ?_) (fun h7 => by exact absurd h7 (by decide))
    exact xret_v E dX4_comeUp_67 (by first | (rw [fX4_comeUp, if_pos h1]; done) | (rw [fX4_comeUp, if_pos h1]; rfl))
theorem iX4_setStuck_X4 : ∀ w ∈ wsX40, w ∈ wsX4_setStuck := by decide +kernel
theorem qX4_setStuck_62 : xFr wsX4_setStuck RX4 62 RX4 TX4 30 18 := ⟨iX4_setStuck_X4, List.mem_of_getElem? (i := 1) rfl, by decide⟩
def fX4_setStuck (a1 : Int32) (a2 : Int32) (S : xS) : xS × Int32 :=
  if (fX4_asks a1 S).2 = (0 : Int32) then
    ((fX4_asks a1 S).1, (0 : Int32))
  else
    ((xu (fX4_asks a1 S).1 18 0 a1 a2), ((fX4_asks a1 S).1 18 0 a1))
theorem hdX4_setStuck : yX4_setStuck.cls = RX4 ∧ yX4_setStuck.cls ≠ "java/lang/invoke/MethodHandle" ∧ yX4_setStuck.cls ≠ "java/lang/invoke/VarHandle" ∧ (parseMethodDescriptor yX4_setStuck.desc).map (fun d => d.parameters.length) = some 2 := by decide +kernel
set_option maxRecDepth 100000 in
set_option maxHeartbeats 4000000 in
theorem kX4_setStuck (l : Launch) {G : xG} (hap : xAp xYm G) (a1 : Int32) (a2 : Int32) (S : xS) (hz : ∀ r, narrow .boolean (.int (S 18 0 r)) = .int (S 18 0 r)) (hb : narrow .boolean (.int a2) = .int a2) : xMi l xYm G yX4_setStuck wsX4_setStuck 3 63 [.ref (G.2.2 0 0), .int a1, .int a2] S (fX4_setStuck a1 a2 S).1 (fX4_setStuck a1 a2 S).2 := by
  refine xMi_of (cc := cX4_setStuck) (maxL := 4) (ty := .boolean) (own := RX4) [some (.ref (G.2.2 0 0)), some (.int a1), some (.int a2), none] pnX4 rfl rfl (by unfold fX4_setStuck; split <;> dsimp only <;> first | rfl | (rw [xasks_ne (by decide)]; exact hz _)) (xcat1 rfl) (Nat.le_of_ble_eq_true rfl) rfl hap (fun F C V E => ?_)
  refine xg_aload_n C dX4_setStuck_0 rfl ?_
  refine xg_iload_n C dX4_setStuck_1 rfl ?_
  refine xg_callVi C V (f := 0) (As := [.int a1]) (r := (fX4_asks a1 S).2) (fun l => kX4_asks l hap a1 S) gX4_setStuck_X4_asks rfl hdX4_asks ⟨by decide, by decide⟩ rfl rfl rfl rfl rfl (Nat.le_of_ble_eq_true rfl) ⟨Nat.zero_le _, Nat.zero_le _⟩ dX4_setStuck_2 ?_
  refine xg_if_ne C 10 dX4_setStuck_5 (by decide) (fun h1 => ?_) (fun h1 => ?_)
  · refine xg_aload_n C dX4_setStuck_10 rfl ?_
    refine xg_getR C V (f := 0) qX4_setStuck_62 rfl rfl rfl dX4_setStuck_11 ?_
    refine xg_iload_n C dX4_setStuck_14 rfl ?_
    refine xg_zald C V (f := 18) (n := 1) (N := 8) rfl (by decide) (xR_0 (by decide)) (by first | assumption | exact xin_one (by assumption) | exact xin_asks (by assumption) | exact xin_ask1 (by assumption) | exact xin_ask2 (by assumption)) dX4_setStuck_15 (v := ((fX4_asks a1 S).1 18 0 a1)) rfl ?_
    refine xg_istore_n C dX4_setStuck_16 (by decide) (L' := [some (.ref (G.2.2 0 0)), some (.int a1), some (.int a2), some (.int ((fX4_asks a1 S).1 18 0 a1))]) rfl ?_
    refine xg_aload_n C dX4_setStuck_17 rfl ?_
    refine xg_getR C V (f := 0) qX4_setStuck_62 rfl rfl rfl dX4_setStuck_18 ?_
    refine xg_iload_n C dX4_setStuck_21 rfl ?_
    refine xg_iload_n C dX4_setStuck_22 rfl ?_
    refine xg_zast C V (f := 18) (n := 1) (N := 8) rfl (by decide) (xR_0 (by decide)) (by first | assumption | exact xin_one (by assumption) | exact xin_asks (by assumption) | exact xin_ask1 (by assumption) | exact xin_ask2 (by assumption)) hb dX4_setStuck_23 ?_
    refine xg_iload_n C dX4_setStuck_24 rfl ?_
    have e : (fX4_setStuck a1 a2 S) = ((xu (fX4_asks a1 S).1 18 0 a1 a2), ((fX4_asks a1 S).1 18 0 a1)) := by first | (rw [fX4_setStuck, if_neg h1]; done) | (rw [fX4_setStuck, if_neg h1]; rfl)
    exact xret_i E dX4_setStuck_25 (xsnd e) (xfst e)
  · refine xg_iconst C dX4_setStuck_8 (v := (0 : Int32)) (by decide) ?_
    have e : (fX4_setStuck a1 a2 S) = ((fX4_asks a1 S).1, (0 : Int32)) := by first | (rw [fX4_setStuck, if_pos h1]; done) | (rw [fX4_setStuck, if_pos h1]; rfl)
    exact xret_i E dX4_setStuck_9 (xsnd e) (xfst e)
theorem iX4_setTimes_X4 : ∀ w ∈ wsX40, w ∈ wsX4_setTimes := by decide +kernel
theorem qX4_setTimes_83 : xFr wsX4_setTimes RX4 83 RX4 TX4 30 25 := ⟨iX4_setTimes_X4, List.mem_of_getElem? (i := 1) rfl, by decide⟩
theorem qX4_setTimes_87 : xFr wsX4_setTimes RX4 87 RX4 TX4 30 26 := ⟨iX4_setTimes_X4, List.mem_of_getElem? (i := 2) rfl, by decide⟩
def fX4_setTimes (a1 : Int32) (a2 : Int32) (S : xS) : xS :=
  if (fX4_isIn a1 (1 : Int32) (50 : Int32)) = (0 : Int32) then
    (xu S 0 0 (nI 29) (1 : Int32))
  else
    if (fX4_isIn a2 a1 (100 : Int32)) = (0 : Int32) then
      (xu S 0 0 (nI 29) (1 : Int32))
    else
      (xu (xu (xu S 0 0 (nI 29) (0 : Int32)) 0 0 (nI 25) a1) 0 0 (nI 26) a2)
theorem hdX4_setTimes : yX4_setTimes.cls = RX4 ∧ yX4_setTimes.cls ≠ "java/lang/invoke/MethodHandle" ∧ yX4_setTimes.cls ≠ "java/lang/invoke/VarHandle" ∧ (parseMethodDescriptor yX4_setTimes.desc).map (fun d => d.parameters.length) = some 2 := by decide +kernel
set_option maxRecDepth 100000 in
set_option maxHeartbeats 4000000 in
theorem kX4_setTimes (l : Launch) {G : xG} (hap : xAp xYm G) (a1 : Int32) (a2 : Int32) (S : xS)  : xMv l xYm G yX4_setTimes wsX4_setTimes 1 22 [.ref (G.2.2 0 0), .int a1, .int a2] S (fX4_setTimes a1 a2 S) := by
  refine xMv_of (cc := cX4_setTimes) (maxL := 3) (own := RX4) [some (.ref (G.2.2 0 0)), some (.int a1), some (.int a2)] pnX4 rfl rfl (xcat1 rfl) (Nat.le_of_ble_eq_true rfl) rfl hap (fun F C V E => ?_)
  refine xg_aload_n C dX4_setTimes_0 rfl ?_
  refine xg_iload_n C dX4_setTimes_1 rfl ?_
  refine xg_iconst C dX4_setTimes_2 (v := (1 : Int32)) (by decide) ?_
  refine xg_bipush C dX4_setTimes_3 (v := (50 : Int32)) (by decide) ?_
  refine xg_callSi C V (as := [.int a1, .int (1 : Int32), .int (50 : Int32)]) (r := (fX4_isIn a1 (1 : Int32) (50 : Int32))) (fun l => kX4_isIn l hap a1 (1 : Int32) (50 : Int32) S) gX4_setTimes_X4_isIn rfl hdX4_isIn ⟨by decide, by decide⟩ rfl rfl (Nat.le_of_ble_eq_true rfl) ⟨Nat.zero_le _, Nat.zero_le _⟩ dX4_setTimes_5 ?_
  refine xg_if_eq C 25 dX4_setTimes_8 (by decide) (fun h1 => ?_) (fun h1 => ?_)
  · refine xg_iconst C dX4_setTimes_25 (v := (1 : Int32)) (by decide) ?_
    refine xg_callVi C V (f := 0) (As := [.int (1 : Int32)]) (r := (0 : Int32)) (fun l => kX4_goes1 l hap  S) gX4_setTimes_X4_goes rfl hdX4_goes ⟨by decide, by decide⟩ rfl rfl rfl rfl rfl (Nat.le_of_ble_eq_true rfl) ⟨Nat.zero_le _, Nat.zero_le _⟩ dX4_setTimes_26 ?_
    refine xg_if_eq C 42 dX4_setTimes_29 (by decide) (fun h2 => ?_) (fun h2 => by exact absurd h2 (by decide))
    exact xret_v E dX4_setTimes_42 (by first | (rw [fX4_setTimes, if_pos h1]; done) | (rw [fX4_setTimes, if_pos h1]; rfl))
  · refine xg_iload_n C dX4_setTimes_11 rfl ?_
    refine xg_iload_n C dX4_setTimes_12 rfl ?_
    refine xg_bipush C dX4_setTimes_13 (v := (100 : Int32)) (by decide) ?_
    refine xg_callSi C V (as := [.int a2, .int a1, .int (100 : Int32)]) (r := (fX4_isIn a2 a1 (100 : Int32))) (fun l => kX4_isIn l hap a2 a1 (100 : Int32) S) gX4_setTimes_X4_isIn rfl hdX4_isIn ⟨by decide, by decide⟩ rfl rfl (Nat.le_of_ble_eq_true rfl) ⟨Nat.zero_le _, Nat.zero_le _⟩ dX4_setTimes_15 ?_
    refine xg_if_eq C 25 dX4_setTimes_18 (by decide) (fun h3 => ?_) (fun h3 => ?_)
    · refine xg_iconst C dX4_setTimes_25 (v := (1 : Int32)) (by decide) ?_
      refine xg_callVi C V (f := 0) (As := [.int (1 : Int32)]) (r := (0 : Int32)) (fun l => kX4_goes1 l hap  S) gX4_setTimes_X4_goes rfl hdX4_goes ⟨by decide, by decide⟩ rfl rfl rfl rfl rfl (Nat.le_of_ble_eq_true rfl) ⟨Nat.zero_le _, Nat.zero_le _⟩ dX4_setTimes_26 ?_
      refine xg_if_eq C 42 dX4_setTimes_29 (by decide) (fun h4 => ?_) (fun h4 => by exact absurd h4 (by decide))
      exact xret_v E dX4_setTimes_42 (by first | (rw [fX4_setTimes, if_neg h1, if_pos h3]; done) | (rw [fX4_setTimes, if_neg h1, if_pos h3]; rfl))
    · refine xg_iconst C dX4_setTimes_21 (v := (0 : Int32)) (by decide) ?_
      refine xg_goto C 26 dX4_setTimes_22 (by decide) ?_
      refine xg_callVi C V (f := 0) (As := [.int (0 : Int32)]) (r := (1 : Int32)) (fun l => kX4_goes0 l hap  S) gX4_setTimes_X4_goes rfl hdX4_goes ⟨by decide, by decide⟩ rfl rfl rfl rfl rfl (Nat.le_of_ble_eq_true rfl) ⟨Nat.zero_le _, Nat.zero_le _⟩ dX4_setTimes_26 ?_
      refine xg_if_eq C 42 dX4_setTimes_29 (by decide) (fun h5 => by exact absurd h5 (by decide)) (fun h5 => ?_)
      refine xg_aload_n C dX4_setTimes_32 rfl ?_
      refine xg_iload_n C dX4_setTimes_33 rfl ?_
      refine xg_putI C V (f := 0) qX4_setTimes_83 rfl (by decide) rfl rfl tyX4_ok nmX4 rfl rfl dX4_setTimes_34 ?_
      refine xg_aload_n C dX4_setTimes_37 rfl ?_
      refine xg_iload_n C dX4_setTimes_38 rfl ?_
      refine xg_putI C V (f := 0) qX4_setTimes_87 rfl (by decide) rfl rfl tyX4_ok nmX4 rfl rfl dX4_setTimes_39 ?_
      exact xret_v E dX4_setTimes_42 (by first | (rw [fX4_setTimes, if_neg h1, if_neg h3]; done) | (rw [fX4_setTimes, if_neg h1, if_neg h3]; rfl))
theorem iX4_hasNews_X4 : ∀ w ∈ wsX40, w ∈ wsX4_hasNews := by decide +kernel
theorem qX4_hasNews_65 : xFr wsX4_hasNews RX4 65 RX4 TX4 30 19 := ⟨iX4_hasNews_X4, List.mem_of_getElem? (i := 1) rfl, by decide⟩
def fX4_hasNews (a1 : Int32) (a2 : Int32) (S : xS) : Int32 :=
  if (S 19 0 (fX4_at a1 a2)) ≤ (0 : Int32) then
    (0 : Int32)
  else
    (1 : Int32)
theorem z01X4_hasNews {a1 a2 : Int32} {S : xS} : narrow .boolean (.int (fX4_hasNews a1 a2 S)) = .int (fX4_hasNews a1 a2 S) := xn01 (by unfold fX4_hasNews; (repeat' split) <;> first | exact Or.inl rfl | exact Or.inr rfl)
theorem hdX4_hasNews : yX4_hasNews.cls = RX4 ∧ yX4_hasNews.cls ≠ "java/lang/invoke/MethodHandle" ∧ yX4_hasNews.cls ≠ "java/lang/invoke/VarHandle" ∧ (parseMethodDescriptor yX4_hasNews.desc).map (fun d => d.parameters.length) = some 2 := by decide +kernel
set_option maxRecDepth 100000 in
set_option maxHeartbeats 4000000 in
theorem kX4_hasNews (l : Launch) {G : xG} (hap : xAp xYm G) (a1 : Int32) (a2 : Int32) (S : xS) (g_a1 : vp_in a1 8) (g_a2 : vp_in a2 8) : xMi l xYm G yX4_hasNews wsX4_hasNews 1 21 [.ref (G.2.2 0 0), .int a1, .int a2] S S (fX4_hasNews a1 a2 S) := by
  refine xMi_of (cc := cX4_hasNews) (maxL := 3) (ty := .boolean) (own := RX4) [some (.ref (G.2.2 0 0)), some (.int a1), some (.int a2)] pnX4 rfl rfl z01X4_hasNews (xcat1 rfl) (Nat.le_of_ble_eq_true rfl) rfl hap (fun F C V E => ?_)
  refine xg_aload_n C dX4_hasNews_0 rfl ?_
  refine xg_getR C V (f := 0) qX4_hasNews_65 rfl rfl rfl dX4_hasNews_1 ?_
  refine xg_iload_n C dX4_hasNews_4 rfl ?_
  refine xg_iload_n C dX4_hasNews_5 rfl ?_
  refine xg_callSi C V (as := [.int a1, .int a2]) (r := (fX4_at a1 a2)) (fun l => kX4_at l hap a1 a2 S) gX4_hasNews_X4_at rfl hdX4_at ⟨by decide, by decide⟩ rfl rfl (Nat.le_of_ble_eq_true rfl) ⟨Nat.zero_le _, Nat.zero_le _⟩ dX4_hasNews_6 ?_
  refine xg_iald C V (f := 19) (n := 1) (N := 64) rfl (by decide) (xR_0 (by decide)) (xin_at (by first | assumption | exact xin_one (by assumption) | exact xin_asks (by assumption) | exact xin_ask1 (by assumption) | exact xin_ask2 (by assumption)) (by first | assumption | exact xin_one (by assumption) | exact xin_asks (by assumption) | exact xin_ask1 (by assumption) | exact xin_ask2 (by assumption))) dX4_hasNews_9 (v := (S 19 0 (fX4_at a1 a2))) rfl ?_
  refine xg_if_le C 17 dX4_hasNews_10 (by decide) (fun h1 => ?_) (fun h1 => ?_)
  · refine xg_iconst C dX4_hasNews_17 (v := (0 : Int32)) (by decide) ?_
    exact xret_i E dX4_hasNews_18 (by first | (rw [fX4_hasNews, if_pos h1]; done) | (rw [fX4_hasNews, if_pos h1]; rfl)) rfl
  · refine xg_iconst C dX4_hasNews_13 (v := (1 : Int32)) (by decide) ?_
    refine xg_goto C 18 dX4_hasNews_14 (by decide) ?_
    exact xret_i E dX4_hasNews_18 (by first | (rw [fX4_hasNews, if_neg h1]; done) | (rw [fX4_hasNews, if_neg h1]; rfl)) rfl
theorem iX4_believed_X4 : ∀ w ∈ wsX40, w ∈ wsX4_believed := by decide +kernel
theorem qX4_believed_68 : xFr wsX4_believed RX4 68 RX4 TX4 30 20 := ⟨iX4_believed_X4, List.mem_of_getElem? (i := 1) rfl, by decide⟩
def fX4_believed (a1 : Int32) (a2 : Int32) (S : xS) : xS × Int32 :=
  if (fX4_ask a1 a2 S).2 = (0 : Int32) then
    ((fX4_ask a1 a2 S).1, (0 : Int32))
  else
    if (fX4_hasNews a1 a2 (fX4_ask a1 a2 S).1) = (0 : Int32) then
      ((fX4_ask a1 a2 S).1, (-1 : Int32))
    else
      ((fX4_ask a1 a2 S).1, ((fX4_ask a1 a2 S).1 20 0 (fX4_at a1 a2)))
theorem hdX4_believed : yX4_believed.cls = RX4 ∧ yX4_believed.cls ≠ "java/lang/invoke/MethodHandle" ∧ yX4_believed.cls ≠ "java/lang/invoke/VarHandle" ∧ (parseMethodDescriptor yX4_believed.desc).map (fun d => d.parameters.length) = some 2 := by decide +kernel
set_option maxRecDepth 100000 in
set_option maxHeartbeats 4000000 in
theorem kX4_believed (l : Launch) {G : xG} (hap : xAp xYm G) (a1 : Int32) (a2 : Int32) (S : xS)  : xMi l xYm G yX4_believed wsX4_believed 3 64 [.ref (G.2.2 0 0), .int a1, .int a2] S (fX4_believed a1 a2 S).1 (fX4_believed a1 a2 S).2 := by
  refine xMi_of (cc := cX4_believed) (maxL := 3) (ty := .int) (own := RX4) [some (.ref (G.2.2 0 0)), some (.int a1), some (.int a2)] pnX4 rfl rfl rfl (xcat1 rfl) (Nat.le_of_ble_eq_true rfl) rfl hap (fun F C V E => ?_)
  refine xg_aload_n C dX4_believed_0 rfl ?_
  refine xg_iload_n C dX4_believed_1 rfl ?_
  refine xg_iload_n C dX4_believed_2 rfl ?_
  refine xg_callVi C V (f := 0) (As := [.int a1, .int a2]) (r := (fX4_ask a1 a2 S).2) (fun l => kX4_ask l hap a1 a2 S) gX4_believed_X4_ask rfl hdX4_ask ⟨by decide, by decide⟩ rfl rfl rfl rfl rfl (Nat.le_of_ble_eq_true rfl) ⟨Nat.zero_le _, Nat.zero_le _⟩ dX4_believed_3 ?_
  refine xg_if_ne C 13 dX4_believed_6 (by decide) (fun h1 => ?_) (fun h1 => ?_)
  · refine xg_aload_n C dX4_believed_13 rfl ?_
    refine xg_iload_n C dX4_believed_14 rfl ?_
    refine xg_iload_n C dX4_believed_15 rfl ?_
    refine xg_callVi C V (f := 0) (As := [.int a1, .int a2]) (r := (fX4_hasNews a1 a2 (fX4_ask a1 a2 S).1)) (fun l => kX4_hasNews l hap a1 a2 (fX4_ask a1 a2 S).1 (by first | assumption | exact xin_one (by assumption) | exact xin_asks (by assumption) | exact xin_ask1 (by assumption) | exact xin_ask2 (by assumption)) (by first | assumption | exact xin_one (by assumption) | exact xin_asks (by assumption) | exact xin_ask1 (by assumption) | exact xin_ask2 (by assumption))) gX4_believed_X4_hasNews rfl hdX4_hasNews ⟨by decide, by decide⟩ rfl rfl rfl rfl rfl (Nat.le_of_ble_eq_true rfl) ⟨Nat.zero_le _, Nat.zero_le _⟩ dX4_believed_16 ?_
    refine xg_if_eq C 35 dX4_believed_19 (by decide) (fun h2 => ?_) (fun h2 => ?_)
    · refine xg_iconst C dX4_believed_35 (v := (-1 : Int32)) (by decide) ?_
      have e : (fX4_believed a1 a2 S) = ((fX4_ask a1 a2 S).1, (-1 : Int32)) := by first | (rw [fX4_believed, if_neg h1, if_pos h2]; done) | (rw [fX4_believed, if_neg h1, if_pos h2]; rfl)
      exact xret_i E dX4_believed_36 (xsnd e) (xfst e)
    · refine xg_aload_n C dX4_believed_22 rfl ?_
      refine xg_getR C V (f := 0) qX4_believed_68 rfl rfl rfl dX4_believed_23 ?_
      refine xg_iload_n C dX4_believed_26 rfl ?_
      refine xg_iload_n C dX4_believed_27 rfl ?_
      refine xg_callSi C V (as := [.int a1, .int a2]) (r := (fX4_at a1 a2)) (fun l => kX4_at l hap a1 a2 (fX4_ask a1 a2 S).1) gX4_believed_X4_at rfl hdX4_at ⟨by decide, by decide⟩ rfl rfl (Nat.le_of_ble_eq_true rfl) ⟨Nat.zero_le _, Nat.zero_le _⟩ dX4_believed_28 ?_
      refine xg_iald C V (f := 20) (n := 1) (N := 64) rfl (by decide) (xR_0 (by decide)) (xin_at (by first | assumption | exact xin_one (by assumption) | exact xin_asks (by assumption) | exact xin_ask1 (by assumption) | exact xin_ask2 (by assumption)) (by first | assumption | exact xin_one (by assumption) | exact xin_asks (by assumption) | exact xin_ask1 (by assumption) | exact xin_ask2 (by assumption))) dX4_believed_31 (v := ((fX4_ask a1 a2 S).1 20 0 (fX4_at a1 a2))) rfl ?_
      refine xg_goto C 36 dX4_believed_32 (by decide) ?_
      have e : (fX4_believed a1 a2 S) = ((fX4_ask a1 a2 S).1, ((fX4_ask a1 a2 S).1 20 0 (fX4_at a1 a2))) := by first | (rw [fX4_believed, if_neg h1, if_neg h2]; done) | (rw [fX4_believed, if_neg h1, if_neg h2]; rfl)
      exact xret_i E dX4_believed_36 (xsnd e) (xfst e)
  · refine xg_iconst C dX4_believed_9 (v := (0 : Int32)) (by decide) ?_
    refine xg_goto C 36 dX4_believed_10 (by decide) ?_
    have e : (fX4_believed a1 a2 S) = ((fX4_ask a1 a2 S).1, (0 : Int32)) := by first | (rw [fX4_believed, if_pos h1]; done) | (rw [fX4_believed, if_pos h1]; rfl)
    exact xret_i E dX4_believed_36 (xsnd e) (xfst e)
theorem iX4_version_X4 : ∀ w ∈ wsX40, w ∈ wsX4_version := by decide +kernel
theorem qX4_version_65 : xFr wsX4_version RX4 65 RX4 TX4 30 19 := ⟨iX4_version_X4, List.mem_of_getElem? (i := 1) rfl, by decide⟩
def fX4_version (a1 : Int32) (a2 : Int32) (S : xS) : xS × Int32 :=
  if (fX4_ask a1 a2 S).2 = (0 : Int32) then
    ((fX4_ask a1 a2 S).1, (0 : Int32))
  else
    ((fX4_ask a1 a2 S).1, ((fX4_ask a1 a2 S).1 19 0 (fX4_at a1 a2)))
theorem hdX4_version : yX4_version.cls = RX4 ∧ yX4_version.cls ≠ "java/lang/invoke/MethodHandle" ∧ yX4_version.cls ≠ "java/lang/invoke/VarHandle" ∧ (parseMethodDescriptor yX4_version.desc).map (fun d => d.parameters.length) = some 2 := by decide +kernel
set_option maxRecDepth 100000 in
set_option maxHeartbeats 4000000 in
theorem kX4_version (l : Launch) {G : xG} (hap : xAp xYm G) (a1 : Int32) (a2 : Int32) (S : xS)  : xMi l xYm G yX4_version wsX4_version 3 64 [.ref (G.2.2 0 0), .int a1, .int a2] S (fX4_version a1 a2 S).1 (fX4_version a1 a2 S).2 := by
  refine xMi_of (cc := cX4_version) (maxL := 3) (ty := .int) (own := RX4) [some (.ref (G.2.2 0 0)), some (.int a1), some (.int a2)] pnX4 rfl rfl rfl (xcat1 rfl) (Nat.le_of_ble_eq_true rfl) rfl hap (fun F C V E => ?_)
  refine xg_aload_n C dX4_version_0 rfl ?_
  refine xg_iload_n C dX4_version_1 rfl ?_
  refine xg_iload_n C dX4_version_2 rfl ?_
  refine xg_callVi C V (f := 0) (As := [.int a1, .int a2]) (r := (fX4_ask a1 a2 S).2) (fun l => kX4_ask l hap a1 a2 S) gX4_version_X4_ask rfl hdX4_ask ⟨by decide, by decide⟩ rfl rfl rfl rfl rfl (Nat.le_of_ble_eq_true rfl) ⟨Nat.zero_le _, Nat.zero_le _⟩ dX4_version_3 ?_
  refine xg_if_eq C 22 dX4_version_6 (by decide) (fun h1 => ?_) (fun h1 => ?_)
  · refine xg_iconst C dX4_version_22 (v := (0 : Int32)) (by decide) ?_
    have e : (fX4_version a1 a2 S) = ((fX4_ask a1 a2 S).1, (0 : Int32)) := by first | (rw [fX4_version, if_pos h1]; done) | (rw [fX4_version, if_pos h1]; rfl)
    exact xret_i E dX4_version_23 (xsnd e) (xfst e)
  · refine xg_aload_n C dX4_version_9 rfl ?_
    refine xg_getR C V (f := 0) qX4_version_65 rfl rfl rfl dX4_version_10 ?_
    refine xg_iload_n C dX4_version_13 rfl ?_
    refine xg_iload_n C dX4_version_14 rfl ?_
    refine xg_callSi C V (as := [.int a1, .int a2]) (r := (fX4_at a1 a2)) (fun l => kX4_at l hap a1 a2 (fX4_ask a1 a2 S).1) gX4_version_X4_at rfl hdX4_at ⟨by decide, by decide⟩ rfl rfl (Nat.le_of_ble_eq_true rfl) ⟨Nat.zero_le _, Nat.zero_le _⟩ dX4_version_15 ?_
    refine xg_iald C V (f := 19) (n := 1) (N := 64) rfl (by decide) (xR_0 (by decide)) (xin_at (by first | assumption | exact xin_one (by assumption) | exact xin_asks (by assumption) | exact xin_ask1 (by assumption) | exact xin_ask2 (by assumption)) (by first | assumption | exact xin_one (by assumption) | exact xin_asks (by assumption) | exact xin_ask1 (by assumption) | exact xin_ask2 (by assumption))) dX4_version_18 (v := ((fX4_ask a1 a2 S).1 19 0 (fX4_at a1 a2))) rfl ?_
    refine xg_goto C 23 dX4_version_19 (by decide) ?_
    have e : (fX4_version a1 a2 S) = ((fX4_ask a1 a2 S).1, ((fX4_ask a1 a2 S).1 19 0 (fX4_at a1 a2))) := by first | (rw [fX4_version, if_neg h1]; done) | (rw [fX4_version, if_neg h1]; rfl)
    exact xret_i E dX4_version_23 (xsnd e) (xfst e)
theorem iX4_ageOf_X4 : ∀ w ∈ wsX40, w ∈ wsX4_ageOf := by decide +kernel
theorem qX4_ageOf_118 : xFr wsX4_ageOf RX4 118 RX4 TX4 30 28 := ⟨iX4_ageOf_X4, List.mem_of_getElem? (i := 1) rfl, by decide⟩
theorem qX4_ageOf_71 : xFr wsX4_ageOf RX4 71 RX4 TX4 30 21 := ⟨iX4_ageOf_X4, List.mem_of_getElem? (i := 2) rfl, by decide⟩
def fX4_ageOf (a1 : Int32) (a2 : Int32) (S : xS) : Int32 :=
  if (fX4_hasNews a1 a2 S) = (0 : Int32) then
    (-1 : Int32)
  else
    ((S 0 0 (nI 28)) - (S 21 0 (fX4_at a1 a2)))
theorem hdX4_ageOf : yX4_ageOf.cls = RX4 ∧ yX4_ageOf.cls ≠ "java/lang/invoke/MethodHandle" ∧ yX4_ageOf.cls ≠ "java/lang/invoke/VarHandle" ∧ (parseMethodDescriptor yX4_ageOf.desc).map (fun d => d.parameters.length) = some 2 := by decide +kernel
set_option maxRecDepth 100000 in
set_option maxHeartbeats 4000000 in
theorem kX4_ageOf (l : Launch) {G : xG} (hap : xAp xYm G) (a1 : Int32) (a2 : Int32) (S : xS) (g_a1 : vp_in a1 8) (g_a2 : vp_in a2 8) : xMi l xYm G yX4_ageOf wsX4_ageOf 2 43 [.ref (G.2.2 0 0), .int a1, .int a2] S S (fX4_ageOf a1 a2 S) := by
  refine xMi_of (cc := cX4_ageOf) (maxL := 3) (ty := .int) (own := RX4) [some (.ref (G.2.2 0 0)), some (.int a1), some (.int a2)] pnX4 rfl rfl rfl (xcat1 rfl) (Nat.le_of_ble_eq_true rfl) rfl hap (fun F C V E => ?_)
  refine xg_aload_n C dX4_ageOf_0 rfl ?_
  refine xg_iload_n C dX4_ageOf_1 rfl ?_
  refine xg_iload_n C dX4_ageOf_2 rfl ?_
  refine xg_callVi C V (f := 0) (As := [.int a1, .int a2]) (r := (fX4_hasNews a1 a2 S)) (fun l => kX4_hasNews l hap a1 a2 S (by first | assumption | exact xin_one (by assumption) | exact xin_asks (by assumption) | exact xin_ask1 (by assumption) | exact xin_ask2 (by assumption)) (by first | assumption | exact xin_one (by assumption) | exact xin_asks (by assumption) | exact xin_ask1 (by assumption) | exact xin_ask2 (by assumption))) gX4_ageOf_X4_hasNews rfl hdX4_hasNews ⟨by decide, by decide⟩ rfl rfl rfl rfl rfl (Nat.le_of_ble_eq_true rfl) ⟨Nat.zero_le _, Nat.zero_le _⟩ dX4_ageOf_3 ?_
  refine xg_if_eq C 27 dX4_ageOf_6 (by decide) (fun h1 => ?_) (fun h1 => ?_)
  · refine xg_iconst C dX4_ageOf_27 (v := (-1 : Int32)) (by decide) ?_
    exact xret_i E dX4_ageOf_28 (by first | (rw [fX4_ageOf, if_pos h1]; done) | (rw [fX4_ageOf, if_pos h1]; rfl)) rfl
  · refine xg_aload_n C dX4_ageOf_9 rfl ?_
    refine xg_getI C V (f := 0) qX4_ageOf_118 rfl rfl rfl dX4_ageOf_10 (v := (S 0 0 (nI 28))) rfl ?_
    refine xg_aload_n C dX4_ageOf_13 rfl ?_
    refine xg_getR C V (f := 0) qX4_ageOf_71 rfl rfl rfl dX4_ageOf_14 ?_
    refine xg_iload_n C dX4_ageOf_17 rfl ?_
    refine xg_iload_n C dX4_ageOf_18 rfl ?_
    refine xg_callSi C V (as := [.int a1, .int a2]) (r := (fX4_at a1 a2)) (fun l => kX4_at l hap a1 a2 S) gX4_ageOf_X4_at rfl hdX4_at ⟨by decide, by decide⟩ rfl rfl (Nat.le_of_ble_eq_true rfl) ⟨Nat.zero_le _, Nat.zero_le _⟩ dX4_ageOf_19 ?_
    refine xg_iald C V (f := 21) (n := 1) (N := 64) rfl (by decide) (xR_0 (by decide)) (xin_at (by first | assumption | exact xin_one (by assumption) | exact xin_asks (by assumption) | exact xin_ask1 (by assumption) | exact xin_ask2 (by assumption)) (by first | assumption | exact xin_one (by assumption) | exact xin_asks (by assumption) | exact xin_ask1 (by assumption) | exact xin_ask2 (by assumption))) dX4_ageOf_22 (v := (S 21 0 (fX4_at a1 a2))) rfl ?_
    refine xg_isub C dX4_ageOf_23 ?_
    refine xg_goto C 28 dX4_ageOf_24 (by decide) ?_
    exact xret_i E dX4_ageOf_28 (by first | (rw [fX4_ageOf, if_neg h1]; done) | (rw [fX4_ageOf, if_neg h1]; rfl)) rfl
def fX4_age (a1 : Int32) (a2 : Int32) (S : xS) : xS × Int32 :=
  if (fX4_ask a1 a2 S).2 = (0 : Int32) then
    ((fX4_ask a1 a2 S).1, (0 : Int32))
  else
    ((fX4_ask a1 a2 S).1, (fX4_ageOf a1 a2 (fX4_ask a1 a2 S).1))
theorem hdX4_age : yX4_age.cls = RX4 ∧ yX4_age.cls ≠ "java/lang/invoke/MethodHandle" ∧ yX4_age.cls ≠ "java/lang/invoke/VarHandle" ∧ (parseMethodDescriptor yX4_age.desc).map (fun d => d.parameters.length) = some 2 := by decide +kernel
set_option maxRecDepth 100000 in
set_option maxHeartbeats 4000000 in
theorem kX4_age (l : Launch) {G : xG} (hap : xAp xYm G) (a1 : Int32) (a2 : Int32) (S : xS)  : xMi l xYm G yX4_age wsX4_age 3 65 [.ref (G.2.2 0 0), .int a1, .int a2] S (fX4_age a1 a2 S).1 (fX4_age a1 a2 S).2 := by
  refine xMi_of (cc := cX4_age) (maxL := 3) (ty := .int) (own := RX4) [some (.ref (G.2.2 0 0)), some (.int a1), some (.int a2)] pnX4 rfl rfl rfl (xcat1 rfl) (Nat.le_of_ble_eq_true rfl) rfl hap (fun F C V E => ?_)
  refine xg_aload_n C dX4_age_0 rfl ?_
  refine xg_iload_n C dX4_age_1 rfl ?_
  refine xg_iload_n C dX4_age_2 rfl ?_
  refine xg_callVi C V (f := 0) (As := [.int a1, .int a2]) (r := (fX4_ask a1 a2 S).2) (fun l => kX4_ask l hap a1 a2 S) gX4_age_X4_ask rfl hdX4_ask ⟨by decide, by decide⟩ rfl rfl rfl rfl rfl (Nat.le_of_ble_eq_true rfl) ⟨Nat.zero_le _, Nat.zero_le _⟩ dX4_age_3 ?_
  refine xg_if_eq C 18 dX4_age_6 (by decide) (fun h1 => ?_) (fun h1 => ?_)
  · refine xg_iconst C dX4_age_18 (v := (0 : Int32)) (by decide) ?_
    have e : (fX4_age a1 a2 S) = ((fX4_ask a1 a2 S).1, (0 : Int32)) := by first | (rw [fX4_age, if_pos h1]; done) | (rw [fX4_age, if_pos h1]; rfl)
    exact xret_i E dX4_age_19 (xsnd e) (xfst e)
  · refine xg_aload_n C dX4_age_9 rfl ?_
    refine xg_iload_n C dX4_age_10 rfl ?_
    refine xg_iload_n C dX4_age_11 rfl ?_
    refine xg_callVi C V (f := 0) (As := [.int a1, .int a2]) (r := (fX4_ageOf a1 a2 (fX4_ask a1 a2 S).1)) (fun l => kX4_ageOf l hap a1 a2 (fX4_ask a1 a2 S).1 (by first | assumption | exact xin_one (by assumption) | exact xin_asks (by assumption) | exact xin_ask1 (by assumption) | exact xin_ask2 (by assumption)) (by first | assumption | exact xin_one (by assumption) | exact xin_asks (by assumption) | exact xin_ask1 (by assumption) | exact xin_ask2 (by assumption))) gX4_age_X4_ageOf rfl hdX4_ageOf ⟨by decide, by decide⟩ rfl rfl rfl rfl rfl (Nat.le_of_ble_eq_true rfl) ⟨Nat.zero_le _, Nat.zero_le _⟩ dX4_age_12 ?_
    refine xg_goto C 19 dX4_age_15 (by decide) ?_
    have e : (fX4_age a1 a2 S) = ((fX4_ask a1 a2 S).1, (fX4_ageOf a1 a2 (fX4_ask a1 a2 S).1)) := by first | (rw [fX4_age, if_neg h1]; done) | (rw [fX4_age, if_neg h1]; rfl)
    exact xret_i E dX4_age_19 (xsnd e) (xfst e)
theorem iX4_beat_X4 : ∀ w ∈ wsX40, w ∈ wsX4_beat := by decide +kernel
theorem qX4_beat_74 : xFr wsX4_beat RX4 74 RX4 TX4 30 22 := ⟨iX4_beat_X4, List.mem_of_getElem? (i := 1) rfl, by decide⟩
def fX4_beat (a1 : Int32) (a2 : Int32) (S : xS) : xS × Int32 :=
  if (fX4_ask a1 a2 S).2 = (0 : Int32) then
    ((fX4_ask a1 a2 S).1, (0 : Int32))
  else
    ((fX4_ask a1 a2 S).1, ((fX4_ask a1 a2 S).1 22 0 (fX4_at a1 a2)))
theorem hdX4_beat : yX4_beat.cls = RX4 ∧ yX4_beat.cls ≠ "java/lang/invoke/MethodHandle" ∧ yX4_beat.cls ≠ "java/lang/invoke/VarHandle" ∧ (parseMethodDescriptor yX4_beat.desc).map (fun d => d.parameters.length) = some 2 := by decide +kernel
set_option maxRecDepth 100000 in
set_option maxHeartbeats 4000000 in
theorem kX4_beat (l : Launch) {G : xG} (hap : xAp xYm G) (a1 : Int32) (a2 : Int32) (S : xS)  : xMi l xYm G yX4_beat wsX4_beat 3 64 [.ref (G.2.2 0 0), .int a1, .int a2] S (fX4_beat a1 a2 S).1 (fX4_beat a1 a2 S).2 := by
  refine xMi_of (cc := cX4_beat) (maxL := 3) (ty := .int) (own := RX4) [some (.ref (G.2.2 0 0)), some (.int a1), some (.int a2)] pnX4 rfl rfl rfl (xcat1 rfl) (Nat.le_of_ble_eq_true rfl) rfl hap (fun F C V E => ?_)
  refine xg_aload_n C dX4_beat_0 rfl ?_
  refine xg_iload_n C dX4_beat_1 rfl ?_
  refine xg_iload_n C dX4_beat_2 rfl ?_
  refine xg_callVi C V (f := 0) (As := [.int a1, .int a2]) (r := (fX4_ask a1 a2 S).2) (fun l => kX4_ask l hap a1 a2 S) gX4_beat_X4_ask rfl hdX4_ask ⟨by decide, by decide⟩ rfl rfl rfl rfl rfl (Nat.le_of_ble_eq_true rfl) ⟨Nat.zero_le _, Nat.zero_le _⟩ dX4_beat_3 ?_
  refine xg_if_eq C 22 dX4_beat_6 (by decide) (fun h1 => ?_) (fun h1 => ?_)
  · refine xg_iconst C dX4_beat_22 (v := (0 : Int32)) (by decide) ?_
    have e : (fX4_beat a1 a2 S) = ((fX4_ask a1 a2 S).1, (0 : Int32)) := by first | (rw [fX4_beat, if_pos h1]; done) | (rw [fX4_beat, if_pos h1]; rfl)
    exact xret_i E dX4_beat_23 (xsnd e) (xfst e)
  · refine xg_aload_n C dX4_beat_9 rfl ?_
    refine xg_getR C V (f := 0) qX4_beat_74 rfl rfl rfl dX4_beat_10 ?_
    refine xg_iload_n C dX4_beat_13 rfl ?_
    refine xg_iload_n C dX4_beat_14 rfl ?_
    refine xg_callSi C V (as := [.int a1, .int a2]) (r := (fX4_at a1 a2)) (fun l => kX4_at l hap a1 a2 (fX4_ask a1 a2 S).1) gX4_beat_X4_at rfl hdX4_at ⟨by decide, by decide⟩ rfl rfl (Nat.le_of_ble_eq_true rfl) ⟨Nat.zero_le _, Nat.zero_le _⟩ dX4_beat_15 ?_
    refine xg_iald C V (f := 22) (n := 1) (N := 64) rfl (by decide) (xR_0 (by decide)) (xin_at (by first | assumption | exact xin_one (by assumption) | exact xin_asks (by assumption) | exact xin_ask1 (by assumption) | exact xin_ask2 (by assumption)) (by first | assumption | exact xin_one (by assumption) | exact xin_asks (by assumption) | exact xin_ask1 (by assumption) | exact xin_ask2 (by assumption))) dX4_beat_18 (v := ((fX4_ask a1 a2 S).1 22 0 (fX4_at a1 a2))) rfl ?_
    refine xg_goto C 23 dX4_beat_19 (by decide) ?_
    have e : (fX4_beat a1 a2 S) = ((fX4_ask a1 a2 S).1, ((fX4_ask a1 a2 S).1 22 0 (fX4_at a1 a2))) := by first | (rw [fX4_beat, if_neg h1]; done) | (rw [fX4_beat, if_neg h1]; rfl)
    exact xret_i E dX4_beat_23 (xsnd e) (xfst e)
theorem iX4_status_X4 : ∀ w ∈ wsX40, w ∈ wsX4_status := by decide +kernel
theorem qX4_status_80 : xFr wsX4_status RX4 80 RX4 TX4 30 24 := ⟨iX4_status_X4, List.mem_of_getElem? (i := 1) rfl, by decide⟩
def fX4_status (a1 : Int32) (a2 : Int32) (S : xS) : xS × Int32 :=
  if (fX4_ask a1 a2 S).2 = (0 : Int32) then
    ((fX4_ask a1 a2 S).1, (0 : Int32))
  else
    ((fX4_ask a1 a2 S).1, ((fX4_ask a1 a2 S).1 24 0 (fX4_at a1 a2)))
theorem hdX4_status : yX4_status.cls = RX4 ∧ yX4_status.cls ≠ "java/lang/invoke/MethodHandle" ∧ yX4_status.cls ≠ "java/lang/invoke/VarHandle" ∧ (parseMethodDescriptor yX4_status.desc).map (fun d => d.parameters.length) = some 2 := by decide +kernel
set_option maxRecDepth 100000 in
set_option maxHeartbeats 4000000 in
theorem kX4_status (l : Launch) {G : xG} (hap : xAp xYm G) (a1 : Int32) (a2 : Int32) (S : xS)  : xMi l xYm G yX4_status wsX4_status 3 64 [.ref (G.2.2 0 0), .int a1, .int a2] S (fX4_status a1 a2 S).1 (fX4_status a1 a2 S).2 := by
  refine xMi_of (cc := cX4_status) (maxL := 3) (ty := .int) (own := RX4) [some (.ref (G.2.2 0 0)), some (.int a1), some (.int a2)] pnX4 rfl rfl rfl (xcat1 rfl) (Nat.le_of_ble_eq_true rfl) rfl hap (fun F C V E => ?_)
  refine xg_aload_n C dX4_status_0 rfl ?_
  refine xg_iload_n C dX4_status_1 rfl ?_
  refine xg_iload_n C dX4_status_2 rfl ?_
  refine xg_callVi C V (f := 0) (As := [.int a1, .int a2]) (r := (fX4_ask a1 a2 S).2) (fun l => kX4_ask l hap a1 a2 S) gX4_status_X4_ask rfl hdX4_ask ⟨by decide, by decide⟩ rfl rfl rfl rfl rfl (Nat.le_of_ble_eq_true rfl) ⟨Nat.zero_le _, Nat.zero_le _⟩ dX4_status_3 ?_
  refine xg_if_eq C 22 dX4_status_6 (by decide) (fun h1 => ?_) (fun h1 => ?_)
  · refine xg_iconst C dX4_status_22 (v := (0 : Int32)) (by decide) ?_
    have e : (fX4_status a1 a2 S) = ((fX4_ask a1 a2 S).1, (0 : Int32)) := by first | (rw [fX4_status, if_pos h1]; done) | (rw [fX4_status, if_pos h1]; rfl)
    exact xret_i E dX4_status_23 (xsnd e) (xfst e)
  · refine xg_aload_n C dX4_status_9 rfl ?_
    refine xg_getR C V (f := 0) qX4_status_80 rfl rfl rfl dX4_status_10 ?_
    refine xg_iload_n C dX4_status_13 rfl ?_
    refine xg_iload_n C dX4_status_14 rfl ?_
    refine xg_callSi C V (as := [.int a1, .int a2]) (r := (fX4_at a1 a2)) (fun l => kX4_at l hap a1 a2 (fX4_ask a1 a2 S).1) gX4_status_X4_at rfl hdX4_at ⟨by decide, by decide⟩ rfl rfl (Nat.le_of_ble_eq_true rfl) ⟨Nat.zero_le _, Nat.zero_le _⟩ dX4_status_15 ?_
    refine xg_iald C V (f := 24) (n := 1) (N := 64) rfl (by decide) (xR_0 (by decide)) (xin_at (by first | assumption | exact xin_one (by assumption) | exact xin_asks (by assumption) | exact xin_ask1 (by assumption) | exact xin_ask2 (by assumption)) (by first | assumption | exact xin_one (by assumption) | exact xin_asks (by assumption) | exact xin_ask1 (by assumption) | exact xin_ask2 (by assumption))) dX4_status_18 (v := ((fX4_ask a1 a2 S).1 24 0 (fX4_at a1 a2))) rfl ?_
    refine xg_goto C 23 dX4_status_19 (by decide) ?_
    have e : (fX4_status a1 a2 S) = ((fX4_ask a1 a2 S).1, ((fX4_ask a1 a2 S).1 24 0 (fX4_at a1 a2))) := by first | (rw [fX4_status, if_neg h1]; done) | (rw [fX4_status, if_neg h1]; rfl)
    exact xret_i E dX4_status_23 (xsnd e) (xfst e)
theorem iX4_isCallable_X4 : ∀ w ∈ wsX40, w ∈ wsX4_isCallable := by decide +kernel
theorem qX4_isCallable_80 : xFr wsX4_isCallable RX4 80 RX4 TX4 30 24 := ⟨iX4_isCallable_X4, List.mem_of_getElem? (i := 1) rfl, by decide⟩
def fX4_isCallable (a1 : Int32) (a2 : Int32) (a3 : Int32) (S : xS) : Int32 :=
  if a2 = a1 then
    (0 : Int32)
  else
    if (a3 - a3 / (4 : Int32) * (4 : Int32)) = (0 : Int32) then
      (1 : Int32)
    else
      if (S 24 0 (fX4_at a1 a2)) = (2 : Int32) then
        (0 : Int32)
      else
        (1 : Int32)
theorem z01X4_isCallable {a1 a2 a3 : Int32} {S : xS} : narrow .boolean (.int (fX4_isCallable a1 a2 a3 S)) = .int (fX4_isCallable a1 a2 a3 S) := xn01 (by unfold fX4_isCallable; (repeat' split) <;> first | exact Or.inl rfl | exact Or.inr rfl)
theorem hdX4_isCallable : yX4_isCallable.cls = RX4 ∧ yX4_isCallable.cls ≠ "java/lang/invoke/MethodHandle" ∧ yX4_isCallable.cls ≠ "java/lang/invoke/VarHandle" ∧ (parseMethodDescriptor yX4_isCallable.desc).map (fun d => d.parameters.length) = some 3 := by decide +kernel
set_option maxRecDepth 100000 in
set_option maxHeartbeats 4000000 in
theorem kX4_isCallable (l : Launch) {G : xG} (hap : xAp xYm G) (a1 : Int32) (a2 : Int32) (a3 : Int32) (S : xS) (g_a1 : vp_in a1 8) (g_a2 : vp_in a2 8) : xMi l xYm G yX4_isCallable wsX4_isCallable 1 21 [.ref (G.2.2 0 0), .int a1, .int a2, .int a3] S S (fX4_isCallable a1 a2 a3 S) := by
  refine xMi_of (cc := cX4_isCallable) (maxL := 4) (ty := .boolean) (own := RX4) [some (.ref (G.2.2 0 0)), some (.int a1), some (.int a2), some (.int a3)] pnX4 rfl rfl z01X4_isCallable (xcat1 rfl) (Nat.le_of_ble_eq_true rfl) rfl hap (fun F C V E => ?_)
  refine xg_iload_n C dX4_isCallable_0 rfl ?_
  refine xg_iload_n C dX4_isCallable_1 rfl ?_
  refine xg_icmp_eq C 29 dX4_isCallable_2 (by decide) (fun h1 => ?_) (fun h1 => ?_)
  · refine xg_iconst C dX4_isCallable_29 (v := (0 : Int32)) (by decide) ?_
    exact xret_i E dX4_isCallable_30 (by first | (rw [fX4_isCallable, if_pos h1]; done) | (rw [fX4_isCallable, if_pos h1]; rfl)) rfl
  · refine xg_iload_n C dX4_isCallable_5 rfl ?_
    refine xg_iconst C dX4_isCallable_6 (v := (4 : Int32)) (by decide) ?_
    refine xg_irem C dX4_isCallable_7 (by decide) ?_
    refine xg_if_eq C 25 dX4_isCallable_8 (by decide) (fun h2 => ?_) (fun h2 => ?_)
    · refine xg_iconst C dX4_isCallable_25 (v := (1 : Int32)) (by decide) ?_
      refine xg_goto C 30 dX4_isCallable_26 (by decide) ?_
      exact xret_i E dX4_isCallable_30 (by first | (rw [fX4_isCallable, if_neg h1, if_pos h2]; done) | (rw [fX4_isCallable, if_neg h1, if_pos h2]; rfl)) rfl
    · refine xg_aload_n C dX4_isCallable_11 rfl ?_
      refine xg_getR C V (f := 0) qX4_isCallable_80 rfl rfl rfl dX4_isCallable_12 ?_
      refine xg_iload_n C dX4_isCallable_15 rfl ?_
      refine xg_iload_n C dX4_isCallable_16 rfl ?_
      refine xg_callSi C V (as := [.int a1, .int a2]) (r := (fX4_at a1 a2)) (fun l => kX4_at l hap a1 a2 S) gX4_isCallable_X4_at rfl hdX4_at ⟨by decide, by decide⟩ rfl rfl (Nat.le_of_ble_eq_true rfl) ⟨Nat.zero_le _, Nat.zero_le _⟩ dX4_isCallable_17 ?_
      refine xg_iald C V (f := 24) (n := 1) (N := 64) rfl (by decide) (xR_0 (by decide)) (xin_at (by first | assumption | exact xin_one (by assumption) | exact xin_asks (by assumption) | exact xin_ask1 (by assumption) | exact xin_ask2 (by assumption)) (by first | assumption | exact xin_one (by assumption) | exact xin_asks (by assumption) | exact xin_ask1 (by assumption) | exact xin_ask2 (by assumption))) dX4_isCallable_20 (v := (S 24 0 (fX4_at a1 a2))) rfl ?_
      refine xg_iconst C dX4_isCallable_21 (v := (2 : Int32)) (by decide) ?_
      refine xg_icmp_eq C 29 dX4_isCallable_22 (by decide) (fun h3 => ?_) (fun h3 => ?_)
      · refine xg_iconst C dX4_isCallable_29 (v := (0 : Int32)) (by decide) ?_
        exact xret_i E dX4_isCallable_30 (by first | (rw [fX4_isCallable, if_neg h1, if_neg h2, if_pos h3]; done) | (rw [fX4_isCallable, if_neg h1, if_neg h2, if_pos h3]; rfl)) rfl
      · refine xg_iconst C dX4_isCallable_25 (v := (1 : Int32)) (by decide) ?_
        refine xg_goto C 30 dX4_isCallable_26 (by decide) ?_
        exact xret_i E dX4_isCallable_30 (by first | (rw [fX4_isCallable, if_neg h1, if_neg h2, if_neg h3]; done) | (rw [fX4_isCallable, if_neg h1, if_neg h2, if_neg h3]; rfl)) rfl
