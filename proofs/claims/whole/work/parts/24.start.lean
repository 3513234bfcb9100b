/-! 24: from the entry to the loop (planstart.py) -/
def R_law : String := "GossipGatesLaw"
def lw_P (b : Addr) (xs : List Int32) (args : Array Value) (s : State) : Prop := args = #[.ref b] ∧ s.IntsAt b xs ∧ xs.length ≤ 3072 ∧ (Jvm.Cond.and given_1 narrow_1).before args s = true
def lw_Q (_ : Array Value) (s : State) (o : Outcome) (t : State) : Prop := o = .returned (some (.int 1)) ∧ Framed s o t [] 637548 7183461
def lw_Z (below : List Frame) (a : Array Value) (s : State) : State → Prop := fun t => ∃ o, t.status = .running ∧ Ended t below o ∧ lw_Q a s o t
/-- the law's own end, with 1 on the stack, nothing written that was there before, its room as the claim has it -/
theorem lw_ret {p : Program} {l : Launch} {e : Env} {s : State} {m : MethodId} {below : List Frame} {meth : Method} {c : Code} {b : Nat} (hx : p.tables.exec = Jvm.exec) (hb : c.code = code) (hr : meth.sig.returnType = ret) (hlocks : meth.locks = false) {pc : Nat} {H : Heap} {ls : Array Slot} (hdg : decode code pc = .ok (.ireturn, 1)) : W p l e room_1 s m #[Value.ref b] below meth c H [] 637548 7183461 (lw_Z below #[Value.ref b] s) (F0 m pc ls [.int 1]) := by
  intro T hT X
  obtain ⟨fs, hret, hrun, hended, hW, hframe⟩ := X.leave (v := some (.int 1)) (hlocks := hlocks) (fun h => by rw [hr] at h; cases h)
  have hmeth' : T.vm.method? m = some meth := X.method'
  refine ⟨T.setFrames fs, ?_, .returned (some (.int 1)), hrun, hended, rfl, ⟨_, rfl⟩, hW, hframe⟩
  jvm_step X.here [X.here.top, hx, hb, hdg, hmeth', hr, ret, narrow_b1]
  (try refine ⟨rfl, ?_⟩); (try refine ⟨rfl, ?_⟩)
  first | (intro acts; rw [hret _ acts rfl rfl rfl]) | rw [hret _ _ rfl rfl rfl]
  exact Steps.refl _
/-- what holds at the law's entry: the machine, the code, the tables' words (any of lw_tbl by 'hts w (by decide +kernel)'), the script of L ints xs at the cell b, what the Statement gives of the start (any of its parts by flat_of_before) -/
def lw_At (p : Program) (s : State) (m : MethodId) (meth : Method) (c : Code) (b L : Nat) (xs : Nat → Int32) : Prop :=
  p.tables.exec = Jvm.exec ∧ c.code = code ∧ meth.sig.returnType = ret ∧ c.maxLocals = 7 ∧ s.vm.findClass R_law = some m.cls ∧ (∀ w ∈ lw_tbl, w.before #[Value.ref b] s = true) ∧ va_X b L xs s s.heap ∧ b < s.heap.size ∧ meth.locks = false ∧ (Jvm.Cond.and given_1 narrow_1).before #[Value.ref b] s = true

theorem xarrOf {s : State} {args : Array Value} {ty : FieldType} (h : (Cond.arrayClass ty).before args s = true) : ∃ cA, ArrOfT s cA ty ∧ s.vm.findClass ("[" ++ ty.toString) = some cA := by
  obtain ⟨c, k, comp, h1, h2, h3⟩ := Cond.arrayClass_spec h
  exact ⟨c, fun n z => ⟨(fun k h => by cases h), k, h2, comp, h3⟩, h1⟩
theorem xarrOv {s : State} {args : Array Value} (h : (Cond.arrayOver (.array .int)).before args s = true) : ∃ cA, ArrOfT s cA (.array .int) ∧ s.vm.findClass ("[" ++ (FieldType.array .int).toString) = some cA := by
  obtain ⟨comp, c, k, h1, h2, h3, h4, h5⟩ := arrayOver_specB h
  exact ⟨c, fun n z => ⟨(fun k h => by cases h), k, h3, comp, h4⟩, h5⟩
theorem xBx_in : ∀ w ∈ xBI ++ xBS, w ∈ lw_tbl := by decide +kernel
theorem xNst_in : Cond.methodLinkNest RX3 25 yX1_init RX3 ∈ lw_tbl := by decide +kernel
theorem xOv_in : Cond.arrayOver (.array .int) ∈ lw_tbl := by decide +kernel
theorem xAI_in : Cond.arrayClass .int ∈ lw_tbl := by decide +kernel
theorem xAZ_in : Cond.arrayClass .boolean ∈ lw_tbl := by decide +kernel
theorem xAJ_in : Cond.arrayClass .long ∈ wsL_law := by decide +kernel
theorem xin_X0 : Cond.instantiable RX0 8 ∈ lw_tbl := by decide +kernel
theorem xin_X1 : Cond.instantiable RX1 12 ∈ lw_tbl := by decide +kernel
theorem xin_X2 : Cond.instantiable RX2 8 ∈ lw_tbl := by decide +kernel
theorem xin_X3 : Cond.instantiable RX3 4 ∈ lw_tbl := by decide +kernel
theorem xin_X4 : Cond.instantiable RX4 30 ∈ lw_tbl := by decide +kernel
theorem xstr_215 : Cond.stringRef RX3 215 "an argument is out of range" ∈ lw_tbl := by decide +kernel
theorem xstr_92 : Cond.stringRef RX3 92 "no hand has the gate" ∈ lw_tbl := by decide +kernel
theorem xstr_106 : Cond.stringRef RX3 106 "the member is down" ∈ lw_tbl := by decide +kernel
theorem xstr_108 : Cond.stringRef RX3 108 "the member is up" ∈ lw_tbl := by decide +kernel
theorem xstr_171 : Cond.stringRef RX3 171 "the time would be above 5000" ∈ lw_tbl := by decide +kernel
theorem xknown {s : State} {args : Array Value} (hts : ∀ w ∈ lw_tbl, w.before args s = true) : ∃ (D : va_G) (cI cZ cO : ClassId), va_K D vwCl [(cI, .int), (cZ, .boolean), (cO, .array .int)] s := by
  obtain ⟨c0, i0, k0⟩ := u_known (fun w h => hts w (inX0 w h)) (fun w h => h) (hts _ xin_X0)
  obtain ⟨c1, i1, k1⟩ := u_known (fun w h => hts w (inX1 w h)) (fun w h => h) (hts _ xin_X1)
  obtain ⟨c2, i2, k2⟩ := u_known (fun w h => hts w (inX2 w h)) (fun w h => h) (hts _ xin_X2)
  obtain ⟨c3, i3, k3⟩ := u_known (fun w h => hts w (inX3 w h)) (fun w h => h) (hts _ xin_X3)
  obtain ⟨c4, i4, k4⟩ := u_known (fun w h => hts w (inX4 w h)) (fun w h => h) (hts _ xin_X4)
  obtain ⟨cI, a1, a2⟩ := xarrOf (hts _ xAI_in)
  obtain ⟨cZ, b1, b2⟩ := xarrOf (hts _ xAZ_in)
  obtain ⟨cO, d1, d2⟩ := xarrOv (hts _ xOv_in)
  refine ⟨(fun c => match c with | 0 => c0 | 1 => c1 | 2 => c2 | 3 => c3 | _ => c4, fun c => match c with | 0 => i0 | 1 => i1 | 2 => i2 | 3 => i3 | _ => i4), cI, cZ, cO, fun c q hq => ?_, fun k q hq => ?_⟩
  · match c, hq with
    | 0, hq => cases hq; exact k0
    | 1, hq => cases hq; exact k1
    | 2, hq => cases hq; exact k2
    | 3, hq => cases hq; exact k3
    | 4, hq => cases hq; exact k4
    | n + 5, hq => simp at hq
  · match k, hq with
    | 0, hq => cases hq; exact ⟨a1, a2⟩
    | 1, hq => cases hq; exact ⟨b1, b2⟩
    | 2, hq => cases hq; exact ⟨d1, d2⟩
    | n + 3, hq => simp at hq
theorem xtab (w : Cond) (h : w ∈ xBI ++ xBS) : w.onTables = true := xdc_tab (by
  rcases List.mem_append.mp h with q | q
  · exact List.all_eq_true.mp xBI_dc w q
  · exact List.all_eq_true.mp xBS_dc w q)
theorem xstrOf {s : State} {args : Array Value} {own tx : String} {k : Nat} (h1 : (Cond.stringRef own k tx).before args s = true) (h2 : (Cond.exactly (.string own k) "java/lang/String").before args s = true) : ∃ a, vk_R own k tx a s := by
  obtain ⟨a, c, cell, kk, q1, -⟩ := Cond.exactly_spec h2
  exact ⟨a, vk_R.of h1 q1⟩
theorem xenv0 {s : State} {args : Array Value} (hts : ∀ w ∈ lw_tbl, w.before args s = true) (hg : (Jvm.Cond.and given_1 narrow_1).before args s = true) : ∃ Sa : Nat → Nat, xEnv Sa s.heap.size s := by
  have hs := flat_of_before _ hg
  obtain ⟨s0, e0⟩ := xstrOf (hts _ xstr_215) (hs _ (by decide +kernel))
  obtain ⟨s1, e1⟩ := xstrOf (hts _ xstr_92) (hs _ (by decide +kernel))
  obtain ⟨s2, e2⟩ := xstrOf (hts _ xstr_106) (hs _ (by decide +kernel))
  obtain ⟨s3, e3⟩ := xstrOf (hts _ xstr_108) (hs _ (by decide +kernel))
  obtain ⟨s4, e4⟩ := xstrOf (hts _ xstr_171) (hs _ (by decide +kernel))
  refine ⟨fun k => match k with | 0 => s0 | 1 => s1 | 2 => s2 | 3 => s3 | _ => s4, fun w hw => va_Nw.of (xtab w hw) (hts w (xBx_in w hw)), va_Nc.of (args := args) (hs _ (by decide +kernel)), ⟨e0, e1, e2, e3, e4⟩, Nat.le_refl _, ?_, ?_⟩
  · exact vx_Zqof (args := args) (hts _ (by decide +kernel)) (hts _ (by decide +kernel)) (hs _ (by decide +kernel)) (fun a h z => absurd h (by show ¬ a < s.heap.size; have : s.heap.size ≤ a := z; omega))
  · exact vx_Zqof (args := args) (hts _ (by decide +kernel)) (hts _ (by decide +kernel)) (hs _ (by decide +kernel)) (fun a h z => absurd h (by show ¬ a < s.heap.size; have : s.heap.size ≤ a := z; omega))
theorem hdX3_init : yX3_init.cls ≠ "java/lang/invoke/MethodHandle" ∧ yX3_init.cls ≠ "java/lang/invoke/VarHandle" ∧ (parseMethodDescriptor yX3_init.desc).map (fun d => d.parameters.length) = some 0 := by decide +kernel
theorem hdX4_init : yX4_init.cls ≠ "java/lang/invoke/MethodHandle" ∧ yX4_init.cls ≠ "java/lang/invoke/VarHandle" ∧ (parseMethodDescriptor yX4_init.desc).map (fun d => d.parameters.length) = some 0 := by decide +kernel
set_option maxRecDepth 100000 in
set_option maxHeartbeats 4000000 in
theorem law_start {p : Program} {e : Env} {s : State} {m : MethodId} {below : List Frame} {meth : Method} {c : Code} (l : Launch) (hflags : l.flags = flags0) {b L : Nat} {xs : Nat → Int32} (hL : L ≤ 3072) (C0 : lw_At p s m meth c b L xs) {Rel : Nat → xS → xS → Prop} (hs : simAll Rel) (h00 : Rel 0 xS0c (fX4_init xS0m)) : W p l e room_1 s m #[Value.ref b] below meth c s.heap [] 0 0 (lw_Z below #[Value.ref b] s) (entryFrame m ([Value.ref b] : List Value).toArray 7) := by
  obtain ⟨hx, hb, hret, hml, hown, hts, hX, hbl, hlocks, hgv⟩ := C0
  have hlt : l.stackTraces = false := by
    unfold Launch.stackTraces
    rw [hflags]
    decide +kernel
  obtain ⟨D, cI, cZ, cO, hK⟩ := xknown hts
  obtain ⟨Sa, hE⟩ := xenv0 hts hgv
  have hAO : va_AOA .int s := va_AOA.of (hts _ xOv_in)
  have hN9 : va_Nw (.methodLinkNest RX3 25 yX1_init RX3) s := va_Nw.of rfl (hts _ xNst_in)
  rw [lg_entry_eq]
  generalize hFd : ((p, l, e, room_1, s, m, #[Value.ref b], below, meth, c, (fun q => s.heap.size ≤ q), s.heap, lw_Z below #[Value.ref b] s) : xF) = F
  have C : xC F cL_law 7 RL wsL_law room_1 := by
    subst hFd
    exact ⟨hx, hb, hml, hown, fun w h => hts w (wsL_law_in w h), rfl⟩
  have E3 : xE3 F Sa s.heap.size b L xs := by
    subst hFd
    exact ⟨hlt, hE, rfl, rfl, rfl, hX, hbl⟩
  have hKF : ∀ ad, va_K (D, (cI, cZ, cO), ad).1 vwCl (xT (D, (cI, cZ, cO), ad)) (xst_of F) := fun ad => by
    subst hFd
    exact hK
  have hAOF : va_AOA .int (xst_of F) := by
    subst hFd
    exact hAO
  have hNF : va_Nw (.methodLinkNest RX3 25 yX1_init RX3) (xst_of F) := by
    subst hFd
    exact hN9
  have hAq : ∀ q, s.heap.size ≤ q → F.2.2.2.2.2.2.2.2.2.2.1 q := by
    subst hFd
    exact fun q h => h
  have VC : ∀ h1, s.heap.size ≤ h1 → xV F xYc (D, (cI, cZ, cO), adC h1) := fun h1 h => by
    subst hFd
    exact ⟨xapC D _ h1, fun a ha => by have := xaC ha; show s.heap.size ≤ a; omega, hK⟩
  have VM : ∀ h1, s.heap.size ≤ h1 → xV F xYm (D, (cI, cZ, cO), adM h1) := fun h1 h => by
    subst hFd
    exact ⟨xapM D _ h1, fun a ha => by have := (xaM ha).1; show s.heap.size ≤ a; omega, hK⟩
  have VL : ∀ cJ ao, ArrOfT (xst_of F) cJ .long → s.heap.size ≤ ao → xL2 F cJ ao := fun cJ ao h h2 => by
    subst hFd
    exact ⟨h, h2⟩
  have KE : ∀ (G Gm : xG) (cJ : ClassId) (ao : Nat) (k w : Nat) (S M : xS) (o : Int64) (L9 : List (Option Value)), k ≤ 637548 → w ≤ 7183461 → xg F k w 1877 L9 [] (xPP G Gm cJ ao S M o) := fun G Gm cJ ao k w S M o L9 h1 h2 => by
    refine xg_iconst C dL_law_1877 (v := (1 : Int32)) (by decide) ?_
    subst hFd
    intro H locs ls hI hS hLL
    exact W.widen h1 h2 (va_forget hS.2.2 (lw_ret hx hb hret hlocks dL_law_1878))
  suffices main : xg F 0 0 0 [some (.ref b), none, none, none, none, none, none] [] (fun H => s.heap.size ≤ H.size) by
    subst hFd
    exact main s.heap [] _ (Nat.le_refl _) va_S.rf (hml.symm ▸ xL_entry (as := [.ref b]) (n := 7) (xcat1 rfl) (Nat.le_of_ble_eq_true rfl) rfl)
  clear hFd
  refine xg_newL C (hKF (fun _ _ => 0)) (Cn := RX3) (T := TX3) (M := 4) (ci := 3) (ty := tyX3) (fs := [.null, .null, .null, .int (0 : Int32)]) inlX3 tyX3_ok (by decide +kernel) (by decide +kernel) (by decide +kernel) rfl (by decide +kernel) (Nat.le_of_ble_eq_true rfl) (Nat.le_of_ble_eq_true rfl) dL_law_0 (fun H H1 h h1 _ => Nat.le_trans h h1) (fun h0 hh0 => ?_)
  have hz0 : s.heap.size ≤ h0 := by
    obtain ⟨H, q1, q2, -⟩ := hh0
    omega
  refine xg_dup C dL_law_3 rfl ?_
  refine xg_ctorL (h1 := h0) C (G := (D, (cI, cZ, cO), adC h0)) (B := fun U => va_Nw (.methodLinkNest RX3 25 yX1_init RX3) U) (hKF _) hAOF ⟨s.heap.size, hAq, hz0⟩ (fun U g mk a h => va_Nw.same (u := U) (U := U.calling g mk a) rfl rfl h) (fun U hW => va_Nw.warmM hW hNF) (I' := xP xYc (D, (cI, cZ, cO), adC h0) xS0c) (fun l => kX3_init l h0 (h0 + 1) _ (fun H h => xbornC h)) gL_law_X3_init rfl (by decide +kernel) (by decide +kernel) (by decide +kernel) rfl hdX3_init ⟨Nat.le_of_ble_eq_true rfl, Nat.le_of_ble_eq_true rfl⟩ (fun H H1 h _ h2 _ => Nat.le_trans h h2) (Nat.le_of_ble_eq_true rfl) ⟨Nat.le_of_ble_eq_true rfl, Nat.le_of_ble_eq_true rfl⟩ dL_law_4 ?_
  refine xg_astore_n C dL_law_7 (by decide) (L' := [some (.ref b), some (.ref h0), none, none, none, none, none]) rfl ?_
  refine xg_newL C (hKF (fun _ _ => 0)) (Cn := RX4) (T := TX4) (M := 30) (ci := 4) (ty := tyX4) (fs := [.null, .null, .null, .null, .null, .null, .null, .null, .null, .int (0 : Int32), .null, .null, .null, .null, .null, .null, .null, .null, .null, .null, .null, .null, .null, .null, .null, .int (0 : Int32), .int (0 : Int32), .int (0 : Int32), .int (0 : Int32), .int (0 : Int32)]) inlX4 tyX4_ok (by decide +kernel) (by decide +kernel) (by decide +kernel) rfl (by decide +kernel) (Nat.le_of_ble_eq_true rfl) (Nat.le_of_ble_eq_true rfl) dL_law_8 (fun H H1 h h1 h2 => ⟨Nat.le_trans h.1 h1, xP_kept h.2 fun a ha => h2 a (xA_lt h.2 ha)⟩) (fun h1 hh1 => ?_)
  obtain ⟨hz1, hlt1⟩ : s.heap.size ≤ h1 ∧ ∀ a, xA xYc (D, (cI, cZ, cO), adC h0) a → a < h1 := by
    obtain ⟨H, q1, rfl, -⟩ := hh1
    exact ⟨q1.1, fun a ha => xA_lt q1.2 ha⟩
  refine xg_dup C dL_law_11 rfl ?_
  refine xg_ctorL (h1 := h1) C (G := (D, (cI, cZ, cO), adM h1)) (B := fun _ => True) (hKF _) hAOF ⟨s.heap.size, hAq, hz1⟩ (fun U g mk a h => trivial) (fun U hW => trivial) (I' := xP xYm (D, (cI, cZ, cO), adM h1) (fX4_init xS0m)) (fun l => kX4_init l (G := (D, (cI, cZ, cO), adM h1)) (h1 + 1) (xapM D _ h1) (fun a ha => by have := (xaM ha).1; show a = h1 + 0 ∨ h1 + 1 ≤ a; omega) xS0m (fun H h => xbornM h)) gL_law_X4_init rfl (by decide +kernel) (by decide +kernel) (by decide +kernel) rfl hdX4_init ⟨Nat.le_of_ble_eq_true rfl, Nat.le_of_ble_eq_true rfl⟩ (fun H H1 h _ h2 h3 => ⟨Nat.le_trans h.1 h2, xP_kept h.2 fun a ha => h3 a (hlt1 a ha)⟩) (Nat.le_of_ble_eq_true rfl) ⟨Nat.le_of_ble_eq_true rfl, Nat.le_of_ble_eq_true rfl⟩ dL_law_12 ?_
  refine xg_astore_n C dL_law_15 (by decide) (L' := [some (.ref b), some (.ref h0), some (.ref h1), none, none, none, none]) rfl ?_
  refine xg_iconst C dL_law_16 (v := (1 : Int32)) (by decide) ?_
  refine xg_newJ C xAJ_in (Nat.le_of_ble_eq_true rfl) (Nat.le_of_ble_eq_true rfl) dL_law_17 (fun H H1 h z o => ⟨⟨Nat.le_trans h.1.1 z, xP_kept h.1.2 fun a ha => o a (xA_lt h.1.2 ha)⟩, xP_kept h.2 fun a ha => o a (xA_lt h.2 ha)⟩) (fun cJ ao hJ hao => ?_)
  obtain ⟨hz2, hlt2, hlt3⟩ : s.heap.size ≤ ao ∧ (∀ a, xA xYc (D, (cI, cZ, cO), adC h0) a → a < ao) ∧ (∀ a, xA xYm (D, (cI, cZ, cO), adM h1) a → a < ao) := by
    obtain ⟨H, q1, rfl⟩ := hao
    exact ⟨q1.1.1, fun a ha => xA_lt q1.1.2 ha, fun a ha => xA_lt q1.2 ha⟩
  have hd9 : xAway (D, (cI, cZ, cO), adC h0) (D, (cI, cZ, cO), adM h1) ao := ⟨fun q h h' => absurd (hlt1 q h') (by have := (xaM h).1; omega), fun h => Nat.lt_irrefl _ (hlt2 _ h), fun h => Nat.lt_irrefl _ (hlt3 _ h)⟩
  refine xg_I (I' := xPP (D, (cI, cZ, cO), adC h0) (D, (cI, cZ, cO), adM h1) cJ ao xS0c (fX4_init xS0m) 0) ?_ (fun H h => ⟨⟨h.1.1.2, h.2⟩, h.1.2⟩)
  refine xg_astore_n C dL_law_19 (by decide) (L' := [some (.ref b), some (.ref h0), some (.ref h1), some (.ref ao), none, none, none]) rfl ?_
  refine xg_iconst C dL_law_20 (v := (0 : Int32)) (by decide) ?_
  refine xg_istore C dL_law_21 (by decide) (L' := [some (.ref b), some (.ref h0), some (.ref h1), some (.ref ao), some (.int (0 : Int32)), none, none]) rfl ?_
  exact law_loop C (VC h0 hz0) (VM h1 hz1) E3 (VL cJ ao hJ hz2) (fun a ha => by have := xaC ha; omega) hz2 hd9 hL hs (KE _ _ cJ ao) 512 0 0 _ _ _ _ _ (by omega) rfl (by decide) (Nat.le_of_ble_eq_true rfl) (Nat.le_of_ble_eq_true rfl) h00
