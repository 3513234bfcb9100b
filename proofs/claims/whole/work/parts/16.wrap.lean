/-! 16: calls beside cells that the callee doesn't reach; calls that throw and are caught; the law's long cell -/
section XJ
variable {F : xF} {cc : ByteArray} {nL : Nat} {own : String} {Ws : List Cond} {rm : Room} {k w pc : Nat} {L : List (Option Value)} {st st0 : List Value} {Y : xY} {G : xG} {S S' : xS} {J : Heap → Prop}
def xSt (Y : xY) (G : xG) (J : Heap → Prop) : Prop := ∀ H H1 : Heap, H.size ≤ H1.size → (∀ q : Nat, q < H.size → ¬ xA Y G q → H1[q]? = H[q]?) → J H → J H1
theorem xg_i2l {I : Heap → Prop} (C : xC F cc nL own Ws rm) {x : Int32} (d : decode cc pc = .ok (.i2l, 1)) (K : xg F k w (pc + 1) L (.long x.toInt64 :: st) I) : xg F k w pc L (.int x :: st) I := by
  obtain ⟨p, l, e, R, s, m, args, below, meth, c, A, H0, Q⟩ := F
  obtain ⟨hx, hb, -⟩ := C
  exact fun H locs ls hI hS hL => lv_i2l hx hb d rfl (K H locs ls hI hS hL)
theorem xg_lconst {I : Heap → Prop} (C : xC F cc nL own Ws rm) {n : Fin 2} {v : Int64} (d : decode cc pc = .ok (.lconst n, 1)) (hv : Int64.ofNat (n : Nat) = v) (K : xg F k w (pc + 1) L (.long v :: st) I) : xg F k w pc L st I := by
  obtain ⟨p, l, e, R, s, m, args, below, meth, c, A, H0, Q⟩ := F
  obtain ⟨hx, hb, -⟩ := C
  exact fun H locs ls hI hS hL => lv_lconst hx hb d hv (K H locs ls hI hS hL)
theorem xg_callViJ (C : xC F cc nL own Ws rm) (V : xV F Y G) (hJ : xSt Y G J) {y : MethodName} {ws ws' : List Cond} {bytes : ByteArray} {maxL idx n f ci N fr lo : Nat} {ret : Option FieldType} {Cn : String} {T : u_T} {fs : List (Option Nat)} {as As : List Value} {r : Int32} (hM : ∀ l, xMi l Y G y ws fr lo as S S' r) (g : GoodIn Ws (wsV own idx Cn y ws)) (hw : ws = Cond.code y bytes maxL ret :: ws')
    (hd : y.cls = Cn ∧ y.cls ≠ "java/lang/invoke/MethodHandle" ∧ y.cls ≠ "java/lang/invoke/VarHandle" ∧ (parseMethodDescriptor y.desc).map (fun d => d.parameters.length) = some n) (hR : fr + 1 ≤ rm.frames ∧ 8 + (maxL + 11) + lo ≤ rm.locals) (hY : Y[f]? = some (1, .inl (ci, fs))) (hci : vwCl[ci]? = some (Cn, T, N)) (has : as = .ref (G.2.2 f 0) :: As) (hn : As.length = n) (hst : st0 = As.reverse ++ .ref (G.2.2 f 0) :: st) (hcat : (st.map fun v => v.category).sum ≤ 8) (hkw : k ≤ rm.cells ∧ w ≤ rm.slots) (d : decode cc pc = .ok (.invokevirtual idx, 3))
    (K : xg F k w (pc + 3) L (.int r :: st) (fun H => xP Y G S' H ∧ J H)) : xg F k w pc L st0 (fun H => xP Y G S H ∧ J H) := by
  obtain ⟨p, l, e, R, s, m, args, below, meth, c, A, H0, Q⟩ := F
  obtain ⟨hx, hb, hml, hown, hts, rfl⟩ := C
  obtain ⟨hap, hA, hK⟩ := V
  intro H locs ls hI0 hS hL
  obtain ⟨hI, hj⟩ := hI0
  subst has
  obtain ⟨rr, h1, cell, q1, q2, q3, q4⟩ := xP_at hI hY (xR_0 (by decide))
  have hr : rr = (Cn, T, N) := Option.some.inj (h1.symm.trans hci)
  subst hr
  have hfc := (hK.1 ci _ hci).2.1
  refine va_calli (va_runV (As := As) (rest := st) (b := G.2.2 f 0) ⟨hx, hb, hml, hown, hts⟩ (hM l) (cwV n hts g hw rfl rfl hd hR) ⟨xpre_blind, ⟨cell, q1, by rw [q3]; rfl, by rw [q2]; exact hfc⟩, fun U hU hW => ⟨rfl, by rw [hU]; exact hI, va_K.moved hW.alike hK⟩⟩ rfl hn (hL.1.trans hml) hst (lv_room hcat) d hkw) hS (fun q _ h => hA q h) hA (fun r2 u t H1 locs1 ht hvm hr2 hB hz1 hk1 hS1 => ?_)
  subst hr2
  rw [ht] at hB
  exact K H1 locs1 ls ⟨hB, hJ H H1 hz1 hk1 hj⟩ hS1 hL
theorem xg_callVvJ (C : xC F cc nL own Ws rm) (V : xV F Y G) (hJ : xSt Y G J) {y : MethodName} {ws ws' : List Cond} {bytes : ByteArray} {maxL idx n f ci N fr lo : Nat} {ret : Option FieldType} {Cn : String} {T : u_T} {fs : List (Option Nat)} {as As : List Value} (hM : ∀ l, xMv l Y G y ws fr lo as S S') (g : GoodIn Ws (wsV own idx Cn y ws)) (hw : ws = Cond.code y bytes maxL ret :: ws')
    (hd : y.cls = Cn ∧ y.cls ≠ "java/lang/invoke/MethodHandle" ∧ y.cls ≠ "java/lang/invoke/VarHandle" ∧ (parseMethodDescriptor y.desc).map (fun d => d.parameters.length) = some n) (hR : fr + 1 ≤ rm.frames ∧ 8 + (maxL + 11) + lo ≤ rm.locals) (hY : Y[f]? = some (1, .inl (ci, fs))) (hci : vwCl[ci]? = some (Cn, T, N)) (has : as = .ref (G.2.2 f 0) :: As) (hn : As.length = n) (hst : st0 = As.reverse ++ .ref (G.2.2 f 0) :: st) (hcat : (st.map fun v => v.category).sum ≤ 8) (hkw : k ≤ rm.cells ∧ w ≤ rm.slots) (d : decode cc pc = .ok (.invokevirtual idx, 3))
    (K : xg F k w (pc + 3) L st (fun H => xP Y G S' H ∧ J H)) : xg F k w pc L st0 (fun H => xP Y G S H ∧ J H) := by
  obtain ⟨p, l, e, R, s, m, args, below, meth, c, A, H0, Q⟩ := F
  obtain ⟨hx, hb, hml, hown, hts, rfl⟩ := C
  obtain ⟨hap, hA, hK⟩ := V
  intro H locs ls hI0 hS hL
  obtain ⟨hI, hj⟩ := hI0
  subst has
  obtain ⟨rr, h1, cell, q1, q2, q3, q4⟩ := xP_at hI hY (xR_0 (by decide))
  have hr : rr = (Cn, T, N) := Option.some.inj (h1.symm.trans hci)
  subst hr
  have hfc := (hK.1 ci _ hci).2.1
  refine va_callv (va_runV (As := As) (rest := st) (b := G.2.2 f 0) ⟨hx, hb, hml, hown, hts⟩ (hM l) (cwV n hts g hw rfl rfl hd hR) ⟨xpre_blind, ⟨cell, q1, by rw [q3]; rfl, by rw [q2]; exact hfc⟩, fun U hU hW => ⟨rfl, by rw [hU]; exact hI, va_K.moved hW.alike hK⟩⟩ rfl hn (hL.1.trans hml) hst (lv_room hcat) d hkw) hS (fun q _ h => hA q h) hA (fun u t H1 locs1 ht hvm hr2 hB hz1 hk1 hS1 => ?_)
  rw [ht] at hB
  exact K H1 locs1 ls ⟨hB, hJ H H1 hz1 hk1 hj⟩ hS1 hL
/-- what a method that catches has: no traces, the statics, its own table -/
def xE2 (F : xF) (Y : xY) (G : xG) (Sa : Nat → Nat) (sz : Nat) (hh : List (Nat × Nat × Nat × Nat)) : Prop := match F with
  | (_, l, _, _, s, _, _, _, _, c, A, H0, _) => l.stackTraces = false ∧ xEnv Sa sz s ∧ c.exceptionTable.toList = tableOf hh ∧ H0 = s.heap ∧ (∀ a : Nat, A a → sz ≤ a)
theorem xg_callVxJ {X : String} {Sa : Nat → Nat} {sz : Nat} {hh : List (Nat × Nat × Nat × Nat)} (C : xC F cc nL own Ws rm) (V : xV F Y G) (E2 : xE2 F Y G Sa sz hh) (hJ : xSt Y G J) {y : MethodName} {ws ws' : List Cond} {bytes : ByteArray} {maxL idx n f ci N fr lo : Nat} {ret : Option FieldType} {Cn : String} {T : u_T} {fs : List (Option Nat)} {as As : List Value} (hM : ∀ l : Launch, l.stackTraces = false → xMx l Y G Sa sz y ws fr lo as S X) (g : GoodIn Ws (wsV own idx Cn y ws)) (hw : ws = Cond.code y bytes maxL ret :: ws')
    (hd : y.cls = Cn ∧ y.cls ≠ "java/lang/invoke/MethodHandle" ∧ y.cls ≠ "java/lang/invoke/VarHandle" ∧ (parseMethodDescriptor y.desc).map (fun d => d.parameters.length) = some n) (hR : fr + 1 ≤ rm.frames ∧ 8 + (maxL + 11) + lo ≤ rm.locals) (hY : Y[f]? = some (1, .inl (ci, fs))) (hci : vwCl[ci]? = some (Cn, T, N)) (has : as = .ref (G.2.2 f 0) :: As) (hn : As.length = n) (hst : st0 = As.reverse ++ .ref (G.2.2 f 0) :: st) (hcat : (st.map fun v => v.category).sum ≤ 8) (hkw : k + 1 ≤ rm.cells ∧ w + 6 ≤ rm.slots) (d : decode cc pc = .ok (.invokevirtual idx, 3))
    (pre : List ExceptionTableEntry) (x : ExceptionTableEntry) (suf : List ExceptionTableEntry) (hsplit : tableOf hh = pre ++ x :: suf) (hpass : ∀ z ∈ pre, z.catchType ≠ 0 ∧ Cond.classLink own z.catchType xIA ∈ Ws ∧ X = xIS) (hxc : covers x pc = true) (h0 : x.catchType ≠ 0) (hlink : Cond.classLink own x.catchType X ∈ Ws) (hcast : Cond.castable X X ∈ xBI ++ xBS)
    (K : ∀ q9 : Nat, xg F (k + 1) (w + 6) x.handlerPc L [.ref q9] (fun H => xP Y G S H ∧ J H)) : xg F k w pc L st0 (fun H => xP Y G S H ∧ J H) := by
  obtain ⟨p, l, e, R, s, m, args, below, meth, c, A, H0, Q⟩ := F
  obtain ⟨hx, hb, hml, hown, hts, rfl⟩ := C
  obtain ⟨hap, hA, hK⟩ := V
  obtain ⟨hlt, hE, hex, rfl, hAz⟩ := E2
  intro H locs ls hI0 hS hL
  obtain ⟨hI, hj⟩ := hI0
  subst has
  obtain ⟨rr, h1, cell, q1, q2, q3, q4⟩ := xP_at hI hY (xR_0 (by decide))
  have hr : rr = (Cn, T, N) := Option.some.inj (h1.symm.trans hci)
  subst hr
  have hfc := (hK.1 ci _ hci).2.1
  refine vx_callv (vx_runV (As := As) (rest := st) (b := G.2.2 f 0) ⟨hx, hb, hml, hown, hts⟩ (hM l hlt) (cwV n hts g hw rfl rfl hd hR) ⟨xpre_blindX, ⟨cell, q1, by rw [q3]; rfl, by rw [q2]; exact hfc⟩, fun U hU hW => ⟨rfl, ⟨by rw [hU]; exact hI, va_K.moved hW.alike hK⟩, hE.go hW hU hS.1 (fun q a1 a2 => hS.2.1 q a1 (fun z => a2 (hAz q z)))⟩⟩ rfl hn (hL.1.trans hml) hst (lv_room hcat) d hkw) hS (fun q _ h => hA q h) hA (fun q _ h => hA q h) (fun E ce q9 u t H1 locs1 ht hvm hpx hBX hz hk hS1 hce hcv hcl => ?_) (fun u t H1 locs1 ht hvm hu => hu.elim)
  obtain ⟨rfl, hP1⟩ := hBX
  rw [ht] at hP1
  refine vx_catch hown pre x suf (hex.trans hsplit) (fun z hz => Or.inr ⟨(hpass z hz).1, xIA, hts _ (hpass z hz).2.1, ?_⟩) hxc h0 (hts _ hlink) (hE.1.use hcast) hce hcv hcl (K q9 H1 locs1 ls ⟨hP1, hJ H H1 hz hk hj⟩ hS1 hL)
  rw [(hpass z hz).2.2]
  exact hE.2.1
end XJ
/-- the law's one long -/
def xO (cJ : ClassId) (ao : Nat) (o : Int64) (H : Heap) : Prop := H[ao]? = some (arrV cJ 1 (fun _ => .long o))
theorem xO_st {Y : xY} {G : xG} {cJ : ClassId} {ao : Nat} {o : Int64} (h : ¬ xA Y G ao) : xSt Y G (xO cJ ao o) := fun H H1 hz hk hj => by
  have hlt : ao < H.size := (Array.getElem?_eq_some_iff.mp hj).1
  exact (hk ao hlt h).trans hj
abbrev xPo (G : xG) (cJ : ClassId) (ao : Nat) (S : xS) (o : Int64) : Heap → Prop := fun H => xP xYc G S H ∧ xO cJ ao o H
abbrev xAo (G : xG) (ao : Nat) : Nat → Prop := fun q => xA xYc G q ∨ q = ao
abbrev xMw (l : Launch) (G : xG) (Sa : Nat → Nat) (sz : Nat) (cJ : ClassId) (ao : Nat) (y : MethodName) (ws : List Cond) (fr lo : Nat) (as : List Value) (S S' : xS) (o o' : Int64) (r : Int32) : Prop := Met l y ws { frames := fr, cells := 1, slots := 6, locals := lo } (va_Pc as (fun U => (xPo G cJ ao S o U.heap ∧ va_K G.1 vwCl (xT G) U ∧ ArrOfT U cJ .long) ∧ xEnv Sa sz U)) (va_Qi (fun (r' : Int32) (_ : Unit) => r' = r) (fun _ t => xPo G cJ ao S' o' t.heap) (xAo G ao)) 1 6 (xAo G ao)
def xL2 (F : xF) (cJ : ClassId) (ao : Nat) : Prop := match F with
  | (_, _, _, _, s, _, _, _, _, _, A, _, _) => ArrOfT s cJ .long ∧ A ao
theorem xMw_of {l : Launch} {G : xG} {Sa : Nat → Nat} {sz : Nat} {cJ : ClassId} {ao : Nat} {y : MethodName} {ws ws' : List Cond} {cc : ByteArray} {maxL : Nat} {hh : List (Nat × Nat × Nat × Nat)} {fr lo : Nat} {as : List Value} {S S' : xS} {o o' : Int64} {r : Int32} {own : String} (hlt : l.stackTraces = false) (hsz : ∀ a : Nat, xA xYc G a → sz ≤ a) (hao : sz ≤ ao) (L : List (Option Value)) (hy : plainName y.cls = true) (ho : y.cls = own) (hw : ws = Cond.codeWith y cc maxL (some .int) hh :: ws') (hc : ∀ v ∈ as, v.category = 1) (hlen : as.length ≤ maxL) (hL : L = as.map some ++ List.replicate (maxL - as.length) none) (hap : xAp xYc G)
    (body : ∀ F, xC F cc maxL own ws { frames := fr, cells := 1, slots := 6, locals := lo } → xV F xYc G → xE2 F xYc G Sa sz hh → xL2 F cJ ao → (∀ pc L, decode cc pc = .ok (.ireturn, 1) → xg F 1 6 pc L [.int r] (xPo G cJ ao S' o')) → xg F 0 0 0 L [] (xPo G cJ ao S o)) : xMw l G Sa sz cJ ao y ws fr lo as S S' o o' r := by
  refine va_MetW (cc := cc) (maxL := maxL) (ret := some .int) (hh := hh) hy hw ?_
  intro p e s m args below meth c s₁ B hml hv
  obtain ⟨rfl, ⟨hP, hK, hAr⟩, hE⟩ := hv
  have hts := atoms_spec (ws := ws) B.pre
  have hown : s.vm.findClass own = some m.cls := ho ▸ findClass_of_methodNamed B.named
  have hlocks := B.notSynchronized
  have hb := B.bytes
  have hx := B.exec
  have hr := B.returns
  have htab := vx_table (x := y) B (hts (Cond.codeWith y cc maxL (some .int) hh) (by rw [hw]; exact List.mem_cons_self))
  have hl := xL_entry hc hlen hL
  rw [lg_entry_eq]
  refine body (p, l, e, _, s, m, as.toArray, below, meth, c, xAo G ao, s.heap, _) ⟨hx, hb, hml, hown, hts, rfl⟩ ⟨hap, fun a h => Or.inl h, hK⟩ ⟨hlt, hE, htab, rfl, fun a h => h.elim (hsz a) (fun z => by rw [z]; exact hao)⟩ ⟨hAr, Or.inr rfl⟩ ?_ s.heap [] _ hP va_S.rf (hml.symm ▸ hl)
  intro pc L d H locs ls hI hS hL
  exact W.iret hx hb hr (fun t ht hW => ⟨⟨r, (), rfl, rfl, by show xPo G cJ ao S' o' t.heap; rw [ht]; exact hI⟩, hS.F ht⟩) hS.2.2 d hlocks
section XW
variable {F : xF} {cc : ByteArray} {nL : Nat} {own : String} {Ws : List Cond} {rm : Room} {k w pc : Nat} {L : List (Option Value)} {st st0 : List Value} {G : xG} {S S' : xS} {cJ : ClassId} {ao : Nat} {o : Int64}
theorem xg_last (C : xC F cc nL own Ws rm) (L2 : xL2 F cJ ao) (hao : ¬ xA xYc G ao) {v : Int64} (d : decode cc pc = .ok (.lastore, 1)) (K : xg F k w (pc + 1) L st (xPo G cJ ao S v)) : xg F k w pc L (.long v :: .int (0 : Int32) :: .ref ao :: st) (xPo G cJ ao S o) := by
  obtain ⟨p, l, e, R, s, m, args, below, meth, c, A, H0, Q⟩ := F
  obtain ⟨hx, hb, -⟩ := C
  obtain ⟨hAr, hA⟩ := L2
  intro H locs ls hI hS hL
  obtain ⟨hI, ho⟩ := hI
  refine W.last hx hb ho (hAr _ _) (fun q => by cases q) (by rw [arrV_size]; exact (vp_in_iff (x := (0 : Int32)) (n := 1)).mpr ⟨by decide, by decide⟩) rfl rfl d fun H1 e z oq => ?_
  refine K H1 _ ls ⟨xP_kept hI fun a ha => oq a (fun q => hao (q ▸ ha)), ?_⟩ (hS.put z oq hA) hL
  show H1[ao]? = some (arrV cJ 1 (fun _ => .long v))
  rw [e, arrV_store]
  refine congrArg some (xarr_cong fun j hj => ?_)
  have : j = 0 := by omega
  subst this
  rfl
theorem xretw {r v : Int32} {S1 : xS} {o' : Int64} (E : ∀ pc L, decode cc pc = .ok (.ireturn, 1) → xg F 1 6 pc L [.int r] (xPo G cJ ao S' o')) (d : decode cc pc = .ok (.ireturn, 1)) (h1 : r = v) (h2 : S' = S1) (h3 : o' = o) (hk : k ≤ 1) (hw : w ≤ 6) : xg F k w pc L [.int v] (xPo G cJ ao S1 o) := by
  subst h1; subst h2; subst h3; exact xg_wide (E pc L d) hk hw
end XW
