/-! 16: longs; methods with a table; calls that throw and are caught; calls that want room -/
section XLONG
variable {F : xF} {cc : ByteArray} {nL : Nat} {own : String} {Ws : List Cond} {rm : Room} {k w pc : Nat} {L : List (Option Value)} {st st0 : List Value} {I : Heap → Prop}
theorem xg_i2l (C : xC F cc nL own Ws rm) {x : Int32} (d : decode cc pc = .ok (.i2l, 1)) (K : xg F k w (pc + 1) L (.long x.toInt64 :: st) I) : xg F k w pc L (.int x :: st) I := by
  obtain ⟨p, l, e, R, s, m, args, below, meth, c, A, H0, Q⟩ := F
  obtain ⟨hx, hb, -⟩ := C
  exact fun H locs ls hI hS hL => lv_i2l hx hb d rfl (K H locs ls hI hS hL)
theorem xg_ladd (C : xC F cc nL own Ws rm) {x y : Int64} (d : decode cc pc = .ok (.ladd, 1)) (K : xg F k w (pc + 1) L (.long (x + y) :: st) I) : xg F k w pc L (.long y :: .long x :: st) I := by
  obtain ⟨p, l, e, R, s, m, args, below, meth, c, A, H0, Q⟩ := F
  obtain ⟨hx, hb, -⟩ := C
  exact fun H locs ls hI hS hL => lv_ladd hx hb d (K H locs ls hI hS hL)
theorem xg_lmul (C : xC F cc nL own Ws rm) {x y : Int64} (d : decode cc pc = .ok (.lmul, 1)) (K : xg F k w (pc + 1) L (.long (x * y) :: st) I) : xg F k w pc L (.long y :: .long x :: st) I := by
  obtain ⟨p, l, e, R, s, m, args, below, meth, c, A, H0, Q⟩ := F
  obtain ⟨hx, hb, -⟩ := C
  exact fun H locs ls hI hS hL => lv_lmul hx hb d (K H locs ls hI hS hL)
theorem xg_ldc2 (C : xC F cc nL own Ws rm) {idx : Nat} {v : Int64} (hc : Cond.constantLong own idx v ∈ Ws) (d : decode cc pc = .ok (.ldc2_w idx, 3)) (K : xg F k w (pc + 3) L (.long v :: st) I) : xg F k w pc L st I := by
  obtain ⟨p, l, e, R, s, m, args, below, meth, c, A, H0, Q⟩ := F
  obtain ⟨hx, hb, -, hown, hts, -⟩ := C
  exact fun H locs ls hI hS hL => lv_ldc2 hx hb hown (hts _ hc) d (K H locs ls hI hS hL)
theorem xg_ldc (C : xC F cc nL own Ws rm) {idx : Nat} {v : Int32} (hc : Cond.constant own idx v ∈ Ws) (d : decode cc pc = .ok (.ldc idx, 2)) (K : xg F k w (pc + 2) L (.int v :: st) I) : xg F k w pc L st I := by
  obtain ⟨p, l, e, R, s, m, args, below, meth, c, A, H0, Q⟩ := F
  obtain ⟨hx, hb, -, hown, hts, -⟩ := C
  exact fun H locs ls hI hS hL => lv_ldc hx hb hown (hts _ hc) d (K H locs ls hI hS hL)
theorem xg_lload_n (C : xC F cc nL own Ws rm) {i : Fin 4} {x : Int64} (d : decode cc pc = .ok (.lload_n i, 1)) (hl : L[(i : Nat)]? = some (some (.long x))) (K : xg F k w (pc + 1) L (.long x :: st) I) : xg F k w pc L st I := by
  obtain ⟨p, l, e, R, s, m, args, below, meth, c, A, H0, Q⟩ := F
  obtain ⟨hx, hb, -⟩ := C
  exact fun H locs ls hI hS hL => lv_lload_n hx hb d rfl (hL.2.2 _ _ hl).1 (K H locs ls hI hS hL)
theorem xg_lload (C : xC F cc nL own Ws rm) {i : Nat} {x : Int64} (d : decode cc pc = .ok (.lload i, 2)) (hl : L[i]? = some (some (.long x))) (K : xg F k w (pc + 2) L (.long x :: st) I) : xg F k w pc L st I := by
  obtain ⟨p, l, e, R, s, m, args, below, meth, c, A, H0, Q⟩ := F
  obtain ⟨hx, hb, -⟩ := C
  exact fun H locs ls hI hS hL => lv_lload hx hb d (hL.2.2 _ _ hl).1 (K H locs ls hI hS hL)
theorem xg_lstore_n (C : xC F cc nL own Ws rm) {i : Fin 4} {x : Int64} (d : decode cc pc = .ok (.lstore_n i, 1)) (hn : (i : Nat) + 1 < nL) {L' : List (Option Value)} (hL' : L.set i (some (.long x)) = L') (hnx : L[(i : Nat) + 1]? = some none) (K : xg F k w (pc + 1) L' st I) (hno : xnl L i = true := by rfl) : xg F k w pc L (.long x :: st) I := by
  subst hL'
  obtain ⟨p, l, e, R, s, m, args, below, meth, c, A, H0, Q⟩ := F
  obtain ⟨hx, hb, hm, -⟩ := C
  exact fun H locs ls hI hS hL => lv_lstore_n hx hb d rfl (xL_has hL) (by rw [hm]; exact hn) rfl (fun ls' h' => K H locs ls' hI hS (xL_of2 hL hno hnx h'))
theorem xg_lstore (C : xC F cc nL own Ws rm) {i : Nat} {x : Int64} (d : decode cc pc = .ok (.lstore i, 2)) (hn : i + 1 < nL) {L' : List (Option Value)} (hL' : L.set i (some (.long x)) = L') (hnx : L[i + 1]? = some none) (K : xg F k w (pc + 2) L' st I) (hno : xnl L i = true := by rfl) : xg F k w pc L (.long x :: st) I := by
  subst hL'
  obtain ⟨p, l, e, R, s, m, args, below, meth, c, A, H0, Q⟩ := F
  obtain ⟨hx, hb, hm, -⟩ := C
  exact fun H locs ls hI hS hL => lv_lstore hx hb d (xL_has hL) (by rw [hm]; exact hn) rfl (fun ls' h' => K H locs ls' hI hS (xL_of2 hL hno hnx h'))
theorem xg_lcmp (C : xC F cc nL own Ws rm) {x y : Int64} (d : decode cc pc = .ok (.lcmp, 1)) (K : xg F k w (pc + 1) L (.int (lg_cmp x y) :: st) I) : xg F k w pc L (.long y :: .long x :: st) I := by
  obtain ⟨p, l, e, R, s, m, args, below, meth, c, A, H0, Q⟩ := F
  obtain ⟨hx, hb, -⟩ := C
  exact fun H locs ls hI hS hL => W.lcmp hx hb d (K H locs ls hI hS hL)
end XLONG
theorem lg_cmp_self (x : Int64) : lg_cmp x x = 0 := by simp [lg_cmp]
/-! a method that answers a long -/
abbrev xMl (l : Launch) (Y : xY) (G : xG) (y : MethodName) (ws : List Cond) (fr lo : Nat) (as : List Value) (S S' : xS) (r : Int64) : Prop := Met l y ws { frames := fr, cells := 0, slots := 0, locals := lo } (va_Pc as (xPre Y G S)) (va_Ql (fun (r' : Int64) (_ : Unit) => r' = r) (fun _ t => xP Y G S' t.heap) (xA Y G)) 0 0 (xA Y G)
theorem xMl_of {l : Launch} {Y : xY} {G : xG} {y : MethodName} {ws ws' : List Cond} {cc : ByteArray} {maxL : Nat} {fr lo : Nat} {as : List Value} {S S' : xS} {r : Int64} {own : String} (L : List (Option Value)) (hy : plainName y.cls = true) (ho : y.cls = own) (hw : ws = Cond.code y cc maxL (some .long) :: ws') (hc : ∀ v ∈ as, v.category = 1) (hlen : as.length ≤ maxL) (hL : L = as.map some ++ List.replicate (maxL - as.length) none) (hap : xAp Y G)
    (body : ∀ F, xC F cc maxL own ws { frames := fr, cells := 0, slots := 0, locals := lo } → xV F Y G → (∀ pc L, decode cc pc = .ok (.lreturn, 1) → xg F 0 0 pc L [.long r] (xP Y G S')) → xg F 0 0 0 L [] (xP Y G S)) : xMl l Y G y ws fr lo as S S' r := by
  refine Met.ofW (cc := cc) (maxL := maxL) (ret := some .long) hy hw ?_
  intro p e s m args below meth c s₁ B hml hv
  obtain ⟨rfl, hP, hK⟩ := hv
  have hts := atoms_spec (ws := ws) B.pre
  have hown : s.vm.findClass own = some m.cls := ho ▸ findClass_of_methodNamed B.named
  have hlocks := B.notSynchronized
  have hb := B.bytes
  have hx := B.exec
  have hr := B.returns
  have hl := xL_entry hc hlen hL
  rw [lg_entry_eq]
  refine body (p, l, e, _, s, m, as.toArray, below, meth, c, xA Y G, s.heap, _) ⟨hx, hb, hml, hown, hts, rfl⟩ ⟨hap, fun a h => h, hK⟩ ?_ s.heap [] _ hP va_S.rf (hml.symm ▸ hl)
  intro pc L d H locs ls hI hS hL
  exact W.lret hx hb hr (fun t ht hW => ⟨⟨r, (), rfl, rfl, by show xP Y G S' t.heap; rw [ht]; exact hI⟩, hS.F ht⟩) hS.2.2 d hlocks
theorem xret_l {F : xF} {cc : ByteArray} {pc : Nat} {L : List (Option Value)} {Y : xY} {G : xG} {S' S1 : xS} {r v : Int64} (E : ∀ pc L, decode cc pc = .ok (.lreturn, 1) → xg F 0 0 pc L [.long r] (xP Y G S')) (d : decode cc pc = .ok (.lreturn, 1)) (h1 : r = v) (h2 : S' = S1) : xg F 0 0 pc L [.long v] (xP Y G S1) := by
  subst h1; subst h2; exact E pc L d
/-! a method with a table that doesn't throw here -/
theorem xMiW_of {l : Launch} {Y : xY} {G : xG} {y : MethodName} {ws ws' : List Cond} {cc : ByteArray} {maxL : Nat} {hh : List (Nat × Nat × Nat × Nat)} {fr lo : Nat} {as : List Value} {S S' : xS} {r : Int32} {own : String} (L : List (Option Value)) (hy : plainName y.cls = true) (ho : y.cls = own) (hw : ws = Cond.codeWith y cc maxL (some .int) hh :: ws') (hc : ∀ v ∈ as, v.category = 1) (hlen : as.length ≤ maxL) (hL : L = as.map some ++ List.replicate (maxL - as.length) none) (hap : xAp Y G)
    (body : ∀ F, xC F cc maxL own ws { frames := fr, cells := 0, slots := 0, locals := lo } → xV F Y G → (∀ pc L, decode cc pc = .ok (.ireturn, 1) → xg F 0 0 pc L [.int r] (xP Y G S')) → xg F 0 0 0 L [] (xP Y G S)) : xMi l Y G y ws fr lo as S S' r := by
  refine va_MetW (cc := cc) (maxL := maxL) (ret := some .int) (hh := hh) hy hw ?_
  intro p e s m args below meth c s₁ B hml hv
  obtain ⟨rfl, hP, hK⟩ := hv
  have hts := atoms_spec (ws := ws) B.pre
  have hown : s.vm.findClass own = some m.cls := ho ▸ findClass_of_methodNamed B.named
  have hlocks := B.notSynchronized
  have hb := B.bytes
  have hx := B.exec
  have hr := B.returns
  have hl := xL_entry hc hlen hL
  rw [lg_entry_eq]
  refine body (p, l, e, _, s, m, as.toArray, below, meth, c, xA Y G, s.heap, _) ⟨hx, hb, hml, hown, hts, rfl⟩ ⟨hap, fun a h => h, hK⟩ ?_ s.heap [] _ hP va_S.rf (hml.symm ▸ hl)
  intro pc L d H locs ls hI hS hL
  exact W.iret hx hb hr (fun t ht hW => ⟨⟨r, (), rfl, rfl, by show xP Y G S' t.heap; rw [ht]; exact hI⟩, hS.F ht⟩) hS.2.2 d hlocks
/-! methods that want room: what they know of the machine -/
def xEv (F : xF) (Sa : Nat → Nat) (sz : Nat) : Prop := match F with
  | (_, l, _, _, s, _, _, _, _, _, A, H0, _) => l.stackTraces = false ∧ xEnv Sa sz s ∧ H0 = s.heap ∧ (∀ a : Nat, A a → sz ≤ a)
def xTb (F : xF) (hh : List (Nat × Nat × Nat × Nat)) : Prop := match F with
  | (_, _, _, _, _, _, _, _, _, c, _, _, _) => c.exceptionTable.toList = tableOf hh
abbrev xMn (l : Launch) (Y : xY) (G : xG) (Sa : Nat → Nat) (sz : Nat) (y : MethodName) (ws : List Cond) (fr mc ms lo : Nat) (as : List Value) (S S' : xS) (r : Int32) : Prop := Met l y ws { frames := fr, cells := mc, slots := ms, locals := lo } (va_Pc as (fun U => xPre Y G S U ∧ xEnv Sa sz U)) (va_Qi (fun (r' : Int32) (_ : Unit) => r' = r) (fun _ t => xP Y G S' t.heap) (xA Y G)) mc ms (xA Y G)
theorem xMnW_of {l : Launch} {Y : xY} {G : xG} {Sa : Nat → Nat} {sz : Nat} {y : MethodName} {ws ws' : List Cond} {cc : ByteArray} {maxL : Nat} {hh : List (Nat × Nat × Nat × Nat)} {fr mc ms lo : Nat} {as : List Value} {S S' : xS} {r : Int32} {own : String} (hlt : l.stackTraces = false) (hsz : ∀ a : Nat, xA Y G a → sz ≤ a) (L : List (Option Value)) (hy : plainName y.cls = true) (ho : y.cls = own) (hw : ws = Cond.codeWith y cc maxL (some .int) hh :: ws') (hc : ∀ v ∈ as, v.category = 1) (hlen : as.length ≤ maxL) (hL : L = as.map some ++ List.replicate (maxL - as.length) none) (hap : xAp Y G)
    (body : ∀ F, xC F cc maxL own ws { frames := fr, cells := mc, slots := ms, locals := lo } → xV F Y G → xEv F Sa sz → xTb F hh → (∀ pc L, decode cc pc = .ok (.ireturn, 1) → xg F mc ms pc L [.int r] (xP Y G S')) → xg F 0 0 0 L [] (xP Y G S)) : xMn l Y G Sa sz y ws fr mc ms lo as S S' r := by
  refine va_MetW (cc := cc) (maxL := maxL) (ret := some .int) (hh := hh) hy hw ?_
  intro p e s m args below meth c s₁ B hml hv
  obtain ⟨rfl, ⟨hP, hK⟩, hE⟩ := hv
  have hts := atoms_spec (ws := ws) B.pre
  have hown : s.vm.findClass own = some m.cls := ho ▸ findClass_of_methodNamed B.named
  have hlocks := B.notSynchronized
  have hb := B.bytes
  have hx := B.exec
  have hr := B.returns
  have htab := vx_table (x := y) B (hts (Cond.codeWith y cc maxL (some .int) hh) (by rw [hw]; exact List.mem_cons_self))
  have hl := xL_entry hc hlen hL
  rw [lg_entry_eq]
  refine body (p, l, e, _, s, m, as.toArray, below, meth, c, xA Y G, s.heap, _) ⟨hx, hb, hml, hown, hts, rfl⟩ ⟨hap, fun a h => h, hK⟩ ⟨hlt, hE, rfl, hsz⟩ htab ?_ s.heap [] _ hP va_S.rf (hml.symm ▸ hl)
  intro pc L d H locs ls hI hS hL
  exact W.iret hx hb hr (fun t ht hW => ⟨⟨r, (), rfl, rfl, by show xP Y G S' t.heap; rw [ht]; exact hI⟩, hS.F ht⟩) hS.2.2 d hlocks
theorem xMn_of {l : Launch} {Y : xY} {G : xG} {Sa : Nat → Nat} {sz : Nat} {y : MethodName} {ws ws' : List Cond} {cc : ByteArray} {maxL : Nat} {ty : FieldType} {fr mc ms lo : Nat} {as : List Value} {S S' : xS} {r : Int32} {own : String} (hlt : l.stackTraces = false) (hsz : ∀ a : Nat, xA Y G a → sz ≤ a) (L : List (Option Value)) (hy : plainName y.cls = true) (ho : y.cls = own) (hw : ws = Cond.code y cc maxL (some ty) :: ws') (hn : narrow ty (.int r) = .int r) (hc : ∀ v ∈ as, v.category = 1) (hlen : as.length ≤ maxL) (hL : L = as.map some ++ List.replicate (maxL - as.length) none) (hap : xAp Y G)
    (body : ∀ F, xC F cc maxL own ws { frames := fr, cells := mc, slots := ms, locals := lo } → xV F Y G → xEv F Sa sz → (∀ pc L, decode cc pc = .ok (.ireturn, 1) → xg F mc ms pc L [.int r] (xP Y G S')) → xg F 0 0 0 L [] (xP Y G S)) : xMn l Y G Sa sz y ws fr mc ms lo as S S' r := by
  refine Met.ofW (cc := cc) (maxL := maxL) (ret := some ty) hy hw ?_
  intro p e s m args below meth c s₁ B hml hv
  obtain ⟨rfl, ⟨hP, hK⟩, hE⟩ := hv
  have hts := atoms_spec (ws := ws) B.pre
  have hown : s.vm.findClass own = some m.cls := ho ▸ findClass_of_methodNamed B.named
  have hlocks := B.notSynchronized
  have hb := B.bytes
  have hx := B.exec
  have hr := B.returns
  have hl := xL_entry hc hlen hL
  rw [lg_entry_eq]
  refine body (p, l, e, _, s, m, as.toArray, below, meth, c, xA Y G, s.heap, _) ⟨hx, hb, hml, hown, hts, rfl⟩ ⟨hap, fun a h => h, hK⟩ ⟨hlt, hE, rfl, hsz⟩ ?_ s.heap [] _ hP va_S.rf (hml.symm ▸ hl)
  intro pc L d H locs ls hI hS hL
  exact W.zret hx hb hr hn (fun t ht hW => ⟨⟨r, (), rfl, rfl, by show xP Y G S' t.heap; rw [ht]; exact hI⟩, hS.F ht⟩) hS.2.2 d hlocks
section XROOM
variable {F : xF} {cc : ByteArray} {nL : Nat} {own : String} {Ws : List Cond} {rm : Room} {k w pc : Nat} {L : List (Option Value)} {st st0 : List Value} {Y : xY} {G : xG} {S S' : xS} {Sa : Nat → Nat} {sz : Nat}
theorem xret_n {r v : Int32} {S1 : xS} {mc ms : Nat} (E : ∀ pc L, decode cc pc = .ok (.ireturn, 1) → xg F mc ms pc L [.int r] (xP Y G S')) (d : decode cc pc = .ok (.ireturn, 1)) (h1 : r = v) (h2 : S' = S1) (hk : k ≤ mc) (hw : w ≤ ms) : xg F k w pc L [.int v] (xP Y G S1) := by
  subst h1; subst h2; exact xg_wide (E pc L d) hk hw
/-- a static method that answers a long -/
theorem xg_callSl (C : xC F cc nL own Ws rm) (V : xV F Y G) {y : MethodName} {ws ws' : List Cond} {bytes : ByteArray} {maxL idx n fr lo : Nat} {ret : Option FieldType} {as : List Value} {r : Int64} (hM : ∀ l, xMl l Y G y ws fr lo as S S' r) (g : GoodIn Ws (va_wsS own idx y ws)) (hw : ws = Cond.code y bytes maxL ret :: ws')
    (hd : y.cls ≠ "java/lang/invoke/MethodHandle" ∧ y.cls ≠ "java/lang/invoke/VarHandle" ∧ (parseMethodDescriptor y.desc).map (fun d => d.parameters.length) = some n) (hR : fr + 1 ≤ rm.frames ∧ 8 + (maxL + 11) + lo ≤ rm.locals) (hn : as.length = n) (hst : st0 = as.reverse ++ st) (hcat : (st.map fun v => v.category).sum ≤ 8) (hkw : k ≤ rm.cells ∧ w ≤ rm.slots) (d : decode cc pc = .ok (.invokestatic idx, 3))
    (K : xg F k w (pc + 3) L (.long r :: st) (xP Y G S')) : xg F k w pc L st0 (xP Y G S) := by
  obtain ⟨p, l, e, R, s, m, args, below, meth, c, A, H0, Q⟩ := F
  obtain ⟨hx, hb, hml, hown, hts, rfl⟩ := C
  obtain ⟨hap, hA, hK⟩ := V
  intro H locs ls hI hS hL
  refine va_calll (va_runS (As := as) (rest := st) ⟨hx, hb, hml, hown, hts⟩ (hM l) (va_cwS n hts g hw rfl rfl hd hR) ⟨xpre_blind, fun U hU hW => ⟨rfl, by rw [hU]; exact hI, va_K.moved hW.alike hK⟩⟩ rfl hn (hL.1.trans hml) hst (lv_room hcat) d hkw) hS (fun q _ h => hA q h) hA (fun r2 u t H1 locs1 ht hvm hr2 hB hz1 hk1 hS1 => ?_)
  subst hr2
  rw [ht] at hB
  exact K H1 locs1 ls hB hS1 hL
/-- a static method with a table, that doesn't throw here -/
theorem xg_callSiW (C : xC F cc nL own Ws rm) (V : xV F Y G) {y : MethodName} {ws ws' : List Cond} {bytes : ByteArray} {maxL idx n fr lo : Nat} {ret : Option FieldType} {hh : List (Nat × Nat × Nat × Nat)} {as : List Value} {r : Int32} (hM : ∀ l, xMi l Y G y ws fr lo as S S' r) (g : GoodIn Ws (va_wsS own idx y ws)) (hw : ws = Cond.codeWith y bytes maxL ret hh :: ws')
    (hd : y.cls ≠ "java/lang/invoke/MethodHandle" ∧ y.cls ≠ "java/lang/invoke/VarHandle" ∧ (parseMethodDescriptor y.desc).map (fun d => d.parameters.length) = some n) (hR : fr + 1 ≤ rm.frames ∧ 8 + (maxL + 11) + lo ≤ rm.locals) (hn : as.length = n) (hst : st0 = as.reverse ++ st) (hcat : (st.map fun v => v.category).sum ≤ 8) (hkw : k ≤ rm.cells ∧ w ≤ rm.slots) (d : decode cc pc = .ok (.invokestatic idx, 3))
    (K : xg F k w (pc + 3) L (.int r :: st) (xP Y G S')) : xg F k w pc L st0 (xP Y G S) := by
  obtain ⟨p, l, e, R, s, m, args, below, meth, c, A, H0, Q⟩ := F
  obtain ⟨hx, hb, hml, hown, hts, rfl⟩ := C
  obtain ⟨hap, hA, hK⟩ := V
  intro H locs ls hI hS hL
  refine va_calli (vx_runSW (As := as) (rest := st) ⟨hx, hb, hml, hown, hts⟩ (hM l) (vx_cwSW n hts g hw rfl rfl hd hR) ⟨xpre_blind, fun U hU hW => ⟨rfl, by rw [hU]; exact hI, va_K.moved hW.alike hK⟩⟩ rfl hn (hL.1.trans hml) hst (lv_room hcat) d hkw) hS (fun q _ h => hA q h) hA (fun r2 u t H1 locs1 ht hvm hr2 hB hz1 hk1 hS1 => ?_)
  subst hr2
  rw [ht] at hB
  exact K H1 locs1 ls hB hS1 hL
theorem xn_blind {as : List Value} : FrameBlind (va_Pc as (fun U => xPre Y G S U ∧ xEnv Sa sz U)) := fun a U g mk q => ⟨q.1, ⟨q.2.1.1, va_K.moved (u := U) (U := U.calling g mk a) (Vm.Alike.refl U.vm) q.2.1.2⟩, q.2.2.frame⟩
/-- static methods that want room: with a table, and without -/
theorem xg_callSnW (C : xC F cc nL own Ws rm) (V : xV F Y G) (Ev : xEv F Sa sz) {y : MethodName} {ws ws' : List Cond} {bytes : ByteArray} {maxL idx n fr mc ms lo : Nat} {ret : Option FieldType} {hh : List (Nat × Nat × Nat × Nat)} {as : List Value} {r : Int32} (hM : ∀ l : Launch, l.stackTraces = false → xMn l Y G Sa sz y ws fr mc ms lo as S S' r) (g : GoodIn Ws (va_wsS own idx y ws)) (hw : ws = Cond.codeWith y bytes maxL ret hh :: ws')
    (hd : y.cls ≠ "java/lang/invoke/MethodHandle" ∧ y.cls ≠ "java/lang/invoke/VarHandle" ∧ (parseMethodDescriptor y.desc).map (fun d => d.parameters.length) = some n) (hR : fr + 1 ≤ rm.frames ∧ 8 + (maxL + 11) + lo ≤ rm.locals) (hn : as.length = n) (hst : st0 = as.reverse ++ st) (hcat : (st.map fun v => v.category).sum ≤ 8) (hkw : k + mc ≤ rm.cells ∧ w + ms ≤ rm.slots) (d : decode cc pc = .ok (.invokestatic idx, 3))
    (K : xg F (k + mc) (w + ms) (pc + 3) L (.int r :: st) (xP Y G S')) : xg F k w pc L st0 (xP Y G S) := by
  obtain ⟨p, l, e, R, s, m, args, below, meth, c, A, H0, Q⟩ := F
  obtain ⟨hx, hb, hml, hown, hts, rfl⟩ := C
  obtain ⟨hap, hA, hK⟩ := V
  obtain ⟨hlt, hE, rfl, hAz⟩ := Ev
  intro H locs ls hI hS hL
  refine va_calli (vx_runSW (As := as) (rest := st) ⟨hx, hb, hml, hown, hts⟩ (hM l hlt) (vx_cwSW n hts g hw rfl rfl hd hR) ⟨xn_blind, fun U hU hW => ⟨rfl, ⟨by rw [hU]; exact hI, va_K.moved hW.alike hK⟩, hE.go hW hU hS.1 (fun q a1 a2 => hS.2.1 q a1 (fun z => a2 (hAz q z)))⟩⟩ rfl hn (hL.1.trans hml) hst (lv_room hcat) d hkw) hS (fun q _ h => hA q h) hA (fun r2 u t H1 locs1 ht hvm hr2 hB hz1 hk1 hS1 => ?_)
  subst hr2
  rw [ht] at hB
  exact K H1 locs1 ls hB hS1 hL
theorem xg_callSn (C : xC F cc nL own Ws rm) (V : xV F Y G) (Ev : xEv F Sa sz) {y : MethodName} {ws ws' : List Cond} {bytes : ByteArray} {maxL idx n fr mc ms lo : Nat} {ret : Option FieldType} {as : List Value} {r : Int32} (hM : ∀ l : Launch, l.stackTraces = false → xMn l Y G Sa sz y ws fr mc ms lo as S S' r) (g : GoodIn Ws (va_wsS own idx y ws)) (hw : ws = Cond.code y bytes maxL ret :: ws')
    (hd : y.cls ≠ "java/lang/invoke/MethodHandle" ∧ y.cls ≠ "java/lang/invoke/VarHandle" ∧ (parseMethodDescriptor y.desc).map (fun d => d.parameters.length) = some n) (hR : fr + 1 ≤ rm.frames ∧ 8 + (maxL + 11) + lo ≤ rm.locals) (hn : as.length = n) (hst : st0 = as.reverse ++ st) (hcat : (st.map fun v => v.category).sum ≤ 8) (hkw : k + mc ≤ rm.cells ∧ w + ms ≤ rm.slots) (d : decode cc pc = .ok (.invokestatic idx, 3))
    (K : xg F (k + mc) (w + ms) (pc + 3) L (.int r :: st) (xP Y G S')) : xg F k w pc L st0 (xP Y G S) := by
  obtain ⟨p, l, e, R, s, m, args, below, meth, c, A, H0, Q⟩ := F
  obtain ⟨hx, hb, hml, hown, hts, rfl⟩ := C
  obtain ⟨hap, hA, hK⟩ := V
  obtain ⟨hlt, hE, rfl, hAz⟩ := Ev
  intro H locs ls hI hS hL
  refine va_calli (va_runS (As := as) (rest := st) ⟨hx, hb, hml, hown, hts⟩ (hM l hlt) (va_cwS n hts g hw rfl rfl hd hR) ⟨xn_blind, fun U hU hW => ⟨rfl, ⟨by rw [hU]; exact hI, va_K.moved hW.alike hK⟩, hE.go hW hU hS.1 (fun q a1 a2 => hS.2.1 q a1 (fun z => a2 (hAz q z)))⟩⟩ rfl hn (hL.1.trans hml) hst (lv_room hcat) d hkw) hS (fun q _ h => hA q h) hA (fun r2 u t H1 locs1 ht hvm hr2 hB hz1 hk1 hS1 => ?_)
  subst hr2
  rw [ht] at hB
  exact K H1 locs1 ls hB hS1 hL
/-- a call that throws, caught here -/
theorem xg_callVx {X : String} {hh : List (Nat × Nat × Nat × Nat)} (C : xC F cc nL own Ws rm) (V : xV F Y G) (Ev : xEv F Sa sz) (Tb : xTb F hh) {y : MethodName} {ws ws' : List Cond} {bytes : ByteArray} {maxL idx n f ci N fr lo : Nat} {ret : Option FieldType} {Cn : String} {T : u_T} {fs : List (Option Nat)} {as As : List Value} (hM : ∀ l : Launch, l.stackTraces = false → xMx l Y G Sa sz y ws fr lo as S X) (g : GoodIn Ws (wsV own idx Cn y ws)) (hw : ws = Cond.code y bytes maxL ret :: ws')
    (hd : y.cls = Cn ∧ y.cls ≠ "java/lang/invoke/MethodHandle" ∧ y.cls ≠ "java/lang/invoke/VarHandle" ∧ (parseMethodDescriptor y.desc).map (fun d => d.parameters.length) = some n) (hR : fr + 1 ≤ rm.frames ∧ 8 + (maxL + 11) + lo ≤ rm.locals) (hY : Y[f]? = some (1, .inl (ci, fs))) (hci : vwCl[ci]? = some (Cn, T, N)) (has : as = .ref (G.2.2 f 0) :: As) (hn : As.length = n) (hst : st0 = As.reverse ++ .ref (G.2.2 f 0) :: st) (hcat : (st.map fun v => v.category).sum ≤ 8) (hkw : k + 1 ≤ rm.cells ∧ w + 6 ≤ rm.slots) (d : decode cc pc = .ok (.invokevirtual idx, 3))
    (pre : List ExceptionTableEntry) (x : ExceptionTableEntry) (suf : List ExceptionTableEntry) (hsplit : tableOf hh = pre ++ x :: suf) (hpass : ∀ z ∈ pre, z.catchType ≠ 0 ∧ Cond.classLink own z.catchType xIA ∈ Ws ∧ X = xIS) (hxc : covers x pc = true) (h0 : x.catchType ≠ 0) (hlink : Cond.classLink own x.catchType X ∈ Ws) (hcast : Cond.castable X X ∈ xBI ++ xBS)
    (K : ∀ q9 : Nat, xg F (k + 1) (w + 6) x.handlerPc L [.ref q9] (xP Y G S)) : xg F k w pc L st0 (xP Y G S) := by
  obtain ⟨p, l, e, R, s, m, args, below, meth, c, A, H0, Q⟩ := F
  obtain ⟨hx, hb, hml, hown, hts, rfl⟩ := C
  obtain ⟨hap, hA, hK⟩ := V
  obtain ⟨hlt, hE, rfl, hAz⟩ := Ev
  have hex : c.exceptionTable.toList = tableOf hh := Tb
  intro H locs ls hI hS hL
  subst has
  obtain ⟨rr, h1, cell, q1, q2, q3, q4⟩ := xP_at hI hY (xR_0 (by decide))
  have hr : rr = (Cn, T, N) := Option.some.inj (h1.symm.trans hci)
  subst hr
  have hfc := (hK.1 ci _ hci).2.1
  refine vx_callv (vx_runV (As := As) (rest := st) (b := G.2.2 f 0) ⟨hx, hb, hml, hown, hts⟩ (hM l hlt) (cwV n hts g hw rfl rfl hd hR) ⟨xpre_blindX, ⟨cell, q1, by rw [q3]; rfl, by rw [q2]; exact hfc⟩, fun U hU hW => ⟨rfl, ⟨by rw [hU]; exact hI, va_K.moved hW.alike hK⟩, hE.go hW hU hS.1 (fun q a1 a2 => hS.2.1 q a1 (fun z => a2 (hAz q z)))⟩⟩ rfl hn (hL.1.trans hml) hst (lv_room hcat) d hkw) hS (fun q _ h => hA q h) hA (fun q _ h => hA q h) (fun E ce q9 u t H1 locs1 ht hvm hpx hBX hz hk hS1 hce hcv hcl => ?_) (fun u t H1 locs1 ht hvm hu => hu.elim)
  obtain ⟨rfl, hP1⟩ := hBX
  rw [ht] at hP1
  refine vx_catch hown pre x suf (hex.trans hsplit) (fun z hz => Or.inr ⟨(hpass z hz).1, xIA, hts _ (hpass z hz).2.1, ?_⟩) hxc h0 (hts _ hlink) (hE.1.use hcast) hce hcv hcl (K q9 H1 locs1 ls hP1 hS1 hL)
  rw [(hpass z hz).2.2]
  exact hE.2.1
end XROOM
