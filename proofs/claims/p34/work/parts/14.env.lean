/-! 14: what a throw needs of the machine; contracts of methods that throw; ends by a throw -/
def xIA : String := "java/lang/IllegalArgumentException"
def xIS : String := "java/lang/IllegalStateException"
def xUp : List String := ["java/lang/RuntimeException", "java/lang/Exception"]
def xBI : List Cond := (vx_atS RX3 217 xIA xUp).filter (fun w => !goodWord w)
def xBS : List Cond := (vx_atS RX3 94 xIS xUp).filter (fun w => !goodWord w)
def xdc : Cond → Bool
  | .declares _ => true
  | .castable _ _ => true
  | _ => false
theorem xBI_dc : xBI.all xdc = true := by decide +kernel
theorem xBS_dc : xBS.all xdc = true := by decide +kernel
def xN (U : State) : Prop := ∀ w ∈ xBI ++ xBS, va_Nw w U
theorem xN.warm {s U : State} (hW : s.WarmedH U.vm) (h : xN s) : xN U := by
  intro w hw
  have hs := h w hw
  have hd : xdc w = true := by
    rcases List.mem_append.mp hw with q | q
    · exact List.all_eq_true.mp xBI_dc w q
    · exact List.all_eq_true.mp xBS_dc w q
  cases w <;> first | exact va_Nw.warmD hW hs | exact va_Nw.warmC hW hs | (simp [xdc] at hd)
theorem xdc_tab {w : Cond} (h : xdc w = true) : w.onTables = true := by cases w <;> first | rfl | (simp [xdc] at h)
theorem xN.use {s : State} {args : Array Value} (h : xN s) {w : Cond} (hw : w ∈ xBI ++ xBS) : w.before args s = true := by
  refine va_Nw.use (xdc_tab ?_) (h w hw)
  rcases List.mem_append.mp hw with q | q
  · exact List.all_eq_true.mp xBI_dc w q
  · exact List.all_eq_true.mp xBS_dc w q
def xEnv (Sa : Nat → Nat) (sz : Nat) (U : State) : Prop := xN U ∧ va_Nc xIS xIA U ∧ (vk_R RX3 215 "an argument is out of range" (Sa 0) U ∧ vk_R RX3 92 "no hand has the gate" (Sa 1) U ∧ vk_R RX3 106 "the member is down" (Sa 2) U ∧ vk_R RX3 108 "the member is up" (Sa 3) U ∧ vk_R RX3 171 "the time would be above 5000" (Sa 4) U) ∧ sz ≤ U.heap.size ∧ vx_Zq Bundle.tN "UNASSIGNED_STACK" Bundle.steD (fun q => sz ≤ q) U U.heap ∧ vx_Zq Bundle.tN "SUPPRESSED_SENTINEL" Bundle.listD (fun q => sz ≤ q) U U.heap
theorem xNc.moved {C T : String} {s U : State} (hvm : s.vm.Alike U.vm) (h : va_Nc C T s) : va_Nc C T U := by
  obtain ⟨c, t, h1, h2, h3⟩ := h
  exact ⟨c, t, by rw [hvm.findClass]; exact h1, by rw [hvm.findClass]; exact h2, by rw [← h3]; exact hvm.assignable _ _⟩
theorem xEnv.go {Sa : Nat → Nat} {sz : Nat} {s U : State} {H : Heap} (h : xEnv Sa sz s) (hW : s.WarmedH U.vm) (hH : U.heap = H) (hz : s.heap.size ≤ H.size) (hk : ∀ q : Nat, q < s.heap.size → ¬ sz ≤ q → H[q]? = s.heap[q]?) : xEnv Sa sz U := by
  subst hH
  obtain ⟨h1, h2, ⟨a0, a1, a2, a3, a4⟩, h3, h4, h5⟩ := h
  exact ⟨h1.warm hW, xNc.moved hW.alike h2, ⟨a0.warm hW, a1.warm hW, a2.warm hW, a3.warm hW, a4.warm hW⟩, Nat.le_trans h3 hz, (h4.moved hW.alike).kept hk, (h5.moved hW.alike).kept hk⟩
theorem xEnv.frame {Sa : Nat → Nat} {sz : Nat} {U : State} {g : JFrame} {mk : MethodId} {a : Array Value} (h : xEnv Sa sz U) : xEnv Sa sz (U.calling g mk a) := by
  obtain ⟨h1, h2, ⟨a0, a1, a2, a3, a4⟩, h3, h4, h5⟩ := h
  exact ⟨fun w hw => va_Nw.same (u := U) (U := U.calling g mk a) (xdc_tab (by
    rcases List.mem_append.mp hw with q | q
    · exact List.all_eq_true.mp xBI_dc w q
    · exact List.all_eq_true.mp xBS_dc w q)) rfl (h1 w hw), xNc.moved (s := U) (U := U.calling g mk a) (Vm.Alike.refl U.vm) h2, ⟨vk_R.same (u := U) (U := U.calling g mk a) rfl a0, vk_R.same (u := U) (U := U.calling g mk a) rfl a1, vk_R.same (u := U) (U := U.calling g mk a) rfl a2, vk_R.same (u := U) (U := U.calling g mk a) rfl a3, vk_R.same (u := U) (U := U.calling g mk a) rfl a4⟩, h3, vx_Zq.moved (u := U) (U := U.calling g mk a) (Vm.Alike.refl U.vm) h4, vx_Zq.moved (u := U) (U := U.calling g mk a) (Vm.Alike.refl U.vm) h5⟩
abbrev xMx (l : Launch) (Y : xY) (G : xG) (Sa : Nat → Nat) (sz : Nat) (y : MethodName) (ws : List Cond) (fr lo : Nat) (as : List Value) (S : xS) (X : String) : Prop := vx_Met l y ws { frames := fr, cells := 1, slots := 6, locals := lo } (va_Pc as (fun U => xPre Y G S U ∧ xEnv Sa sz U)) (va_Qv (fun (_ : Unit) => False) (fun _ _ => True) (xA Y G)) (vx_X (fun (_ : Unit) => True) (fun E _ t => E = X ∧ xP Y G S t.heap) (xA Y G)) 1 6 (xA Y G)
def xZ (F : xF) (Y : xY) (G : xG) (S : xS) (X : String) (Sa : Nat → Nat) (sz : Nat) : Prop := match F with
  | (_, l, _, _, s, _, args, below, meth, c, A, H0, Q) => l.stackTraces = false ∧ xEnv Sa sz s ∧ (∀ x ∈ c.exceptionTable.toList, False) ∧ meth.locks = false ∧ A = xA Y G ∧ H0 = s.heap ∧ Q = vx_MQ below (va_Qv (fun (_ : Unit) => False) (fun _ _ => True) (xA Y G)) (vx_X (fun (_ : Unit) => True) (fun E _ t => E = X ∧ xP Y G S t.heap) (xA Y G)) args s 1 6 (xA Y G) ∧ (∀ a : Nat, xA Y G a → sz ≤ a)
theorem xMx_of {l : Launch} {Y : xY} {G : xG} {Sa : Nat → Nat} {sz : Nat} {y : MethodName} {ws ws' : List Cond} {cc : ByteArray} {maxL : Nat} {ret : Option FieldType} {fr lo : Nat} {as : List Value} {S : xS} {X : String} {own : String} (hlt : l.stackTraces = false) (hsz : ∀ a : Nat, xA Y G a → sz ≤ a) (L : List (Option Value)) (hy : plainName y.cls = true) (ho : y.cls = own) (hw : ws = Cond.code y cc maxL ret :: ws') (hc : ∀ v ∈ as, v.category = 1) (hlen : as.length ≤ maxL) (hL : L = as.map some ++ List.replicate (maxL - as.length) none) (hap : xAp Y G)
    (body : ∀ F, xC F cc maxL own ws { frames := fr, cells := 1, slots := 6, locals := lo } → xV F Y G → xZ F Y G S X Sa sz → xg F 0 0 0 L [] (xP Y G S)) : xMx l Y G Sa sz y ws fr lo as S X := by
  refine vx_ofW (cc := cc) (maxL := maxL) (ret := ret) hy hw ?_
  intro p e s m args below meth c s₁ B hml hex hv
  obtain ⟨rfl, ⟨hP, hK⟩, hE⟩ := hv
  have hts := atoms_spec (ws := ws) B.pre
  have hown : s.vm.findClass own = some m.cls := ho ▸ findClass_of_methodNamed B.named
  have hlocks := B.notSynchronized
  have hb := B.bytes
  have hx := B.exec
  have hl := xL_entry hc hlen hL
  rw [lg_entry_eq]
  exact body (p, l, e, _, s, m, as.toArray, below, meth, c, xA Y G, s.heap, _) ⟨hx, hb, hml, hown, hts, rfl⟩ ⟨hap, fun a h => h, hK⟩ ⟨hlt, hE, hex, hlocks, rfl, rfl, rfl, hsz⟩ s.heap [] _ hP va_S.rf (hml.symm ▸ hl)
section XTHROW
variable {F : xF} {cc : ByteArray} {nL : Nat} {own : String} {Ws : List Cond} {rm : Room} {k w pc : Nat} {L : List (Option Value)} {st st0 : List Value} {Y : xY} {G : xG} {S : xS} {X : String} {Sa : Nat → Nat} {sz : Nat}
theorem xS_weak {A B : Nat → Prop} {H0 H : Heap} {locs : List Loc} (h : va_S A H0 H locs) (hAB : ∀ a, A a → B a) : va_S B H0 H locs := ⟨h.1, fun q h1 h2 => h.2.1 q h1 (fun z => h2 (hAB q z)), fun q hq => hAB _ (h.2.2 q hq)⟩
theorem xX_end {s t : State} {H : Heap} {locs : List Loc} (hI : xP Y G S H) (hS : va_S (xA Y G) s.heap H locs) (hz : H.size ≤ t.heap.size) (hk : ∀ q : Nat, q < H.size → t.heap[q]? = H[q]?) : vx_X (fun (_ : Unit) => True) (fun E _ t => E = X ∧ xP Y G S t.heap) (xA Y G) X s t := by
  refine ⟨(), trivial, ⟨rfl, xP_kept hI fun a ha => hk a (xA_lt hI ha)⟩, Nat.le_trans hS.1 hz, fun q h1 h2 => ?_⟩
  rw [hk q (Nat.lt_of_lt_of_le h1 hS.1)]
  exact hS.2.1 q h1 h2
theorem xg_throwS (C : xC F cc nL own Ws rm) (Z : xZ F Y G S X Sa sz) {ik is ic i : Nat} {text : String} (hcls : Bundle.fit X = true) (hnames : ∀ n ∈ xUp, Bundle.fit n = true) (hk : Cond.classLink own ik X ∈ Ws) (hini : Cond.initialized X ∈ Ws) (hstr : ∀ s, xEnv Sa sz s → vk_R own is text (Sa i) s) (hgw : ∀ w ∈ (vx_atS own ic X xUp).filter goodWord, w ∈ Ws) (hbw : ∀ w ∈ (vx_atS own ic X xUp).filter (fun w => !goodWord w), w ∈ xBI ++ xBS)
    (hgood : (Cond.classLink own ik X :: Cond.initialized X :: vx_atS own ic X xUp).all vx_ot = true) (hfr : 5 < rm.frames) (hlo : (st.map fun v => v.category).sum + 82 ≤ rm.locals) (hrm : 1 ≤ rm.cells ∧ 6 ≤ rm.slots) (d0 : decode cc pc = .ok (.new ik, 3)) (d3 : decode cc (pc + 3) = .ok (.dup, 1)) (d4 : decode cc (pc + 4) = .ok (.ldc is, 2)) (d6 : decode cc (pc + 6) = .ok (.invokespecial ic, 3)) (d9 : decode cc (pc + 9) = .ok (.athrow, 1)) : xg F 0 0 pc L st (xP Y G S) := by
  obtain ⟨p, l, e, R, s, m, args, below, meth, c, A, H0, Q⟩ := F
  obtain ⟨hx, hb, hml, hown, hts, rfl⟩ := C
  obtain ⟨hlt, hE, hex, hlocks, rfl, rfl, rfl, hsz⟩ := Z
  intro H locs ls hI hS hL
  obtain ⟨hn, -, -, -, hU, hNl⟩ := id hE
  refine vx_throwS (names := xUp) (A := fun q => sz ≤ q) hx hb hlt hown hcls hnames (hts _ hk) (hts _ hini) (hstr s hE) (fun w hw => ?_) (fun w hw => List.all_eq_true.mp hgood w hw) hU hNl (xS_weak hS hsz) hL.1 d0 d3 d4 d6 d9 (fun x hx => (hex x hx).elim) hfr hlo (by omega) (by omega) hlocks (fun t ht hz hk => xX_end hI hS hz hk) hS.2.2 (by omega) (by omega)
  by_cases hg : goodWord w = true
  · exact hts _ (hgw w (List.mem_filter.mpr ⟨hw, hg⟩))
  · exact hn.use (hbw w (List.mem_filter.mpr ⟨hw, by simpa using hg⟩))
theorem xpre_blindX {as : List Value} : FrameBlind (va_Pc as (fun U => xPre Y G S U ∧ xEnv Sa sz U)) := fun a U g mk q => ⟨q.1, ⟨q.2.1.1, va_K.moved (u := U) (U := U.calling g mk a) (Vm.Alike.refl U.vm) q.2.1.2⟩, q.2.2.frame⟩
theorem xg_callSx (C : xC F cc nL own Ws rm) (V : xV F Y G) (Z : xZ F Y G S X Sa sz) {y : MethodName} {ws ws' : List Cond} {bytes : ByteArray} {maxL idx n fr lo : Nat} {ret : Option FieldType} {as : List Value} (hM : ∀ l : Launch, l.stackTraces = false → xMx l Y G Sa sz y ws fr lo as S X) (g : GoodIn Ws (va_wsS own idx y ws)) (hw : ws = Cond.code y bytes maxL ret :: ws')
    (hd : y.cls ≠ "java/lang/invoke/MethodHandle" ∧ y.cls ≠ "java/lang/invoke/VarHandle" ∧ (parseMethodDescriptor y.desc).map (fun d => d.parameters.length) = some n) (hR : fr + 1 ≤ rm.frames ∧ 8 + (maxL + 11) + lo ≤ rm.locals) (hn : as.length = n) (hst : st0 = as.reverse ++ st) (hcat : (st.map fun v => v.category).sum ≤ 8) (hrm : rm.cells = 1 ∧ rm.slots = 6) (d : decode cc pc = .ok (.invokestatic idx, 3)) : xg F 0 0 pc L st0 (xP Y G S) := by
  obtain ⟨p, l, e, R, s, m, args, below, meth, c, A, H0, Q⟩ := F
  obtain ⟨hx, hb, hml, hown, hts, rfl⟩ := C
  obtain ⟨hap, hA, hK⟩ := V
  obtain ⟨hlt, hE, hex, hlocks, rfl, rfl, rfl, hsz⟩ := Z
  intro H locs ls hI hS hL
  refine vx_callv (vx_runS (As := as) (rest := st) ⟨hx, hb, hml, hown, hts⟩ (hM l hlt) (va_cwS n hts g hw rfl rfl hd hR) ⟨xpre_blindX, fun U hU hW => ⟨rfl, ⟨by rw [hU]; exact hI, va_K.moved hW.alike hK⟩, hE.go hW hU hS.1 (fun q h1 h2 => hS.2.1 q h1 (fun z => h2 (hsz q z)))⟩⟩ rfl hn (hL.1.trans hml) hst (lv_room hcat) d ⟨by omega, by omega⟩) hS (fun q _ h => h) (fun q h => h) (fun q _ h => h) (fun E ce q9 u t H1 locs1 ht hvm hpx hBX hz hk hS1 hce hcv hcl => ?_) (fun u t H1 locs1 ht hvm hu => hu.elim)
  obtain ⟨rfl, hP1⟩ := hBX
  rw [ht] at hP1
  refine vx_out (fun x hx => (hex x hx).elim) hlocks hce hcv hcl (fun t2 ht2 hvm2 => ?_) hS1.2.2 (by omega) (by omega)
  exact xX_end hP1 hS1 (by rw [ht2]; exact Nat.le_refl _) (fun q _ => by rw [ht2])
end XTHROW
