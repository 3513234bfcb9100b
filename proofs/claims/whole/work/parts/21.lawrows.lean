/-! 21: the law's rows -/
theorem nI_ofNat (n : Nat) : Int32.ofNat n = nI n := rfl
theorem lg_cmp_self (x : Int64) : lg_cmp x x = 0 := by simp [lg_cmp]
/-- the law's own: no traces, the machine, the script -/
def xE3 (F : xF) (Sa : Nat → Nat) (sz b N : Nat) (xs : Nat → Int32) : Prop := match F with
  | (_, l, _, _, s, _, _, _, _, _, A, H0, _) => l.stackTraces = false ∧ xEnv Sa sz s ∧ H0 = s.heap ∧ sz = s.heap.size ∧ A = (fun q => sz ≤ q) ∧ va_X b N xs s s.heap ∧ b < s.heap.size
def xKeep (I : Heap → Prop) : Prop := ∀ H H1 : Heap, I H → H.size ≤ H1.size → (∀ q : Nat, q < H.size → H1[q]? = H[q]?) → I H1
def xStW (G : xG) (ao : Nat) (J : Heap → Prop) : Prop := ∀ H H1 : Heap, H.size ≤ H1.size → (∀ q : Nat, q < H.size → ¬ xAo G ao q → H1[q]? = H[q]?) → J H → J H1
section XLAW
variable {F : xF} {cc : ByteArray} {nL : Nat} {own : String} {Ws : List Cond} {rm : Room} {k w pc : Nat} {L : List (Option Value)} {st st0 : List Value} {I J : Heap → Prop} {Sa : Nat → Nat} {sz b N : Nat} {xs : Nat → Int32}
theorem xg_scr (C : xC F cc nL own Ws rm) (E3 : xE3 F Sa sz b N xs) {j : Nat} {x : Int32} (hN : N ≤ 3072) (hj : j < N) (hx : x = nI j) (d : decode cc pc = .ok (.iaload, 1)) (K : xg F k w (pc + 1) L (.int (xs j) :: st) I) : xg F k w pc L (.int x :: .ref b :: st) I := by
  obtain ⟨p, l, e, R, s, m, args, below, meth, c, A, H0, Q⟩ := F
  obtain ⟨hx1, hb, -⟩ := C
  obtain ⟨-, -, rfl, rfl, rfl, hX, hbl⟩ := E3
  subst hx
  intro H locs ls hI hS hL
  have hc : (nI j).toNatClampNeg = j := nI_clamp (by omega)
  refine va_sld hx1 hb hX hbl (by show ¬ s.heap.size ≤ b; omega) hS (vp_in_nI hj (by omega)) d ?_
  rw [hc]
  exact K H locs ls hI hS hL
theorem xg_slen (C : xC F cc nL own Ws rm) (E3 : xE3 F Sa sz b N xs) (d : decode cc pc = .ok (.arraylength, 1)) (K : xg F k w (pc + 1) L (.int (nI N) :: st) I) : xg F k w pc L (.ref b :: st) I := by
  obtain ⟨p, l, e, R, s, m, args, below, meth, c, A, H0, Q⟩ := F
  obtain ⟨hx1, hb, -⟩ := C
  obtain ⟨-, -, rfl, rfl, rfl, hX, hbl⟩ := E3
  intro H locs ls hI hS hL
  exact va_slen hx1 hb hX hbl (by show ¬ s.heap.size ≤ b; omega) hS d (K H locs ls hI hS hL)
theorem xg_lcmp (C : xC F cc nL own Ws rm) {x y : Int64} (d : decode cc pc = .ok (.lcmp, 1)) (K : xg F k w (pc + 1) L (.int (lg_cmp x y) :: st) I) : xg F k w pc L (.long y :: .long x :: st) I := by
  obtain ⟨p, l, e, R, s, m, args, below, meth, c, A, H0, Q⟩ := F
  obtain ⟨hx, hb, -⟩ := C
  exact fun H locs ls hI hS hL => W.lcmp hx hb d (K H locs ls hI hS hL)
theorem xg_lald (C : xC F cc nL own Ws rm) {cJ : ClassId} {ao : Nat} {o : Int64} (L2 : xL2 F cJ ao) (hI : ∀ H, I H → xO cJ ao o H) (d : decode cc pc = .ok (.laload, 1)) (K : xg F k w (pc + 1) L (.long o :: st) I) : xg F k w pc L (.int (0 : Int32) :: .ref ao :: st) I := by
  obtain ⟨p, l, e, R, s, m, args, below, meth, c, A, H0, Q⟩ := F
  obtain ⟨hx, hb, -⟩ := C
  obtain ⟨hAr, hA⟩ := L2
  intro H locs ls h hS hL
  exact W.lald (v := .long o) hx hb (hI H h) (hAr _ _) (fun q => by cases q) (by rw [arrV_size]; exact (vp_in_iff (x := (0 : Int32)) (n := 1)).mpr ⟨by decide, by decide⟩) (by rw [arrV_read _ _ (by decide)]) rfl rfl d (K H locs ls h hS hL)
theorem xg_tabIn (C : xC F cc nL own Ws rm) {dflt lo hi : Int} {offs : Array Int} {len : Nat} {x : Int32} {off : Int} (tgt : Nat) (d : decode cc pc = .ok (.tableswitch dflt lo hi offs, len)) (h1 : ¬ x.toInt < lo) (h2 : ¬ hi < x.toInt) (ho : offs[(x.toInt - lo).toNat]? = some off) (ht : (pc : Int) + off = (tgt : Int)) (K : xg F k w tgt L st I) : xg F k w pc L (.int x :: st) I := by
  obtain ⟨p, l, e, R, s, m, args, below, meth, c, A, H0, Q⟩ := F
  obtain ⟨hx, hb, -⟩ := C
  exact fun H locs ls hI hS hL => lv_tableIn hx hb d h1 h2 ho ht (K H locs ls hI hS hL)
theorem xg_tabOut (C : xC F cc nL own Ws rm) {dflt lo hi : Int} {offs : Array Int} {len : Nat} {x : Int32} (tgt : Nat) (d : decode cc pc = .ok (.tableswitch dflt lo hi offs, len)) (h : x.toInt < lo ∨ hi < x.toInt) (ht : (pc : Int) + dflt = (tgt : Int)) (K : xg F k w tgt L st I) : xg F k w pc L (.int x :: st) I := by
  obtain ⟨p, l, e, R, s, m, args, below, meth, c, A, H0, Q⟩ := F
  obtain ⟨hx, hb, -⟩ := C
  exact fun H locs ls hI hS hL => lv_tableOut hx hb d h ht (K H locs ls hI hS hL)
/-- a new object at the heap's end -/
theorem xg_newL (C : xC F cc nL own Ws rm) {D : va_G} {T0 : List (ClassId × FieldType)} (hK : va_K D vwCl T0 (xst_of F)) {Cn : String} {T : u_T} {M ci index : Nat} {ty : Nat → FieldType} {fs : List Value} (hin : ∀ w ∈ u_ws Cn T M, w ∈ Ws) (hty : ∀ k, k < M → parseFieldDescriptor (T k).2.2.1 = some (ty k)) (hcl : Cond.classLink own index Cn ∈ Ws) (hinst : Cond.instantiable Cn M ∈ Ws) (hini : Cond.initialized Cn ∈ Ws) (hc : vwCl[ci]? = some (Cn, T, M)) (hfs : ∀ j, j < M → defaultValue (ty j) = vp_V fs j) (hk : k + 1 ≤ rm.cells) (hw : w + M ≤ rm.slots) (d : decode cc pc = .ok (.new index, 3)) (hst : xKeep I)
    (K : ∀ h1 : Nat, (∃ H : Heap, I H ∧ H.size = h1 ∧ (∀ q : Nat, (q < h1 ↔ q < H.size))) → xg F (k + 1) (w + M) (pc + 3) L (.ref h1 :: st) (fun H => I H ∧ xK D h1 (ci, fs) (h1 + 1) [] H)) : xg F k w pc L st I := by
  obtain ⟨p, l, e, R, s, m, args, below, meth, c, A, H0, Q⟩ := F
  obtain ⟨hx, hb, hml, hown, hts, rfl⟩ := C
  intro H locs ls hI hS hL
  have hKn := hK.1 ci _ hc
  refine W.newcK hx hb hown (hts _ hcl) (hts _ hinst) (hts _ hini) rfl d hk hw hKn.2.1 rfl fun H1 kC hkC e1 z1 o1 => ?_
  refine K H.size ⟨H, hI, rfl, fun q => Iff.rfl⟩ H1 locs ls ⟨hst H H1 hI (by omega) o1, ⟨_, hc, (u_born ty hts hin hKn hkC e1 hty).to hfs⟩, Nat.lt_succ_self _, z1, fun k e h => by simp at h⟩ (xS_new hS (by omega) o1) hL
theorem xkP_blind {G : xG} {B : State → Prop} {h1 n1 : Nat} {o1 : Nat × List Value} (hB : ∀ (U : State) (g : JFrame) (mk : MethodId) (a : Array Value), B U → B (U.calling g mk a)) : FrameBlind (va_Pc [.ref h1] (fun U => (xK G.1 h1 o1 n1 [] U.heap ∧ va_K G.1 vwCl (xT G) U ∧ va_AOA .int U) ∧ B U)) := fun a U g mk q => ⟨q.1, ⟨q.2.1.1, va_K.moved (u := U) (U := U.calling g mk a) (Vm.Alike.refl U.vm) q.2.1.2.1, xAOA_moved (s := U) (U := U.calling g mk a) (Vm.Alike.refl U.vm) q.2.1.2.2⟩, hB U g mk a q.2.2⟩
theorem xg_ctorL {h1 : Nat} (C : xC F cc nL own Ws rm) {G : xG} {B : State → Prop} (hK : va_K G.1 vwCl (xT G) (xst_of F)) (hAO : va_AOA .int (xst_of F)) (hA : ∃ sz, (∀ q, sz ≤ q → F.2.2.2.2.2.2.2.2.2.2.1 q) ∧ sz ≤ h1) (hBb : ∀ (U : State) (g : JFrame) (mk : MethodId) (a : Array Value), B U → B (U.calling g mk a)) (hBm : ∀ U : State, (xst_of F).WarmedH U.vm → B U) {I' : Heap → Prop} {y : MethodName} {ws ws' : List Cond} {bytes : ByteArray} {maxL idx fr mc ms lo : Nat} {o1 : Nat × List Value} (hM : ∀ l, xMkP l G B y ws fr mc ms lo h1 o1 (h1 + 1) I') (g : GoodIn Ws ws) (hw : ws = Cond.code y bytes maxL none :: ws') (hini : Cond.initialized y.cls ∈ Ws) (hlk : Cond.methodLink own idx y ∈ Ws) (him : Cond.instanceMethod y ∈ Ws) (hy1 : y.name = "<init>")
    (hd : y.cls ≠ "java/lang/invoke/MethodHandle" ∧ y.cls ≠ "java/lang/invoke/VarHandle" ∧ (parseMethodDescriptor y.desc).map (fun d => d.parameters.length) = some 0) (hR : fr + 1 ≤ rm.frames ∧ 8 + (maxL + 11) + lo ≤ rm.locals) (hI : ∀ H H1 : Heap, I H → H.size = h1 + 1 → H.size ≤ H1.size → (∀ q : Nat, q < h1 → H1[q]? = H[q]?) → I H1) (hcat : (st.map fun v => v.category).sum ≤ 8) (hk : k + mc ≤ rm.cells ∧ w + ms ≤ rm.slots) (d : decode cc pc = .ok (.invokespecial idx, 3))
    (K : xg F (k + mc) (w + ms) (pc + 3) L st (fun H => I H ∧ I' H)) : xg F k w pc L (.ref h1 :: st) (fun H => I H ∧ xK G.1 h1 o1 (h1 + 1) [] H) := by
  obtain ⟨p, l, e, R, s, m, args, below, meth, c, A, H0, Q⟩ := F
  obtain ⟨hx, hb, hml, hown, hts, rfl⟩ := C
  obtain ⟨sz, hA1, hA2⟩ := hA
  intro H locs ls hI0 hS hL
  obtain ⟨hi, hx1⟩ := hI0
  have hz : H.size = h1 + 1 := hx1.2.2.1
  have hAf : ∀ q : Nat, (q = h1 ∨ h1 + 1 ≤ q) → A q := fun q h => hA1 q (by rcases h with h | h <;> omega)
  refine va_callv (va_runI (As := []) (rest := st) (b := h1) ⟨hx, hb, hml, hown, hts⟩ (hM l) (cwI 0 hts g hw rfl rfl (hts _ hini) (hts _ hlk) (hts _ him) hy1 hd hR) ⟨xkP_blind hBb, fun U hU hW => ⟨rfl, ⟨by rw [hU]; exact hx1, va_K.moved hW.alike hK, xAOA_moved hW.alike hAO⟩, hBm U hW⟩⟩ rfl rfl (hL.1.trans hml) rfl (lv_room hcat) d hk) hS (fun q _ h => hAf q h) hAf (fun u t H1 locs1 ht hvm hr2 hB hz1 hk1 hS1 => ?_)
  rw [ht] at hB
  exact K H1 locs1 ls ⟨hI H H1 hi hz hz1 (fun q hq => hk1 q (by omega) (by omega)), hB⟩ hS1 hL
theorem xg_newJ (C : xC F cc nL own Ws rm) (harr : Cond.arrayClass .long ∈ Ws) (hk : k + 1 ≤ rm.cells) (hw : w + 1 ≤ rm.slots) (d : decode cc pc = .ok (.newarray .long, 2)) (hst : xKeep I)
    (K : ∀ (cJ : ClassId) (ao : Nat), ArrOfT (xst_of F) cJ .long → (∃ H : Heap, I H ∧ H.size = ao) → xg F (k + 1) (w + 1) (pc + 2) L (.ref ao :: st) (fun H => I H ∧ xO cJ ao 0 H)) : xg F k w pc L (.int (1 : Int32) :: st) I := by
  obtain ⟨p, l, e, R, s, m, args, below, meth, c, A, H0, Q⟩ := F
  obtain ⟨hx, hb, hml, hown, hts, rfl⟩ := C
  intro H locs ls hI hS hL
  refine va_newaK (atype := .long) (h := H.size) (N := 1) hx hb (hts _ harr) rfl d rfl (by decide) (by decide) (by decide) hk hw rfl fun H1 cJ e1 z1 o1 hAr hNm => ?_
  exact K cJ H.size hAr ⟨H, hI, rfl⟩ H1 locs ls ⟨hst H H1 hI (by omega) o1, e1⟩ (xS_new hS (by omega) o1) hL
/-- a wrapper's call -/
theorem xw_blind {G : xG} {cJ : ClassId} {ao : Nat} {S : xS} {o : Int64} {as : List Value} : FrameBlind (va_Pc as (fun U => (xPo G cJ ao S o U.heap ∧ va_K G.1 vwCl (xT G) U ∧ ArrOfT U cJ .long) ∧ xEnv Sa sz U)) := fun a U g mk q => ⟨q.1, ⟨q.2.1.1, va_K.moved (u := U) (U := U.calling g mk a) (Vm.Alike.refl U.vm) q.2.1.2.1, arrOfT_moved (E := U.calling g mk a) (Vm.Alike.refl U.vm) q.2.1.2.2⟩, q.2.2.frame⟩
theorem xg_callW (C : xC F cc nL own Ws rm) {G : xG} (V : xV F xYc G) (E3 : xE3 F Sa sz b N xs) {cJ : ClassId} {ao : Nat} (L2 : xL2 F cJ ao) (hJ : xStW G ao J) {S S' : xS} {o o' : Int64} {y : MethodName} {ws ws' : List Cond} {bytes : ByteArray} {maxL idx n fr lo : Nat} {hh : List (Nat × Nat × Nat × Nat)} {as : List Value} {r : Int32} (hM : ∀ l : Launch, l.stackTraces = false → xMw l G Sa sz cJ ao y ws fr lo as S S' o o' r) (g : GoodIn Ws (va_wsS own idx y ws)) (hw : ws = Cond.codeWith y bytes maxL (some .int) hh :: ws')
    (hd : y.cls ≠ "java/lang/invoke/MethodHandle" ∧ y.cls ≠ "java/lang/invoke/VarHandle" ∧ (parseMethodDescriptor y.desc).map (fun d => d.parameters.length) = some n) (hR : fr + 1 ≤ rm.frames ∧ 8 + (maxL + 11) + lo ≤ rm.locals) (hn : as.length = n) (hst : st0 = as.reverse ++ st) (hcat : (st.map fun v => v.category).sum ≤ 8) (hkw : k + 1 ≤ rm.cells ∧ w + 6 ≤ rm.slots) (d : decode cc pc = .ok (.invokestatic idx, 3))
    (K : xg F (k + 1) (w + 6) (pc + 3) L (.int r :: st) (fun H => xPo G cJ ao S' o' H ∧ J H)) : xg F k w pc L st0 (fun H => xPo G cJ ao S o H ∧ J H) := by
  obtain ⟨p, l, e, R, s, m, args, below, meth, c, A, H0, Q⟩ := F
  obtain ⟨hx, hb, hml, hown, hts, rfl⟩ := C
  obtain ⟨hap, hA, hK⟩ := V
  obtain ⟨hlt, hE, rfl, hsz, rfl, hX, hbl⟩ := E3
  obtain ⟨hAr, hAo⟩ := L2
  have hAf : ∀ q : Nat, xAo G ao q → sz ≤ q := fun q h => by
    rcases h with h | h
    · exact hA q h
    · rw [h]; exact hAo
  intro H locs ls hI0 hS hL
  obtain ⟨hI, hj⟩ := hI0
  refine va_calli (vx_runSW (As := as) (rest := st) ⟨hx, hb, hml, hown, hts⟩ (hM l hlt) (vx_cwSW n hts g hw rfl rfl hd hR) ⟨xw_blind, fun U hU hW => ⟨rfl, ⟨by rw [hU]; exact hI, va_K.moved hW.alike hK, arrOfT_moved hW.alike hAr⟩, hE.go hW hU hS.1 (fun q a1 a2 => hS.2.1 q a1 a2)⟩⟩ rfl hn (hL.1.trans hml) hst (lv_room hcat) d hkw) hS (fun q _ h => hAf q h) hAf (fun r2 u t H1 locs1 ht hvm hr2 hB hz1 hk1 hS1 => ?_)
  subst hr2
  rw [ht] at hB
  exact K H1 locs1 ls ⟨hB, hJ H H1 hz1 hk1 hj⟩ hS1 hL
end XLAW
