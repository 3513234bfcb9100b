/-! 21: the law's own rows -/
/-- the law's own: no traces, the machine, the script -/
def xE3 (F : xF) (Sa : Nat → Nat) (sz b N : Nat) (xs : Nat → Int32) : Prop := match F with
  | (_, l, _, _, s, _, _, _, _, _, A, H0, _) => l.stackTraces = false ∧ xEnv Sa sz s ∧ H0 = s.heap ∧ sz = s.heap.size ∧ A = (fun q => sz ≤ q) ∧ va_X b N xs s s.heap ∧ b < s.heap.size
theorem xEv_3 {F : xF} {Sa : Nat → Nat} {sz b N : Nat} {xs : Nat → Int32} (h : xE3 F Sa sz b N xs) : xEv F Sa sz := by
  obtain ⟨p, l, e, R, s, m, args, below, meth, c, A, H0, Q⟩ := F
  obtain ⟨h1, h2, h3, h4, h5, -⟩ := h
  exact ⟨h1, h2, h3, fun a ha => by rw [h5] at ha; exact ha⟩
def xKeep (I : Heap → Prop) : Prop := ∀ H H1 : Heap, I H → H.size ≤ H1.size → (∀ q : Nat, q < H.size → H1[q]? = H[q]?) → I H1
/-- a script that a method reads and doesn't change -/
def xXs (F : xF) (b N : Nat) (xs : Nat → Int32) : Prop := match F with
  | (_, _, _, _, s, _, _, _, _, _, A, H0, _) => va_X b N xs s H0 ∧ b < H0.size ∧ ¬ A b
section XLAW
variable {F : xF} {cc : ByteArray} {nL : Nat} {own : String} {Ws : List Cond} {rm : Room} {k w pc : Nat} {L : List (Option Value)} {st st0 : List Value} {I J : Heap → Prop} {Sa : Nat → Nat} {sz b N : Nat} {xs : Nat → Int32}
theorem xg_scr (C : xC F cc nL own Ws rm) (E : xXs F b N xs) {j : Nat} {x : Int32} (hN : N ≤ 3072) (hj : j < N) (hx : x = nI j) (d : decode cc pc = .ok (.iaload, 1)) (K : xg F k w (pc + 1) L (.int (xs j) :: st) I) : xg F k w pc L (.int x :: .ref b :: st) I := by
  obtain ⟨p, l, e, R, s, m, args, below, meth, c, A, H0, Q⟩ := F
  obtain ⟨hx1, hb, -⟩ := C
  obtain ⟨hX, hbl, hbA⟩ := E
  subst hx
  intro H locs ls hI hS hL
  have hc : (nI j).toNatClampNeg = j := nI_clamp (by omega)
  refine va_sld hx1 hb hX hbl hbA hS (vp_in_nI hj (by omega)) d ?_
  rw [hc]
  exact K H locs ls hI hS hL
theorem xg_slen (C : xC F cc nL own Ws rm) (E : xXs F b N xs) (d : decode cc pc = .ok (.arraylength, 1)) (K : xg F k w (pc + 1) L (.int (nI N) :: st) I) : xg F k w pc L (.ref b :: st) I := by
  obtain ⟨p, l, e, R, s, m, args, below, meth, c, A, H0, Q⟩ := F
  obtain ⟨hx1, hb, -⟩ := C
  obtain ⟨hX, hbl, hbA⟩ := E
  intro H locs ls hI hS hL
  exact va_slen hx1 hb hX hbl hbA hS d (K H locs ls hI hS hL)
/-- a new object at the heap's end -/
theorem xg_newL (C : xC F cc nL own Ws rm) {D : va_G} {T0 : List (ClassId × FieldType)} (hK : va_K D vwCl T0 (xst_of F)) {Cn : String} {T : u_T} {M ci index : Nat} {ty : Nat → FieldType} {fs : List Value} (hin : ∀ w ∈ u_ws Cn T M, w ∈ Ws) (hty : ∀ k, k < M → parseFieldDescriptor (T k).2.2.1 = some (ty k)) (hcl : Cond.classLink own index Cn ∈ Ws) (hinst : Cond.instantiable Cn M ∈ Ws) (hini : Cond.initialized Cn ∈ Ws) (hc : vwCl[ci]? = some (Cn, T, M)) (hfs : ∀ j, j < M → defaultValue (ty j) = vp_V fs j) (hk : k + 1 ≤ rm.cells) (hw : w + M ≤ rm.slots) (d : decode cc pc = .ok (.new index, 3)) (hst : xKeep I)
    (K : ∀ h1 : Nat, (∃ H : Heap, I H ∧ H.size = h1 ∧ (∀ q : Nat, (q < h1 ↔ q < H.size))) → xg F (k + 1) (w + M) (pc + 3) L (.ref h1 :: st) (fun H => I H ∧ xK D h1 (ci, fs) (h1 + 1) [] H)) : xg F k w pc L st I := by
  obtain ⟨p, l, e, R, s, m, args, below, meth, c, A, H0, Q⟩ := F
  obtain ⟨hx, hb, hml, hown, hts, rfl⟩ := C
  intro H locs ls hI hS hL
  have hKn := hK.1 ci _ hc
  refine W.newcK hx hb hown (hts _ hcl) (hts _ hinst) (hts _ hini) rfl d hk hw hKn.2.1 rfl fun H1 kC hkC e1 z1 o1 => ?_
  refine K H.size ⟨H, hI, rfl, fun q => Iff.rfl⟩ H1 locs ls ⟨hst H H1 hI (by omega) o1, ⟨_, hc, (u_born ty hts hin hKn hkC e1 hty).to hfs⟩, Nat.lt_succ_self _, z1, fun k e h => by simp at h⟩ (xS_new hS (by omega) o1) hL
theorem xkP_blind {G : xG} {B : State → Prop} {h1 n1 : Nat} {o1 : Nat × List Value} (hB : ∀ (U : State) (g : JFrame) (mk : MethodId) (a : Array Value), B U → B (U.calling g mk a)) : FrameBlind (va_Pc [.ref h1] (fun U => (xK G.1 h1 o1 n1 [] U.heap ∧ va_K G.1 vwCl (xT G) U ∧ va_AOA .int U) ∧ B U)) := fun a U g mk q => ⟨q.1, ⟨q.2.1.1, va_K.moved (u := U) (U := U.calling g mk a) (Vm.Alike.refl U.vm) q.2.1.2.1, xAOA_moved (s := U) (U := U.calling g mk a) (Vm.Alike.refl U.vm) q.2.1.2.2⟩, hB U g mk a q.2.2⟩
theorem xg_ctorL {h1 : Nat} (C : xC F cc nL own Ws rm) {G : xG} {B : State → Prop} (hK : va_K G.1 vwCl (xT G) (xst_of F)) (hAO : va_AOA .int (xst_of F)) (hA : ∃ sz, (∀ q, sz ≤ q → F.2.2.2.2.2.2.2.2.2.2.1 q) ∧ sz ≤ h1) (hBb : ∀ (U : State) (g : JFrame) (mk : MethodId) (a : Array Value), B U → B (U.calling g mk a)) (hBm : ∀ U : State, (xst_of F).WarmedH U.vm → B U) {I' : Heap → Prop} {y : MethodName} {ws ws' : List Cond} {bytes : ByteArray} {maxL idx fr mc ms lo : Nat} {o1 : Nat × List Value} (hM : ∀ l, xMkP l G B y ws fr mc ms lo h1 o1 (h1 + 1) I') (g : GoodIn Ws ws) (hw : ws = Cond.code y bytes maxL none :: ws') (hini : Cond.initialized y.cls ∈ Ws) (hlk : Cond.methodLink own idx y ∈ Ws) (him : Cond.instanceMethod y ∈ Ws) (hy1 : y.name = "<init>")
    (hd : y.cls ≠ "java/lang/invoke/MethodHandle" ∧ y.cls ≠ "java/lang/invoke/VarHandle" ∧ (parseMethodDescriptor y.desc).map (fun d => d.parameters.length) = some 0) (hR : fr + 1 ≤ rm.frames ∧ 8 + (maxL + 11) + lo ≤ rm.locals) (hI : ∀ H H1 : Heap, I H → H.size = h1 + 1 → H.size ≤ H1.size → (∀ q : Nat, q < h1 → H1[q]? = H[q]?) → I H1) (hcat : (st.map fun v => v.category).sum ≤ 8) (hk : k + mc ≤ rm.cells ∧ w + ms ≤ rm.slots) (d : decode cc pc = .ok (.invokespecial idx, 3))
    (K : xg F (k + mc) (w + ms) (pc + 3) L st (fun H => I H ∧ I' H)) : xg F k w pc L (.ref h1 :: st) (fun H => I H ∧ xK G.1 h1 o1 (h1 + 1) [] H) := by
  obtain ⟨p, l, e, R, s, m, args, below, meth, c, A, H0, Q⟩ := F
  obtain ⟨hx, hb, hml, hown, hts, rfl⟩ := C
  obtain ⟨sz, hA1, hA2⟩ := hA
  intro H locs ls hI0 hS hL
  obtain ⟨hi, hx1⟩ := hI0
  have hz : H.size = h1 + 1 := hx1.2.2.1
  have hAf : ∀ q : Nat, (q = h1 ∨ h1 + 1 ≤ q) → A q := fun q h => hA1 q (by rcases h with h | h <;> omega)
  refine va_callv (va_runI (As := []) (rest := st) (b := h1) ⟨hx, hb, hml, hown, hts⟩ (hM l) (cwI 0 hts g hw rfl rfl (hts _ hini) (hts _ hlk) (hts _ him) hy1 hd hR) ⟨xkP_blind hBb, fun U hU hW => ⟨rfl, ⟨by rw [hU]; exact hx1, va_K.moved hW.alike hK, xAOA_moved hW.alike hAO⟩, hBm U hW⟩⟩ rfl rfl (hL.1.trans hml) rfl (lv_room hcat) d hk) hS (fun q _ h => hAf q h) hAf (fun u t H1 locs1 ht hvm hr2 hB hz1 hk1 hS1 => ?_)
  rw [ht] at hB
  exact K H1 locs1 ls ⟨hI H H1 hi hz hz1 (fun q hq => hk1 q (by omega) (by omega)), hB⟩ hS1 hL
/-- a new array of ints behind what was made before -/
theorem xg_newA (C : xC F cc nL own Ws rm) {G : xG} (hK : va_K G.1 vwCl (xT G) (xst_of F)) (harr : Cond.arrayClass .int ∈ Ws) {h0 n0 M j : Nat} {o : Nat × List Value} {es es' : List va_E} {n : Int32} (hn : vp_in n (M + 1)) (hN : n = nI M) (hM : M < 1000) (hj : es.length = j) (hes : es ++ [.inl (G.2.1.1, M, .inl (fun _ => 0))] = es') (hk : k + 1 ≤ rm.cells) (hw : w + M ≤ rm.slots) (d : decode cc pc = .ok (.newarray .int, 2))
    (K : xg F (k + 1) (w + M) (pc + 2) L (.ref (n0 + j) :: st) (xK G.1 h0 o n0 es')) : xg F k w pc L (.int n :: st) (xK G.1 h0 o n0 es) := by
  obtain ⟨p, l, e, R, s, m, args, below, meth, c, A, H0, Q⟩ := F
  obtain ⟨hx, hb, hml, hown, hts, rfl⟩ := C
  subst hj
  subst hes
  intro H locs ls hI hS hL
  refine va_newaK (atype := .int) (h := n0 + es.length) hx hb (hts _ harr) rfl d rfl (fun z => hn (Or.inl z)) (by rw [hN]; exact nI_clamp (by omega)) (by show M * 4 ≤ 536870912; omega) hk hw hI.2.2.1 fun H1 cA2 e1 z1 o1 hAr hNm => ?_
  have hc : cA2 = G.2.1.1 := Option.some.inj (hNm.symm.trans (hK.2 0 _ rfl).2)
  subst hc
  refine K H1 locs ls (xK_app hI (by rw [z1, hI.2.2.1]; rfl) (fun q hq => o1 q (by rw [← hI.2.2.1]; exact hq)) (fun k' e' hk' => ?_)) (xS_new hS (by rw [z1, hI.2.2.1]; omega) (fun q hq => o1 q (by rw [← hI.2.2.1]; exact hq))) hL
  have hz : k' < 1 := (List.getElem?_eq_some_iff.mp hk').1
  rw [show k' = 0 by omega] at hk' ⊢
  cases hk'
  show H1[H.size + 0]? = some (arrV G.2.1.1 M (fun _ => .int 0))
  rw [Nat.add_zero, hI.2.2.1, e1]
  rfl
/-- the dice: some number that isn't negative -/
abbrev xMd (l : Launch) (b N : Nat) (xs : Nat → Int32) (y : MethodName) (ws : List Cond) (fr lo : Nat) (a1 : Int32) : Prop := Met l y ws { frames := fr, cells := 0, slots := 0, locals := lo } (va_Pc [.ref b, .int a1] (fun U => va_X b N xs U U.heap ∧ b < U.heap.size)) (va_Qi (fun (r' : Int32) (_ : Unit) => ∃ X : Nat, X < 2147483648 ∧ r' = nI X) (fun _ _ => True) (fun _ => False)) 0 0 (fun _ => False)
theorem xd_blind {as : List Value} : FrameBlind (va_Pc as (fun U => va_X b N xs U U.heap ∧ b < U.heap.size)) := fun a U g mk q => ⟨q.1, va_X.moved (u := U) (U := U.calling g mk a) (Vm.Alike.refl U.vm) q.2.1, q.2.2⟩
theorem xg_callD (C : xC F cc nL own Ws rm) (E3 : xE3 F Sa sz b N xs) {a1 : Int32} {y : MethodName} {ws ws' : List Cond} {bytes : ByteArray} {maxL idx fr lo : Nat} {ret : Option FieldType} (hI : xKeep I) (hM : ∀ l, xMd l b N xs y ws fr lo a1) (g : GoodIn Ws (va_wsS own idx y ws)) (hw : ws = Cond.code y bytes maxL ret :: ws')
    (hd : y.cls ≠ "java/lang/invoke/MethodHandle" ∧ y.cls ≠ "java/lang/invoke/VarHandle" ∧ (parseMethodDescriptor y.desc).map (fun d => d.parameters.length) = some 2) (hR : fr + 1 ≤ rm.frames ∧ 8 + (maxL + 11) + lo ≤ rm.locals) (hcat : (st.map fun v => v.category).sum ≤ 8) (hkw : k ≤ rm.cells ∧ w ≤ rm.slots) (d : decode cc pc = .ok (.invokestatic idx, 3))
    (K : ∀ X : Nat, X < 2147483648 → xg F k w (pc + 3) L (.int (nI X) :: st) I) : xg F k w pc L (.int a1 :: .ref b :: st) I := by
  obtain ⟨p, l, e, R, s, m, args, below, meth, c, A, H0, Q⟩ := F
  obtain ⟨hx, hb, hml, hown, hts, rfl⟩ := C
  obtain ⟨-, -, rfl, rfl, rfl, hX, hbl⟩ := E3
  intro H locs ls hi hS hL
  have hbH : H[b]? = s.heap[b]? := hS.2.1 b hbl (by show ¬ s.heap.size ≤ b; omega)
  have hbl2 : b < H.size := Nat.lt_of_lt_of_le hbl hS.1
  refine va_calli (va_runS (As := [.ref b, .int a1]) (rest := st) ⟨hx, hb, hml, hown, hts⟩ (hM l) (va_cwS 2 hts g hw rfl rfl hd hR) ⟨xd_blind, fun U hU hW => ⟨rfl, by rw [hU]; exact (va_X.moved hW.alike hX).kept hbH, by rw [hU]; exact hbl2⟩⟩ rfl rfl (hL.1.trans hml) rfl (lv_room hcat) d hkw) hS (fun q _ h => h.elim) (fun q h => h.elim) (fun r2 u t H1 locs1 ht hvm hr2 hB hz1 hk1 hS1 => ?_)
  obtain ⟨X, hX1, rfl⟩ := hr2
  exact K X hX1 H1 locs1 ls (hI H H1 hi hz1 (fun q hq => hk1 q hq (fun z => z))) hS1 hL
end XLAW
theorem xand31 (x : Int32) : ∃ X : Nat, X < 2147483648 ∧ x &&& (2147483647 : Int32) = nI X := by
  refine ⟨(x &&& (2147483647 : Int32)).toBitVec.toNat, ?_, ?_⟩
  · rw [Int32.toBitVec_and, BitVec.toNat_and]
    exact Nat.lt_of_le_of_lt Nat.and_le_right (by decide)
  · apply Int32.toBitVec_inj.mp
    show _ = BitVec.ofNat 32 _
    rw [BitVec.ofNat_toNat, BitVec.setWidth_eq]
theorem hdL_dice : yL_dice.cls ≠ "java/lang/invoke/MethodHandle" ∧ yL_dice.cls ≠ "java/lang/invoke/VarHandle" ∧ (parseMethodDescriptor yL_dice.desc).map (fun d => d.parameters.length) = some 2 := by decide +kernel
set_option maxRecDepth 100000 in
set_option maxHeartbeats 4000000 in
theorem dice_body {F : xF} {b N n : Nat} {xs : Nat → Int32} {rm : Room} (C : xC F cL_dice 2 RL wsL_dice rm) (E : xXs F b N xs) (hN : N ≤ 3072) (hn : n < 90) (KX : ∀ (L9 : List (Option Value)) (X : Nat), X < 2147483648 → xg F 0 0 35 L9 [.int (nI X)] (fun _ => True)) : xg F 0 0 0 [some (.ref b), some (.int (nI n))] [] (fun _ => True) := by
  have KE : ∀ (x : Int32) (L9 : List (Option Value)), xg F 0 0 32 L9 [.int x] (fun _ => True) := fun x L9 => by
    refine xg_ldc C (v := (2147483647 : Int32)) (List.mem_of_getElem? (i := 2) rfl) dL_dice_32 ?_
    refine xg_iand C dL_dice_34 ?_
    obtain ⟨X, hX, e⟩ := xand31 x
    rw [e]
    exact KX L9 X hX
  refine xg_iload_n C dL_dice_0 rfl ?_
  refine xg_aload_n C dL_dice_1 rfl ?_
  refine xg_slen C E dL_dice_2 ?_
  refine xg_icmp_ge C 12 dL_dice_3 (by decide) (fun h1 => ?_) (fun h1 => ?_)
  · refine xg_ldc C (v := (528734635 : Int32)) (List.mem_of_getElem? (i := 1) rfl) dL_dice_12 ?_
    refine xg_iload_n C dL_dice_14 rfl ?_
    refine xg_sipush C dL_dice_15 (v := (311 : Int32)) (by decide) ?_
    refine xg_iadd C dL_dice_18 ?_
    refine xg_imul C dL_dice_19 ?_
    refine xg_sipush C dL_dice_20 (v := (709 : Int32)) (by decide) ?_
    refine xg_iload_n C dL_dice_23 rfl ?_
    refine xg_imul C dL_dice_24 ?_
    refine xg_iload_n C dL_dice_25 rfl ?_
    refine xg_imul C dL_dice_26 ?_
    refine xg_iadd C dL_dice_27 ?_
    refine xg_sipush C dL_dice_28 (v := (199 : Int32)) (by decide) ?_
    refine xg_iadd C dL_dice_31 ?_
    exact KE _ _
  · have hj : n < N := by
      rw [Int32.le_iff_toInt_le, nI_toInt (by omega), nI_toInt (by omega)] at h1
      omega
    refine xg_aload_n C dL_dice_6 rfl ?_
    refine xg_iload_n C dL_dice_7 rfl ?_
    refine xg_scr C E (j := n) hN hj rfl dL_dice_8 ?_
    refine xg_goto C 32 dL_dice_9 (by decide) ?_
    exact KE _ _
set_option maxHeartbeats 4000000 in
theorem kL_dice (l : Launch) (b N : Nat) (xs : Nat → Int32) (n : Nat) (hN : N ≤ 3072) (hn : n < 90) : xMd l b N xs yL_dice wsL_dice 0 0 (nI n) := by
  refine Met.ofW (cc := cL_dice) (maxL := 2) (ret := some .int) pnL rfl ?_
  intro p e s m args below meth c s₁ B hml hv
  obtain ⟨rfl, hX, hbl⟩ := hv
  have hts := atoms_spec (ws := wsL_dice) B.pre
  have hown : s.vm.findClass RL = some m.cls := findClass_of_methodNamed B.named
  have hlocks := B.notSynchronized
  have hb := B.bytes
  have hx := B.exec
  have hr := B.returns
  have hl := xL_entry (as := [.ref b, .int (nI n)]) (n := 2) (L := [some (.ref b), some (.int (nI n))]) (xcat1 rfl) (Nat.le_refl _) rfl
  rw [lg_entry_eq]
  refine dice_body (F := (p, l, e, _, s, m, [Value.ref b, Value.int (nI n)].toArray, below, meth, c, (fun _ => False), s.heap, _)) ⟨hx, hb, hml, hown, hts, rfl⟩ ⟨hX, hbl, fun z => z⟩ hN hn ?_ s.heap [] _ trivial va_S.rf (hml.symm ▸ hl)
  intro L X hX1 H locs ls hI hS hL
  exact W.iret hx hb hr (fun t ht hW => ⟨⟨nI X, (), rfl, ⟨X, hX1, rfl⟩, trivial⟩, hS.F ht⟩) hS.2.2 dL_dice_35 hlocks
