/-! 18: objects in the making: the object at h0, and the cells that come from n0 on, one behind the other -/
def xK (D : va_G) (h0 : Nat) (o : Nat × List Value) (n0 : Nat) (es : List va_E) (H : Heap) : Prop := va_at D vwCl (h0, .inr o) H ∧ h0 < n0 ∧ H.size = n0 + es.length ∧ ∀ (k : Nat) (e : va_E), es[k]? = some e → va_at D vwCl (n0 + k, e) H
def xst_of (F : xF) : State := F.2.2.2.2.1
def xKV (F : xF) (G : xG) (h0 n0 : Nat) : Prop := match F with
  | (_, _, _, _, s, _, _, _, meth, _, A, H0, _) => va_K G.1 vwCl (xT G) s ∧ va_AOA .int s ∧ meth.name = "<init>" ∧ A = (fun q => q = h0 ∨ n0 ≤ q) ∧ H0.size = n0
theorem xK_app {D : va_G} {h0 n0 : Nat} {o : Nat × List Value} {es l : List va_E} {H H1 : Heap} (h : xK D h0 o n0 es H) (hz : H1.size = H.size + l.length) (hold : ∀ q : Nat, q < H.size → H1[q]? = H[q]?) (hnew : ∀ (k : Nat) (e : va_E), l[k]? = some e → va_at D vwCl (H.size + k, e) H1) : xK D h0 o n0 (es ++ l) H1 := by
  obtain ⟨h1, h2, h3, h4⟩ := h
  refine ⟨h1.kept (hold h0 (by omega)), h2, by rw [hz, h3, List.length_append]; omega, fun k e hk => ?_⟩
  by_cases hl : k < es.length
  · rw [List.getElem?_append_left hl] at hk
    exact (h4 k e hk).kept (hold _ (by omega))
  · rw [List.getElem?_append_right (by omega)] at hk
    have := hnew _ e hk
    rw [h3, show n0 + es.length + (k - es.length) = n0 + k by omega] at this
    exact this
theorem xK_obj {D : va_G} {h0 n0 : Nat} {o o' : Nat × List Value} {es : List va_E} {H H1 : Heap} (h : xK D h0 o n0 es H) (hn : va_at D vwCl (h0, .inr o') H1) (hz : H1.size = H.size) (hold : ∀ q : Nat, q ≠ h0 → H1[q]? = H[q]?) : xK D h0 o' n0 es H1 := by
  obtain ⟨h1, h2, h3, h4⟩ := h
  exact ⟨hn, h2, by rw [hz, h3], fun k e hk => (h4 k e hk).kept (hold _ (by show n0 + k ≠ h0; omega))⟩
theorem xK_set {D : va_G} {h0 n0 : Nat} {o : Nat × List Value} {es : List va_E} {H H1 : Heap} {j : Nat} {e0 e' : va_E} (h : xK D h0 o n0 es H) (hj : es[j]? = some e0) (hn : va_at D vwCl (n0 + j, e') H1) (hz : H1.size = H.size) (hold : ∀ q : Nat, q ≠ n0 + j → H1[q]? = H[q]?) : xK D h0 o n0 (es.set j e') H1 := by
  obtain ⟨h1, h2, h3, h4⟩ := h
  have hl : j < es.length := (List.getElem?_eq_some_iff.mp hj).1
  refine ⟨h1.kept (hold h0 (by show h0 ≠ n0 + j; omega)), h2, by rw [hz, h3, List.length_set], fun k e hk => ?_⟩
  by_cases hkj : k = j
  · subst hkj
    rw [List.getElem?_set_self hl] at hk
    cases hk
    exact hn
  · rw [List.getElem?_set_ne (Ne.symm hkj)] at hk
    exact (h4 k e hk).kept (hold _ (by show n0 + k ≠ n0 + j; omega))
theorem xS_new {A : Nat → Prop} {H0 H H1 : Heap} {locs : List Loc} (hS : va_S A H0 H locs) (hz : H.size ≤ H1.size) (hold : ∀ q : Nat, q < H.size → H1[q]? = H[q]?) : va_S A H0 H1 locs := ⟨Nat.le_trans hS.1 hz, fun q h1 h2 => (hold q (Nat.lt_of_lt_of_le h1 hS.1)).trans (hS.2.1 q h1 h2), hS.2.2⟩
section XCTOR
variable {F : xF} {cc : ByteArray} {nL : Nat} {own : String} {Ws : List Cond} {rm : Room} {k w pc : Nat} {L : List (Option Value)} {st : List Value} {G : xG} {h0 n0 : Nat} {o : Nat × List Value} {es : List va_E}
theorem xk_objInit {I : Heap → Prop} (C : xC F cc nL own Ws rm) {idx : Nat} {a : Addr} (h1 : Cond.methodLink own idx objectInit ∈ Ws) (h2 : Cond.instanceMethod objectInit ∈ Ws) (h3 : Cond.code objectInit ⟨#[0xb1]⟩ 1 none ∈ Ws) (d : decode cc pc = .ok (.invokespecial idx, 3)) (hf : 1 ≤ rm.frames) (hlo : (st.map fun v => v.category).sum + 12 ≤ rm.locals) (K : xg F k w (pc + 3) L st I) : xg F k w pc L (.ref a :: st) I := by
  obtain ⟨p, l, e, R, s, m, args, below, meth, c, A, H0, Q⟩ := F
  obtain ⟨hx, hb, hml, hown, hts, rfl⟩ := C
  intro H locs ls hI hS hL
  refine W.objInit hx hb hown (hts _ h1) (hts _ h2) (hts _ h3) rfl hL.1 rfl d hf (by show 2 * 0 + _ + 12 ≤ _; omega) ?_
  exact W.eq (g2 := F0 m (pc + 3) ls st) rfl (K H locs ls hI hS hL)
theorem xk_newarr (C : xC F cc nL own Ws rm) (V : xKV F G h0 n0) {atype : ArrayType} {ty : FieldType} {cA : ClassId} {n : Int32} {N j t0 : Nat} {es' : List va_E} (hty : newarray.typeOf atype = ty) (hd : defaultValue ty = .int 0) (hcA : (xT G)[t0]? = some (cA, ty)) (hra : ∀ U, va_RA U cA ty → U.vm.findClass ("[" ++ ty.toString) = some cA) (harr : Cond.arrayClass ty ∈ Ws) (hn : vp_in n (N + 1)) (hN : n = nI N) (hbytes : N * componentBytes ty ≤ 536870912) (hN2 : N < 1000) (hj : es.length = j) (hes : es ++ [.inl (cA, N, .inl (fun _ => 0))] = es') (hk : k + 1 ≤ rm.cells) (hw : w + N ≤ rm.slots) (d : decode cc pc = .ok (.newarray atype, 2))
    (K : xg F (k + 1) (w + N) (pc + 2) L (.ref (n0 + j) :: st) (xK G.1 h0 o n0 es')) : xg F k w pc L (.int n :: st) (xK G.1 h0 o n0 es) := by
  obtain ⟨p, l, e, R, s, m, args, below, meth, c, A, H0, Q⟩ := F
  obtain ⟨hx, hb, hml, hown, hts, rfl⟩ := C
  obtain ⟨hK, -, -, -, -⟩ := V
  subst hty
  subst hj
  subst hes
  intro H locs ls hI hS hL
  refine va_newaK (h := n0 + es.length) hx hb (hts _ harr) rfl d rfl (fun z => hn (Or.inl z)) (by rw [hN]; exact nI_clamp (by omega)) hbytes hk hw hI.2.2.1 fun H1 cA2 e1 z1 o1 hAr hNm => ?_
  have hc : cA2 = cA := Option.some.inj (hNm.symm.trans (hra s (hK.2 t0 _ hcA).2))
  subst hc
  refine K H1 locs ls (xK_app hI (by rw [z1, hI.2.2.1]; rfl) (fun q hq => o1 q (by rw [← hI.2.2.1]; exact hq)) (fun k' e' hk' => ?_)) (xS_new hS (by rw [z1, hI.2.2.1]; omega) (fun q hq => o1 q (by rw [← hI.2.2.1]; exact hq))) hL
  have hz : k' < 1 := (List.getElem?_eq_some_iff.mp hk').1
  rw [show k' = 0 by omega] at hk' ⊢
  cases hk'
  show H1[H.size + 0]? = some (arrV cA2 N (fun _ => .int 0))
  rw [Nat.add_zero, hI.2.2.1, e1, hd]
theorem xk_put (C : xC F cc nL own Ws rm) (V : xKV F G h0 n0) {ci idx N kf : Nat} {fs fs' : List Value} {Cn : String} {T : u_T} {ty : Nat → FieldType} {x : Value} (q : xFr Ws own idx Cn T N kf) (hci : vwCl[ci]? = some (Cn, T, N)) (hl : kf < fs.length) (hty : ∀ j, j < N → parseFieldDescriptor (T j).2.2.1 = some (ty j)) (hnm : ∀ a, a < N → ∀ b, b < N → a ≠ b → (T a).2.1 ≠ (T b).2.1) (hn : narrow (ty kf) x = x) (hfit : fits (ty kf) x = true) (hdecl : (T kf).1 = own) (hfs : fs.set kf x = fs') (d : decode cc pc = .ok (.putfield idx, 3))
    (K : xg F k w (pc + 3) L st (xK G.1 h0 (ci, fs') n0 es)) : xg F k w pc L (x :: .ref h0 :: st) (xK G.1 h0 (ci, fs) n0 es) := by
  obtain ⟨p, l, e, R, s, m, args, below, meth, c, A, H0, Q⟩ := F
  obtain ⟨hx, hb, -, hown, hts, -⟩ := C
  obtain ⟨hK, -, hin2, hA, -⟩ := V
  subst hfs
  intro H locs ls hI hS hL
  have hk := q.2.2
  have hap2 := va_apart (own := own) hts q.1 ty hty hnm hK hci
  obtain ⟨r, h1, cell, q1, q2, q3, q4⟩ := hI.1
  have hr : r = (Cn, T, N) := Option.some.inj (h1.symm.trans hci)
  subst hr
  obtain ⟨hSl, hfc, kC, hkC, hkind⟩ := hK.1 ci _ hci
  obtain ⟨cf, kfl, fi, fd, hi, hsl⟩ := hSl kf hk
  have hlay := hts _ (q.1 _ (u_in_lay hk))
  have hst := (u_facts hfc hkC (u_lays hts q.1 hk) hi).1
  have hd := hty kf hk
  have fin : ∀ H' : Heap, H'[h0]? = some (cell.setSlot fd.slot x) → H'.size = H.size → (∀ q : Nat, q ≠ h0 → H'[q]? = H[q]?) → W p l e R s m args below meth c H' (locs ++ [⟨h0, fd.slot⟩]) k w Q (F0 m (pc + 3) ls st) := fun H' e1 e2 e3 => by
    rw [hsl] at e1
    refine K H' _ ls (xK_obj hI ⟨_, hci, t_OB.to (V := updV (vp_V fs) kf x) ⟨_, e1, q2, q3, t_set q4 hap2 hk x⟩ (fun j _ => vp_updV_set hl x j)⟩ e2 e3) (hS.put e2 e3 (by rw [hA]; exact Or.inl rfl)) hL
  unfold u_lay at hlay
  by_cases hfin : (T kf).2.2.2 = true
  · rw [if_pos hfin] at hlay
    have hcf : m.cls = cf := by
      obtain ⟨_, _, c', _, _, _, -, -, hf', -, -, -, hown2, -⟩ := Cond.laysFinal_spec hlay
      have e1 : c' = cf := by have := hi.symm.trans hf'; simp at this; exact this.1.symm
      rw [hdecl] at hown2
      rw [← e1]; exact Option.some.inj (hown.symm.trans hown2)
    have h6 := u_fits (v := x) hfc hkC hkind (Or.inr hlay) hi hd hn hfit
    exact W.putFinK hx hb hown (hts _ q.2.1) hi hst hcf hin2 (by rw [q2]; exact h6) q1 q3 (by rw [hsl]; exact k2_hasslot (q4 kf hk)) rfl rfl d fin
  · rw [if_neg hfin] at hlay
    have h6 := u_store (v := x) hfc hkC hkind hlay hi hd hn hfit
    exact W.putK hx hb (f := fd) ⟨hown, hts _ q.2.1, ⟨_, _, _, hi⟩, hst⟩ (by rw [q2]; exact h6) q1 q3 (by rw [hsl]; exact k2_hasslot (q4 kf hk)) rfl rfl d fin
theorem xk_get (C : xC F cc nL own Ws rm) (V : xKV F G h0 n0) {ci idx N kf : Nat} {fs : List Value} {Cn : String} {T : u_T} {v : Value} (q : xFr Ws own idx Cn T N kf) (hci : vwCl[ci]? = some (Cn, T, N)) (hv : fs[kf]? = some v) (d : decode cc pc = .ok (.getfield idx, 3)) (K : xg F k w (pc + 3) L (v :: st) (xK G.1 h0 (ci, fs) n0 es)) : xg F k w pc L (.ref h0 :: st) (xK G.1 h0 (ci, fs) n0 es) := by
  obtain ⟨p, l, e, R, s, m, args, below, meth, c, A, H0, Q⟩ := F
  obtain ⟨hx, hb, -, hown, hts, -⟩ := C
  obtain ⟨hK, -⟩ := V
  intro H locs ls hI hS hL
  obtain ⟨r, h1, cell, q1, q2, q3, q4⟩ := hI.1
  have hr : r = (Cn, T, N) := Option.some.inj (h1.symm.trans hci)
  subst hr
  obtain ⟨hSl, hfc, kC, hkC, hkind⟩ := hK.1 ci _ hci
  obtain ⟨cf, kfl, fi, fd, hi, hsl⟩ := hSl kf q.2.2
  refine W.getf hx hb hown (hts _ q.2.1) hi (u_facts hfc hkC (u_lays hts q.1 q.2.2) hi).1 q1 (by rw [q3]; exact fun h => by cases h) (v := v) ?_ rfl rfl d (K H locs ls hI hS hL)
  rw [hsl, q4 kf q.2.2]
  simp [vp_V, hv]
end XCTOR
section XMNA
variable {p : Program} {l : Launch} {e : Env} {R : Room} {s : State} {m : MethodId} {args : Array Value} {below : List Frame} {meth : Method} {c : Code} {H : Heap} {locs : List Loc} {cells slots : Nat} {Q : State → Prop} {pc : Nat} {ls : Array Slot} {rest : List Value}
theorem xW_mna {cc : ByteArray} (hexec : p.tables.exec = Jvm.exec) (hb : c.code = cc) {own : String} {index : Nat} {cI cO : ClassId} (hown : s.vm.findClass own = some m.cls) (hclink : (Cond.classLink own index ("[" ++ (FieldType.array .int).toString)).before args s = true) (hover : va_AOA .int s) (harr : (Cond.arrayClass .int).before args s = true) (hcy : s.vm.findClass (FieldType.array .int).toString = some cI) (hcO : s.vm.findClass ("[" ++ (FieldType.array .int).toString) = some cO)
    (hcells : cells + (1 + 8) ≤ R.cells) (hslots : slots + (8 + 64) ≤ R.slots) (hdg : decode cc pc = .ok (.multianewarray index 2, 4))
    (kk : ∀ H1 : Heap, H1.size = H.size + 9 → (∀ q : Nat, q < H.size → H1[q]? = H[q]?) → H1[H.size]? = some (arrV cO 8 (fun i => va_rf (some (H.size + 1 + i)))) → (∀ j : Nat, j < 8 → H1[H.size + 1 + j]? = some (arrV cI 8 (fun _ => .int 0))) → W p l e R s m args below meth c H1 locs (cells + 9) (slots + 72) Q (F0 m (pc + 4) ls (.ref H.size :: rest))) : W p l e R s m args below meth c H locs cells slots Q (F0 m pc ls (.int 8 :: .int 8 :: rest)) := by
  intro T hT Xs
  have h8 : (8 : Int32).toNatClampNeg = 8 := by decide
  obtain ⟨vm₁, cA, comp, -, fA, fC, hO, -, X', step⟩ := Xs.multianewarray2F hexec hown hclink (va_AOA.use hover) harr (g := F0 m pc ls (.int 8 :: .int 8 :: rest)) rfl (by rw [hb]; exact hdg) rfl (by decide) (by decide) (by rw [h8]; decide) (by rw [h8]; decide) (by rw [h8]; decide) rfl rfl (by rw [h8]; exact hcells) (by rw [h8]; exact hslots)
  have ec : some cI = some comp := hcy.symm.trans fC
  cases ec
  have eo : some cO = some cA := hcO.symm.trans fA
  cases eo
  rw [h8] at X' step
  generalize hF : Jvm.Free.Multi.fill (T.setVm vm₁) cO cI 8 8 (defaultValue .int) 8 = F at X' step
  have hTh : (T.setVm vm₁).heap = H := hT
  obtain ⟨f1, f2, -, -⟩ := Jvm.Free.Multi.fill_facts (T.setVm vm₁) cO cI 8 8 (defaultValue .int) 8
  rw [hF, hTh] at f1 f2
  have hold : ∀ x : Nat, x < H.size → F.heap[x]? = H[x]? := fun x hx => by
    have := Jvm.Free.Multi.fill_old (T.setVm vm₁) cO cI 8 8 (defaultValue .int) (a := x) (by rw [hTh]; exact hx) 8
    rw [hF, hTh] at this
    exact this
  have hrow : ∀ j : Nat, j < 8 → F.heap[H.size + 1 + j]? = some (arrV cI 8 (fun _ => .int 0)) := fun j hj => by
    have := Jvm.Free.Multi.fill_inner (T.setVm vm₁) cO cI 8 8 (defaultValue .int) 8 j hj
    rw [hF, hTh] at this
    rw [this]
    refine congrArg some ?_
    show ({ cls := cI, slots := Array.replicate 8 (defaultValue .int), vm := .none } : Cell) = _
    rw [arrV_new]
    rfl
  have hout : F.heap[H.size]? = some (arrV cO 8 (fun i => va_rf (some (H.size + 1 + i)))) := by
    rw [f2, vr_outer]
    refine congrArg some (xarr_cong fun j hj => ?_)
    simp [hj]
  have hz : F.heap.size = H.size + 9 := by
    rw [f1]
  obtain ⟨t, a1, b1⟩ := kk F.heap hz hold hout hrow F rfl X'
  refine ⟨t, step t ?_, b1⟩
  rw [hT]
  exact a1
end XMNA
section XCTOR2
variable {F : xF} {cc : ByteArray} {nL : Nat} {own : String} {Ws : List Cond} {rm : Room} {k w pc : Nat} {L : List (Option Value)} {st : List Value} {G : xG} {h0 n0 : Nat} {o : Nat × List Value} {es : List va_E}
theorem xk_mna (C : xC F cc nL own Ws rm) (V : xKV F G h0 n0) {index j : Nat} {es' : List va_E} (hcl : Cond.classLink own index "[[I" ∈ Ws) (harr : Cond.arrayClass .int ∈ Ws) (hj : es.length = j) (hes : es ++ (.inl (G.2.1.2.2, 8, .inr (.inr (.inr (.inr (fun i => some (n0 + j + 1 + i)))))) :: List.replicate 8 (.inl (G.2.1.1, 8, .inl (fun _ => 0)))) = es') (hk : k + 9 ≤ rm.cells) (hw : w + 72 ≤ rm.slots) (d : decode cc pc = .ok (.multianewarray index 2, 4))
    (K : xg F (k + 9) (w + 72) (pc + 4) L (.ref (n0 + j) :: st) (xK G.1 h0 o n0 es')) : xg F k w pc L (.int 8 :: .int 8 :: st) (xK G.1 h0 o n0 es) := by
  obtain ⟨p, l, e, R, s, m, args, below, meth, c, A, H0, Q⟩ := F
  obtain ⟨hx, hb, hml, hown, hts, rfl⟩ := C
  obtain ⟨hK, hover, -, -, -⟩ := V
  subst hj
  subst hes
  intro H locs ls hI hS hL
  have hz := hI.2.2.1
  refine xW_mna hx hb hown (hts _ hcl) hover (hts _ harr) ((hK.2 0 _ rfl).2) ((hK.2 2 _ rfl).2) (by omega) (by omega) d fun H1 z1 o1 u1 r1 => ?_
  rw [hz]
  refine K H1 locs ls (xK_app hI (by rw [z1]; rfl) o1 (fun k' e' hk' => ?_)) (xS_new hS (by omega) o1) hL
  match k', hk' with
  | 0, hk' =>
    cases hk'
    show H1[H.size + 0]? = some (arrV _ 8 (fun i => va_rf (some (n0 + es.length + 1 + i))))
    rw [Nat.add_zero, u1, hz]
  | k2 + 1, hk' =>
    rw [List.getElem?_cons_succ, List.getElem?_replicate] at hk'
    split at hk'
    · cases hk'
      show H1[H.size + (k2 + 1)]? = some (arrV _ 8 (fun _ => .int 0))
      rw [show H.size + (k2 + 1) = H.size + 1 + k2 by omega]
      exact r1 k2 (by assumption)
    · cases hk'
end XCTOR2
/-! Arrays.fill over a row of eight -/
def xQ (a : Nat) (cI : ClassId) (f : Nat → Int32) (n : Nat) (H : Heap) : Prop := H[a]? = some (arrV cI 8 (fun j => .int (f j))) ∧ H.size = n
theorem xfill_all (v : Int32) (f : Nat → Int32) : ∀ (N : Nat), N ≤ 8 → ∀ j, j < N → (xfold (fun (i : Int32) (x : Nat → Int32) => upd x i.toNatClampNeg v) N f) j = v
  | 0, _, j, hj => absurd hj (Nat.not_lt_zero j)
  | n + 1, hn, j, hj => by
    show upd (xfold _ n f) (nI n).toNatClampNeg v j = v
    rw [nI_clamp (by omega)]
    by_cases h : j = n
    · rw [h, pk_us]
    · rw [pk_un h]
      exact xfill_all v f n (by omega) j (by omega)
set_option maxRecDepth 100000 in
set_option maxHeartbeats 4000000 in
theorem kFill (l : Launch) {cI : ClassId} (a n : Nat) (f : Nat → Int32) (v : Int32) : Met l yJ7_fill_53178 wsJ7_fill_53178 { frames := 0, cells := 0, slots := 0, locals := 0 } (va_Pc [.ref a, .int v] (fun U => xQ a cI f n U.heap ∧ ArrOfT U cI .int)) (va_Qv (fun (_ : Unit) => True) (fun _ t => xQ a cI (fun _ => v) n t.heap) (fun q => q = a)) 0 0 (fun q => q = a) := by
  refine Met.ofW (cc := cJ7_fill_53178) (maxL := 4) (ret := none) pnJ7 rfl ?_
  intro p e s m args below meth c s₁ B hml hv
  obtain ⟨rfl, hP, hAr⟩ := hv
  have hlocks := B.notSynchronized
  have hb := B.bytes
  have hx := B.exec
  have hr := B.returns
  have hl := xL_entry (as := [.ref a, .int v]) (n := 4) (L := [some (.ref a), some (.int v), none, none]) (xcat1 rfl) (Nat.le_of_ble_eq_true rfl) rfl
  have hown : s.vm.findClass RJ7 = some m.cls := findClass_of_methodNamed B.named
  have hts := atoms_spec (ws := wsJ7_fill_53178) B.pre
  rw [lg_entry_eq]
  obtain ⟨F, hF⟩ : ∃ F : xF, F = (p, l, e, (headSpec wsJ7_fill_53178 { frames := 0, cells := 0, slots := 0, locals := 0 }).room, s, m, #[Value.ref a, Value.int v], below, meth, c, (fun q => q = a), s.heap, MQ below (va_Qv (fun (_ : Unit) => True) (fun _ t => xQ a cI (fun _ => v) n t.heap) (fun q => q = a)) #[Value.ref a, Value.int v] s 0 0 (fun q => q = a)) := ⟨_, rfl⟩
  have C : xC F cJ7_fill_53178 4 RJ7 wsJ7_fill_53178 { frames := 0, cells := 0, slots := 0, locals := 0 } := by subst hF; exact ⟨hx, hb, hml, hown, hts, rfl⟩
  have rowI : ∀ (x : Nat → Int32) (i : Nat) (pc : Nat) (L : List (Option Value)), i < 8 → decode cJ7_fill_53178 pc = .ok (.iastore, 1) → xg F 0 0 (pc + 1) L [] (xQ a cI (upd x (nI i).toNatClampNeg v) n) → xg F 0 0 pc L [.int v, .int (nI i), .ref a] (xQ a cI x n) := by
    subst hF
    intro x i pc L hi d K H locs ls hI hS hL
    refine W.iast hx hb hI.1 (hAr _ _) (fun q => by cases q) (by rw [arrV_size]; exact vp_in_nI hi (by decide)) rfl rfl d fun H1 e1 z1 o1 => ?_
    refine K H1 _ ls ⟨?_, by rw [z1]; exact hI.2⟩ (hS.put z1 o1 rfl) hL
    rw [e1, arrV_store]
    refine congrArg some (xarr_cong fun j hj => ?_)
    by_cases hq : j = (nI i).toNatClampNeg
    · subst hq
      simp [updV, upd]
    · simp [updV, upd, hq]
  have rowL : ∀ (x : Nat → Int32) (pc : Nat) (L : List (Option Value)), decode cJ7_fill_53178 pc = .ok (.arraylength, 1) → xg F 0 0 (pc + 1) L [.int (8 : Int32)] (xQ a cI x n) → xg F 0 0 pc L [.ref a] (xQ a cI x n) := by
    subst hF
    intro x pc L d K H locs ls hI hS hL
    exact W.alen (n := (8 : Int32)) hx hb hI.1 (hAr _ _) (by rw [arrV_size]; decide) rfl rfl d (K H locs ls hI hS hL)
  have E : ∀ (x : Nat → Int32) (pc : Nat) (L : List (Option Value)), (∀ j, j < 8 → x j = v) → decode cJ7_fill_53178 pc = .ok (.return_, 1) → xg F 0 0 pc L [] (xQ a cI x n) := by
    subst hF
    intro x pc L hxv d H locs ls hI hS hL
    refine W.vret hx hb hr (fun t ht hW => ⟨⟨(), rfl, trivial, ?_⟩, hS.F ht⟩) hS.2.2 d hlocks
    show xQ a cI (fun _ => v) n t.heap
    rw [ht]
    exact ⟨by rw [hI.1]; exact congrArg some (xarr_cong fun j hj => by rw [hxv j hj]), hI.2⟩
  have main : xg F 0 0 0 [some (.ref a), some (.int v), none, none] [] (xQ a cI f n) := by
    refine xg_iconst C dJ7_fill_53178_0 (v := (0 : Int32)) (by decide) ?_
    refine xg_istore_n C dJ7_fill_53178_1 (by decide) (L' := [some (.ref a), some (.int v), some (.int (0 : Int32)), none]) rfl ?_
    refine xg_aload_n C dJ7_fill_53178_2 rfl ?_
    refine rowL f _ _ dJ7_fill_53178_3 ?_
    refine xg_istore_n C dJ7_fill_53178_4 (by decide) (L' := [some (.ref a), some (.int v), some (.int (0 : Int32)), some (.int (8 : Int32))]) rfl ?_
    refine xloop (fun (i : Int32) (x : Nat → Int32) => xg F 0 0 5 [some (.ref a), some (.int v), some (.int i), some (.int (8 : Int32))] [] (xQ a cI x n)) (fun (i : Int32) (x : Nat → Int32) => upd x i.toNatClampNeg v) 8 f (fun i hi x K => ?_) ?_
    · show xg F 0 0 5 [some (.ref a), some (.int v), some (.int (nI i)), some (.int (8 : Int32))] [] (xQ a cI x n)
      refine xg_iload_n C dJ7_fill_53178_5 rfl ?_
      refine xg_iload_n C dJ7_fill_53178_6 rfl ?_
      refine xg_icmp_ge C 20 dJ7_fill_53178_7 (by decide) (fun h => absurd h (nI_ge hi (by decide))) (fun h => ?_)
      refine xg_aload_n C dJ7_fill_53178_10 rfl ?_
      refine xg_iload_n C dJ7_fill_53178_11 rfl ?_
      refine xg_iload_n C dJ7_fill_53178_12 rfl ?_
      refine rowI x i _ _ hi dJ7_fill_53178_13 ?_
      refine xg_iinc C dJ7_fill_53178_14 rfl (v := (nI (i + 1))) (xinc i) (by decide) (L' := [some (.ref a), some (.int v), some (.int (nI (i + 1))), some (.int (8 : Int32))]) rfl ?_
      refine xg_goto C 5 dJ7_fill_53178_17 (by decide) ?_
      exact K
    · show xg F 0 0 5 [some (.ref a), some (.int v), some (.int (nI 8)), some (.int (8 : Int32))] [] (xQ a cI _ n)
      refine xg_iload_n C dJ7_fill_53178_5 rfl ?_
      refine xg_iload_n C dJ7_fill_53178_6 rfl ?_
      refine xg_icmp_ge C 20 dJ7_fill_53178_7 (by decide) (fun h => ?_) (fun h => absurd (nI_le (Nat.le_refl _) (by decide)) h)
      exact E _ _ _ (xfill_all v f 8 (Nat.le_refl _)) dJ7_fill_53178_20
  subst hF
  exact main s.heap [] _ hP va_S.rf (hml.symm ▸ hl)
/-! constructors: contracts, and their calls -/
theorem xAOA_moved {ty : FieldType} {s U : State} (hvm : s.vm.Alike U.vm) (h : va_AOA ty s) : va_AOA ty U := arrayOver_alikeB hvm h
abbrev xMk (l : Launch) (G : xG) (y : MethodName) (ws : List Cond) (fr mc ms lo : Nat) (h0 : Nat) (o : Nat × List Value) (n0 : Nat) (o' : Nat × List Value) (es' : List va_E) : Prop := Met l y ws { frames := fr, cells := mc, slots := ms, locals := lo } (va_Pc [.ref h0] (fun U => xK G.1 h0 o n0 [] U.heap ∧ va_K G.1 vwCl (xT G) U ∧ va_AOA .int U)) (va_Qv (fun (_ : Unit) => True) (fun _ t => xK G.1 h0 o' n0 es' t.heap) (fun q => q = h0 ∨ n0 ≤ q)) mc ms (fun q => q = h0 ∨ n0 ≤ q)
theorem xMk_of {l : Launch} {G : xG} {y : MethodName} {ws ws' : List Cond} {cc : ByteArray} {maxL fr mc ms lo h0 n0 : Nat} {o o' : Nat × List Value} {es' : List va_E} {own : String} (L : List (Option Value)) (hy : plainName y.cls = true) (ho : y.cls = own) (hyn : y.name = "<init>") (hw : ws = Cond.code y cc maxL none :: ws') (hlen : 1 ≤ maxL) (hL : L = some (.ref h0) :: List.replicate (maxL - 1) none)
    (body : ∀ F, xC F cc maxL own ws { frames := fr, cells := mc, slots := ms, locals := lo } → xKV F G h0 n0 → (∀ pc L, decode cc pc = .ok (.return_, 1) → xg F mc ms pc L [] (xK G.1 h0 o' n0 es')) → xg F 0 0 0 L [] (xK G.1 h0 o n0 [])) : xMk l G y ws fr mc ms lo h0 o n0 o' es' := by
  refine Met.ofW (cc := cc) (maxL := maxL) (ret := none) hy hw ?_
  intro p e s m args below meth c s₁ B hml hv
  obtain ⟨rfl, hP, hK, hAO⟩ := hv
  have hts := atoms_spec (ws := ws) B.pre
  have hown : s.vm.findClass own = some m.cls := ho ▸ findClass_of_methodNamed B.named
  have hlocks := B.notSynchronized
  have hb := B.bytes
  have hx := B.exec
  have hr := B.returns
  have hin : meth.name = "<init>" := ((name_of_methodNamed B.named B.method).1).trans hyn
  have hl := xL_entry (as := [.ref h0]) (n := maxL) (L := L) (xcat1 rfl) hlen hL
  rw [lg_entry_eq]
  refine body (p, l, e, _, s, m, #[Value.ref h0], below, meth, c, (fun q => q = h0 ∨ n0 ≤ q), s.heap, _) ⟨hx, hb, hml, hown, hts, rfl⟩ ⟨hK, hAO, hin, rfl, hP.2.2.1⟩ ?_ s.heap [] _ hP va_S.rf (hml.symm ▸ hl)
  intro pc L d H locs ls hI hS hL
  exact W.vret hx hb hr (fun t ht hW => ⟨⟨(), rfl, trivial, by show xK G.1 h0 o' n0 es' t.heap; rw [ht]; exact hI⟩, hS.F ht⟩) hS.2.2 d hlocks
section XCTOR3
variable {F : xF} {cc : ByteArray} {nL : Nat} {own : String} {Ws : List Cond} {rm : Room} {k w pc : Nat} {L : List (Option Value)} {st : List Value} {G : xG} {h0 n0 : Nat} {o : Nat × List Value} {es : List va_E}
theorem xk_fill (C : xC F cc nL own Ws rm) (V : xKV F G h0 n0) {idx j : Nat} {f : Nat → Int32} {v : Int32} {es' : List va_E} (g : GoodIn Ws (va_wsS own idx yJ7_fill_53178 wsJ7_fill_53178)) (hd : yJ7_fill_53178.cls ≠ "java/lang/invoke/MethodHandle" ∧ yJ7_fill_53178.cls ≠ "java/lang/invoke/VarHandle" ∧ (parseMethodDescriptor yJ7_fill_53178.desc).map (fun d => d.parameters.length) = some 2) (hR : 1 ≤ rm.frames ∧ 23 ≤ rm.locals) (hj : es[j]? = some (.inl (G.2.1.1, 8, .inl f))) (hes : es.set j (.inl (G.2.1.1, 8, .inl (fun _ => v))) = es') (hcat : (st.map fun v => v.category).sum ≤ 8) (hk : k ≤ rm.cells ∧ w ≤ rm.slots) (d : decode cc pc = .ok (.invokestatic idx, 3))
    (K : xg F k w (pc + 3) L st (xK G.1 h0 o n0 es')) : xg F k w pc L (.int v :: .ref (n0 + j) :: st) (xK G.1 h0 o n0 es) := by
  obtain ⟨p, l, e, R, s, m, args, below, meth, c, A, H0, Q⟩ := F
  obtain ⟨hx, hb, hml, hown, hts, rfl⟩ := C
  obtain ⟨hK, hover, -, hA, -⟩ := V
  subst hes
  intro H locs ls hI hS hL
  have hc := hI.2.2.2 j _ hj
  refine va_callv (va_runS (As := [.ref (n0 + j), .int v]) (rest := st) ⟨hx, hb, hml, hown, hts⟩ (kFill l (cI := G.2.1.1) (n0 + j) H.size f v) (va_cwS 2 hts g rfl rfl rfl hd ⟨by show 0 + 1 ≤ _; omega, by show 8 + (4 + 11) + 0 ≤ _; omega⟩) ⟨fun a U g mk q => q, fun U hU hW => ⟨rfl, ⟨by rw [hU]; exact hc, by rw [hU]⟩, arrOfT_moved hW.alike (hK.2 0 _ rfl).1⟩⟩ rfl rfl (hL.1.trans hml) rfl (lv_room hcat) d hk) hS (fun q _ h => ?_) (fun q h => ?_) (fun u t H1 locs1 ht hvm hr2 hB hz1 hk1 hS1 => ?_)
  · rw [hA, h]; exact Or.inr (Nat.le_add_right _ _)
  · rw [hA, h]; exact Or.inr (Nat.le_add_right _ _)
  · obtain ⟨hB1, hB2⟩ : xQ (n0 + j) G.2.1.1 (fun _ => v) H.size t.heap := hB
    rw [ht] at hB1 hB2
    refine K H1 locs1 ls (xK_set hI hj hB1 hB2 (fun q hq => ?_)) hS1 hL
    by_cases hlt : q < H.size
    · exact hk1 q hlt hq
    · have a1 : H1[q]? = none := by rw [Array.getElem?_eq_none_iff]; omega
      have a2 : H[q]? = none := by rw [Array.getElem?_eq_none_iff]; omega
      rw [a1, a2]
theorem xk_new (C : xC F cc nL own Ws rm) (V : xKV F G h0 n0) {Cn : String} {T : u_T} {N ci index j : Nat} {ty : Nat → FieldType} {fs : List Value} (hin : ∀ w ∈ u_ws Cn T N, w ∈ Ws) (hty : ∀ k, k < N → parseFieldDescriptor (T k).2.2.1 = some (ty k)) (hcl : Cond.classLink own index Cn ∈ Ws) (hinst : Cond.instantiable Cn N ∈ Ws) (hini : Cond.initialized Cn ∈ Ws) (hc : vwCl[ci]? = some (Cn, T, N)) (hfs : ∀ j, j < N → defaultValue (ty j) = vp_V fs j) (hj : es.length = j) (hk : k + 1 ≤ rm.cells) (hw : w + N ≤ rm.slots) (d : decode cc pc = .ok (.new index, 3))
    (K : xg F (k + 1) (w + N) (pc + 3) L (.ref (n0 + j) :: st) (xK G.1 h0 o n0 (es ++ [.inr (ci, fs)]))) : xg F k w pc L st (xK G.1 h0 o n0 es) := by
  obtain ⟨p, l, e, R, s, m, args, below, meth, c, A, H0, Q⟩ := F
  obtain ⟨hx, hb, hml, hown, hts, rfl⟩ := C
  obtain ⟨hK, -⟩ := V
  subst hj
  intro H locs ls hI hS hL
  have hKn := hK.1 ci _ hc
  refine W.newcK hx hb hown (hts _ hcl) (hts _ hinst) (hts _ hini) rfl d hk hw hKn.2.1 rfl fun H1 kC hkC e1 z1 o1 => ?_
  have hz := hI.2.2.1
  refine W.eq (g2 := F0 m (pc + 3) ls (.ref (n0 + es.length) :: st)) (by rw [← hz]) ?_
  refine K H1 locs ls (xK_app hI (by rw [z1]; rfl) o1 (fun k' e' hk' => ?_)) (xS_new hS (by omega) o1) hL
  have hz0 : k' < 1 := (List.getElem?_eq_some_iff.mp hk').1
  rw [show k' = 0 by omega] at hk' ⊢
  cases hk'
  exact ⟨_, hc, (u_born ty hts hin hKn hkC e1 hty).to hfs⟩
theorem xk_blind {h1 n1 : Nat} {o1 : Nat × List Value} : FrameBlind (va_Pc [.ref h1] (fun U => xK G.1 h1 o1 n1 [] U.heap ∧ va_K G.1 vwCl (xT G) U ∧ va_AOA .int U)) := fun a U g mk q => ⟨q.1, q.2.1, va_K.moved (u := U) (U := U.calling g mk a) (Vm.Alike.refl U.vm) q.2.2.1, xAOA_moved (s := U) (U := U.calling g mk a) (Vm.Alike.refl U.vm) q.2.2.2⟩
theorem xk_step {H H1 : Heap} {j n1 : Nat} {o1 o1' : Nat × List Value} {es1 es' : List va_E} (hI : xK G.1 h0 o n0 es H) (hj : es[j]? = some (.inr o1)) (hn : n0 + es.length = n1) (hes : es.set j (.inr o1') ++ es1 = es') (hB : xK G.1 (n0 + j) o1' n1 es1 H1) (hk : ∀ q : Nat, q < H.size → ¬ (q = n0 + j ∨ n1 ≤ q) → H1[q]? = H[q]?) : xK G.1 h0 o n0 es' H1 := by
  subst hes
  subst hn
  obtain ⟨h1, h2, h3, h4⟩ := hI
  obtain ⟨b1, b2, b3, b4⟩ := hB
  have hl : j < es.length := (List.getElem?_eq_some_iff.mp hj).1
  refine ⟨h1.kept (hk h0 (by omega) (by show ¬ (h0 = n0 + j ∨ n0 + es.length ≤ h0); omega)), h2, by rw [b3, List.length_append, List.length_set]; omega, fun k e hke => ?_⟩
  by_cases hlk : k < es.length
  · rw [List.getElem?_append_left (by rw [List.length_set]; exact hlk)] at hke
    by_cases hkj : k = j
    · subst hkj
      rw [List.getElem?_set_self hl] at hke
      cases hke
      exact b1
    · rw [List.getElem?_set_ne (Ne.symm hkj)] at hke
      exact (h4 k e hke).kept (hk _ (by omega) (by show ¬ (n0 + k = n0 + j ∨ n0 + es.length ≤ n0 + k); omega))
  · rw [List.getElem?_append_right (by rw [List.length_set]; omega), List.length_set] at hke
    have := b4 _ e hke
    rw [show n0 + es.length + (k - es.length) = n0 + k by omega] at this
    exact this
theorem xk_callI (C : xC F cc nL own Ws rm) (V : xKV F G h0 n0) {y : MethodName} {ws ws' : List Cond} {bytes : ByteArray} {maxL idx fr mc ms lo j n1 : Nat} {o1 o1' : Nat × List Value} {es1 es' : List va_E} (hM : ∀ l, xMk l G y ws fr mc ms lo (n0 + j) o1 n1 o1' es1) (g : GoodIn Ws ws) (hw : ws = Cond.code y bytes maxL none :: ws') (hini : Cond.initialized y.cls ∈ Ws) (hlk : Cond.methodLink own idx y ∈ Ws) (him : Cond.instanceMethod y ∈ Ws) (hy1 : y.name = "<init>")
    (hd : y.cls ≠ "java/lang/invoke/MethodHandle" ∧ y.cls ≠ "java/lang/invoke/VarHandle" ∧ (parseMethodDescriptor y.desc).map (fun d => d.parameters.length) = some 0) (hR : fr + 1 ≤ rm.frames ∧ 8 + (maxL + 11) + lo ≤ rm.locals) (hj : es[j]? = some (.inr o1)) (hn : n0 + es.length = n1) (hes : es.set j (.inr o1') ++ es1 = es') (hcat : (st.map fun v => v.category).sum ≤ 8) (hk : k + mc ≤ rm.cells ∧ w + ms ≤ rm.slots) (d : decode cc pc = .ok (.invokespecial idx, 3))
    (K : xg F (k + mc) (w + ms) (pc + 3) L st (xK G.1 h0 o n0 es')) : xg F k w pc L (.ref (n0 + j) :: st) (xK G.1 h0 o n0 es) := by
  obtain ⟨p, l, e, R, s, m, args, below, meth, c, A, H0, Q⟩ := F
  obtain ⟨hx, hb, hml, hown, hts, rfl⟩ := C
  obtain ⟨hK, hover, -, hA, -⟩ := V
  intro H locs ls hI hS hL
  have hAf : ∀ q : Nat, (q = n0 + j ∨ n1 ≤ q) → A q := fun q h => by
    rw [hA]
    rcases h with h | h
    · exact Or.inr (by omega)
    · exact Or.inr (by omega)
  refine va_callv (va_runI (As := []) (rest := st) (b := n0 + j) ⟨hx, hb, hml, hown, hts⟩ (hM l) (cwI 0 hts g hw rfl rfl (hts _ hini) (hts _ hlk) (hts _ him) hy1 hd hR) ⟨xk_blind, fun U hU hW => ⟨rfl, by rw [hU]; exact ⟨hI.2.2.2 j _ hj, by rw [← hn]; have := (List.getElem?_eq_some_iff.mp hj).1; omega, by rw [hI.2.2.1, hn]; rfl, fun k e h => by simp at h⟩, va_K.moved hW.alike hK, xAOA_moved hW.alike hover⟩⟩ rfl rfl (hL.1.trans hml) rfl (lv_room hcat) d hk) hS (fun q _ h => hAf q h) hAf (fun u t H1 locs1 ht hvm hr2 hB hz1 hk1 hS1 => ?_)
  rw [ht] at hB
  exact K H1 locs1 ls (xk_step hI hj hn hes hB hk1) hS1 hL
theorem xk_callIN (C : xC F cc nL own Ws rm) (V : xKV F G h0 n0) {y : MethodName} {ws ws' : List Cond} {bytes : ByteArray} {host : String} {maxL idx fr mc ms lo j n1 : Nat} {o1 o1' : Nat × List Value} {es1 es' : List va_E} (hM : ∀ l, xMk l G y ws fr mc ms lo (n0 + j) o1 n1 o1' es1) (g : GoodIn Ws ws) (hw : ws = Cond.code y bytes maxL none :: ws') (hini : Cond.initialized y.cls ∈ Ws) (hlk : ∀ s : State, xst_of F = s → va_Nw (.methodLinkNest own idx y host) s) (him : Cond.instanceMethod y ∈ Ws) (hy1 : y.name = "<init>")
    (hd : y.cls ≠ "java/lang/invoke/MethodHandle" ∧ y.cls ≠ "java/lang/invoke/VarHandle" ∧ (parseMethodDescriptor y.desc).map (fun d => d.parameters.length) = some 0) (hR : fr + 1 ≤ rm.frames ∧ 8 + (maxL + 11) + lo ≤ rm.locals) (hj : es[j]? = some (.inr o1)) (hn : n0 + es.length = n1) (hes : es.set j (.inr o1') ++ es1 = es') (hcat : (st.map fun v => v.category).sum ≤ 8) (hk : k + mc ≤ rm.cells ∧ w + ms ≤ rm.slots) (d : decode cc pc = .ok (.invokespecial idx, 3))
    (K : xg F (k + mc) (w + ms) (pc + 3) L st (xK G.1 h0 o n0 es')) : xg F k w pc L (.ref (n0 + j) :: st) (xK G.1 h0 o n0 es) := by
  obtain ⟨p, l, e, R, s, m, args, below, meth, c, A, H0, Q⟩ := F
  obtain ⟨hx, hb, hml, hown, hts, rfl⟩ := C
  obtain ⟨hK, hover, -, hA, -⟩ := V
  intro H locs ls hI hS hL
  have hAf : ∀ q : Nat, (q = n0 + j ∨ n1 ≤ q) → A q := fun q h => by
    rw [hA]
    rcases h with h | h
    · exact Or.inr (by omega)
    · exact Or.inr (by omega)
  refine va_callv (va_runIN (As := []) (rest := st) (b := n0 + j) (host := host) ⟨hx, hb, hml, hown, hts⟩ (hM l) ⟨va_cnB 0 hts g hw rfl rfl (hlk s rfl) (hts _ hini) hd hR, hy1, hts _ him⟩ ⟨xk_blind, fun U hU hW => ⟨rfl, by rw [hU]; exact ⟨hI.2.2.2 j _ hj, by rw [← hn]; have := (List.getElem?_eq_some_iff.mp hj).1; omega, by rw [hI.2.2.1, hn]; rfl, fun k e h => by simp at h⟩, va_K.moved hW.alike hK, xAOA_moved hW.alike hover⟩⟩ rfl rfl (hL.1.trans hml) rfl (lv_room hcat) d hk) hS (fun q _ h => hAf q h) hAf (fun u t H1 locs1 ht hvm hr2 hB hz1 hk1 hS1 => ?_)
  rw [ht] at hB
  exact K H1 locs1 ls (xk_step hI hj hn hes hB hk1) hS1 hL
end XCTOR3
