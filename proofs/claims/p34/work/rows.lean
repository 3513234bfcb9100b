section
-- ===== PART A: goes FIRST, ahead of the names: the tables' words, and 'selects' of the private methods out of them =====
/-- a private method of a class that the tables say can be made, by its rows of tables_1 -/
def lw_okq (q : MethodName × Nat) : Prop := (q.1.cls ≠ "java/lang/invoke/MethodHandle" ∧ q.1.cls ≠ "java/lang/invoke/VarHandle") ∧ Cond.instantiable q.1.cls q.2 ∈ tables_1 ∧ Cond.privateMethod q.1 ∈ tables_1 ∧ Cond.instanceMethod q.1 ∈ tables_1
theorem lw_p0 : lw_okq (⟨"java/lang/Throwable", "fillInStackTrace", "(I)Ljava/lang/Throwable;"⟩, 6) := ⟨⟨by decide +kernel, by decide +kernel⟩, List.mem_of_getElem? (i := 221) (by decide +kernel), List.mem_of_getElem? (i := 219) (by decide +kernel), List.mem_of_getElem? (i := 220) (by decide +kernel)⟩
theorem lw_p1 : lw_okq (⟨"GossipGates", "passOneTick", "()I"⟩, 4) := ⟨⟨by decide +kernel, by decide +kernel⟩, List.mem_of_getElem? (i := 13) (by decide +kernel), List.mem_of_getElem? (i := 322) (by decide +kernel), List.mem_of_getElem? (i := 323) (by decide +kernel)⟩
theorem lw_p2 : lw_okq (⟨"GossipGates$River", "receive", "(II)V"⟩, 8) := ⟨⟨by decide +kernel, by decide +kernel⟩, List.mem_of_getElem? (i := 21) (by decide +kernel), List.mem_of_getElem? (i := 330) (by decide +kernel), List.mem_of_getElem? (i := 331) (by decide +kernel)⟩
theorem lw_p3 : lw_okq (⟨"GossipGates$River", "moveOn", "(II)V"⟩, 8) := ⟨⟨by decide +kernel, by decide +kernel⟩, List.mem_of_getElem? (i := 21) (by decide +kernel), List.mem_of_getElem? (i := 345) (by decide +kernel), List.mem_of_getElem? (i := 346) (by decide +kernel)⟩
theorem lw_p4 : lw_okq (⟨"GossipGates$Net", "measure", "(III)V"⟩, 12) := ⟨⟨by decide +kernel, by decide +kernel⟩, List.mem_of_getElem? (i := 104) (by decide +kernel), List.mem_of_getElem? (i := 361) (by decide +kernel), List.mem_of_getElem? (i := 362) (by decide +kernel)⟩
theorem lw_p5 : lw_okq (⟨"GossipGates$Net", "call", "(II)V"⟩, 12) := ⟨⟨by decide +kernel, by decide +kernel⟩, List.mem_of_getElem? (i := 104) (by decide +kernel), List.mem_of_getElem? (i := 369) (by decide +kernel), List.mem_of_getElem? (i := 370) (by decide +kernel)⟩
theorem lw_p6 : lw_okq (⟨"GossipGates$Net", "isCallable", "(IIZ)Z"⟩, 12) := ⟨⟨by decide +kernel, by decide +kernel⟩, List.mem_of_getElem? (i := 104) (by decide +kernel), List.mem_of_getElem? (i := 377) (by decide +kernel), List.mem_of_getElem? (i := 378) (by decide +kernel)⟩
theorem lw_p7 : lw_okq (⟨"GossipGates$Net", "tellOneAnother", "(III)V"⟩, 12) := ⟨⟨by decide +kernel, by decide +kernel⟩, List.mem_of_getElem? (i := 104) (by decide +kernel), List.mem_of_getElem? (i := 381) (by decide +kernel), List.mem_of_getElem? (i := 382) (by decide +kernel)⟩
theorem lw_p8 : lw_okq (⟨"GossipGates$Net", "takeNews", "(III)V"⟩, 12) := ⟨⟨by decide +kernel, by decide +kernel⟩, List.mem_of_getElem? (i := 104) (by decide +kernel), List.mem_of_getElem? (i := 385) (by decide +kernel), List.mem_of_getElem? (i := 386) (by decide +kernel)⟩
theorem lw_p9 : lw_okq (⟨"GossipGates$Net", "takeBeat", "(IIII)V"⟩, 12) := ⟨⟨by decide +kernel, by decide +kernel⟩, List.mem_of_getElem? (i := 104) (by decide +kernel), List.mem_of_getElem? (i := 389) (by decide +kernel), List.mem_of_getElem? (i := 390) (by decide +kernel)⟩
theorem lw_p10 : lw_okq (⟨"GossipGates$Net", "lookAtOthers", "(II)V"⟩, 12) := ⟨⟨by decide +kernel, by decide +kernel⟩, List.mem_of_getElem? (i := 104) (by decide +kernel), List.mem_of_getElem? (i := 397) (by decide +kernel), List.mem_of_getElem? (i := 398) (by decide +kernel)⟩
theorem lw_p11 : lw_okq (⟨"GossipGates$Net", "statusAfter", "(I)I"⟩, 12) := ⟨⟨by decide +kernel, by decide +kernel⟩, List.mem_of_getElem? (i := 104) (by decide +kernel), List.mem_of_getElem? (i := 401) (by decide +kernel), List.mem_of_getElem? (i := 402) (by decide +kernel)⟩
theorem lw_p12 : lw_okq (⟨"GossipGates", "ruleGates", "()V"⟩, 4) := ⟨⟨by decide +kernel, by decide +kernel⟩, List.mem_of_getElem? (i := 13) (by decide +kernel), List.mem_of_getElem? (i := 405) (by decide +kernel), List.mem_of_getElem? (i := 406) (by decide +kernel)⟩
theorem lw_p13 : lw_okq (⟨"GossipGates", "ruleGate", "(I)V"⟩, 4) := ⟨⟨by decide +kernel, by decide +kernel⟩, List.mem_of_getElem? (i := 13) (by decide +kernel), List.mem_of_getElem? (i := 409) (by decide +kernel), List.mem_of_getElem? (i := 410) (by decide +kernel)⟩
theorem lw_p14 : lw_okq (⟨"GossipGates$Net", "countHolders", "(II)I"⟩, 12) := ⟨⟨by decide +kernel, by decide +kernel⟩, List.mem_of_getElem? (i := 104) (by decide +kernel), List.mem_of_getElem? (i := 514) (by decide +kernel), List.mem_of_getElem? (i := 515) (by decide +kernel)⟩
def lw_privs_1 : List (MethodName × Nat) := [(⟨"java/lang/Throwable", "fillInStackTrace", "(I)Ljava/lang/Throwable;"⟩, 6), (⟨"GossipGates", "passOneTick", "()I"⟩, 4), (⟨"GossipGates$River", "receive", "(II)V"⟩, 8), (⟨"GossipGates$River", "moveOn", "(II)V"⟩, 8), (⟨"GossipGates$Net", "measure", "(III)V"⟩, 12), (⟨"GossipGates$Net", "call", "(II)V"⟩, 12), (⟨"GossipGates$Net", "isCallable", "(IIZ)Z"⟩, 12), (⟨"GossipGates$Net", "tellOneAnother", "(III)V"⟩, 12), (⟨"GossipGates$Net", "takeNews", "(III)V"⟩, 12), (⟨"GossipGates$Net", "takeBeat", "(IIII)V"⟩, 12), (⟨"GossipGates$Net", "lookAtOthers", "(II)V"⟩, 12), (⟨"GossipGates$Net", "statusAfter", "(I)I"⟩, 12), (⟨"GossipGates", "ruleGates", "()V"⟩, 4), (⟨"GossipGates", "ruleGate", "(I)V"⟩, 4), (⟨"GossipGates$Net", "countHolders", "(II)I"⟩, 12)]
theorem lw_r1 : ∀ q ∈ lw_privs_1, lw_okq q := List.forall_mem_cons.mpr ⟨lw_p0, List.forall_mem_cons.mpr ⟨lw_p1, List.forall_mem_cons.mpr ⟨lw_p2, List.forall_mem_cons.mpr ⟨lw_p3, List.forall_mem_cons.mpr ⟨lw_p4, List.forall_mem_cons.mpr ⟨lw_p5, List.forall_mem_cons.mpr ⟨lw_p6, List.forall_mem_cons.mpr ⟨lw_p7, List.forall_mem_cons.mpr ⟨lw_p8, List.forall_mem_cons.mpr ⟨lw_p9, List.forall_mem_cons.mpr ⟨lw_p10, List.forall_mem_cons.mpr ⟨lw_p11, List.forall_mem_cons.mpr ⟨lw_p12, List.forall_mem_cons.mpr ⟨lw_p13, List.forall_mem_cons.mpr ⟨lw_p14, fun _ h => absurd h List.not_mem_nil⟩⟩⟩⟩⟩⟩⟩⟩⟩⟩⟩⟩⟩⟩⟩
def lw_privs : List (MethodName × Nat) := lw_privs_1
def lw_tbl : List Cond := k2_sels lw_privs ++ tables_1
theorem lw_privs_ok : ∀ q ∈ lw_privs, lw_okq q := lw_r1
end
section
/-! ===== BEGIN words of one list among another's, by their places ===== -/
theorem goodIn_r {big : List Cond} (ws : List Cond) (ps : List Nat) (hp : ws = ps.filterMap (fun i => big[i]?)) (h : ws.all goodWord = true) : GoodIn big ws := by
  intro w hw
  have h1 := List.all_eq_true.mp h w hw
  rw [hp] at hw
  obtain ⟨i, -, hi⟩ := List.mem_filterMap.mp hw
  have hm : w ∈ big := by first | exact List.mem_of_getElem? hi | exact List.getElem?_mem hi
  exact ⟨hm, good_of_word h1⟩
theorem goodIn_app {big a b : List Cond} (ha : GoodIn big a) (hb : GoodIn big b) : GoodIn big (a ++ b) := fun w h => (List.mem_append.mp h).elim (ha w) (hb w)
theorem goodIn_ca {big a b : List Cond} {c : Cond} (ha : GoodIn big (c :: a)) (hb : GoodIn big b) : GoodIn big (c :: (a ++ b)) := fun w h => (List.mem_cons.mp h).elim (fun e => ha w (List.mem_cons.mpr (Or.inl e))) (fun h => (List.mem_append.mp h).elim (fun h => ha w (List.mem_cons.mpr (Or.inr h))) (hb w))
theorem goodIn_sub {big ws : List Cond} (hm : ∀ w ∈ ws, w ∈ big) (h : ws.all goodWord = true) : GoodIn big ws := fun w hw => ⟨hm w hw, good_of_word (List.all_eq_true.mp h w hw)⟩
/-! ===== END ===== -/

/-! ===== BEGIN new T[n][m]: the outer array a place, the inner ones among the pooled ===== -/
/-- f, but v at every address of l -/
def vr_up {α : Type} (f : Nat → α) (l : List Nat) (v : α) : Nat → α := fun a => if a ∈ l then v else f a
theorem vr_up_in {α : Type} {f : Nat → α} {l : List Nat} {v : α} {a : Nat} (h : a ∈ l) : vr_up f l v a = v := if_pos h
theorem vr_up_ne {α : Type} {f : Nat → α} {l : List Nat} {v : α} {a : Nat} (h : a ∉ l) : vr_up f l v a = f a := if_neg h
theorem vr_rows {L l : List Nat} {f : Nat → va_E} {e : va_E} (h : ∀ a, a ∈ l → a ∉ L) : va_pl L f ++ l.map (fun a => (a, e)) = va_pl (L ++ l) (vr_up f l e) := by
  unfold va_pl
  rw [List.map_append]
  congr 1
  · apply List.map_congr_left
    intro a ha
    rw [vr_up_ne (fun q => h a q ha)]
  · apply List.map_congr_left
    intro a ha
    rw [vr_up_in ha]
theorem vr_lay {X rows : va_W} {x : Nat × va_E} {pl : va_W} {D : va_G} {cl : List vw_C} {H : Heap} (hP : va_P D cl (((X ++ pl) ++ [x]) ++ rows) H) : va_P D cl ((X ++ [x]) ++ (pl ++ rows)) H := by
  rw [List.append_assoc (X ++ pl)] at hP
  have h := va_P.swap hP
  rw [← List.append_assoc X] at h
  have h2 := va_P.swap h
  rw [List.append_assoc (X ++ [x])] at h2
  exact h2
theorem vr_layD {X rows : va_W} {x : Nat × va_E} {pl : va_W} {A : Nat → Prop} (hD : va_D A (((X ++ pl) ++ [x]) ++ rows)) : va_D A ((X ++ [x]) ++ (pl ++ rows)) := by
  rw [List.append_assoc (X ++ pl)] at hD
  have h := va_D.swap hD
  rw [← List.append_assoc X] at h
  have h2 := va_D.swap h
  rw [List.append_assoc (X ++ [x])] at h2
  exact h2
theorem vr_outer (c : ClassId) (N h0 : Nat) : ∀ i : Nat, Jvm.Free.Multi.outerC c N h0 i = arrV c N (fun j => va_rf (if j < i then some (h0 + 1 + j) else none))
  | 0 => by
    show ({ cls := c, slots := Array.replicate N .null, vm := .none } : Cell) = _
    rw [arrV_new]
    refine congrArg (arrV c N) (funext fun j => ?_)
    simp [va_rf]
  | i + 1 => by
    show (Jvm.Free.Multi.outerC c N h0 i).setSlot i (.ref (h0 + 1 + i)) = _
    rw [vr_outer c N h0 i, arrV_store]
    refine congrArg (arrV c N) (funext fun j => ?_)
    by_cases e : j = i
    · subst e
      simp [updV, va_rf]
    · by_cases h : j < i
      · simp [updV, e, h, Nat.lt_succ_of_lt h]
      · simp [updV, e, h, show ¬ j < i + 1 by omega]
/-- the class of arrays over arrays of ty is known (the printed names speak of it; the kit has it not) -/
def va_AOA (ty : FieldType) (U : State) : Prop := (Cond.arrayOver (.array ty)).before #[] U = true
theorem va_AOA.of {ty : FieldType} {A : Array Value} {U : State} (h : (Cond.arrayOver (.array ty)).before A U = true) : va_AOA ty U := h
theorem va_AOA.use {ty : FieldType} {A : Array Value} {U : State} (h : va_AOA ty U) : (Cond.arrayOver (.array ty)).before A U = true := h
section VGM
variable {p : Program} {l : Launch} {e : Env} {R : Room} {s : State} {m : MethodId} {args : Array Value} {below : List Frame} {meth : Method} {c : Code} {H : Heap} {locs : List Loc} {cells slots : Nat} {Q : State → Prop}
variable {cc : ByteArray} {pc : Nat} {ls : Array Slot} {rest : List Value} {D : va_G} {cl : List vw_C} {A : Nat → Prop} {a : Nat} {tys : List (ClassId × FieldType)} {ws : va_W} {H0 : Heap}
theorem va_mna {X : va_W} {L : List Nat} {f : Nat → va_E} {cc : ByteArray} (hexec : p.tables.exec = Jvm.exec) (hb : c.code = cc) {own : String} {index : Nat} {ty : FieldType} {cy : ClassId} (hown : s.vm.findClass own = some m.cls) (hclink : (Cond.classLink own index ("[" ++ (FieldType.array ty).toString)).before args s = true) (hover : va_AOA ty s) (harr : (Cond.arrayClass ty).before args s = true) (hcy : s.vm.findClass (FieldType.array ty).toString = some cy)
    (hK : va_K D cl tys s) (hP : va_P D cl (X ++ va_pl L f) H) (hD : va_D A (X ++ va_pl L f)) (hS : va_S A H0 H locs) (hA : ∀ q, H0.size ≤ q → A q) {n k : Int32} {N' K' : Nat} {z : vp_A} (hn : ¬ n < 0) (hk : ¬ k < 0) (hN : n.toNatClampNeg = N') (hM : k.toNatClampNeg = K')
    (hb1 : N' * 4 ≤ 536870912) (hb2 : K' * componentBytes ty ≤ 536870912) (hb3 : K' ≤ 536870912) (hdf : fits ty (defaultValue ty) = true) (hdd : (defaultValue ty).isDefault = true) (hcells : cells + (1 + N') ≤ R.cells) (hslots : slots + (N' + N' * K') ≤ R.slots) (hz : ∀ c : ClassId, Jvm.Free.Multi.innerC c K' (defaultValue ty) = vp_cell c z) (hdg : decode cc pc = .ok (.multianewarray index 2, 4))
    (kk : ∀ (q : Nat) (r : Nat → Nat) (cA : ClassId) (H1 : Heap), (∀ i j : Nat, i < N' → j < N' → r i = r j → i = j) → (∀ i : Nat, i < N' → r i ∉ L) → va_K D cl (tys ++ [(cA, .array ty)]) s →
      va_P D cl ((X ++ [(q, .inl (cA, N', .inr (.inr (.inr (.inr (fun i => if i < N' then some (r i) else none))))))]) ++ va_pl (L ++ (List.range N').map r) (vr_up f ((List.range N').map r) (.inl (cy, z)))) H1 → va_D A ((X ++ [(q, .inl (cA, N', .inr (.inr (.inr (.inr (fun i => if i < N' then some (r i) else none))))))]) ++ va_pl (L ++ (List.range N').map r) (vr_up f ((List.range N').map r) (.inl (cy, z)))) → va_S A H0 H1 locs →
      W p l e R s m args below meth c H1 locs (cells + 1 + N') (slots + N' + N' * K') Q (F0 m (pc + 4) ls (.ref q :: rest))) : W p l e R s m args below meth c H locs cells slots Q (F0 m pc ls (.int k :: .int n :: rest)) := by
  subst hN
  subst hM
  intro T hT Xs
  obtain ⟨vm₁, cA, comp, -, fA, fC, hO, -, X', step⟩ := Xs.multianewarray2F hexec hown hclink (va_AOA.use hover) harr (g := F0 m pc ls (.int k :: .int n :: rest)) rfl (by rw [hb]; exact hdg) rfl hn hk hb1 hb2 hb3 hdf hdd hcells hslots
  have ec : some cy = some comp := hcy.symm.trans fC
  cases ec
  generalize hF : Jvm.Free.Multi.fill (T.setVm vm₁) cA cy n.toNatClampNeg k.toNatClampNeg (defaultValue ty) n.toNatClampNeg = F at X' step
  have hTh : (T.setVm vm₁).heap = H := hT
  obtain ⟨f1, f2, -, -⟩ := Jvm.Free.Multi.fill_facts (T.setVm vm₁) cA cy n.toNatClampNeg k.toNatClampNeg (defaultValue ty) n.toNatClampNeg
  rw [hF, hTh] at f1 f2
  have hold : ∀ x : Nat, x < H.size → F.heap[x]? = H[x]? := fun x hx => by
    have := Jvm.Free.Multi.fill_old (T.setVm vm₁) cA cy n.toNatClampNeg k.toNatClampNeg (defaultValue ty) (a := x) (by rw [hTh]; exact hx) n.toNatClampNeg
    rw [hF, hTh] at this
    exact this
  have hrow : ∀ j : Nat, j < n.toNatClampNeg → F.heap[H.size + 1 + j]? = some (vp_cell cy z) := fun j hj => by
    have := Jvm.Free.Multi.fill_inner (T.setVm vm₁) cA cy n.toNatClampNeg k.toNatClampNeg (defaultValue ty) n.toNatClampNeg j hj
    rw [hF, hTh, hz] at this
    exact this
  have hout : Jvm.Free.Multi.outerC cA n.toNatClampNeg H.size n.toNatClampNeg = vp_cell cA (n.toNatClampNeg, .inr (.inr (.inr (.inr (fun i => if i < n.toNatClampNeg then some (H.size + 1 + i) else none))))) := by
    rw [vp_cell_q]
    exact vr_outer cA n.toNatClampNeg H.size n.toNatClampNeg
  rw [hout] at f2
  have hlt : ∀ a, a ∈ L → a < H.size := fun a ha => by
    obtain ⟨k9, hk9⟩ := va_pl_get (X := X) (f := f) ha
    exact (hP k9 _ hk9).lt
  have hnl : ∀ i : Nat, i < n.toNatClampNeg → H.size + 1 + i ∉ L := fun i _ h => by
    have := hlt _ h
    omega
  have hnm : ∀ a, a ∈ (List.range n.toNatClampNeg).map (fun i => H.size + 1 + i) → a ∉ L := fun a ha h => by
    obtain ⟨i, -, rfl⟩ := List.mem_map.mp ha
    have := hlt _ h
    omega
  have hP0 : va_P D cl (X ++ va_pl L f) F.heap := hP.kept (fun k9 x hx => hold x.1 ((hP k9 x hx).lt))
  have hP1 : va_P D cl ((X ++ va_pl L f) ++ [(H.size, .inl (cA, n.toNatClampNeg, .inr (.inr (.inr (.inr (fun i => if i < n.toNatClampNeg then some (H.size + 1 + i) else none))))))]) F.heap := hP0.app (fun k9 x hx => by
    have h0 : k9 < 1 := (List.getElem?_eq_some_iff.mp hx).1
    rw [show k9 = 0 by omega] at hx
    cases hx
    exact f2)
  have hP2 : va_P D cl (((X ++ va_pl L f) ++ [(H.size, .inl (cA, n.toNatClampNeg, .inr (.inr (.inr (.inr (fun i => if i < n.toNatClampNeg then some (H.size + 1 + i) else none))))))]) ++ ((List.range n.toNatClampNeg).map (fun i => H.size + 1 + i)).map (fun a => (a, .inl (cy, z)))) F.heap := hP1.app (fun k9 x hx => by
    obtain ⟨a, ha, rfl⟩ := List.mem_map.mp (List.mem_of_getElem? hx)
    obtain ⟨i, hi, rfl⟩ := List.mem_map.mp ha
    exact hrow i (List.mem_range.mp hi))
  have hD2 : va_D A (((X ++ va_pl L f) ++ [(H.size, .inl (cA, n.toNatClampNeg, .inr (.inr (.inr (.inr (fun i => if i < n.toNatClampNeg then some (H.size + 1 + i) else none))))))]) ++ ((List.range n.toNatClampNeg).map (fun i => H.size + 1 + i)).map (fun a => (a, .inl (cy, z)))) := by
    have hD1 := hD.push (e := .inl (cA, n.toNatClampNeg, .inr (.inr (.inr (.inr (fun i => if i < n.toNatClampNeg then some (H.size + 1 + i) else none)))))) hP rfl (hA _ hS.1)
    generalize hW1 : (X ++ va_pl L f) ++ [(H.size, .inl (cA, n.toNatClampNeg, .inr (.inr (.inr (.inr (fun i => if i < n.toNatClampNeg then some (H.size + 1 + i) else none))))))] = W1 at hD1 hP1 ⊢
    have hle : ∀ (k9 : Nat) (x : Nat × va_E), W1[k9]? = some x → x.1 ≤ H.size := fun k9 x hx => by
      rw [← hW1] at hx
      by_cases hl : k9 < (X ++ va_pl L f).length
      · rw [List.getElem?_append_left hl] at hx
        exact Nat.le_of_lt ((hP k9 x hx).lt)
      · rw [List.getElem?_append_right (by omega)] at hx
        have h0 : k9 - (X ++ va_pl L f).length < 1 := (List.getElem?_eq_some_iff.mp hx).1
        rw [show k9 - (X ++ va_pl L f).length = 0 by omega] at hx
        cases hx
        exact Nat.le_refl _
    have hr : ∀ (k9 : Nat) (x : Nat × va_E), (((List.range n.toNatClampNeg).map (fun i => H.size + 1 + i)).map (fun a => ((a, .inl (cy, z)) : Nat × va_E)))[k9]? = some x → x.1 = H.size + 1 + k9 := fun k9 x hx => by
      rw [List.getElem?_map, List.getElem?_map] at hx
      by_cases h9 : k9 < n.toNatClampNeg
      · rw [List.getElem?_range h9] at hx
        cases hx
        rfl
      · have hn0 : (List.range n.toNatClampNeg)[k9]? = none := List.getElem?_eq_none (by rw [List.length_range]; omega)
        rw [hn0] at hx
        cases hx
    refine ⟨fun i j x y hi hj hxy => ?_, fun k9 x hx => ?_⟩
    · by_cases h1 : i < W1.length <;> by_cases h2 : j < W1.length
      · rw [List.getElem?_append_left h1] at hi
        rw [List.getElem?_append_left h2] at hj
        exact hD1.1 i j x y hi hj hxy
      · rw [List.getElem?_append_left h1] at hi
        rw [List.getElem?_append_right (by omega)] at hj
        have := hle _ _ hi
        have := hr _ _ hj
        omega
      · rw [List.getElem?_append_right (by omega)] at hi
        rw [List.getElem?_append_left h2] at hj
        have := hle _ _ hj
        have := hr _ _ hi
        omega
      · rw [List.getElem?_append_right (by omega)] at hi hj
        have := hr _ _ hi
        have := hr _ _ hj
        omega
    · by_cases h1 : k9 < W1.length
      · rw [List.getElem?_append_left h1] at hx
        exact hD1.2 k9 x hx
      · rw [List.getElem?_append_right (by omega)] at hx
        have := hr _ _ hx
        exact hA _ (by have := hS.1; omega)
  have hAr : ArrOfT s cA (.array ty) := fun N9 z9 => by
    obtain ⟨-, k9, hk9, cm9, hkk9⟩ := (hO 0 0 0).1
    exact ⟨(fun q hq => by cases hq), k9, hk9, cm9, hkk9⟩
  have hK2 : va_K D cl (tys ++ [(cA, .array ty)]) s := ⟨hK.1, fun k9 x hx => by
    by_cases hl : k9 < tys.length
    · rw [List.getElem?_append_left hl] at hx
      exact hK.2 k9 x hx
    · rw [List.getElem?_append_right (by omega)] at hx
      have h0 : k9 - tys.length < 1 := (List.getElem?_eq_some_iff.mp hx).1
      rw [show k9 - tys.length = 0 by omega] at hx
      cases hx
      exact ⟨hAr, fA⟩⟩
  obtain ⟨t, a1, b1⟩ := kk H.size (fun i => H.size + 1 + i) cA F.heap (fun i j _ _ h => by have h9 : H.size + 1 + i = H.size + 1 + j := h; omega) hnl hK2 (by rw [← vr_rows hnm]; exact vr_lay hP2) (by rw [← vr_rows hnm]; exact vr_layD hD2) ⟨by rw [f1]; have := hS.1; omega, fun x h1 h2 => (hold x (Nat.lt_of_lt_of_le h1 hS.1)).trans (hS.2.1 x h1 h2), hS.2.2⟩ F rfl X'
  refine ⟨t, step t ?_, b1⟩
  have e : T.heap.size = H.size := by rw [hT]
  rw [e]
  exact a1
end VGM
/-! ===== END ===== -/

/-! ===== BEGIN exceptions that leave a method, and their catching by the caller (launches without stack traces) ===== -/
section VXA
/-! The laws vx_back, vx_callV, vx_callS, vx_callSW, vx_throw0, vx_throwS follow proofs of the library, with one case more: JvmDerived/Free/Laws.lean (Back.of_free), Shelf42/LK1.lean (callV, callS), Shelf/KitTraced.lean (throwNew0V, throwNewS). -/
/-- where a method has thrown q: the class by its name, the cell, what was written, the world -/
def vx_T (XC : String → State → State → Prop) (st : State) (q : Addr) (t : State) (mc ms : Nat) (free : Addr → Prop) : Prop :=
  ∃ (E : String) (ce : Cell) (L : List Loc), XC E st t ∧ t.heap[q]? = some ce ∧ ce.vm = .none ∧ st.vm.findClass E = some ce.cls ∧ st.WarmedH t.vm ∧ st.sameButNew ({ t with vm := st.vm } : State) L mc ms ∧ ∀ z ∈ L, free z.base
def vx_Q (Qc : Array Value → State → Outcome → State → Prop) (XC : String → State → State → Prop) (mc ms : Nat) (free : Addr → Prop) : Array Value → State → Outcome → State → Prop := fun a st o t =>
  (Qc a st o t ∧ ∃ L, FrameEnd st o t L mc ms ∧ ∀ q ∈ L, free q.base) ∨ ∃ q, o = .threw q ∧ vx_T XC st q t mc ms free
/-- a callee that returns or throws -/
def vx_Met (l : Launch) (y : MethodName) (ws : List Cond) (rm : Room) (Pc : Array Value → State → Prop) (Qc : Array Value → State → Outcome → State → Prop) (XC : String → State → State → Prop) (mc ms : Nat) (free : Addr → Prop) : Prop :=
  MetFree l y (headSpec ws rm) Pc (fun _ _ _ _ _ => True) (vx_Q Qc XC mc ms free)
def vx_Post (XC : String → State → State → Prop) (mc ms : Nat) (free : Addr → Prop) : Pt → Array Value → Addr → Pt → Prop := fun A a q B =>
  ∃ (g : JFrame) (mk : MethodId) (t : State) (L : List Loc) (E : String) (ce : Cell), B.U.heap = t.heap ∧ B.U.vm = t.vm ∧ XC E (A.U.calling g mk a) t ∧ t.heap[q]? = some ce ∧ ce.vm = .none ∧ A.U.vm.findClass E = some ce.cls ∧ B.locs = A.locs ++ L ∧ (∀ z ∈ L, free z.base) ∧ B.cells = A.cells + mc ∧ B.slots = A.slots + ms
def vx_Back (l : Launch) (R : Room) (p : Program) (e : Env) (below : List Frame) (s : State) (sargs : Array Value) (y : MethodName) (len W9 : Nat)
    (Pre : Pt → Array Value → Prop) (Post : Pt → Array Value → Option Value → Pt → Prop) (PostX : Pt → Array Value → Addr → Pt → Prop) : Prop :=
  ∀ (m : MethodId) (meth : Method) (c : Code) (A : Pt) (g : JFrame) (ig : Instr) (mk : MethodId) (a : Array Value),
    Stand p l e R s m sargs below meth c A.U A.locs A.cells A.slots → g.method = m → g.locals.size = c.maxLocals → decode c.code g.pc = .ok (ig, len) →
    2 * g.monitorRoom + (g.stack.map fun v => v.category).sum ≤ W9 → A.U.methodNamed? y = some mk → Pre A a →
    (∃ (v : Option Value) (B : Pt), Stand p l e R s m sargs below meth c B.U B.locs B.cells B.slots ∧ Post A a v B ∧
      Steps p.tables e below (doInvoke e (A.U.setTop g) [] mk a).1 (B.U.setTop { g with pc := g.pc + len, stack := v.toList ++ g.stack })) ∨
    (∃ (q : Addr) (B : Pt), Stand p l e R s m sargs below meth c B.U B.locs B.cells B.slots ∧ PostX A a q B ∧
      Steps p.tables e below (doInvoke e (A.U.setTop g) [] mk a).1 ((B.U.setTop g).pushFrame (.throwing q)))
section Payer
variable {l : Launch} {R : Room} {p : Program} {e : Env} {below : List Frame} {s : State} {sargs : Array Value} {y : MethodName} {len W9 : Nat}
theorem vx_back {ws : List Cond} {rm : Room} {Pc : Array Value → State → Prop} {Qc : Array Value → State → Outcome → State → Prop} {XC : String → State → State → Prop} {mc ms : Nat} {free : Addr → Prop} {bytes : ByteArray} {maxL : Nat} {ret : Option FieldType}
    (hM : vx_Met l y ws rm Pc Qc XC mc ms free) (hblind : FrameBlind Pc) (hrc : rm.cells = mc) (hrs : rm.slots = ms)
    (hframes : rm.frames + 1 ≤ R.frames) (hlocals : W9 + (maxL + 11) + rm.locals ≤ R.locals)
    (hws : ∀ w ∈ ws, ∀ a' U, s.WarmedH U.vm → w.before a' U = true) (hcode : Cond.code y bytes maxL ret ∈ ws) (hinit : ∀ a' U, s.WarmedH U.vm → (Cond.initialized y.cls).before a' U = true) :
    vx_Back l R p e below s sargs y len W9 (PreOf R mc ms Pc) (PostOf Qc mc ms free) (vx_Post XC mc ms free) := by
  intro m meth c A g ig mk a X hg hsize hdg hW hn hp
  have h1 : (headSpec ws rm).pre.before a A.U = true := atoms_intro fun w hw => hws w hw _ _ X.warmed
  have h2 : (Cond.code y bytes maxL ret).before a A.U = true := hws _ hcode _ _ X.warmed
  have h3 : (Cond.initialized y.cls).before a A.U = true := hinit _ _ X.warmed
  have h4 : A.cells + (headSpec ws rm).room.cells ≤ R.cells := by rw [show (headSpec ws rm).room.cells = mc from hrc]; exact hp.1
  have h5 : A.slots + (headSpec ws rm).room.slots ≤ R.slots := by rw [show (headSpec ws rm).room.slots = ms from hrs]; exact hp.2.1
  have hPc : Pc a (A.U.calling g mk a) := hblind _ _ _ _ hp.2.2
  obtain ⟨U, Ls, c0, s0⟩ := A
  dsimp only [Pt.U, Pt.locs, Pt.cells, Pt.slots] at h1 h2 h3 h4 h5 X hn hPc ⊢
  obtain ⟨methY, cY, hmY, hcY, -, hlY, -, -, -, -⟩ := Cond.code_spec hn h2
  obtain ⟨kY, hkY, -⟩ := className_of_methodNamed hn
  have hinitY : kY.init = .initialized := Cond.initialized_spec (findClass_of_methodNamed hn) hkY h3
  have h : At U g.method c below := by rw [hg]; exact X.here
  have hlocals9 : W9 + (maxL + 11) + (headSpec ws rm).room.locals ≤ R.locals := hlocals
  have happ : (headSpec ws rm).appliesLoose y e.platform (U.calling g mk a) = true :=
    Spec.appliesLoose_calling (g := g) h hdg hn hkY hinitY
      (X.room_calling (g := g) (R' := (headSpec ws rm).room) hsize hmY hcY hframes (by rw [hlY]; omega) h4 h5) h1
  obtain ⟨mid, hmid⟩ := h.above
  have hfr : (U.setTop g).frames = (.java g :: mid) ++ below := by rw [State.frames_setTop' g h.top, hmid]; rfl
  obtain ⟨o, s₂, hsteps, -, hend, hq⟩ := Steps.callFree hM p X.admits X.cas X.clock (acts := []) hfr happ hPc trivial
  have hq' : vx_Q Qc XC mc ms free a (U.calling g mk a) o s₂ := hq
  rw [State.frames_setTop' g h.top] at hend
  obtain ⟨g₀, hg0⟩ := Option.isSome_iff_exists.mp h.top
  obtain ⟨r, hr⟩ := State.topJava?_eq_some.mp hg0
  have hr' : (({ U with heap := s₂.heap, slotsUsed := s₂.slotsUsed } : State).setVm s₂.vm).frames = .java g₀ :: r := hr
  rcases hq' with ⟨hqc, L, hfe, hL⟩ | ⟨q, rfl, E, ce, L, hx, hce, hcv, hcl, hW₂, hsm, hL⟩
  · obtain ⟨⟨v, rfl⟩, hW₂, e2, q2, q3, q4, q5, q6⟩ := id hfe
    have e3 : s₂ = ({ (U.calling g mk a).setFrames s₂.frames with heap := s₂.heap, slotsUsed := s₂.slotsUsed } : State).setVm s₂.vm := by
      have : s₂ = ({ s₂ with vm := (U.calling g mk a).vm } : State).setVm s₂.vm := rfl
      rw [e2] at this
      exact this
    obtain ⟨c₂, i₂, len₂, hc₂, hd₂, hf₂⟩ := hend
    have hW' : U.WarmedH s₂.vm := hW₂
    have hcc : c₂ = c := by
      have h1 : s₂.code? g.method = U.code? g.method := by
        rw [State.code?_eq, State.code?_eq, hW'.alike.method?]
      exact Option.some.inj (hc₂.symm.trans (h1.trans h.code))
    subst hcc
    have hlen : len₂ = len := by rw [hdg] at hd₂; cases hd₂; rfl
    subst hlen
    have hs₂ : s₂ = (({ U with heap := s₂.heap, slotsUsed := s₂.slotsUsed } : State).setVm s₂.vm).setTop { g with pc := g.pc + len₂, stack := v.toList ++ g.stack } := by
      refine e3.trans ?_
      rw [hf₂, State.calling_eq h.top, State.setFrames_setFrames, State.setTop_of_frames _ hr', hr]
      rfl
    have hsame : U.sameButNew ({ U with heap := s₂.heap, slotsUsed := s₂.slotsUsed } : State) L mc ms := by
      refine ⟨?_, q2, q3, q4, q5, q6⟩
      obtain ⟨t, ht, -⟩ := State.frames_cons hr
      show ({ U with heap := s₂.heap, slotsUsed := s₂.slotsUsed } : State) = { U.setFrames U.frames with heap := s₂.heap, slotsUsed := s₂.slotsUsed }
      rw [State.setFrames_self ht]
    subst hg
    refine Or.inl ⟨v, ⟨(({ U with heap := s₂.heap, slotsUsed := s₂.slotsUsed } : State).setVm s₂.vm), Ls ++ L, c0 + mc, s0 + ms⟩,
      ⟨X.admits, X.cas, X.clock, X.frames, X.room, X.hears, X.method, X.code, (X.here.setHeapUsed s₂.heap s₂.slotsUsed).setVm hW'.alike, X.tail, State.WarmedH.trans X.warmed hW', X.limits, X.bytes, X.same.trans (hsame.setVm s.vm)⟩,
      ⟨g, mk, s₂, L, rfl, rfl, hqc, rfl, hL, rfl, rfl⟩, ?_⟩
    show Steps p.tables e below _ ((({ U with heap := s₂.heap, slotsUsed := s₂.slotsUsed } : State).setVm s₂.vm).setTop { g with pc := g.pc + len₂, stack := v.toList ++ g.stack })
    rw [← hs₂]
    exact hsteps
  · obtain ⟨e2, q2, q3, q4, q5, q6⟩ := id hsm
    have e3 : s₂ = ({ (U.calling g mk a).setFrames s₂.frames with heap := s₂.heap, slotsUsed := s₂.slotsUsed } : State).setVm s₂.vm := by
      have : s₂ = ({ s₂ with vm := (U.calling g mk a).vm } : State).setVm s₂.vm := rfl
      rw [e2] at this
      exact this
    have hf₂ : s₂.frames = .throwing q :: .java g :: U.frames.tail := hend
    have hW' : U.WarmedH s₂.vm := hW₂
    have hs₂ : s₂ = ((({ U with heap := s₂.heap, slotsUsed := s₂.slotsUsed } : State).setVm s₂.vm).setTop g).pushFrame (.throwing q) := by
      refine e3.trans ?_
      rw [hf₂, State.calling_eq h.top, State.setFrames_setFrames, State.pushFrame, State.frames_setTop _ hr', State.setTop_of_frames _ hr', State.setFrames_setFrames, hr]
      rfl
    have hsame : U.sameButNew ({ U with heap := s₂.heap, slotsUsed := s₂.slotsUsed } : State) L mc ms := by
      refine ⟨?_, q2, q3, q4, q5, q6⟩
      obtain ⟨t, ht, -⟩ := State.frames_cons hr
      show ({ U with heap := s₂.heap, slotsUsed := s₂.slotsUsed } : State) = { U.setFrames U.frames with heap := s₂.heap, slotsUsed := s₂.slotsUsed }
      rw [State.setFrames_self ht]
    subst hg
    refine Or.inr ⟨q, ⟨(({ U with heap := s₂.heap, slotsUsed := s₂.slotsUsed } : State).setVm s₂.vm), Ls ++ L, c0 + mc, s0 + ms⟩,
      ⟨X.admits, X.cas, X.clock, X.frames, X.room, X.hears, X.method, X.code, (X.here.setHeapUsed s₂.heap s₂.slotsUsed).setVm hW'.alike, X.tail, State.WarmedH.trans X.warmed hW', X.limits, X.bytes, X.same.trans (hsame.setVm s.vm)⟩,
      ⟨g, mk, s₂, L, E, ce, rfl, rfl, hx, hce, hcv, hcl, rfl, hL, rfl, rfl⟩, ?_⟩
    show Steps p.tables e below _ (((({ U with heap := s₂.heap, slotsUsed := s₂.slotsUsed } : State).setVm s₂.vm).setTop g).pushFrame (.throwing q))
    rw [← hs₂]
    exact hsteps
end Payer
section Calls
variable {p : Program} {l : Launch} {e : Env} {R : Room} {s : State} {m : MethodId} {args : Array Value} {below : List Frame} {meth : Method} {c : Code} {T : State} {locs : List Loc} {cells slots : Nat}
theorem vx_callV (X : Stand p l e R s m args below meth c T locs cells slots) (hexec : p.tables.exec = Jvm.exec) {own C : String} {index : Nat} {y : MethodName} {bytes : ByteArray} {maxL : Nat} {ret : Option FieldType}
    (hown : s.vm.findClass own = some m.cls) (hlink : (Cond.methodLink own index y).before args s = true) (hinst : (Cond.instanceMethod y).before args s = true) (hsel : (Cond.selects C y y).before args s = true)
    (hcode : (Cond.code y bytes maxL ret).before args s = true) (hy : y.cls ≠ "java/lang/invoke/MethodHandle" ∧ y.cls ≠ "java/lang/invoke/VarHandle")
    {W9 : Nat} {Pre : Pt → Array Value → Prop} {Post : Pt → Array Value → Option Value → Pt → Prop} {PostX : Pt → Array Value → Addr → Pt → Prop} (hK : vx_Back l R p e below s args y 3 W9 Pre Post PostX)
    {b : Addr} {cellB : Cell} (hcell : T.heap[b]? = some cellB) (hobj : cellB.vm.isStatics = false) (hcls : s.vm.findClass C = some cellB.cls)
    {g : JFrame} (hg : g.method = m) (hsize : g.locals.size = c.maxLocals) {argsL rest : List Value} (hlen : ∀ sig, parseMethodDescriptor y.desc = some sig → argsL.length = sig.parameters.length)
    (hstack : g.stack = argsL.reverse ++ .ref b :: rest) (hW : 2 * g.monitorRoom + (rest.map fun v => v.category).sum ≤ W9) (hdg : decode c.code g.pc = .ok (.invokevirtual index, 3))
    (hpre : ∀ vm₁, s.WarmedH vm₁ → Pre ⟨T.setVm vm₁, locs, cells, slots⟩ (Value.ref b :: argsL).toArray) :
    (∃ (v : Option Value) (vm₁ : Vm) (B : Pt), s.WarmedH vm₁ ∧ Stand p l e R s m args below meth c B.U B.locs B.cells B.slots ∧ Post ⟨T.setVm vm₁, locs, cells, slots⟩ (Value.ref b :: argsL).toArray v B ∧
      ∀ target, Steps p.tables e below (B.U.setTop { g with pc := g.pc + 3, stack := v.toList ++ rest }) target → Steps p.tables e below (T.setTop g) target) ∨
    (∃ (q : Addr) (vm₁ : Vm) (B : Pt), s.WarmedH vm₁ ∧ Stand p l e R s m args below meth c B.U B.locs B.cells B.slots ∧ PostX ⟨T.setVm vm₁, locs, cells, slots⟩ (Value.ref b :: argsL).toArray q B ∧
      Steps p.tables e below (T.setTop g) ((B.U.setTop { g with stack := rest }).pushFrame (.throwing q))) := by
  obtain ⟨mk, methM, hnamed, hmethM, hstM, habM⟩ := Cond.instanceMethod_spec hinst
  obtain ⟨methM', cM, hmethM', -, -, -, -, -, -, hsigM⟩ := Cond.code_spec hnamed hcode
  cases hmethM.symm.trans hmethM'
  obtain ⟨c2, r2, m2, q1, q2, q3, q4, kP, hkP, hkPi⟩ := Cond.selects_spec hsel
  cases hcls.symm.trans q1
  cases (State.methodFound?_of_named hnamed hy).symm.trans q2
  cases hnamed.symm.trans q3
  have hselP : selectMethod e.platform s.vm cellB.cls mk = .method mk := by rw [Launch.admits_selectMethod X.admits]; exact q4
  obtain ⟨vm₁, X₁, hstep₁⟩ := X.invokevirtual hexec hown hlink hnamed hmethM hstM hkP hkPi hy (a := b) (cell := cellB) hcell
    (fun z h => by rw [h] at hobj; cases hobj) hselP hmethM habM hkP hkPi (g := g) hg (argsL := argsL) (rest := rest) (hlen _ hsigM) hstack hdg
  rcases hK m meth c ⟨T.setVm vm₁, locs, cells, slots⟩ { g with stack := rest } (.invokevirtual index) mk (Value.ref b :: argsL).toArray X₁ hg hsize hdg hW (X₁.named hnamed) (hpre vm₁ X₁.warmed) with ⟨v, B, X', hpost, hsteps⟩ | ⟨q, B, X', hpost, hsteps⟩
  · exact Or.inl ⟨v, vm₁, B, X₁.warmed, X', hpost, fun target h => hstep₁ _ fun acts => by rw [doInvoke_state]; exact hsteps.trans h⟩
  · exact Or.inr ⟨q, vm₁, B, X₁.warmed, X', hpost, hstep₁ _ fun acts => by rw [doInvoke_state]; exact hsteps⟩
theorem vx_callS (X : Stand p l e R s m args below meth c T locs cells slots) (hexec : p.tables.exec = Jvm.exec) {own : String} {index : Nat} {y : MethodName} {bytes : ByteArray} {maxL : Nat} {ret : Option FieldType}
    (hown : s.vm.findClass own = some m.cls) (hlink : (Cond.methodLink own index y).before args s = true) (hstat : (Cond.static y).before args s = true) (hinit : (Cond.initialized y.cls).before args s = true)
    (hcode : (Cond.code y bytes maxL ret).before args s = true) (hy : y.cls ≠ "java/lang/invoke/MethodHandle" ∧ y.cls ≠ "java/lang/invoke/VarHandle")
    {W9 : Nat} {Pre : Pt → Array Value → Prop} {Post : Pt → Array Value → Option Value → Pt → Prop} {PostX : Pt → Array Value → Addr → Pt → Prop} (hK : vx_Back l R p e below s args y 3 W9 Pre Post PostX)
    {g : JFrame} (hg : g.method = m) (hsize : g.locals.size = c.maxLocals) {argsL rest : List Value} (hlen : ∀ sig, parseMethodDescriptor y.desc = some sig → argsL.length = sig.parameters.length)
    (hstack : g.stack = argsL.reverse ++ rest) (hW : 2 * g.monitorRoom + (rest.map fun v => v.category).sum ≤ W9) (hdg : decode c.code g.pc = .ok (.invokestatic index, 3))
    (hpre : ∀ vm₁, s.WarmedH vm₁ → Pre ⟨T.setVm vm₁, locs, cells, slots⟩ argsL.toArray) :
    (∃ (v : Option Value) (vm₁ : Vm) (B : Pt), s.WarmedH vm₁ ∧ Stand p l e R s m args below meth c B.U B.locs B.cells B.slots ∧ Post ⟨T.setVm vm₁, locs, cells, slots⟩ argsL.toArray v B ∧
      ∀ target, Steps p.tables e below (B.U.setTop { g with pc := g.pc + 3, stack := v.toList ++ rest }) target → Steps p.tables e below (T.setTop g) target) ∨
    (∃ (q : Addr) (vm₁ : Vm) (B : Pt), s.WarmedH vm₁ ∧ Stand p l e R s m args below meth c B.U B.locs B.cells B.slots ∧ PostX ⟨T.setVm vm₁, locs, cells, slots⟩ argsL.toArray q B ∧
      Steps p.tables e below (T.setTop g) ((B.U.setTop { g with stack := rest }).pushFrame (.throwing q))) := by
  obtain ⟨mk, hnamed⟩ := Cond.code_named hcode
  obtain ⟨methM, cM, hmethM, -, -, -, -, -, -, hsigM⟩ := Cond.code_spec hnamed hcode
  have hstatic : methM.isStatic = true := Cond.static_spec hnamed hmethM hstat
  obtain ⟨kP, hkP, -⟩ := className_of_methodNamed hnamed
  have hinitP : kP.init = .initialized := Cond.initialized_spec (findClass_of_methodNamed hnamed) hkP hinit
  obtain ⟨vm₁, X₁, hstep₁⟩ := X.invokestatic hexec hown hlink hnamed hmethM hstatic hkP hinitP hy (g := g) hg (argsL := argsL) (rest := rest) (hlen _ hsigM) hstack hdg
  rcases hK m meth c ⟨T.setVm vm₁, locs, cells, slots⟩ { g with stack := rest } (.invokestatic index) mk argsL.toArray X₁ hg hsize hdg hW (X₁.named hnamed) (hpre vm₁ X₁.warmed) with ⟨v, B, X', hpost, hsteps⟩ | ⟨q, B, X', hpost, hsteps⟩
  · exact Or.inl ⟨v, vm₁, B, X₁.warmed, X', hpost, fun target h => hstep₁ _ fun acts => by rw [doInvoke_state]; exact hsteps.trans h⟩
  · exact Or.inr ⟨q, vm₁, B, X₁.warmed, X', hpost, hstep₁ _ fun acts => by rw [doInvoke_state]; exact hsteps⟩
end Calls
theorem vx_cls {s : State} {T : State} {vm₁ : Vm} {E : String} {k : ClassId} (hW : s.WarmedH vm₁) (h : (T.setVm vm₁).vm.findClass E = some k) : s.vm.findClass E = some k := by
  have h1 : vm₁.findClass E = some k := h
  rw [hW.alike.findClass] at h1
  exact h1
/-- the method's frame g, with q thrown over it -/
def vx_W (p : Program) (l : Launch) (e : Env) (R : Room) (s : State) (m : MethodId) (args : Array Value) (below : List Frame) (meth : Method) (c : Code) (H : Heap) (locs : List Loc) (cells slots : Nat) (Q : State → Prop) (g : JFrame) (q : Addr) : Prop :=
  ∀ T : State, T.heap = H → Stand p l e R s m args below meth c T locs cells slots → ∃ t, Steps p.tables e below ((T.setTop g).pushFrame (.throwing q)) t ∧ Q t
def vx_Run (p : Program) (l : Launch) (e : Env) (R : Room) (s : State) (m : MethodId) (args : Array Value) (below : List Frame) (meth : Method) (c : Code) (H : Heap) (locs : List Loc) (cells slots mc ms : Nat) (g : JFrame) (rest : List Value) (Qa : State → Outcome → State → Prop) (XC : String → State → State → Prop) (free : Addr → Prop) : Prop :=
  ∀ T : State, T.heap = H → Stand p l e R s m args below meth c T locs cells slots →
    (∃ (v : Option Value) (st₀ t T' : State) (L : List Loc), st₀.heap = H ∧ Stand p l e R s m args below meth c T' (locs ++ L) (cells + mc) (slots + ms) ∧ (∀ q ∈ L, free q.base) ∧ T'.heap = t.heap ∧ T'.vm = t.vm ∧ Qa st₀ (.returned v) t ∧
      Goes p e below T g T' { g with pc := g.pc + 3, stack := v.toList ++ rest }) ∨
    (∃ (q : Addr) (st₀ t T' : State) (L : List Loc) (E : String) (ce : Cell), st₀.heap = H ∧ Stand p l e R s m args below meth c T' (locs ++ L) (cells + mc) (slots + ms) ∧ (∀ z ∈ L, free z.base) ∧ T'.heap = t.heap ∧ T'.vm = t.vm ∧ XC E st₀ t ∧ t.heap[q]? = some ce ∧ ce.vm = .none ∧ s.vm.findClass E = some ce.cls ∧
      Steps p.tables e below (T.setTop g) ((T'.setTop { g with stack := rest }).pushFrame (.throwing q)))
def vx_X {S : Type} (px : S → Prop) (B : String → S → State → Prop) (A : Nat → Prop) : String → State → State → Prop := fun E st t => ∃ u : S, px u ∧ B E u t ∧ va_F A st t
section Runs
variable {p : Program} {l : Launch} {e : Env} {R : Room} {s : State} {m : MethodId} {args : Array Value} {below : List Frame} {meth : Method} {c : Code} {H : Heap} {locs : List Loc} {cells slots : Nat}
variable {y : MethodName} {bytes cc : ByteArray} {maxL nL mc ms n index : Nat} {ret : Option FieldType} {ws : List Cond} {rm : Room} {Pc : Array Value → State → Prop} {Qc : Array Value → State → Outcome → State → Prop} {XC : String → State → State → Prop} {free : Addr → Prop} {Ts : List Cond} {own C : String} {b : Addr} {As rest : List Value} {g : JFrame}
theorem vx_callBack (cb : CallB R s args own index y bytes maxL ret ws rm mc ms n) (hM : vx_Met l y ws rm Pc Qc XC mc ms free) (hbl : FrameBlind Pc) : vx_Back l R p e below s args y 3 8 (PreOf R mc ms Pc) (PostOf Qc mc ms free) (vx_Post XC mc ms free) := by
  obtain ⟨hrc, hrs, hfr, hlo, hws, hcw, -, hini, -⟩ := cb
  exact vx_back (bytes := bytes) (maxL := maxL) (ret := ret) hM hbl hrc hrs hfr hlo hws hcw (fun a' U hW => word_at hW (Or.inl (by first | rfl | simp [Cond.onTables, Cond.keeps, Cond.steady])) hini)
theorem vx_runV (S : CallFix p m c cc nL s args Ts own) (hM : vx_Met l y ws rm Pc Qc XC mc ms free) (cw : CallW R s args own C index y bytes maxL ret ws rm mc ms n) (hp : PreV s H C b Pc As)
    (hg : g.method = m) (hn : As.length = n) (hsize : g.locals.size = nL) (hstack : g.stack = As.reverse ++ .ref b :: rest) (hW : 2 * g.monitorRoom + (rest.map fun v => v.category).sum ≤ 8) (hdg : decode cc g.pc = .ok (.invokevirtual index, 3)) (hf : cells + mc ≤ R.cells ∧ slots + ms ≤ R.slots) :
    vx_Run p l e R s m args below meth c H locs cells slots mc ms g rest (Qc (Value.ref b :: As).toArray) XC free := by
  have hK : vx_Back l R p e below s args y 3 8 (PreOf R mc ms Pc) (PostOf Qc mc ms free) (vx_Post XC mc ms free) := vx_callBack cw.1 hM hp.1
  obtain ⟨⟨-, -, -, -, -, -, hcode, -, hy, hlen, hl⟩, hin, hse⟩ := cw
  obtain ⟨hx, hb, hml, ho, -⟩ := S
  obtain ⟨-, ⟨cellB, hcB, hoB, hclB⟩, hPc⟩ := hp
  intro T hT X
  rcases vx_callV X hx (C := C) (bytes := bytes) (maxL := maxL) (ret := ret) ho hl hin hse hcode hy hK (by rw [hT]; exact hcB) hoB hclB hg (hsize.trans hml.symm) (argsL := As) (rest := rest) (fun sig h => hn.trans (hlen sig h)) hstack hW (by rw [hb]; exact hdg)
    (fun vm₁ hW₁ => ⟨hf.1, hf.2, hPc (T.setVm vm₁) hT hW₁⟩) with ⟨v, vm₁, ⟨U', l2, c2, s2⟩, hW₁, X', ⟨g', mk, t, L, e1, e2, hq, h1, hL, h2, h3⟩, st⟩ | ⟨q, vm₁, ⟨U', l2, c2, s2⟩, hW₁, X', ⟨g', mk, t, L, E, ce, e1, e2, hq, hce, hcv, hcl, h1, hL, h2, h3⟩, st⟩
  · dsimp only [Pt.U, Pt.locs, Pt.cells, Pt.slots] at X' e1 e2 h1 h2 h3 st
    subst h1; subst h2; subst h3
    exact Or.inl ⟨v, (T.setVm vm₁).calling g' mk (Value.ref b :: As).toArray, t, U', L, hT, X', hL, e1, e2, hq, st⟩
  · dsimp only [Pt.U, Pt.locs, Pt.cells, Pt.slots] at X' e1 e2 h1 h2 h3 st hcl
    subst h1; subst h2; subst h3
    exact Or.inr ⟨q, (T.setVm vm₁).calling g' mk (Value.ref b :: As).toArray, t, U', L, E, ce, hT, X', hL, e1, e2, hq, hce, hcv, vx_cls hW₁ hcl, st⟩
theorem vx_runS (S : CallFix p m c cc nL s args Ts own) (hM : vx_Met l y ws rm Pc Qc XC mc ms free) (cw : CallB R s args own index y bytes maxL ret ws rm mc ms n ∧ (Cond.static y).before args s = true) (hp : PreS s H Pc As)
    (hg : g.method = m) (hn : As.length = n) (hsize : g.locals.size = nL) (hstack : g.stack = As.reverse ++ rest) (hW : 2 * g.monitorRoom + (rest.map fun v => v.category).sum ≤ 8) (hdg : decode cc g.pc = .ok (.invokestatic index, 3)) (hf : cells + mc ≤ R.cells ∧ slots + ms ≤ R.slots) :
    vx_Run p l e R s m args below meth c H locs cells slots mc ms g rest (Qc As.toArray) XC free := by
  have hK : vx_Back l R p e below s args y 3 8 (PreOf R mc ms Pc) (PostOf Qc mc ms free) (vx_Post XC mc ms free) := vx_callBack cw.1 hM hp.1
  obtain ⟨⟨-, -, -, -, -, -, hcode, hini, hy, hlen, hl⟩, hstt⟩ := cw
  obtain ⟨hx, hb, hml, ho, -⟩ := S
  intro T hT X
  rcases vx_callS X hx (bytes := bytes) (maxL := maxL) (ret := ret) ho hl hstt hini hcode hy hK hg (hsize.trans hml.symm) (argsL := As) (rest := rest) (fun sig h => hn.trans (hlen sig h)) hstack hW (by rw [hb]; exact hdg)
    (fun vm₁ hW₁ => ⟨hf.1, hf.2, hp.2 (T.setVm vm₁) hT hW₁⟩) with ⟨v, vm₁, ⟨U', l2, c2, s2⟩, hW₁, X', ⟨g', mk, t, L, e1, e2, hq, h1, hL, h2, h3⟩, st⟩ | ⟨q, vm₁, ⟨U', l2, c2, s2⟩, hW₁, X', ⟨g', mk, t, L, E, ce, e1, e2, hq, hce, hcv, hcl, h1, hL, h2, h3⟩, st⟩
  · dsimp only [Pt.U, Pt.locs, Pt.cells, Pt.slots] at X' e1 e2 h1 h2 h3 st
    subst h1; subst h2; subst h3
    exact Or.inl ⟨v, (T.setVm vm₁).calling g' mk As.toArray, t, U', L, hT, X', hL, e1, e2, hq, st⟩
  · dsimp only [Pt.U, Pt.locs, Pt.cells, Pt.slots] at X' e1 e2 h1 h2 h3 st hcl
    subst h1; subst h2; subst h3
    exact Or.inr ⟨q, (T.setVm vm₁).calling g' mk As.toArray, t, U', L, E, ce, hT, X', hL, e1, e2, hq, hce, hcv, vx_cls hW₁ hcl, st⟩
end Runs
section Rows
variable {p : Program} {l : Launch} {e : Env} {R : Room} {s : State} {m : MethodId} {args : Array Value} {below : List Frame} {meth : Method} {c : Code} {H : Heap} {locs : List Loc} {cells slots : Nat} {Q : State → Prop}
variable {mc ms : Nat} {free : Addr → Prop} {A0 A1 : Nat → Prop} {H0 : Heap} {a : Array Value} {pc : Nat} {ls : Array Slot} {st0 rest : List Value}
theorem vx_keep {st₀ t T' : State} {L : List Loc} (h0 : st₀.heap = H) (e1 : T'.heap = t.heap) (hS : va_S A0 H0 H locs) (hA : ∀ q, q < H.size → A1 q → A0 q) (hf : ∀ q, free q → A0 q) (hL : ∀ q ∈ L, free q.base) (hF : va_F A1 st₀ t) :
    H.size ≤ T'.heap.size ∧ (∀ q : Nat, q < H.size → ¬ A1 q → T'.heap[q]? = H[q]?) ∧ va_S A0 H0 T'.heap (locs ++ L) := by
  obtain ⟨hz, hk⟩ := hF
  rw [h0] at hz hk
  exact ⟨by rw [e1]; exact hz, fun q h1 h2 => by rw [e1]; exact hk q h1 h2,
    ⟨Nat.le_trans hS.1 (by rw [e1]; exact hz), fun q h1 h2 => by rw [e1, hk q (Nat.lt_of_lt_of_le h1 hS.1) (fun z => h2 (hA q (Nat.lt_of_lt_of_le h1 hS.1) z))]; exact hS.2.1 q h1 h2, fun q hq => by
      rcases List.mem_append.mp hq with h | h
      · exact hS.2.2 q h
      · exact hf _ (hL q h)⟩⟩
theorem vx_calli {S SX : Type} {post : Int32 → S → Prop} {px : SX → Prop} {B : S → State → Prop} {BX : String → SX → State → Prop} {AX : Nat → Prop} (hr : vx_Run p l e R s m args below meth c H locs cells slots mc ms (F0 m pc ls st0) rest (va_Qi post B A1 a) (vx_X px BX AX) free) (hS : va_S A0 H0 H locs) (hA : ∀ q, q < H.size → A1 q → A0 q) (hf : ∀ q, free q → A0 q) (hAX : ∀ q, q < H.size → AX q → A0 q)
    (kx : ∀ (E : String) (ce : Cell) (q9 : Addr) (u : SX) (t : State) (H1 : Heap) (locs1 : List Loc), t.heap = H1 → s.vm.Alike t.vm → px u → BX E u t → H.size ≤ H1.size → (∀ q : Nat, q < H.size → ¬ AX q → H1[q]? = H[q]?) → va_S A0 H0 H1 locs1 → H1[q9]? = some ce → ce.vm = .none → s.vm.findClass E = some ce.cls → vx_W p l e R s m args below meth c H1 locs1 (cells + mc) (slots + ms) Q (F0 m pc ls rest) q9)
    (kk : ∀ (r : Int32) (u : S) (t : State) (H1 : Heap) (locs1 : List Loc), t.heap = H1 → s.vm.Alike t.vm → post r u → B u t → H.size ≤ H1.size → (∀ q : Nat, q < H.size → ¬ A1 q → H1[q]? = H[q]?) → va_S A0 H0 H1 locs1 → W p l e R s m args below meth c H1 locs1 (cells + mc) (slots + ms) Q (F0 m (pc + 3) ls (.int r :: rest))) : W p l e R s m args below meth c H locs cells slots Q (F0 m pc ls st0) := by
  intro T hT X
  rcases hr T hT X with ⟨v, st₀, t, T', L, h0, X', hL, e1, e2, ⟨⟨r, u, hv, hp, hb⟩, hF⟩, st⟩ | ⟨q, st₀, t, T', L, E, ce, h0, X', hL, e1, e2, ⟨u, hp, hb, hF⟩, hce, hcv, hcl, st⟩
  · cases hv
    obtain ⟨k1, k2, k3⟩ := vx_keep h0 e1 hS hA hf hL hF
    obtain ⟨t2, a1, b1⟩ := kk r u t T'.heap (locs ++ L) e1.symm (by rw [← e2]; exact X'.warmed.alike) hp hb k1 k2 k3 T' rfl X'
    exact ⟨t2, st t2 a1, b1⟩
  · obtain ⟨k1, k2, k3⟩ := vx_keep h0 e1 hS hAX hf hL hF
    obtain ⟨t2, a1, b1⟩ := kx E ce q u t T'.heap (locs ++ L) e1.symm (by rw [← e2]; exact X'.warmed.alike) hp hb k1 k2 k3 (by rw [e1]; exact hce) hcv hcl T' rfl X'
    exact ⟨t2, st.trans a1, b1⟩
theorem vx_calll {S SX : Type} {post : Int64 → S → Prop} {px : SX → Prop} {B : S → State → Prop} {BX : String → SX → State → Prop} {AX : Nat → Prop} (hr : vx_Run p l e R s m args below meth c H locs cells slots mc ms (F0 m pc ls st0) rest (va_Ql post B A1 a) (vx_X px BX AX) free) (hS : va_S A0 H0 H locs) (hA : ∀ q, q < H.size → A1 q → A0 q) (hf : ∀ q, free q → A0 q) (hAX : ∀ q, q < H.size → AX q → A0 q)
    (kx : ∀ (E : String) (ce : Cell) (q9 : Addr) (u : SX) (t : State) (H1 : Heap) (locs1 : List Loc), t.heap = H1 → s.vm.Alike t.vm → px u → BX E u t → H.size ≤ H1.size → (∀ q : Nat, q < H.size → ¬ AX q → H1[q]? = H[q]?) → va_S A0 H0 H1 locs1 → H1[q9]? = some ce → ce.vm = .none → s.vm.findClass E = some ce.cls → vx_W p l e R s m args below meth c H1 locs1 (cells + mc) (slots + ms) Q (F0 m pc ls rest) q9)
    (kk : ∀ (r : Int64) (u : S) (t : State) (H1 : Heap) (locs1 : List Loc), t.heap = H1 → s.vm.Alike t.vm → post r u → B u t → H.size ≤ H1.size → (∀ q : Nat, q < H.size → ¬ A1 q → H1[q]? = H[q]?) → va_S A0 H0 H1 locs1 → W p l e R s m args below meth c H1 locs1 (cells + mc) (slots + ms) Q (F0 m (pc + 3) ls (.long r :: rest))) : W p l e R s m args below meth c H locs cells slots Q (F0 m pc ls st0) := by
  intro T hT X
  rcases hr T hT X with ⟨v, st₀, t, T', L, h0, X', hL, e1, e2, ⟨⟨r, u, hv, hp, hb⟩, hF⟩, st⟩ | ⟨q, st₀, t, T', L, E, ce, h0, X', hL, e1, e2, ⟨u, hp, hb, hF⟩, hce, hcv, hcl, st⟩
  · cases hv
    obtain ⟨k1, k2, k3⟩ := vx_keep h0 e1 hS hA hf hL hF
    obtain ⟨t2, a1, b1⟩ := kk r u t T'.heap (locs ++ L) e1.symm (by rw [← e2]; exact X'.warmed.alike) hp hb k1 k2 k3 T' rfl X'
    exact ⟨t2, st t2 a1, b1⟩
  · obtain ⟨k1, k2, k3⟩ := vx_keep h0 e1 hS hAX hf hL hF
    obtain ⟨t2, a1, b1⟩ := kx E ce q u t T'.heap (locs ++ L) e1.symm (by rw [← e2]; exact X'.warmed.alike) hp hb k1 k2 k3 (by rw [e1]; exact hce) hcv hcl T' rfl X'
    exact ⟨t2, st.trans a1, b1⟩
theorem vx_callf {S SX : Type} {post : UInt32 → S → Prop} {px : SX → Prop} {B : S → State → Prop} {BX : String → SX → State → Prop} {AX : Nat → Prop} (hr : vx_Run p l e R s m args below meth c H locs cells slots mc ms (F0 m pc ls st0) rest (va_Qf post B A1 a) (vx_X px BX AX) free) (hS : va_S A0 H0 H locs) (hA : ∀ q, q < H.size → A1 q → A0 q) (hf : ∀ q, free q → A0 q) (hAX : ∀ q, q < H.size → AX q → A0 q)
    (kx : ∀ (E : String) (ce : Cell) (q9 : Addr) (u : SX) (t : State) (H1 : Heap) (locs1 : List Loc), t.heap = H1 → s.vm.Alike t.vm → px u → BX E u t → H.size ≤ H1.size → (∀ q : Nat, q < H.size → ¬ AX q → H1[q]? = H[q]?) → va_S A0 H0 H1 locs1 → H1[q9]? = some ce → ce.vm = .none → s.vm.findClass E = some ce.cls → vx_W p l e R s m args below meth c H1 locs1 (cells + mc) (slots + ms) Q (F0 m pc ls rest) q9)
    (kk : ∀ (r : UInt32) (u : S) (t : State) (H1 : Heap) (locs1 : List Loc), t.heap = H1 → s.vm.Alike t.vm → post r u → B u t → H.size ≤ H1.size → (∀ q : Nat, q < H.size → ¬ A1 q → H1[q]? = H[q]?) → va_S A0 H0 H1 locs1 → W p l e R s m args below meth c H1 locs1 (cells + mc) (slots + ms) Q (F0 m (pc + 3) ls (.float r :: rest))) : W p l e R s m args below meth c H locs cells slots Q (F0 m pc ls st0) := by
  intro T hT X
  rcases hr T hT X with ⟨v, st₀, t, T', L, h0, X', hL, e1, e2, ⟨⟨r, u, hv, hp, hb⟩, hF⟩, st⟩ | ⟨q, st₀, t, T', L, E, ce, h0, X', hL, e1, e2, ⟨u, hp, hb, hF⟩, hce, hcv, hcl, st⟩
  · cases hv
    obtain ⟨k1, k2, k3⟩ := vx_keep h0 e1 hS hA hf hL hF
    obtain ⟨t2, a1, b1⟩ := kk r u t T'.heap (locs ++ L) e1.symm (by rw [← e2]; exact X'.warmed.alike) hp hb k1 k2 k3 T' rfl X'
    exact ⟨t2, st t2 a1, b1⟩
  · obtain ⟨k1, k2, k3⟩ := vx_keep h0 e1 hS hAX hf hL hF
    obtain ⟨t2, a1, b1⟩ := kx E ce q u t T'.heap (locs ++ L) e1.symm (by rw [← e2]; exact X'.warmed.alike) hp hb k1 k2 k3 (by rw [e1]; exact hce) hcv hcl T' rfl X'
    exact ⟨t2, st.trans a1, b1⟩
theorem vx_calld {S SX : Type} {post : UInt64 → S → Prop} {px : SX → Prop} {B : S → State → Prop} {BX : String → SX → State → Prop} {AX : Nat → Prop} (hr : vx_Run p l e R s m args below meth c H locs cells slots mc ms (F0 m pc ls st0) rest (va_Qd post B A1 a) (vx_X px BX AX) free) (hS : va_S A0 H0 H locs) (hA : ∀ q, q < H.size → A1 q → A0 q) (hf : ∀ q, free q → A0 q) (hAX : ∀ q, q < H.size → AX q → A0 q)
    (kx : ∀ (E : String) (ce : Cell) (q9 : Addr) (u : SX) (t : State) (H1 : Heap) (locs1 : List Loc), t.heap = H1 → s.vm.Alike t.vm → px u → BX E u t → H.size ≤ H1.size → (∀ q : Nat, q < H.size → ¬ AX q → H1[q]? = H[q]?) → va_S A0 H0 H1 locs1 → H1[q9]? = some ce → ce.vm = .none → s.vm.findClass E = some ce.cls → vx_W p l e R s m args below meth c H1 locs1 (cells + mc) (slots + ms) Q (F0 m pc ls rest) q9)
    (kk : ∀ (r : UInt64) (u : S) (t : State) (H1 : Heap) (locs1 : List Loc), t.heap = H1 → s.vm.Alike t.vm → post r u → B u t → H.size ≤ H1.size → (∀ q : Nat, q < H.size → ¬ A1 q → H1[q]? = H[q]?) → va_S A0 H0 H1 locs1 → W p l e R s m args below meth c H1 locs1 (cells + mc) (slots + ms) Q (F0 m (pc + 3) ls (.double r :: rest))) : W p l e R s m args below meth c H locs cells slots Q (F0 m pc ls st0) := by
  intro T hT X
  rcases hr T hT X with ⟨v, st₀, t, T', L, h0, X', hL, e1, e2, ⟨⟨r, u, hv, hp, hb⟩, hF⟩, st⟩ | ⟨q, st₀, t, T', L, E, ce, h0, X', hL, e1, e2, ⟨u, hp, hb, hF⟩, hce, hcv, hcl, st⟩
  · cases hv
    obtain ⟨k1, k2, k3⟩ := vx_keep h0 e1 hS hA hf hL hF
    obtain ⟨t2, a1, b1⟩ := kk r u t T'.heap (locs ++ L) e1.symm (by rw [← e2]; exact X'.warmed.alike) hp hb k1 k2 k3 T' rfl X'
    exact ⟨t2, st t2 a1, b1⟩
  · obtain ⟨k1, k2, k3⟩ := vx_keep h0 e1 hS hAX hf hL hF
    obtain ⟨t2, a1, b1⟩ := kx E ce q u t T'.heap (locs ++ L) e1.symm (by rw [← e2]; exact X'.warmed.alike) hp hb k1 k2 k3 (by rw [e1]; exact hce) hcv hcl T' rfl X'
    exact ⟨t2, st.trans a1, b1⟩
theorem vx_callv {S SX : Type} {post : S → Prop} {px : SX → Prop} {B : S → State → Prop} {BX : String → SX → State → Prop} {AX : Nat → Prop} (hr : vx_Run p l e R s m args below meth c H locs cells slots mc ms (F0 m pc ls st0) rest (va_Qv post B A1 a) (vx_X px BX AX) free) (hS : va_S A0 H0 H locs) (hA : ∀ q, q < H.size → A1 q → A0 q) (hf : ∀ q, free q → A0 q) (hAX : ∀ q, q < H.size → AX q → A0 q)
    (kx : ∀ (E : String) (ce : Cell) (q9 : Addr) (u : SX) (t : State) (H1 : Heap) (locs1 : List Loc), t.heap = H1 → s.vm.Alike t.vm → px u → BX E u t → H.size ≤ H1.size → (∀ q : Nat, q < H.size → ¬ AX q → H1[q]? = H[q]?) → va_S A0 H0 H1 locs1 → H1[q9]? = some ce → ce.vm = .none → s.vm.findClass E = some ce.cls → vx_W p l e R s m args below meth c H1 locs1 (cells + mc) (slots + ms) Q (F0 m pc ls rest) q9)
    (kk : ∀ (u : S) (t : State) (H1 : Heap) (locs1 : List Loc), t.heap = H1 → s.vm.Alike t.vm → post u → B u t → H.size ≤ H1.size → (∀ q : Nat, q < H.size → ¬ A1 q → H1[q]? = H[q]?) → va_S A0 H0 H1 locs1 → W p l e R s m args below meth c H1 locs1 (cells + mc) (slots + ms) Q (F0 m (pc + 3) ls (rest))) : W p l e R s m args below meth c H locs cells slots Q (F0 m pc ls st0) := by
  intro T hT X
  rcases hr T hT X with ⟨v, st₀, t, T', L, h0, X', hL, e1, e2, ⟨⟨u, hv, hp, hb⟩, hF⟩, st⟩ | ⟨q, st₀, t, T', L, E, ce, h0, X', hL, e1, e2, ⟨u, hp, hb, hF⟩, hce, hcv, hcl, st⟩
  · cases hv
    obtain ⟨k1, k2, k3⟩ := vx_keep h0 e1 hS hA hf hL hF
    obtain ⟨t2, a1, b1⟩ := kk u t T'.heap (locs ++ L) e1.symm (by rw [← e2]; exact X'.warmed.alike) hp hb k1 k2 k3 T' rfl X'
    exact ⟨t2, st t2 a1, b1⟩
  · obtain ⟨k1, k2, k3⟩ := vx_keep h0 e1 hS hAX hf hL hF
    obtain ⟨t2, a1, b1⟩ := kx E ce q u t T'.heap (locs ++ L) e1.symm (by rw [← e2]; exact X'.warmed.alike) hp hb k1 k2 k3 (by rw [e1]; exact hce) hcv hcl T' rfl X'
    exact ⟨t2, st.trans a1, b1⟩
/-- caught by the row x of this method's table; the rows ahead don't take it -/
theorem vx_catch {own name : String} {E : String} {ce : Cell} {q : Addr} (hown : s.vm.findClass own = some m.cls) (pre : List ExceptionTableEntry) (x : ExceptionTableEntry) (suf : List ExceptionTableEntry) (hsplit : c.exceptionTable.toList = pre ++ x :: suf)
    (hpass : ∀ z ∈ pre, covers z pc = false ∨ (z.catchType ≠ 0 ∧ ∃ nm : String, (Cond.classLink own z.catchType nm).before args s = true ∧ va_Nc E nm s)) (hx : covers x pc = true) (h0 : x.catchType ≠ 0)
    (hlink : (Cond.classLink own x.catchType name).before args s = true) (hcast : (Cond.castable E name).before args s = true) (hcell : H[q]? = some ce) (hv : ce.vm = .none) (hcl : s.vm.findClass E = some ce.cls)
    (kk : W p l e R s m args below meth c H locs cells slots Q (F0 m x.handlerPc ls [.ref q])) : vx_W p l e R s m args below meth c H locs cells slots Q (F0 m pc ls rest) q := by
  intro T hT X
  have hpl : e.platform.magicAccessors = ({} : Platform).magicAccessors := by rw [X.admits.platform]
  obtain ⟨c3, c4, hc3, hc4, hasg⟩ := Cond.castable_spec hcast
  cases Option.some.inj (hc3.symm.trans hcl)
  obtain ⟨c5, hc5, hcl5⟩ := Cond.classLink_spec hown hlink e.platform hpl
  cases Option.some.inj (hc4.symm.trans hc5)
  obtain ⟨vm', X', st⟩ := X.thenCaughtThrough q (g := F0 m pc ls rest) rfl (Steps.refl _) (by rw [hT]; exact hcell) (by rw [hv]; rfl) (by obtain ⟨k9, h9, -⟩ := Vm.findClass_spec hcl; exact ⟨k9, h9⟩) pre x suf hsplit
    (fun z hz => by
      rcases hpass z hz with h | ⟨hz0, nm, hl1, hn1⟩
      · exact Or.inl h
      · obtain ⟨c6, hc6, hcl6⟩ := Cond.classLink_spec hown hl1 e.platform hpl
        obtain ⟨a8, b8, h1, h2, h3⟩ := hn1
        cases Option.some.inj (h1.symm.trans hcl)
        cases Option.some.inj (h2.symm.trans hc6)
        exact Or.inr ⟨hz0, _, hcl6, h3⟩) hx (Or.inr ⟨h0, c4, hcl5, hasg⟩)
  obtain ⟨t, a1, b1⟩ := kk (T.setVm vm') hT X'
  exact ⟨t, st.trans a1, b1⟩
end Rows
section Ends
variable {p : Program} {l : Launch} {e : Env} {R : Room} {s : State} {m : MethodId} {args : Array Value} {below : List Frame} {meth : Method} {c : Code} {H : Heap} {locs : List Loc} {cells slots : Nat} {Q : State → Prop}
variable {mc ms : Nat} {free : Addr → Prop} {A0 A1 : Nat → Prop} {H0 : Heap} {a : Array Value} {ls : Array Slot} {st0 rest : List Value}
variable {Qc : Array Value → State → Outcome → State → Prop} {XC : String → State → State → Prop}
/-- what a body that may throw owes at its end -/
def vx_MQ (below : List Frame) (Qc : Array Value → State → Outcome → State → Prop) (XC : String → State → State → Prop) (a : Array Value) (s : State) (mc ms : Nat) (free : Addr → Prop) : State → Prop := fun t =>
  ∃ o, t.status = .running ∧ Ended t below o ∧ vx_Q Qc XC mc ms free a s o t
theorem vx_ret {g : JFrame} {mc ms : Nat} (k : W p l e R s m args below meth c H locs cells slots (MQ below Qc args s mc ms free) g) : W p l e R s m args below meth c H locs cells slots (vx_MQ below Qc XC args s mc ms free) g := by
  intro T hT X
  obtain ⟨t, a1, o, b1, b2, b3, b4⟩ := k T hT X
  exact ⟨t, a1, o, b1, b2, Or.inl ⟨b3, b4⟩⟩
/-- not caught here: it goes on to the caller -/
theorem vx_widen {g : JFrame} {q : Addr} {k n : Nat} (h1 : cells ≤ k) (h2 : slots ≤ n) (kk : vx_W p l e R s m args below meth c H locs k n Q g q) : vx_W p l e R s m args below meth c H locs cells slots Q g q := fun T hT X => kk T hT (stand_widen X h1 h2)
theorem vx_out {pc : Nat} {E : String} {ce : Cell} {q : Addr} {mc ms : Nat} (hout : ∀ x ∈ c.exceptionTable.toList, covers x pc = false) (hlocks : meth.locks = false) (hcell : H[q]? = some ce) (hv : ce.vm = .none) (hcl : s.vm.findClass E = some ce.cls)
    (hx : ∀ t : State, t.heap = H → s.vm.Alike t.vm → XC E s t) (hf : ∀ z ∈ locs, free z.base) (hc : cells ≤ mc) (hs : slots ≤ ms) :
    vx_W p l e R s m args below meth c H locs cells slots (vx_MQ below Qc XC args s mc ms free) (F0 m pc ls rest) q := by
  intro T hT X
  obtain ⟨st1, hrun, hend, hW, hsm⟩ := X.leaveThrown q (g := F0 m pc ls rest) rfl rfl rfl hout hlocks
  have hcell9 : (T.setFrames (.throwing q :: below)).heap[q]? = some ce := by
    show T.heap[q]? = some ce
    rw [hT]; exact hcell
  exact ⟨_, st1, .threw q, hrun, hend, Or.inr ⟨q, rfl, E, ce, locs, hx _ hT hW.alike, hcell9, hv, hcl, hW, hsm.mono hc hs, hf⟩⟩
theorem vx_frame {U : State} {k n : Nat} (h : s.sameButNew ({ U with vm := s.vm } : State) locs k n) : s.heap.size ≤ U.heap.size ∧ ∀ q : Nat, q < s.heap.size → (∀ z ∈ locs, z.base ≠ q) → U.heap[q]? = s.heap[q]? := by
  obtain ⟨-, h2, -, -, -, h6⟩ := h
  refine ⟨h2, fun q hq hz => ?_⟩
  obtain ⟨c9, e1, e2, e3, e4⟩ := h6 q _ (Array.getElem?_eq_getElem hq)
  have hs : c9.slots = (s.heap[q]).slots := Array.ext_getElem? fun i => e4 i fun hm => hz _ hm rfl
  have h9 : c9 = s.heap[q] := by
    rw [hs] at e2
    exact e2
  have e5 : U.heap[q]? = some c9 := e1
  rw [e5, h9, Array.getElem?_eq_getElem hq]
/-- the words of a throw but the four that speak of the heap -/
def vx_no (w : Cond) : Bool := decide (w ≠ .isRef (.static Bundle.tN "UNASSIGNED_STACK" Bundle.steD)) && decide (w ≠ .isRef (.static Bundle.tN "SUPPRESSED_SENTINEL" Bundle.listD)) && decide (w ≠ .laysStatic Bundle.tN "UNASSIGNED_STACK" Bundle.steD) && decide (w ≠ .laysStatic Bundle.tN "SUPPRESSED_SENTINEL" Bundle.listD)
def vx_at0 (own : String) (ic : Nat) (X : String) (names : List String) : List Cond := (Bundle.ownAtoms0 own ic X names).filter vx_no
def vx_atS (own : String) (ic : Nat) (X : String) (names : List String) : List Cond := (Bundle.ownAtoms own ic X names).filter vx_no
/-- a word that the tables alone decide, or a good one -/
def vx_ot (w : Cond) : Bool := w.onTables || goodWord w
theorem vx_ot_at {args a' : Array Value} {s U : State} {w : Cond} (hW : s.WarmedH U.vm) (hvm : s.vm = U.vm) (hg : vx_ot w = true) (h : w.before args s = true) : w.before a' U = true := by
  simp only [vx_ot, Bool.or_eq_true] at hg
  rcases hg with hg | hg
  · exact va_tabs hg hvm h
  · exact word_at hW (good_of_word hg) h
/-- a list's words: the good ones out of the method's own list, the others by premises of their own -/
theorem vx_hat {args : Array Value} {s : State} {L B : List Cond} (h1 : ∀ w ∈ L.filter goodWord, w.before args s = true) (h2 : ∀ w ∈ L.filter (fun w => !goodWord w), w ∈ B) (h3 : ∀ w ∈ B, w.before args s = true) : ∀ w ∈ L, w.before args s = true := by
  intro w hw
  by_cases g : goodWord w = true
  · exact h1 w (List.mem_filter.mpr ⟨hw, g⟩)
  · refine h3 w (h2 w (List.mem_filter.mpr ⟨hw, ?_⟩))
    show (!goodWord w) = true
    cases hgw : goodWord w
    · rfl
    · exact absurd hgw g
theorem vx_c {args : Array Value} {s : State} {w : Cond} {B : List Cond} (h : w.before args s = true) (t : ∀ w ∈ B, w.before args s = true) : ∀ w' ∈ w :: B, w'.before args s = true := fun w' h' => (List.mem_cons.mp h').elim (fun e => by rw [e]; exact h) (t w')
theorem vx_n {args : Array Value} {s : State} : ∀ w ∈ ([] : List Cond), w.before args s = true := fun _ h => nomatch h
theorem vx_own {args : Array Value} {s : State} {L : List Cond} (h1 : ∀ w ∈ L.filter vx_no, w.before args s = true)
    (hU : (Cond.isRef (.static Bundle.tN "UNASSIGNED_STACK" Bundle.steD)).before args s = true) (hN : (Cond.isRef (.static Bundle.tN "SUPPRESSED_SENTINEL" Bundle.listD)).before args s = true)
    (lU : (Cond.laysStatic Bundle.tN "UNASSIGNED_STACK" Bundle.steD).before args s = true) (lN : (Cond.laysStatic Bundle.tN "SUPPRESSED_SENTINEL" Bundle.listD).before args s = true) : ∀ w ∈ L, w.before args s = true := by
  intro w hw
  by_cases e1 : w = .isRef (.static Bundle.tN "UNASSIGNED_STACK" Bundle.steD)
  · rw [e1]; exact hU
  · by_cases e2 : w = .isRef (.static Bundle.tN "SUPPRESSED_SENTINEL" Bundle.listD)
    · rw [e2]; exact hN
    · by_cases e3 : w = .laysStatic Bundle.tN "UNASSIGNED_STACK" Bundle.steD
      · rw [e3]; exact lU
      · by_cases e4 : w = .laysStatic Bundle.tN "SUPPRESSED_SENTINEL" Bundle.listD
        · rw [e4]; exact lN
        · exact h1 w (List.mem_filter.mpr ⟨hw, by unfold vx_no; rw [decide_eq_true e1, decide_eq_true e2, decide_eq_true e3, decide_eq_true e4]; rfl⟩)
/-- where a static field lies, its class's statics cell in H -/
def vx_L (C n d : String) (A : Nat → Prop) (U : State) (H : Heap) : Prop := ∃ (c : ClassId) (k : Class) (i : Nat) (f : Field) (a : Nat) (cell : Cell), U.vm.findClass C = some c ∧ U.fieldFound? C n d = some (c, k, i, f) ∧ f.isStatic = true ∧ k.statics = some a ∧ H[a]? = some cell ∧ cell.vm.isStatics = true ∧ cell.cls = c ∧ f.slot < cell.slots.size ∧ k.staticTypes[f.slot]? = some f.type ∧ ¬ A a
theorem vx_L.moved {C n d : String} {A : Nat → Prop} {u U : State} {H : Heap} (hvm : u.vm.Alike U.vm) (h : vx_L C n d A u H) : vx_L C n d A U H := by
  obtain ⟨c, k, i, f, a, cell, h1, h2, h3, h4, h5, h6, h7, h8, h9, h10⟩ := h
  obtain ⟨k', hi', he⟩ := State.fieldFound?_setVm hvm h2
  exact ⟨c, k', i, f, a, cell, by rw [hvm.findClass]; exact h1, hi', h3, by rw [he]; exact h4, h5, h6, h7, h8, by rw [he]; exact h9, h10⟩
theorem vx_L.kept {C n d : String} {A : Nat → Prop} {U : State} {H H1 : Heap} (h : vx_L C n d A U H) (hq : ∀ a : Nat, a < H.size → ¬ A a → H1[a]? = H[a]?) : vx_L C n d A U H1 := by
  obtain ⟨c, k, i, f, a, cell, h1, h2, h3, h4, h5, h6, h7, h8, h9, h10⟩ := h
  exact ⟨c, k, i, f, a, cell, h1, h2, h3, h4, by rw [hq a (Array.getElem?_eq_some_iff.mp h5).1 h10]; exact h5, h6, h7, h8, h9, h10⟩
theorem vx_L.narrow {C n d : String} {A B : Nat → Prop} {U : State} {H : Heap} (h : vx_L C n d A U H) (hAB : ∀ q, B q → A q) : vx_L C n d B U H := by
  obtain ⟨c, k, i, f, a, cell, h1, h2, h3, h4, h5, h6, h7, h8, h9, h10⟩ := h
  exact ⟨c, k, i, f, a, cell, h1, h2, h3, h4, h5, h6, h7, h8, h9, fun z => h10 (hAB _ z)⟩
theorem vx_L.word {C n d : String} {A : Nat → Prop} {s : State} {args : Array Value} (h : vx_L C n d A s s.heap) : (Cond.laysStatic C n d).before args s = true := by
  obtain ⟨c, k, i, f, a, cell, h1, h2, h3, h4, h5, h6, h7, h8, h9, -⟩ := h
  show (Cond.laysStatic C n d).holds args s none s [] = true
  exact Cond.laysStatic_of h1 h2 h3 h4 h5 h6 h7 h8 h9
/-- .. and what it holds: null or some reference -/
def vx_Zq (C n d : String) (A : Nat → Prop) (U : State) (H : Heap) : Prop := va_Zq C n d A U H ∧ vx_L C n d A U H
theorem vx_Zq.moved {C n d : String} {A : Nat → Prop} {u U : State} {H : Heap} (hvm : u.vm.Alike U.vm) (h : vx_Zq C n d A u H) : vx_Zq C n d A U H := ⟨va_Zq.moved hvm h.1, vx_L.moved hvm h.2⟩
theorem vx_Zq.kept {C n d : String} {A : Nat → Prop} {U : State} {H H1 : Heap} (h : vx_Zq C n d A U H) (hq : ∀ a : Nat, a < H.size → ¬ A a → H1[a]? = H[a]?) : vx_Zq C n d A U H1 := ⟨va_Zq.kept h.1 hq, vx_L.kept h.2 hq⟩
theorem vx_Zq.narrow {C n d : String} {A B : Nat → Prop} {U : State} {H : Heap} (h : vx_Zq C n d A U H) (hAB : ∀ q, B q → A q) : vx_Zq C n d B U H := ⟨va_Zq.narrow h.1 hAB, vx_L.narrow h.2 hAB⟩
theorem vx_Zqof {args : Array Value} {s : State} {C n d : String} {A : Nat → Prop} (hl : (Cond.laysStatic C n d).before args s = true) (hini : (Cond.initialized C).before args s = true) (h : (Cond.isRef (.static C n d)).before args s = true) (hA : ∀ a : Nat, a < s.heap.size → ¬ A a) : vx_Zq C n d A s s.heap := by
  refine ⟨va_Zqof hl hini h hA, ?_⟩
  obtain ⟨c, k, i, f, a, cell, h1, h2, h3, h4, h5, h6, h7, h8, h9⟩ := Cond.laysStatic_spec hl
  exact ⟨c, k, i, f, a, cell, h1, h2, h3, h4, h5, h6, h7, h8, h9, hA a (Array.getElem?_eq_some_iff.mp h5).1⟩
theorem vx_isRef {C n d : String} {v : Value} {A : Nat → Prop} {s : State} {args : Array Value} (h : va_Z C n d v A s s.heap) (hv : v.isRef = true) : (Cond.isRef (.static C n d)).before args s = true := by
  obtain ⟨cf, kf, fi, f, a, cell, h1, h2, h3, h4, h5, h6, h7, -⟩ := h
  have he : (Term.static C n d).eval args s none [] s = some v := by
    simp [Term.eval, State.fieldNamed?, h1, h2, h4, h5, h6, h7]
  simp only [Cond.before, Cond.holds, Cond.value, he]
  cases v <;> simp_all [Value.isRef]
theorem vx_isRefq {C n d : String} {A : Nat → Prop} {s : State} {args : Array Value} (h : va_Zq C n d A s s.heap) : (Cond.isRef (.static C n d)).before args s = true := by
  rcases h with h | ⟨t, h⟩
  · exact vx_isRef h rfl
  · exact vx_isRef h rfl
/-- the same frame, seen from here: as if the method were called anew in this heap -/
theorem vx_rebase {T : State} (X : Stand p l e R s m args below meth c T locs cells slots) {R' : Room} (hf : R'.frames ≤ R.frames) (hl : R'.locals ≤ R.locals) (hc : cells + R'.cells ≤ R.cells) (hs : slots + R'.slots ≤ R.slots) :
    Stand p l e R' ((T.setVm s.vm).setFrames (.invoking m args :: below)) m args below meth c T [] 0 0 := by
  have htop : (T.setVm s.vm).topJava?.isSome := X.here.top
  have hF : ((T.setVm s.vm).setFrames (.invoking m args :: below)).frames = .invoking m args :: below := State.frames_setFrames _ (State.cur_lt_of_top htop)
  obtain ⟨g₀, hg0⟩ := Option.isSome_iff_exists.mp htop
  obtain ⟨r, hr⟩ := State.topJava?_eq_some.mp hg0
  have hl9 : e.platform.stackLimits (T.setVm s.vm).me = e.platform.stackLimits s.me := X.limits
  have hb9 : (T.setVm s.vm).me.stackBytes = s.me.stackBytes := X.bytes
  refine ⟨X.admits, X.cas, X.clock, hF, ?_, X.hears, X.method, X.code, X.here, X.tail, X.warmed, ?_, ?_, ?_⟩
  · have h := X.room
    have hU : ((T.setVm s.vm).setFrames (.invoking m args :: below)).localsInUse = s.localsInUse := by
      rw [State.localsInUse_invoking hF (meth := meth) (c := c) X.method X.code, State.localsInUse_invoking X.frames X.method X.code]
    simp only [State.hasRoom, Bool.and_eq_true, decide_eq_true_eq] at h ⊢
    obtain ⟨⟨⟨⟨h1, h2, h3, h4, h5, h6⟩, h7⟩, h8⟩, h9⟩ := h
    rw [X.frames, List.length_cons] at h2 h3
    have q1 := X.heapSize
    have q2 := X.used
    simp only [hF, hU, List.length_cons, State.stackLimits_setFrames, State.stackBytes_setFrames, hl9, hb9]
    refine ⟨⟨⟨⟨by omega, by omega, by omega, by omega, by omega, h6⟩, ?_⟩, ?_⟩, X.book⟩
    · show T.heap.size + R'.cells ≤ e.platform.maxCells
      omega
    · show T.slotsUsed + R'.slots ≤ e.platform.maxSlots
      omega
  · rw [State.stackLimits_setFrames]; rfl
  · rw [State.stackBytes_setFrames]; rfl
  · refine ⟨?_, Nat.le_refl _, Nat.le_refl _, ?_, ?_, fun a c9 h9 => ⟨c9, h9, rfl, rfl, fun _ _ => rfl⟩⟩
    · obtain ⟨t, ht, -⟩ := State.frames_cons hr
      show T.setVm s.vm = { ((T.setVm s.vm).setFrames (.invoking m args :: below)).setFrames (T.setVm s.vm).frames with heap := T.heap, slotsUsed := T.slotsUsed }
      rw [State.setFrames_setFrames, State.setFrames_self ht]
      rfl
    · show T.slotsUsed = T.slotsUsed + ((T.heap.toList.drop T.heap.size).map (·.slots.size)).sum
      rw [List.drop_eq_nil_of_le (Nat.le_of_eq Array.length_toList)]
      rfl
    · show ((T.heap.toList.drop T.heap.size).map (·.slots.size)).sum ≤ 0
      rw [List.drop_eq_nil_of_le (Nat.le_of_eq Array.length_toList)]
      exact Nat.le_refl _
/-- 'throw new E()': new; dup; invokespecial; athrow -/
theorem vx_throw0 {cc : ByteArray} {pc : Nat} (hexec : p.tables.exec = Jvm.exec) (hb : c.code = cc) (hl : l.stackTraces = false) {own cls : String} {names : List String} {ik ic mc ms : Nat} {A : Nat → Prop}
    (hown : s.vm.findClass own = some m.cls) (hcls : Bundle.fit cls = true) (hnames : ∀ n ∈ names, Bundle.fit n = true)
    (hk : (Cond.classLink own ik cls).before args s = true) (hini : (Cond.initialized cls).before args s = true) (hat : ∀ w ∈ vx_at0 own ic cls names, w.before args s = true)
    (hgood : ∀ w ∈ Cond.classLink own ik cls :: Cond.initialized cls :: vx_at0 own ic cls names, vx_ot w = true)
    (hU : vx_Zq Bundle.tN "UNASSIGNED_STACK" Bundle.steD A s s.heap) (hN : vx_Zq Bundle.tN "SUPPRESSED_SENTINEL" Bundle.listD A s s.heap) (hS : va_S A s.heap H locs) (hsize : ls.size = c.maxLocals)
    (d0 : decode cc pc = .ok (.new ik, 3)) (d3 : decode cc (pc + 3) = .ok (.dup, 1)) (d4 : decode cc (pc + 4) = .ok (.invokespecial ic, 3)) (d7 : decode cc (pc + 7) = .ok (.athrow, 1))
    (hout : ∀ x ∈ c.exceptionTable.toList, covers x (pc + 7) = false)
    (hRframes : names.length + 3 < R.frames) (hRlocals : (rest.map fun v => v.category).sum + (13 * (names.length + 1) + 42) ≤ R.locals) (hRcells : cells + 1 ≤ R.cells) (hRslots : slots + 6 ≤ R.slots) (hlocks : meth.locks = false)
    (hx : ∀ t : State, s.vm.Alike t.vm → H.size ≤ t.heap.size → (∀ q : Nat, q < H.size → t.heap[q]? = H[q]?) → XC cls s t)
    (hf : ∀ z ∈ locs, free z.base) (hc : cells + 1 ≤ mc) (hs : slots + 6 ≤ ms) :
    W p l e R s m args below meth c H locs cells slots (vx_MQ below Qc XC args s mc ms free) (F0 m pc ls rest) := by
  intro T hT X
  have htr : e.platform.stackTraces = false := (show e.platform.stackTraces = l.stackTraces by rw [X.admits.platform]).trans hl
  have Y := vx_rebase X (R' := { frames := R.frames, locals := R.locals, cells := 1, slots := 6 }) (Nat.le_refl _) (Nat.le_refl _) hRcells hRslots
  obtain ⟨s', hA⟩ : ∃ z, z = (T.setVm s.vm).setFrames (.invoking m args :: below) := ⟨_, rfl⟩
  rw [← hA] at Y
  have hvm : s'.vm = s.vm := by rw [hA]; rfl
  have hhp : s'.heap = H := by rw [hA]; exact hT
  have hW0 : s.WarmedH s'.vm := by rw [hvm]; exact State.WarmedH.refl s
  have hat' : ∀ w ∈ vx_at0 own ic cls names, w.before args s' = true := fun w hw => vx_ot_at hW0 hvm.symm (hgood w (List.mem_cons_of_mem _ (List.mem_cons_of_mem _ hw))) (hat w hw)
  have hk' : (Cond.classLink own ik cls).before args s' = true := vx_ot_at hW0 hvm.symm (hgood _ List.mem_cons_self) hk
  have hini' : (Cond.initialized cls).before args s' = true := vx_ot_at hW0 hvm.symm (hgood _ (List.mem_cons_of_mem _ List.mem_cons_self)) hini
  have hU' : vx_Zq Bundle.tN "UNASSIGNED_STACK" Bundle.steD A s' s'.heap := by rw [hhp]; exact vx_Zq.moved hW0.alike (hU.kept hS.2.1)
  have hN' : vx_Zq Bundle.tN "SUPPRESSED_SENTINEL" Bundle.listD A s' s'.heap := by rw [hhp]; exact vx_Zq.moved hW0.alike (hN.kept hS.2.1)
  have h : ∀ w ∈ Bundle.ownAtoms0 own ic cls names, w.before args s' = true := vx_own hat' (vx_isRefq hU'.1) (vx_isRefq hN'.1) hU'.2.word hN'.2.word
  have hown' : s'.vm.findClass own = some m.cls := by rw [hvm]; exact hown
  have hins : (Cond.instantiable cls 6).before args s' = true := h _ (by simp [Bundle.ownAtoms0])
  obtain ⟨vm₁, cX, kX, hfX, hkX, -, -, X₁, st1⟩ := Y.newCold hexec (own := own) (C := cls) (index := ik) (n := 6) hown' hk' hins hini'
    (g := F0 m pc ls rest) rfl (by rw [hb]; exact d0) (Nat.le_refl _) (Nat.le_refl _)
  generalize hT1 : (T.setVm vm₁).pushCell { cls := cX, slots := kX.instanceTypes.map defaultValue, vm := .none } = T1 at X₁ st1
  have hcat : (Value.ref T.heap.size).category = 1 := rfl
  have hcellA : T1.heap[T.heap.size]? = some (freshCell cX kX) := by rw [← hT1]; exact State.heap_pushCell_size _ _
  have d3' : decode c.code (pc + 3) = .ok (.dup, 1) := by rw [hb]; exact d3
  obtain ⟨U, hsteps, hrun, hend, hW, hsame, ce, hce, hO⟩ := X₁.ctorThrow0 hexec htr (own := own) (cls := cls) (names := names) (ic := ic) hown' hcls hnames h (fun x hx => nomatch hx) hfX hkX hcellA (by rw [hhp, hT]; exact Nat.le_refl _)
    (g := { method := m, pc := pc + 4, locals := ls, stack := .ref T.heap.size :: .ref T.heap.size :: rest, locked := none }) rfl hsize rfl rfl (rest := rest) rfl
    (by rw [hb]; exact d4) (by rw [hb]; exact d7) hout hRframes (by simp only [List.map_cons, List.sum_cons, hcat]; omega) hlocks
  obtain ⟨f1, f2⟩ := vx_frame hsame
  rw [hhp] at f1 f2
  have hWs : s.WarmedH U.vm := State.WarmedH.trans hW0 hW
  have hcl : s.vm.findClass cls = some ce.cls := by
    have h9 := hO.cls
    rw [hvm] at h9
    exact h9
  have hall : s.sameButNew ({ U with vm := s.vm } : State) locs mc ms := by
    subst hA
    obtain ⟨e1, e2⟩ := hsame
    rw [State.setFrames_setFrames] at e1
    have h2 : (T.setVm s.vm).sameButNew ({ U with vm := s.vm } : State) [] (0 + 1) (0 + 6) := ⟨e1, e2⟩
    have h3 := X.same.trans h2
    rw [List.append_nil] at h3
    exact h3.mono hc hs
  refine ⟨U, ?_, .threw T.heap.size, hrun, hend, Or.inr ⟨T.heap.size, rfl, cls, ce, locs, hx U hWs.alike f1 (fun q hq => f2 q hq (fun z hz => nomatch hz)), hce, hO.vm, hcl, hWs, hall, hf⟩⟩
  refine st1 _ ?_
  show Steps p.tables e below (T1.setTop { method := m, pc := pc + 3, locals := ls, stack := .ref T.heap.size :: rest, locked := none }) _
  jvm_step X₁.here [X₁.here.top, hexec, d3', Value.category]
  exact hsteps
/-- 'throw new E("text")': new; dup; ldc; invokespecial; athrow -/
theorem vx_throwS {cc : ByteArray} {pc : Nat} (hexec : p.tables.exec = Jvm.exec) (hb : c.code = cc) (hl : l.stackTraces = false) {own cls text : String} {names : List String} {ik is ic mc ms sa : Nat} {A : Nat → Prop}
    (hown : s.vm.findClass own = some m.cls) (hcls : Bundle.fit cls = true) (hnames : ∀ n ∈ names, Bundle.fit n = true)
    (hk : (Cond.classLink own ik cls).before args s = true) (hini : (Cond.initialized cls).before args s = true) (hstr : vk_R own is text sa s) (hat : ∀ w ∈ vx_atS own ic cls names, w.before args s = true)
    (hgood : ∀ w ∈ Cond.classLink own ik cls :: Cond.initialized cls :: vx_atS own ic cls names, vx_ot w = true)
    (hU : vx_Zq Bundle.tN "UNASSIGNED_STACK" Bundle.steD A s s.heap) (hN : vx_Zq Bundle.tN "SUPPRESSED_SENTINEL" Bundle.listD A s s.heap) (hS : va_S A s.heap H locs) (hsize : ls.size = c.maxLocals)
    (d0 : decode cc pc = .ok (.new ik, 3)) (d3 : decode cc (pc + 3) = .ok (.dup, 1)) (d4 : decode cc (pc + 4) = .ok (.ldc is, 2)) (d6 : decode cc (pc + 6) = .ok (.invokespecial ic, 3)) (d9 : decode cc (pc + 9) = .ok (.athrow, 1))
    (hout : ∀ x ∈ c.exceptionTable.toList, covers x (pc + 9) = false)
    (hRframes : names.length + 3 < R.frames) (hRlocals : (rest.map fun v => v.category).sum + (13 * (names.length + 1) + 43) ≤ R.locals) (hRcells : cells + 1 ≤ R.cells) (hRslots : slots + 6 ≤ R.slots) (hlocks : meth.locks = false)
    (hx : ∀ t : State, s.vm.Alike t.vm → H.size ≤ t.heap.size → (∀ q : Nat, q < H.size → t.heap[q]? = H[q]?) → XC cls s t)
    (hf : ∀ z ∈ locs, free z.base) (hc : cells + 1 ≤ mc) (hs : slots + 6 ≤ ms) :
    W p l e R s m args below meth c H locs cells slots (vx_MQ below Qc XC args s mc ms free) (F0 m pc ls rest) := by
  intro T hT X
  have htr : e.platform.stackTraces = false := (show e.platform.stackTraces = l.stackTraces by rw [X.admits.platform]).trans hl
  have Y := vx_rebase X (R' := { frames := R.frames, locals := R.locals, cells := 1, slots := 6 }) (Nat.le_refl _) (Nat.le_refl _) hRcells hRslots
  obtain ⟨s', hA⟩ : ∃ z, z = (T.setVm s.vm).setFrames (.invoking m args :: below) := ⟨_, rfl⟩
  rw [← hA] at Y
  have hvm : s'.vm = s.vm := by rw [hA]; rfl
  have hhp : s'.heap = H := by rw [hA]; exact hT
  have hW0 : s.WarmedH s'.vm := by rw [hvm]; exact State.WarmedH.refl s
  have hat' : ∀ w ∈ vx_atS own ic cls names, w.before args s' = true := fun w hw => vx_ot_at hW0 hvm.symm (hgood w (List.mem_cons_of_mem _ (List.mem_cons_of_mem _ hw))) (hat w hw)
  have hk' : (Cond.classLink own ik cls).before args s' = true := vx_ot_at hW0 hvm.symm (hgood _ List.mem_cons_self) hk
  have hini' : (Cond.initialized cls).before args s' = true := vx_ot_at hW0 hvm.symm (hgood _ (List.mem_cons_of_mem _ List.mem_cons_self)) hini
  have hU' : vx_Zq Bundle.tN "UNASSIGNED_STACK" Bundle.steD A s' s'.heap := by rw [hhp]; exact vx_Zq.moved hW0.alike (hU.kept hS.2.1)
  have hN' : vx_Zq Bundle.tN "SUPPRESSED_SENTINEL" Bundle.listD A s' s'.heap := by rw [hhp]; exact vx_Zq.moved hW0.alike (hN.kept hS.2.1)
  have h : ∀ w ∈ Bundle.ownAtoms own ic cls names, w.before args s' = true := vx_own hat' (vx_isRefq hU'.1) (vx_isRefq hN'.1) hU'.2.word hN'.2.word
  have hown' : s'.vm.findClass own = some m.cls := by rw [hvm]; exact hown
  have hins : (Cond.instantiable cls 6).before args s' = true := h _ (by simp [Bundle.ownAtoms])
  obtain ⟨vm₁, cX, kX, hfX, hkX, -, -, X₁, st1⟩ := Y.newCold hexec (own := own) (C := cls) (index := ik) (n := 6) hown' hk' hins hini'
    (g := F0 m pc ls rest) rfl (by rw [hb]; exact d0) (Nat.le_refl _) (Nat.le_refl _)
  generalize hT1 : (T.setVm vm₁).pushCell { cls := cX, slots := kX.instanceTypes.map defaultValue, vm := .none } = T1 at X₁ st1
  have hcat : (Value.ref T.heap.size).category = 1 := rfl
  have hcellA : T1.heap[T.heap.size]? = some (freshCell cX kX) := by rw [← hT1]; exact State.heap_pushCell_size _ _
  have d3' : decode c.code (pc + 3) = .ok (.dup, 1) := by rw [hb]; exact d3
  have d4' : decode c.code (pc + 4) = .ok (.ldc is, 2) := by rw [hb]; exact d4
  have hstr' : vk_R own is text sa s' := vk_R.warm hW0 hstr
  obtain ⟨U, hsteps, hrun, hend, hW, hsame, ce, hce, hO⟩ := X₁.ctorThrowS hexec htr (own := own) (cls := cls) (names := names) (ic := ic) hown' hcls hnames h (fun x hx => nomatch hx) hfX hkX hcellA (by rw [hhp, hT]; exact Nat.le_refl _) (msg := .ref sa) rfl
    (g := { method := m, pc := pc + 6, locals := ls, stack := .ref sa :: .ref T.heap.size :: .ref T.heap.size :: rest, locked := none }) rfl hsize rfl rfl (rest := rest) rfl
    (by rw [hb]; exact d6) (by rw [hb]; exact d9) hout hRframes (by simp only [List.map_cons, List.sum_cons, hcat]; omega) hlocks
  obtain ⟨f1, f2⟩ := vx_frame hsame
  rw [hhp] at f1 f2
  have hWs : s.WarmedH U.vm := State.WarmedH.trans hW0 hW
  have hcl : s.vm.findClass cls = some ce.cls := by
    have h9 := hO.cls
    rw [hvm] at h9
    exact h9
  have hall : s.sameButNew ({ U with vm := s.vm } : State) locs mc ms := by
    subst hA
    obtain ⟨e1, e2⟩ := hsame
    rw [State.setFrames_setFrames] at e1
    have h2 : (T.setVm s.vm).sameButNew ({ U with vm := s.vm } : State) [] (0 + 1) (0 + 6) := ⟨e1, e2⟩
    have h3 := X.same.trans h2
    rw [List.append_nil] at h3
    exact h3.mono hc hs
  refine ⟨U, ?_, .threw T.heap.size, hrun, hend, Or.inr ⟨T.heap.size, rfl, cls, ce, locs, hx U hWs.alike f1 (fun q hq => f2 q hq (fun z hz => nomatch hz)), hce, hO.vm, hcl, hWs, hall, hf⟩⟩
  refine st1 _ ?_
  show Steps p.tables e below (T1.setTop { method := m, pc := pc + 3, locals := ls, stack := .ref T.heap.size :: rest, locked := none }) _
  jvm_step X₁.here [X₁.here.top, hexec, d3', Value.category]
  exact X₁.ldcString hexec (own := own) (text := text) (index := is) (a := sa) hown' hstr'.1 hstr'.2
    (g := { method := m, pc := pc + 4, locals := ls, stack := .ref T.heap.size :: .ref T.heap.size :: rest, locked := none }) rfl d4' _ hsteps
/-- 'throw new E("text")', the text by a wide index -/
theorem vx_throwSW {cc : ByteArray} {pc : Nat} (hexec : p.tables.exec = Jvm.exec) (hb : c.code = cc) (hl : l.stackTraces = false) {own cls text : String} {names : List String} {ik is ic mc ms sa : Nat} {A : Nat → Prop}
    (hown : s.vm.findClass own = some m.cls) (hcls : Bundle.fit cls = true) (hnames : ∀ n ∈ names, Bundle.fit n = true)
    (hk : (Cond.classLink own ik cls).before args s = true) (hini : (Cond.initialized cls).before args s = true) (hstr : vk_R own is text sa s) (hat : ∀ w ∈ vx_atS own ic cls names, w.before args s = true)
    (hgood : ∀ w ∈ Cond.classLink own ik cls :: Cond.initialized cls :: vx_atS own ic cls names, vx_ot w = true)
    (hU : vx_Zq Bundle.tN "UNASSIGNED_STACK" Bundle.steD A s s.heap) (hN : vx_Zq Bundle.tN "SUPPRESSED_SENTINEL" Bundle.listD A s s.heap) (hS : va_S A s.heap H locs) (hsize : ls.size = c.maxLocals)
    (d0 : decode cc pc = .ok (.new ik, 3)) (d3 : decode cc (pc + 3) = .ok (.dup, 1)) (d4 : decode cc (pc + 4) = .ok (.ldc_w is, 3)) (d7 : decode cc (pc + 7) = .ok (.invokespecial ic, 3)) (d10 : decode cc (pc + 10) = .ok (.athrow, 1))
    (hout : ∀ x ∈ c.exceptionTable.toList, covers x (pc + 10) = false)
    (hRframes : names.length + 3 < R.frames) (hRlocals : (rest.map fun v => v.category).sum + (13 * (names.length + 1) + 43) ≤ R.locals) (hRcells : cells + 1 ≤ R.cells) (hRslots : slots + 6 ≤ R.slots) (hlocks : meth.locks = false)
    (hx : ∀ t : State, s.vm.Alike t.vm → H.size ≤ t.heap.size → (∀ q : Nat, q < H.size → t.heap[q]? = H[q]?) → XC cls s t)
    (hf : ∀ z ∈ locs, free z.base) (hc : cells + 1 ≤ mc) (hs : slots + 6 ≤ ms) :
    W p l e R s m args below meth c H locs cells slots (vx_MQ below Qc XC args s mc ms free) (F0 m pc ls rest) := by
  intro T hT X
  have htr : e.platform.stackTraces = false := (show e.platform.stackTraces = l.stackTraces by rw [X.admits.platform]).trans hl
  have Y := vx_rebase X (R' := { frames := R.frames, locals := R.locals, cells := 1, slots := 6 }) (Nat.le_refl _) (Nat.le_refl _) hRcells hRslots
  obtain ⟨s', hA⟩ : ∃ z, z = (T.setVm s.vm).setFrames (.invoking m args :: below) := ⟨_, rfl⟩
  rw [← hA] at Y
  have hvm : s'.vm = s.vm := by rw [hA]; rfl
  have hhp : s'.heap = H := by rw [hA]; exact hT
  have hW0 : s.WarmedH s'.vm := by rw [hvm]; exact State.WarmedH.refl s
  have hat' : ∀ w ∈ vx_atS own ic cls names, w.before args s' = true := fun w hw => vx_ot_at hW0 hvm.symm (hgood w (List.mem_cons_of_mem _ (List.mem_cons_of_mem _ hw))) (hat w hw)
  have hk' : (Cond.classLink own ik cls).before args s' = true := vx_ot_at hW0 hvm.symm (hgood _ List.mem_cons_self) hk
  have hini' : (Cond.initialized cls).before args s' = true := vx_ot_at hW0 hvm.symm (hgood _ (List.mem_cons_of_mem _ List.mem_cons_self)) hini
  have hU' : vx_Zq Bundle.tN "UNASSIGNED_STACK" Bundle.steD A s' s'.heap := by rw [hhp]; exact vx_Zq.moved hW0.alike (hU.kept hS.2.1)
  have hN' : vx_Zq Bundle.tN "SUPPRESSED_SENTINEL" Bundle.listD A s' s'.heap := by rw [hhp]; exact vx_Zq.moved hW0.alike (hN.kept hS.2.1)
  have h : ∀ w ∈ Bundle.ownAtoms own ic cls names, w.before args s' = true := vx_own hat' (vx_isRefq hU'.1) (vx_isRefq hN'.1) hU'.2.word hN'.2.word
  have hown' : s'.vm.findClass own = some m.cls := by rw [hvm]; exact hown
  have hins : (Cond.instantiable cls 6).before args s' = true := h _ (by simp [Bundle.ownAtoms])
  obtain ⟨vm₁, cX, kX, hfX, hkX, -, -, X₁, st1⟩ := Y.newCold hexec (own := own) (C := cls) (index := ik) (n := 6) hown' hk' hins hini'
    (g := F0 m pc ls rest) rfl (by rw [hb]; exact d0) (Nat.le_refl _) (Nat.le_refl _)
  generalize hT1 : (T.setVm vm₁).pushCell { cls := cX, slots := kX.instanceTypes.map defaultValue, vm := .none } = T1 at X₁ st1
  have hcat : (Value.ref T.heap.size).category = 1 := rfl
  have hcellA : T1.heap[T.heap.size]? = some (freshCell cX kX) := by rw [← hT1]; exact State.heap_pushCell_size _ _
  have d3' : decode c.code (pc + 3) = .ok (.dup, 1) := by rw [hb]; exact d3
  have d4' : decode c.code (pc + 4) = .ok (.ldc_w is, 3) := by rw [hb]; exact d4
  have hstr' : vk_R own is text sa s' := vk_R.warm hW0 hstr
  obtain ⟨U, hsteps, hrun, hend, hW, hsame, ce, hce, hO⟩ := X₁.ctorThrowS hexec htr (own := own) (cls := cls) (names := names) (ic := ic) hown' hcls hnames h (fun x hx => nomatch hx) hfX hkX hcellA (by rw [hhp, hT]; exact Nat.le_refl _) (msg := .ref sa) rfl
    (g := { method := m, pc := pc + 7, locals := ls, stack := .ref sa :: .ref T.heap.size :: .ref T.heap.size :: rest, locked := none }) rfl hsize rfl rfl (rest := rest) rfl
    (by rw [hb]; exact d7) (by rw [hb]; exact d10) hout hRframes (by simp only [List.map_cons, List.sum_cons, hcat]; omega) hlocks
  obtain ⟨f1, f2⟩ := vx_frame hsame
  rw [hhp] at f1 f2
  have hWs : s.WarmedH U.vm := State.WarmedH.trans hW0 hW
  have hcl : s.vm.findClass cls = some ce.cls := by
    have h9 := hO.cls
    rw [hvm] at h9
    exact h9
  have hall : s.sameButNew ({ U with vm := s.vm } : State) locs mc ms := by
    subst hA
    obtain ⟨e1, e2⟩ := hsame
    rw [State.setFrames_setFrames] at e1
    have h2 : (T.setVm s.vm).sameButNew ({ U with vm := s.vm } : State) [] (0 + 1) (0 + 6) := ⟨e1, e2⟩
    have h3 := X.same.trans h2
    rw [List.append_nil] at h3
    exact h3.mono hc hs
  refine ⟨U, ?_, .threw T.heap.size, hrun, hend, Or.inr ⟨T.heap.size, rfl, cls, ce, locs, hx U hWs.alike f1 (fun q hq => f2 q hq (fun z hz => nomatch hz)), hce, hO.vm, hcl, hWs, hall, hf⟩⟩
  refine st1 _ ?_
  show Steps p.tables e below (T1.setTop { method := m, pc := pc + 3, locals := ls, stack := .ref T.heap.size :: rest, locked := none }) _
  jvm_step X₁.here [X₁.here.top, hexec, d3', Value.category]
  exact X₁.ldcStringW hexec (own := own) (text := text) (index := is) (a := sa) hown' hstr'.1 hstr'.2
    (g := { method := m, pc := pc + 4, locals := ls, stack := .ref T.heap.size :: .ref T.heap.size :: rest, locked := none }) rfl d4' _ hsteps
end Ends
section Bodies
variable {l : Launch}
theorem vx_ofW {y : MethodName} {ws ws' : List Cond} {rm : Room} {Pc : Array Value → State → Prop} {Qc : Array Value → State → Outcome → State → Prop} {XC : String → State → State → Prop} {mc ms : Nat} {free : Addr → Prop} {cc : ByteArray} {maxL : Nat} {ret : Option FieldType}
    (hy : plainName y.cls = true) (hw : ws = Cond.code y cc maxL ret :: ws')
    (body : ∀ p e s m args below meth c s₁, BodyLoose p l y (headSpec ws rm) cc maxL ret e s m args below meth c s₁ → c.maxLocals = maxL → (∀ x ∈ c.exceptionTable.toList, False) → Pc args s →
      W p l e (headSpec ws rm).room s m args below meth c s.heap [] 0 0 (vx_MQ below Qc XC args s mc ms free) (entryFrame m args maxL)) : vx_Met l y ws rm Pc Qc XC mc ms free := by
  refine MetFree.of_bodyS (code := cc) (maxLocals := maxL) (ret := ret) hy ?_ ?_
  · intro args s m h hn
    obtain ⟨meth, c, h1, h2, h3, h4, h5, h6, -, -⟩ := Cond.code_spec hn (atoms_spec (ws := ws) h _ (by rw [hw]; exact List.mem_cons_self))
    exact ⟨meth, c, h1, h2, h3, h4, h5, h6⟩
  · intro p e s m args below meth c s₁ B hml hP _
    have hh0 : s₁.heap = s.heap := by rw [B.state]; rfl
    have ht : ∀ x ∈ c.exceptionTable.toList, False := by
      obtain ⟨meth9, c9, h1, h2, -, -, -, -, h7, -⟩ := Cond.code_spec B.named (atoms_spec (ws := ws) B.pre _ (by rw [hw]; exact List.mem_cons_self))
      cases Option.some.inj (h1.symm.trans B.method)
      cases Option.some.inj (h2.symm.trans (Stand.of_body B).code)
      intro x hx
      rw [Array.isEmpty_iff.mp h7] at hx
      cases hx
    obtain ⟨t, a1, o, b1, b2, b3⟩ := body p e s m args below meth c s₁ B hml ht hP s₁ hh0 (Stand.of_body B)
    exact ⟨t, o, a1, b1, b2, b3⟩
/-- the table of a body with handlers -/
theorem vx_table {p : Program} {x y : MethodName} {S : Spec} {cc bytes : ByteArray} {maxL maxL' : Nat} {ret ret' : Option FieldType} {e : Env} {s s₁ : State} {m : MethodId} {args : Array Value} {below : List Frame} {meth : Method} {c : Code} {hh : List (Nat × Nat × Nat × Nat)}
    (B : BodyLoose p l y S cc maxL ret e s m args below meth c s₁) (h : (Cond.codeWith y bytes maxL' ret' hh).before args s = true) : c.exceptionTable.toList = tableOf hh := by
  obtain ⟨m9, meth9, c9, hn9, h1, h2, -, -, h6, -⟩ := Cond.codeWith_spec h
  cases Option.some.inj (hn9.symm.trans B.named)
  cases Option.some.inj (h1.symm.trans B.method)
  cases Option.some.inj (h2.symm.trans (Stand.of_body B).code)
  rw [← h6, table_eq]
end Bodies
end VXA
/-! ===== END ===== -/
/-! ===== BEGIN a static call of a method with an exception table ===== -/
section VXS
variable {p : Program} {l : Launch} {e : Env} {R : Room} {s : State} {m : MethodId} {args : Array Value} {below : List Frame} {meth : Method} {c : Code} {T : State} {H : Heap} {locs : List Loc} {cells slots : Nat}
abbrev vx_CSW (R : Room) (s : State) (args : Array Value) (own : String) (index : Nat) (y : MethodName) (bytes : ByteArray) (maxL : Nat) (ret : Option FieldType) (hh : List (Nat × Nat × Nat × Nat)) (ws : List Cond) (rm : Room) (mc ms n : Nat) : Prop :=
  (rm.cells = mc ∧ rm.slots = ms ∧ rm.frames + 1 ≤ R.frames ∧ 8 + (maxL + 11) + rm.locals ≤ R.locals ∧ (∀ w ∈ ws, ∀ (a' : Array Value) (U : State), s.WarmedH U.vm → w.before a' U = true) ∧ Cond.codeWith y bytes maxL ret hh ∈ ws) ∧
  (Cond.codeWith y bytes maxL ret hh).before args s = true ∧ (Cond.initialized y.cls).before args s = true ∧ (y.cls ≠ "java/lang/invoke/MethodHandle" ∧ y.cls ≠ "java/lang/invoke/VarHandle") ∧
  (∀ sig, parseMethodDescriptor y.desc = some sig → n = sig.parameters.length) ∧ (Cond.methodLink own index y).before args s = true ∧ (Cond.static y).before args s = true
theorem vx_cwSW {own : String} {index maxL mc ms : Nat} {y : MethodName} {bytes : ByteArray} {ret : Option FieldType} {hh : List (Nat × Nat × Nat × Nat)} {Ts ws ws' : List Cond} {rm : Room} (n : Nat) (ht : ∀ w ∈ Ts, w.before args s = true) (hT : GoodIn Ts (va_wsS own index y ws)) (hw : ws = Cond.codeWith y bytes maxL ret hh :: ws') (hrc : rm.cells = mc) (hrs : rm.slots = ms)
    (hd : y.cls ≠ "java/lang/invoke/MethodHandle" ∧ y.cls ≠ "java/lang/invoke/VarHandle" ∧ (parseMethodDescriptor y.desc).map (fun d => d.parameters.length) = some n) (hR : rm.frames + 1 ≤ R.frames ∧ 8 + (maxL + 11) + rm.locals ≤ R.locals) :
    vx_CSW R s args own index y bytes maxL ret hh ws rm mc ms n := by
  have ok : ∀ w ∈ va_wsS own index y ws, w.before args s = true := fun w h => ht w (hT w h).1
  have hG : GoodIn Ts ws := fun w h => hT w (by unfold va_wsS; exact List.mem_append_right _ h)
  have hc : Cond.codeWith y bytes maxL ret hh ∈ ws := by rw [hw]; exact List.mem_cons_self
  refine ⟨⟨hrc, hrs, hR.1, hR.2, pay_in ht hG, hc⟩, ht _ (hG _ hc).1, ok _ (by simp [va_wsS]), ⟨hd.1, hd.2.1⟩, fun sig h => ?_, ok _ (by simp [va_wsS]), ok _ (by simp [va_wsS])⟩
  have h2 := hd.2.2
  rw [h] at h2
  exact (Option.some.inj h2).symm
theorem vx_callSW (X : Stand p l e R s m args below meth c T locs cells slots) (hexec : p.tables.exec = Jvm.exec) {own : String} {index : Nat} {y : MethodName} {bytes : ByteArray} {maxL : Nat} {ret : Option FieldType} {hh : List (Nat × Nat × Nat × Nat)}
    (hown : s.vm.findClass own = some m.cls) (hlink : (Cond.methodLink own index y).before args s = true) (hstat : (Cond.static y).before args s = true) (hinit : (Cond.initialized y.cls).before args s = true)
    (hcode : (Cond.codeWith y bytes maxL ret hh).before args s = true) (hy : y.cls ≠ "java/lang/invoke/MethodHandle" ∧ y.cls ≠ "java/lang/invoke/VarHandle")
    {W9 : Nat} {Pre : Pt → Array Value → Prop} {Post : Pt → Array Value → Option Value → Pt → Prop} (hK : Back l R p e below s args y 3 W9 Pre Post)
    {g : JFrame} (hg : g.method = m) (hsize : g.locals.size = c.maxLocals) {argsL rest : List Value} (hlen : ∀ sig, parseMethodDescriptor y.desc = some sig → argsL.length = sig.parameters.length)
    (hstack : g.stack = argsL.reverse ++ rest) (hW : 2 * g.monitorRoom + (rest.map fun v => v.category).sum ≤ W9) (hdg : decode c.code g.pc = .ok (.invokestatic index, 3))
    (hpre : ∀ vm₁, s.WarmedH vm₁ → Pre ⟨T.setVm vm₁, locs, cells, slots⟩ argsL.toArray) :
    ∃ (v : Option Value) (vm₁ : Vm) (B : Pt), s.WarmedH vm₁ ∧ Stand p l e R s m args below meth c B.U B.locs B.cells B.slots ∧ Post ⟨T.setVm vm₁, locs, cells, slots⟩ argsL.toArray v B ∧
      ∀ target, Steps p.tables e below (B.U.setTop { g with pc := g.pc + 3, stack := v.toList ++ rest }) target → Steps p.tables e below (T.setTop g) target := by
  obtain ⟨mk, methM, cM, hnamed, hmethM, -, -, -, -, -, -, hsigM⟩ := Cond.codeWith_spec hcode
  have hstatic : methM.isStatic = true := Cond.static_spec hnamed hmethM hstat
  obtain ⟨kP, hkP, -⟩ := className_of_methodNamed hnamed
  have hinitP : kP.init = .initialized := Cond.initialized_spec (findClass_of_methodNamed hnamed) hkP hinit
  obtain ⟨vm₁, X₁, hstep₁⟩ := X.invokestatic hexec hown hlink hnamed hmethM hstatic hkP hinitP hy (g := g) hg (argsL := argsL) (rest := rest) (hlen _ hsigM) hstack hdg
  obtain ⟨v, B, X', hpost, hsteps⟩ := hK m meth c ⟨T.setVm vm₁, locs, cells, slots⟩ { g with stack := rest } (.invokestatic index) mk argsL.toArray X₁ hg hsize hdg hW (X₁.named hnamed) (hpre vm₁ X₁.warmed)
  exact ⟨v, vm₁, B, X₁.warmed, X', hpost, fun target h => hstep₁ _ fun acts => by rw [doInvoke_state]; exact hsteps.trans h⟩
theorem vx_runSW {y : MethodName} {bytes cc : ByteArray} {maxL nL mc ms n index : Nat} {ret : Option FieldType} {hh : List (Nat × Nat × Nat × Nat)} {ws : List Cond} {rm : Room} {Pc : Array Value → State → Prop} {Qc : Array Value → State → Outcome → State → Prop} {free : Addr → Prop} {Ts : List Cond} {own : String} {As rest : List Value} {g : JFrame}
    (S : CallFix p m c cc nL s args Ts own) (hM : Met l y ws rm Pc Qc mc ms free) (cw : vx_CSW R s args own index y bytes maxL ret hh ws rm mc ms n) (hp : PreS s H Pc As)
    (hg : g.method = m) (hn : As.length = n) (hsize : g.locals.size = nL) (hstack : g.stack = As.reverse ++ rest) (hW : 2 * g.monitorRoom + (rest.map fun v => v.category).sum ≤ 8) (hdg : decode cc g.pc = .ok (.invokestatic index, 3)) (hf : cells + mc ≤ R.cells ∧ slots + ms ≤ R.slots) :
    va_Run p l e R s m args below meth c H locs cells slots mc ms g rest (Qc As.toArray) (free) := by
  obtain ⟨⟨hrc, hrs, hfr, hlo, hws, hcw⟩, hcode, hini, hy, hlen, hl, hstt⟩ := cw
  have hK : Back l R p e below s args y 3 8 (PreOf R mc ms Pc) (PostOf Qc mc ms free) := va_backW (hh := hh) (bytes := bytes) (maxL := maxL) (ret := ret) hM hp.1 hrc hrs hfr hlo hws hcw (fun a' U hW => word_at hW (Or.inl (by first | rfl | simp [Cond.onTables, Cond.keeps, Cond.steady])) hini)
  obtain ⟨hx, hb, hml, ho, -⟩ := S
  intro T hT X
  obtain ⟨v, vm₁, ⟨U', l2, c2, s2⟩, hW₁, X', ⟨g', mk, t, L, e1, e2, hq, h1, hL, h2, h3⟩, st⟩ := vx_callSW X hx (hh := hh) (bytes := bytes) (maxL := maxL) (ret := ret) ho hl hstt hini hcode hy hK hg (hsize.trans hml.symm) (argsL := As) (rest := rest) (fun sig h => hn.trans (hlen sig h)) hstack hW (by rw [hb]; exact hdg)
    (fun vm₁ hW₁ => ⟨hf.1, hf.2, hp.2 (T.setVm vm₁) hT hW₁⟩)
  dsimp only [Pt.U, Pt.locs, Pt.cells, Pt.slots] at X' e1 e2 h1 h2 h3 st
  subst h1; subst h2; subst h3
  exact ⟨v, (T.setVm vm₁).calling g' mk As.toArray, t, U', L, hT, X', hL, e1, e2, hq, st⟩
/-- not caught here, past rows that name other classes: it goes on to the caller -/
theorem vx_outP {p : Program} {l : Launch} {e : Env} {R : Room} {s : State} {m : MethodId} {args : Array Value} {below : List Frame} {meth : Method} {c : Code} {H : Heap} {locs : List Loc} {cells slots : Nat} {free : Addr → Prop} {ls : Array Slot} {rest : List Value} {Qc : Array Value → State → Outcome → State → Prop} {XC : String → State → State → Prop}
    {pc : Nat} {own E : String} {ce : Cell} {q : Addr} {mc ms : Nat} (hown : s.vm.findClass own = some m.cls) (hlocks : meth.locks = false)
    (hpass : ∀ z ∈ c.exceptionTable.toList, covers z pc = false ∨ (z.catchType ≠ 0 ∧ ∃ nm : String, (Cond.classLink own z.catchType nm).before args s = true ∧ va_Nc E nm s)) (hcell : H[q]? = some ce) (hv : ce.vm = .none) (hcl : s.vm.findClass E = some ce.cls)
    (hx : ∀ t : State, t.heap = H → s.vm.Alike t.vm → XC E s t) (hf : ∀ z ∈ locs, free z.base) (hc : cells ≤ mc) (hs : slots ≤ ms) :
    vx_W p l e R s m args below meth c H locs cells slots (vx_MQ below Qc XC args s mc ms free) (F0 m pc ls rest) q := by
  intro T hT X
  have hpl : e.platform.magicAccessors = ({} : Platform).magicAccessors := by rw [X.admits.platform]
  obtain ⟨vm', hW', X', st⟩ := X.outThrough hlocks q (g := F0 m pc ls rest) rfl rfl rfl (cell := ce) (by rw [hT]; exact hcell) (by rw [hv]; rfl)
    (by obtain ⟨k9, h9, -⟩ := Vm.findClass_spec hcl; exact ⟨k9, h9⟩) (fun z hz => by
      rcases hpass z hz with h | ⟨hz0, nm, hl1, hn1⟩
      · exact Or.inl h
      · obtain ⟨c6, hc6, hcl6⟩ := Cond.classLink_spec hown hl1 e.platform hpl
        obtain ⟨a8, b8, h1, h2, h3⟩ := hn1
        cases Option.some.inj (h1.symm.trans hcl)
        cases Option.some.inj (h2.symm.trans hc6)
        exact Or.inr ⟨hz0, _, hcl6, h3⟩)
  obtain ⟨g₀, hfr⟩ := X'.frames_eq
  have hcell9 : ((T.setVm vm').setFrames (.throwing q :: below)).heap[q]? = some ce := by
    show T.heap[q]? = some ce
    rw [hT]; exact hcell
  have hend : Ended ((T.setVm vm').setFrames (.throwing q :: below)) below (.threw q) := State.frames_setFrames _ (State.cur_lt_of_frames hfr)
  refine ⟨(T.setVm vm').setFrames (.throwing q :: below), ?_, .threw q, X'.here.running, hend, Or.inr ⟨q, rfl, E, ce, locs, hx _ hT (X'.ends _).1.alike, hcell9, hv, hcl, (X'.ends _).1, (X'.ends _).2.mono hc hs, hf⟩⟩
  rw [X.pushThrowing_eq]
  exact st
/-- a thing of a world lies in the heap -/
theorem vx_lt {D : va_G} {cl : List vw_C} {ws : va_W} {H1 : Heap} (h : va_P D cl ws H1) {k : Nat} {q : Nat × va_E} (hk : ws[k]? = some q) : q.1 < H1.size := (h k q hk).lt
end VXS
/-! ===== END ===== -/
/-! ===== BEGIN methods with a table of their own: called by a name, returning or throwing ===== -/
section VXH
/-! vx_backW, vx_callVX, vx_callSX, vx_callVW, vx_runVW, vx_runVX, vx_runSX, vx_ofWH follow the same proofs as their sisters above (Free/Laws.lean, Shelf42/LK1.lean); vx_outP calls Shelf42/NT130.lean (outThrough). -/
section
variable {l : Launch} {R : Room} {p : Program} {e : Env} {below : List Frame} {s : State} {sargs : Array Value} {y : MethodName} {len W9 : Nat}
theorem vx_backW {ws : List Cond} {rm : Room} {Pc : Array Value → State → Prop} {Qc : Array Value → State → Outcome → State → Prop} {XC : String → State → State → Prop} {mc ms : Nat} {free : Addr → Prop} {bytes : ByteArray} {maxL : Nat} {ret : Option FieldType} {hh : List (Nat × Nat × Nat × Nat)}
    (hM : vx_Met l y ws rm Pc Qc XC mc ms free) (hblind : FrameBlind Pc) (hrc : rm.cells = mc) (hrs : rm.slots = ms)
    (hframes : rm.frames + 1 ≤ R.frames) (hlocals : W9 + (maxL + 11) + rm.locals ≤ R.locals)
    (hws : ∀ w ∈ ws, ∀ a' U, s.WarmedH U.vm → w.before a' U = true) (hcode : Cond.codeWith y bytes maxL ret hh ∈ ws) (hinit : ∀ a' U, s.WarmedH U.vm → (Cond.initialized y.cls).before a' U = true) :
    vx_Back l R p e below s sargs y len W9 (PreOf R mc ms Pc) (PostOf Qc mc ms free) (vx_Post XC mc ms free) := by
  intro m meth c A g ig mk a X hg hsize hdg hW hn hp
  have h1 : (headSpec ws rm).pre.before a A.U = true := atoms_intro fun w hw => hws w hw _ _ X.warmed
  have h2 : (Cond.codeWith y bytes maxL ret hh).before a A.U = true := hws _ hcode _ _ X.warmed
  have h3 : (Cond.initialized y.cls).before a A.U = true := hinit _ _ X.warmed
  have h4 : A.cells + (headSpec ws rm).room.cells ≤ R.cells := by rw [show (headSpec ws rm).room.cells = mc from hrc]; exact hp.1
  have h5 : A.slots + (headSpec ws rm).room.slots ≤ R.slots := by rw [show (headSpec ws rm).room.slots = ms from hrs]; exact hp.2.1
  have hPc : Pc a (A.U.calling g mk a) := hblind _ _ _ _ hp.2.2
  obtain ⟨U, Ls, c0, s0⟩ := A
  dsimp only [Pt.U, Pt.locs, Pt.cells, Pt.slots] at h1 h2 h3 h4 h5 X hn hPc ⊢
  obtain ⟨m9, methY, cY, hn9, hmY, hcY, -, hlY, -⟩ := Cond.codeWith_spec h2
  cases Option.some.inj (hn9.symm.trans hn)
  obtain ⟨kY, hkY, -⟩ := className_of_methodNamed hn
  have hinitY : kY.init = .initialized := Cond.initialized_spec (findClass_of_methodNamed hn) hkY h3
  have h : At U g.method c below := by rw [hg]; exact X.here
  have hlocals9 : W9 + (maxL + 11) + (headSpec ws rm).room.locals ≤ R.locals := hlocals
  have happ : (headSpec ws rm).appliesLoose y e.platform (U.calling g mk a) = true :=
    Spec.appliesLoose_calling (g := g) h hdg hn hkY hinitY
      (X.room_calling (g := g) (R' := (headSpec ws rm).room) hsize hmY hcY hframes (by rw [hlY]; omega) h4 h5) h1
  obtain ⟨mid, hmid⟩ := h.above
  have hfr : (U.setTop g).frames = (.java g :: mid) ++ below := by rw [State.frames_setTop' g h.top, hmid]; rfl
  obtain ⟨o, s₂, hsteps, -, hend, hq⟩ := Steps.callFree hM p X.admits X.cas X.clock (acts := []) hfr happ hPc trivial
  have hq' : vx_Q Qc XC mc ms free a (U.calling g mk a) o s₂ := hq
  rw [State.frames_setTop' g h.top] at hend
  obtain ⟨g₀, hg0⟩ := Option.isSome_iff_exists.mp h.top
  obtain ⟨r, hr⟩ := State.topJava?_eq_some.mp hg0
  have hr' : (({ U with heap := s₂.heap, slotsUsed := s₂.slotsUsed } : State).setVm s₂.vm).frames = .java g₀ :: r := hr
  rcases hq' with ⟨hqc, L, hfe, hL⟩ | ⟨q, rfl, E, ce, L, hx, hce, hcv, hcl, hW₂, hsm, hL⟩
  · obtain ⟨⟨v, rfl⟩, hW₂, e2, q2, q3, q4, q5, q6⟩ := id hfe
    have e3 : s₂ = ({ (U.calling g mk a).setFrames s₂.frames with heap := s₂.heap, slotsUsed := s₂.slotsUsed } : State).setVm s₂.vm := by
      have : s₂ = ({ s₂ with vm := (U.calling g mk a).vm } : State).setVm s₂.vm := rfl
      rw [e2] at this
      exact this
    obtain ⟨c₂, i₂, len₂, hc₂, hd₂, hf₂⟩ := hend
    have hW' : U.WarmedH s₂.vm := hW₂
    have hcc : c₂ = c := by
      have h1 : s₂.code? g.method = U.code? g.method := by
        rw [State.code?_eq, State.code?_eq, hW'.alike.method?]
      exact Option.some.inj (hc₂.symm.trans (h1.trans h.code))
    subst hcc
    have hlen : len₂ = len := by rw [hdg] at hd₂; cases hd₂; rfl
    subst hlen
    have hs₂ : s₂ = (({ U with heap := s₂.heap, slotsUsed := s₂.slotsUsed } : State).setVm s₂.vm).setTop { g with pc := g.pc + len₂, stack := v.toList ++ g.stack } := by
      refine e3.trans ?_
      rw [hf₂, State.calling_eq h.top, State.setFrames_setFrames, State.setTop_of_frames _ hr', hr]
      rfl
    have hsame : U.sameButNew ({ U with heap := s₂.heap, slotsUsed := s₂.slotsUsed } : State) L mc ms := by
      refine ⟨?_, q2, q3, q4, q5, q6⟩
      obtain ⟨t, ht, -⟩ := State.frames_cons hr
      show ({ U with heap := s₂.heap, slotsUsed := s₂.slotsUsed } : State) = { U.setFrames U.frames with heap := s₂.heap, slotsUsed := s₂.slotsUsed }
      rw [State.setFrames_self ht]
    subst hg
    refine Or.inl ⟨v, ⟨(({ U with heap := s₂.heap, slotsUsed := s₂.slotsUsed } : State).setVm s₂.vm), Ls ++ L, c0 + mc, s0 + ms⟩,
      ⟨X.admits, X.cas, X.clock, X.frames, X.room, X.hears, X.method, X.code, (X.here.setHeapUsed s₂.heap s₂.slotsUsed).setVm hW'.alike, X.tail, State.WarmedH.trans X.warmed hW', X.limits, X.bytes, X.same.trans (hsame.setVm s.vm)⟩,
      ⟨g, mk, s₂, L, rfl, rfl, hqc, rfl, hL, rfl, rfl⟩, ?_⟩
    show Steps p.tables e below _ ((({ U with heap := s₂.heap, slotsUsed := s₂.slotsUsed } : State).setVm s₂.vm).setTop { g with pc := g.pc + len₂, stack := v.toList ++ g.stack })
    rw [← hs₂]
    exact hsteps
  · obtain ⟨e2, q2, q3, q4, q5, q6⟩ := id hsm
    have e3 : s₂ = ({ (U.calling g mk a).setFrames s₂.frames with heap := s₂.heap, slotsUsed := s₂.slotsUsed } : State).setVm s₂.vm := by
      have : s₂ = ({ s₂ with vm := (U.calling g mk a).vm } : State).setVm s₂.vm := rfl
      rw [e2] at this
      exact this
    have hf₂ : s₂.frames = .throwing q :: .java g :: U.frames.tail := hend
    have hW' : U.WarmedH s₂.vm := hW₂
    have hs₂ : s₂ = ((({ U with heap := s₂.heap, slotsUsed := s₂.slotsUsed } : State).setVm s₂.vm).setTop g).pushFrame (.throwing q) := by
      refine e3.trans ?_
      rw [hf₂, State.calling_eq h.top, State.setFrames_setFrames, State.pushFrame, State.frames_setTop _ hr', State.setTop_of_frames _ hr', State.setFrames_setFrames, hr]
      rfl
    have hsame : U.sameButNew ({ U with heap := s₂.heap, slotsUsed := s₂.slotsUsed } : State) L mc ms := by
      refine ⟨?_, q2, q3, q4, q5, q6⟩
      obtain ⟨t, ht, -⟩ := State.frames_cons hr
      show ({ U with heap := s₂.heap, slotsUsed := s₂.slotsUsed } : State) = { U.setFrames U.frames with heap := s₂.heap, slotsUsed := s₂.slotsUsed }
      rw [State.setFrames_self ht]
    subst hg
    refine Or.inr ⟨q, ⟨(({ U with heap := s₂.heap, slotsUsed := s₂.slotsUsed } : State).setVm s₂.vm), Ls ++ L, c0 + mc, s0 + ms⟩,
      ⟨X.admits, X.cas, X.clock, X.frames, X.room, X.hears, X.method, X.code, (X.here.setHeapUsed s₂.heap s₂.slotsUsed).setVm hW'.alike, X.tail, State.WarmedH.trans X.warmed hW', X.limits, X.bytes, X.same.trans (hsame.setVm s.vm)⟩,
      ⟨g, mk, s₂, L, E, ce, rfl, rfl, hx, hce, hcv, hcl, rfl, hL, rfl, rfl⟩, ?_⟩
    show Steps p.tables e below _ (((({ U with heap := s₂.heap, slotsUsed := s₂.slotsUsed } : State).setVm s₂.vm).setTop g).pushFrame (.throwing q))
    rw [← hs₂]
    exact hsteps
end
variable {p : Program} {l : Launch} {e : Env} {R : Room} {s : State} {m : MethodId} {args : Array Value} {below : List Frame} {meth : Method} {c : Code} {T : State} {H : Heap} {locs : List Loc} {cells slots : Nat}
theorem vx_callVX (X : Stand p l e R s m args below meth c T locs cells slots) (hexec : p.tables.exec = Jvm.exec) {own C : String} {index : Nat} {y : MethodName} {bytes : ByteArray} {maxL : Nat} {ret : Option FieldType} {hh : List (Nat × Nat × Nat × Nat)}
    (hown : s.vm.findClass own = some m.cls) (hlink : (Cond.methodLink own index y).before args s = true) (hinst : (Cond.instanceMethod y).before args s = true) (hsel : (Cond.selects C y y).before args s = true)
    (hcode : (Cond.codeWith y bytes maxL ret hh).before args s = true) (hy : y.cls ≠ "java/lang/invoke/MethodHandle" ∧ y.cls ≠ "java/lang/invoke/VarHandle")
    {W9 : Nat} {Pre : Pt → Array Value → Prop} {Post : Pt → Array Value → Option Value → Pt → Prop} {PostX : Pt → Array Value → Addr → Pt → Prop} (hK : vx_Back l R p e below s args y 3 W9 Pre Post PostX)
    {b : Addr} {cellB : Cell} (hcell : T.heap[b]? = some cellB) (hobj : cellB.vm.isStatics = false) (hcls : s.vm.findClass C = some cellB.cls)
    {g : JFrame} (hg : g.method = m) (hsize : g.locals.size = c.maxLocals) {argsL rest : List Value} (hlen : ∀ sig, parseMethodDescriptor y.desc = some sig → argsL.length = sig.parameters.length)
    (hstack : g.stack = argsL.reverse ++ .ref b :: rest) (hW : 2 * g.monitorRoom + (rest.map fun v => v.category).sum ≤ W9) (hdg : decode c.code g.pc = .ok (.invokevirtual index, 3))
    (hpre : ∀ vm₁, s.WarmedH vm₁ → Pre ⟨T.setVm vm₁, locs, cells, slots⟩ (Value.ref b :: argsL).toArray) :
    (∃ (v : Option Value) (vm₁ : Vm) (B : Pt), s.WarmedH vm₁ ∧ Stand p l e R s m args below meth c B.U B.locs B.cells B.slots ∧ Post ⟨T.setVm vm₁, locs, cells, slots⟩ (Value.ref b :: argsL).toArray v B ∧
      ∀ target, Steps p.tables e below (B.U.setTop { g with pc := g.pc + 3, stack := v.toList ++ rest }) target → Steps p.tables e below (T.setTop g) target) ∨
    (∃ (q : Addr) (vm₁ : Vm) (B : Pt), s.WarmedH vm₁ ∧ Stand p l e R s m args below meth c B.U B.locs B.cells B.slots ∧ PostX ⟨T.setVm vm₁, locs, cells, slots⟩ (Value.ref b :: argsL).toArray q B ∧
      Steps p.tables e below (T.setTop g) ((B.U.setTop { g with stack := rest }).pushFrame (.throwing q))) := by
  obtain ⟨mk, methM, hnamed, hmethM, hstM, habM⟩ := Cond.instanceMethod_spec hinst
  obtain ⟨m8, methM', cM, hn8, hmethM', -, -, -, -, -, -, hsigM⟩ := Cond.codeWith_spec hcode
  cases Option.some.inj (hn8.symm.trans hnamed)
  cases hmethM.symm.trans hmethM'
  obtain ⟨c2, r2, m2, q1, q2, q3, q4, kP, hkP, hkPi⟩ := Cond.selects_spec hsel
  cases hcls.symm.trans q1
  cases (State.methodFound?_of_named hnamed hy).symm.trans q2
  cases hnamed.symm.trans q3
  have hselP : selectMethod e.platform s.vm cellB.cls mk = .method mk := by rw [Launch.admits_selectMethod X.admits]; exact q4
  obtain ⟨vm₁, X₁, hstep₁⟩ := X.invokevirtual hexec hown hlink hnamed hmethM hstM hkP hkPi hy (a := b) (cell := cellB) hcell
    (fun z h => by rw [h] at hobj; cases hobj) hselP hmethM habM hkP hkPi (g := g) hg (argsL := argsL) (rest := rest) (hlen _ hsigM) hstack hdg
  rcases hK m meth c ⟨T.setVm vm₁, locs, cells, slots⟩ { g with stack := rest } (.invokevirtual index) mk (Value.ref b :: argsL).toArray X₁ hg hsize hdg hW (X₁.named hnamed) (hpre vm₁ X₁.warmed) with ⟨v, B, X', hpost, hsteps⟩ | ⟨q, B, X', hpost, hsteps⟩
  · exact Or.inl ⟨v, vm₁, B, X₁.warmed, X', hpost, fun target h => hstep₁ _ fun acts => by rw [doInvoke_state]; exact hsteps.trans h⟩
  · exact Or.inr ⟨q, vm₁, B, X₁.warmed, X', hpost, hstep₁ _ fun acts => by rw [doInvoke_state]; exact hsteps⟩
theorem vx_callSX (X : Stand p l e R s m args below meth c T locs cells slots) (hexec : p.tables.exec = Jvm.exec) {own : String} {index : Nat} {y : MethodName} {bytes : ByteArray} {maxL : Nat} {ret : Option FieldType} {hh : List (Nat × Nat × Nat × Nat)}
    (hown : s.vm.findClass own = some m.cls) (hlink : (Cond.methodLink own index y).before args s = true) (hstat : (Cond.static y).before args s = true) (hinit : (Cond.initialized y.cls).before args s = true)
    (hcode : (Cond.codeWith y bytes maxL ret hh).before args s = true) (hy : y.cls ≠ "java/lang/invoke/MethodHandle" ∧ y.cls ≠ "java/lang/invoke/VarHandle")
    {W9 : Nat} {Pre : Pt → Array Value → Prop} {Post : Pt → Array Value → Option Value → Pt → Prop} {PostX : Pt → Array Value → Addr → Pt → Prop} (hK : vx_Back l R p e below s args y 3 W9 Pre Post PostX)
    {g : JFrame} (hg : g.method = m) (hsize : g.locals.size = c.maxLocals) {argsL rest : List Value} (hlen : ∀ sig, parseMethodDescriptor y.desc = some sig → argsL.length = sig.parameters.length)
    (hstack : g.stack = argsL.reverse ++ rest) (hW : 2 * g.monitorRoom + (rest.map fun v => v.category).sum ≤ W9) (hdg : decode c.code g.pc = .ok (.invokestatic index, 3))
    (hpre : ∀ vm₁, s.WarmedH vm₁ → Pre ⟨T.setVm vm₁, locs, cells, slots⟩ argsL.toArray) :
    (∃ (v : Option Value) (vm₁ : Vm) (B : Pt), s.WarmedH vm₁ ∧ Stand p l e R s m args below meth c B.U B.locs B.cells B.slots ∧ Post ⟨T.setVm vm₁, locs, cells, slots⟩ argsL.toArray v B ∧
      ∀ target, Steps p.tables e below (B.U.setTop { g with pc := g.pc + 3, stack := v.toList ++ rest }) target → Steps p.tables e below (T.setTop g) target) ∨
    (∃ (q : Addr) (vm₁ : Vm) (B : Pt), s.WarmedH vm₁ ∧ Stand p l e R s m args below meth c B.U B.locs B.cells B.slots ∧ PostX ⟨T.setVm vm₁, locs, cells, slots⟩ argsL.toArray q B ∧
      Steps p.tables e below (T.setTop g) ((B.U.setTop { g with stack := rest }).pushFrame (.throwing q))) := by
  obtain ⟨mk, methM, cM, hnamed, hmethM, -, -, -, -, -, -, hsigM⟩ := Cond.codeWith_spec hcode
  have hstatic : methM.isStatic = true := Cond.static_spec hnamed hmethM hstat
  obtain ⟨kP, hkP, -⟩ := className_of_methodNamed hnamed
  have hinitP : kP.init = .initialized := Cond.initialized_spec (findClass_of_methodNamed hnamed) hkP hinit
  obtain ⟨vm₁, X₁, hstep₁⟩ := X.invokestatic hexec hown hlink hnamed hmethM hstatic hkP hinitP hy (g := g) hg (argsL := argsL) (rest := rest) (hlen _ hsigM) hstack hdg
  rcases hK m meth c ⟨T.setVm vm₁, locs, cells, slots⟩ { g with stack := rest } (.invokestatic index) mk argsL.toArray X₁ hg hsize hdg hW (X₁.named hnamed) (hpre vm₁ X₁.warmed) with ⟨v, B, X', hpost, hsteps⟩ | ⟨q, B, X', hpost, hsteps⟩
  · exact Or.inl ⟨v, vm₁, B, X₁.warmed, X', hpost, fun target h => hstep₁ _ fun acts => by rw [doInvoke_state]; exact hsteps.trans h⟩
  · exact Or.inr ⟨q, vm₁, B, X₁.warmed, X', hpost, hstep₁ _ fun acts => by rw [doInvoke_state]; exact hsteps⟩
theorem vx_callVW (X : Stand p l e R s m args below meth c T locs cells slots) (hexec : p.tables.exec = Jvm.exec) {own C : String} {index : Nat} {y : MethodName} {bytes : ByteArray} {maxL : Nat} {ret : Option FieldType} {hh : List (Nat × Nat × Nat × Nat)}
    (hown : s.vm.findClass own = some m.cls) (hlink : (Cond.methodLink own index y).before args s = true) (hinst : (Cond.instanceMethod y).before args s = true) (hsel : (Cond.selects C y y).before args s = true)
    (hcode : (Cond.codeWith y bytes maxL ret hh).before args s = true) (hy : y.cls ≠ "java/lang/invoke/MethodHandle" ∧ y.cls ≠ "java/lang/invoke/VarHandle")
    {W9 : Nat} {Pre : Pt → Array Value → Prop} {Post : Pt → Array Value → Option Value → Pt → Prop} (hK : Back l R p e below s args y 3 W9 Pre Post)
    {b : Addr} {cellB : Cell} (hcell : T.heap[b]? = some cellB) (hobj : cellB.vm.isStatics = false) (hcls : s.vm.findClass C = some cellB.cls)
    {g : JFrame} (hg : g.method = m) (hsize : g.locals.size = c.maxLocals) {argsL rest : List Value} (hlen : ∀ sig, parseMethodDescriptor y.desc = some sig → argsL.length = sig.parameters.length)
    (hstack : g.stack = argsL.reverse ++ .ref b :: rest) (hW : 2 * g.monitorRoom + (rest.map fun v => v.category).sum ≤ W9) (hdg : decode c.code g.pc = .ok (.invokevirtual index, 3))
    (hpre : ∀ vm₁, s.WarmedH vm₁ → Pre ⟨T.setVm vm₁, locs, cells, slots⟩ (Value.ref b :: argsL).toArray) :
    ∃ (v : Option Value) (vm₁ : Vm) (B : Pt), s.WarmedH vm₁ ∧ Stand p l e R s m args below meth c B.U B.locs B.cells B.slots ∧ Post ⟨T.setVm vm₁, locs, cells, slots⟩ (Value.ref b :: argsL).toArray v B ∧
      ∀ target, Steps p.tables e below (B.U.setTop { g with pc := g.pc + 3, stack := v.toList ++ rest }) target → Steps p.tables e below (T.setTop g) target := by
  obtain ⟨mk, methM, hnamed, hmethM, hstM, habM⟩ := Cond.instanceMethod_spec hinst
  obtain ⟨m8, methM', cM, hn8, hmethM', -, -, -, -, -, -, hsigM⟩ := Cond.codeWith_spec hcode
  cases Option.some.inj (hn8.symm.trans hnamed)
  cases hmethM.symm.trans hmethM'
  obtain ⟨c2, r2, m2, q1, q2, q3, q4, kP, hkP, hkPi⟩ := Cond.selects_spec hsel
  cases hcls.symm.trans q1
  cases (State.methodFound?_of_named hnamed hy).symm.trans q2
  cases hnamed.symm.trans q3
  have hselP : selectMethod e.platform s.vm cellB.cls mk = .method mk := by rw [Launch.admits_selectMethod X.admits]; exact q4
  obtain ⟨vm₁, X₁, hstep₁⟩ := X.invokevirtual hexec hown hlink hnamed hmethM hstM hkP hkPi hy (a := b) (cell := cellB) hcell
    (fun z h => by rw [h] at hobj; cases hobj) hselP hmethM habM hkP hkPi (g := g) hg (argsL := argsL) (rest := rest) (hlen _ hsigM) hstack hdg
  obtain ⟨v, B, X', hpost, hsteps⟩ := hK m meth c ⟨T.setVm vm₁, locs, cells, slots⟩ { g with stack := rest } (.invokevirtual index) mk (Value.ref b :: argsL).toArray X₁ hg hsize hdg hW (X₁.named hnamed) (hpre vm₁ X₁.warmed)
  exact ⟨v, vm₁, B, X₁.warmed, X', hpost, fun target h => hstep₁ _ fun acts => by rw [doInvoke_state]; exact hsteps.trans h⟩
abbrev vx_CVW (R : Room) (s : State) (args : Array Value) (own C : String) (index : Nat) (y : MethodName) (bytes : ByteArray) (maxL : Nat) (ret : Option FieldType) (hh : List (Nat × Nat × Nat × Nat)) (ws : List Cond) (rm : Room) (mc ms n : Nat) : Prop :=
  (rm.cells = mc ∧ rm.slots = ms ∧ rm.frames + 1 ≤ R.frames ∧ 8 + (maxL + 11) + rm.locals ≤ R.locals ∧ (∀ w ∈ ws, ∀ (a' : Array Value) (U : State), s.WarmedH U.vm → w.before a' U = true) ∧ Cond.codeWith y bytes maxL ret hh ∈ ws) ∧
  (Cond.codeWith y bytes maxL ret hh).before args s = true ∧ (Cond.initialized y.cls).before args s = true ∧ (y.cls ≠ "java/lang/invoke/MethodHandle" ∧ y.cls ≠ "java/lang/invoke/VarHandle") ∧
  (∀ sig, parseMethodDescriptor y.desc = some sig → n = sig.parameters.length) ∧ (Cond.methodLink own index y).before args s = true ∧ (Cond.instanceMethod y).before args s = true ∧ (Cond.selects C y y).before args s = true
theorem vx_cwVW {own C : String} {index maxL mc ms : Nat} {y : MethodName} {bytes : ByteArray} {ret : Option FieldType} {hh : List (Nat × Nat × Nat × Nat)} {Ts ws ws' : List Cond} {rm : Room} (n : Nat) (ht : ∀ w ∈ Ts, w.before args s = true) (hT : GoodIn Ts (wsV own index C y ws)) (hw : ws = Cond.codeWith y bytes maxL ret hh :: ws') (hrc : rm.cells = mc) (hrs : rm.slots = ms)
    (hd : y.cls = C ∧ y.cls ≠ "java/lang/invoke/MethodHandle" ∧ y.cls ≠ "java/lang/invoke/VarHandle" ∧ (parseMethodDescriptor y.desc).map (fun d => d.parameters.length) = some n) (hR : rm.frames + 1 ≤ R.frames ∧ 8 + (maxL + 11) + rm.locals ≤ R.locals) :
    vx_CVW R s args own C index y bytes maxL ret hh ws rm mc ms n := by
  obtain ⟨hC, hd⟩ := hd
  subst hC
  have ok : ∀ w ∈ wsV own index y.cls y ws, w.before args s = true := fun w h => ht w (hT w h).1
  have hG : GoodIn Ts ws := fun w h => hT w (by unfold wsV; exact List.mem_append_right _ h)
  have hc : Cond.codeWith y bytes maxL ret hh ∈ ws := by rw [hw]; exact List.mem_cons_self
  refine ⟨⟨hrc, hrs, hR.1, hR.2, pay_in ht hG, hc⟩, ht _ (hG _ hc).1, ok _ (by simp [wsV]), ⟨hd.1, hd.2.1⟩, fun sig h => ?_, ok _ (by simp [wsV]), ok _ (by simp [wsV]), ok _ (by simp [wsV])⟩
  have h2 := hd.2.2
  rw [h] at h2
  exact (Option.some.inj h2).symm
theorem vx_runVW {y : MethodName} {bytes cc : ByteArray} {maxL nL mc ms n index : Nat} {ret : Option FieldType} {hh : List (Nat × Nat × Nat × Nat)} {ws : List Cond} {rm : Room} {Pc : Array Value → State → Prop} {Qc : Array Value → State → Outcome → State → Prop} {free : Addr → Prop} {Ts : List Cond} {own C : String} {b : Addr} {As rest : List Value} {g : JFrame}
    (S : CallFix p m c cc nL s args Ts own) (hM : Met l y ws rm Pc Qc mc ms free) (cw : vx_CVW R s args own C index y bytes maxL ret hh ws rm mc ms n) (hp : PreV s H C b Pc As)
    (hg : g.method = m) (hn : As.length = n) (hsize : g.locals.size = nL) (hstack : g.stack = As.reverse ++ .ref b :: rest) (hW : 2 * g.monitorRoom + (rest.map fun v => v.category).sum ≤ 8) (hdg : decode cc g.pc = .ok (.invokevirtual index, 3)) (hf : cells + mc ≤ R.cells ∧ slots + ms ≤ R.slots) :
    va_Run p l e R s m args below meth c H locs cells slots mc ms g rest (Qc (Value.ref b :: As).toArray) free := by
  obtain ⟨⟨hrc, hrs, hfr, hlo, hws, hcw⟩, hcode, hini, hy, hlen, hl, hin, hse⟩ := cw
  have hK : Back l R p e below s args y 3 8 (PreOf R mc ms Pc) (PostOf Qc mc ms free) := va_backW (hh := hh) (bytes := bytes) (maxL := maxL) (ret := ret) hM hp.1 hrc hrs hfr hlo hws hcw (fun a' U hW => word_at hW (Or.inl (by first | rfl | simp [Cond.onTables, Cond.keeps, Cond.steady])) hini)
  obtain ⟨hx, hb, hml, ho, -⟩ := S
  obtain ⟨-, ⟨cellB, hcB, hoB, hclB⟩, hPc⟩ := hp
  intro T hT X
  obtain ⟨v, vm₁, ⟨U', l2, c2, s2⟩, hW₁, X', ⟨g', mk, t, L, e1, e2, hq, h1, hL, h2, h3⟩, st⟩ := vx_callVW X hx (C := C) (hh := hh) (bytes := bytes) (maxL := maxL) (ret := ret) ho hl hin hse hcode hy hK (by rw [hT]; exact hcB) hoB hclB hg (hsize.trans hml.symm) (argsL := As) (rest := rest) (fun sig h => hn.trans (hlen sig h)) hstack hW (by rw [hb]; exact hdg)
    (fun vm₁ hW₁ => ⟨hf.1, hf.2, hPc (T.setVm vm₁) hT hW₁⟩)
  dsimp only [Pt.U, Pt.locs, Pt.cells, Pt.slots] at X' e1 e2 h1 h2 h3 st
  subst h1; subst h2; subst h3
  exact ⟨v, (T.setVm vm₁).calling g' mk (Value.ref b :: As).toArray, t, U', L, hT, X', hL, e1, e2, hq, st⟩
section
variable {y : MethodName} {bytes cc : ByteArray} {maxL nL mc ms n index : Nat} {ret : Option FieldType} {ws : List Cond} {rm : Room} {Pc : Array Value → State → Prop} {Qc : Array Value → State → Outcome → State → Prop} {XC : String → State → State → Prop} {free : Addr → Prop} {Ts : List Cond} {own C : String} {b : Addr} {As rest : List Value} {g : JFrame}
theorem vx_runVX {hh : List (Nat × Nat × Nat × Nat)} (S : CallFix p m c cc nL s args Ts own) (hM : vx_Met l y ws rm Pc Qc XC mc ms free) (cw : vx_CVW R s args own C index y bytes maxL ret hh ws rm mc ms n) (hp : PreV s H C b Pc As)
    (hg : g.method = m) (hn : As.length = n) (hsize : g.locals.size = nL) (hstack : g.stack = As.reverse ++ .ref b :: rest) (hW : 2 * g.monitorRoom + (rest.map fun v => v.category).sum ≤ 8) (hdg : decode cc g.pc = .ok (.invokevirtual index, 3)) (hf : cells + mc ≤ R.cells ∧ slots + ms ≤ R.slots) :
    vx_Run p l e R s m args below meth c H locs cells slots mc ms g rest (Qc (Value.ref b :: As).toArray) XC free := by
  obtain ⟨⟨hrc, hrs, hfr, hlo, hws, hcw⟩, hcode, hini, hy, hlen, hl, hin, hse⟩ := cw
  have hK : vx_Back l R p e below s args y 3 8 (PreOf R mc ms Pc) (PostOf Qc mc ms free) (vx_Post XC mc ms free) := vx_backW (hh := hh) (bytes := bytes) (maxL := maxL) (ret := ret) hM hp.1 hrc hrs hfr hlo hws hcw (fun a' U hW => word_at hW (Or.inl (by first | rfl | simp [Cond.onTables, Cond.keeps, Cond.steady])) hini)
  obtain ⟨hx, hb, hml, ho, -⟩ := S
  obtain ⟨-, ⟨cellB, hcB, hoB, hclB⟩, hPc⟩ := hp
  intro T hT X
  rcases vx_callVX X hx (C := C) (hh := hh) (bytes := bytes) (maxL := maxL) (ret := ret) ho hl hin hse hcode hy hK (by rw [hT]; exact hcB) hoB hclB hg (hsize.trans hml.symm) (argsL := As) (rest := rest) (fun sig h => hn.trans (hlen sig h)) hstack hW (by rw [hb]; exact hdg)
    (fun vm₁ hW₁ => ⟨hf.1, hf.2, hPc (T.setVm vm₁) hT hW₁⟩) with ⟨v, vm₁, ⟨U', l2, c2, s2⟩, hW₁, X', ⟨g', mk, t, L, e1, e2, hq, h1, hL, h2, h3⟩, st⟩ | ⟨q, vm₁, ⟨U', l2, c2, s2⟩, hW₁, X', ⟨g', mk, t, L, E, ce, e1, e2, hq, hce, hcv, hcl, h1, hL, h2, h3⟩, st⟩
  · dsimp only [Pt.U, Pt.locs, Pt.cells, Pt.slots] at X' e1 e2 h1 h2 h3 st
    subst h1; subst h2; subst h3
    exact Or.inl ⟨v, (T.setVm vm₁).calling g' mk (Value.ref b :: As).toArray, t, U', L, hT, X', hL, e1, e2, hq, st⟩
  · dsimp only [Pt.U, Pt.locs, Pt.cells, Pt.slots] at X' e1 e2 h1 h2 h3 st hcl
    subst h1; subst h2; subst h3
    exact Or.inr ⟨q, (T.setVm vm₁).calling g' mk (Value.ref b :: As).toArray, t, U', L, E, ce, hT, X', hL, e1, e2, hq, hce, hcv, vx_cls hW₁ hcl, st⟩
theorem vx_runSX {hh : List (Nat × Nat × Nat × Nat)} (S : CallFix p m c cc nL s args Ts own) (hM : vx_Met l y ws rm Pc Qc XC mc ms free) (cw : vx_CSW R s args own index y bytes maxL ret hh ws rm mc ms n) (hp : PreS s H Pc As)
    (hg : g.method = m) (hn : As.length = n) (hsize : g.locals.size = nL) (hstack : g.stack = As.reverse ++ rest) (hW : 2 * g.monitorRoom + (rest.map fun v => v.category).sum ≤ 8) (hdg : decode cc g.pc = .ok (.invokestatic index, 3)) (hf : cells + mc ≤ R.cells ∧ slots + ms ≤ R.slots) :
    vx_Run p l e R s m args below meth c H locs cells slots mc ms g rest (Qc As.toArray) XC free := by
  obtain ⟨⟨hrc, hrs, hfr, hlo, hws, hcw⟩, hcode, hini, hy, hlen, hl, hstt⟩ := cw
  have hK : vx_Back l R p e below s args y 3 8 (PreOf R mc ms Pc) (PostOf Qc mc ms free) (vx_Post XC mc ms free) := vx_backW (hh := hh) (bytes := bytes) (maxL := maxL) (ret := ret) hM hp.1 hrc hrs hfr hlo hws hcw (fun a' U hW => word_at hW (Or.inl (by first | rfl | simp [Cond.onTables, Cond.keeps, Cond.steady])) hini)
  obtain ⟨hx, hb, hml, ho, -⟩ := S
  intro T hT X
  rcases vx_callSX X hx (hh := hh) (bytes := bytes) (maxL := maxL) (ret := ret) ho hl hstt hini hcode hy hK hg (hsize.trans hml.symm) (argsL := As) (rest := rest) (fun sig h => hn.trans (hlen sig h)) hstack hW (by rw [hb]; exact hdg)
    (fun vm₁ hW₁ => ⟨hf.1, hf.2, hp.2 (T.setVm vm₁) hT hW₁⟩) with ⟨v, vm₁, ⟨U', l2, c2, s2⟩, hW₁, X', ⟨g', mk, t, L, e1, e2, hq, h1, hL, h2, h3⟩, st⟩ | ⟨q, vm₁, ⟨U', l2, c2, s2⟩, hW₁, X', ⟨g', mk, t, L, E, ce, e1, e2, hq, hce, hcv, hcl, h1, hL, h2, h3⟩, st⟩
  · dsimp only [Pt.U, Pt.locs, Pt.cells, Pt.slots] at X' e1 e2 h1 h2 h3 st
    subst h1; subst h2; subst h3
    exact Or.inl ⟨v, (T.setVm vm₁).calling g' mk As.toArray, t, U', L, hT, X', hL, e1, e2, hq, st⟩
  · dsimp only [Pt.U, Pt.locs, Pt.cells, Pt.slots] at X' e1 e2 h1 h2 h3 st hcl
    subst h1; subst h2; subst h3
    exact Or.inr ⟨q, (T.setVm vm₁).calling g' mk As.toArray, t, U', L, E, ce, hT, X', hL, e1, e2, hq, hce, hcv, vx_cls hW₁ hcl, st⟩
end
end VXH
theorem vx_ofWH {l : Launch} {y : MethodName} {ws ws' : List Cond} {rm : Room} {Pc : Array Value → State → Prop} {Qc : Array Value → State → Outcome → State → Prop} {XC : String → State → State → Prop} {mc ms : Nat} {free : Addr → Prop} {cc : ByteArray} {maxL : Nat} {ret : Option FieldType} {hh : List (Nat × Nat × Nat × Nat)}
    (hy : plainName y.cls = true) (hw : ws = Cond.codeWith y cc maxL ret hh :: ws')
    (body : ∀ p e s m args below meth c s₁, BodyLoose p l y (headSpec ws rm) cc maxL ret e s m args below meth c s₁ → c.maxLocals = maxL → Pc args s →
      W p l e (headSpec ws rm).room s m args below meth c s.heap [] 0 0 (vx_MQ below Qc XC args s mc ms free) (entryFrame m args maxL)) : vx_Met l y ws rm Pc Qc XC mc ms free := by
  refine MetFree.of_bodyS (code := cc) (maxLocals := maxL) (ret := ret) hy ?_ ?_
  · intro args s m h hn
    obtain ⟨m9, meth, c, hn9, h1, h2, h3, h4, -, h5, h6, -⟩ := Cond.codeWith_spec (atoms_spec (ws := ws) h _ (by rw [hw]; exact List.mem_cons_self))
    cases hn.symm.trans hn9
    exact ⟨meth, c, h1, h2, h3, h4, h5, h6⟩
  · intro p e s m args below meth c s₁ B hml hP _
    have hh0 : s₁.heap = s.heap := by rw [B.state]; rfl
    obtain ⟨t, a1, o, b1, b2, b3⟩ := body p e s m args below meth c s₁ B hml hP s₁ hh0 (Stand.of_body B)
    exact ⟨t, o, a1, b1, b2, b3⟩
/-! ===== END ===== -/
end
section
/-! ===== BEGIN printed: names, fields, word lists, decode rows ===== -/
def RX0 : String := "GossipGates$Gates"
def TX0 : u_T := fun k => match k with
  | 0 => ("GossipGates$Gates", "gauges", "[I", true)
  | 1 => ("GossipGates$Gates", "openings", "[I", true)
  | 2 => ("GossipGates$Gates", "lows", "[I", true)
  | 3 => ("GossipGates$Gates", "highs", "[I", true)
  | 4 => ("GossipGates$Gates", "bounds", "[I", true)
  | 5 => ("GossipGates$Gates", "ages", "[I", true)
  | 6 => ("GossipGates$Gates", "safeties", "[I", true)
  | _ => ("GossipGates$Gates", "inHand", "[Z", true)
def tyX0 : Nat → FieldType := fun k => match k with
  | 0 => .array .int
  | 1 => .array .int
  | 2 => .array .int
  | 3 => .array .int
  | 4 => .array .int
  | 5 => .array .int
  | 6 => .array .int
  | _ => .array .boolean
abbrev wsX00 : List Cond := u_ws RX0 TX0 8
theorem nmX0 : ∀ a, a < 8 → ∀ b, b < 8 → a ≠ b → (TX0 a).2.1 ≠ (TX0 b).2.1 := by decide +kernel
theorem tyX0_ok : ∀ k, k < 8 → parseFieldDescriptor (TX0 k).2.2.1 = some (tyX0 k) := by decide +kernel
abbrev cX0_init : ByteArray := prog_2_method_1_code
def yX0_init : MethodName := ⟨RX0, "<init>", "()V"⟩
abbrev cX0_mostThrough : ByteArray := prog_2_method_2_code
def yX0_mostThrough : MethodName := ⟨RX0, "mostThrough", "(I)I"⟩
abbrev cX0_openForSafety : ByteArray := prog_2_method_3_code
def yX0_openForSafety : MethodName := ⟨RX0, "openForSafety", "(I)V"⟩
abbrev cX0_follow : ByteArray := prog_2_method_4_code
def yX0_follow : MethodName := ⟨RX0, "follow", "(IIZ)V"⟩
def RX1 : String := "GossipGates$Net"
def TX1 : u_T := fun k => match k with
  | 0 => ("GossipGates$Net", "isDown", "[Z", true)
  | 1 => ("GossipGates$Net", "isStuck", "[Z", true)
  | 2 => ("GossipGates$Net", "groups", "[I", true)
  | 3 => ("GossipGates$Net", "versions", "[[I", true)
  | 4 => ("GossipGates$Net", "levels", "[[I", true)
  | 5 => ("GossipGates$Net", "measured", "[[I", true)
  | 6 => ("GossipGates$Net", "beats", "[[I", true)
  | 7 => ("GossipGates$Net", "growths", "[[I", true)
  | 8 => ("GossipGates$Net", "statuses", "[[I", true)
  | 9 => ("GossipGates$Net", "suspicionTime", "I", false)
  | 10 => ("GossipGates$Net", "deathTime", "I", false)
  | _ => ("GossipGates$Net", "vainCalls", "I", false)
def tyX1 : Nat → FieldType := fun k => match k with
  | 0 => .array .boolean
  | 1 => .array .boolean
  | 2 => .array .int
  | 3 => .array (.array .int)
  | 4 => .array (.array .int)
  | 5 => .array (.array .int)
  | 6 => .array (.array .int)
  | 7 => .array (.array .int)
  | 8 => .array (.array .int)
  | 9 => .int
  | 10 => .int
  | _ => .int
abbrev wsX10 : List Cond := u_ws RX1 TX1 12
theorem nmX1 : ∀ a, a < 12 → ∀ b, b < 12 → a ≠ b → (TX1 a).2.1 ≠ (TX1 b).2.1 := by decide +kernel
theorem tyX1_ok : ∀ k, k < 12 → parseFieldDescriptor (TX1 k).2.2.1 = some (tyX1 k) := by decide +kernel
abbrev cX1_init : ByteArray := prog_3_method_1_code
def yX1_init : MethodName := ⟨RX1, "<init>", "()V"⟩
abbrev cX1_hasNews : ByteArray := prog_3_method_2_code
def yX1_hasNews : MethodName := ⟨RX1, "hasNews", "(II)Z"⟩
abbrev cX1_isOld : ByteArray := prog_3_method_3_code
def yX1_isOld : MethodName := ⟨RX1, "isOld", "(IIII)Z"⟩
abbrev cX1_measureAll : ByteArray := prog_3_method_4_code
def yX1_measureAll : MethodName := ⟨RX1, "measureAll", "(LGossipGates$River;I)V"⟩
abbrev cX1_measure : ByteArray := prog_3_method_5_code
def yX1_measure : MethodName := ⟨RX1, "measure", "(III)V"⟩
abbrev cX1_callAll : ByteArray := prog_3_method_6_code
def yX1_callAll : MethodName := ⟨RX1, "callAll", "(I)V"⟩
abbrev cX1_call : ByteArray := prog_3_method_7_code
def yX1_call : MethodName := ⟨RX1, "call", "(II)V"⟩
abbrev cX1_calledBy : ByteArray := prog_3_method_8_code
def yX1_calledBy : MethodName := ⟨RX1, "calledBy", "(II)I"⟩
abbrev cX1_isCallable : ByteArray := prog_3_method_9_code
def yX1_isCallable : MethodName := ⟨RX1, "isCallable", "(IIZ)Z"⟩
abbrev cX1_tellOneAnother : ByteArray := prog_3_method_10_code
def yX1_tellOneAnother : MethodName := ⟨RX1, "tellOneAnother", "(III)V"⟩
abbrev cX1_takeNews : ByteArray := prog_3_method_11_code
def yX1_takeNews : MethodName := ⟨RX1, "takeNews", "(III)V"⟩
abbrev cX1_takeBeat : ByteArray := prog_3_method_12_code
def yX1_takeBeat : MethodName := ⟨RX1, "takeBeat", "(IIII)V"⟩
abbrev cX1_lookAll : ByteArray := prog_3_method_13_code
def yX1_lookAll : MethodName := ⟨RX1, "lookAll", "(I)V"⟩
abbrev cX1_lookAtOthers : ByteArray := prog_3_method_14_code
def yX1_lookAtOthers : MethodName := ⟨RX1, "lookAtOthers", "(II)V"⟩
abbrev cX1_statusAfter : ByteArray := prog_3_method_15_code
def yX1_statusAfter : MethodName := ⟨RX1, "statusAfter", "(I)I"⟩
abbrev cX1_freshestOf : ByteArray := prog_3_method_16_code
def yX1_freshestOf : MethodName := ⟨RX1, "freshestOf", "(I)I"⟩
abbrev cX1_believersOf : ByteArray := prog_3_method_17_code
def yX1_believersOf : MethodName := ⟨RX1, "believersOf", "(II)I"⟩
abbrev cX1_countUnnoticed : ByteArray := prog_3_method_18_code
def yX1_countUnnoticed : MethodName := ⟨RX1, "countUnnoticed", "()I"⟩
abbrev cX1_countMistaken : ByteArray := prog_3_method_19_code
def yX1_countMistaken : MethodName := ⟨RX1, "countMistaken", "()I"⟩
abbrev cX1_countHolders : ByteArray := prog_3_method_20_code
def yX1_countHolders : MethodName := ⟨RX1, "countHolders", "(II)I"⟩
def RX2 : String := "GossipGates$River"
def TX2 : u_T := fun k => match k with
  | 0 => ("GossipGates$River", "areas", "[I", true)
  | 1 => ("GossipGates$River", "depths", "[I", true)
  | 2 => ("GossipGates$River", "volumes", "[I", true)
  | 3 => ("GossipGates$River", "clouds", "[I", true)
  | 4 => ("GossipGates$River", "fallen", "[I", true)
  | 5 => ("GossipGates$River", "through", "[I", true)
  | 6 => ("GossipGates$River", "over", "[I", true)
  | _ => ("GossipGates$River", "source", "I", false)
def tyX2 : Nat → FieldType := fun k => match k with
  | 0 => .array .int
  | 1 => .array .int
  | 2 => .array .int
  | 3 => .array .int
  | 4 => .array .int
  | 5 => .array .int
  | 6 => .array .int
  | _ => .int
abbrev wsX20 : List Cond := u_ws RX2 TX2 8
theorem nmX2 : ∀ a, a < 8 → ∀ b, b < 8 → a ≠ b → (TX2 a).2.1 ≠ (TX2 b).2.1 := by decide +kernel
theorem tyX2_ok : ∀ k, k < 8 → parseFieldDescriptor (TX2 k).2.2.1 = some (tyX2 k) := by decide +kernel
abbrev cX2_init : ByteArray := prog_4_method_1_code
def yX2_init : MethodName := ⟨RX2, "<init>", "()V"⟩
abbrev cX2_levelOf : ByteArray := prog_4_method_2_code
def yX2_levelOf : MethodName := ⟨RX2, "levelOf", "(I)I"⟩
abbrev cX2_balanceOf : ByteArray := prog_4_method_3_code
def yX2_balanceOf : MethodName := ⟨RX2, "balanceOf", "(I)I"⟩
abbrev cX2_takeIn : ByteArray := prog_4_method_4_code
def yX2_takeIn : MethodName := ⟨RX2, "takeIn", "()V"⟩
abbrev cX2_receive : ByteArray := prog_4_method_5_code
def yX2_receive : MethodName := ⟨RX2, "receive", "(II)V"⟩
abbrev cX2_letThrough : ByteArray := prog_4_method_6_code
def yX2_letThrough : MethodName := ⟨RX2, "letThrough", "(LGossipGates$Gates;)V"⟩
abbrev cX2_spillOver : ByteArray := prog_4_method_7_code
def yX2_spillOver : MethodName := ⟨RX2, "spillOver", "()I"⟩
abbrev cX2_moveOn : ByteArray := prog_4_method_8_code
def yX2_moveOn : MethodName := ⟨RX2, "moveOn", "(II)V"⟩
def RX3 : String := "GossipGates"
def TX3 : u_T := fun k => match k with
  | 0 => ("GossipGates", "river", "LGossipGates$River;", true)
  | 1 => ("GossipGates", "gates", "LGossipGates$Gates;", true)
  | 2 => ("GossipGates", "net", "LGossipGates$Net;", true)
  | _ => ("GossipGates", "now", "I", false)
def tyX3 : Nat → FieldType := fun k => match k with
  | 0 => .object "GossipGates$River"
  | 1 => .object "GossipGates$Gates"
  | 2 => .object "GossipGates$Net"
  | _ => .int
abbrev wsX30 : List Cond := u_ws RX3 TX3 4
theorem nmX3 : ∀ a, a < 4 → ∀ b, b < 4 → a ≠ b → (TX3 a).2.1 ≠ (TX3 b).2.1 := by decide +kernel
theorem tyX3_ok : ∀ k, k < 4 → parseFieldDescriptor (TX3 k).2.2.1 = some (tyX3 k) := by decide +kernel
abbrev cX3_init : ByteArray := prog_1_method_1_code
def yX3_init : MethodName := ⟨RX3, "<init>", "()V"⟩
abbrev cX3_shape : ByteArray := prog_1_method_2_code
def yX3_shape : MethodName := ⟨RX3, "shape", "(III)V"⟩
abbrev cX3_setGauge : ByteArray := prog_1_method_3_code
def yX3_setGauge : MethodName := ⟨RX3, "setGauge", "(II)I"⟩
abbrev cX3_setSource : ByteArray := prog_1_method_4_code
def yX3_setSource : MethodName := ⟨RX3, "setSource", "(I)I"⟩
abbrev cX3_rain : ByteArray := prog_1_method_5_code
def yX3_rain : MethodName := ⟨RX3, "rain", "(II)I"⟩
abbrev cX3_volume : ByteArray := prog_1_method_6_code
def yX3_volume : MethodName := ⟨RX3, "volume", "(I)I"⟩
abbrev cX3_volumeByBalance : ByteArray := prog_1_method_7_code
def yX3_volumeByBalance : MethodName := ⟨RX3, "volumeByBalance", "(I)I"⟩
abbrev cX3_level : ByteArray := prog_1_method_8_code
def yX3_level : MethodName := ⟨RX3, "level", "(I)I"⟩
abbrev cX3_flowed : ByteArray := prog_1_method_9_code
def yX3_flowed : MethodName := ⟨RX3, "flowed", "(I)I"⟩
abbrev cX3_spilled : ByteArray := prog_1_method_10_code
def yX3_spilled : MethodName := ⟨RX3, "spilled", "(I)I"⟩
abbrev cX3_setRule : ByteArray := prog_1_method_11_code
def yX3_setRule : MethodName := ⟨RX3, "setRule", "(IIIII)V"⟩
abbrev cX3_byHand : ByteArray := prog_1_method_12_code
def yX3_byHand : MethodName := ⟨RX3, "byHand", "(II)I"⟩
abbrev cX3_opening : ByteArray := prog_1_method_13_code
def yX3_opening : MethodName := ⟨RX3, "opening", "(I)I"⟩
abbrev cX3_safety : ByteArray := prog_1_method_14_code
def yX3_safety : MethodName := ⟨RX3, "safety", "(I)I"⟩
abbrev cX3_fall : ByteArray := prog_1_method_15_code
def yX3_fall : MethodName := ⟨RX3, "fall", "(I)V"⟩
abbrev cX3_comeUp : ByteArray := prog_1_method_16_code
def yX3_comeUp : MethodName := ⟨RX3, "comeUp", "(I)V"⟩
abbrev cX3_setGroup : ByteArray := prog_1_method_17_code
def yX3_setGroup : MethodName := ⟨RX3, "setGroup", "(II)I"⟩
abbrev cX3_setStuck : ByteArray := prog_1_method_18_code
def yX3_setStuck : MethodName := ⟨RX3, "setStuck", "(IZ)Z"⟩
abbrev cX3_setTimes : ByteArray := prog_1_method_19_code
def yX3_setTimes : MethodName := ⟨RX3, "setTimes", "(II)V"⟩
abbrev cX3_believed : ByteArray := prog_1_method_20_code
def yX3_believed : MethodName := ⟨RX3, "believed", "(II)I"⟩
abbrev cX3_version : ByteArray := prog_1_method_21_code
def yX3_version : MethodName := ⟨RX3, "version", "(II)I"⟩
abbrev cX3_age : ByteArray := prog_1_method_22_code
def yX3_age : MethodName := ⟨RX3, "age", "(II)I"⟩
abbrev cX3_beat : ByteArray := prog_1_method_23_code
def yX3_beat : MethodName := ⟨RX3, "beat", "(II)I"⟩
abbrev cX3_status : ByteArray := prog_1_method_24_code
def yX3_status : MethodName := ⟨RX3, "status", "(II)I"⟩
abbrev cX3_partner : ByteArray := prog_1_method_25_code
def yX3_partner : MethodName := ⟨RX3, "partner", "(I)I"⟩
abbrev cX3_freshest : ByteArray := prog_1_method_26_code
def yX3_freshest : MethodName := ⟨RX3, "freshest", "(I)I"⟩
abbrev cX3_agree : ByteArray := prog_1_method_27_code
def yX3_agree : MethodName := ⟨RX3, "agree", "(I)I"⟩
abbrev cX3_unnoticed : ByteArray := prog_1_method_28_code
def yX3_unnoticed : MethodName := ⟨RX3, "unnoticed", "()I"⟩
abbrev cX3_mistaken : ByteArray := prog_1_method_29_code
def yX3_mistaken : MethodName := ⟨RX3, "mistaken", "()I"⟩
abbrev cX3_vain : ByteArray := prog_1_method_30_code
def yX3_vain : MethodName := ⟨RX3, "vain", "()I"⟩
abbrev cX3_tick : ByteArray := prog_1_method_31_code
def yX3_tick : MethodName := ⟨RX3, "tick", "(I)I"⟩
abbrev cX3_time : ByteArray := prog_1_method_32_code
def yX3_time : MethodName := ⟨RX3, "time", "()I"⟩
abbrev cX3_passOneTick : ByteArray := prog_1_method_33_code
def yX3_passOneTick : MethodName := ⟨RX3, "passOneTick", "()I"⟩
abbrev cX3_ruleGates : ByteArray := prog_1_method_34_code
def yX3_ruleGates : MethodName := ⟨RX3, "ruleGates", "()V"⟩
abbrev cX3_ruleGate : ByteArray := prog_1_method_35_code
def yX3_ruleGate : MethodName := ⟨RX3, "ruleGate", "(I)V"⟩
abbrev cX3_requireNumber : ByteArray := prog_1_method_36_code
def yX3_requireNumber : MethodName := ⟨RX3, "requireNumber", "(I)V"⟩
abbrev cX3_requireWithin : ByteArray := prog_1_method_37_code
def yX3_requireWithin : MethodName := ⟨RX3, "requireWithin", "(III)V"⟩
def RX4 : String := "GossipGatesModel"
def TX4 : u_T := fun k => match k with
  | _ => ("", "", "", false)
def tyX4 : Nat → FieldType := fun k => match k with
  | _ => .int
abbrev wsX40 : List Cond := u_ws RX4 TX4 0
theorem nmX4 : ∀ a, a < 0 → ∀ b, b < 0 → a ≠ b → (TX4 a).2.1 ≠ (TX4 b).2.1 := by decide +kernel
theorem tyX4_ok : ∀ k, k < 0 → parseFieldDescriptor (TX4 k).2.2.1 = some (tyX4 k) := by decide +kernel
def RJx145de : String := "java/io/Serializable"
def TJx145de : u_T := fun k => match k with
  | _ => ("", "", "", false)
def tyJx145de : Nat → FieldType := fun k => match k with
  | _ => .int
abbrev wsJx145de0 : List Cond := u_ws RJx145de TJx145de 0
theorem nmJx145de : ∀ a, a < 0 → ∀ b, b < 0 → a ≠ b → (TJx145de a).2.1 ≠ (TJx145de b).2.1 := by decide +kernel
theorem tyJx145de_ok : ∀ k, k < 0 → parseFieldDescriptor (TJx145de k).2.2.1 = some (tyJx145de k) := by decide +kernel
def RJ9 : String := "java/lang/Math"
def TJ9 : u_T := fun k => match k with
  | _ => ("", "", "", false)
def tyJ9 : Nat → FieldType := fun k => match k with
  | _ => .int
abbrev wsJ90 : List Cond := u_ws RJ9 TJ9 0
theorem nmJ9 : ∀ a, a < 0 → ∀ b, b < 0 → a ≠ b → (TJ9 a).2.1 ≠ (TJ9 b).2.1 := by decide +kernel
theorem tyJ9_ok : ∀ k, k < 0 → parseFieldDescriptor (TJ9 k).2.2.1 = some (tyJ9 k) := by decide +kernel
abbrev cJ9_max_7cf53 : ByteArray := prog_10_method_65_code
def yJ9_max_7cf53 : MethodName := ⟨RJ9, "max", "(II)I"⟩
abbrev cJ9_min_7cf53 : ByteArray := prog_10_method_69_code
def yJ9_min_7cf53 : MethodName := ⟨RJ9, "min", "(II)I"⟩
def RJ0 : String := "java/lang/String"
def TJ0 : u_T := fun k => match k with
  | _ => ("", "", "", false)
def tyJ0 : Nat → FieldType := fun k => match k with
  | _ => .int
abbrev wsJ00 : List Cond := u_ws RJ0 TJ0 0
theorem nmJ0 : ∀ a, a < 0 → ∀ b, b < 0 → a ≠ b → (TJ0 a).2.1 ≠ (TJ0 b).2.1 := by decide +kernel
theorem tyJ0_ok : ∀ k, k < 0 → parseFieldDescriptor (TJ0 k).2.2.1 = some (tyJ0 k) := by decide +kernel
def RJ7 : String := "java/util/Arrays"
def TJ7 : u_T := fun k => match k with
  | _ => ("", "", "", false)
def tyJ7 : Nat → FieldType := fun k => match k with
  | _ => .int
abbrev wsJ70 : List Cond := u_ws RJ7 TJ7 0
theorem nmJ7 : ∀ a, a < 0 → ∀ b, b < 0 → a ≠ b → (TJ7 a).2.1 ≠ (TJ7 b).2.1 := by decide +kernel
theorem tyJ7_ok : ∀ k, k < 0 → parseFieldDescriptor (TJ7 k).2.2.1 = some (tyJ7 k) := by decide +kernel
abbrev cJ7_fill_53178 : ByteArray := prog_14_method_103_code
def yJ7_fill_53178 : MethodName := ⟨RJ7, "fill", "([II)V"⟩
def RL : String := "GossipGatesLaw"
abbrev cL_dice : ByteArray := method_2_code
def yL_dice : MethodName := ⟨RL, "dice", "([II)I"⟩
abbrev cL_act : ByteArray := method_3_code
def yL_act : MethodName := ⟨RL, "act", "(LGossipGates;III)I"⟩
abbrev cL_shaped : ByteArray := method_4_code
def yL_shaped : MethodName := ⟨RL, "shaped", "(LGossipGates;III)I"⟩
abbrev cL_ruled : ByteArray := method_5_code
def yL_ruled : MethodName := ⟨RL, "ruled", "(LGossipGates;IIIII)I"⟩
abbrev cL_timed : ByteArray := method_6_code
def yL_timed : MethodName := ⟨RL, "timed", "(LGossipGates;II)I"⟩
abbrev cL_fallen : ByteArray := method_7_code
def yL_fallen : MethodName := ⟨RL, "fallen", "(LGossipGates;I)I"⟩
abbrev cL_risen : ByteArray := method_8_code
def yL_risen : MethodName := ⟨RL, "risen", "(LGossipGates;I)I"⟩
abbrev cL_of : ByteArray := method_9_code
def yL_of : MethodName := ⟨RL, "of", "(LGossipGates;III)I"⟩
abbrev cL_all : ByteArray := method_10_code
def yL_all : MethodName := ⟨RL, "all", "(LGossipGates;)J"⟩
abbrev cL_keeps : ByteArray := method_11_code
def yL_keeps : MethodName := ⟨RL, "keeps", "(LGossipGates;[I[I)V"⟩
abbrev cL_isWater : ByteArray := method_12_code
def yL_isWater : MethodName := ⟨RL, "isWater", "(LGossipGates;[I[I[II)Z"⟩
abbrev cL_areBeats : ByteArray := method_13_code
def yL_areBeats : MethodName := ⟨RL, "areBeats", "(LGossipGates;[I[I[I[I)Z"⟩
abbrev cL_areGates : ByteArray := method_14_code
def yL_areGates : MethodName := ⟨RL, "areGates", "(LGossipGates;[I[I[I)Z"⟩
abbrev cL_areMembers : ByteArray := method_15_code
def yL_areMembers : MethodName := ⟨RL, "areMembers", "(LGossipGates;[I)Z"⟩
abbrev cL_isTicked : ByteArray := method_16_code
def yL_isTicked : MethodName := ⟨RL, "isTicked", "(LGossipGates;[I[I[I[I[I[I)Z"⟩
abbrev cL_isRefused : ByteArray := method_17_code
def yL_isRefused : MethodName := ⟨RL, "isRefused", "(LGossipGates;[II)Z"⟩
abbrev cL_law : ByteArray := code
def yL_law : MethodName := ⟨RL, "law", "([I)Z"⟩
def wsJ7_fill_53178 : List Cond := .code yJ7_fill_53178 cJ7_fill_53178 4 none :: ([])
def wsX0_init : List Cond := .code yX0_init cX0_init 1 none :: ([.methodLink RX0 3 objectInit, .instanceMethod objectInit, .code objectInit ⟨#[0xb1]⟩ 1 none, .arrayClass .int, .fieldLink RX0 9 "GossipGates$Gates" "gauges" "[I", .fieldLink RX0 15 "GossipGates$Gates" "openings" "[I", .fieldLink RX0 18 "GossipGates$Gates" "lows" "[I", .fieldLink RX0 21 "GossipGates$Gates" "highs" "[I", .fieldLink RX0 24 "GossipGates$Gates" "bounds" "[I", .fieldLink RX0 27 "GossipGates$Gates" "ages" "[I", .fieldLink RX0 30 "GossipGates$Gates" "safeties" "[I", .arrayClass .boolean, .fieldLink RX0 33 "GossipGates$Gates" "inHand" "[Z", .methodLink RX0 37 yJ7_fill_53178, .static yJ7_fill_53178, .initialized RJ7, .code yJ7_fill_53178 cJ7_fill_53178 4 none] ++ wsX00)
def wsX0_mostThrough : List Cond := .code yX0_mostThrough cX0_mostThrough 2 (some .int) :: ([.fieldLink RX0 15 "GossipGates$Gates" "openings" "[I", .fieldLink RX0 9 "GossipGates$Gates" "gauges" "[I"] ++ wsX00)
def wsX0_openForSafety : List Cond := .code yX0_openForSafety cX0_openForSafety 2 none :: ([.fieldLink RX0 15 "GossipGates$Gates" "openings" "[I", .methodLink RX0 43 Lib.Math.min.name, .static Lib.Math.min.name, .initialized "java/lang/Math", .code Lib.Math.min.name Lib.Math.min.code 2 (some .int), .fieldLink RX0 30 "GossipGates$Gates" "safeties" "[I"] ++ wsX00)
def wsX0_follow : List Cond := .code yX0_follow cX0_follow 4 none :: ([.fieldLink RX0 21 "GossipGates$Gates" "highs" "[I", .fieldLink RX0 15 "GossipGates$Gates" "openings" "[I", .methodLink RX0 43 Lib.Math.min.name, .static Lib.Math.min.name, .initialized "java/lang/Math", .code Lib.Math.min.name Lib.Math.min.code 2 (some .int), .fieldLink RX0 18 "GossipGates$Gates" "lows" "[I", .methodLink RX0 49 Lib.Math.max.name, .static Lib.Math.max.name, .code Lib.Math.max.name Lib.Math.max.code 2 (some .int)] ++ wsX00)
def wsX1_init : List Cond := .code yX1_init cX1_init 1 none :: ([.methodLink RX1 3 objectInit, .instanceMethod objectInit, .code objectInit ⟨#[0xb1]⟩ 1 none, .arrayClass .boolean, .fieldLink RX1 9 "GossipGates$Net" "isDown" "[Z", .fieldLink RX1 15 "GossipGates$Net" "isStuck" "[Z", .arrayClass .int, .fieldLink RX1 18 "GossipGates$Net" "groups" "[I", .classLink RX1 22 "[[I", .fieldLink RX1 24 "GossipGates$Net" "versions" "[[I", .fieldLink RX1 27 "GossipGates$Net" "levels" "[[I", .fieldLink RX1 30 "GossipGates$Net" "measured" "[[I", .fieldLink RX1 33 "GossipGates$Net" "beats" "[[I", .fieldLink RX1 36 "GossipGates$Net" "growths" "[[I", .fieldLink RX1 39 "GossipGates$Net" "statuses" "[[I", .fieldLink RX1 42 "GossipGates$Net" "suspicionTime" "I", .fieldLink RX1 46 "GossipGates$Net" "deathTime" "I", .fieldLink RX1 49 "GossipGates$Net" "vainCalls" "I"] ++ wsX10)
def wsX1_hasNews : List Cond := .code yX1_hasNews cX1_hasNews 3 (some .boolean) :: ([.fieldLink RX1 24 "GossipGates$Net" "versions" "[[I"] ++ wsX10)
def wsX1_isOld : List Cond := .code yX1_isOld cX1_isOld 5 (some .boolean) :: ([.fieldLink RX1 30 "GossipGates$Net" "measured" "[[I", .methodLink RX1 52 yX1_hasNews, .instanceMethod yX1_hasNews, .selects RX1 yX1_hasNews yX1_hasNews, .initialized RX1, .code yX1_hasNews cX1_hasNews 3 (some .boolean), .fieldLink RX1 24 "GossipGates$Net" "versions" "[[I"] ++ wsX10)
def wsX2_levelOf : List Cond := .code yX2_levelOf cX2_levelOf 3 (some .int) :: ([.fieldLink RX2 9 "GossipGates$River" "areas" "[I", .fieldLink RX2 18 "GossipGates$River" "volumes" "[I"] ++ wsX20)
def wsX1_measure : List Cond := .code yX1_measure cX1_measure 4 none :: ([.fieldLink RX1 15 "GossipGates$Net" "isStuck" "[Z", .fieldLink RX1 27 "GossipGates$Net" "levels" "[[I", .fieldLink RX1 30 "GossipGates$Net" "measured" "[[I", .fieldLink RX1 24 "GossipGates$Net" "versions" "[[I", .fieldLink RX1 33 "GossipGates$Net" "beats" "[[I", .fieldLink RX1 36 "GossipGates$Net" "growths" "[[I"] ++ wsX10)
def wsX1_measureAll : List Cond := .code yX1_measureAll cX1_measureAll 4 none :: ([.fieldLink RX1 9 "GossipGates$Net" "isDown" "[Z", .methodLink RX1 56 yX2_levelOf, .instanceMethod yX2_levelOf, .selects RX2 yX2_levelOf yX2_levelOf, .initialized RX2, .code yX2_levelOf cX2_levelOf 3 (some .int), .fieldLink RX2 9 "GossipGates$River" "areas" "[I", .fieldLink RX2 18 "GossipGates$River" "volumes" "[I", .methodLink RX1 62 yX1_measure, .instanceMethod yX1_measure, .selects RX1 yX1_measure yX1_measure, .initialized RX1, .code yX1_measure cX1_measure 4 none, .fieldLink RX1 15 "GossipGates$Net" "isStuck" "[Z", .fieldLink RX1 27 "GossipGates$Net" "levels" "[[I", .fieldLink RX1 30 "GossipGates$Net" "measured" "[[I", .fieldLink RX1 24 "GossipGates$Net" "versions" "[[I", .fieldLink RX1 33 "GossipGates$Net" "beats" "[[I", .fieldLink RX1 36 "GossipGates$Net" "growths" "[[I"] ++ wsX10 ++ wsX20)
def wsX1_isCallable : List Cond := .code yX1_isCallable cX1_isCallable 4 (some .boolean) :: ([.fieldLink RX1 39 "GossipGates$Net" "statuses" "[[I"] ++ wsX10)
def wsX1_calledBy : List Cond := .code yX1_calledBy cX1_calledBy 7 (some .int) :: ([.methodLink RX1 77 yX1_isCallable, .instanceMethod yX1_isCallable, .selects RX1 yX1_isCallable yX1_isCallable, .initialized RX1, .code yX1_isCallable cX1_isCallable 4 (some .boolean), .fieldLink RX1 39 "GossipGates$Net" "statuses" "[[I"] ++ wsX10)
def wsX1_takeNews : List Cond := .code yX1_takeNews cX1_takeNews 4 none :: ([.fieldLink RX1 24 "GossipGates$Net" "versions" "[[I", .fieldLink RX1 27 "GossipGates$Net" "levels" "[[I", .fieldLink RX1 30 "GossipGates$Net" "measured" "[[I"] ++ wsX10)
def wsX1_takeBeat : List Cond := .code yX1_takeBeat cX1_takeBeat 5 none :: ([.fieldLink RX1 33 "GossipGates$Net" "beats" "[[I", .fieldLink RX1 36 "GossipGates$Net" "growths" "[[I", .fieldLink RX1 39 "GossipGates$Net" "statuses" "[[I"] ++ wsX10)
def wsX1_tellOneAnother : List Cond := .code yX1_tellOneAnother cX1_tellOneAnother 5 none :: ([.methodLink RX1 81 yX1_takeNews, .instanceMethod yX1_takeNews, .selects RX1 yX1_takeNews yX1_takeNews, .initialized RX1, .code yX1_takeNews cX1_takeNews 4 none, .fieldLink RX1 24 "GossipGates$Net" "versions" "[[I", .fieldLink RX1 27 "GossipGates$Net" "levels" "[[I", .fieldLink RX1 30 "GossipGates$Net" "measured" "[[I", .methodLink RX1 84 yX1_takeBeat, .instanceMethod yX1_takeBeat, .selects RX1 yX1_takeBeat yX1_takeBeat, .code yX1_takeBeat cX1_takeBeat 5 none, .fieldLink RX1 33 "GossipGates$Net" "beats" "[[I", .fieldLink RX1 36 "GossipGates$Net" "growths" "[[I", .fieldLink RX1 39 "GossipGates$Net" "statuses" "[[I"] ++ wsX10)
def wsX1_call_r1 : List Cond := [Cond.fieldLink RX1 9 "GossipGates$Net" "isDown" "[Z", Cond.fieldLink RX1 18 "GossipGates$Net" "groups" "[I", Cond.fieldLink RX1 49 "GossipGates$Net" "vainCalls" "I", Cond.methodLink RX1 70 yX1_calledBy, Cond.instanceMethod yX1_calledBy, Cond.selects RX1 yX1_calledBy yX1_calledBy, Cond.initialized RX1, Cond.code yX1_calledBy cX1_calledBy 7 (some .int), Cond.methodLink RX1 77 yX1_isCallable, Cond.instanceMethod yX1_isCallable, Cond.selects RX1 yX1_isCallable yX1_isCallable, Cond.code yX1_isCallable cX1_isCallable 4 (some .boolean), Cond.fieldLink RX1 39 "GossipGates$Net" "statuses" "[[I", Cond.methodLink RX1 74 yX1_tellOneAnother, Cond.instanceMethod yX1_tellOneAnother, Cond.selects RX1 yX1_tellOneAnother yX1_tellOneAnother, Cond.code yX1_tellOneAnother cX1_tellOneAnother 5 none, Cond.methodLink RX1 81 yX1_takeNews, Cond.instanceMethod yX1_takeNews, Cond.selects RX1 yX1_takeNews yX1_takeNews, Cond.code yX1_takeNews cX1_takeNews 4 none, Cond.fieldLink RX1 24 "GossipGates$Net" "versions" "[[I", Cond.fieldLink RX1 27 "GossipGates$Net" "levels" "[[I", Cond.fieldLink RX1 30 "GossipGates$Net" "measured" "[[I"]
def wsX1_call_r2 : List Cond := [Cond.methodLink RX1 84 yX1_takeBeat, Cond.instanceMethod yX1_takeBeat, Cond.selects RX1 yX1_takeBeat yX1_takeBeat, Cond.code yX1_takeBeat cX1_takeBeat 5 none, Cond.fieldLink RX1 33 "GossipGates$Net" "beats" "[[I", Cond.fieldLink RX1 36 "GossipGates$Net" "growths" "[[I"]
def wsX1_call : List Cond := .code yX1_call cX1_call 4 none :: ((wsX1_call_r1 ++ wsX1_call_r2) ++ wsX10)
def wsX1_callAll_r1 : List Cond := [Cond.fieldLink RX1 9 "GossipGates$Net" "isDown" "[Z", Cond.methodLink RX1 66 yX1_call, Cond.instanceMethod yX1_call, Cond.selects RX1 yX1_call yX1_call, Cond.initialized RX1, Cond.code yX1_call cX1_call 4 none, Cond.fieldLink RX1 18 "GossipGates$Net" "groups" "[I", Cond.fieldLink RX1 49 "GossipGates$Net" "vainCalls" "I", Cond.methodLink RX1 70 yX1_calledBy, Cond.instanceMethod yX1_calledBy, Cond.selects RX1 yX1_calledBy yX1_calledBy, Cond.code yX1_calledBy cX1_calledBy 7 (some .int), Cond.methodLink RX1 77 yX1_isCallable, Cond.instanceMethod yX1_isCallable, Cond.selects RX1 yX1_isCallable yX1_isCallable, Cond.code yX1_isCallable cX1_isCallable 4 (some .boolean), Cond.fieldLink RX1 39 "GossipGates$Net" "statuses" "[[I", Cond.methodLink RX1 74 yX1_tellOneAnother, Cond.instanceMethod yX1_tellOneAnother, Cond.selects RX1 yX1_tellOneAnother yX1_tellOneAnother, Cond.code yX1_tellOneAnother cX1_tellOneAnother 5 none, Cond.methodLink RX1 81 yX1_takeNews, Cond.instanceMethod yX1_takeNews, Cond.selects RX1 yX1_takeNews yX1_takeNews]
def wsX1_callAll_r2 : List Cond := [Cond.code yX1_takeNews cX1_takeNews 4 none, Cond.fieldLink RX1 24 "GossipGates$Net" "versions" "[[I", Cond.fieldLink RX1 27 "GossipGates$Net" "levels" "[[I", Cond.fieldLink RX1 30 "GossipGates$Net" "measured" "[[I", Cond.methodLink RX1 84 yX1_takeBeat, Cond.instanceMethod yX1_takeBeat, Cond.selects RX1 yX1_takeBeat yX1_takeBeat, Cond.code yX1_takeBeat cX1_takeBeat 5 none, Cond.fieldLink RX1 33 "GossipGates$Net" "beats" "[[I", Cond.fieldLink RX1 36 "GossipGates$Net" "growths" "[[I"]
def wsX1_callAll : List Cond := .code yX1_callAll cX1_callAll 3 none :: ((wsX1_callAll_r1 ++ wsX1_callAll_r2) ++ wsX10)
def wsX1_statusAfter : List Cond := .code yX1_statusAfter cX1_statusAfter 2 (some .int) :: ([.fieldLink RX1 46 "GossipGates$Net" "deathTime" "I", .fieldLink RX1 42 "GossipGates$Net" "suspicionTime" "I"] ++ wsX10)
def wsX1_lookAtOthers : List Cond := .code yX1_lookAtOthers cX1_lookAtOthers 4 none :: ([.fieldLink RX1 39 "GossipGates$Net" "statuses" "[[I", .fieldLink RX1 36 "GossipGates$Net" "growths" "[[I", .methodLink RX1 91 yX1_statusAfter, .instanceMethod yX1_statusAfter, .selects RX1 yX1_statusAfter yX1_statusAfter, .initialized RX1, .code yX1_statusAfter cX1_statusAfter 2 (some .int), .fieldLink RX1 46 "GossipGates$Net" "deathTime" "I", .fieldLink RX1 42 "GossipGates$Net" "suspicionTime" "I"] ++ wsX10)
def wsX1_lookAll : List Cond := .code yX1_lookAll cX1_lookAll 3 none :: ([.fieldLink RX1 9 "GossipGates$Net" "isDown" "[Z", .methodLink RX1 88 yX1_lookAtOthers, .instanceMethod yX1_lookAtOthers, .selects RX1 yX1_lookAtOthers yX1_lookAtOthers, .initialized RX1, .code yX1_lookAtOthers cX1_lookAtOthers 4 none, .fieldLink RX1 39 "GossipGates$Net" "statuses" "[[I", .fieldLink RX1 36 "GossipGates$Net" "growths" "[[I", .methodLink RX1 91 yX1_statusAfter, .instanceMethod yX1_statusAfter, .selects RX1 yX1_statusAfter yX1_statusAfter, .code yX1_statusAfter cX1_statusAfter 2 (some .int), .fieldLink RX1 46 "GossipGates$Net" "deathTime" "I", .fieldLink RX1 42 "GossipGates$Net" "suspicionTime" "I"] ++ wsX10)
def wsX1_freshestOf : List Cond := .code yX1_freshestOf cX1_freshestOf 5 (some .int) :: ([.fieldLink RX1 24 "GossipGates$Net" "versions" "[[I"] ++ wsX10)
def wsX1_believersOf : List Cond := .code yX1_believersOf cX1_believersOf 6 (some .int) :: ([.fieldLink RX1 9 "GossipGates$Net" "isDown" "[Z", .fieldLink RX1 27 "GossipGates$Net" "levels" "[[I", .methodLink RX1 52 yX1_hasNews, .instanceMethod yX1_hasNews, .selects RX1 yX1_hasNews yX1_hasNews, .initialized RX1, .code yX1_hasNews cX1_hasNews 3 (some .boolean), .fieldLink RX1 24 "GossipGates$Net" "versions" "[[I"] ++ wsX10)
def wsX1_countHolders : List Cond := .code yX1_countHolders cX1_countHolders 5 (some .int) :: ([.fieldLink RX1 9 "GossipGates$Net" "isDown" "[Z", .fieldLink RX1 39 "GossipGates$Net" "statuses" "[[I"] ++ wsX10)
def wsX1_countUnnoticed : List Cond := .code yX1_countUnnoticed cX1_countUnnoticed 3 (some .int) :: ([.fieldLink RX1 9 "GossipGates$Net" "isDown" "[Z", .methodLink RX1 94 yX1_countHolders, .instanceMethod yX1_countHolders, .selects RX1 yX1_countHolders yX1_countHolders, .initialized RX1, .code yX1_countHolders cX1_countHolders 5 (some .int), .fieldLink RX1 39 "GossipGates$Net" "statuses" "[[I"] ++ wsX10)
def wsX1_countMistaken : List Cond := .code yX1_countMistaken cX1_countMistaken 3 (some .int) :: ([.fieldLink RX1 9 "GossipGates$Net" "isDown" "[Z", .methodLink RX1 94 yX1_countHolders, .instanceMethod yX1_countHolders, .selects RX1 yX1_countHolders yX1_countHolders, .initialized RX1, .code yX1_countHolders cX1_countHolders 5 (some .int), .fieldLink RX1 39 "GossipGates$Net" "statuses" "[[I"] ++ wsX10)
def wsX2_init : List Cond := .code yX2_init cX2_init 1 none :: ([.methodLink RX2 3 objectInit, .instanceMethod objectInit, .code objectInit ⟨#[0xb1]⟩ 1 none, .arrayClass .int, .fieldLink RX2 9 "GossipGates$River" "areas" "[I", .fieldLink RX2 15 "GossipGates$River" "depths" "[I", .fieldLink RX2 18 "GossipGates$River" "volumes" "[I", .fieldLink RX2 21 "GossipGates$River" "clouds" "[I", .fieldLink RX2 24 "GossipGates$River" "fallen" "[I", .fieldLink RX2 27 "GossipGates$River" "through" "[I", .fieldLink RX2 30 "GossipGates$River" "over" "[I", .fieldLink RX2 33 "GossipGates$River" "source" "I", .methodLink RX2 37 yJ7_fill_53178, .static yJ7_fill_53178, .initialized RJ7, .code yJ7_fill_53178 cJ7_fill_53178 4 none] ++ wsX20)
def wsX2_balanceOf : List Cond := .code yX2_balanceOf cX2_balanceOf 3 (some .int) :: ([.fieldLink RX2 24 "GossipGates$River" "fallen" "[I", .fieldLink RX2 27 "GossipGates$River" "through" "[I", .fieldLink RX2 30 "GossipGates$River" "over" "[I"] ++ wsX20)
def wsX2_receive : List Cond := .code yX2_receive cX2_receive 3 none :: ([.fieldLink RX2 18 "GossipGates$River" "volumes" "[I", .fieldLink RX2 24 "GossipGates$River" "fallen" "[I"] ++ wsX20)
def wsX2_takeIn : List Cond := .code yX2_takeIn cX2_takeIn 2 none :: ([.fieldLink RX2 33 "GossipGates$River" "source" "I", .fieldLink RX2 21 "GossipGates$River" "clouds" "[I", .methodLink RX2 43 yX2_receive, .instanceMethod yX2_receive, .selects RX2 yX2_receive yX2_receive, .initialized RX2, .code yX2_receive cX2_receive 3 none, .fieldLink RX2 18 "GossipGates$River" "volumes" "[I", .fieldLink RX2 24 "GossipGates$River" "fallen" "[I"] ++ wsX20)
def wsX2_moveOn : List Cond := .code yX2_moveOn cX2_moveOn 4 none :: ([.fieldLink RX2 18 "GossipGates$River" "volumes" "[I"] ++ wsX20)
def wsX2_letThrough : List Cond := .code yX2_letThrough cX2_letThrough 4 none :: ([.fieldLink RX2 18 "GossipGates$River" "volumes" "[I", .methodLink RX2 53 Lib.Math.min.name, .static Lib.Math.min.name, .initialized "java/lang/Math", .code Lib.Math.min.name Lib.Math.min.code 2 (some .int), .fieldLink RX2 27 "GossipGates$River" "through" "[I", .methodLink RX2 47 yX0_mostThrough, .instanceMethod yX0_mostThrough, .selects RX0 yX0_mostThrough yX0_mostThrough, .initialized RX0, .code yX0_mostThrough cX0_mostThrough 2 (some .int), .fieldLink RX0 15 "GossipGates$Gates" "openings" "[I", .fieldLink RX0 9 "GossipGates$Gates" "gauges" "[I", .methodLink RX2 59 yX2_moveOn, .instanceMethod yX2_moveOn, .selects RX2 yX2_moveOn yX2_moveOn, .initialized RX2, .code yX2_moveOn cX2_moveOn 4 none] ++ wsX20 ++ wsX00)
def wsX2_spillOver : List Cond := .code yX2_spillOver cX2_spillOver 4 (some .int) :: ([.fieldLink RX2 18 "GossipGates$River" "volumes" "[I", .fieldLink RX2 9 "GossipGates$River" "areas" "[I", .fieldLink RX2 15 "GossipGates$River" "depths" "[I", .methodLink RX2 62 Lib.Math.max.name, .static Lib.Math.max.name, .initialized "java/lang/Math", .code Lib.Math.max.name Lib.Math.max.code 2 (some .int), .fieldLink RX2 30 "GossipGates$River" "over" "[I", .methodLink RX2 59 yX2_moveOn, .instanceMethod yX2_moveOn, .selects RX2 yX2_moveOn yX2_moveOn, .initialized RX2, .code yX2_moveOn cX2_moveOn 4 none] ++ wsX20)
def wsX3_init_r1 : List Cond := [Cond.methodLink RX3 1 objectInit, Cond.instanceMethod objectInit, Cond.code objectInit ⟨#[0xb1]⟩ 1 none, Cond.classLink RX3 7 RX2, Cond.instantiable RX2 8, Cond.initialized RX2, Cond.fieldLink RX3 10 "GossipGates" "river" "LGossipGates$River;", Cond.classLink RX3 16 RX0, Cond.instantiable RX0 8, Cond.initialized RX0, Cond.fieldLink RX3 19 "GossipGates" "gates" "LGossipGates$Gates;", Cond.classLink RX3 23 RX1, Cond.instantiable RX1 12, Cond.initialized RX1, Cond.fieldLink RX3 26 "GossipGates" "net" "LGossipGates$Net;", Cond.fieldLink RX3 30 "GossipGates" "now" "I", Cond.methodLink RX3 9 yX2_init, Cond.instanceMethod yX2_init, Cond.code yX2_init cX2_init 1 none, Cond.methodLink RX2 3 objectInit, Cond.arrayClass .int, Cond.fieldLink RX2 9 "GossipGates$River" "areas" "[I", Cond.fieldLink RX2 15 "GossipGates$River" "depths" "[I", Cond.fieldLink RX2 18 "GossipGates$River" "volumes" "[I"]
def wsX3_init_r2 : List Cond := [Cond.fieldLink RX2 21 "GossipGates$River" "clouds" "[I", Cond.fieldLink RX2 24 "GossipGates$River" "fallen" "[I", Cond.fieldLink RX2 27 "GossipGates$River" "through" "[I", Cond.fieldLink RX2 30 "GossipGates$River" "over" "[I", Cond.fieldLink RX2 33 "GossipGates$River" "source" "I", Cond.methodLink RX2 37 yJ7_fill_53178, Cond.static yJ7_fill_53178, Cond.initialized RJ7, Cond.code yJ7_fill_53178 cJ7_fill_53178 4 none, Cond.methodLink RX3 18 yX0_init, Cond.instanceMethod yX0_init, Cond.code yX0_init cX0_init 1 none, Cond.methodLink RX0 3 objectInit, Cond.fieldLink RX0 9 "GossipGates$Gates" "gauges" "[I", Cond.fieldLink RX0 15 "GossipGates$Gates" "openings" "[I", Cond.fieldLink RX0 18 "GossipGates$Gates" "lows" "[I", Cond.fieldLink RX0 21 "GossipGates$Gates" "highs" "[I", Cond.fieldLink RX0 24 "GossipGates$Gates" "bounds" "[I", Cond.fieldLink RX0 27 "GossipGates$Gates" "ages" "[I", Cond.fieldLink RX0 30 "GossipGates$Gates" "safeties" "[I", Cond.arrayClass .boolean, Cond.fieldLink RX0 33 "GossipGates$Gates" "inHand" "[Z", Cond.methodLink RX0 37 yJ7_fill_53178, Cond.instanceMethod yX1_init]
def wsX3_init_r3 : List Cond := [Cond.code yX1_init cX1_init 1 none, Cond.methodLink RX1 3 objectInit, Cond.fieldLink RX1 9 "GossipGates$Net" "isDown" "[Z", Cond.fieldLink RX1 15 "GossipGates$Net" "isStuck" "[Z", Cond.fieldLink RX1 18 "GossipGates$Net" "groups" "[I", Cond.classLink RX1 22 "[[I", Cond.fieldLink RX1 24 "GossipGates$Net" "versions" "[[I", Cond.fieldLink RX1 27 "GossipGates$Net" "levels" "[[I", Cond.fieldLink RX1 30 "GossipGates$Net" "measured" "[[I", Cond.fieldLink RX1 33 "GossipGates$Net" "beats" "[[I", Cond.fieldLink RX1 36 "GossipGates$Net" "growths" "[[I", Cond.fieldLink RX1 39 "GossipGates$Net" "statuses" "[[I", Cond.fieldLink RX1 42 "GossipGates$Net" "suspicionTime" "I", Cond.fieldLink RX1 46 "GossipGates$Net" "deathTime" "I", Cond.fieldLink RX1 49 "GossipGates$Net" "vainCalls" "I"]
def wsX3_init : List Cond := .code yX3_init cX3_init 1 none :: ((wsX3_init_r1 ++ (wsX3_init_r2 ++ wsX3_init_r3)) ++ wsX20 ++ wsX30 ++ wsX00 ++ wsX10)
def wsX3_requireWithin : List Cond := .code yX3_requireWithin cX3_requireWithin 3 none :: ([.classLink RX3 213 "java/lang/IllegalArgumentException", .initialized "java/lang/IllegalArgumentException"] ++ (vx_atS RX3 217 "java/lang/IllegalArgumentException" ["java/lang/RuntimeException", "java/lang/Exception"]).filter goodWord)
def wsX3_requireNumber : List Cond := .code yX3_requireNumber cX3_requireNumber 1 none :: ([.methodLink RX3 38 yX3_requireWithin, .static yX3_requireWithin, .initialized RX3, .code yX3_requireWithin cX3_requireWithin 3 none, .classLink RX3 213 "java/lang/IllegalArgumentException", .initialized "java/lang/IllegalArgumentException"] ++ (vx_atS RX3 217 "java/lang/IllegalArgumentException" ["java/lang/RuntimeException", "java/lang/Exception"]).filter goodWord)
def wsX3_shape : List Cond := .code yX3_shape cX3_shape 4 none :: ([.fieldLink RX3 10 "GossipGates" "river" "LGossipGates$River;", .fieldLink RX3 42 "GossipGates$River" "areas" "[I", .fieldLink RX3 46 "GossipGates$River" "depths" "[I", .methodLink RX3 34 yX3_requireNumber, .static yX3_requireNumber, .initialized RX3, .code yX3_requireNumber cX3_requireNumber 1 none, .methodLink RX3 38 yX3_requireWithin, .static yX3_requireWithin, .code yX3_requireWithin cX3_requireWithin 3 none, .classLink RX3 213 "java/lang/IllegalArgumentException", .initialized "java/lang/IllegalArgumentException"] ++ wsX30 ++ wsX20 ++ (vx_atS RX3 217 "java/lang/IllegalArgumentException" ["java/lang/RuntimeException", "java/lang/Exception"]).filter goodWord)
def wsX3_setGauge : List Cond := .code yX3_setGauge cX3_setGauge 4 (some .int) :: ([.fieldLink RX3 19 "GossipGates" "gates" "LGossipGates$Gates;", .fieldLink RX3 49 "GossipGates$Gates" "gauges" "[I", .methodLink RX3 34 yX3_requireNumber, .static yX3_requireNumber, .initialized RX3, .code yX3_requireNumber cX3_requireNumber 1 none, .methodLink RX3 38 yX3_requireWithin, .static yX3_requireWithin, .code yX3_requireWithin cX3_requireWithin 3 none, .classLink RX3 213 "java/lang/IllegalArgumentException", .initialized "java/lang/IllegalArgumentException"] ++ wsX30 ++ wsX00 ++ (vx_atS RX3 217 "java/lang/IllegalArgumentException" ["java/lang/RuntimeException", "java/lang/Exception"]).filter goodWord)
def wsX3_setSource : List Cond := .code yX3_setSource cX3_setSource 3 (some .int) :: ([.fieldLink RX3 10 "GossipGates" "river" "LGossipGates$River;", .fieldLink RX3 52 "GossipGates$River" "source" "I", .methodLink RX3 38 yX3_requireWithin, .static yX3_requireWithin, .initialized RX3, .code yX3_requireWithin cX3_requireWithin 3 none, .classLink RX3 213 "java/lang/IllegalArgumentException", .initialized "java/lang/IllegalArgumentException"] ++ wsX30 ++ wsX20 ++ (vx_atS RX3 217 "java/lang/IllegalArgumentException" ["java/lang/RuntimeException", "java/lang/Exception"]).filter goodWord)
def wsX3_rain : List Cond := .code yX3_rain cX3_rain 3 (some .int) :: ([.fieldLink RX3 10 "GossipGates" "river" "LGossipGates$River;", .fieldLink RX3 55 "GossipGates$River" "clouds" "[I", .methodLink RX3 34 yX3_requireNumber, .static yX3_requireNumber, .initialized RX3, .code yX3_requireNumber cX3_requireNumber 1 none, .methodLink RX3 38 yX3_requireWithin, .static yX3_requireWithin, .code yX3_requireWithin cX3_requireWithin 3 none, .classLink RX3 213 "java/lang/IllegalArgumentException", .initialized "java/lang/IllegalArgumentException"] ++ wsX30 ++ wsX20 ++ (vx_atS RX3 217 "java/lang/IllegalArgumentException" ["java/lang/RuntimeException", "java/lang/Exception"]).filter goodWord)
def wsX3_volume : List Cond := .code yX3_volume cX3_volume 2 (some .int) :: ([.fieldLink RX3 10 "GossipGates" "river" "LGossipGates$River;", .fieldLink RX3 58 "GossipGates$River" "volumes" "[I", .methodLink RX3 34 yX3_requireNumber, .static yX3_requireNumber, .initialized RX3, .code yX3_requireNumber cX3_requireNumber 1 none, .methodLink RX3 38 yX3_requireWithin, .static yX3_requireWithin, .code yX3_requireWithin cX3_requireWithin 3 none, .classLink RX3 213 "java/lang/IllegalArgumentException", .initialized "java/lang/IllegalArgumentException"] ++ wsX30 ++ wsX20 ++ (vx_atS RX3 217 "java/lang/IllegalArgumentException" ["java/lang/RuntimeException", "java/lang/Exception"]).filter goodWord)
def wsX3_volumeByBalance : List Cond := .code yX3_volumeByBalance cX3_volumeByBalance 2 (some .int) :: ([.fieldLink RX3 10 "GossipGates" "river" "LGossipGates$River;", .methodLink RX3 34 yX3_requireNumber, .static yX3_requireNumber, .initialized RX3, .code yX3_requireNumber cX3_requireNumber 1 none, .methodLink RX3 38 yX3_requireWithin, .static yX3_requireWithin, .code yX3_requireWithin cX3_requireWithin 3 none, .classLink RX3 213 "java/lang/IllegalArgumentException", .initialized "java/lang/IllegalArgumentException", .methodLink RX3 61 yX2_balanceOf, .instanceMethod yX2_balanceOf, .selects RX2 yX2_balanceOf yX2_balanceOf, .initialized RX2, .code yX2_balanceOf cX2_balanceOf 3 (some .int), .fieldLink RX2 24 "GossipGates$River" "fallen" "[I", .fieldLink RX2 27 "GossipGates$River" "through" "[I", .fieldLink RX2 30 "GossipGates$River" "over" "[I"] ++ wsX30 ++ wsX20 ++ (vx_atS RX3 217 "java/lang/IllegalArgumentException" ["java/lang/RuntimeException", "java/lang/Exception"]).filter goodWord)
def wsX3_level : List Cond := .code yX3_level cX3_level 2 (some .int) :: ([.fieldLink RX3 10 "GossipGates" "river" "LGossipGates$River;", .methodLink RX3 34 yX3_requireNumber, .static yX3_requireNumber, .initialized RX3, .code yX3_requireNumber cX3_requireNumber 1 none, .methodLink RX3 38 yX3_requireWithin, .static yX3_requireWithin, .code yX3_requireWithin cX3_requireWithin 3 none, .classLink RX3 213 "java/lang/IllegalArgumentException", .initialized "java/lang/IllegalArgumentException", .methodLink RX3 65 yX2_levelOf, .instanceMethod yX2_levelOf, .selects RX2 yX2_levelOf yX2_levelOf, .initialized RX2, .code yX2_levelOf cX2_levelOf 3 (some .int), .fieldLink RX2 9 "GossipGates$River" "areas" "[I", .fieldLink RX2 18 "GossipGates$River" "volumes" "[I"] ++ wsX30 ++ wsX20 ++ (vx_atS RX3 217 "java/lang/IllegalArgumentException" ["java/lang/RuntimeException", "java/lang/Exception"]).filter goodWord)
def wsX3_flowed : List Cond := .code yX3_flowed cX3_flowed 2 (some .int) :: ([.fieldLink RX3 10 "GossipGates" "river" "LGossipGates$River;", .fieldLink RX3 68 "GossipGates$River" "through" "[I", .methodLink RX3 34 yX3_requireNumber, .static yX3_requireNumber, .initialized RX3, .code yX3_requireNumber cX3_requireNumber 1 none, .methodLink RX3 38 yX3_requireWithin, .static yX3_requireWithin, .code yX3_requireWithin cX3_requireWithin 3 none, .classLink RX3 213 "java/lang/IllegalArgumentException", .initialized "java/lang/IllegalArgumentException"] ++ wsX30 ++ wsX20 ++ (vx_atS RX3 217 "java/lang/IllegalArgumentException" ["java/lang/RuntimeException", "java/lang/Exception"]).filter goodWord)
def wsX3_spilled : List Cond := .code yX3_spilled cX3_spilled 2 (some .int) :: ([.fieldLink RX3 10 "GossipGates" "river" "LGossipGates$River;", .fieldLink RX3 71 "GossipGates$River" "over" "[I", .methodLink RX3 34 yX3_requireNumber, .static yX3_requireNumber, .initialized RX3, .code yX3_requireNumber cX3_requireNumber 1 none, .methodLink RX3 38 yX3_requireWithin, .static yX3_requireWithin, .code yX3_requireWithin cX3_requireWithin 3 none, .classLink RX3 213 "java/lang/IllegalArgumentException", .initialized "java/lang/IllegalArgumentException"] ++ wsX30 ++ wsX20 ++ (vx_atS RX3 217 "java/lang/IllegalArgumentException" ["java/lang/RuntimeException", "java/lang/Exception"]).filter goodWord)
def wsX3_setRule : List Cond := .code yX3_setRule cX3_setRule 6 none :: ([.fieldLink RX3 19 "GossipGates" "gates" "LGossipGates$Gates;", .fieldLink RX3 74 "GossipGates$Gates" "lows" "[I", .fieldLink RX3 77 "GossipGates$Gates" "highs" "[I", .fieldLink RX3 80 "GossipGates$Gates" "bounds" "[I", .fieldLink RX3 83 "GossipGates$Gates" "ages" "[I", .methodLink RX3 34 yX3_requireNumber, .static yX3_requireNumber, .initialized RX3, .code yX3_requireNumber cX3_requireNumber 1 none, .methodLink RX3 38 yX3_requireWithin, .static yX3_requireWithin, .code yX3_requireWithin cX3_requireWithin 3 none, .classLink RX3 213 "java/lang/IllegalArgumentException", .initialized "java/lang/IllegalArgumentException"] ++ wsX30 ++ wsX00 ++ (vx_atS RX3 217 "java/lang/IllegalArgumentException" ["java/lang/RuntimeException", "java/lang/Exception"]).filter goodWord)
def wsX3_byHand : List Cond := .code yX3_byHand cX3_byHand 4 (some .int) :: ([.classLink RX3 90 "java/lang/IllegalStateException", .initialized "java/lang/IllegalStateException", .fieldLink RX3 19 "GossipGates" "gates" "LGossipGates$Gates;", .fieldLink RX3 86 "GossipGates$Gates" "inHand" "[Z", .fieldLink RX3 97 "GossipGates$Gates" "openings" "[I", .methodLink RX3 34 yX3_requireNumber, .static yX3_requireNumber, .initialized RX3, .code yX3_requireNumber cX3_requireNumber 1 none, .methodLink RX3 38 yX3_requireWithin, .static yX3_requireWithin, .code yX3_requireWithin cX3_requireWithin 3 none, .classLink RX3 213 "java/lang/IllegalArgumentException", .initialized "java/lang/IllegalArgumentException"] ++ wsX30 ++ wsX00 ++ (vx_atS RX3 94 "java/lang/IllegalStateException" ["java/lang/RuntimeException", "java/lang/Exception"]).filter goodWord ++ (vx_atS RX3 217 "java/lang/IllegalArgumentException" ["java/lang/RuntimeException", "java/lang/Exception"]).filter goodWord)
def wsX3_opening : List Cond := .code yX3_opening cX3_opening 2 (some .int) :: ([.fieldLink RX3 19 "GossipGates" "gates" "LGossipGates$Gates;", .fieldLink RX3 97 "GossipGates$Gates" "openings" "[I", .methodLink RX3 34 yX3_requireNumber, .static yX3_requireNumber, .initialized RX3, .code yX3_requireNumber cX3_requireNumber 1 none, .methodLink RX3 38 yX3_requireWithin, .static yX3_requireWithin, .code yX3_requireWithin cX3_requireWithin 3 none, .classLink RX3 213 "java/lang/IllegalArgumentException", .initialized "java/lang/IllegalArgumentException"] ++ wsX30 ++ wsX00 ++ (vx_atS RX3 217 "java/lang/IllegalArgumentException" ["java/lang/RuntimeException", "java/lang/Exception"]).filter goodWord)
def wsX3_safety : List Cond := .code yX3_safety cX3_safety 2 (some .int) :: ([.fieldLink RX3 19 "GossipGates" "gates" "LGossipGates$Gates;", .fieldLink RX3 100 "GossipGates$Gates" "safeties" "[I", .methodLink RX3 34 yX3_requireNumber, .static yX3_requireNumber, .initialized RX3, .code yX3_requireNumber cX3_requireNumber 1 none, .methodLink RX3 38 yX3_requireWithin, .static yX3_requireWithin, .code yX3_requireWithin cX3_requireWithin 3 none, .classLink RX3 213 "java/lang/IllegalArgumentException", .initialized "java/lang/IllegalArgumentException"] ++ wsX30 ++ wsX00 ++ (vx_atS RX3 217 "java/lang/IllegalArgumentException" ["java/lang/RuntimeException", "java/lang/Exception"]).filter goodWord)
def wsX3_fall : List Cond := .code yX3_fall cX3_fall 2 none :: ([.classLink RX3 90 "java/lang/IllegalStateException", .initialized "java/lang/IllegalStateException", .fieldLink RX3 26 "GossipGates" "net" "LGossipGates$Net;", .fieldLink RX3 103 "GossipGates$Net" "isDown" "[Z", .methodLink RX3 34 yX3_requireNumber, .static yX3_requireNumber, .initialized RX3, .code yX3_requireNumber cX3_requireNumber 1 none, .methodLink RX3 38 yX3_requireWithin, .static yX3_requireWithin, .code yX3_requireWithin cX3_requireWithin 3 none, .classLink RX3 213 "java/lang/IllegalArgumentException", .initialized "java/lang/IllegalArgumentException"] ++ wsX30 ++ wsX10 ++ (vx_atS RX3 94 "java/lang/IllegalStateException" ["java/lang/RuntimeException", "java/lang/Exception"]).filter goodWord ++ (vx_atS RX3 217 "java/lang/IllegalArgumentException" ["java/lang/RuntimeException", "java/lang/Exception"]).filter goodWord)
def wsX3_comeUp : List Cond := .code yX3_comeUp cX3_comeUp 2 none :: ([.classLink RX3 90 "java/lang/IllegalStateException", .initialized "java/lang/IllegalStateException", .fieldLink RX3 26 "GossipGates" "net" "LGossipGates$Net;", .fieldLink RX3 103 "GossipGates$Net" "isDown" "[Z", .fieldLink RX3 110 "GossipGates$Net" "growths" "[[I", .fieldLink RX3 30 "GossipGates" "now" "I", .methodLink RX3 34 yX3_requireNumber, .static yX3_requireNumber, .initialized RX3, .code yX3_requireNumber cX3_requireNumber 1 none, .methodLink RX3 38 yX3_requireWithin, .static yX3_requireWithin, .code yX3_requireWithin cX3_requireWithin 3 none, .classLink RX3 213 "java/lang/IllegalArgumentException", .initialized "java/lang/IllegalArgumentException", .methodLink RX3 114 yJ7_fill_53178, .static yJ7_fill_53178, .initialized RJ7, .code yJ7_fill_53178 cJ7_fill_53178 4 none] ++ wsX30 ++ wsX10 ++ (vx_atS RX3 94 "java/lang/IllegalStateException" ["java/lang/RuntimeException", "java/lang/Exception"]).filter goodWord ++ (vx_atS RX3 217 "java/lang/IllegalArgumentException" ["java/lang/RuntimeException", "java/lang/Exception"]).filter goodWord)
def wsX3_setGroup : List Cond := .code yX3_setGroup cX3_setGroup 4 (some .int) :: ([.fieldLink RX3 26 "GossipGates" "net" "LGossipGates$Net;", .fieldLink RX3 120 "GossipGates$Net" "groups" "[I", .methodLink RX3 34 yX3_requireNumber, .static yX3_requireNumber, .initialized RX3, .code yX3_requireNumber cX3_requireNumber 1 none, .methodLink RX3 38 yX3_requireWithin, .static yX3_requireWithin, .code yX3_requireWithin cX3_requireWithin 3 none, .classLink RX3 213 "java/lang/IllegalArgumentException", .initialized "java/lang/IllegalArgumentException"] ++ wsX30 ++ wsX10 ++ (vx_atS RX3 217 "java/lang/IllegalArgumentException" ["java/lang/RuntimeException", "java/lang/Exception"]).filter goodWord)
def wsX3_setStuck : List Cond := .code yX3_setStuck cX3_setStuck 4 (some .boolean) :: ([.fieldLink RX3 26 "GossipGates" "net" "LGossipGates$Net;", .fieldLink RX3 123 "GossipGates$Net" "isStuck" "[Z", .methodLink RX3 34 yX3_requireNumber, .static yX3_requireNumber, .initialized RX3, .code yX3_requireNumber cX3_requireNumber 1 none, .methodLink RX3 38 yX3_requireWithin, .static yX3_requireWithin, .code yX3_requireWithin cX3_requireWithin 3 none, .classLink RX3 213 "java/lang/IllegalArgumentException", .initialized "java/lang/IllegalArgumentException"] ++ wsX30 ++ wsX10 ++ (vx_atS RX3 217 "java/lang/IllegalArgumentException" ["java/lang/RuntimeException", "java/lang/Exception"]).filter goodWord)
def wsX3_setTimes : List Cond := .code yX3_setTimes cX3_setTimes 3 none :: ([.fieldLink RX3 26 "GossipGates" "net" "LGossipGates$Net;", .fieldLink RX3 126 "GossipGates$Net" "suspicionTime" "I", .fieldLink RX3 129 "GossipGates$Net" "deathTime" "I", .methodLink RX3 38 yX3_requireWithin, .static yX3_requireWithin, .initialized RX3, .code yX3_requireWithin cX3_requireWithin 3 none, .classLink RX3 213 "java/lang/IllegalArgumentException", .initialized "java/lang/IllegalArgumentException"] ++ wsX30 ++ wsX10 ++ (vx_atS RX3 217 "java/lang/IllegalArgumentException" ["java/lang/RuntimeException", "java/lang/Exception"]).filter goodWord)
def wsX3_believed : List Cond := .code yX3_believed cX3_believed 3 (some .int) :: ([.fieldLink RX3 26 "GossipGates" "net" "LGossipGates$Net;", .fieldLink RX3 136 "GossipGates$Net" "levels" "[[I", .methodLink RX3 34 yX3_requireNumber, .static yX3_requireNumber, .initialized RX3, .code yX3_requireNumber cX3_requireNumber 1 none, .methodLink RX3 38 yX3_requireWithin, .static yX3_requireWithin, .code yX3_requireWithin cX3_requireWithin 3 none, .classLink RX3 213 "java/lang/IllegalArgumentException", .initialized "java/lang/IllegalArgumentException", .methodLink RX3 132 yX1_hasNews, .instanceMethod yX1_hasNews, .selects RX1 yX1_hasNews yX1_hasNews, .initialized RX1, .code yX1_hasNews cX1_hasNews 3 (some .boolean), .fieldLink RX1 24 "GossipGates$Net" "versions" "[[I"] ++ wsX30 ++ wsX10 ++ (vx_atS RX3 217 "java/lang/IllegalArgumentException" ["java/lang/RuntimeException", "java/lang/Exception"]).filter goodWord)
def wsX3_version : List Cond := .code yX3_version cX3_version 3 (some .int) :: ([.fieldLink RX3 26 "GossipGates" "net" "LGossipGates$Net;", .fieldLink RX3 139 "GossipGates$Net" "versions" "[[I", .methodLink RX3 34 yX3_requireNumber, .static yX3_requireNumber, .initialized RX3, .code yX3_requireNumber cX3_requireNumber 1 none, .methodLink RX3 38 yX3_requireWithin, .static yX3_requireWithin, .code yX3_requireWithin cX3_requireWithin 3 none, .classLink RX3 213 "java/lang/IllegalArgumentException", .initialized "java/lang/IllegalArgumentException"] ++ wsX30 ++ wsX10 ++ (vx_atS RX3 217 "java/lang/IllegalArgumentException" ["java/lang/RuntimeException", "java/lang/Exception"]).filter goodWord)
def wsX3_age : List Cond := .code yX3_age cX3_age 3 (some .int) :: ([.fieldLink RX3 26 "GossipGates" "net" "LGossipGates$Net;", .fieldLink RX3 30 "GossipGates" "now" "I", .fieldLink RX3 142 "GossipGates$Net" "measured" "[[I", .methodLink RX3 34 yX3_requireNumber, .static yX3_requireNumber, .initialized RX3, .code yX3_requireNumber cX3_requireNumber 1 none, .methodLink RX3 38 yX3_requireWithin, .static yX3_requireWithin, .code yX3_requireWithin cX3_requireWithin 3 none, .classLink RX3 213 "java/lang/IllegalArgumentException", .initialized "java/lang/IllegalArgumentException", .methodLink RX3 132 yX1_hasNews, .instanceMethod yX1_hasNews, .selects RX1 yX1_hasNews yX1_hasNews, .initialized RX1, .code yX1_hasNews cX1_hasNews 3 (some .boolean), .fieldLink RX1 24 "GossipGates$Net" "versions" "[[I"] ++ wsX30 ++ wsX10 ++ (vx_atS RX3 217 "java/lang/IllegalArgumentException" ["java/lang/RuntimeException", "java/lang/Exception"]).filter goodWord)
def wsX3_beat : List Cond := .code yX3_beat cX3_beat 3 (some .int) :: ([.fieldLink RX3 26 "GossipGates" "net" "LGossipGates$Net;", .fieldLink RX3 145 "GossipGates$Net" "beats" "[[I", .methodLink RX3 34 yX3_requireNumber, .static yX3_requireNumber, .initialized RX3, .code yX3_requireNumber cX3_requireNumber 1 none, .methodLink RX3 38 yX3_requireWithin, .static yX3_requireWithin, .code yX3_requireWithin cX3_requireWithin 3 none, .classLink RX3 213 "java/lang/IllegalArgumentException", .initialized "java/lang/IllegalArgumentException"] ++ wsX30 ++ wsX10 ++ (vx_atS RX3 217 "java/lang/IllegalArgumentException" ["java/lang/RuntimeException", "java/lang/Exception"]).filter goodWord)
def wsX3_status : List Cond := .code yX3_status cX3_status 3 (some .int) :: ([.fieldLink RX3 26 "GossipGates" "net" "LGossipGates$Net;", .fieldLink RX3 148 "GossipGates$Net" "statuses" "[[I", .methodLink RX3 34 yX3_requireNumber, .static yX3_requireNumber, .initialized RX3, .code yX3_requireNumber cX3_requireNumber 1 none, .methodLink RX3 38 yX3_requireWithin, .static yX3_requireWithin, .code yX3_requireWithin cX3_requireWithin 3 none, .classLink RX3 213 "java/lang/IllegalArgumentException", .initialized "java/lang/IllegalArgumentException"] ++ wsX30 ++ wsX10 ++ (vx_atS RX3 217 "java/lang/IllegalArgumentException" ["java/lang/RuntimeException", "java/lang/Exception"]).filter goodWord)
def wsX3_partner : List Cond := .code yX3_partner cX3_partner 2 (some .int) :: ([.fieldLink RX3 26 "GossipGates" "net" "LGossipGates$Net;", .fieldLink RX3 103 "GossipGates$Net" "isDown" "[Z", .fieldLink RX3 30 "GossipGates" "now" "I", .methodLink RX3 34 yX3_requireNumber, .static yX3_requireNumber, .initialized RX3, .code yX3_requireNumber cX3_requireNumber 1 none, .methodLink RX3 38 yX3_requireWithin, .static yX3_requireWithin, .code yX3_requireWithin cX3_requireWithin 3 none, .classLink RX3 213 "java/lang/IllegalArgumentException", .initialized "java/lang/IllegalArgumentException", .methodLink RX3 151 yX1_calledBy, .instanceMethod yX1_calledBy, .selects RX1 yX1_calledBy yX1_calledBy, .initialized RX1, .code yX1_calledBy cX1_calledBy 7 (some .int), .methodLink RX1 77 yX1_isCallable, .instanceMethod yX1_isCallable, .selects RX1 yX1_isCallable yX1_isCallable, .code yX1_isCallable cX1_isCallable 4 (some .boolean), .fieldLink RX1 39 "GossipGates$Net" "statuses" "[[I"] ++ wsX30 ++ wsX10 ++ (vx_atS RX3 217 "java/lang/IllegalArgumentException" ["java/lang/RuntimeException", "java/lang/Exception"]).filter goodWord)
def wsX3_freshest : List Cond := .code yX3_freshest cX3_freshest 2 (some .int) :: ([.fieldLink RX3 26 "GossipGates" "net" "LGossipGates$Net;", .methodLink RX3 34 yX3_requireNumber, .static yX3_requireNumber, .initialized RX3, .code yX3_requireNumber cX3_requireNumber 1 none, .methodLink RX3 38 yX3_requireWithin, .static yX3_requireWithin, .code yX3_requireWithin cX3_requireWithin 3 none, .classLink RX3 213 "java/lang/IllegalArgumentException", .initialized "java/lang/IllegalArgumentException", .methodLink RX3 155 yX1_freshestOf, .instanceMethod yX1_freshestOf, .selects RX1 yX1_freshestOf yX1_freshestOf, .initialized RX1, .code yX1_freshestOf cX1_freshestOf 5 (some .int), .fieldLink RX1 24 "GossipGates$Net" "versions" "[[I"] ++ wsX30 ++ wsX10 ++ (vx_atS RX3 217 "java/lang/IllegalArgumentException" ["java/lang/RuntimeException", "java/lang/Exception"]).filter goodWord)
def wsX3_agree_r1 : List Cond := [Cond.fieldLink RX3 26 "GossipGates" "net" "LGossipGates$Net;", Cond.fieldLink RX3 10 "GossipGates" "river" "LGossipGates$River;", Cond.methodLink RX3 34 yX3_requireNumber, Cond.static yX3_requireNumber, Cond.initialized RX3, Cond.code yX3_requireNumber cX3_requireNumber 1 none, Cond.methodLink RX3 38 yX3_requireWithin, Cond.static yX3_requireWithin, Cond.code yX3_requireWithin cX3_requireWithin 3 none, Cond.classLink RX3 213 "java/lang/IllegalArgumentException", Cond.initialized "java/lang/IllegalArgumentException", Cond.methodLink RX3 65 yX2_levelOf, Cond.instanceMethod yX2_levelOf, Cond.selects RX2 yX2_levelOf yX2_levelOf, Cond.initialized RX2, Cond.code yX2_levelOf cX2_levelOf 3 (some .int), Cond.fieldLink RX2 9 "GossipGates$River" "areas" "[I", Cond.fieldLink RX2 18 "GossipGates$River" "volumes" "[I", Cond.methodLink RX3 158 yX1_believersOf, Cond.instanceMethod yX1_believersOf, Cond.selects RX1 yX1_believersOf yX1_believersOf, Cond.initialized RX1, Cond.code yX1_believersOf cX1_believersOf 6 (some .int), Cond.fieldLink RX1 9 "GossipGates$Net" "isDown" "[Z"]
def wsX3_agree_r2 : List Cond := [Cond.fieldLink RX1 27 "GossipGates$Net" "levels" "[[I", Cond.methodLink RX1 52 yX1_hasNews, Cond.instanceMethod yX1_hasNews, Cond.selects RX1 yX1_hasNews yX1_hasNews, Cond.code yX1_hasNews cX1_hasNews 3 (some .boolean), Cond.fieldLink RX1 24 "GossipGates$Net" "versions" "[[I"]
def wsX3_agree : List Cond := .code yX3_agree cX3_agree 2 (some .int) :: ((wsX3_agree_r1 ++ wsX3_agree_r2) ++ wsX30 ++ wsX20 ++ wsX10 ++ (vx_atS RX3 217 "java/lang/IllegalArgumentException" ["java/lang/RuntimeException", "java/lang/Exception"]).filter goodWord)
def wsX3_unnoticed : List Cond := .code yX3_unnoticed cX3_unnoticed 1 (some .int) :: ([.fieldLink RX3 26 "GossipGates" "net" "LGossipGates$Net;", .methodLink RX3 161 yX1_countUnnoticed, .instanceMethod yX1_countUnnoticed, .selects RX1 yX1_countUnnoticed yX1_countUnnoticed, .initialized RX1, .code yX1_countUnnoticed cX1_countUnnoticed 3 (some .int), .fieldLink RX1 9 "GossipGates$Net" "isDown" "[Z", .methodLink RX1 94 yX1_countHolders, .instanceMethod yX1_countHolders, .selects RX1 yX1_countHolders yX1_countHolders, .code yX1_countHolders cX1_countHolders 5 (some .int), .fieldLink RX1 39 "GossipGates$Net" "statuses" "[[I"] ++ wsX30 ++ wsX10)
def wsX3_mistaken : List Cond := .code yX3_mistaken cX3_mistaken 1 (some .int) :: ([.fieldLink RX3 26 "GossipGates" "net" "LGossipGates$Net;", .methodLink RX3 165 yX1_countMistaken, .instanceMethod yX1_countMistaken, .selects RX1 yX1_countMistaken yX1_countMistaken, .initialized RX1, .code yX1_countMistaken cX1_countMistaken 3 (some .int), .fieldLink RX1 9 "GossipGates$Net" "isDown" "[Z", .methodLink RX1 94 yX1_countHolders, .instanceMethod yX1_countHolders, .selects RX1 yX1_countHolders yX1_countHolders, .code yX1_countHolders cX1_countHolders 5 (some .int), .fieldLink RX1 39 "GossipGates$Net" "statuses" "[[I"] ++ wsX30 ++ wsX10)
def wsX3_vain : List Cond := .code yX3_vain cX3_vain 1 (some .int) :: ([.fieldLink RX3 26 "GossipGates" "net" "LGossipGates$Net;", .fieldLink RX3 168 "GossipGates$Net" "vainCalls" "I"] ++ wsX30 ++ wsX10)
def wsX3_ruleGate_r1 : List Cond := [Cond.fieldLink RX3 26 "GossipGates" "net" "LGossipGates$Net;", Cond.fieldLink RX3 30 "GossipGates" "now" "I", Cond.fieldLink RX3 19 "GossipGates" "gates" "LGossipGates$Gates;", Cond.fieldLink RX3 83 "GossipGates$Gates" "ages" "[I", Cond.fieldLink RX3 136 "GossipGates$Net" "levels" "[[I", Cond.fieldLink RX3 80 "GossipGates$Gates" "bounds" "[I", Cond.methodLink RX3 202 yX1_isOld, Cond.instanceMethod yX1_isOld, Cond.selects RX1 yX1_isOld yX1_isOld, Cond.initialized RX1, Cond.code yX1_isOld cX1_isOld 5 (some .boolean), Cond.fieldLink RX1 30 "GossipGates$Net" "measured" "[[I", Cond.methodLink RX1 52 yX1_hasNews, Cond.instanceMethod yX1_hasNews, Cond.selects RX1 yX1_hasNews yX1_hasNews, Cond.code yX1_hasNews cX1_hasNews 3 (some .boolean), Cond.fieldLink RX1 24 "GossipGates$Net" "versions" "[[I", Cond.methodLink RX3 206 yX0_openForSafety, Cond.instanceMethod yX0_openForSafety, Cond.selects RX0 yX0_openForSafety yX0_openForSafety, Cond.initialized RX0, Cond.code yX0_openForSafety cX0_openForSafety 2 none, Cond.fieldLink RX0 15 "GossipGates$Gates" "openings" "[I", Cond.methodLink RX0 43 Lib.Math.min.name]
def wsX3_ruleGate_r2 : List Cond := [Cond.static Lib.Math.min.name, Cond.initialized "java/lang/Math", Cond.code Lib.Math.min.name Lib.Math.min.code 2 (some .int), Cond.fieldLink RX0 30 "GossipGates$Gates" "safeties" "[I", Cond.methodLink RX3 209 yX0_follow, Cond.instanceMethod yX0_follow, Cond.selects RX0 yX0_follow yX0_follow, Cond.code yX0_follow cX0_follow 4 none, Cond.fieldLink RX0 21 "GossipGates$Gates" "highs" "[I", Cond.fieldLink RX0 18 "GossipGates$Gates" "lows" "[I", Cond.methodLink RX0 49 Lib.Math.max.name, Cond.static Lib.Math.max.name, Cond.code Lib.Math.max.name Lib.Math.max.code 2 (some .int)]
def wsX3_ruleGate : List Cond := .code yX3_ruleGate cX3_ruleGate 5 none :: ((wsX3_ruleGate_r1 ++ wsX3_ruleGate_r2) ++ wsX30 ++ wsX00 ++ wsX10)
def wsX3_ruleGates_r1 : List Cond := [Cond.fieldLink RX3 26 "GossipGates" "net" "LGossipGates$Net;", Cond.fieldLink RX3 103 "GossipGates$Net" "isDown" "[Z", Cond.fieldLink RX3 19 "GossipGates" "gates" "LGossipGates$Gates;", Cond.fieldLink RX3 86 "GossipGates$Gates" "inHand" "[Z", Cond.methodLink RX3 199 yX3_ruleGate, Cond.instanceMethod yX3_ruleGate, Cond.selects RX3 yX3_ruleGate yX3_ruleGate, Cond.initialized RX3, Cond.code yX3_ruleGate cX3_ruleGate 5 none, Cond.fieldLink RX3 30 "GossipGates" "now" "I", Cond.fieldLink RX3 83 "GossipGates$Gates" "ages" "[I", Cond.fieldLink RX3 136 "GossipGates$Net" "levels" "[[I", Cond.fieldLink RX3 80 "GossipGates$Gates" "bounds" "[I", Cond.methodLink RX3 202 yX1_isOld, Cond.instanceMethod yX1_isOld, Cond.selects RX1 yX1_isOld yX1_isOld, Cond.initialized RX1, Cond.code yX1_isOld cX1_isOld 5 (some .boolean), Cond.fieldLink RX1 30 "GossipGates$Net" "measured" "[[I", Cond.methodLink RX1 52 yX1_hasNews, Cond.instanceMethod yX1_hasNews, Cond.selects RX1 yX1_hasNews yX1_hasNews, Cond.code yX1_hasNews cX1_hasNews 3 (some .boolean), Cond.fieldLink RX1 24 "GossipGates$Net" "versions" "[[I"]
def wsX3_ruleGates_r2 : List Cond := [Cond.methodLink RX3 206 yX0_openForSafety, Cond.instanceMethod yX0_openForSafety, Cond.selects RX0 yX0_openForSafety yX0_openForSafety, Cond.initialized RX0, Cond.code yX0_openForSafety cX0_openForSafety 2 none, Cond.fieldLink RX0 15 "GossipGates$Gates" "openings" "[I", Cond.methodLink RX0 43 Lib.Math.min.name, Cond.static Lib.Math.min.name, Cond.initialized "java/lang/Math", Cond.code Lib.Math.min.name Lib.Math.min.code 2 (some .int), Cond.fieldLink RX0 30 "GossipGates$Gates" "safeties" "[I", Cond.methodLink RX3 209 yX0_follow, Cond.instanceMethod yX0_follow, Cond.selects RX0 yX0_follow yX0_follow, Cond.code yX0_follow cX0_follow 4 none, Cond.fieldLink RX0 21 "GossipGates$Gates" "highs" "[I", Cond.fieldLink RX0 18 "GossipGates$Gates" "lows" "[I", Cond.methodLink RX0 49 Lib.Math.max.name, Cond.static Lib.Math.max.name, Cond.code Lib.Math.max.name Lib.Math.max.code 2 (some .int)]
def wsX3_ruleGates : List Cond := .code yX3_ruleGates cX3_ruleGates 2 none :: ((wsX3_ruleGates_r1 ++ wsX3_ruleGates_r2) ++ wsX30 ++ wsX10 ++ wsX00)
def wsX3_passOneTick_r1 : List Cond := [Cond.fieldLink RX3 30 "GossipGates" "now" "I", Cond.fieldLink RX3 10 "GossipGates" "river" "LGossipGates$River;", Cond.fieldLink RX3 19 "GossipGates" "gates" "LGossipGates$Gates;", Cond.fieldLink RX3 26 "GossipGates" "net" "LGossipGates$Net;", Cond.methodLink RX3 176 yX2_takeIn, Cond.instanceMethod yX2_takeIn, Cond.selects RX2 yX2_takeIn yX2_takeIn, Cond.initialized RX2, Cond.code yX2_takeIn cX2_takeIn 2 none, Cond.fieldLink RX2 33 "GossipGates$River" "source" "I", Cond.fieldLink RX2 21 "GossipGates$River" "clouds" "[I", Cond.methodLink RX2 43 yX2_receive, Cond.instanceMethod yX2_receive, Cond.selects RX2 yX2_receive yX2_receive, Cond.code yX2_receive cX2_receive 3 none, Cond.fieldLink RX2 18 "GossipGates$River" "volumes" "[I", Cond.fieldLink RX2 24 "GossipGates$River" "fallen" "[I", Cond.methodLink RX3 179 yX2_letThrough, Cond.instanceMethod yX2_letThrough, Cond.selects RX2 yX2_letThrough yX2_letThrough, Cond.code yX2_letThrough cX2_letThrough 4 none, Cond.methodLink RX2 53 Lib.Math.min.name, Cond.static Lib.Math.min.name, Cond.initialized "java/lang/Math"]
def wsX3_passOneTick_r2 : List Cond := [Cond.code Lib.Math.min.name Lib.Math.min.code 2 (some .int), Cond.fieldLink RX2 27 "GossipGates$River" "through" "[I", Cond.methodLink RX2 47 yX0_mostThrough, Cond.instanceMethod yX0_mostThrough, Cond.selects RX0 yX0_mostThrough yX0_mostThrough, Cond.initialized RX0, Cond.code yX0_mostThrough cX0_mostThrough 2 (some .int), Cond.fieldLink RX0 15 "GossipGates$Gates" "openings" "[I", Cond.fieldLink RX0 9 "GossipGates$Gates" "gauges" "[I", Cond.methodLink RX2 59 yX2_moveOn, Cond.instanceMethod yX2_moveOn, Cond.selects RX2 yX2_moveOn yX2_moveOn, Cond.code yX2_moveOn cX2_moveOn 4 none, Cond.methodLink RX3 183 yX2_spillOver, Cond.instanceMethod yX2_spillOver, Cond.selects RX2 yX2_spillOver yX2_spillOver, Cond.code yX2_spillOver cX2_spillOver 4 (some .int), Cond.fieldLink RX2 9 "GossipGates$River" "areas" "[I", Cond.fieldLink RX2 15 "GossipGates$River" "depths" "[I", Cond.methodLink RX2 62 Lib.Math.max.name, Cond.static Lib.Math.max.name, Cond.code Lib.Math.max.name Lib.Math.max.code 2 (some .int), Cond.fieldLink RX2 30 "GossipGates$River" "over" "[I", Cond.methodLink RX3 186 yX1_measureAll]
def wsX3_passOneTick_r3 : List Cond := [Cond.instanceMethod yX1_measureAll, Cond.selects RX1 yX1_measureAll yX1_measureAll, Cond.initialized RX1, Cond.code yX1_measureAll cX1_measureAll 4 none, Cond.fieldLink RX1 9 "GossipGates$Net" "isDown" "[Z", Cond.methodLink RX1 56 yX2_levelOf, Cond.instanceMethod yX2_levelOf, Cond.selects RX2 yX2_levelOf yX2_levelOf, Cond.code yX2_levelOf cX2_levelOf 3 (some .int), Cond.methodLink RX1 62 yX1_measure, Cond.instanceMethod yX1_measure, Cond.selects RX1 yX1_measure yX1_measure, Cond.code yX1_measure cX1_measure 4 none, Cond.fieldLink RX1 15 "GossipGates$Net" "isStuck" "[Z", Cond.fieldLink RX1 27 "GossipGates$Net" "levels" "[[I", Cond.fieldLink RX1 30 "GossipGates$Net" "measured" "[[I", Cond.fieldLink RX1 24 "GossipGates$Net" "versions" "[[I", Cond.fieldLink RX1 33 "GossipGates$Net" "beats" "[[I", Cond.fieldLink RX1 36 "GossipGates$Net" "growths" "[[I", Cond.methodLink RX3 190 yX1_callAll, Cond.instanceMethod yX1_callAll, Cond.selects RX1 yX1_callAll yX1_callAll, Cond.code yX1_callAll cX1_callAll 3 none, Cond.methodLink RX1 66 yX1_call]
def wsX3_passOneTick_r4 : List Cond := [Cond.instanceMethod yX1_call, Cond.selects RX1 yX1_call yX1_call, Cond.code yX1_call cX1_call 4 none, Cond.fieldLink RX1 18 "GossipGates$Net" "groups" "[I", Cond.fieldLink RX1 49 "GossipGates$Net" "vainCalls" "I", Cond.methodLink RX1 70 yX1_calledBy, Cond.instanceMethod yX1_calledBy, Cond.selects RX1 yX1_calledBy yX1_calledBy, Cond.code yX1_calledBy cX1_calledBy 7 (some .int), Cond.methodLink RX1 77 yX1_isCallable, Cond.instanceMethod yX1_isCallable, Cond.selects RX1 yX1_isCallable yX1_isCallable, Cond.code yX1_isCallable cX1_isCallable 4 (some .boolean), Cond.fieldLink RX1 39 "GossipGates$Net" "statuses" "[[I", Cond.methodLink RX1 74 yX1_tellOneAnother, Cond.instanceMethod yX1_tellOneAnother, Cond.selects RX1 yX1_tellOneAnother yX1_tellOneAnother, Cond.code yX1_tellOneAnother cX1_tellOneAnother 5 none, Cond.methodLink RX1 81 yX1_takeNews, Cond.instanceMethod yX1_takeNews, Cond.selects RX1 yX1_takeNews yX1_takeNews, Cond.code yX1_takeNews cX1_takeNews 4 none, Cond.methodLink RX1 84 yX1_takeBeat, Cond.instanceMethod yX1_takeBeat]
def wsX3_passOneTick_r5 : List Cond := [Cond.selects RX1 yX1_takeBeat yX1_takeBeat, Cond.code yX1_takeBeat cX1_takeBeat 5 none, Cond.methodLink RX3 193 yX1_lookAll, Cond.instanceMethod yX1_lookAll, Cond.selects RX1 yX1_lookAll yX1_lookAll, Cond.code yX1_lookAll cX1_lookAll 3 none, Cond.methodLink RX1 88 yX1_lookAtOthers, Cond.instanceMethod yX1_lookAtOthers, Cond.selects RX1 yX1_lookAtOthers yX1_lookAtOthers, Cond.code yX1_lookAtOthers cX1_lookAtOthers 4 none, Cond.methodLink RX1 91 yX1_statusAfter, Cond.instanceMethod yX1_statusAfter, Cond.selects RX1 yX1_statusAfter yX1_statusAfter, Cond.code yX1_statusAfter cX1_statusAfter 2 (some .int), Cond.fieldLink RX1 46 "GossipGates$Net" "deathTime" "I", Cond.fieldLink RX1 42 "GossipGates$Net" "suspicionTime" "I", Cond.methodLink RX3 196 yX3_ruleGates, Cond.instanceMethod yX3_ruleGates, Cond.selects RX3 yX3_ruleGates yX3_ruleGates, Cond.initialized RX3, Cond.code yX3_ruleGates cX3_ruleGates 2 none, Cond.fieldLink RX3 103 "GossipGates$Net" "isDown" "[Z", Cond.fieldLink RX3 86 "GossipGates$Gates" "inHand" "[Z", Cond.methodLink RX3 199 yX3_ruleGate]
def wsX3_passOneTick_r6 : List Cond := [Cond.instanceMethod yX3_ruleGate, Cond.selects RX3 yX3_ruleGate yX3_ruleGate, Cond.code yX3_ruleGate cX3_ruleGate 5 none, Cond.fieldLink RX3 83 "GossipGates$Gates" "ages" "[I", Cond.fieldLink RX3 136 "GossipGates$Net" "levels" "[[I", Cond.fieldLink RX3 80 "GossipGates$Gates" "bounds" "[I", Cond.methodLink RX3 202 yX1_isOld, Cond.instanceMethod yX1_isOld, Cond.selects RX1 yX1_isOld yX1_isOld, Cond.code yX1_isOld cX1_isOld 5 (some .boolean), Cond.methodLink RX1 52 yX1_hasNews, Cond.instanceMethod yX1_hasNews, Cond.selects RX1 yX1_hasNews yX1_hasNews, Cond.code yX1_hasNews cX1_hasNews 3 (some .boolean), Cond.methodLink RX3 206 yX0_openForSafety, Cond.instanceMethod yX0_openForSafety, Cond.selects RX0 yX0_openForSafety yX0_openForSafety, Cond.code yX0_openForSafety cX0_openForSafety 2 none, Cond.methodLink RX0 43 Lib.Math.min.name, Cond.fieldLink RX0 30 "GossipGates$Gates" "safeties" "[I", Cond.methodLink RX3 209 yX0_follow, Cond.instanceMethod yX0_follow, Cond.selects RX0 yX0_follow yX0_follow, Cond.code yX0_follow cX0_follow 4 none]
def wsX3_passOneTick_r7 : List Cond := [Cond.fieldLink RX0 21 "GossipGates$Gates" "highs" "[I", Cond.fieldLink RX0 18 "GossipGates$Gates" "lows" "[I", Cond.methodLink RX0 49 Lib.Math.max.name]
def wsX3_passOneTick : List Cond := .code yX3_passOneTick cX3_passOneTick 2 (some .int) :: ((wsX3_passOneTick_r1 ++ (wsX3_passOneTick_r2 ++ (wsX3_passOneTick_r3 ++ (wsX3_passOneTick_r4 ++ (wsX3_passOneTick_r5 ++ (wsX3_passOneTick_r6 ++ wsX3_passOneTick_r7)))))) ++ wsX30 ++ wsX20 ++ wsX00 ++ wsX10)
def wsX3_tick_r1 : List Cond := [Cond.classLink RX3 90 "java/lang/IllegalStateException", Cond.initialized "java/lang/IllegalStateException", Cond.fieldLink RX3 30 "GossipGates" "now" "I", Cond.methodLink RX3 38 yX3_requireWithin, Cond.static yX3_requireWithin, Cond.initialized RX3, Cond.code yX3_requireWithin cX3_requireWithin 3 none, Cond.classLink RX3 213 "java/lang/IllegalArgumentException", Cond.initialized "java/lang/IllegalArgumentException", Cond.methodLink RX3 173 yX3_passOneTick, Cond.instanceMethod yX3_passOneTick, Cond.selects RX3 yX3_passOneTick yX3_passOneTick, Cond.code yX3_passOneTick cX3_passOneTick 2 (some .int), Cond.fieldLink RX3 10 "GossipGates" "river" "LGossipGates$River;", Cond.fieldLink RX3 19 "GossipGates" "gates" "LGossipGates$Gates;", Cond.fieldLink RX3 26 "GossipGates" "net" "LGossipGates$Net;", Cond.methodLink RX3 176 yX2_takeIn, Cond.instanceMethod yX2_takeIn, Cond.selects RX2 yX2_takeIn yX2_takeIn, Cond.initialized RX2, Cond.code yX2_takeIn cX2_takeIn 2 none, Cond.fieldLink RX2 33 "GossipGates$River" "source" "I", Cond.fieldLink RX2 21 "GossipGates$River" "clouds" "[I", Cond.methodLink RX2 43 yX2_receive]
def wsX3_tick_r2 : List Cond := [Cond.instanceMethod yX2_receive, Cond.selects RX2 yX2_receive yX2_receive, Cond.code yX2_receive cX2_receive 3 none, Cond.fieldLink RX2 18 "GossipGates$River" "volumes" "[I", Cond.fieldLink RX2 24 "GossipGates$River" "fallen" "[I", Cond.methodLink RX3 179 yX2_letThrough, Cond.instanceMethod yX2_letThrough, Cond.selects RX2 yX2_letThrough yX2_letThrough, Cond.code yX2_letThrough cX2_letThrough 4 none, Cond.methodLink RX2 53 Lib.Math.min.name, Cond.static Lib.Math.min.name, Cond.initialized "java/lang/Math", Cond.code Lib.Math.min.name Lib.Math.min.code 2 (some .int), Cond.fieldLink RX2 27 "GossipGates$River" "through" "[I", Cond.methodLink RX2 47 yX0_mostThrough, Cond.instanceMethod yX0_mostThrough, Cond.selects RX0 yX0_mostThrough yX0_mostThrough, Cond.initialized RX0, Cond.code yX0_mostThrough cX0_mostThrough 2 (some .int), Cond.fieldLink RX0 15 "GossipGates$Gates" "openings" "[I", Cond.fieldLink RX0 9 "GossipGates$Gates" "gauges" "[I", Cond.methodLink RX2 59 yX2_moveOn, Cond.instanceMethod yX2_moveOn, Cond.selects RX2 yX2_moveOn yX2_moveOn]
def wsX3_tick_r3 : List Cond := [Cond.code yX2_moveOn cX2_moveOn 4 none, Cond.methodLink RX3 183 yX2_spillOver, Cond.instanceMethod yX2_spillOver, Cond.selects RX2 yX2_spillOver yX2_spillOver, Cond.code yX2_spillOver cX2_spillOver 4 (some .int), Cond.fieldLink RX2 9 "GossipGates$River" "areas" "[I", Cond.fieldLink RX2 15 "GossipGates$River" "depths" "[I", Cond.methodLink RX2 62 Lib.Math.max.name, Cond.static Lib.Math.max.name, Cond.code Lib.Math.max.name Lib.Math.max.code 2 (some .int), Cond.fieldLink RX2 30 "GossipGates$River" "over" "[I", Cond.methodLink RX3 186 yX1_measureAll, Cond.instanceMethod yX1_measureAll, Cond.selects RX1 yX1_measureAll yX1_measureAll, Cond.initialized RX1, Cond.code yX1_measureAll cX1_measureAll 4 none, Cond.fieldLink RX1 9 "GossipGates$Net" "isDown" "[Z", Cond.methodLink RX1 56 yX2_levelOf, Cond.instanceMethod yX2_levelOf, Cond.selects RX2 yX2_levelOf yX2_levelOf, Cond.code yX2_levelOf cX2_levelOf 3 (some .int), Cond.methodLink RX1 62 yX1_measure, Cond.instanceMethod yX1_measure, Cond.selects RX1 yX1_measure yX1_measure]
def wsX3_tick_r4 : List Cond := [Cond.code yX1_measure cX1_measure 4 none, Cond.fieldLink RX1 15 "GossipGates$Net" "isStuck" "[Z", Cond.fieldLink RX1 27 "GossipGates$Net" "levels" "[[I", Cond.fieldLink RX1 30 "GossipGates$Net" "measured" "[[I", Cond.fieldLink RX1 24 "GossipGates$Net" "versions" "[[I", Cond.fieldLink RX1 33 "GossipGates$Net" "beats" "[[I", Cond.fieldLink RX1 36 "GossipGates$Net" "growths" "[[I", Cond.methodLink RX3 190 yX1_callAll, Cond.instanceMethod yX1_callAll, Cond.selects RX1 yX1_callAll yX1_callAll, Cond.code yX1_callAll cX1_callAll 3 none, Cond.methodLink RX1 66 yX1_call, Cond.instanceMethod yX1_call, Cond.selects RX1 yX1_call yX1_call, Cond.code yX1_call cX1_call 4 none, Cond.fieldLink RX1 18 "GossipGates$Net" "groups" "[I", Cond.fieldLink RX1 49 "GossipGates$Net" "vainCalls" "I", Cond.methodLink RX1 70 yX1_calledBy, Cond.instanceMethod yX1_calledBy, Cond.selects RX1 yX1_calledBy yX1_calledBy, Cond.code yX1_calledBy cX1_calledBy 7 (some .int), Cond.methodLink RX1 77 yX1_isCallable, Cond.instanceMethod yX1_isCallable, Cond.selects RX1 yX1_isCallable yX1_isCallable]
def wsX3_tick_r5 : List Cond := [Cond.code yX1_isCallable cX1_isCallable 4 (some .boolean), Cond.fieldLink RX1 39 "GossipGates$Net" "statuses" "[[I", Cond.methodLink RX1 74 yX1_tellOneAnother, Cond.instanceMethod yX1_tellOneAnother, Cond.selects RX1 yX1_tellOneAnother yX1_tellOneAnother, Cond.code yX1_tellOneAnother cX1_tellOneAnother 5 none, Cond.methodLink RX1 81 yX1_takeNews, Cond.instanceMethod yX1_takeNews, Cond.selects RX1 yX1_takeNews yX1_takeNews, Cond.code yX1_takeNews cX1_takeNews 4 none, Cond.methodLink RX1 84 yX1_takeBeat, Cond.instanceMethod yX1_takeBeat, Cond.selects RX1 yX1_takeBeat yX1_takeBeat, Cond.code yX1_takeBeat cX1_takeBeat 5 none, Cond.methodLink RX3 193 yX1_lookAll, Cond.instanceMethod yX1_lookAll, Cond.selects RX1 yX1_lookAll yX1_lookAll, Cond.code yX1_lookAll cX1_lookAll 3 none, Cond.methodLink RX1 88 yX1_lookAtOthers, Cond.instanceMethod yX1_lookAtOthers, Cond.selects RX1 yX1_lookAtOthers yX1_lookAtOthers, Cond.code yX1_lookAtOthers cX1_lookAtOthers 4 none, Cond.methodLink RX1 91 yX1_statusAfter, Cond.instanceMethod yX1_statusAfter]
def wsX3_tick_r6 : List Cond := [Cond.selects RX1 yX1_statusAfter yX1_statusAfter, Cond.code yX1_statusAfter cX1_statusAfter 2 (some .int), Cond.fieldLink RX1 46 "GossipGates$Net" "deathTime" "I", Cond.fieldLink RX1 42 "GossipGates$Net" "suspicionTime" "I", Cond.methodLink RX3 196 yX3_ruleGates, Cond.instanceMethod yX3_ruleGates, Cond.selects RX3 yX3_ruleGates yX3_ruleGates, Cond.code yX3_ruleGates cX3_ruleGates 2 none, Cond.fieldLink RX3 103 "GossipGates$Net" "isDown" "[Z", Cond.fieldLink RX3 86 "GossipGates$Gates" "inHand" "[Z", Cond.methodLink RX3 199 yX3_ruleGate, Cond.instanceMethod yX3_ruleGate, Cond.selects RX3 yX3_ruleGate yX3_ruleGate, Cond.code yX3_ruleGate cX3_ruleGate 5 none, Cond.fieldLink RX3 83 "GossipGates$Gates" "ages" "[I", Cond.fieldLink RX3 136 "GossipGates$Net" "levels" "[[I", Cond.fieldLink RX3 80 "GossipGates$Gates" "bounds" "[I", Cond.methodLink RX3 202 yX1_isOld, Cond.instanceMethod yX1_isOld, Cond.selects RX1 yX1_isOld yX1_isOld, Cond.code yX1_isOld cX1_isOld 5 (some .boolean), Cond.methodLink RX1 52 yX1_hasNews, Cond.instanceMethod yX1_hasNews, Cond.selects RX1 yX1_hasNews yX1_hasNews]
def wsX3_tick_r7 : List Cond := [Cond.code yX1_hasNews cX1_hasNews 3 (some .boolean), Cond.methodLink RX3 206 yX0_openForSafety, Cond.instanceMethod yX0_openForSafety, Cond.selects RX0 yX0_openForSafety yX0_openForSafety, Cond.code yX0_openForSafety cX0_openForSafety 2 none, Cond.methodLink RX0 43 Lib.Math.min.name, Cond.fieldLink RX0 30 "GossipGates$Gates" "safeties" "[I", Cond.methodLink RX3 209 yX0_follow, Cond.instanceMethod yX0_follow, Cond.selects RX0 yX0_follow yX0_follow, Cond.code yX0_follow cX0_follow 4 none, Cond.fieldLink RX0 21 "GossipGates$Gates" "highs" "[I", Cond.fieldLink RX0 18 "GossipGates$Gates" "lows" "[I", Cond.methodLink RX0 49 Lib.Math.max.name]
def wsX3_tick : List Cond := .code yX3_tick cX3_tick 4 (some .int) :: ((wsX3_tick_r1 ++ (wsX3_tick_r2 ++ (wsX3_tick_r3 ++ (wsX3_tick_r4 ++ (wsX3_tick_r5 ++ (wsX3_tick_r6 ++ wsX3_tick_r7)))))) ++ wsX30 ++ wsX20 ++ wsX00 ++ wsX10 ++ (vx_atS RX3 94 "java/lang/IllegalStateException" ["java/lang/RuntimeException", "java/lang/Exception"]).filter goodWord ++ (vx_atS RX3 217 "java/lang/IllegalArgumentException" ["java/lang/RuntimeException", "java/lang/Exception"]).filter goodWord)
def wsX3_time : List Cond := .code yX3_time cX3_time 1 (some .int) :: ([.fieldLink RX3 30 "GossipGates" "now" "I"] ++ wsX30)
def wsJ9_max_7cf53 : List Cond := .code yJ9_max_7cf53 cJ9_max_7cf53 2 (some .int) :: ([])
def wsJ9_min_7cf53 : List Cond := .code yJ9_min_7cf53 cJ9_min_7cf53 2 (some .int) :: ([])
def wsL_dice : List Cond := .code yL_dice cL_dice 2 (some .int) :: ([.constant RL 7 (528734635), .constant RL 8 (2147483647)])
def wsL_act_r1 : List Cond := [Cond.classLink RL 35 "java/lang/IllegalArgumentException", Cond.classLink RL 37 "java/lang/IllegalStateException", Cond.methodLink RL 9 yX3_setGauge, Cond.instanceMethod yX3_setGauge, Cond.selects RX3 yX3_setGauge yX3_setGauge, Cond.initialized RX3, Cond.code yX3_setGauge cX3_setGauge 4 (some .int), Cond.fieldLink RX3 19 "GossipGates" "gates" "LGossipGates$Gates;", Cond.fieldLink RX3 49 "GossipGates$Gates" "gauges" "[I", Cond.methodLink RX3 34 yX3_requireNumber, Cond.static yX3_requireNumber, Cond.code yX3_requireNumber cX3_requireNumber 1 none, Cond.methodLink RX3 38 yX3_requireWithin, Cond.static yX3_requireWithin, Cond.code yX3_requireWithin cX3_requireWithin 3 none, Cond.classLink RX3 213 "java/lang/IllegalArgumentException", Cond.initialized "java/lang/IllegalArgumentException", Cond.methodLink RL 15 yX3_setSource, Cond.instanceMethod yX3_setSource, Cond.selects RX3 yX3_setSource yX3_setSource, Cond.code yX3_setSource cX3_setSource 3 (some .int), Cond.fieldLink RX3 10 "GossipGates" "river" "LGossipGates$River;", Cond.fieldLink RX3 52 "GossipGates$River" "source" "I", Cond.methodLink RL 19 yX3_rain]
def wsL_act_r2 : List Cond := [Cond.instanceMethod yX3_rain, Cond.selects RX3 yX3_rain yX3_rain, Cond.code yX3_rain cX3_rain 3 (some .int), Cond.fieldLink RX3 55 "GossipGates$River" "clouds" "[I", Cond.methodLink RL 22 yX3_byHand, Cond.instanceMethod yX3_byHand, Cond.selects RX3 yX3_byHand yX3_byHand, Cond.code yX3_byHand cX3_byHand 4 (some .int), Cond.classLink RX3 90 "java/lang/IllegalStateException", Cond.initialized "java/lang/IllegalStateException", Cond.fieldLink RX3 86 "GossipGates$Gates" "inHand" "[Z", Cond.fieldLink RX3 97 "GossipGates$Gates" "openings" "[I", Cond.methodLink RL 25 yX3_setGroup, Cond.instanceMethod yX3_setGroup, Cond.selects RX3 yX3_setGroup yX3_setGroup, Cond.code yX3_setGroup cX3_setGroup 4 (some .int), Cond.fieldLink RX3 26 "GossipGates" "net" "LGossipGates$Net;", Cond.fieldLink RX3 120 "GossipGates$Net" "groups" "[I", Cond.methodLink RL 28 yX3_setStuck, Cond.instanceMethod yX3_setStuck, Cond.selects RX3 yX3_setStuck yX3_setStuck, Cond.code yX3_setStuck cX3_setStuck 4 (some .boolean), Cond.fieldLink RX3 123 "GossipGates$Net" "isStuck" "[Z", Cond.methodLink RL 32 yX3_tick]
def wsL_act_r3 : List Cond := [Cond.instanceMethod yX3_tick, Cond.selects RX3 yX3_tick yX3_tick, Cond.code yX3_tick cX3_tick 4 (some .int), Cond.fieldLink RX3 30 "GossipGates" "now" "I", Cond.methodLink RX3 173 yX3_passOneTick, Cond.instanceMethod yX3_passOneTick, Cond.selects RX3 yX3_passOneTick yX3_passOneTick, Cond.code yX3_passOneTick cX3_passOneTick 2 (some .int), Cond.methodLink RX3 176 yX2_takeIn, Cond.instanceMethod yX2_takeIn, Cond.selects RX2 yX2_takeIn yX2_takeIn, Cond.initialized RX2, Cond.code yX2_takeIn cX2_takeIn 2 none, Cond.fieldLink RX2 33 "GossipGates$River" "source" "I", Cond.fieldLink RX2 21 "GossipGates$River" "clouds" "[I", Cond.methodLink RX2 43 yX2_receive, Cond.instanceMethod yX2_receive, Cond.selects RX2 yX2_receive yX2_receive, Cond.code yX2_receive cX2_receive 3 none, Cond.fieldLink RX2 18 "GossipGates$River" "volumes" "[I", Cond.fieldLink RX2 24 "GossipGates$River" "fallen" "[I", Cond.methodLink RX3 179 yX2_letThrough, Cond.instanceMethod yX2_letThrough, Cond.selects RX2 yX2_letThrough yX2_letThrough]
def wsL_act_r4 : List Cond := [Cond.code yX2_letThrough cX2_letThrough 4 none, Cond.methodLink RX2 53 Lib.Math.min.name, Cond.static Lib.Math.min.name, Cond.initialized "java/lang/Math", Cond.code Lib.Math.min.name Lib.Math.min.code 2 (some .int), Cond.fieldLink RX2 27 "GossipGates$River" "through" "[I", Cond.methodLink RX2 47 yX0_mostThrough, Cond.instanceMethod yX0_mostThrough, Cond.selects RX0 yX0_mostThrough yX0_mostThrough, Cond.initialized RX0, Cond.code yX0_mostThrough cX0_mostThrough 2 (some .int), Cond.fieldLink RX0 15 "GossipGates$Gates" "openings" "[I", Cond.fieldLink RX0 9 "GossipGates$Gates" "gauges" "[I", Cond.methodLink RX2 59 yX2_moveOn, Cond.instanceMethod yX2_moveOn, Cond.selects RX2 yX2_moveOn yX2_moveOn, Cond.code yX2_moveOn cX2_moveOn 4 none, Cond.methodLink RX3 183 yX2_spillOver, Cond.instanceMethod yX2_spillOver, Cond.selects RX2 yX2_spillOver yX2_spillOver, Cond.code yX2_spillOver cX2_spillOver 4 (some .int), Cond.fieldLink RX2 9 "GossipGates$River" "areas" "[I", Cond.fieldLink RX2 15 "GossipGates$River" "depths" "[I", Cond.methodLink RX2 62 Lib.Math.max.name]
def wsL_act_r5 : List Cond := [Cond.static Lib.Math.max.name, Cond.code Lib.Math.max.name Lib.Math.max.code 2 (some .int), Cond.fieldLink RX2 30 "GossipGates$River" "over" "[I", Cond.methodLink RX3 186 yX1_measureAll, Cond.instanceMethod yX1_measureAll, Cond.selects RX1 yX1_measureAll yX1_measureAll, Cond.initialized RX1, Cond.code yX1_measureAll cX1_measureAll 4 none, Cond.fieldLink RX1 9 "GossipGates$Net" "isDown" "[Z", Cond.methodLink RX1 56 yX2_levelOf, Cond.instanceMethod yX2_levelOf, Cond.selects RX2 yX2_levelOf yX2_levelOf, Cond.code yX2_levelOf cX2_levelOf 3 (some .int), Cond.methodLink RX1 62 yX1_measure, Cond.instanceMethod yX1_measure, Cond.selects RX1 yX1_measure yX1_measure, Cond.code yX1_measure cX1_measure 4 none, Cond.fieldLink RX1 15 "GossipGates$Net" "isStuck" "[Z", Cond.fieldLink RX1 27 "GossipGates$Net" "levels" "[[I", Cond.fieldLink RX1 30 "GossipGates$Net" "measured" "[[I", Cond.fieldLink RX1 24 "GossipGates$Net" "versions" "[[I", Cond.fieldLink RX1 33 "GossipGates$Net" "beats" "[[I", Cond.fieldLink RX1 36 "GossipGates$Net" "growths" "[[I", Cond.methodLink RX3 190 yX1_callAll]
def wsL_act_r6 : List Cond := [Cond.instanceMethod yX1_callAll, Cond.selects RX1 yX1_callAll yX1_callAll, Cond.code yX1_callAll cX1_callAll 3 none, Cond.methodLink RX1 66 yX1_call, Cond.instanceMethod yX1_call, Cond.selects RX1 yX1_call yX1_call, Cond.code yX1_call cX1_call 4 none, Cond.fieldLink RX1 18 "GossipGates$Net" "groups" "[I", Cond.fieldLink RX1 49 "GossipGates$Net" "vainCalls" "I", Cond.methodLink RX1 70 yX1_calledBy, Cond.instanceMethod yX1_calledBy, Cond.selects RX1 yX1_calledBy yX1_calledBy, Cond.code yX1_calledBy cX1_calledBy 7 (some .int), Cond.methodLink RX1 77 yX1_isCallable, Cond.instanceMethod yX1_isCallable, Cond.selects RX1 yX1_isCallable yX1_isCallable, Cond.code yX1_isCallable cX1_isCallable 4 (some .boolean), Cond.fieldLink RX1 39 "GossipGates$Net" "statuses" "[[I", Cond.methodLink RX1 74 yX1_tellOneAnother, Cond.instanceMethod yX1_tellOneAnother, Cond.selects RX1 yX1_tellOneAnother yX1_tellOneAnother, Cond.code yX1_tellOneAnother cX1_tellOneAnother 5 none, Cond.methodLink RX1 81 yX1_takeNews, Cond.instanceMethod yX1_takeNews]
def wsL_act_r7 : List Cond := [Cond.selects RX1 yX1_takeNews yX1_takeNews, Cond.code yX1_takeNews cX1_takeNews 4 none, Cond.methodLink RX1 84 yX1_takeBeat, Cond.instanceMethod yX1_takeBeat, Cond.selects RX1 yX1_takeBeat yX1_takeBeat, Cond.code yX1_takeBeat cX1_takeBeat 5 none, Cond.methodLink RX3 193 yX1_lookAll, Cond.instanceMethod yX1_lookAll, Cond.selects RX1 yX1_lookAll yX1_lookAll, Cond.code yX1_lookAll cX1_lookAll 3 none, Cond.methodLink RX1 88 yX1_lookAtOthers, Cond.instanceMethod yX1_lookAtOthers, Cond.selects RX1 yX1_lookAtOthers yX1_lookAtOthers, Cond.code yX1_lookAtOthers cX1_lookAtOthers 4 none, Cond.methodLink RX1 91 yX1_statusAfter, Cond.instanceMethod yX1_statusAfter, Cond.selects RX1 yX1_statusAfter yX1_statusAfter, Cond.code yX1_statusAfter cX1_statusAfter 2 (some .int), Cond.fieldLink RX1 46 "GossipGates$Net" "deathTime" "I", Cond.fieldLink RX1 42 "GossipGates$Net" "suspicionTime" "I", Cond.methodLink RX3 196 yX3_ruleGates, Cond.instanceMethod yX3_ruleGates, Cond.selects RX3 yX3_ruleGates yX3_ruleGates, Cond.code yX3_ruleGates cX3_ruleGates 2 none]
def wsL_act_r8 : List Cond := [Cond.fieldLink RX3 103 "GossipGates$Net" "isDown" "[Z", Cond.methodLink RX3 199 yX3_ruleGate, Cond.instanceMethod yX3_ruleGate, Cond.selects RX3 yX3_ruleGate yX3_ruleGate, Cond.code yX3_ruleGate cX3_ruleGate 5 none, Cond.fieldLink RX3 83 "GossipGates$Gates" "ages" "[I", Cond.fieldLink RX3 136 "GossipGates$Net" "levels" "[[I", Cond.fieldLink RX3 80 "GossipGates$Gates" "bounds" "[I", Cond.methodLink RX3 202 yX1_isOld, Cond.instanceMethod yX1_isOld, Cond.selects RX1 yX1_isOld yX1_isOld, Cond.code yX1_isOld cX1_isOld 5 (some .boolean), Cond.methodLink RX1 52 yX1_hasNews, Cond.instanceMethod yX1_hasNews, Cond.selects RX1 yX1_hasNews yX1_hasNews, Cond.code yX1_hasNews cX1_hasNews 3 (some .boolean), Cond.methodLink RX3 206 yX0_openForSafety, Cond.instanceMethod yX0_openForSafety, Cond.selects RX0 yX0_openForSafety yX0_openForSafety, Cond.code yX0_openForSafety cX0_openForSafety 2 none, Cond.methodLink RX0 43 Lib.Math.min.name, Cond.fieldLink RX0 30 "GossipGates$Gates" "safeties" "[I", Cond.methodLink RX3 209 yX0_follow, Cond.instanceMethod yX0_follow]
def wsL_act_r9 : List Cond := [Cond.selects RX0 yX0_follow yX0_follow, Cond.code yX0_follow cX0_follow 4 none, Cond.fieldLink RX0 21 "GossipGates$Gates" "highs" "[I", Cond.fieldLink RX0 18 "GossipGates$Gates" "lows" "[I", Cond.methodLink RX0 49 Lib.Math.max.name]
def wsL_act : List Cond := .codeWith yL_act cL_act 5 (some .int) [(0, 104, 105, 35), (0, 104, 111, 37)] :: ((wsL_act_r1 ++ (wsL_act_r2 ++ (wsL_act_r3 ++ (wsL_act_r4 ++ (wsL_act_r5 ++ (wsL_act_r6 ++ (wsL_act_r7 ++ (wsL_act_r8 ++ wsL_act_r9)))))))) ++ wsX30 ++ wsX00 ++ wsX20 ++ wsX10 ++ (vx_atS RX3 217 "java/lang/IllegalArgumentException" ["java/lang/RuntimeException", "java/lang/Exception"]).filter goodWord ++ (vx_atS RX3 94 "java/lang/IllegalStateException" ["java/lang/RuntimeException", "java/lang/Exception"]).filter goodWord)
def wsL_shaped : List Cond := .codeWith yL_shaped cL_shaped 5 (some .int) [(0, 8, 9, 35)] :: ([.classLink RL 35 "java/lang/IllegalArgumentException", .methodLink RL 39 yX3_shape, .instanceMethod yX3_shape, .selects RX3 yX3_shape yX3_shape, .initialized RX3, .code yX3_shape cX3_shape 4 none, .fieldLink RX3 10 "GossipGates" "river" "LGossipGates$River;", .fieldLink RX3 42 "GossipGates$River" "areas" "[I", .fieldLink RX3 46 "GossipGates$River" "depths" "[I", .methodLink RX3 34 yX3_requireNumber, .static yX3_requireNumber, .code yX3_requireNumber cX3_requireNumber 1 none, .methodLink RX3 38 yX3_requireWithin, .static yX3_requireWithin, .code yX3_requireWithin cX3_requireWithin 3 none, .classLink RX3 213 "java/lang/IllegalArgumentException", .initialized "java/lang/IllegalArgumentException"] ++ wsX30 ++ wsX20 ++ (vx_atS RX3 217 "java/lang/IllegalArgumentException" ["java/lang/RuntimeException", "java/lang/Exception"]).filter goodWord)
def wsL_ruled : List Cond := .codeWith yL_ruled cL_ruled 7 (some .int) [(0, 12, 13, 35)] :: ([.classLink RL 35 "java/lang/IllegalArgumentException", .methodLink RL 43 yX3_setRule, .instanceMethod yX3_setRule, .selects RX3 yX3_setRule yX3_setRule, .initialized RX3, .code yX3_setRule cX3_setRule 6 none, .fieldLink RX3 19 "GossipGates" "gates" "LGossipGates$Gates;", .fieldLink RX3 74 "GossipGates$Gates" "lows" "[I", .fieldLink RX3 77 "GossipGates$Gates" "highs" "[I", .fieldLink RX3 80 "GossipGates$Gates" "bounds" "[I", .fieldLink RX3 83 "GossipGates$Gates" "ages" "[I", .methodLink RX3 34 yX3_requireNumber, .static yX3_requireNumber, .code yX3_requireNumber cX3_requireNumber 1 none, .methodLink RX3 38 yX3_requireWithin, .static yX3_requireWithin, .code yX3_requireWithin cX3_requireWithin 3 none, .classLink RX3 213 "java/lang/IllegalArgumentException", .initialized "java/lang/IllegalArgumentException"] ++ wsX30 ++ wsX00 ++ (vx_atS RX3 217 "java/lang/IllegalArgumentException" ["java/lang/RuntimeException", "java/lang/Exception"]).filter goodWord)
def wsL_timed : List Cond := .codeWith yL_timed cL_timed 4 (some .int) [(0, 7, 8, 35)] :: ([.classLink RL 35 "java/lang/IllegalArgumentException", .methodLink RL 47 yX3_setTimes, .instanceMethod yX3_setTimes, .selects RX3 yX3_setTimes yX3_setTimes, .initialized RX3, .code yX3_setTimes cX3_setTimes 3 none, .fieldLink RX3 26 "GossipGates" "net" "LGossipGates$Net;", .fieldLink RX3 126 "GossipGates$Net" "suspicionTime" "I", .fieldLink RX3 129 "GossipGates$Net" "deathTime" "I", .methodLink RX3 38 yX3_requireWithin, .static yX3_requireWithin, .code yX3_requireWithin cX3_requireWithin 3 none, .classLink RX3 213 "java/lang/IllegalArgumentException", .initialized "java/lang/IllegalArgumentException"] ++ wsX30 ++ wsX10 ++ (vx_atS RX3 217 "java/lang/IllegalArgumentException" ["java/lang/RuntimeException", "java/lang/Exception"]).filter goodWord)
def wsL_fallen : List Cond := .codeWith yL_fallen cL_fallen 3 (some .int) [(0, 6, 7, 35), (0, 6, 12, 37)] :: ([.classLink RL 35 "java/lang/IllegalArgumentException", .classLink RL 37 "java/lang/IllegalStateException", .methodLink RL 51 yX3_fall, .instanceMethod yX3_fall, .selects RX3 yX3_fall yX3_fall, .initialized RX3, .code yX3_fall cX3_fall 2 none, .classLink RX3 90 "java/lang/IllegalStateException", .initialized "java/lang/IllegalStateException", .fieldLink RX3 26 "GossipGates" "net" "LGossipGates$Net;", .fieldLink RX3 103 "GossipGates$Net" "isDown" "[Z", .methodLink RX3 34 yX3_requireNumber, .static yX3_requireNumber, .code yX3_requireNumber cX3_requireNumber 1 none, .methodLink RX3 38 yX3_requireWithin, .static yX3_requireWithin, .code yX3_requireWithin cX3_requireWithin 3 none, .classLink RX3 213 "java/lang/IllegalArgumentException", .initialized "java/lang/IllegalArgumentException"] ++ wsX30 ++ wsX10 ++ (vx_atS RX3 94 "java/lang/IllegalStateException" ["java/lang/RuntimeException", "java/lang/Exception"]).filter goodWord ++ (vx_atS RX3 217 "java/lang/IllegalArgumentException" ["java/lang/RuntimeException", "java/lang/Exception"]).filter goodWord)
def wsL_risen_r1 : List Cond := [Cond.classLink RL 35 "java/lang/IllegalArgumentException", Cond.classLink RL 37 "java/lang/IllegalStateException", Cond.methodLink RL 55 yX3_comeUp, Cond.instanceMethod yX3_comeUp, Cond.selects RX3 yX3_comeUp yX3_comeUp, Cond.initialized RX3, Cond.code yX3_comeUp cX3_comeUp 2 none, Cond.classLink RX3 90 "java/lang/IllegalStateException", Cond.initialized "java/lang/IllegalStateException", Cond.fieldLink RX3 26 "GossipGates" "net" "LGossipGates$Net;", Cond.fieldLink RX3 103 "GossipGates$Net" "isDown" "[Z", Cond.fieldLink RX3 110 "GossipGates$Net" "growths" "[[I", Cond.fieldLink RX3 30 "GossipGates" "now" "I", Cond.methodLink RX3 34 yX3_requireNumber, Cond.static yX3_requireNumber, Cond.code yX3_requireNumber cX3_requireNumber 1 none, Cond.methodLink RX3 38 yX3_requireWithin, Cond.static yX3_requireWithin, Cond.code yX3_requireWithin cX3_requireWithin 3 none, Cond.classLink RX3 213 "java/lang/IllegalArgumentException", Cond.initialized "java/lang/IllegalArgumentException", Cond.methodLink RX3 114 yJ7_fill_53178, Cond.static yJ7_fill_53178, Cond.initialized RJ7]
def wsL_risen_r2 : List Cond := [Cond.code yJ7_fill_53178 cJ7_fill_53178 4 none]
def wsL_risen : List Cond := .codeWith yL_risen cL_risen 3 (some .int) [(0, 6, 7, 35), (0, 6, 12, 37)] :: ((wsL_risen_r1 ++ wsL_risen_r2) ++ wsX30 ++ wsX10 ++ (vx_atS RX3 94 "java/lang/IllegalStateException" ["java/lang/RuntimeException", "java/lang/Exception"]).filter goodWord ++ (vx_atS RX3 217 "java/lang/IllegalArgumentException" ["java/lang/RuntimeException", "java/lang/Exception"]).filter goodWord)
def wsL_of_r1 : List Cond := [Cond.classLink RL 35 "java/lang/IllegalArgumentException", Cond.methodLink RL 58 yX3_volume, Cond.instanceMethod yX3_volume, Cond.selects RX3 yX3_volume yX3_volume, Cond.initialized RX3, Cond.code yX3_volume cX3_volume 2 (some .int), Cond.fieldLink RX3 10 "GossipGates" "river" "LGossipGates$River;", Cond.fieldLink RX3 58 "GossipGates$River" "volumes" "[I", Cond.methodLink RX3 34 yX3_requireNumber, Cond.static yX3_requireNumber, Cond.code yX3_requireNumber cX3_requireNumber 1 none, Cond.methodLink RX3 38 yX3_requireWithin, Cond.static yX3_requireWithin, Cond.code yX3_requireWithin cX3_requireWithin 3 none, Cond.classLink RX3 213 "java/lang/IllegalArgumentException", Cond.initialized "java/lang/IllegalArgumentException", Cond.methodLink RL 61 yX3_volumeByBalance, Cond.instanceMethod yX3_volumeByBalance, Cond.selects RX3 yX3_volumeByBalance yX3_volumeByBalance, Cond.code yX3_volumeByBalance cX3_volumeByBalance 2 (some .int), Cond.methodLink RX3 61 yX2_balanceOf, Cond.instanceMethod yX2_balanceOf, Cond.selects RX2 yX2_balanceOf yX2_balanceOf, Cond.initialized RX2]
def wsL_of_r2 : List Cond := [Cond.code yX2_balanceOf cX2_balanceOf 3 (some .int), Cond.fieldLink RX2 24 "GossipGates$River" "fallen" "[I", Cond.fieldLink RX2 27 "GossipGates$River" "through" "[I", Cond.fieldLink RX2 30 "GossipGates$River" "over" "[I", Cond.methodLink RL 64 yX3_level, Cond.instanceMethod yX3_level, Cond.selects RX3 yX3_level yX3_level, Cond.code yX3_level cX3_level 2 (some .int), Cond.methodLink RX3 65 yX2_levelOf, Cond.instanceMethod yX2_levelOf, Cond.selects RX2 yX2_levelOf yX2_levelOf, Cond.code yX2_levelOf cX2_levelOf 3 (some .int), Cond.fieldLink RX2 9 "GossipGates$River" "areas" "[I", Cond.fieldLink RX2 18 "GossipGates$River" "volumes" "[I", Cond.methodLink RL 67 yX3_flowed, Cond.instanceMethod yX3_flowed, Cond.selects RX3 yX3_flowed yX3_flowed, Cond.code yX3_flowed cX3_flowed 2 (some .int), Cond.fieldLink RX3 68 "GossipGates$River" "through" "[I", Cond.methodLink RL 70 yX3_spilled, Cond.instanceMethod yX3_spilled, Cond.selects RX3 yX3_spilled yX3_spilled, Cond.code yX3_spilled cX3_spilled 2 (some .int), Cond.fieldLink RX3 71 "GossipGates$River" "over" "[I"]
def wsL_of_r3 : List Cond := [Cond.methodLink RL 73 yX3_opening, Cond.instanceMethod yX3_opening, Cond.selects RX3 yX3_opening yX3_opening, Cond.code yX3_opening cX3_opening 2 (some .int), Cond.fieldLink RX3 19 "GossipGates" "gates" "LGossipGates$Gates;", Cond.fieldLink RX3 97 "GossipGates$Gates" "openings" "[I", Cond.methodLink RL 76 yX3_safety, Cond.instanceMethod yX3_safety, Cond.selects RX3 yX3_safety yX3_safety, Cond.code yX3_safety cX3_safety 2 (some .int), Cond.fieldLink RX3 100 "GossipGates$Gates" "safeties" "[I", Cond.methodLink RL 79 yX3_partner, Cond.instanceMethod yX3_partner, Cond.selects RX3 yX3_partner yX3_partner, Cond.code yX3_partner cX3_partner 2 (some .int), Cond.fieldLink RX3 26 "GossipGates" "net" "LGossipGates$Net;", Cond.fieldLink RX3 103 "GossipGates$Net" "isDown" "[Z", Cond.fieldLink RX3 30 "GossipGates" "now" "I", Cond.methodLink RX3 151 yX1_calledBy, Cond.instanceMethod yX1_calledBy, Cond.selects RX1 yX1_calledBy yX1_calledBy, Cond.initialized RX1, Cond.code yX1_calledBy cX1_calledBy 7 (some .int), Cond.methodLink RX1 77 yX1_isCallable]
def wsL_of_r4 : List Cond := [Cond.instanceMethod yX1_isCallable, Cond.selects RX1 yX1_isCallable yX1_isCallable, Cond.code yX1_isCallable cX1_isCallable 4 (some .boolean), Cond.fieldLink RX1 39 "GossipGates$Net" "statuses" "[[I", Cond.methodLink RL 82 yX3_freshest, Cond.instanceMethod yX3_freshest, Cond.selects RX3 yX3_freshest yX3_freshest, Cond.code yX3_freshest cX3_freshest 2 (some .int), Cond.methodLink RX3 155 yX1_freshestOf, Cond.instanceMethod yX1_freshestOf, Cond.selects RX1 yX1_freshestOf yX1_freshestOf, Cond.code yX1_freshestOf cX1_freshestOf 5 (some .int), Cond.fieldLink RX1 24 "GossipGates$Net" "versions" "[[I", Cond.methodLink RL 85 yX3_agree, Cond.instanceMethod yX3_agree, Cond.selects RX3 yX3_agree yX3_agree, Cond.code yX3_agree cX3_agree 2 (some .int), Cond.methodLink RX3 158 yX1_believersOf, Cond.instanceMethod yX1_believersOf, Cond.selects RX1 yX1_believersOf yX1_believersOf, Cond.code yX1_believersOf cX1_believersOf 6 (some .int), Cond.fieldLink RX1 9 "GossipGates$Net" "isDown" "[Z", Cond.fieldLink RX1 27 "GossipGates$Net" "levels" "[[I", Cond.methodLink RX1 52 yX1_hasNews]
def wsL_of_r5 : List Cond := [Cond.instanceMethod yX1_hasNews, Cond.selects RX1 yX1_hasNews yX1_hasNews, Cond.code yX1_hasNews cX1_hasNews 3 (some .boolean), Cond.methodLink RL 88 yX3_believed, Cond.instanceMethod yX3_believed, Cond.selects RX3 yX3_believed yX3_believed, Cond.code yX3_believed cX3_believed 3 (some .int), Cond.fieldLink RX3 136 "GossipGates$Net" "levels" "[[I", Cond.methodLink RX3 132 yX1_hasNews, Cond.methodLink RL 91 yX3_version, Cond.instanceMethod yX3_version, Cond.selects RX3 yX3_version yX3_version, Cond.code yX3_version cX3_version 3 (some .int), Cond.fieldLink RX3 139 "GossipGates$Net" "versions" "[[I", Cond.methodLink RL 94 yX3_age, Cond.instanceMethod yX3_age, Cond.selects RX3 yX3_age yX3_age, Cond.code yX3_age cX3_age 3 (some .int), Cond.fieldLink RX3 142 "GossipGates$Net" "measured" "[[I", Cond.methodLink RL 97 yX3_beat, Cond.instanceMethod yX3_beat, Cond.selects RX3 yX3_beat yX3_beat, Cond.code yX3_beat cX3_beat 3 (some .int), Cond.fieldLink RX3 145 "GossipGates$Net" "beats" "[[I"]
def wsL_of_r6 : List Cond := [Cond.methodLink RL 100 yX3_status, Cond.instanceMethod yX3_status, Cond.selects RX3 yX3_status yX3_status, Cond.code yX3_status cX3_status 3 (some .int), Cond.fieldLink RX3 148 "GossipGates$Net" "statuses" "[[I"]
def wsL_of : List Cond := .codeWith yL_of cL_of 5 (some .int) [(0, 199, 200, 35)] :: ((wsL_of_r1 ++ (wsL_of_r2 ++ (wsL_of_r3 ++ (wsL_of_r4 ++ (wsL_of_r5 ++ wsL_of_r6))))) ++ wsX30 ++ wsX20 ++ wsX00 ++ wsX10 ++ (vx_atS RX3 217 "java/lang/IllegalArgumentException" ["java/lang/RuntimeException", "java/lang/Exception"]).filter goodWord)
def wsL_all_r1 : List Cond := [Cond.constantLong RL 107 (31), Cond.constantLong RL 112 (961), Cond.constantLong RL 117 (29791), Cond.constantLong RL 122 (1000003), Cond.constantLong RL 124 (65537), Cond.constantLong RL 126 (7), Cond.constantLong RL 128 (3), Cond.constantLong RL 130 (257), Cond.methodLink RL 103 yX3_time, Cond.instanceMethod yX3_time, Cond.selects RX3 yX3_time yX3_time, Cond.initialized RX3, Cond.code yX3_time cX3_time 1 (some .int), Cond.fieldLink RX3 30 "GossipGates" "now" "I", Cond.methodLink RL 109 yX3_vain, Cond.instanceMethod yX3_vain, Cond.selects RX3 yX3_vain yX3_vain, Cond.code yX3_vain cX3_vain 1 (some .int), Cond.fieldLink RX3 26 "GossipGates" "net" "LGossipGates$Net;", Cond.fieldLink RX3 168 "GossipGates$Net" "vainCalls" "I", Cond.methodLink RL 114 yX3_unnoticed, Cond.instanceMethod yX3_unnoticed, Cond.selects RX3 yX3_unnoticed yX3_unnoticed, Cond.code yX3_unnoticed cX3_unnoticed 1 (some .int)]
def wsL_all_r2 : List Cond := [Cond.methodLink RX3 161 yX1_countUnnoticed, Cond.instanceMethod yX1_countUnnoticed, Cond.selects RX1 yX1_countUnnoticed yX1_countUnnoticed, Cond.initialized RX1, Cond.code yX1_countUnnoticed cX1_countUnnoticed 3 (some .int), Cond.fieldLink RX1 9 "GossipGates$Net" "isDown" "[Z", Cond.methodLink RX1 94 yX1_countHolders, Cond.instanceMethod yX1_countHolders, Cond.selects RX1 yX1_countHolders yX1_countHolders, Cond.code yX1_countHolders cX1_countHolders 5 (some .int), Cond.fieldLink RX1 39 "GossipGates$Net" "statuses" "[[I", Cond.methodLink RL 119 yX3_mistaken, Cond.instanceMethod yX3_mistaken, Cond.selects RX3 yX3_mistaken yX3_mistaken, Cond.code yX3_mistaken cX3_mistaken 1 (some .int), Cond.methodLink RX3 165 yX1_countMistaken, Cond.instanceMethod yX1_countMistaken, Cond.selects RX1 yX1_countMistaken yX1_countMistaken, Cond.code yX1_countMistaken cX1_countMistaken 3 (some .int), Cond.methodLink RL 58 yX3_volume, Cond.instanceMethod yX3_volume, Cond.selects RX3 yX3_volume yX3_volume, Cond.code yX3_volume cX3_volume 2 (some .int), Cond.fieldLink RX3 10 "GossipGates" "river" "LGossipGates$River;"]
def wsL_all_r3 : List Cond := [Cond.fieldLink RX3 58 "GossipGates$River" "volumes" "[I", Cond.methodLink RX3 34 yX3_requireNumber, Cond.static yX3_requireNumber, Cond.code yX3_requireNumber cX3_requireNumber 1 none, Cond.methodLink RX3 38 yX3_requireWithin, Cond.static yX3_requireWithin, Cond.code yX3_requireWithin cX3_requireWithin 3 none, Cond.classLink RX3 213 "java/lang/IllegalArgumentException", Cond.initialized "java/lang/IllegalArgumentException", Cond.methodLink RL 73 yX3_opening, Cond.instanceMethod yX3_opening, Cond.selects RX3 yX3_opening yX3_opening, Cond.code yX3_opening cX3_opening 2 (some .int), Cond.fieldLink RX3 19 "GossipGates" "gates" "LGossipGates$Gates;", Cond.fieldLink RX3 97 "GossipGates$Gates" "openings" "[I", Cond.methodLink RL 76 yX3_safety, Cond.instanceMethod yX3_safety, Cond.selects RX3 yX3_safety yX3_safety, Cond.code yX3_safety cX3_safety 2 (some .int), Cond.fieldLink RX3 100 "GossipGates$Gates" "safeties" "[I", Cond.methodLink RL 85 yX3_agree, Cond.instanceMethod yX3_agree, Cond.selects RX3 yX3_agree yX3_agree, Cond.code yX3_agree cX3_agree 2 (some .int)]
def wsL_all_r4 : List Cond := [Cond.methodLink RX3 65 yX2_levelOf, Cond.instanceMethod yX2_levelOf, Cond.selects RX2 yX2_levelOf yX2_levelOf, Cond.initialized RX2, Cond.code yX2_levelOf cX2_levelOf 3 (some .int), Cond.fieldLink RX2 9 "GossipGates$River" "areas" "[I", Cond.fieldLink RX2 18 "GossipGates$River" "volumes" "[I", Cond.methodLink RX3 158 yX1_believersOf, Cond.instanceMethod yX1_believersOf, Cond.selects RX1 yX1_believersOf yX1_believersOf, Cond.code yX1_believersOf cX1_believersOf 6 (some .int), Cond.fieldLink RX1 27 "GossipGates$Net" "levels" "[[I", Cond.methodLink RX1 52 yX1_hasNews, Cond.instanceMethod yX1_hasNews, Cond.selects RX1 yX1_hasNews yX1_hasNews, Cond.code yX1_hasNews cX1_hasNews 3 (some .boolean), Cond.fieldLink RX1 24 "GossipGates$Net" "versions" "[[I", Cond.methodLink RL 79 yX3_partner, Cond.instanceMethod yX3_partner, Cond.selects RX3 yX3_partner yX3_partner, Cond.code yX3_partner cX3_partner 2 (some .int), Cond.fieldLink RX3 103 "GossipGates$Net" "isDown" "[Z", Cond.methodLink RX3 151 yX1_calledBy, Cond.instanceMethod yX1_calledBy]
def wsL_all_r5 : List Cond := [Cond.selects RX1 yX1_calledBy yX1_calledBy, Cond.code yX1_calledBy cX1_calledBy 7 (some .int), Cond.methodLink RX1 77 yX1_isCallable, Cond.instanceMethod yX1_isCallable, Cond.selects RX1 yX1_isCallable yX1_isCallable, Cond.code yX1_isCallable cX1_isCallable 4 (some .boolean), Cond.methodLink RL 91 yX3_version, Cond.instanceMethod yX3_version, Cond.selects RX3 yX3_version yX3_version, Cond.code yX3_version cX3_version 3 (some .int), Cond.fieldLink RX3 139 "GossipGates$Net" "versions" "[[I", Cond.methodLink RL 97 yX3_beat, Cond.instanceMethod yX3_beat, Cond.selects RX3 yX3_beat yX3_beat, Cond.code yX3_beat cX3_beat 3 (some .int), Cond.fieldLink RX3 145 "GossipGates$Net" "beats" "[[I", Cond.methodLink RL 100 yX3_status, Cond.instanceMethod yX3_status, Cond.selects RX3 yX3_status yX3_status, Cond.code yX3_status cX3_status 3 (some .int), Cond.fieldLink RX3 148 "GossipGates$Net" "statuses" "[[I", Cond.methodLink RL 88 yX3_believed, Cond.instanceMethod yX3_believed, Cond.selects RX3 yX3_believed yX3_believed]
def wsL_all_r6 : List Cond := [Cond.code yX3_believed cX3_believed 3 (some .int), Cond.fieldLink RX3 136 "GossipGates$Net" "levels" "[[I", Cond.methodLink RX3 132 yX1_hasNews]
def wsL_all : List Cond := .code yL_all cL_all 5 (some .long) :: ((wsL_all_r1 ++ (wsL_all_r2 ++ (wsL_all_r3 ++ (wsL_all_r4 ++ (wsL_all_r5 ++ wsL_all_r6))))) ++ wsX30 ++ wsX10 ++ wsX20 ++ wsX00 ++ (vx_atS RX3 217 "java/lang/IllegalArgumentException" ["java/lang/RuntimeException", "java/lang/Exception"]).filter goodWord)
def wsL_keeps_r1 : List Cond := [Cond.methodLink RL 58 yX3_volume, Cond.instanceMethod yX3_volume, Cond.selects RX3 yX3_volume yX3_volume, Cond.initialized RX3, Cond.code yX3_volume cX3_volume 2 (some .int), Cond.fieldLink RX3 10 "GossipGates" "river" "LGossipGates$River;", Cond.fieldLink RX3 58 "GossipGates$River" "volumes" "[I", Cond.methodLink RX3 34 yX3_requireNumber, Cond.static yX3_requireNumber, Cond.code yX3_requireNumber cX3_requireNumber 1 none, Cond.methodLink RX3 38 yX3_requireWithin, Cond.static yX3_requireWithin, Cond.code yX3_requireWithin cX3_requireWithin 3 none, Cond.classLink RX3 213 "java/lang/IllegalArgumentException", Cond.initialized "java/lang/IllegalArgumentException", Cond.methodLink RL 67 yX3_flowed, Cond.instanceMethod yX3_flowed, Cond.selects RX3 yX3_flowed yX3_flowed, Cond.code yX3_flowed cX3_flowed 2 (some .int), Cond.fieldLink RX3 68 "GossipGates$River" "through" "[I", Cond.methodLink RL 70 yX3_spilled, Cond.instanceMethod yX3_spilled, Cond.selects RX3 yX3_spilled yX3_spilled, Cond.code yX3_spilled cX3_spilled 2 (some .int)]
def wsL_keeps_r2 : List Cond := [Cond.fieldLink RX3 71 "GossipGates$River" "over" "[I", Cond.methodLink RL 73 yX3_opening, Cond.instanceMethod yX3_opening, Cond.selects RX3 yX3_opening yX3_opening, Cond.code yX3_opening cX3_opening 2 (some .int), Cond.fieldLink RX3 19 "GossipGates" "gates" "LGossipGates$Gates;", Cond.fieldLink RX3 97 "GossipGates$Gates" "openings" "[I", Cond.methodLink RL 97 yX3_beat, Cond.instanceMethod yX3_beat, Cond.selects RX3 yX3_beat yX3_beat, Cond.code yX3_beat cX3_beat 3 (some .int), Cond.fieldLink RX3 26 "GossipGates" "net" "LGossipGates$Net;", Cond.fieldLink RX3 145 "GossipGates$Net" "beats" "[[I"]
def wsL_keeps : List Cond := .code yL_keeps cL_keeps 5 none :: ((wsL_keeps_r1 ++ wsL_keeps_r2) ++ wsX30 ++ wsX20 ++ wsX00 ++ wsX10 ++ (vx_atS RX3 217 "java/lang/IllegalArgumentException" ["java/lang/RuntimeException", "java/lang/Exception"]).filter goodWord)
def wsL_isWater_r1 : List Cond := [Cond.methodLink RL 67 yX3_flowed, Cond.instanceMethod yX3_flowed, Cond.selects RX3 yX3_flowed yX3_flowed, Cond.initialized RX3, Cond.code yX3_flowed cX3_flowed 2 (some .int), Cond.fieldLink RX3 10 "GossipGates" "river" "LGossipGates$River;", Cond.fieldLink RX3 68 "GossipGates$River" "through" "[I", Cond.methodLink RX3 34 yX3_requireNumber, Cond.static yX3_requireNumber, Cond.code yX3_requireNumber cX3_requireNumber 1 none, Cond.methodLink RX3 38 yX3_requireWithin, Cond.static yX3_requireWithin, Cond.code yX3_requireWithin cX3_requireWithin 3 none, Cond.classLink RX3 213 "java/lang/IllegalArgumentException", Cond.initialized "java/lang/IllegalArgumentException", Cond.methodLink RL 70 yX3_spilled, Cond.instanceMethod yX3_spilled, Cond.selects RX3 yX3_spilled yX3_spilled, Cond.code yX3_spilled cX3_spilled 2 (some .int), Cond.fieldLink RX3 71 "GossipGates$River" "over" "[I", Cond.methodLink RL 58 yX3_volume, Cond.instanceMethod yX3_volume, Cond.selects RX3 yX3_volume yX3_volume, Cond.code yX3_volume cX3_volume 2 (some .int)]
def wsL_isWater_r2 : List Cond := [Cond.fieldLink RX3 58 "GossipGates$River" "volumes" "[I", Cond.methodLink RL 61 yX3_volumeByBalance, Cond.instanceMethod yX3_volumeByBalance, Cond.selects RX3 yX3_volumeByBalance yX3_volumeByBalance, Cond.code yX3_volumeByBalance cX3_volumeByBalance 2 (some .int), Cond.methodLink RX3 61 yX2_balanceOf, Cond.instanceMethod yX2_balanceOf, Cond.selects RX2 yX2_balanceOf yX2_balanceOf, Cond.initialized RX2, Cond.code yX2_balanceOf cX2_balanceOf 3 (some .int), Cond.fieldLink RX2 24 "GossipGates$River" "fallen" "[I", Cond.fieldLink RX2 27 "GossipGates$River" "through" "[I", Cond.fieldLink RX2 30 "GossipGates$River" "over" "[I", Cond.methodLink RL 64 yX3_level, Cond.instanceMethod yX3_level, Cond.selects RX3 yX3_level yX3_level, Cond.code yX3_level cX3_level 2 (some .int), Cond.methodLink RX3 65 yX2_levelOf, Cond.instanceMethod yX2_levelOf, Cond.selects RX2 yX2_levelOf yX2_levelOf, Cond.code yX2_levelOf cX2_levelOf 3 (some .int), Cond.fieldLink RX2 9 "GossipGates$River" "areas" "[I", Cond.fieldLink RX2 18 "GossipGates$River" "volumes" "[I"]
def wsL_isWater : List Cond := .code yL_isWater cL_isWater 15 (some .boolean) :: ((wsL_isWater_r1 ++ wsL_isWater_r2) ++ wsX30 ++ wsX20 ++ (vx_atS RX3 217 "java/lang/IllegalArgumentException" ["java/lang/RuntimeException", "java/lang/Exception"]).filter goodWord)
def wsL_areBeats_r1 : List Cond := [Cond.methodLink RL 103 yX3_time, Cond.instanceMethod yX3_time, Cond.selects RX3 yX3_time yX3_time, Cond.initialized RX3, Cond.code yX3_time cX3_time 1 (some .int), Cond.fieldLink RX3 30 "GossipGates" "now" "I", Cond.methodLink RL 97 yX3_beat, Cond.instanceMethod yX3_beat, Cond.selects RX3 yX3_beat yX3_beat, Cond.code yX3_beat cX3_beat 3 (some .int), Cond.fieldLink RX3 26 "GossipGates" "net" "LGossipGates$Net;", Cond.fieldLink RX3 145 "GossipGates$Net" "beats" "[[I", Cond.methodLink RX3 34 yX3_requireNumber, Cond.static yX3_requireNumber, Cond.code yX3_requireNumber cX3_requireNumber 1 none, Cond.methodLink RX3 38 yX3_requireWithin, Cond.static yX3_requireWithin, Cond.code yX3_requireWithin cX3_requireWithin 3 none, Cond.classLink RX3 213 "java/lang/IllegalArgumentException", Cond.initialized "java/lang/IllegalArgumentException", Cond.methodLink RL 100 yX3_status, Cond.instanceMethod yX3_status, Cond.selects RX3 yX3_status yX3_status, Cond.code yX3_status cX3_status 3 (some .int)]
def wsL_areBeats_r2 : List Cond := [Cond.fieldLink RX3 148 "GossipGates$Net" "statuses" "[[I", Cond.methodLink RL 91 yX3_version, Cond.instanceMethod yX3_version, Cond.selects RX3 yX3_version yX3_version, Cond.code yX3_version cX3_version 3 (some .int), Cond.fieldLink RX3 139 "GossipGates$Net" "versions" "[[I", Cond.methodLink RL 88 yX3_believed, Cond.instanceMethod yX3_believed, Cond.selects RX3 yX3_believed yX3_believed, Cond.code yX3_believed cX3_believed 3 (some .int), Cond.fieldLink RX3 136 "GossipGates$Net" "levels" "[[I", Cond.methodLink RX3 132 yX1_hasNews, Cond.instanceMethod yX1_hasNews, Cond.selects RX1 yX1_hasNews yX1_hasNews, Cond.initialized RX1, Cond.code yX1_hasNews cX1_hasNews 3 (some .boolean), Cond.fieldLink RX1 24 "GossipGates$Net" "versions" "[[I", Cond.methodLink RL 94 yX3_age, Cond.instanceMethod yX3_age, Cond.selects RX3 yX3_age yX3_age, Cond.code yX3_age cX3_age 3 (some .int), Cond.fieldLink RX3 142 "GossipGates$Net" "measured" "[[I"]
def wsL_areBeats : List Cond := .code yL_areBeats cL_areBeats 14 (some .boolean) :: ((wsL_areBeats_r1 ++ wsL_areBeats_r2) ++ wsX30 ++ wsX10 ++ (vx_atS RX3 217 "java/lang/IllegalArgumentException" ["java/lang/RuntimeException", "java/lang/Exception"]).filter goodWord)
def wsL_areGates_r1 : List Cond := [Cond.methodLink RL 88 yX3_believed, Cond.instanceMethod yX3_believed, Cond.selects RX3 yX3_believed yX3_believed, Cond.initialized RX3, Cond.code yX3_believed cX3_believed 3 (some .int), Cond.fieldLink RX3 26 "GossipGates" "net" "LGossipGates$Net;", Cond.fieldLink RX3 136 "GossipGates$Net" "levels" "[[I", Cond.methodLink RX3 34 yX3_requireNumber, Cond.static yX3_requireNumber, Cond.code yX3_requireNumber cX3_requireNumber 1 none, Cond.methodLink RX3 38 yX3_requireWithin, Cond.static yX3_requireWithin, Cond.code yX3_requireWithin cX3_requireWithin 3 none, Cond.classLink RX3 213 "java/lang/IllegalArgumentException", Cond.initialized "java/lang/IllegalArgumentException", Cond.methodLink RX3 132 yX1_hasNews, Cond.instanceMethod yX1_hasNews, Cond.selects RX1 yX1_hasNews yX1_hasNews, Cond.initialized RX1, Cond.code yX1_hasNews cX1_hasNews 3 (some .boolean), Cond.fieldLink RX1 24 "GossipGates$Net" "versions" "[[I", Cond.methodLink RL 94 yX3_age, Cond.instanceMethod yX3_age, Cond.selects RX3 yX3_age yX3_age]
def wsL_areGates_r2 : List Cond := [Cond.code yX3_age cX3_age 3 (some .int), Cond.fieldLink RX3 30 "GossipGates" "now" "I", Cond.fieldLink RX3 142 "GossipGates$Net" "measured" "[[I", Cond.methodLink RL 73 yX3_opening, Cond.instanceMethod yX3_opening, Cond.selects RX3 yX3_opening yX3_opening, Cond.code yX3_opening cX3_opening 2 (some .int), Cond.fieldLink RX3 19 "GossipGates" "gates" "LGossipGates$Gates;", Cond.fieldLink RX3 97 "GossipGates$Gates" "openings" "[I", Cond.methodLink RL 76 yX3_safety, Cond.instanceMethod yX3_safety, Cond.selects RX3 yX3_safety yX3_safety, Cond.code yX3_safety cX3_safety 2 (some .int), Cond.fieldLink RX3 100 "GossipGates$Gates" "safeties" "[I"]
def wsL_areGates : List Cond := .code yL_areGates cL_areGates 10 (some .boolean) :: ((wsL_areGates_r1 ++ wsL_areGates_r2) ++ wsX30 ++ wsX10 ++ wsX00 ++ (vx_atS RX3 217 "java/lang/IllegalArgumentException" ["java/lang/RuntimeException", "java/lang/Exception"]).filter goodWord)
def wsL_areMembers_r1 : List Cond := [Cond.methodLink RL 88 yX3_believed, Cond.instanceMethod yX3_believed, Cond.selects RX3 yX3_believed yX3_believed, Cond.initialized RX3, Cond.code yX3_believed cX3_believed 3 (some .int), Cond.fieldLink RX3 26 "GossipGates" "net" "LGossipGates$Net;", Cond.fieldLink RX3 136 "GossipGates$Net" "levels" "[[I", Cond.methodLink RX3 34 yX3_requireNumber, Cond.static yX3_requireNumber, Cond.code yX3_requireNumber cX3_requireNumber 1 none, Cond.methodLink RX3 38 yX3_requireWithin, Cond.static yX3_requireWithin, Cond.code yX3_requireWithin cX3_requireWithin 3 none, Cond.classLink RX3 213 "java/lang/IllegalArgumentException", Cond.initialized "java/lang/IllegalArgumentException", Cond.methodLink RX3 132 yX1_hasNews, Cond.instanceMethod yX1_hasNews, Cond.selects RX1 yX1_hasNews yX1_hasNews, Cond.initialized RX1, Cond.code yX1_hasNews cX1_hasNews 3 (some .boolean), Cond.fieldLink RX1 24 "GossipGates$Net" "versions" "[[I", Cond.methodLink RL 64 yX3_level, Cond.instanceMethod yX3_level, Cond.selects RX3 yX3_level yX3_level]
def wsL_areMembers_r2 : List Cond := [Cond.code yX3_level cX3_level 2 (some .int), Cond.fieldLink RX3 10 "GossipGates" "river" "LGossipGates$River;", Cond.methodLink RX3 65 yX2_levelOf, Cond.instanceMethod yX2_levelOf, Cond.selects RX2 yX2_levelOf yX2_levelOf, Cond.initialized RX2, Cond.code yX2_levelOf cX2_levelOf 3 (some .int), Cond.fieldLink RX2 9 "GossipGates$River" "areas" "[I", Cond.fieldLink RX2 18 "GossipGates$River" "volumes" "[I", Cond.methodLink RL 91 yX3_version, Cond.instanceMethod yX3_version, Cond.selects RX3 yX3_version yX3_version, Cond.code yX3_version cX3_version 3 (some .int), Cond.fieldLink RX3 139 "GossipGates$Net" "versions" "[[I", Cond.methodLink RL 100 yX3_status, Cond.instanceMethod yX3_status, Cond.selects RX3 yX3_status yX3_status, Cond.code yX3_status cX3_status 3 (some .int), Cond.fieldLink RX3 148 "GossipGates$Net" "statuses" "[[I", Cond.methodLink RL 79 yX3_partner, Cond.instanceMethod yX3_partner, Cond.selects RX3 yX3_partner yX3_partner, Cond.code yX3_partner cX3_partner 2 (some .int), Cond.fieldLink RX3 103 "GossipGates$Net" "isDown" "[Z"]
def wsL_areMembers_r3 : List Cond := [Cond.fieldLink RX3 30 "GossipGates" "now" "I", Cond.methodLink RX3 151 yX1_calledBy, Cond.instanceMethod yX1_calledBy, Cond.selects RX1 yX1_calledBy yX1_calledBy, Cond.code yX1_calledBy cX1_calledBy 7 (some .int), Cond.methodLink RX1 77 yX1_isCallable, Cond.instanceMethod yX1_isCallable, Cond.selects RX1 yX1_isCallable yX1_isCallable, Cond.code yX1_isCallable cX1_isCallable 4 (some .boolean), Cond.fieldLink RX1 39 "GossipGates$Net" "statuses" "[[I", Cond.methodLink RL 85 yX3_agree, Cond.instanceMethod yX3_agree, Cond.selects RX3 yX3_agree yX3_agree, Cond.code yX3_agree cX3_agree 2 (some .int), Cond.methodLink RX3 158 yX1_believersOf, Cond.instanceMethod yX1_believersOf, Cond.selects RX1 yX1_believersOf yX1_believersOf, Cond.code yX1_believersOf cX1_believersOf 6 (some .int), Cond.fieldLink RX1 9 "GossipGates$Net" "isDown" "[Z", Cond.fieldLink RX1 27 "GossipGates$Net" "levels" "[[I", Cond.methodLink RX1 52 yX1_hasNews, Cond.methodLink RL 82 yX3_freshest, Cond.instanceMethod yX3_freshest, Cond.selects RX3 yX3_freshest yX3_freshest]
def wsL_areMembers_r4 : List Cond := [Cond.code yX3_freshest cX3_freshest 2 (some .int), Cond.methodLink RX3 155 yX1_freshestOf, Cond.instanceMethod yX1_freshestOf, Cond.selects RX1 yX1_freshestOf yX1_freshestOf, Cond.code yX1_freshestOf cX1_freshestOf 5 (some .int), Cond.methodLink RL 103 yX3_time, Cond.instanceMethod yX3_time, Cond.selects RX3 yX3_time yX3_time, Cond.code yX3_time cX3_time 1 (some .int), Cond.methodLink RL 114 yX3_unnoticed, Cond.instanceMethod yX3_unnoticed, Cond.selects RX3 yX3_unnoticed yX3_unnoticed, Cond.code yX3_unnoticed cX3_unnoticed 1 (some .int), Cond.methodLink RX3 161 yX1_countUnnoticed, Cond.instanceMethod yX1_countUnnoticed, Cond.selects RX1 yX1_countUnnoticed yX1_countUnnoticed, Cond.code yX1_countUnnoticed cX1_countUnnoticed 3 (some .int), Cond.methodLink RX1 94 yX1_countHolders, Cond.instanceMethod yX1_countHolders, Cond.selects RX1 yX1_countHolders yX1_countHolders, Cond.code yX1_countHolders cX1_countHolders 5 (some .int), Cond.methodLink RL 119 yX3_mistaken, Cond.instanceMethod yX3_mistaken, Cond.selects RX3 yX3_mistaken yX3_mistaken]
def wsL_areMembers_r5 : List Cond := [Cond.code yX3_mistaken cX3_mistaken 1 (some .int), Cond.methodLink RX3 165 yX1_countMistaken, Cond.instanceMethod yX1_countMistaken, Cond.selects RX1 yX1_countMistaken yX1_countMistaken, Cond.code yX1_countMistaken cX1_countMistaken 3 (some .int)]
def wsL_areMembers : List Cond := .code yL_areMembers cL_areMembers 11 (some .boolean) :: ((wsL_areMembers_r1 ++ (wsL_areMembers_r2 ++ (wsL_areMembers_r3 ++ (wsL_areMembers_r4 ++ wsL_areMembers_r5)))) ++ wsX30 ++ wsX10 ++ wsX20 ++ (vx_atS RX3 217 "java/lang/IllegalArgumentException" ["java/lang/RuntimeException", "java/lang/Exception"]).filter goodWord)
def wsL_isTicked_r1 : List Cond := [Cond.methodLink RL 132 yL_keeps, Cond.static yL_keeps, Cond.initialized RL, Cond.code yL_keeps cL_keeps 5 none, Cond.methodLink RL 58 yX3_volume, Cond.instanceMethod yX3_volume, Cond.selects RX3 yX3_volume yX3_volume, Cond.initialized RX3, Cond.code yX3_volume cX3_volume 2 (some .int), Cond.fieldLink RX3 10 "GossipGates" "river" "LGossipGates$River;", Cond.fieldLink RX3 58 "GossipGates$River" "volumes" "[I", Cond.methodLink RX3 34 yX3_requireNumber, Cond.static yX3_requireNumber, Cond.code yX3_requireNumber cX3_requireNumber 1 none, Cond.methodLink RX3 38 yX3_requireWithin, Cond.static yX3_requireWithin, Cond.code yX3_requireWithin cX3_requireWithin 3 none, Cond.classLink RX3 213 "java/lang/IllegalArgumentException", Cond.initialized "java/lang/IllegalArgumentException", Cond.methodLink RL 67 yX3_flowed, Cond.instanceMethod yX3_flowed, Cond.selects RX3 yX3_flowed yX3_flowed, Cond.code yX3_flowed cX3_flowed 2 (some .int), Cond.fieldLink RX3 68 "GossipGates$River" "through" "[I"]
def wsL_isTicked_r2 : List Cond := [Cond.methodLink RL 70 yX3_spilled, Cond.instanceMethod yX3_spilled, Cond.selects RX3 yX3_spilled yX3_spilled, Cond.code yX3_spilled cX3_spilled 2 (some .int), Cond.fieldLink RX3 71 "GossipGates$River" "over" "[I", Cond.methodLink RL 73 yX3_opening, Cond.instanceMethod yX3_opening, Cond.selects RX3 yX3_opening yX3_opening, Cond.code yX3_opening cX3_opening 2 (some .int), Cond.fieldLink RX3 19 "GossipGates" "gates" "LGossipGates$Gates;", Cond.fieldLink RX3 97 "GossipGates$Gates" "openings" "[I", Cond.methodLink RL 97 yX3_beat, Cond.instanceMethod yX3_beat, Cond.selects RX3 yX3_beat yX3_beat, Cond.code yX3_beat cX3_beat 3 (some .int), Cond.fieldLink RX3 26 "GossipGates" "net" "LGossipGates$Net;", Cond.fieldLink RX3 145 "GossipGates$Net" "beats" "[[I", Cond.methodLink RL 103 yX3_time, Cond.instanceMethod yX3_time, Cond.selects RX3 yX3_time yX3_time, Cond.code yX3_time cX3_time 1 (some .int), Cond.fieldLink RX3 30 "GossipGates" "now" "I", Cond.methodLink RL 109 yX3_vain, Cond.instanceMethod yX3_vain]
def wsL_isTicked_r3 : List Cond := [Cond.selects RX3 yX3_vain yX3_vain, Cond.code yX3_vain cX3_vain 1 (some .int), Cond.fieldLink RX3 168 "GossipGates$Net" "vainCalls" "I", Cond.methodLink RL 138 yL_act, Cond.static yL_act, Cond.codeWith yL_act cL_act 5 (some .int) [(0, 104, 105, 35), (0, 104, 111, 37)], Cond.classLink RL 35 "java/lang/IllegalArgumentException", Cond.classLink RL 37 "java/lang/IllegalStateException", Cond.methodLink RL 9 yX3_setGauge, Cond.instanceMethod yX3_setGauge, Cond.selects RX3 yX3_setGauge yX3_setGauge, Cond.code yX3_setGauge cX3_setGauge 4 (some .int), Cond.fieldLink RX3 49 "GossipGates$Gates" "gauges" "[I", Cond.methodLink RL 15 yX3_setSource, Cond.instanceMethod yX3_setSource, Cond.selects RX3 yX3_setSource yX3_setSource, Cond.code yX3_setSource cX3_setSource 3 (some .int), Cond.fieldLink RX3 52 "GossipGates$River" "source" "I", Cond.methodLink RL 19 yX3_rain, Cond.instanceMethod yX3_rain, Cond.selects RX3 yX3_rain yX3_rain, Cond.code yX3_rain cX3_rain 3 (some .int), Cond.fieldLink RX3 55 "GossipGates$River" "clouds" "[I", Cond.methodLink RL 22 yX3_byHand]
def wsL_isTicked_r4 : List Cond := [Cond.instanceMethod yX3_byHand, Cond.selects RX3 yX3_byHand yX3_byHand, Cond.code yX3_byHand cX3_byHand 4 (some .int), Cond.classLink RX3 90 "java/lang/IllegalStateException", Cond.initialized "java/lang/IllegalStateException", Cond.fieldLink RX3 86 "GossipGates$Gates" "inHand" "[Z", Cond.methodLink RL 25 yX3_setGroup, Cond.instanceMethod yX3_setGroup, Cond.selects RX3 yX3_setGroup yX3_setGroup, Cond.code yX3_setGroup cX3_setGroup 4 (some .int), Cond.fieldLink RX3 120 "GossipGates$Net" "groups" "[I", Cond.methodLink RL 28 yX3_setStuck, Cond.instanceMethod yX3_setStuck, Cond.selects RX3 yX3_setStuck yX3_setStuck, Cond.code yX3_setStuck cX3_setStuck 4 (some .boolean), Cond.fieldLink RX3 123 "GossipGates$Net" "isStuck" "[Z", Cond.methodLink RL 32 yX3_tick, Cond.instanceMethod yX3_tick, Cond.selects RX3 yX3_tick yX3_tick, Cond.code yX3_tick cX3_tick 4 (some .int), Cond.methodLink RX3 173 yX3_passOneTick, Cond.instanceMethod yX3_passOneTick, Cond.selects RX3 yX3_passOneTick yX3_passOneTick, Cond.code yX3_passOneTick cX3_passOneTick 2 (some .int)]
def wsL_isTicked_r5 : List Cond := [Cond.methodLink RX3 176 yX2_takeIn, Cond.instanceMethod yX2_takeIn, Cond.selects RX2 yX2_takeIn yX2_takeIn, Cond.initialized RX2, Cond.code yX2_takeIn cX2_takeIn 2 none, Cond.fieldLink RX2 33 "GossipGates$River" "source" "I", Cond.fieldLink RX2 21 "GossipGates$River" "clouds" "[I", Cond.methodLink RX2 43 yX2_receive, Cond.instanceMethod yX2_receive, Cond.selects RX2 yX2_receive yX2_receive, Cond.code yX2_receive cX2_receive 3 none, Cond.fieldLink RX2 18 "GossipGates$River" "volumes" "[I", Cond.fieldLink RX2 24 "GossipGates$River" "fallen" "[I", Cond.methodLink RX3 179 yX2_letThrough, Cond.instanceMethod yX2_letThrough, Cond.selects RX2 yX2_letThrough yX2_letThrough, Cond.code yX2_letThrough cX2_letThrough 4 none, Cond.methodLink RX2 53 Lib.Math.min.name, Cond.static Lib.Math.min.name, Cond.initialized "java/lang/Math", Cond.code Lib.Math.min.name Lib.Math.min.code 2 (some .int), Cond.fieldLink RX2 27 "GossipGates$River" "through" "[I", Cond.methodLink RX2 47 yX0_mostThrough, Cond.instanceMethod yX0_mostThrough]
def wsL_isTicked_r6 : List Cond := [Cond.selects RX0 yX0_mostThrough yX0_mostThrough, Cond.initialized RX0, Cond.code yX0_mostThrough cX0_mostThrough 2 (some .int), Cond.fieldLink RX0 15 "GossipGates$Gates" "openings" "[I", Cond.fieldLink RX0 9 "GossipGates$Gates" "gauges" "[I", Cond.methodLink RX2 59 yX2_moveOn, Cond.instanceMethod yX2_moveOn, Cond.selects RX2 yX2_moveOn yX2_moveOn, Cond.code yX2_moveOn cX2_moveOn 4 none, Cond.methodLink RX3 183 yX2_spillOver, Cond.instanceMethod yX2_spillOver, Cond.selects RX2 yX2_spillOver yX2_spillOver, Cond.code yX2_spillOver cX2_spillOver 4 (some .int), Cond.fieldLink RX2 9 "GossipGates$River" "areas" "[I", Cond.fieldLink RX2 15 "GossipGates$River" "depths" "[I", Cond.methodLink RX2 62 Lib.Math.max.name, Cond.static Lib.Math.max.name, Cond.code Lib.Math.max.name Lib.Math.max.code 2 (some .int), Cond.fieldLink RX2 30 "GossipGates$River" "over" "[I", Cond.methodLink RX3 186 yX1_measureAll, Cond.instanceMethod yX1_measureAll, Cond.selects RX1 yX1_measureAll yX1_measureAll, Cond.initialized RX1, Cond.code yX1_measureAll cX1_measureAll 4 none]
def wsL_isTicked_r7 : List Cond := [Cond.fieldLink RX1 9 "GossipGates$Net" "isDown" "[Z", Cond.methodLink RX1 56 yX2_levelOf, Cond.instanceMethod yX2_levelOf, Cond.selects RX2 yX2_levelOf yX2_levelOf, Cond.code yX2_levelOf cX2_levelOf 3 (some .int), Cond.methodLink RX1 62 yX1_measure, Cond.instanceMethod yX1_measure, Cond.selects RX1 yX1_measure yX1_measure, Cond.code yX1_measure cX1_measure 4 none, Cond.fieldLink RX1 15 "GossipGates$Net" "isStuck" "[Z", Cond.fieldLink RX1 27 "GossipGates$Net" "levels" "[[I", Cond.fieldLink RX1 30 "GossipGates$Net" "measured" "[[I", Cond.fieldLink RX1 24 "GossipGates$Net" "versions" "[[I", Cond.fieldLink RX1 33 "GossipGates$Net" "beats" "[[I", Cond.fieldLink RX1 36 "GossipGates$Net" "growths" "[[I", Cond.methodLink RX3 190 yX1_callAll, Cond.instanceMethod yX1_callAll, Cond.selects RX1 yX1_callAll yX1_callAll, Cond.code yX1_callAll cX1_callAll 3 none, Cond.methodLink RX1 66 yX1_call, Cond.instanceMethod yX1_call, Cond.selects RX1 yX1_call yX1_call, Cond.code yX1_call cX1_call 4 none, Cond.fieldLink RX1 18 "GossipGates$Net" "groups" "[I"]
def wsL_isTicked_r8 : List Cond := [Cond.fieldLink RX1 49 "GossipGates$Net" "vainCalls" "I", Cond.methodLink RX1 70 yX1_calledBy, Cond.instanceMethod yX1_calledBy, Cond.selects RX1 yX1_calledBy yX1_calledBy, Cond.code yX1_calledBy cX1_calledBy 7 (some .int), Cond.methodLink RX1 77 yX1_isCallable, Cond.instanceMethod yX1_isCallable, Cond.selects RX1 yX1_isCallable yX1_isCallable, Cond.code yX1_isCallable cX1_isCallable 4 (some .boolean), Cond.fieldLink RX1 39 "GossipGates$Net" "statuses" "[[I", Cond.methodLink RX1 74 yX1_tellOneAnother, Cond.instanceMethod yX1_tellOneAnother, Cond.selects RX1 yX1_tellOneAnother yX1_tellOneAnother, Cond.code yX1_tellOneAnother cX1_tellOneAnother 5 none, Cond.methodLink RX1 81 yX1_takeNews, Cond.instanceMethod yX1_takeNews, Cond.selects RX1 yX1_takeNews yX1_takeNews, Cond.code yX1_takeNews cX1_takeNews 4 none, Cond.methodLink RX1 84 yX1_takeBeat, Cond.instanceMethod yX1_takeBeat, Cond.selects RX1 yX1_takeBeat yX1_takeBeat, Cond.code yX1_takeBeat cX1_takeBeat 5 none, Cond.methodLink RX3 193 yX1_lookAll, Cond.instanceMethod yX1_lookAll]
def wsL_isTicked_r9 : List Cond := [Cond.selects RX1 yX1_lookAll yX1_lookAll, Cond.code yX1_lookAll cX1_lookAll 3 none, Cond.methodLink RX1 88 yX1_lookAtOthers, Cond.instanceMethod yX1_lookAtOthers, Cond.selects RX1 yX1_lookAtOthers yX1_lookAtOthers, Cond.code yX1_lookAtOthers cX1_lookAtOthers 4 none, Cond.methodLink RX1 91 yX1_statusAfter, Cond.instanceMethod yX1_statusAfter, Cond.selects RX1 yX1_statusAfter yX1_statusAfter, Cond.code yX1_statusAfter cX1_statusAfter 2 (some .int), Cond.fieldLink RX1 46 "GossipGates$Net" "deathTime" "I", Cond.fieldLink RX1 42 "GossipGates$Net" "suspicionTime" "I", Cond.methodLink RX3 196 yX3_ruleGates, Cond.instanceMethod yX3_ruleGates, Cond.selects RX3 yX3_ruleGates yX3_ruleGates, Cond.code yX3_ruleGates cX3_ruleGates 2 none, Cond.fieldLink RX3 103 "GossipGates$Net" "isDown" "[Z", Cond.methodLink RX3 199 yX3_ruleGate, Cond.instanceMethod yX3_ruleGate, Cond.selects RX3 yX3_ruleGate yX3_ruleGate, Cond.code yX3_ruleGate cX3_ruleGate 5 none, Cond.fieldLink RX3 83 "GossipGates$Gates" "ages" "[I", Cond.fieldLink RX3 136 "GossipGates$Net" "levels" "[[I", Cond.fieldLink RX3 80 "GossipGates$Gates" "bounds" "[I"]
def wsL_isTicked_r10 : List Cond := [Cond.methodLink RX3 202 yX1_isOld, Cond.instanceMethod yX1_isOld, Cond.selects RX1 yX1_isOld yX1_isOld, Cond.code yX1_isOld cX1_isOld 5 (some .boolean), Cond.methodLink RX1 52 yX1_hasNews, Cond.instanceMethod yX1_hasNews, Cond.selects RX1 yX1_hasNews yX1_hasNews, Cond.code yX1_hasNews cX1_hasNews 3 (some .boolean), Cond.methodLink RX3 206 yX0_openForSafety, Cond.instanceMethod yX0_openForSafety, Cond.selects RX0 yX0_openForSafety yX0_openForSafety, Cond.code yX0_openForSafety cX0_openForSafety 2 none, Cond.methodLink RX0 43 Lib.Math.min.name, Cond.fieldLink RX0 30 "GossipGates$Gates" "safeties" "[I", Cond.methodLink RX3 209 yX0_follow, Cond.instanceMethod yX0_follow, Cond.selects RX0 yX0_follow yX0_follow, Cond.code yX0_follow cX0_follow 4 none, Cond.fieldLink RX0 21 "GossipGates$Gates" "highs" "[I", Cond.fieldLink RX0 18 "GossipGates$Gates" "lows" "[I", Cond.methodLink RX0 49 Lib.Math.max.name, Cond.methodLink RL 142 yL_isWater, Cond.static yL_isWater, Cond.code yL_isWater cL_isWater 15 (some .boolean)]
def wsL_isTicked_r11 : List Cond := [Cond.methodLink RL 61 yX3_volumeByBalance, Cond.instanceMethod yX3_volumeByBalance, Cond.selects RX3 yX3_volumeByBalance yX3_volumeByBalance, Cond.code yX3_volumeByBalance cX3_volumeByBalance 2 (some .int), Cond.methodLink RX3 61 yX2_balanceOf, Cond.instanceMethod yX2_balanceOf, Cond.selects RX2 yX2_balanceOf yX2_balanceOf, Cond.code yX2_balanceOf cX2_balanceOf 3 (some .int), Cond.methodLink RL 64 yX3_level, Cond.instanceMethod yX3_level, Cond.selects RX3 yX3_level yX3_level, Cond.code yX3_level cX3_level 2 (some .int), Cond.methodLink RX3 65 yX2_levelOf, Cond.methodLink RL 146 yL_areBeats, Cond.static yL_areBeats, Cond.code yL_areBeats cL_areBeats 14 (some .boolean), Cond.methodLink RL 100 yX3_status, Cond.instanceMethod yX3_status, Cond.selects RX3 yX3_status yX3_status, Cond.code yX3_status cX3_status 3 (some .int), Cond.fieldLink RX3 148 "GossipGates$Net" "statuses" "[[I", Cond.methodLink RL 91 yX3_version, Cond.instanceMethod yX3_version, Cond.selects RX3 yX3_version yX3_version]
def wsL_isTicked_r12 : List Cond := [Cond.code yX3_version cX3_version 3 (some .int), Cond.fieldLink RX3 139 "GossipGates$Net" "versions" "[[I", Cond.methodLink RL 88 yX3_believed, Cond.instanceMethod yX3_believed, Cond.selects RX3 yX3_believed yX3_believed, Cond.code yX3_believed cX3_believed 3 (some .int), Cond.methodLink RX3 132 yX1_hasNews, Cond.methodLink RL 94 yX3_age, Cond.instanceMethod yX3_age, Cond.selects RX3 yX3_age yX3_age, Cond.code yX3_age cX3_age 3 (some .int), Cond.fieldLink RX3 142 "GossipGates$Net" "measured" "[[I", Cond.methodLink RL 150 yL_areGates, Cond.static yL_areGates, Cond.code yL_areGates cL_areGates 10 (some .boolean), Cond.methodLink RL 76 yX3_safety, Cond.instanceMethod yX3_safety, Cond.selects RX3 yX3_safety yX3_safety, Cond.code yX3_safety cX3_safety 2 (some .int), Cond.fieldLink RX3 100 "GossipGates$Gates" "safeties" "[I"]
def wsL_isTicked : List Cond := .code yL_isTicked cL_isTicked 11 (some .boolean) :: ((wsL_isTicked_r1 ++ (wsL_isTicked_r2 ++ (wsL_isTicked_r3 ++ (wsL_isTicked_r4 ++ (wsL_isTicked_r5 ++ (wsL_isTicked_r6 ++ (wsL_isTicked_r7 ++ (wsL_isTicked_r8 ++ (wsL_isTicked_r9 ++ (wsL_isTicked_r10 ++ (wsL_isTicked_r11 ++ wsL_isTicked_r12))))))))))) ++ wsX30 ++ wsX20 ++ wsX00 ++ wsX10 ++ (vx_atS RX3 217 "java/lang/IllegalArgumentException" ["java/lang/RuntimeException", "java/lang/Exception"]).filter goodWord ++ (vx_atS RX3 94 "java/lang/IllegalStateException" ["java/lang/RuntimeException", "java/lang/Exception"]).filter goodWord)
def wsL_isRefused_r1 : List Cond := [Cond.methodLink RL 154 yL_all, Cond.static yL_all, Cond.initialized RL, Cond.code yL_all cL_all 5 (some .long), Cond.constantLong RL 107 (31), Cond.constantLong RL 112 (961), Cond.constantLong RL 117 (29791), Cond.constantLong RL 122 (1000003), Cond.constantLong RL 124 (65537), Cond.constantLong RL 126 (7), Cond.constantLong RL 128 (3), Cond.constantLong RL 130 (257), Cond.methodLink RL 103 yX3_time, Cond.instanceMethod yX3_time, Cond.selects RX3 yX3_time yX3_time, Cond.initialized RX3, Cond.code yX3_time cX3_time 1 (some .int), Cond.fieldLink RX3 30 "GossipGates" "now" "I", Cond.methodLink RL 109 yX3_vain, Cond.instanceMethod yX3_vain, Cond.selects RX3 yX3_vain yX3_vain, Cond.code yX3_vain cX3_vain 1 (some .int), Cond.fieldLink RX3 26 "GossipGates" "net" "LGossipGates$Net;", Cond.fieldLink RX3 168 "GossipGates$Net" "vainCalls" "I"]
def wsL_isRefused_r2 : List Cond := [Cond.methodLink RL 114 yX3_unnoticed, Cond.instanceMethod yX3_unnoticed, Cond.selects RX3 yX3_unnoticed yX3_unnoticed, Cond.code yX3_unnoticed cX3_unnoticed 1 (some .int), Cond.methodLink RX3 161 yX1_countUnnoticed, Cond.instanceMethod yX1_countUnnoticed, Cond.selects RX1 yX1_countUnnoticed yX1_countUnnoticed, Cond.initialized RX1, Cond.code yX1_countUnnoticed cX1_countUnnoticed 3 (some .int), Cond.fieldLink RX1 9 "GossipGates$Net" "isDown" "[Z", Cond.methodLink RX1 94 yX1_countHolders, Cond.instanceMethod yX1_countHolders, Cond.selects RX1 yX1_countHolders yX1_countHolders, Cond.code yX1_countHolders cX1_countHolders 5 (some .int), Cond.fieldLink RX1 39 "GossipGates$Net" "statuses" "[[I", Cond.methodLink RL 119 yX3_mistaken, Cond.instanceMethod yX3_mistaken, Cond.selects RX3 yX3_mistaken yX3_mistaken, Cond.code yX3_mistaken cX3_mistaken 1 (some .int), Cond.methodLink RX3 165 yX1_countMistaken, Cond.instanceMethod yX1_countMistaken, Cond.selects RX1 yX1_countMistaken yX1_countMistaken, Cond.code yX1_countMistaken cX1_countMistaken 3 (some .int), Cond.methodLink RL 58 yX3_volume]
def wsL_isRefused_r3 : List Cond := [Cond.instanceMethod yX3_volume, Cond.selects RX3 yX3_volume yX3_volume, Cond.code yX3_volume cX3_volume 2 (some .int), Cond.fieldLink RX3 10 "GossipGates" "river" "LGossipGates$River;", Cond.fieldLink RX3 58 "GossipGates$River" "volumes" "[I", Cond.methodLink RX3 34 yX3_requireNumber, Cond.static yX3_requireNumber, Cond.code yX3_requireNumber cX3_requireNumber 1 none, Cond.methodLink RX3 38 yX3_requireWithin, Cond.static yX3_requireWithin, Cond.code yX3_requireWithin cX3_requireWithin 3 none, Cond.classLink RX3 213 "java/lang/IllegalArgumentException", Cond.initialized "java/lang/IllegalArgumentException", Cond.methodLink RL 73 yX3_opening, Cond.instanceMethod yX3_opening, Cond.selects RX3 yX3_opening yX3_opening, Cond.code yX3_opening cX3_opening 2 (some .int), Cond.fieldLink RX3 19 "GossipGates" "gates" "LGossipGates$Gates;", Cond.fieldLink RX3 97 "GossipGates$Gates" "openings" "[I", Cond.methodLink RL 76 yX3_safety, Cond.instanceMethod yX3_safety, Cond.selects RX3 yX3_safety yX3_safety, Cond.code yX3_safety cX3_safety 2 (some .int), Cond.fieldLink RX3 100 "GossipGates$Gates" "safeties" "[I"]
def wsL_isRefused_r4 : List Cond := [Cond.methodLink RL 85 yX3_agree, Cond.instanceMethod yX3_agree, Cond.selects RX3 yX3_agree yX3_agree, Cond.code yX3_agree cX3_agree 2 (some .int), Cond.methodLink RX3 65 yX2_levelOf, Cond.instanceMethod yX2_levelOf, Cond.selects RX2 yX2_levelOf yX2_levelOf, Cond.initialized RX2, Cond.code yX2_levelOf cX2_levelOf 3 (some .int), Cond.fieldLink RX2 9 "GossipGates$River" "areas" "[I", Cond.fieldLink RX2 18 "GossipGates$River" "volumes" "[I", Cond.methodLink RX3 158 yX1_believersOf, Cond.instanceMethod yX1_believersOf, Cond.selects RX1 yX1_believersOf yX1_believersOf, Cond.code yX1_believersOf cX1_believersOf 6 (some .int), Cond.fieldLink RX1 27 "GossipGates$Net" "levels" "[[I", Cond.methodLink RX1 52 yX1_hasNews, Cond.instanceMethod yX1_hasNews, Cond.selects RX1 yX1_hasNews yX1_hasNews, Cond.code yX1_hasNews cX1_hasNews 3 (some .boolean), Cond.fieldLink RX1 24 "GossipGates$Net" "versions" "[[I", Cond.methodLink RL 79 yX3_partner, Cond.instanceMethod yX3_partner, Cond.selects RX3 yX3_partner yX3_partner]
def wsL_isRefused_r5 : List Cond := [Cond.code yX3_partner cX3_partner 2 (some .int), Cond.fieldLink RX3 103 "GossipGates$Net" "isDown" "[Z", Cond.methodLink RX3 151 yX1_calledBy, Cond.instanceMethod yX1_calledBy, Cond.selects RX1 yX1_calledBy yX1_calledBy, Cond.code yX1_calledBy cX1_calledBy 7 (some .int), Cond.methodLink RX1 77 yX1_isCallable, Cond.instanceMethod yX1_isCallable, Cond.selects RX1 yX1_isCallable yX1_isCallable, Cond.code yX1_isCallable cX1_isCallable 4 (some .boolean), Cond.methodLink RL 91 yX3_version, Cond.instanceMethod yX3_version, Cond.selects RX3 yX3_version yX3_version, Cond.code yX3_version cX3_version 3 (some .int), Cond.fieldLink RX3 139 "GossipGates$Net" "versions" "[[I", Cond.methodLink RL 97 yX3_beat, Cond.instanceMethod yX3_beat, Cond.selects RX3 yX3_beat yX3_beat, Cond.code yX3_beat cX3_beat 3 (some .int), Cond.fieldLink RX3 145 "GossipGates$Net" "beats" "[[I", Cond.methodLink RL 100 yX3_status, Cond.instanceMethod yX3_status, Cond.selects RX3 yX3_status yX3_status, Cond.code yX3_status cX3_status 3 (some .int)]
def wsL_isRefused_r6 : List Cond := [Cond.fieldLink RX3 148 "GossipGates$Net" "statuses" "[[I", Cond.methodLink RL 88 yX3_believed, Cond.instanceMethod yX3_believed, Cond.selects RX3 yX3_believed yX3_believed, Cond.code yX3_believed cX3_believed 3 (some .int), Cond.fieldLink RX3 136 "GossipGates$Net" "levels" "[[I", Cond.methodLink RX3 132 yX1_hasNews, Cond.methodLink RL 158 yL_shaped, Cond.static yL_shaped, Cond.codeWith yL_shaped cL_shaped 5 (some .int) [(0, 8, 9, 35)], Cond.classLink RL 35 "java/lang/IllegalArgumentException", Cond.methodLink RL 39 yX3_shape, Cond.instanceMethod yX3_shape, Cond.selects RX3 yX3_shape yX3_shape, Cond.code yX3_shape cX3_shape 4 none, Cond.fieldLink RX3 42 "GossipGates$River" "areas" "[I", Cond.fieldLink RX3 46 "GossipGates$River" "depths" "[I", Cond.methodLink RL 138 yL_act, Cond.static yL_act, Cond.codeWith yL_act cL_act 5 (some .int) [(0, 104, 105, 35), (0, 104, 111, 37)], Cond.classLink RL 37 "java/lang/IllegalStateException", Cond.methodLink RL 9 yX3_setGauge, Cond.instanceMethod yX3_setGauge, Cond.selects RX3 yX3_setGauge yX3_setGauge]
def wsL_isRefused_r7 : List Cond := [Cond.code yX3_setGauge cX3_setGauge 4 (some .int), Cond.fieldLink RX3 49 "GossipGates$Gates" "gauges" "[I", Cond.methodLink RL 15 yX3_setSource, Cond.instanceMethod yX3_setSource, Cond.selects RX3 yX3_setSource yX3_setSource, Cond.code yX3_setSource cX3_setSource 3 (some .int), Cond.fieldLink RX3 52 "GossipGates$River" "source" "I", Cond.methodLink RL 19 yX3_rain, Cond.instanceMethod yX3_rain, Cond.selects RX3 yX3_rain yX3_rain, Cond.code yX3_rain cX3_rain 3 (some .int), Cond.fieldLink RX3 55 "GossipGates$River" "clouds" "[I", Cond.methodLink RL 22 yX3_byHand, Cond.instanceMethod yX3_byHand, Cond.selects RX3 yX3_byHand yX3_byHand, Cond.code yX3_byHand cX3_byHand 4 (some .int), Cond.classLink RX3 90 "java/lang/IllegalStateException", Cond.initialized "java/lang/IllegalStateException", Cond.fieldLink RX3 86 "GossipGates$Gates" "inHand" "[Z", Cond.methodLink RL 25 yX3_setGroup, Cond.instanceMethod yX3_setGroup, Cond.selects RX3 yX3_setGroup yX3_setGroup, Cond.code yX3_setGroup cX3_setGroup 4 (some .int), Cond.fieldLink RX3 120 "GossipGates$Net" "groups" "[I"]
def wsL_isRefused_r8 : List Cond := [Cond.methodLink RL 28 yX3_setStuck, Cond.instanceMethod yX3_setStuck, Cond.selects RX3 yX3_setStuck yX3_setStuck, Cond.code yX3_setStuck cX3_setStuck 4 (some .boolean), Cond.fieldLink RX3 123 "GossipGates$Net" "isStuck" "[Z", Cond.methodLink RL 32 yX3_tick, Cond.instanceMethod yX3_tick, Cond.selects RX3 yX3_tick yX3_tick, Cond.code yX3_tick cX3_tick 4 (some .int), Cond.methodLink RX3 173 yX3_passOneTick, Cond.instanceMethod yX3_passOneTick, Cond.selects RX3 yX3_passOneTick yX3_passOneTick, Cond.code yX3_passOneTick cX3_passOneTick 2 (some .int), Cond.methodLink RX3 176 yX2_takeIn, Cond.instanceMethod yX2_takeIn, Cond.selects RX2 yX2_takeIn yX2_takeIn, Cond.code yX2_takeIn cX2_takeIn 2 none, Cond.fieldLink RX2 33 "GossipGates$River" "source" "I", Cond.fieldLink RX2 21 "GossipGates$River" "clouds" "[I", Cond.methodLink RX2 43 yX2_receive, Cond.instanceMethod yX2_receive, Cond.selects RX2 yX2_receive yX2_receive, Cond.code yX2_receive cX2_receive 3 none, Cond.fieldLink RX2 24 "GossipGates$River" "fallen" "[I"]
def wsL_isRefused_r9 : List Cond := [Cond.methodLink RX3 179 yX2_letThrough, Cond.instanceMethod yX2_letThrough, Cond.selects RX2 yX2_letThrough yX2_letThrough, Cond.code yX2_letThrough cX2_letThrough 4 none, Cond.methodLink RX2 53 Lib.Math.min.name, Cond.static Lib.Math.min.name, Cond.initialized "java/lang/Math", Cond.code Lib.Math.min.name Lib.Math.min.code 2 (some .int), Cond.fieldLink RX2 27 "GossipGates$River" "through" "[I", Cond.methodLink RX2 47 yX0_mostThrough, Cond.instanceMethod yX0_mostThrough, Cond.selects RX0 yX0_mostThrough yX0_mostThrough, Cond.initialized RX0, Cond.code yX0_mostThrough cX0_mostThrough 2 (some .int), Cond.fieldLink RX0 15 "GossipGates$Gates" "openings" "[I", Cond.fieldLink RX0 9 "GossipGates$Gates" "gauges" "[I", Cond.methodLink RX2 59 yX2_moveOn, Cond.instanceMethod yX2_moveOn, Cond.selects RX2 yX2_moveOn yX2_moveOn, Cond.code yX2_moveOn cX2_moveOn 4 none, Cond.methodLink RX3 183 yX2_spillOver, Cond.instanceMethod yX2_spillOver, Cond.selects RX2 yX2_spillOver yX2_spillOver, Cond.code yX2_spillOver cX2_spillOver 4 (some .int)]
def wsL_isRefused_r10 : List Cond := [Cond.fieldLink RX2 15 "GossipGates$River" "depths" "[I", Cond.methodLink RX2 62 Lib.Math.max.name, Cond.static Lib.Math.max.name, Cond.code Lib.Math.max.name Lib.Math.max.code 2 (some .int), Cond.fieldLink RX2 30 "GossipGates$River" "over" "[I", Cond.methodLink RX3 186 yX1_measureAll, Cond.instanceMethod yX1_measureAll, Cond.selects RX1 yX1_measureAll yX1_measureAll, Cond.code yX1_measureAll cX1_measureAll 4 none, Cond.methodLink RX1 56 yX2_levelOf, Cond.methodLink RX1 62 yX1_measure, Cond.instanceMethod yX1_measure, Cond.selects RX1 yX1_measure yX1_measure, Cond.code yX1_measure cX1_measure 4 none, Cond.fieldLink RX1 15 "GossipGates$Net" "isStuck" "[Z", Cond.fieldLink RX1 30 "GossipGates$Net" "measured" "[[I", Cond.fieldLink RX1 33 "GossipGates$Net" "beats" "[[I", Cond.fieldLink RX1 36 "GossipGates$Net" "growths" "[[I", Cond.methodLink RX3 190 yX1_callAll, Cond.instanceMethod yX1_callAll, Cond.selects RX1 yX1_callAll yX1_callAll, Cond.code yX1_callAll cX1_callAll 3 none, Cond.methodLink RX1 66 yX1_call, Cond.instanceMethod yX1_call]
def wsL_isRefused_r11 : List Cond := [Cond.selects RX1 yX1_call yX1_call, Cond.code yX1_call cX1_call 4 none, Cond.fieldLink RX1 18 "GossipGates$Net" "groups" "[I", Cond.fieldLink RX1 49 "GossipGates$Net" "vainCalls" "I", Cond.methodLink RX1 70 yX1_calledBy, Cond.methodLink RX1 74 yX1_tellOneAnother, Cond.instanceMethod yX1_tellOneAnother, Cond.selects RX1 yX1_tellOneAnother yX1_tellOneAnother, Cond.code yX1_tellOneAnother cX1_tellOneAnother 5 none, Cond.methodLink RX1 81 yX1_takeNews, Cond.instanceMethod yX1_takeNews, Cond.selects RX1 yX1_takeNews yX1_takeNews, Cond.code yX1_takeNews cX1_takeNews 4 none, Cond.methodLink RX1 84 yX1_takeBeat, Cond.instanceMethod yX1_takeBeat, Cond.selects RX1 yX1_takeBeat yX1_takeBeat, Cond.code yX1_takeBeat cX1_takeBeat 5 none, Cond.methodLink RX3 193 yX1_lookAll, Cond.instanceMethod yX1_lookAll, Cond.selects RX1 yX1_lookAll yX1_lookAll, Cond.code yX1_lookAll cX1_lookAll 3 none, Cond.methodLink RX1 88 yX1_lookAtOthers, Cond.instanceMethod yX1_lookAtOthers, Cond.selects RX1 yX1_lookAtOthers yX1_lookAtOthers]
def wsL_isRefused_r12 : List Cond := [Cond.code yX1_lookAtOthers cX1_lookAtOthers 4 none, Cond.methodLink RX1 91 yX1_statusAfter, Cond.instanceMethod yX1_statusAfter, Cond.selects RX1 yX1_statusAfter yX1_statusAfter, Cond.code yX1_statusAfter cX1_statusAfter 2 (some .int), Cond.fieldLink RX1 46 "GossipGates$Net" "deathTime" "I", Cond.fieldLink RX1 42 "GossipGates$Net" "suspicionTime" "I", Cond.methodLink RX3 196 yX3_ruleGates, Cond.instanceMethod yX3_ruleGates, Cond.selects RX3 yX3_ruleGates yX3_ruleGates, Cond.code yX3_ruleGates cX3_ruleGates 2 none, Cond.methodLink RX3 199 yX3_ruleGate, Cond.instanceMethod yX3_ruleGate, Cond.selects RX3 yX3_ruleGate yX3_ruleGate, Cond.code yX3_ruleGate cX3_ruleGate 5 none, Cond.fieldLink RX3 83 "GossipGates$Gates" "ages" "[I", Cond.fieldLink RX3 80 "GossipGates$Gates" "bounds" "[I", Cond.methodLink RX3 202 yX1_isOld, Cond.instanceMethod yX1_isOld, Cond.selects RX1 yX1_isOld yX1_isOld, Cond.code yX1_isOld cX1_isOld 5 (some .boolean), Cond.methodLink RX3 206 yX0_openForSafety, Cond.instanceMethod yX0_openForSafety, Cond.selects RX0 yX0_openForSafety yX0_openForSafety]
def wsL_isRefused_r13 : List Cond := [Cond.code yX0_openForSafety cX0_openForSafety 2 none, Cond.methodLink RX0 43 Lib.Math.min.name, Cond.fieldLink RX0 30 "GossipGates$Gates" "safeties" "[I", Cond.methodLink RX3 209 yX0_follow, Cond.instanceMethod yX0_follow, Cond.selects RX0 yX0_follow yX0_follow, Cond.code yX0_follow cX0_follow 4 none, Cond.fieldLink RX0 21 "GossipGates$Gates" "highs" "[I", Cond.fieldLink RX0 18 "GossipGates$Gates" "lows" "[I", Cond.methodLink RX0 49 Lib.Math.max.name, Cond.methodLink RL 161 yL_ruled, Cond.static yL_ruled, Cond.codeWith yL_ruled cL_ruled 7 (some .int) [(0, 12, 13, 35)], Cond.methodLink RL 43 yX3_setRule, Cond.instanceMethod yX3_setRule, Cond.selects RX3 yX3_setRule yX3_setRule, Cond.code yX3_setRule cX3_setRule 6 none, Cond.fieldLink RX3 74 "GossipGates$Gates" "lows" "[I", Cond.fieldLink RX3 77 "GossipGates$Gates" "highs" "[I", Cond.methodLink RL 165 yL_timed, Cond.static yL_timed, Cond.codeWith yL_timed cL_timed 4 (some .int) [(0, 7, 8, 35)], Cond.methodLink RL 47 yX3_setTimes, Cond.instanceMethod yX3_setTimes]
def wsL_isRefused_r14 : List Cond := [Cond.selects RX3 yX3_setTimes yX3_setTimes, Cond.code yX3_setTimes cX3_setTimes 3 none, Cond.fieldLink RX3 126 "GossipGates$Net" "suspicionTime" "I", Cond.fieldLink RX3 129 "GossipGates$Net" "deathTime" "I", Cond.methodLink RL 169 yL_fallen, Cond.static yL_fallen, Cond.codeWith yL_fallen cL_fallen 3 (some .int) [(0, 6, 7, 35), (0, 6, 12, 37)], Cond.methodLink RL 51 yX3_fall, Cond.instanceMethod yX3_fall, Cond.selects RX3 yX3_fall yX3_fall, Cond.code yX3_fall cX3_fall 2 none, Cond.methodLink RL 173 yL_risen, Cond.static yL_risen, Cond.codeWith yL_risen cL_risen 3 (some .int) [(0, 6, 7, 35), (0, 6, 12, 37)], Cond.methodLink RL 55 yX3_comeUp, Cond.instanceMethod yX3_comeUp, Cond.selects RX3 yX3_comeUp yX3_comeUp, Cond.code yX3_comeUp cX3_comeUp 2 none, Cond.fieldLink RX3 110 "GossipGates$Net" "growths" "[[I", Cond.methodLink RX3 114 yJ7_fill_53178, Cond.static yJ7_fill_53178, Cond.initialized RJ7, Cond.code yJ7_fill_53178 cJ7_fill_53178 4 none, Cond.methodLink RL 176 yL_of]
def wsL_isRefused_r15 : List Cond := [Cond.static yL_of, Cond.codeWith yL_of cL_of 5 (some .int) [(0, 199, 200, 35)], Cond.methodLink RL 61 yX3_volumeByBalance, Cond.instanceMethod yX3_volumeByBalance, Cond.selects RX3 yX3_volumeByBalance yX3_volumeByBalance, Cond.code yX3_volumeByBalance cX3_volumeByBalance 2 (some .int), Cond.methodLink RX3 61 yX2_balanceOf, Cond.instanceMethod yX2_balanceOf, Cond.selects RX2 yX2_balanceOf yX2_balanceOf, Cond.code yX2_balanceOf cX2_balanceOf 3 (some .int), Cond.methodLink RL 64 yX3_level, Cond.instanceMethod yX3_level, Cond.selects RX3 yX3_level yX3_level, Cond.code yX3_level cX3_level 2 (some .int), Cond.methodLink RL 67 yX3_flowed, Cond.instanceMethod yX3_flowed, Cond.selects RX3 yX3_flowed yX3_flowed, Cond.code yX3_flowed cX3_flowed 2 (some .int), Cond.fieldLink RX3 68 "GossipGates$River" "through" "[I", Cond.methodLink RL 70 yX3_spilled, Cond.instanceMethod yX3_spilled, Cond.selects RX3 yX3_spilled yX3_spilled, Cond.code yX3_spilled cX3_spilled 2 (some .int), Cond.fieldLink RX3 71 "GossipGates$River" "over" "[I"]
def wsL_isRefused_r16 : List Cond := [Cond.methodLink RL 82 yX3_freshest, Cond.instanceMethod yX3_freshest, Cond.selects RX3 yX3_freshest yX3_freshest, Cond.code yX3_freshest cX3_freshest 2 (some .int), Cond.methodLink RX3 155 yX1_freshestOf, Cond.instanceMethod yX1_freshestOf, Cond.selects RX1 yX1_freshestOf yX1_freshestOf, Cond.code yX1_freshestOf cX1_freshestOf 5 (some .int), Cond.methodLink RL 94 yX3_age, Cond.instanceMethod yX3_age, Cond.selects RX3 yX3_age yX3_age, Cond.code yX3_age cX3_age 3 (some .int), Cond.fieldLink RX3 142 "GossipGates$Net" "measured" "[[I"]
def wsL_isRefused : List Cond := .code yL_isRefused cL_isRefused 10 (some .boolean) :: ((wsL_isRefused_r1 ++ (wsL_isRefused_r2 ++ (wsL_isRefused_r3 ++ (wsL_isRefused_r4 ++ (wsL_isRefused_r5 ++ (wsL_isRefused_r6 ++ (wsL_isRefused_r7 ++ (wsL_isRefused_r8 ++ (wsL_isRefused_r9 ++ (wsL_isRefused_r10 ++ (wsL_isRefused_r11 ++ (wsL_isRefused_r12 ++ (wsL_isRefused_r13 ++ (wsL_isRefused_r14 ++ (wsL_isRefused_r15 ++ wsL_isRefused_r16))))))))))))))) ++ wsX30 ++ wsX10 ++ wsX20 ++ wsX00 ++ (vx_atS RX3 217 "java/lang/IllegalArgumentException" ["java/lang/RuntimeException", "java/lang/Exception"]).filter goodWord ++ (vx_atS RX3 94 "java/lang/IllegalStateException" ["java/lang/RuntimeException", "java/lang/Exception"]).filter goodWord)
def wsL_law0_r1 : List Cond := [Cond.classLink RL 10 RX3, Cond.instantiable RX3 4, Cond.initialized RX3, Cond.arrayClass .int, Cond.methodLink RL 179 yX3_init, Cond.instanceMethod yX3_init, Cond.code yX3_init cX3_init 1 none, Cond.methodLink RX3 1 objectInit, Cond.instanceMethod objectInit, Cond.code objectInit ⟨#[0xb1]⟩ 1 none, Cond.classLink RX3 7 RX2, Cond.instantiable RX2 8, Cond.initialized RX2, Cond.fieldLink RX3 10 "GossipGates" "river" "LGossipGates$River;", Cond.classLink RX3 16 RX0, Cond.instantiable RX0 8, Cond.initialized RX0, Cond.fieldLink RX3 19 "GossipGates" "gates" "LGossipGates$Gates;", Cond.classLink RX3 23 RX1, Cond.instantiable RX1 12, Cond.initialized RX1, Cond.fieldLink RX3 26 "GossipGates" "net" "LGossipGates$Net;", Cond.fieldLink RX3 30 "GossipGates" "now" "I", Cond.methodLink RX3 9 yX2_init]
def wsL_law0_r2 : List Cond := [Cond.instanceMethod yX2_init, Cond.code yX2_init cX2_init 1 none, Cond.methodLink RX2 3 objectInit, Cond.fieldLink RX2 9 "GossipGates$River" "areas" "[I", Cond.fieldLink RX2 15 "GossipGates$River" "depths" "[I", Cond.fieldLink RX2 18 "GossipGates$River" "volumes" "[I", Cond.fieldLink RX2 21 "GossipGates$River" "clouds" "[I", Cond.fieldLink RX2 24 "GossipGates$River" "fallen" "[I", Cond.fieldLink RX2 27 "GossipGates$River" "through" "[I", Cond.fieldLink RX2 30 "GossipGates$River" "over" "[I", Cond.fieldLink RX2 33 "GossipGates$River" "source" "I", Cond.methodLink RX2 37 yJ7_fill_53178, Cond.static yJ7_fill_53178, Cond.initialized RJ7, Cond.code yJ7_fill_53178 cJ7_fill_53178 4 none, Cond.methodLink RX3 18 yX0_init, Cond.instanceMethod yX0_init, Cond.code yX0_init cX0_init 1 none, Cond.methodLink RX0 3 objectInit, Cond.fieldLink RX0 9 "GossipGates$Gates" "gauges" "[I", Cond.fieldLink RX0 15 "GossipGates$Gates" "openings" "[I", Cond.fieldLink RX0 18 "GossipGates$Gates" "lows" "[I", Cond.fieldLink RX0 21 "GossipGates$Gates" "highs" "[I", Cond.fieldLink RX0 24 "GossipGates$Gates" "bounds" "[I"]
def wsL_law0_r3 : List Cond := [Cond.fieldLink RX0 27 "GossipGates$Gates" "ages" "[I", Cond.fieldLink RX0 30 "GossipGates$Gates" "safeties" "[I", Cond.arrayClass .boolean, Cond.fieldLink RX0 33 "GossipGates$Gates" "inHand" "[Z", Cond.methodLink RX0 37 yJ7_fill_53178, Cond.instanceMethod yX1_init, Cond.code yX1_init cX1_init 1 none, Cond.methodLink RX1 3 objectInit, Cond.fieldLink RX1 9 "GossipGates$Net" "isDown" "[Z", Cond.fieldLink RX1 15 "GossipGates$Net" "isStuck" "[Z", Cond.fieldLink RX1 18 "GossipGates$Net" "groups" "[I", Cond.classLink RX1 22 "[[I", Cond.fieldLink RX1 24 "GossipGates$Net" "versions" "[[I", Cond.fieldLink RX1 27 "GossipGates$Net" "levels" "[[I", Cond.fieldLink RX1 30 "GossipGates$Net" "measured" "[[I", Cond.fieldLink RX1 33 "GossipGates$Net" "beats" "[[I", Cond.fieldLink RX1 36 "GossipGates$Net" "growths" "[[I", Cond.fieldLink RX1 39 "GossipGates$Net" "statuses" "[[I", Cond.fieldLink RX1 42 "GossipGates$Net" "suspicionTime" "I", Cond.fieldLink RX1 46 "GossipGates$Net" "deathTime" "I", Cond.fieldLink RX1 49 "GossipGates$Net" "vainCalls" "I", Cond.methodLink RL 180 yL_isRefused, Cond.static yL_isRefused, Cond.initialized RL]
def wsL_law0_r4 : List Cond := [Cond.code yL_isRefused cL_isRefused 10 (some .boolean), Cond.methodLink RL 154 yL_all, Cond.static yL_all, Cond.code yL_all cL_all 5 (some .long), Cond.constantLong RL 107 (31), Cond.constantLong RL 112 (961), Cond.constantLong RL 117 (29791), Cond.constantLong RL 122 (1000003), Cond.constantLong RL 124 (65537), Cond.constantLong RL 126 (7), Cond.constantLong RL 128 (3), Cond.constantLong RL 130 (257), Cond.methodLink RL 103 yX3_time, Cond.instanceMethod yX3_time, Cond.selects RX3 yX3_time yX3_time, Cond.code yX3_time cX3_time 1 (some .int), Cond.methodLink RL 109 yX3_vain, Cond.instanceMethod yX3_vain, Cond.selects RX3 yX3_vain yX3_vain, Cond.code yX3_vain cX3_vain 1 (some .int), Cond.fieldLink RX3 168 "GossipGates$Net" "vainCalls" "I", Cond.methodLink RL 114 yX3_unnoticed, Cond.instanceMethod yX3_unnoticed, Cond.selects RX3 yX3_unnoticed yX3_unnoticed]
def wsL_law0_r5 : List Cond := [Cond.code yX3_unnoticed cX3_unnoticed 1 (some .int), Cond.methodLink RX3 161 yX1_countUnnoticed, Cond.instanceMethod yX1_countUnnoticed, Cond.selects RX1 yX1_countUnnoticed yX1_countUnnoticed, Cond.code yX1_countUnnoticed cX1_countUnnoticed 3 (some .int), Cond.methodLink RX1 94 yX1_countHolders, Cond.instanceMethod yX1_countHolders, Cond.selects RX1 yX1_countHolders yX1_countHolders, Cond.code yX1_countHolders cX1_countHolders 5 (some .int), Cond.methodLink RL 119 yX3_mistaken, Cond.instanceMethod yX3_mistaken, Cond.selects RX3 yX3_mistaken yX3_mistaken, Cond.code yX3_mistaken cX3_mistaken 1 (some .int), Cond.methodLink RX3 165 yX1_countMistaken, Cond.instanceMethod yX1_countMistaken, Cond.selects RX1 yX1_countMistaken yX1_countMistaken, Cond.code yX1_countMistaken cX1_countMistaken 3 (some .int), Cond.methodLink RL 58 yX3_volume, Cond.instanceMethod yX3_volume, Cond.selects RX3 yX3_volume yX3_volume, Cond.code yX3_volume cX3_volume 2 (some .int), Cond.fieldLink RX3 58 "GossipGates$River" "volumes" "[I", Cond.methodLink RX3 34 yX3_requireNumber, Cond.static yX3_requireNumber]
def wsL_law0_r6 : List Cond := [Cond.code yX3_requireNumber cX3_requireNumber 1 none, Cond.methodLink RX3 38 yX3_requireWithin, Cond.static yX3_requireWithin, Cond.code yX3_requireWithin cX3_requireWithin 3 none, Cond.classLink RX3 213 "java/lang/IllegalArgumentException", Cond.initialized "java/lang/IllegalArgumentException", Cond.methodLink RL 73 yX3_opening, Cond.instanceMethod yX3_opening, Cond.selects RX3 yX3_opening yX3_opening, Cond.code yX3_opening cX3_opening 2 (some .int), Cond.fieldLink RX3 97 "GossipGates$Gates" "openings" "[I", Cond.methodLink RL 76 yX3_safety, Cond.instanceMethod yX3_safety, Cond.selects RX3 yX3_safety yX3_safety, Cond.code yX3_safety cX3_safety 2 (some .int), Cond.fieldLink RX3 100 "GossipGates$Gates" "safeties" "[I", Cond.methodLink RL 85 yX3_agree, Cond.instanceMethod yX3_agree, Cond.selects RX3 yX3_agree yX3_agree, Cond.code yX3_agree cX3_agree 2 (some .int), Cond.methodLink RX3 65 yX2_levelOf, Cond.instanceMethod yX2_levelOf, Cond.selects RX2 yX2_levelOf yX2_levelOf, Cond.code yX2_levelOf cX2_levelOf 3 (some .int)]
def wsL_law0_r7 : List Cond := [Cond.methodLink RX3 158 yX1_believersOf, Cond.instanceMethod yX1_believersOf, Cond.selects RX1 yX1_believersOf yX1_believersOf, Cond.code yX1_believersOf cX1_believersOf 6 (some .int), Cond.methodLink RX1 52 yX1_hasNews, Cond.instanceMethod yX1_hasNews, Cond.selects RX1 yX1_hasNews yX1_hasNews, Cond.code yX1_hasNews cX1_hasNews 3 (some .boolean), Cond.methodLink RL 79 yX3_partner, Cond.instanceMethod yX3_partner, Cond.selects RX3 yX3_partner yX3_partner, Cond.code yX3_partner cX3_partner 2 (some .int), Cond.fieldLink RX3 103 "GossipGates$Net" "isDown" "[Z", Cond.methodLink RX3 151 yX1_calledBy, Cond.instanceMethod yX1_calledBy, Cond.selects RX1 yX1_calledBy yX1_calledBy, Cond.code yX1_calledBy cX1_calledBy 7 (some .int), Cond.methodLink RX1 77 yX1_isCallable, Cond.instanceMethod yX1_isCallable, Cond.selects RX1 yX1_isCallable yX1_isCallable, Cond.code yX1_isCallable cX1_isCallable 4 (some .boolean), Cond.methodLink RL 91 yX3_version, Cond.instanceMethod yX3_version, Cond.selects RX3 yX3_version yX3_version]
def wsL_law0_r8 : List Cond := [Cond.code yX3_version cX3_version 3 (some .int), Cond.fieldLink RX3 139 "GossipGates$Net" "versions" "[[I", Cond.methodLink RL 97 yX3_beat, Cond.instanceMethod yX3_beat, Cond.selects RX3 yX3_beat yX3_beat, Cond.code yX3_beat cX3_beat 3 (some .int), Cond.fieldLink RX3 145 "GossipGates$Net" "beats" "[[I", Cond.methodLink RL 100 yX3_status, Cond.instanceMethod yX3_status, Cond.selects RX3 yX3_status yX3_status, Cond.code yX3_status cX3_status 3 (some .int), Cond.fieldLink RX3 148 "GossipGates$Net" "statuses" "[[I", Cond.methodLink RL 88 yX3_believed, Cond.instanceMethod yX3_believed, Cond.selects RX3 yX3_believed yX3_believed, Cond.code yX3_believed cX3_believed 3 (some .int), Cond.fieldLink RX3 136 "GossipGates$Net" "levels" "[[I", Cond.methodLink RX3 132 yX1_hasNews, Cond.methodLink RL 158 yL_shaped, Cond.static yL_shaped, Cond.codeWith yL_shaped cL_shaped 5 (some .int) [(0, 8, 9, 35)], Cond.classLink RL 35 "java/lang/IllegalArgumentException", Cond.methodLink RL 39 yX3_shape, Cond.instanceMethod yX3_shape]
def wsL_law0_r9 : List Cond := [Cond.selects RX3 yX3_shape yX3_shape, Cond.code yX3_shape cX3_shape 4 none, Cond.fieldLink RX3 42 "GossipGates$River" "areas" "[I", Cond.fieldLink RX3 46 "GossipGates$River" "depths" "[I", Cond.methodLink RL 138 yL_act, Cond.static yL_act, Cond.codeWith yL_act cL_act 5 (some .int) [(0, 104, 105, 35), (0, 104, 111, 37)], Cond.classLink RL 37 "java/lang/IllegalStateException", Cond.methodLink RL 9 yX3_setGauge, Cond.instanceMethod yX3_setGauge, Cond.selects RX3 yX3_setGauge yX3_setGauge, Cond.code yX3_setGauge cX3_setGauge 4 (some .int), Cond.fieldLink RX3 49 "GossipGates$Gates" "gauges" "[I", Cond.methodLink RL 15 yX3_setSource, Cond.instanceMethod yX3_setSource, Cond.selects RX3 yX3_setSource yX3_setSource, Cond.code yX3_setSource cX3_setSource 3 (some .int), Cond.fieldLink RX3 52 "GossipGates$River" "source" "I", Cond.methodLink RL 19 yX3_rain, Cond.instanceMethod yX3_rain, Cond.selects RX3 yX3_rain yX3_rain, Cond.code yX3_rain cX3_rain 3 (some .int), Cond.fieldLink RX3 55 "GossipGates$River" "clouds" "[I", Cond.methodLink RL 22 yX3_byHand]
def wsL_law0_r10 : List Cond := [Cond.instanceMethod yX3_byHand, Cond.selects RX3 yX3_byHand yX3_byHand, Cond.code yX3_byHand cX3_byHand 4 (some .int), Cond.classLink RX3 90 "java/lang/IllegalStateException", Cond.initialized "java/lang/IllegalStateException", Cond.fieldLink RX3 86 "GossipGates$Gates" "inHand" "[Z", Cond.methodLink RL 25 yX3_setGroup, Cond.instanceMethod yX3_setGroup, Cond.selects RX3 yX3_setGroup yX3_setGroup, Cond.code yX3_setGroup cX3_setGroup 4 (some .int), Cond.fieldLink RX3 120 "GossipGates$Net" "groups" "[I", Cond.methodLink RL 28 yX3_setStuck, Cond.instanceMethod yX3_setStuck, Cond.selects RX3 yX3_setStuck yX3_setStuck, Cond.code yX3_setStuck cX3_setStuck 4 (some .boolean), Cond.fieldLink RX3 123 "GossipGates$Net" "isStuck" "[Z", Cond.methodLink RL 32 yX3_tick, Cond.instanceMethod yX3_tick, Cond.selects RX3 yX3_tick yX3_tick, Cond.code yX3_tick cX3_tick 4 (some .int), Cond.methodLink RX3 173 yX3_passOneTick, Cond.instanceMethod yX3_passOneTick, Cond.selects RX3 yX3_passOneTick yX3_passOneTick, Cond.code yX3_passOneTick cX3_passOneTick 2 (some .int)]
def wsL_law0_r11 : List Cond := [Cond.methodLink RX3 176 yX2_takeIn, Cond.instanceMethod yX2_takeIn, Cond.selects RX2 yX2_takeIn yX2_takeIn, Cond.code yX2_takeIn cX2_takeIn 2 none, Cond.methodLink RX2 43 yX2_receive, Cond.instanceMethod yX2_receive, Cond.selects RX2 yX2_receive yX2_receive, Cond.code yX2_receive cX2_receive 3 none, Cond.methodLink RX3 179 yX2_letThrough, Cond.instanceMethod yX2_letThrough, Cond.selects RX2 yX2_letThrough yX2_letThrough, Cond.code yX2_letThrough cX2_letThrough 4 none, Cond.methodLink RX2 53 Lib.Math.min.name, Cond.static Lib.Math.min.name, Cond.initialized "java/lang/Math", Cond.code Lib.Math.min.name Lib.Math.min.code 2 (some .int), Cond.methodLink RX2 47 yX0_mostThrough, Cond.instanceMethod yX0_mostThrough, Cond.selects RX0 yX0_mostThrough yX0_mostThrough, Cond.code yX0_mostThrough cX0_mostThrough 2 (some .int), Cond.methodLink RX2 59 yX2_moveOn, Cond.instanceMethod yX2_moveOn, Cond.selects RX2 yX2_moveOn yX2_moveOn, Cond.code yX2_moveOn cX2_moveOn 4 none]
def wsL_law0_r12 : List Cond := [Cond.methodLink RX3 183 yX2_spillOver, Cond.instanceMethod yX2_spillOver, Cond.selects RX2 yX2_spillOver yX2_spillOver, Cond.code yX2_spillOver cX2_spillOver 4 (some .int), Cond.methodLink RX2 62 Lib.Math.max.name, Cond.static Lib.Math.max.name, Cond.code Lib.Math.max.name Lib.Math.max.code 2 (some .int), Cond.methodLink RX3 186 yX1_measureAll, Cond.instanceMethod yX1_measureAll, Cond.selects RX1 yX1_measureAll yX1_measureAll, Cond.code yX1_measureAll cX1_measureAll 4 none, Cond.methodLink RX1 56 yX2_levelOf, Cond.methodLink RX1 62 yX1_measure, Cond.instanceMethod yX1_measure, Cond.selects RX1 yX1_measure yX1_measure, Cond.code yX1_measure cX1_measure 4 none, Cond.methodLink RX3 190 yX1_callAll, Cond.instanceMethod yX1_callAll, Cond.selects RX1 yX1_callAll yX1_callAll, Cond.code yX1_callAll cX1_callAll 3 none, Cond.methodLink RX1 66 yX1_call, Cond.instanceMethod yX1_call, Cond.selects RX1 yX1_call yX1_call, Cond.code yX1_call cX1_call 4 none]
def wsL_law0_r13 : List Cond := [Cond.methodLink RX1 70 yX1_calledBy, Cond.methodLink RX1 74 yX1_tellOneAnother, Cond.instanceMethod yX1_tellOneAnother, Cond.selects RX1 yX1_tellOneAnother yX1_tellOneAnother, Cond.code yX1_tellOneAnother cX1_tellOneAnother 5 none, Cond.methodLink RX1 81 yX1_takeNews, Cond.instanceMethod yX1_takeNews, Cond.selects RX1 yX1_takeNews yX1_takeNews, Cond.code yX1_takeNews cX1_takeNews 4 none, Cond.methodLink RX1 84 yX1_takeBeat, Cond.instanceMethod yX1_takeBeat, Cond.selects RX1 yX1_takeBeat yX1_takeBeat, Cond.code yX1_takeBeat cX1_takeBeat 5 none, Cond.methodLink RX3 193 yX1_lookAll, Cond.instanceMethod yX1_lookAll, Cond.selects RX1 yX1_lookAll yX1_lookAll, Cond.code yX1_lookAll cX1_lookAll 3 none, Cond.methodLink RX1 88 yX1_lookAtOthers, Cond.instanceMethod yX1_lookAtOthers, Cond.selects RX1 yX1_lookAtOthers yX1_lookAtOthers, Cond.code yX1_lookAtOthers cX1_lookAtOthers 4 none, Cond.methodLink RX1 91 yX1_statusAfter, Cond.instanceMethod yX1_statusAfter, Cond.selects RX1 yX1_statusAfter yX1_statusAfter]
def wsL_law0_r14 : List Cond := [Cond.code yX1_statusAfter cX1_statusAfter 2 (some .int), Cond.methodLink RX3 196 yX3_ruleGates, Cond.instanceMethod yX3_ruleGates, Cond.selects RX3 yX3_ruleGates yX3_ruleGates, Cond.code yX3_ruleGates cX3_ruleGates 2 none, Cond.methodLink RX3 199 yX3_ruleGate, Cond.instanceMethod yX3_ruleGate, Cond.selects RX3 yX3_ruleGate yX3_ruleGate, Cond.code yX3_ruleGate cX3_ruleGate 5 none, Cond.fieldLink RX3 83 "GossipGates$Gates" "ages" "[I", Cond.fieldLink RX3 80 "GossipGates$Gates" "bounds" "[I", Cond.methodLink RX3 202 yX1_isOld, Cond.instanceMethod yX1_isOld, Cond.selects RX1 yX1_isOld yX1_isOld, Cond.code yX1_isOld cX1_isOld 5 (some .boolean), Cond.methodLink RX3 206 yX0_openForSafety, Cond.instanceMethod yX0_openForSafety, Cond.selects RX0 yX0_openForSafety yX0_openForSafety, Cond.code yX0_openForSafety cX0_openForSafety 2 none, Cond.methodLink RX0 43 Lib.Math.min.name, Cond.methodLink RX3 209 yX0_follow, Cond.instanceMethod yX0_follow, Cond.selects RX0 yX0_follow yX0_follow, Cond.code yX0_follow cX0_follow 4 none]
def wsL_law0_r15 : List Cond := [Cond.methodLink RX0 49 Lib.Math.max.name, Cond.methodLink RL 161 yL_ruled, Cond.static yL_ruled, Cond.codeWith yL_ruled cL_ruled 7 (some .int) [(0, 12, 13, 35)], Cond.methodLink RL 43 yX3_setRule, Cond.instanceMethod yX3_setRule, Cond.selects RX3 yX3_setRule yX3_setRule, Cond.code yX3_setRule cX3_setRule 6 none, Cond.fieldLink RX3 74 "GossipGates$Gates" "lows" "[I", Cond.fieldLink RX3 77 "GossipGates$Gates" "highs" "[I", Cond.methodLink RL 165 yL_timed, Cond.static yL_timed, Cond.codeWith yL_timed cL_timed 4 (some .int) [(0, 7, 8, 35)], Cond.methodLink RL 47 yX3_setTimes, Cond.instanceMethod yX3_setTimes, Cond.selects RX3 yX3_setTimes yX3_setTimes, Cond.code yX3_setTimes cX3_setTimes 3 none, Cond.fieldLink RX3 126 "GossipGates$Net" "suspicionTime" "I", Cond.fieldLink RX3 129 "GossipGates$Net" "deathTime" "I", Cond.methodLink RL 169 yL_fallen, Cond.static yL_fallen, Cond.codeWith yL_fallen cL_fallen 3 (some .int) [(0, 6, 7, 35), (0, 6, 12, 37)], Cond.methodLink RL 51 yX3_fall, Cond.instanceMethod yX3_fall]
def wsL_law0_r16 : List Cond := [Cond.selects RX3 yX3_fall yX3_fall, Cond.code yX3_fall cX3_fall 2 none, Cond.methodLink RL 173 yL_risen, Cond.static yL_risen, Cond.codeWith yL_risen cL_risen 3 (some .int) [(0, 6, 7, 35), (0, 6, 12, 37)], Cond.methodLink RL 55 yX3_comeUp, Cond.instanceMethod yX3_comeUp, Cond.selects RX3 yX3_comeUp yX3_comeUp, Cond.code yX3_comeUp cX3_comeUp 2 none, Cond.fieldLink RX3 110 "GossipGates$Net" "growths" "[[I", Cond.methodLink RX3 114 yJ7_fill_53178, Cond.methodLink RL 176 yL_of, Cond.static yL_of, Cond.codeWith yL_of cL_of 5 (some .int) [(0, 199, 200, 35)], Cond.methodLink RL 61 yX3_volumeByBalance, Cond.instanceMethod yX3_volumeByBalance, Cond.selects RX3 yX3_volumeByBalance yX3_volumeByBalance, Cond.code yX3_volumeByBalance cX3_volumeByBalance 2 (some .int), Cond.methodLink RX3 61 yX2_balanceOf, Cond.instanceMethod yX2_balanceOf, Cond.selects RX2 yX2_balanceOf yX2_balanceOf, Cond.code yX2_balanceOf cX2_balanceOf 3 (some .int), Cond.methodLink RL 64 yX3_level, Cond.instanceMethod yX3_level]
def wsL_law0_r17 : List Cond := [Cond.selects RX3 yX3_level yX3_level, Cond.code yX3_level cX3_level 2 (some .int), Cond.methodLink RL 67 yX3_flowed, Cond.instanceMethod yX3_flowed, Cond.selects RX3 yX3_flowed yX3_flowed, Cond.code yX3_flowed cX3_flowed 2 (some .int), Cond.fieldLink RX3 68 "GossipGates$River" "through" "[I", Cond.methodLink RL 70 yX3_spilled, Cond.instanceMethod yX3_spilled, Cond.selects RX3 yX3_spilled yX3_spilled, Cond.code yX3_spilled cX3_spilled 2 (some .int), Cond.fieldLink RX3 71 "GossipGates$River" "over" "[I", Cond.methodLink RL 82 yX3_freshest, Cond.instanceMethod yX3_freshest, Cond.selects RX3 yX3_freshest yX3_freshest, Cond.code yX3_freshest cX3_freshest 2 (some .int), Cond.methodLink RX3 155 yX1_freshestOf, Cond.instanceMethod yX1_freshestOf, Cond.selects RX1 yX1_freshestOf yX1_freshestOf, Cond.code yX1_freshestOf cX1_freshestOf 5 (some .int), Cond.methodLink RL 94 yX3_age, Cond.instanceMethod yX3_age, Cond.selects RX3 yX3_age yX3_age, Cond.code yX3_age cX3_age 3 (some .int)]
def wsL_law0_r18 : List Cond := [Cond.fieldLink RX3 142 "GossipGates$Net" "measured" "[[I", Cond.methodLink RL 184 yL_dice, Cond.static yL_dice, Cond.code yL_dice cL_dice 2 (some .int), Cond.constant RL 7 (528734635), Cond.constant RL 8 (2147483647), Cond.methodLink RL 188 yL_isTicked, Cond.static yL_isTicked, Cond.code yL_isTicked cL_isTicked 11 (some .boolean), Cond.methodLink RL 132 yL_keeps, Cond.static yL_keeps, Cond.code yL_keeps cL_keeps 5 none, Cond.methodLink RL 142 yL_isWater, Cond.static yL_isWater, Cond.code yL_isWater cL_isWater 15 (some .boolean), Cond.methodLink RL 146 yL_areBeats, Cond.static yL_areBeats, Cond.code yL_areBeats cL_areBeats 14 (some .boolean), Cond.methodLink RL 150 yL_areGates, Cond.static yL_areGates, Cond.code yL_areGates cL_areGates 10 (some .boolean), Cond.methodLink RL 192 yL_areMembers, Cond.static yL_areMembers, Cond.code yL_areMembers cL_areMembers 11 (some .boolean)]
def wsL_law0 : List Cond := (wsL_law0_r1 ++ (wsL_law0_r2 ++ (wsL_law0_r3 ++ (wsL_law0_r4 ++ (wsL_law0_r5 ++ (wsL_law0_r6 ++ (wsL_law0_r7 ++ (wsL_law0_r8 ++ (wsL_law0_r9 ++ (wsL_law0_r10 ++ (wsL_law0_r11 ++ (wsL_law0_r12 ++ (wsL_law0_r13 ++ (wsL_law0_r14 ++ (wsL_law0_r15 ++ (wsL_law0_r16 ++ (wsL_law0_r17 ++ wsL_law0_r18))))))))))))))))) ++ wsX30 ++ wsX20 ++ wsX00 ++ wsX10 ++ ([] : List Cond)
def wsL_law : List Cond := wsL_law0 ++ (vx_atS RX3 217 "java/lang/IllegalArgumentException" ["java/lang/RuntimeException", "java/lang/Exception"]).filter goodWord ++ (vx_atS RX3 94 "java/lang/IllegalStateException" ["java/lang/RuntimeException", "java/lang/Exception"]).filter goodWord
abbrev vwCl : List vw_C := [(RX0, TX0, 8), (RX1, TX1, 12), (RX2, TX2, 8), (RX3, TX3, 4)]
end
section
/-! 03b: the words of the law are words of the tables, by their places -/
theorem xsub_ix {big : List Cond} (ws : List Cond) (ps : List Nat) (hp : ws = ps.filterMap (fun i => big[i]?)) : ∀ w ∈ ws, w ∈ big := by
  intro w hw
  rw [hp] at hw
  obtain ⟨i, -, hi⟩ := List.mem_filterMap.mp hw
  exact List.mem_of_getElem? hi
theorem xsub_ap {big a b : List Cond} (ha : ∀ w ∈ a, w ∈ big) (hb : ∀ w ∈ b, w ∈ big) : ∀ w ∈ a ++ b, w ∈ big := fun w h => (List.mem_append.mp h).elim (ha w) (hb w)
set_option maxRecDepth 20000 in
theorem in_wsL_law0_r1 : ∀ w ∈ wsL_law0_r1, w ∈ lw_tbl := xsub_ix _ [27, 28, 16, 76, 29, 30, 31, 32, 33, 34, 35, 36, 17, 175, 77, 78, 19, 176, 118, 119, 20, 177, 178, 37] (by decide +kernel)
set_option maxRecDepth 20000 in
theorem in_wsL_law0_r2 : ∀ w ∈ wsL_law0_r2, w ∈ lw_tbl := xsub_ix _ [38, 39, 40, 44, 46, 48, 50, 52, 53, 55, 57, 41, 42, 18, 43, 79, 80, 81, 82, 84, 86, 88, 90, 92] (by decide +kernel)
set_option maxRecDepth 20000 in
theorem in_wsL_law0_r3 : ∀ w ∈ wsL_law0_r3, w ∈ lw_tbl := xsub_ix _ [94, 96, 117, 98, 83, 121, 122, 123, 126, 128, 130, 124, 132, 134, 136, 138, 140, 142, 144, 146, 148, 587, 588, 15] (by decide +kernel)
set_option maxRecDepth 20000 in
theorem in_wsL_law0_r4 : ∀ w ∈ wsL_law0_r4, w ∈ lw_tbl := (List.forall_mem_cons.mpr ⟨List.mem_of_getElem? (i := 589) rfl, (List.forall_mem_cons.mpr ⟨List.mem_of_getElem? (i := 590) rfl, (List.forall_mem_cons.mpr ⟨List.mem_of_getElem? (i := 591) rfl, (List.forall_mem_cons.mpr ⟨List.mem_of_getElem? (i := 592) rfl, (List.forall_mem_cons.mpr ⟨List.mem_of_getElem? (i := 593) rfl, (List.forall_mem_cons.mpr ⟨List.mem_of_getElem? (i := 594) rfl, (List.forall_mem_cons.mpr ⟨List.mem_of_getElem? (i := 595) rfl, (List.forall_mem_cons.mpr ⟨List.mem_of_getElem? (i := 596) rfl, (List.forall_mem_cons.mpr ⟨List.mem_of_getElem? (i := 597) rfl, (List.forall_mem_cons.mpr ⟨List.mem_of_getElem? (i := 598) rfl, (List.forall_mem_cons.mpr ⟨List.mem_of_getElem? (i := 599) rfl, (List.forall_mem_cons.mpr ⟨List.mem_of_getElem? (i := 600) rfl, (List.forall_mem_cons.mpr ⟨List.mem_of_getElem? (i := 277) rfl, (List.forall_mem_cons.mpr ⟨List.mem_of_getElem? (i := 278) rfl, (List.forall_mem_cons.mpr ⟨List.mem_of_getElem? (i := 279) rfl, (List.forall_mem_cons.mpr ⟨List.mem_of_getElem? (i := 280) rfl, (List.forall_mem_cons.mpr ⟨List.mem_of_getElem? (i := 558) rfl, (List.forall_mem_cons.mpr ⟨List.mem_of_getElem? (i := 559) rfl, (List.forall_mem_cons.mpr ⟨List.mem_of_getElem? (i := 560) rfl, (List.forall_mem_cons.mpr ⟨List.mem_of_getElem? (i := 561) rfl, (List.forall_mem_cons.mpr ⟨List.mem_of_getElem? (i := 149) rfl, (List.forall_mem_cons.mpr ⟨List.mem_of_getElem? (i := 520) rfl, (List.forall_mem_cons.mpr ⟨List.mem_of_getElem? (i := 521) rfl, (List.forall_mem_cons.mpr ⟨List.mem_of_getElem? (i := 522) rfl, (fun _ h => nomatch h)⟩)⟩)⟩)⟩)⟩)⟩)⟩)⟩)⟩)⟩)⟩)⟩)⟩)⟩)⟩)⟩)⟩)⟩)⟩)⟩)⟩)⟩)⟩)⟩)
set_option maxRecDepth 20000 in
theorem in_wsL_law0_r5 : ∀ w ∈ wsL_law0_r5, w ∈ lw_tbl := xsub_ix _ [523, 524, 525, 526, 527, 528, 530, 14, 531, 532, 533, 534, 535, 536, 537, 538, 539, 188, 189, 190, 191, 49, 192, 193] (by decide +kernel)
set_option maxRecDepth 20000 in
theorem in_wsL_law0_r6 : ∀ w ∈ wsL_law0_r6, w ∈ lw_tbl := xsub_ix _ [194, 195, 196, 197, 198, 24, 273, 274, 275, 276, 87, 583, 584, 585, 586, 97, 504, 505, 506, 507, 269, 270, 271, 272] (by decide +kernel)
set_option maxRecDepth 20000 in
theorem in_wsL_law0_r7 : ∀ w ∈ wsL_law0_r7, w ∈ lw_tbl := xsub_ix _ [508, 509, 510, 511, 431, 432, 433, 434, 499, 500, 501, 502, 127, 503, 388, 389, 390, 391, 393, 6, 394, 491, 492, 493] (by decide +kernel)
set_option maxRecDepth 20000 in
theorem in_wsL_law0_r8 : ∀ w ∈ wsL_law0_r8, w ∈ lw_tbl := xsub_ix _ [494, 133, 554, 555, 556, 557, 139, 495, 496, 497, 498, 143, 486, 487, 488, 489, 135, 490, 445, 446, 447, 289, 448, 449] (by decide +kernel)
set_option maxRecDepth 20000 in
theorem in_wsL_law0_r9 : ∀ w ∈ wsL_law0_r9, w ∈ lw_tbl := xsub_ix _ [450, 451, 45, 47, 286, 287, 288, 290, 291, 292, 293, 294, 85, 295, 296, 297, 298, 58, 299, 300, 301, 302, 51, 303] (by decide +kernel)
set_option maxRecDepth 20000 in
theorem in_wsL_law0_r10 : ∀ w ∈ wsL_law0_r10, w ∈ lw_tbl := xsub_ix _ [304, 305, 306, 307, 25, 99, 323, 324, 325, 326, 131, 327, 328, 329, 330, 129, 331, 332, 333, 334, 336, 338, 1, 339] (by decide +kernel)
set_option maxRecDepth 20000 in
theorem in_wsL_law0_r11 : ∀ w ∈ wsL_law0_r11, w ∈ lw_tbl := xsub_ix _ [340, 341, 342, 343, 344, 346, 2, 347, 348, 349, 350, 351, 356, 357, 26, 358, 352, 353, 354, 355, 359, 361, 3, 362] (by decide +kernel)
set_option maxRecDepth 20000 in
theorem in_wsL_law0_r12 : ∀ w ∈ wsL_law0_r12, w ∈ lw_tbl := xsub_ix _ [363, 364, 365, 366, 367, 368, 369, 370, 371, 372, 373, 374, 375, 377, 4, 378, 379, 380, 381, 382, 383, 385, 5, 386] (by decide +kernel)
set_option maxRecDepth 20000 in
theorem in_wsL_law0_r13 : ∀ w ∈ wsL_law0_r13, w ∈ lw_tbl := xsub_ix _ [387, 395, 397, 7, 398, 399, 401, 8, 402, 403, 405, 9, 406, 407, 408, 409, 410, 411, 413, 10, 414, 415, 417, 11] (by decide +kernel)
set_option maxRecDepth 20000 in
theorem in_wsL_law0_r14 : ∀ w ∈ wsL_law0_r14, w ∈ lw_tbl := xsub_ix _ [418, 419, 421, 12, 422, 423, 425, 13, 426, 95, 93, 427, 428, 429, 430, 435, 436, 437, 438, 439, 440, 441, 442, 443] (by decide +kernel)
set_option maxRecDepth 20000 in
theorem in_wsL_law0_r15 : ∀ w ∈ wsL_law0_r15, w ∈ lw_tbl := xsub_ix _ [444, 452, 453, 454, 455, 456, 457, 458, 89, 91, 459, 460, 461, 462, 463, 464, 465, 145, 147, 466, 467, 468, 469, 470] (by decide +kernel)
set_option maxRecDepth 20000 in
theorem in_wsL_law0_r16 : ∀ w ∈ wsL_law0_r16, w ∈ lw_tbl := xsub_ix _ [471, 472, 474, 475, 476, 477, 478, 479, 480, 141, 482, 601, 602, 603, 565, 566, 567, 568, 569, 570, 571, 572, 265, 266] (by decide +kernel)
set_option maxRecDepth 20000 in
theorem in_wsL_law0_r17 : ∀ w ∈ wsL_law0_r17, w ∈ lw_tbl := xsub_ix _ [267, 268, 546, 547, 548, 549, 54, 550, 551, 552, 553, 56, 512, 513, 514, 515, 516, 517, 518, 519, 576, 577, 578, 579] (by decide +kernel)
set_option maxRecDepth 20000 in
theorem in_wsL_law0_r18 : ∀ w ∈ wsL_law0_r18, w ∈ lw_tbl := (List.forall_mem_cons.mpr ⟨List.mem_of_getElem? (i := 137) rfl, (List.forall_mem_cons.mpr ⟨List.mem_of_getElem? (i := 281) rfl, (List.forall_mem_cons.mpr ⟨List.mem_of_getElem? (i := 282) rfl, (List.forall_mem_cons.mpr ⟨List.mem_of_getElem? (i := 283) rfl, (List.forall_mem_cons.mpr ⟨List.mem_of_getElem? (i := 284) rfl, (List.forall_mem_cons.mpr ⟨List.mem_of_getElem? (i := 285) rfl, (List.forall_mem_cons.mpr ⟨List.mem_of_getElem? (i := 540) rfl, (List.forall_mem_cons.mpr ⟨List.mem_of_getElem? (i := 541) rfl, (List.forall_mem_cons.mpr ⟨List.mem_of_getElem? (i := 542) rfl, (List.forall_mem_cons.mpr ⟨List.mem_of_getElem? (i := 543) rfl, (List.forall_mem_cons.mpr ⟨List.mem_of_getElem? (i := 544) rfl, (List.forall_mem_cons.mpr ⟨List.mem_of_getElem? (i := 545) rfl, (List.forall_mem_cons.mpr ⟨List.mem_of_getElem? (i := 562) rfl, (List.forall_mem_cons.mpr ⟨List.mem_of_getElem? (i := 563) rfl, (List.forall_mem_cons.mpr ⟨List.mem_of_getElem? (i := 564) rfl, (List.forall_mem_cons.mpr ⟨List.mem_of_getElem? (i := 573) rfl, (List.forall_mem_cons.mpr ⟨List.mem_of_getElem? (i := 574) rfl, (List.forall_mem_cons.mpr ⟨List.mem_of_getElem? (i := 575) rfl, (List.forall_mem_cons.mpr ⟨List.mem_of_getElem? (i := 580) rfl, (List.forall_mem_cons.mpr ⟨List.mem_of_getElem? (i := 581) rfl, (List.forall_mem_cons.mpr ⟨List.mem_of_getElem? (i := 582) rfl, (List.forall_mem_cons.mpr ⟨List.mem_of_getElem? (i := 483) rfl, (List.forall_mem_cons.mpr ⟨List.mem_of_getElem? (i := 484) rfl, (List.forall_mem_cons.mpr ⟨List.mem_of_getElem? (i := 485) rfl, (fun _ h => nomatch h)⟩)⟩)⟩)⟩)⟩)⟩)⟩)⟩)⟩)⟩)⟩)⟩)⟩)⟩)⟩)⟩)⟩)⟩)⟩)⟩)⟩)⟩)⟩)⟩)
theorem wsL_law_in0 : ∀ w ∈ wsL_law0, w ∈ lw_tbl := (xsub_ap (xsub_ap (xsub_ap (xsub_ap (xsub_ap (xsub_ap in_wsL_law0_r1 (xsub_ap in_wsL_law0_r2 (xsub_ap in_wsL_law0_r3 (xsub_ap in_wsL_law0_r4 (xsub_ap in_wsL_law0_r5 (xsub_ap in_wsL_law0_r6 (xsub_ap in_wsL_law0_r7 (xsub_ap in_wsL_law0_r8 (xsub_ap in_wsL_law0_r9 (xsub_ap in_wsL_law0_r10 (xsub_ap in_wsL_law0_r11 (xsub_ap in_wsL_law0_r12 (xsub_ap in_wsL_law0_r13 (xsub_ap in_wsL_law0_r14 (xsub_ap in_wsL_law0_r15 (xsub_ap in_wsL_law0_r16 (xsub_ap in_wsL_law0_r17 in_wsL_law0_r18))))))))))))))))) (by decide +kernel)) (by decide +kernel)) (by decide +kernel)) (by decide +kernel)) (fun _ h => nomatch h))
theorem wsL_law_x0 : ∀ w ∈ (vx_atS RX3 217 "java/lang/IllegalArgumentException" ["java/lang/RuntimeException", "java/lang/Exception"]).filter goodWord, w ∈ lw_tbl := by decide +kernel
theorem wsL_law_x1 : ∀ w ∈ (vx_atS RX3 94 "java/lang/IllegalStateException" ["java/lang/RuntimeException", "java/lang/Exception"]).filter goodWord, w ∈ lw_tbl := by decide +kernel
theorem wsL_law_in : ∀ w ∈ wsL_law, w ∈ lw_tbl := fun w h => (List.mem_append.mp h).elim (fun h => (List.mem_append.mp h).elim (fun h => wsL_law_in0 w h) (fun h => wsL_law_x0 w h)) (fun h => wsL_law_x1 w h)
theorem inlX0 : ∀ w ∈ wsX00, w ∈ wsL_law := fun _ h => List.mem_append_left _ (List.mem_append_left _ (List.mem_append_left _ (List.mem_append_left _ (List.mem_append_right _ h))))
theorem inX0 : ∀ w ∈ wsX00, w ∈ lw_tbl := fun w h => wsL_law_in w (inlX0 w h)
theorem inlX1 : ∀ w ∈ wsX10, w ∈ wsL_law := fun _ h => List.mem_append_left _ (List.mem_append_left _ (List.mem_append_left _ (List.mem_append_right _ h)))
theorem inX1 : ∀ w ∈ wsX10, w ∈ lw_tbl := fun w h => wsL_law_in w (inlX1 w h)
theorem inlX2 : ∀ w ∈ wsX20, w ∈ wsL_law := fun _ h => List.mem_append_left _ (List.mem_append_left _ (List.mem_append_left _ (List.mem_append_left _ (List.mem_append_left _ (List.mem_append_right _ h)))))
theorem inX2 : ∀ w ∈ wsX20, w ∈ lw_tbl := fun w h => wsL_law_in w (inlX2 w h)
theorem inlX3 : ∀ w ∈ wsX30, w ∈ wsL_law := fun _ h => List.mem_append_left _ (List.mem_append_left _ (List.mem_append_left _ (List.mem_append_left _ (List.mem_append_left _ (List.mem_append_left _ (List.mem_append_right _ h))))))
theorem inX3 : ∀ w ∈ wsX30, w ∈ lw_tbl := fun w h => wsL_law_in w (inlX3 w h)
theorem inX4 : ∀ w ∈ wsX40, w ∈ lw_tbl := by decide +kernel
theorem inJx145de : ∀ w ∈ wsJx145de0, w ∈ lw_tbl := by decide +kernel
theorem inJ9 : ∀ w ∈ wsJ90, w ∈ lw_tbl := by decide +kernel
theorem inJ0 : ∀ w ∈ wsJ00, w ∈ lw_tbl := by decide +kernel
theorem inJ7 : ∀ w ∈ wsJ70, w ∈ lw_tbl := by decide +kernel
end
section
set_option maxRecDepth 20000 in
theorem ggX0_init_J7_fill_53178 : GoodIn wsX0_init wsJ7_fill_53178 := goodIn_r _ [17] (by decide +kernel) (by decide +kernel)
set_option maxRecDepth 20000 in
theorem gX0_init_J7_fill_53178 : GoodIn wsX0_init (va_wsS RX0 37 yJ7_fill_53178 wsJ7_fill_53178) := goodIn_app (goodIn_of _ (by decide +kernel)) ggX0_init_J7_fill_53178
theorem dX0_init_0 : decode cX0_init 0 = .ok (.aload_n 0, 1) := by decide +kernel
theorem dX0_init_1 : decode cX0_init 1 = .ok (.invokespecial 3, 3) := by decide +kernel
theorem dX0_init_4 : decode cX0_init 4 = .ok (.aload_n 0, 1) := by decide +kernel
theorem dX0_init_5 : decode cX0_init 5 = .ok (.bipush 8, 2) := by decide +kernel
theorem dX0_init_7 : decode cX0_init 7 = .ok (.newarray .int, 2) := by decide +kernel
theorem dX0_init_9 : decode cX0_init 9 = .ok (.putfield 9, 3) := by decide +kernel
theorem dX0_init_12 : decode cX0_init 12 = .ok (.aload_n 0, 1) := by decide +kernel
theorem dX0_init_13 : decode cX0_init 13 = .ok (.bipush 8, 2) := by decide +kernel
theorem dX0_init_15 : decode cX0_init 15 = .ok (.newarray .int, 2) := by decide +kernel
theorem dX0_init_17 : decode cX0_init 17 = .ok (.putfield 15, 3) := by decide +kernel
theorem dX0_init_20 : decode cX0_init 20 = .ok (.aload_n 0, 1) := by decide +kernel
theorem dX0_init_21 : decode cX0_init 21 = .ok (.bipush 8, 2) := by decide +kernel
theorem dX0_init_23 : decode cX0_init 23 = .ok (.newarray .int, 2) := by decide +kernel
theorem dX0_init_25 : decode cX0_init 25 = .ok (.putfield 18, 3) := by decide +kernel
theorem dX0_init_28 : decode cX0_init 28 = .ok (.aload_n 0, 1) := by decide +kernel
theorem dX0_init_29 : decode cX0_init 29 = .ok (.bipush 8, 2) := by decide +kernel
theorem dX0_init_31 : decode cX0_init 31 = .ok (.newarray .int, 2) := by decide +kernel
theorem dX0_init_33 : decode cX0_init 33 = .ok (.putfield 21, 3) := by decide +kernel
theorem dX0_init_36 : decode cX0_init 36 = .ok (.aload_n 0, 1) := by decide +kernel
theorem dX0_init_37 : decode cX0_init 37 = .ok (.bipush 8, 2) := by decide +kernel
theorem dX0_init_39 : decode cX0_init 39 = .ok (.newarray .int, 2) := by decide +kernel
theorem dX0_init_41 : decode cX0_init 41 = .ok (.putfield 24, 3) := by decide +kernel
theorem dX0_init_44 : decode cX0_init 44 = .ok (.aload_n 0, 1) := by decide +kernel
theorem dX0_init_45 : decode cX0_init 45 = .ok (.bipush 8, 2) := by decide +kernel
theorem dX0_init_47 : decode cX0_init 47 = .ok (.newarray .int, 2) := by decide +kernel
theorem dX0_init_49 : decode cX0_init 49 = .ok (.putfield 27, 3) := by decide +kernel
theorem dX0_init_52 : decode cX0_init 52 = .ok (.aload_n 0, 1) := by decide +kernel
theorem dX0_init_53 : decode cX0_init 53 = .ok (.bipush 8, 2) := by decide +kernel
theorem dX0_init_55 : decode cX0_init 55 = .ok (.newarray .int, 2) := by decide +kernel
theorem dX0_init_57 : decode cX0_init 57 = .ok (.putfield 30, 3) := by decide +kernel
theorem dX0_init_60 : decode cX0_init 60 = .ok (.aload_n 0, 1) := by decide +kernel
theorem dX0_init_61 : decode cX0_init 61 = .ok (.bipush 8, 2) := by decide +kernel
theorem dX0_init_63 : decode cX0_init 63 = .ok (.newarray .boolean, 2) := by decide +kernel
theorem dX0_init_65 : decode cX0_init 65 = .ok (.putfield 33, 3) := by decide +kernel
theorem dX0_init_68 : decode cX0_init 68 = .ok (.aload_n 0, 1) := by decide +kernel
theorem dX0_init_69 : decode cX0_init 69 = .ok (.getfield 9, 3) := by decide +kernel
theorem dX0_init_72 : decode cX0_init 72 = .ok (.iconst 5, 1) := by decide +kernel
theorem dX0_init_73 : decode cX0_init 73 = .ok (.invokestatic 37, 3) := by decide +kernel
theorem dX0_init_76 : decode cX0_init 76 = .ok (.aload_n 0, 1) := by decide +kernel
theorem dX0_init_77 : decode cX0_init 77 = .ok (.getfield 18, 3) := by decide +kernel
theorem dX0_init_80 : decode cX0_init 80 = .ok (.bipush 20, 2) := by decide +kernel
theorem dX0_init_82 : decode cX0_init 82 = .ok (.invokestatic 37, 3) := by decide +kernel
theorem dX0_init_85 : decode cX0_init 85 = .ok (.aload_n 0, 1) := by decide +kernel
theorem dX0_init_86 : decode cX0_init 86 = .ok (.getfield 21, 3) := by decide +kernel
theorem dX0_init_89 : decode cX0_init 89 = .ok (.bipush 40, 2) := by decide +kernel
theorem dX0_init_91 : decode cX0_init 91 = .ok (.invokestatic 37, 3) := by decide +kernel
theorem dX0_init_94 : decode cX0_init 94 = .ok (.aload_n 0, 1) := by decide +kernel
theorem dX0_init_95 : decode cX0_init 95 = .ok (.getfield 24, 3) := by decide +kernel
theorem dX0_init_98 : decode cX0_init 98 = .ok (.bipush 80, 2) := by decide +kernel
theorem dX0_init_100 : decode cX0_init 100 = .ok (.invokestatic 37, 3) := by decide +kernel
theorem dX0_init_103 : decode cX0_init 103 = .ok (.aload_n 0, 1) := by decide +kernel
theorem dX0_init_104 : decode cX0_init 104 = .ok (.getfield 27, 3) := by decide +kernel
theorem dX0_init_107 : decode cX0_init 107 = .ok (.iconst 5, 1) := by decide +kernel
theorem dX0_init_108 : decode cX0_init 108 = .ok (.invokestatic 37, 3) := by decide +kernel
theorem dX0_init_111 : decode cX0_init 111 = .ok (.return_, 1) := by decide +kernel
theorem dX0_mostThrough_0 : decode cX0_mostThrough 0 = .ok (.aload_n 0, 1) := by decide +kernel
theorem dX0_mostThrough_1 : decode cX0_mostThrough 1 = .ok (.getfield 15, 3) := by decide +kernel
theorem dX0_mostThrough_4 : decode cX0_mostThrough 4 = .ok (.iload_n 1, 1) := by decide +kernel
theorem dX0_mostThrough_5 : decode cX0_mostThrough 5 = .ok (.iaload, 1) := by decide +kernel
theorem dX0_mostThrough_6 : decode cX0_mostThrough 6 = .ok (.aload_n 0, 1) := by decide +kernel
theorem dX0_mostThrough_7 : decode cX0_mostThrough 7 = .ok (.getfield 9, 3) := by decide +kernel
theorem dX0_mostThrough_10 : decode cX0_mostThrough 10 = .ok (.iload_n 1, 1) := by decide +kernel
theorem dX0_mostThrough_11 : decode cX0_mostThrough 11 = .ok (.iaload, 1) := by decide +kernel
theorem dX0_mostThrough_12 : decode cX0_mostThrough 12 = .ok (.imul, 1) := by decide +kernel
theorem dX0_mostThrough_13 : decode cX0_mostThrough 13 = .ok (.ireturn, 1) := by decide +kernel
theorem dX0_openForSafety_0 : decode cX0_openForSafety 0 = .ok (.aload_n 0, 1) := by decide +kernel
theorem dX0_openForSafety_1 : decode cX0_openForSafety 1 = .ok (.getfield 15, 3) := by decide +kernel
theorem dX0_openForSafety_4 : decode cX0_openForSafety 4 = .ok (.iload_n 1, 1) := by decide +kernel
theorem dX0_openForSafety_5 : decode cX0_openForSafety 5 = .ok (.aload_n 0, 1) := by decide +kernel
theorem dX0_openForSafety_6 : decode cX0_openForSafety 6 = .ok (.getfield 15, 3) := by decide +kernel
theorem dX0_openForSafety_9 : decode cX0_openForSafety 9 = .ok (.iload_n 1, 1) := by decide +kernel
theorem dX0_openForSafety_10 : decode cX0_openForSafety 10 = .ok (.iaload, 1) := by decide +kernel
theorem dX0_openForSafety_11 : decode cX0_openForSafety 11 = .ok (.iconst 2, 1) := by decide +kernel
theorem dX0_openForSafety_12 : decode cX0_openForSafety 12 = .ok (.iadd, 1) := by decide +kernel
theorem dX0_openForSafety_13 : decode cX0_openForSafety 13 = .ok (.bipush 10, 2) := by decide +kernel
theorem dX0_openForSafety_15 : decode cX0_openForSafety 15 = .ok (.invokestatic 43, 3) := by decide +kernel
theorem dX0_openForSafety_18 : decode cX0_openForSafety 18 = .ok (.iastore, 1) := by decide +kernel
theorem dX0_openForSafety_19 : decode cX0_openForSafety 19 = .ok (.aload_n 0, 1) := by decide +kernel
theorem dX0_openForSafety_20 : decode cX0_openForSafety 20 = .ok (.getfield 30, 3) := by decide +kernel
theorem dX0_openForSafety_23 : decode cX0_openForSafety 23 = .ok (.iload_n 1, 1) := by decide +kernel
theorem dX0_openForSafety_24 : decode cX0_openForSafety 24 = .ok (.dup2, 1) := by decide +kernel
theorem dX0_openForSafety_25 : decode cX0_openForSafety 25 = .ok (.iaload, 1) := by decide +kernel
theorem dX0_openForSafety_26 : decode cX0_openForSafety 26 = .ok (.iconst 1, 1) := by decide +kernel
theorem dX0_openForSafety_27 : decode cX0_openForSafety 27 = .ok (.iadd, 1) := by decide +kernel
theorem dX0_openForSafety_28 : decode cX0_openForSafety 28 = .ok (.iastore, 1) := by decide +kernel
theorem dX0_openForSafety_29 : decode cX0_openForSafety 29 = .ok (.return_, 1) := by decide +kernel
theorem dX0_follow_0 : decode cX0_follow 0 = .ok (.iload_n 2, 1) := by decide +kernel
theorem dX0_follow_1 : decode cX0_follow 1 = .ok (.aload_n 0, 1) := by decide +kernel
theorem dX0_follow_2 : decode cX0_follow 2 = .ok (.getfield 21, 3) := by decide +kernel
theorem dX0_follow_5 : decode cX0_follow 5 = .ok (.iload_n 1, 1) := by decide +kernel
theorem dX0_follow_6 : decode cX0_follow 6 = .ok (.iaload, 1) := by decide +kernel
theorem dX0_follow_7 : decode cX0_follow 7 = .ok (.if_icmp .le 29, 3) := by decide +kernel
theorem dX0_follow_10 : decode cX0_follow 10 = .ok (.iload_n 3, 1) := by decide +kernel
theorem dX0_follow_11 : decode cX0_follow 11 = .ok (.ifCond .eq 25, 3) := by decide +kernel
theorem dX0_follow_14 : decode cX0_follow 14 = .ok (.aload_n 0, 1) := by decide +kernel
theorem dX0_follow_15 : decode cX0_follow 15 = .ok (.getfield 15, 3) := by decide +kernel
theorem dX0_follow_18 : decode cX0_follow 18 = .ok (.iload_n 1, 1) := by decide +kernel
theorem dX0_follow_19 : decode cX0_follow 19 = .ok (.aload_n 0, 1) := by decide +kernel
theorem dX0_follow_20 : decode cX0_follow 20 = .ok (.getfield 15, 3) := by decide +kernel
theorem dX0_follow_23 : decode cX0_follow 23 = .ok (.iload_n 1, 1) := by decide +kernel
theorem dX0_follow_24 : decode cX0_follow 24 = .ok (.iaload, 1) := by decide +kernel
theorem dX0_follow_25 : decode cX0_follow 25 = .ok (.iconst 1, 1) := by decide +kernel
theorem dX0_follow_26 : decode cX0_follow 26 = .ok (.iadd, 1) := by decide +kernel
theorem dX0_follow_27 : decode cX0_follow 27 = .ok (.bipush 10, 2) := by decide +kernel
theorem dX0_follow_29 : decode cX0_follow 29 = .ok (.invokestatic 43, 3) := by decide +kernel
theorem dX0_follow_32 : decode cX0_follow 32 = .ok (.iastore, 1) := by decide +kernel
theorem dX0_follow_33 : decode cX0_follow 33 = .ok (.goto 31, 3) := by decide +kernel
theorem dX0_follow_36 : decode cX0_follow 36 = .ok (.iload_n 2, 1) := by decide +kernel
theorem dX0_follow_37 : decode cX0_follow 37 = .ok (.aload_n 0, 1) := by decide +kernel
theorem dX0_follow_38 : decode cX0_follow 38 = .ok (.getfield 18, 3) := by decide +kernel
theorem dX0_follow_41 : decode cX0_follow 41 = .ok (.iload_n 1, 1) := by decide +kernel
theorem dX0_follow_42 : decode cX0_follow 42 = .ok (.iaload, 1) := by decide +kernel
theorem dX0_follow_43 : decode cX0_follow 43 = .ok (.if_icmp .ge 21, 3) := by decide +kernel
theorem dX0_follow_46 : decode cX0_follow 46 = .ok (.aload_n 0, 1) := by decide +kernel
theorem dX0_follow_47 : decode cX0_follow 47 = .ok (.getfield 15, 3) := by decide +kernel
theorem dX0_follow_50 : decode cX0_follow 50 = .ok (.iload_n 1, 1) := by decide +kernel
theorem dX0_follow_51 : decode cX0_follow 51 = .ok (.aload_n 0, 1) := by decide +kernel
theorem dX0_follow_52 : decode cX0_follow 52 = .ok (.getfield 15, 3) := by decide +kernel
theorem dX0_follow_55 : decode cX0_follow 55 = .ok (.iload_n 1, 1) := by decide +kernel
theorem dX0_follow_56 : decode cX0_follow 56 = .ok (.iaload, 1) := by decide +kernel
theorem dX0_follow_57 : decode cX0_follow 57 = .ok (.iconst 1, 1) := by decide +kernel
theorem dX0_follow_58 : decode cX0_follow 58 = .ok (.isub, 1) := by decide +kernel
theorem dX0_follow_59 : decode cX0_follow 59 = .ok (.iconst 0, 1) := by decide +kernel
theorem dX0_follow_60 : decode cX0_follow 60 = .ok (.invokestatic 49, 3) := by decide +kernel
theorem dX0_follow_63 : decode cX0_follow 63 = .ok (.iastore, 1) := by decide +kernel
theorem dX0_follow_64 : decode cX0_follow 64 = .ok (.return_, 1) := by decide +kernel
theorem dX1_init_0 : decode cX1_init 0 = .ok (.aload_n 0, 1) := by decide +kernel
theorem dX1_init_1 : decode cX1_init 1 = .ok (.invokespecial 3, 3) := by decide +kernel
theorem dX1_init_4 : decode cX1_init 4 = .ok (.aload_n 0, 1) := by decide +kernel
theorem dX1_init_5 : decode cX1_init 5 = .ok (.bipush 8, 2) := by decide +kernel
theorem dX1_init_7 : decode cX1_init 7 = .ok (.newarray .boolean, 2) := by decide +kernel
theorem dX1_init_9 : decode cX1_init 9 = .ok (.putfield 9, 3) := by decide +kernel
theorem dX1_init_12 : decode cX1_init 12 = .ok (.aload_n 0, 1) := by decide +kernel
theorem dX1_init_13 : decode cX1_init 13 = .ok (.bipush 8, 2) := by decide +kernel
theorem dX1_init_15 : decode cX1_init 15 = .ok (.newarray .boolean, 2) := by decide +kernel
theorem dX1_init_17 : decode cX1_init 17 = .ok (.putfield 15, 3) := by decide +kernel
theorem dX1_init_20 : decode cX1_init 20 = .ok (.aload_n 0, 1) := by decide +kernel
theorem dX1_init_21 : decode cX1_init 21 = .ok (.bipush 8, 2) := by decide +kernel
theorem dX1_init_23 : decode cX1_init 23 = .ok (.newarray .int, 2) := by decide +kernel
theorem dX1_init_25 : decode cX1_init 25 = .ok (.putfield 18, 3) := by decide +kernel
theorem dX1_init_28 : decode cX1_init 28 = .ok (.aload_n 0, 1) := by decide +kernel
theorem dX1_init_29 : decode cX1_init 29 = .ok (.bipush 8, 2) := by decide +kernel
theorem dX1_init_31 : decode cX1_init 31 = .ok (.bipush 8, 2) := by decide +kernel
theorem dX1_init_33 : decode cX1_init 33 = .ok (.multianewarray 22 2, 4) := by decide +kernel
theorem dX1_init_37 : decode cX1_init 37 = .ok (.putfield 24, 3) := by decide +kernel
theorem dX1_init_40 : decode cX1_init 40 = .ok (.aload_n 0, 1) := by decide +kernel
theorem dX1_init_41 : decode cX1_init 41 = .ok (.bipush 8, 2) := by decide +kernel
theorem dX1_init_43 : decode cX1_init 43 = .ok (.bipush 8, 2) := by decide +kernel
theorem dX1_init_45 : decode cX1_init 45 = .ok (.multianewarray 22 2, 4) := by decide +kernel
theorem dX1_init_49 : decode cX1_init 49 = .ok (.putfield 27, 3) := by decide +kernel
theorem dX1_init_52 : decode cX1_init 52 = .ok (.aload_n 0, 1) := by decide +kernel
theorem dX1_init_53 : decode cX1_init 53 = .ok (.bipush 8, 2) := by decide +kernel
theorem dX1_init_55 : decode cX1_init 55 = .ok (.bipush 8, 2) := by decide +kernel
theorem dX1_init_57 : decode cX1_init 57 = .ok (.multianewarray 22 2, 4) := by decide +kernel
theorem dX1_init_61 : decode cX1_init 61 = .ok (.putfield 30, 3) := by decide +kernel
theorem dX1_init_64 : decode cX1_init 64 = .ok (.aload_n 0, 1) := by decide +kernel
theorem dX1_init_65 : decode cX1_init 65 = .ok (.bipush 8, 2) := by decide +kernel
theorem dX1_init_67 : decode cX1_init 67 = .ok (.bipush 8, 2) := by decide +kernel
theorem dX1_init_69 : decode cX1_init 69 = .ok (.multianewarray 22 2, 4) := by decide +kernel
theorem dX1_init_73 : decode cX1_init 73 = .ok (.putfield 33, 3) := by decide +kernel
theorem dX1_init_76 : decode cX1_init 76 = .ok (.aload_n 0, 1) := by decide +kernel
theorem dX1_init_77 : decode cX1_init 77 = .ok (.bipush 8, 2) := by decide +kernel
theorem dX1_init_79 : decode cX1_init 79 = .ok (.bipush 8, 2) := by decide +kernel
theorem dX1_init_81 : decode cX1_init 81 = .ok (.multianewarray 22 2, 4) := by decide +kernel
theorem dX1_init_85 : decode cX1_init 85 = .ok (.putfield 36, 3) := by decide +kernel
theorem dX1_init_88 : decode cX1_init 88 = .ok (.aload_n 0, 1) := by decide +kernel
theorem dX1_init_89 : decode cX1_init 89 = .ok (.bipush 8, 2) := by decide +kernel
theorem dX1_init_91 : decode cX1_init 91 = .ok (.bipush 8, 2) := by decide +kernel
theorem dX1_init_93 : decode cX1_init 93 = .ok (.multianewarray 22 2, 4) := by decide +kernel
theorem dX1_init_97 : decode cX1_init 97 = .ok (.putfield 39, 3) := by decide +kernel
theorem dX1_init_100 : decode cX1_init 100 = .ok (.aload_n 0, 1) := by decide +kernel
theorem dX1_init_101 : decode cX1_init 101 = .ok (.iconst 3, 1) := by decide +kernel
theorem dX1_init_102 : decode cX1_init 102 = .ok (.putfield 42, 3) := by decide +kernel
theorem dX1_init_105 : decode cX1_init 105 = .ok (.aload_n 0, 1) := by decide +kernel
theorem dX1_init_106 : decode cX1_init 106 = .ok (.bipush 6, 2) := by decide +kernel
theorem dX1_init_108 : decode cX1_init 108 = .ok (.putfield 46, 3) := by decide +kernel
theorem dX1_init_111 : decode cX1_init 111 = .ok (.aload_n 0, 1) := by decide +kernel
theorem dX1_init_112 : decode cX1_init 112 = .ok (.iconst 0, 1) := by decide +kernel
theorem dX1_init_113 : decode cX1_init 113 = .ok (.putfield 49, 3) := by decide +kernel
theorem dX1_init_116 : decode cX1_init 116 = .ok (.return_, 1) := by decide +kernel
theorem dX1_hasNews_0 : decode cX1_hasNews 0 = .ok (.aload_n 0, 1) := by decide +kernel
theorem dX1_hasNews_1 : decode cX1_hasNews 1 = .ok (.getfield 24, 3) := by decide +kernel
theorem dX1_hasNews_4 : decode cX1_hasNews 4 = .ok (.iload_n 1, 1) := by decide +kernel
theorem dX1_hasNews_5 : decode cX1_hasNews 5 = .ok (.aaload, 1) := by decide +kernel
theorem dX1_hasNews_6 : decode cX1_hasNews 6 = .ok (.iload_n 2, 1) := by decide +kernel
theorem dX1_hasNews_7 : decode cX1_hasNews 7 = .ok (.iaload, 1) := by decide +kernel
theorem dX1_hasNews_8 : decode cX1_hasNews 8 = .ok (.ifCond .le 7, 3) := by decide +kernel
theorem dX1_hasNews_11 : decode cX1_hasNews 11 = .ok (.iconst 1, 1) := by decide +kernel
theorem dX1_hasNews_12 : decode cX1_hasNews 12 = .ok (.goto 4, 3) := by decide +kernel
theorem dX1_hasNews_15 : decode cX1_hasNews 15 = .ok (.iconst 0, 1) := by decide +kernel
theorem dX1_hasNews_16 : decode cX1_hasNews 16 = .ok (.ireturn, 1) := by decide +kernel
set_option maxRecDepth 20000 in
theorem ggX1_isOld_X1_hasNews : GoodIn wsX1_isOld wsX1_hasNews := goodIn_r _ [6, 7, 8, 9, 10, 11, 12, 13, 14, 15, 16, 17, 18, 19] (by decide +kernel) (by decide +kernel)
set_option maxRecDepth 20000 in
theorem gX1_isOld_X1_hasNews : GoodIn wsX1_isOld (wsV RX1 52 RX1 yX1_hasNews wsX1_hasNews) := goodIn_app (goodIn_of _ (by decide +kernel)) ggX1_isOld_X1_hasNews
theorem dX1_isOld_0 : decode cX1_isOld 0 = .ok (.aload_n 0, 1) := by decide +kernel
theorem dX1_isOld_1 : decode cX1_isOld 1 = .ok (.iload_n 1, 1) := by decide +kernel
theorem dX1_isOld_2 : decode cX1_isOld 2 = .ok (.iload_n 2, 1) := by decide +kernel
theorem dX1_isOld_3 : decode cX1_isOld 3 = .ok (.invokevirtual 52, 3) := by decide +kernel
theorem dX1_isOld_6 : decode cX1_isOld 6 = .ok (.ifCond .eq 18, 3) := by decide +kernel
theorem dX1_isOld_9 : decode cX1_isOld 9 = .ok (.iload_n 3, 1) := by decide +kernel
theorem dX1_isOld_10 : decode cX1_isOld 10 = .ok (.aload_n 0, 1) := by decide +kernel
theorem dX1_isOld_11 : decode cX1_isOld 11 = .ok (.getfield 30, 3) := by decide +kernel
theorem dX1_isOld_14 : decode cX1_isOld 14 = .ok (.iload_n 1, 1) := by decide +kernel
theorem dX1_isOld_15 : decode cX1_isOld 15 = .ok (.aaload, 1) := by decide +kernel
theorem dX1_isOld_16 : decode cX1_isOld 16 = .ok (.iload_n 2, 1) := by decide +kernel
theorem dX1_isOld_17 : decode cX1_isOld 17 = .ok (.iaload, 1) := by decide +kernel
theorem dX1_isOld_18 : decode cX1_isOld 18 = .ok (.isub, 1) := by decide +kernel
theorem dX1_isOld_19 : decode cX1_isOld 19 = .ok (.iload 4, 2) := by decide +kernel
theorem dX1_isOld_21 : decode cX1_isOld 21 = .ok (.if_icmp .le 7, 3) := by decide +kernel
theorem dX1_isOld_24 : decode cX1_isOld 24 = .ok (.iconst 1, 1) := by decide +kernel
theorem dX1_isOld_25 : decode cX1_isOld 25 = .ok (.goto 4, 3) := by decide +kernel
theorem dX1_isOld_28 : decode cX1_isOld 28 = .ok (.iconst 0, 1) := by decide +kernel
theorem dX1_isOld_29 : decode cX1_isOld 29 = .ok (.ireturn, 1) := by decide +kernel
set_option maxRecDepth 20000 in
theorem ggX1_measureAll_X2_levelOf : GoodIn wsX1_measureAll wsX2_levelOf := goodIn_r _ [6, 7, 8, 32, 33, 34, 35, 36, 37, 38, 39] (by decide +kernel) (by decide +kernel)
set_option maxRecDepth 20000 in
theorem gX1_measureAll_X2_levelOf : GoodIn wsX1_measureAll (wsV RX1 56 RX2 yX2_levelOf wsX2_levelOf) := goodIn_app (goodIn_of _ (by decide +kernel)) ggX1_measureAll_X2_levelOf
set_option maxRecDepth 20000 in
theorem ggX1_measureAll_X1_measure : GoodIn wsX1_measureAll wsX1_measure := goodIn_r _ [13, 14, 15, 16, 17, 18, 19, 20, 21, 22, 23, 24, 25, 26, 27, 28, 29, 30, 31] (by decide +kernel) (by decide +kernel)
set_option maxRecDepth 20000 in
theorem gX1_measureAll_X1_measure : GoodIn wsX1_measureAll (wsV RX1 62 RX1 yX1_measure wsX1_measure) := goodIn_app (goodIn_of _ (by decide +kernel)) ggX1_measureAll_X1_measure
theorem dX1_measureAll_0 : decode cX1_measureAll 0 = .ok (.iconst 0, 1) := by decide +kernel
theorem dX1_measureAll_1 : decode cX1_measureAll 1 = .ok (.istore_n 3, 1) := by decide +kernel
theorem dX1_measureAll_2 : decode cX1_measureAll 2 = .ok (.iload_n 3, 1) := by decide +kernel
theorem dX1_measureAll_3 : decode cX1_measureAll 3 = .ok (.bipush 8, 2) := by decide +kernel
theorem dX1_measureAll_5 : decode cX1_measureAll 5 = .ok (.if_icmp .ge 29, 3) := by decide +kernel
theorem dX1_measureAll_8 : decode cX1_measureAll 8 = .ok (.aload_n 0, 1) := by decide +kernel
theorem dX1_measureAll_9 : decode cX1_measureAll 9 = .ok (.getfield 9, 3) := by decide +kernel
theorem dX1_measureAll_12 : decode cX1_measureAll 12 = .ok (.iload_n 3, 1) := by decide +kernel
theorem dX1_measureAll_13 : decode cX1_measureAll 13 = .ok (.baload, 1) := by decide +kernel
theorem dX1_measureAll_14 : decode cX1_measureAll 14 = .ok (.ifCond .ne 14, 3) := by decide +kernel
theorem dX1_measureAll_17 : decode cX1_measureAll 17 = .ok (.aload_n 0, 1) := by decide +kernel
theorem dX1_measureAll_18 : decode cX1_measureAll 18 = .ok (.iload_n 3, 1) := by decide +kernel
theorem dX1_measureAll_19 : decode cX1_measureAll 19 = .ok (.aload_n 1, 1) := by decide +kernel
theorem dX1_measureAll_20 : decode cX1_measureAll 20 = .ok (.iload_n 3, 1) := by decide +kernel
theorem dX1_measureAll_21 : decode cX1_measureAll 21 = .ok (.invokevirtual 56, 3) := by decide +kernel
theorem dX1_measureAll_24 : decode cX1_measureAll 24 = .ok (.iload_n 2, 1) := by decide +kernel
theorem dX1_measureAll_25 : decode cX1_measureAll 25 = .ok (.invokevirtual 62, 3) := by decide +kernel
theorem dX1_measureAll_28 : decode cX1_measureAll 28 = .ok (.iinc 3 1, 3) := by decide +kernel
theorem dX1_measureAll_31 : decode cX1_measureAll 31 = .ok (.goto (-29), 3) := by decide +kernel
theorem dX1_measureAll_34 : decode cX1_measureAll 34 = .ok (.return_, 1) := by decide +kernel
theorem dX1_measure_0 : decode cX1_measure 0 = .ok (.aload_n 0, 1) := by decide +kernel
theorem dX1_measure_1 : decode cX1_measure 1 = .ok (.getfield 15, 3) := by decide +kernel
theorem dX1_measure_4 : decode cX1_measure 4 = .ok (.iload_n 1, 1) := by decide +kernel
theorem dX1_measure_5 : decode cX1_measure 5 = .ok (.baload, 1) := by decide +kernel
theorem dX1_measure_6 : decode cX1_measure 6 = .ok (.ifCond .ne 12, 3) := by decide +kernel
theorem dX1_measure_9 : decode cX1_measure 9 = .ok (.aload_n 0, 1) := by decide +kernel
theorem dX1_measure_10 : decode cX1_measure 10 = .ok (.getfield 27, 3) := by decide +kernel
theorem dX1_measure_13 : decode cX1_measure 13 = .ok (.iload_n 1, 1) := by decide +kernel
theorem dX1_measure_14 : decode cX1_measure 14 = .ok (.aaload, 1) := by decide +kernel
theorem dX1_measure_15 : decode cX1_measure 15 = .ok (.iload_n 1, 1) := by decide +kernel
theorem dX1_measure_16 : decode cX1_measure 16 = .ok (.iload_n 2, 1) := by decide +kernel
theorem dX1_measure_17 : decode cX1_measure 17 = .ok (.iastore, 1) := by decide +kernel
theorem dX1_measure_18 : decode cX1_measure 18 = .ok (.aload_n 0, 1) := by decide +kernel
theorem dX1_measure_19 : decode cX1_measure 19 = .ok (.getfield 30, 3) := by decide +kernel
theorem dX1_measure_22 : decode cX1_measure 22 = .ok (.iload_n 1, 1) := by decide +kernel
theorem dX1_measure_23 : decode cX1_measure 23 = .ok (.aaload, 1) := by decide +kernel
theorem dX1_measure_24 : decode cX1_measure 24 = .ok (.iload_n 1, 1) := by decide +kernel
theorem dX1_measure_25 : decode cX1_measure 25 = .ok (.iload_n 3, 1) := by decide +kernel
theorem dX1_measure_26 : decode cX1_measure 26 = .ok (.iastore, 1) := by decide +kernel
theorem dX1_measure_27 : decode cX1_measure 27 = .ok (.aload_n 0, 1) := by decide +kernel
theorem dX1_measure_28 : decode cX1_measure 28 = .ok (.getfield 24, 3) := by decide +kernel
theorem dX1_measure_31 : decode cX1_measure 31 = .ok (.iload_n 1, 1) := by decide +kernel
theorem dX1_measure_32 : decode cX1_measure 32 = .ok (.aaload, 1) := by decide +kernel
theorem dX1_measure_33 : decode cX1_measure 33 = .ok (.iload_n 1, 1) := by decide +kernel
theorem dX1_measure_34 : decode cX1_measure 34 = .ok (.dup2, 1) := by decide +kernel
theorem dX1_measure_35 : decode cX1_measure 35 = .ok (.iaload, 1) := by decide +kernel
theorem dX1_measure_36 : decode cX1_measure 36 = .ok (.iconst 1, 1) := by decide +kernel
theorem dX1_measure_37 : decode cX1_measure 37 = .ok (.iadd, 1) := by decide +kernel
theorem dX1_measure_38 : decode cX1_measure 38 = .ok (.iastore, 1) := by decide +kernel
theorem dX1_measure_39 : decode cX1_measure 39 = .ok (.aload_n 0, 1) := by decide +kernel
theorem dX1_measure_40 : decode cX1_measure 40 = .ok (.getfield 33, 3) := by decide +kernel
theorem dX1_measure_43 : decode cX1_measure 43 = .ok (.iload_n 1, 1) := by decide +kernel
theorem dX1_measure_44 : decode cX1_measure 44 = .ok (.aaload, 1) := by decide +kernel
theorem dX1_measure_45 : decode cX1_measure 45 = .ok (.iload_n 1, 1) := by decide +kernel
theorem dX1_measure_46 : decode cX1_measure 46 = .ok (.dup2, 1) := by decide +kernel
theorem dX1_measure_47 : decode cX1_measure 47 = .ok (.iaload, 1) := by decide +kernel
theorem dX1_measure_48 : decode cX1_measure 48 = .ok (.iconst 1, 1) := by decide +kernel
theorem dX1_measure_49 : decode cX1_measure 49 = .ok (.iadd, 1) := by decide +kernel
theorem dX1_measure_50 : decode cX1_measure 50 = .ok (.iastore, 1) := by decide +kernel
theorem dX1_measure_51 : decode cX1_measure 51 = .ok (.aload_n 0, 1) := by decide +kernel
theorem dX1_measure_52 : decode cX1_measure 52 = .ok (.getfield 36, 3) := by decide +kernel
theorem dX1_measure_55 : decode cX1_measure 55 = .ok (.iload_n 1, 1) := by decide +kernel
theorem dX1_measure_56 : decode cX1_measure 56 = .ok (.aaload, 1) := by decide +kernel
theorem dX1_measure_57 : decode cX1_measure 57 = .ok (.iload_n 1, 1) := by decide +kernel
theorem dX1_measure_58 : decode cX1_measure 58 = .ok (.iload_n 3, 1) := by decide +kernel
theorem dX1_measure_59 : decode cX1_measure 59 = .ok (.iastore, 1) := by decide +kernel
theorem dX1_measure_60 : decode cX1_measure 60 = .ok (.return_, 1) := by decide +kernel
set_option maxRecDepth 20000 in
theorem ggX1_callAll_X1_call : GoodIn wsX1_callAll wsX1_call := goodIn_r _ [6, 1, 7, 8, 9, 10, 11, 5, 12, 13, 14, 15, 16, 17, 18, 19, 20, 21, 22, 23, 24, 25, 26, 27, 28, 29, 30, 31, 32, 33, 34, 35, 36, 37, 38, 39, 40, 41, 42, 43, 44, 45, 46] (by decide +kernel) (by decide +kernel)
set_option maxRecDepth 20000 in
theorem gX1_callAll_X1_call : GoodIn wsX1_callAll (wsV RX1 66 RX1 yX1_call wsX1_call) := goodIn_app (goodIn_of _ (by decide +kernel)) ggX1_callAll_X1_call
theorem dX1_callAll_0 : decode cX1_callAll 0 = .ok (.iconst 0, 1) := by decide +kernel
theorem dX1_callAll_1 : decode cX1_callAll 1 = .ok (.istore_n 2, 1) := by decide +kernel
theorem dX1_callAll_2 : decode cX1_callAll 2 = .ok (.iload_n 2, 1) := by decide +kernel
theorem dX1_callAll_3 : decode cX1_callAll 3 = .ok (.bipush 8, 2) := by decide +kernel
theorem dX1_callAll_5 : decode cX1_callAll 5 = .ok (.if_icmp .ge 24, 3) := by decide +kernel
theorem dX1_callAll_8 : decode cX1_callAll 8 = .ok (.aload_n 0, 1) := by decide +kernel
theorem dX1_callAll_9 : decode cX1_callAll 9 = .ok (.getfield 9, 3) := by decide +kernel
theorem dX1_callAll_12 : decode cX1_callAll 12 = .ok (.iload_n 2, 1) := by decide +kernel
theorem dX1_callAll_13 : decode cX1_callAll 13 = .ok (.baload, 1) := by decide +kernel
theorem dX1_callAll_14 : decode cX1_callAll 14 = .ok (.ifCond .ne 9, 3) := by decide +kernel
theorem dX1_callAll_17 : decode cX1_callAll 17 = .ok (.aload_n 0, 1) := by decide +kernel
theorem dX1_callAll_18 : decode cX1_callAll 18 = .ok (.iload_n 2, 1) := by decide +kernel
theorem dX1_callAll_19 : decode cX1_callAll 19 = .ok (.iload_n 1, 1) := by decide +kernel
theorem dX1_callAll_20 : decode cX1_callAll 20 = .ok (.invokevirtual 66, 3) := by decide +kernel
theorem dX1_callAll_23 : decode cX1_callAll 23 = .ok (.iinc 2 1, 3) := by decide +kernel
theorem dX1_callAll_26 : decode cX1_callAll 26 = .ok (.goto (-24), 3) := by decide +kernel
theorem dX1_callAll_29 : decode cX1_callAll 29 = .ok (.return_, 1) := by decide +kernel
set_option maxRecDepth 20000 in
theorem ggX1_call_X1_calledBy : GoodIn wsX1_call wsX1_calledBy := goodIn_r _ [8, 9, 10, 11, 7, 12, 13, 31, 32, 33, 34, 35, 36, 37, 38, 39, 40, 41, 42] (by decide +kernel) (by decide +kernel)
set_option maxRecDepth 20000 in
theorem gX1_call_X1_calledBy : GoodIn wsX1_call (wsV RX1 70 RX1 yX1_calledBy wsX1_calledBy) := goodIn_app (goodIn_of _ (by decide +kernel)) ggX1_call_X1_calledBy
set_option maxRecDepth 20000 in
theorem ggX1_call_X1_tellOneAnother : GoodIn wsX1_call wsX1_tellOneAnother := goodIn_r _ [17, 18, 19, 20, 7, 21, 22, 23, 24, 25, 26, 27, 28, 29, 30, 13, 31, 32, 33, 34, 35, 36, 37, 38, 39, 40, 41, 42] (by decide +kernel) (by decide +kernel)
set_option maxRecDepth 20000 in
theorem gX1_call_X1_tellOneAnother : GoodIn wsX1_call (wsV RX1 74 RX1 yX1_tellOneAnother wsX1_tellOneAnother) := goodIn_app (goodIn_of _ (by decide +kernel)) ggX1_call_X1_tellOneAnother
theorem dX1_call_0 : decode cX1_call 0 = .ok (.aload_n 0, 1) := by decide +kernel
theorem dX1_call_1 : decode cX1_call 1 = .ok (.iload_n 1, 1) := by decide +kernel
theorem dX1_call_2 : decode cX1_call 2 = .ok (.iload_n 2, 1) := by decide +kernel
theorem dX1_call_3 : decode cX1_call 3 = .ok (.invokevirtual 70, 3) := by decide +kernel
theorem dX1_call_6 : decode cX1_call 6 = .ok (.istore_n 3, 1) := by decide +kernel
theorem dX1_call_7 : decode cX1_call 7 = .ok (.iload_n 3, 1) := by decide +kernel
theorem dX1_call_8 : decode cX1_call 8 = .ok (.ifCond .ge 4, 3) := by decide +kernel
theorem dX1_call_11 : decode cX1_call 11 = .ok (.return_, 1) := by decide +kernel
theorem dX1_call_12 : decode cX1_call 12 = .ok (.aload_n 0, 1) := by decide +kernel
theorem dX1_call_13 : decode cX1_call 13 = .ok (.getfield 9, 3) := by decide +kernel
theorem dX1_call_16 : decode cX1_call 16 = .ok (.iload_n 3, 1) := by decide +kernel
theorem dX1_call_17 : decode cX1_call 17 = .ok (.baload, 1) := by decide +kernel
theorem dX1_call_18 : decode cX1_call 18 = .ok (.ifCond .ne 18, 3) := by decide +kernel
theorem dX1_call_21 : decode cX1_call 21 = .ok (.aload_n 0, 1) := by decide +kernel
theorem dX1_call_22 : decode cX1_call 22 = .ok (.getfield 18, 3) := by decide +kernel
theorem dX1_call_25 : decode cX1_call 25 = .ok (.iload_n 3, 1) := by decide +kernel
theorem dX1_call_26 : decode cX1_call 26 = .ok (.iaload, 1) := by decide +kernel
theorem dX1_call_27 : decode cX1_call 27 = .ok (.aload_n 0, 1) := by decide +kernel
theorem dX1_call_28 : decode cX1_call 28 = .ok (.getfield 18, 3) := by decide +kernel
theorem dX1_call_31 : decode cX1_call 31 = .ok (.iload_n 1, 1) := by decide +kernel
theorem dX1_call_32 : decode cX1_call 32 = .ok (.iaload, 1) := by decide +kernel
theorem dX1_call_33 : decode cX1_call 33 = .ok (.if_icmp .eq 16, 3) := by decide +kernel
theorem dX1_call_36 : decode cX1_call 36 = .ok (.aload_n 0, 1) := by decide +kernel
theorem dX1_call_37 : decode cX1_call 37 = .ok (.dup, 1) := by decide +kernel
theorem dX1_call_38 : decode cX1_call 38 = .ok (.getfield 49, 3) := by decide +kernel
theorem dX1_call_41 : decode cX1_call 41 = .ok (.iconst 1, 1) := by decide +kernel
theorem dX1_call_42 : decode cX1_call 42 = .ok (.iadd, 1) := by decide +kernel
theorem dX1_call_43 : decode cX1_call 43 = .ok (.putfield 49, 3) := by decide +kernel
theorem dX1_call_46 : decode cX1_call 46 = .ok (.goto 10, 3) := by decide +kernel
theorem dX1_call_49 : decode cX1_call 49 = .ok (.aload_n 0, 1) := by decide +kernel
theorem dX1_call_50 : decode cX1_call 50 = .ok (.iload_n 1, 1) := by decide +kernel
theorem dX1_call_51 : decode cX1_call 51 = .ok (.iload_n 3, 1) := by decide +kernel
theorem dX1_call_52 : decode cX1_call 52 = .ok (.iload_n 2, 1) := by decide +kernel
theorem dX1_call_53 : decode cX1_call 53 = .ok (.invokevirtual 74, 3) := by decide +kernel
theorem dX1_call_56 : decode cX1_call 56 = .ok (.return_, 1) := by decide +kernel
set_option maxRecDepth 20000 in
theorem ggX1_calledBy_X1_isCallable : GoodIn wsX1_calledBy wsX1_isCallable := goodIn_r _ [5, 6, 7, 8, 9, 10, 11, 12, 13, 14, 15, 16, 17, 18] (by decide +kernel) (by decide +kernel)
set_option maxRecDepth 20000 in
theorem gX1_calledBy_X1_isCallable : GoodIn wsX1_calledBy (wsV RX1 77 RX1 yX1_isCallable wsX1_isCallable) := goodIn_app (goodIn_of _ (by decide +kernel)) ggX1_calledBy_X1_isCallable
theorem dX1_calledBy_0 : decode cX1_calledBy 0 = .ok (.iload_n 2, 1) := by decide +kernel
theorem dX1_calledBy_1 : decode cX1_calledBy 1 = .ok (.iconst 4, 1) := by decide +kernel
theorem dX1_calledBy_2 : decode cX1_calledBy 2 = .ok (.irem, 1) := by decide +kernel
theorem dX1_calledBy_3 : decode cX1_calledBy 3 = .ok (.ifCond .ne 7, 3) := by decide +kernel
theorem dX1_calledBy_6 : decode cX1_calledBy 6 = .ok (.iconst 1, 1) := by decide +kernel
theorem dX1_calledBy_7 : decode cX1_calledBy 7 = .ok (.goto 4, 3) := by decide +kernel
theorem dX1_calledBy_10 : decode cX1_calledBy 10 = .ok (.iconst 0, 1) := by decide +kernel
theorem dX1_calledBy_11 : decode cX1_calledBy 11 = .ok (.istore_n 3, 1) := by decide +kernel
theorem dX1_calledBy_12 : decode cX1_calledBy 12 = .ok (.iconst 0, 1) := by decide +kernel
theorem dX1_calledBy_13 : decode cX1_calledBy 13 = .ok (.istore 4, 2) := by decide +kernel
theorem dX1_calledBy_15 : decode cX1_calledBy 15 = .ok (.iconst 0, 1) := by decide +kernel
theorem dX1_calledBy_16 : decode cX1_calledBy 16 = .ok (.istore 5, 2) := by decide +kernel
theorem dX1_calledBy_18 : decode cX1_calledBy 18 = .ok (.iload 5, 2) := by decide +kernel
theorem dX1_calledBy_20 : decode cX1_calledBy 20 = .ok (.bipush 8, 2) := by decide +kernel
theorem dX1_calledBy_22 : decode cX1_calledBy 22 = .ok (.if_icmp .ge 23, 3) := by decide +kernel
theorem dX1_calledBy_25 : decode cX1_calledBy 25 = .ok (.aload_n 0, 1) := by decide +kernel
theorem dX1_calledBy_26 : decode cX1_calledBy 26 = .ok (.iload_n 1, 1) := by decide +kernel
theorem dX1_calledBy_27 : decode cX1_calledBy 27 = .ok (.iload 5, 2) := by decide +kernel
theorem dX1_calledBy_29 : decode cX1_calledBy 29 = .ok (.iload_n 3, 1) := by decide +kernel
theorem dX1_calledBy_30 : decode cX1_calledBy 30 = .ok (.invokevirtual 77, 3) := by decide +kernel
theorem dX1_calledBy_33 : decode cX1_calledBy 33 = .ok (.ifCond .eq 6, 3) := by decide +kernel
theorem dX1_calledBy_36 : decode cX1_calledBy 36 = .ok (.iinc 4 1, 3) := by decide +kernel
theorem dX1_calledBy_39 : decode cX1_calledBy 39 = .ok (.iinc 5 1, 3) := by decide +kernel
theorem dX1_calledBy_42 : decode cX1_calledBy 42 = .ok (.goto (-24), 3) := by decide +kernel
theorem dX1_calledBy_45 : decode cX1_calledBy 45 = .ok (.iload 4, 2) := by decide +kernel
theorem dX1_calledBy_47 : decode cX1_calledBy 47 = .ok (.iconst 1, 1) := by decide +kernel
theorem dX1_calledBy_48 : decode cX1_calledBy 48 = .ok (.if_icmp .ge 5, 3) := by decide +kernel
theorem dX1_calledBy_51 : decode cX1_calledBy 51 = .ok (.iconst (-1), 1) := by decide +kernel
theorem dX1_calledBy_52 : decode cX1_calledBy 52 = .ok (.ireturn, 1) := by decide +kernel
theorem dX1_calledBy_53 : decode cX1_calledBy 53 = .ok (.iconst 5, 1) := by decide +kernel
theorem dX1_calledBy_54 : decode cX1_calledBy 54 = .ok (.iload_n 2, 1) := by decide +kernel
theorem dX1_calledBy_55 : decode cX1_calledBy 55 = .ok (.imul, 1) := by decide +kernel
theorem dX1_calledBy_56 : decode cX1_calledBy 56 = .ok (.iconst 3, 1) := by decide +kernel
theorem dX1_calledBy_57 : decode cX1_calledBy 57 = .ok (.iload_n 1, 1) := by decide +kernel
theorem dX1_calledBy_58 : decode cX1_calledBy 58 = .ok (.imul, 1) := by decide +kernel
theorem dX1_calledBy_59 : decode cX1_calledBy 59 = .ok (.iadd, 1) := by decide +kernel
theorem dX1_calledBy_60 : decode cX1_calledBy 60 = .ok (.iload 4, 2) := by decide +kernel
theorem dX1_calledBy_62 : decode cX1_calledBy 62 = .ok (.irem, 1) := by decide +kernel
theorem dX1_calledBy_63 : decode cX1_calledBy 63 = .ok (.istore 5, 2) := by decide +kernel
theorem dX1_calledBy_65 : decode cX1_calledBy 65 = .ok (.iconst 0, 1) := by decide +kernel
theorem dX1_calledBy_66 : decode cX1_calledBy 66 = .ok (.istore 6, 2) := by decide +kernel
theorem dX1_calledBy_68 : decode cX1_calledBy 68 = .ok (.iload 6, 2) := by decide +kernel
theorem dX1_calledBy_70 : decode cX1_calledBy 70 = .ok (.bipush 8, 2) := by decide +kernel
theorem dX1_calledBy_72 : decode cX1_calledBy 72 = .ok (.if_icmp .ge 31, 3) := by decide +kernel
theorem dX1_calledBy_75 : decode cX1_calledBy 75 = .ok (.aload_n 0, 1) := by decide +kernel
theorem dX1_calledBy_76 : decode cX1_calledBy 76 = .ok (.iload_n 1, 1) := by decide +kernel
theorem dX1_calledBy_77 : decode cX1_calledBy 77 = .ok (.iload 6, 2) := by decide +kernel
theorem dX1_calledBy_79 : decode cX1_calledBy 79 = .ok (.iload_n 3, 1) := by decide +kernel
theorem dX1_calledBy_80 : decode cX1_calledBy 80 = .ok (.invokevirtual 77, 3) := by decide +kernel
theorem dX1_calledBy_83 : decode cX1_calledBy 83 = .ok (.ifCond .eq 14, 3) := by decide +kernel
theorem dX1_calledBy_86 : decode cX1_calledBy 86 = .ok (.iload 5, 2) := by decide +kernel
theorem dX1_calledBy_88 : decode cX1_calledBy 88 = .ok (.ifCond .ne 6, 3) := by decide +kernel
theorem dX1_calledBy_91 : decode cX1_calledBy 91 = .ok (.iload 6, 2) := by decide +kernel
theorem dX1_calledBy_93 : decode cX1_calledBy 93 = .ok (.ireturn, 1) := by decide +kernel
theorem dX1_calledBy_94 : decode cX1_calledBy 94 = .ok (.iinc 5 (-1), 3) := by decide +kernel
theorem dX1_calledBy_97 : decode cX1_calledBy 97 = .ok (.iinc 6 1, 3) := by decide +kernel
theorem dX1_calledBy_100 : decode cX1_calledBy 100 = .ok (.goto (-32), 3) := by decide +kernel
theorem dX1_calledBy_103 : decode cX1_calledBy 103 = .ok (.iconst (-1), 1) := by decide +kernel
theorem dX1_calledBy_104 : decode cX1_calledBy 104 = .ok (.ireturn, 1) := by decide +kernel
theorem dX1_isCallable_0 : decode cX1_isCallable 0 = .ok (.iload_n 2, 1) := by decide +kernel
theorem dX1_isCallable_1 : decode cX1_isCallable 1 = .ok (.iload_n 1, 1) := by decide +kernel
theorem dX1_isCallable_2 : decode cX1_isCallable 2 = .ok (.if_icmp .eq 23, 3) := by decide +kernel
theorem dX1_isCallable_5 : decode cX1_isCallable 5 = .ok (.iload_n 3, 1) := by decide +kernel
theorem dX1_isCallable_6 : decode cX1_isCallable 6 = .ok (.ifCond .ne 15, 3) := by decide +kernel
theorem dX1_isCallable_9 : decode cX1_isCallable 9 = .ok (.aload_n 0, 1) := by decide +kernel
theorem dX1_isCallable_10 : decode cX1_isCallable 10 = .ok (.getfield 39, 3) := by decide +kernel
theorem dX1_isCallable_13 : decode cX1_isCallable 13 = .ok (.iload_n 1, 1) := by decide +kernel
theorem dX1_isCallable_14 : decode cX1_isCallable 14 = .ok (.aaload, 1) := by decide +kernel
theorem dX1_isCallable_15 : decode cX1_isCallable 15 = .ok (.iload_n 2, 1) := by decide +kernel
theorem dX1_isCallable_16 : decode cX1_isCallable 16 = .ok (.iaload, 1) := by decide +kernel
theorem dX1_isCallable_17 : decode cX1_isCallable 17 = .ok (.iconst 2, 1) := by decide +kernel
theorem dX1_isCallable_18 : decode cX1_isCallable 18 = .ok (.if_icmp .eq 7, 3) := by decide +kernel
theorem dX1_isCallable_21 : decode cX1_isCallable 21 = .ok (.iconst 1, 1) := by decide +kernel
theorem dX1_isCallable_22 : decode cX1_isCallable 22 = .ok (.goto 4, 3) := by decide +kernel
theorem dX1_isCallable_25 : decode cX1_isCallable 25 = .ok (.iconst 0, 1) := by decide +kernel
theorem dX1_isCallable_26 : decode cX1_isCallable 26 = .ok (.ireturn, 1) := by decide +kernel
set_option maxRecDepth 20000 in
theorem ggX1_tellOneAnother_X1_takeNews : GoodIn wsX1_tellOneAnother wsX1_takeNews := goodIn_r _ [5, 6, 7, 8, 16, 17, 18, 19, 20, 21, 22, 23, 24, 25, 26, 27] (by decide +kernel) (by decide +kernel)
set_option maxRecDepth 20000 in
theorem gX1_tellOneAnother_X1_takeNews : GoodIn wsX1_tellOneAnother (wsV RX1 81 RX1 yX1_takeNews wsX1_takeNews) := goodIn_app (goodIn_of _ (by decide +kernel)) ggX1_tellOneAnother_X1_takeNews
set_option maxRecDepth 20000 in
theorem ggX1_tellOneAnother_X1_takeBeat : GoodIn wsX1_tellOneAnother wsX1_takeBeat := goodIn_r _ [12, 13, 14, 15, 16, 17, 18, 19, 20, 21, 22, 23, 24, 25, 26, 27] (by decide +kernel) (by decide +kernel)
set_option maxRecDepth 20000 in
theorem gX1_tellOneAnother_X1_takeBeat : GoodIn wsX1_tellOneAnother (wsV RX1 84 RX1 yX1_takeBeat wsX1_takeBeat) := goodIn_app (goodIn_of _ (by decide +kernel)) ggX1_tellOneAnother_X1_takeBeat
theorem dX1_tellOneAnother_0 : decode cX1_tellOneAnother 0 = .ok (.iconst 0, 1) := by decide +kernel
theorem dX1_tellOneAnother_1 : decode cX1_tellOneAnother 1 = .ok (.istore 4, 2) := by decide +kernel
theorem dX1_tellOneAnother_3 : decode cX1_tellOneAnother 3 = .ok (.iload 4, 2) := by decide +kernel
theorem dX1_tellOneAnother_5 : decode cX1_tellOneAnother 5 = .ok (.bipush 8, 2) := by decide +kernel
theorem dX1_tellOneAnother_7 : decode cX1_tellOneAnother 7 = .ok (.if_icmp .ge 43, 3) := by decide +kernel
theorem dX1_tellOneAnother_10 : decode cX1_tellOneAnother 10 = .ok (.aload_n 0, 1) := by decide +kernel
theorem dX1_tellOneAnother_11 : decode cX1_tellOneAnother 11 = .ok (.iload_n 1, 1) := by decide +kernel
theorem dX1_tellOneAnother_12 : decode cX1_tellOneAnother 12 = .ok (.iload_n 2, 1) := by decide +kernel
theorem dX1_tellOneAnother_13 : decode cX1_tellOneAnother 13 = .ok (.iload 4, 2) := by decide +kernel
theorem dX1_tellOneAnother_15 : decode cX1_tellOneAnother 15 = .ok (.invokevirtual 81, 3) := by decide +kernel
theorem dX1_tellOneAnother_18 : decode cX1_tellOneAnother 18 = .ok (.aload_n 0, 1) := by decide +kernel
theorem dX1_tellOneAnother_19 : decode cX1_tellOneAnother 19 = .ok (.iload_n 2, 1) := by decide +kernel
theorem dX1_tellOneAnother_20 : decode cX1_tellOneAnother 20 = .ok (.iload_n 1, 1) := by decide +kernel
theorem dX1_tellOneAnother_21 : decode cX1_tellOneAnother 21 = .ok (.iload 4, 2) := by decide +kernel
theorem dX1_tellOneAnother_23 : decode cX1_tellOneAnother 23 = .ok (.invokevirtual 81, 3) := by decide +kernel
theorem dX1_tellOneAnother_26 : decode cX1_tellOneAnother 26 = .ok (.aload_n 0, 1) := by decide +kernel
theorem dX1_tellOneAnother_27 : decode cX1_tellOneAnother 27 = .ok (.iload_n 1, 1) := by decide +kernel
theorem dX1_tellOneAnother_28 : decode cX1_tellOneAnother 28 = .ok (.iload_n 2, 1) := by decide +kernel
theorem dX1_tellOneAnother_29 : decode cX1_tellOneAnother 29 = .ok (.iload 4, 2) := by decide +kernel
theorem dX1_tellOneAnother_31 : decode cX1_tellOneAnother 31 = .ok (.iload_n 3, 1) := by decide +kernel
theorem dX1_tellOneAnother_32 : decode cX1_tellOneAnother 32 = .ok (.invokevirtual 84, 3) := by decide +kernel
theorem dX1_tellOneAnother_35 : decode cX1_tellOneAnother 35 = .ok (.aload_n 0, 1) := by decide +kernel
theorem dX1_tellOneAnother_36 : decode cX1_tellOneAnother 36 = .ok (.iload_n 2, 1) := by decide +kernel
theorem dX1_tellOneAnother_37 : decode cX1_tellOneAnother 37 = .ok (.iload_n 1, 1) := by decide +kernel
theorem dX1_tellOneAnother_38 : decode cX1_tellOneAnother 38 = .ok (.iload 4, 2) := by decide +kernel
theorem dX1_tellOneAnother_40 : decode cX1_tellOneAnother 40 = .ok (.iload_n 3, 1) := by decide +kernel
theorem dX1_tellOneAnother_41 : decode cX1_tellOneAnother 41 = .ok (.invokevirtual 84, 3) := by decide +kernel
theorem dX1_tellOneAnother_44 : decode cX1_tellOneAnother 44 = .ok (.iinc 4 1, 3) := by decide +kernel
theorem dX1_tellOneAnother_47 : decode cX1_tellOneAnother 47 = .ok (.goto (-44), 3) := by decide +kernel
theorem dX1_tellOneAnother_50 : decode cX1_tellOneAnother 50 = .ok (.return_, 1) := by decide +kernel
theorem dX1_takeNews_0 : decode cX1_takeNews 0 = .ok (.aload_n 0, 1) := by decide +kernel
theorem dX1_takeNews_1 : decode cX1_takeNews 1 = .ok (.getfield 24, 3) := by decide +kernel
theorem dX1_takeNews_4 : decode cX1_takeNews 4 = .ok (.iload_n 1, 1) := by decide +kernel
theorem dX1_takeNews_5 : decode cX1_takeNews 5 = .ok (.aaload, 1) := by decide +kernel
theorem dX1_takeNews_6 : decode cX1_takeNews 6 = .ok (.iload_n 3, 1) := by decide +kernel
theorem dX1_takeNews_7 : decode cX1_takeNews 7 = .ok (.iaload, 1) := by decide +kernel
theorem dX1_takeNews_8 : decode cX1_takeNews 8 = .ok (.aload_n 0, 1) := by decide +kernel
theorem dX1_takeNews_9 : decode cX1_takeNews 9 = .ok (.getfield 24, 3) := by decide +kernel
theorem dX1_takeNews_12 : decode cX1_takeNews 12 = .ok (.iload_n 2, 1) := by decide +kernel
theorem dX1_takeNews_13 : decode cX1_takeNews 13 = .ok (.aaload, 1) := by decide +kernel
theorem dX1_takeNews_14 : decode cX1_takeNews 14 = .ok (.iload_n 3, 1) := by decide +kernel
theorem dX1_takeNews_15 : decode cX1_takeNews 15 = .ok (.iaload, 1) := by decide +kernel
theorem dX1_takeNews_16 : decode cX1_takeNews 16 = .ok (.if_icmp .ge 51, 3) := by decide +kernel
theorem dX1_takeNews_19 : decode cX1_takeNews 19 = .ok (.aload_n 0, 1) := by decide +kernel
theorem dX1_takeNews_20 : decode cX1_takeNews 20 = .ok (.getfield 24, 3) := by decide +kernel
theorem dX1_takeNews_23 : decode cX1_takeNews 23 = .ok (.iload_n 1, 1) := by decide +kernel
theorem dX1_takeNews_24 : decode cX1_takeNews 24 = .ok (.aaload, 1) := by decide +kernel
theorem dX1_takeNews_25 : decode cX1_takeNews 25 = .ok (.iload_n 3, 1) := by decide +kernel
theorem dX1_takeNews_26 : decode cX1_takeNews 26 = .ok (.aload_n 0, 1) := by decide +kernel
theorem dX1_takeNews_27 : decode cX1_takeNews 27 = .ok (.getfield 24, 3) := by decide +kernel
theorem dX1_takeNews_30 : decode cX1_takeNews 30 = .ok (.iload_n 2, 1) := by decide +kernel
theorem dX1_takeNews_31 : decode cX1_takeNews 31 = .ok (.aaload, 1) := by decide +kernel
theorem dX1_takeNews_32 : decode cX1_takeNews 32 = .ok (.iload_n 3, 1) := by decide +kernel
theorem dX1_takeNews_33 : decode cX1_takeNews 33 = .ok (.iaload, 1) := by decide +kernel
theorem dX1_takeNews_34 : decode cX1_takeNews 34 = .ok (.iastore, 1) := by decide +kernel
theorem dX1_takeNews_35 : decode cX1_takeNews 35 = .ok (.aload_n 0, 1) := by decide +kernel
theorem dX1_takeNews_36 : decode cX1_takeNews 36 = .ok (.getfield 27, 3) := by decide +kernel
theorem dX1_takeNews_39 : decode cX1_takeNews 39 = .ok (.iload_n 1, 1) := by decide +kernel
theorem dX1_takeNews_40 : decode cX1_takeNews 40 = .ok (.aaload, 1) := by decide +kernel
theorem dX1_takeNews_41 : decode cX1_takeNews 41 = .ok (.iload_n 3, 1) := by decide +kernel
theorem dX1_takeNews_42 : decode cX1_takeNews 42 = .ok (.aload_n 0, 1) := by decide +kernel
theorem dX1_takeNews_43 : decode cX1_takeNews 43 = .ok (.getfield 27, 3) := by decide +kernel
theorem dX1_takeNews_46 : decode cX1_takeNews 46 = .ok (.iload_n 2, 1) := by decide +kernel
theorem dX1_takeNews_47 : decode cX1_takeNews 47 = .ok (.aaload, 1) := by decide +kernel
theorem dX1_takeNews_48 : decode cX1_takeNews 48 = .ok (.iload_n 3, 1) := by decide +kernel
theorem dX1_takeNews_49 : decode cX1_takeNews 49 = .ok (.iaload, 1) := by decide +kernel
theorem dX1_takeNews_50 : decode cX1_takeNews 50 = .ok (.iastore, 1) := by decide +kernel
theorem dX1_takeNews_51 : decode cX1_takeNews 51 = .ok (.aload_n 0, 1) := by decide +kernel
theorem dX1_takeNews_52 : decode cX1_takeNews 52 = .ok (.getfield 30, 3) := by decide +kernel
theorem dX1_takeNews_55 : decode cX1_takeNews 55 = .ok (.iload_n 1, 1) := by decide +kernel
theorem dX1_takeNews_56 : decode cX1_takeNews 56 = .ok (.aaload, 1) := by decide +kernel
theorem dX1_takeNews_57 : decode cX1_takeNews 57 = .ok (.iload_n 3, 1) := by decide +kernel
theorem dX1_takeNews_58 : decode cX1_takeNews 58 = .ok (.aload_n 0, 1) := by decide +kernel
theorem dX1_takeNews_59 : decode cX1_takeNews 59 = .ok (.getfield 30, 3) := by decide +kernel
theorem dX1_takeNews_62 : decode cX1_takeNews 62 = .ok (.iload_n 2, 1) := by decide +kernel
theorem dX1_takeNews_63 : decode cX1_takeNews 63 = .ok (.aaload, 1) := by decide +kernel
theorem dX1_takeNews_64 : decode cX1_takeNews 64 = .ok (.iload_n 3, 1) := by decide +kernel
theorem dX1_takeNews_65 : decode cX1_takeNews 65 = .ok (.iaload, 1) := by decide +kernel
theorem dX1_takeNews_66 : decode cX1_takeNews 66 = .ok (.iastore, 1) := by decide +kernel
theorem dX1_takeNews_67 : decode cX1_takeNews 67 = .ok (.return_, 1) := by decide +kernel
theorem dX1_takeBeat_0 : decode cX1_takeBeat 0 = .ok (.aload_n 0, 1) := by decide +kernel
theorem dX1_takeBeat_1 : decode cX1_takeBeat 1 = .ok (.getfield 33, 3) := by decide +kernel
theorem dX1_takeBeat_4 : decode cX1_takeBeat 4 = .ok (.iload_n 1, 1) := by decide +kernel
theorem dX1_takeBeat_5 : decode cX1_takeBeat 5 = .ok (.aaload, 1) := by decide +kernel
theorem dX1_takeBeat_6 : decode cX1_takeBeat 6 = .ok (.iload_n 3, 1) := by decide +kernel
theorem dX1_takeBeat_7 : decode cX1_takeBeat 7 = .ok (.iaload, 1) := by decide +kernel
theorem dX1_takeBeat_8 : decode cX1_takeBeat 8 = .ok (.aload_n 0, 1) := by decide +kernel
theorem dX1_takeBeat_9 : decode cX1_takeBeat 9 = .ok (.getfield 33, 3) := by decide +kernel
theorem dX1_takeBeat_12 : decode cX1_takeBeat 12 = .ok (.iload_n 2, 1) := by decide +kernel
theorem dX1_takeBeat_13 : decode cX1_takeBeat 13 = .ok (.aaload, 1) := by decide +kernel
theorem dX1_takeBeat_14 : decode cX1_takeBeat 14 = .ok (.iload_n 3, 1) := by decide +kernel
theorem dX1_takeBeat_15 : decode cX1_takeBeat 15 = .ok (.iaload, 1) := by decide +kernel
theorem dX1_takeBeat_16 : decode cX1_takeBeat 16 = .ok (.if_icmp .ge 38, 3) := by decide +kernel
theorem dX1_takeBeat_19 : decode cX1_takeBeat 19 = .ok (.aload_n 0, 1) := by decide +kernel
theorem dX1_takeBeat_20 : decode cX1_takeBeat 20 = .ok (.getfield 33, 3) := by decide +kernel
theorem dX1_takeBeat_23 : decode cX1_takeBeat 23 = .ok (.iload_n 1, 1) := by decide +kernel
theorem dX1_takeBeat_24 : decode cX1_takeBeat 24 = .ok (.aaload, 1) := by decide +kernel
theorem dX1_takeBeat_25 : decode cX1_takeBeat 25 = .ok (.iload_n 3, 1) := by decide +kernel
theorem dX1_takeBeat_26 : decode cX1_takeBeat 26 = .ok (.aload_n 0, 1) := by decide +kernel
theorem dX1_takeBeat_27 : decode cX1_takeBeat 27 = .ok (.getfield 33, 3) := by decide +kernel
theorem dX1_takeBeat_30 : decode cX1_takeBeat 30 = .ok (.iload_n 2, 1) := by decide +kernel
theorem dX1_takeBeat_31 : decode cX1_takeBeat 31 = .ok (.aaload, 1) := by decide +kernel
theorem dX1_takeBeat_32 : decode cX1_takeBeat 32 = .ok (.iload_n 3, 1) := by decide +kernel
theorem dX1_takeBeat_33 : decode cX1_takeBeat 33 = .ok (.iaload, 1) := by decide +kernel
theorem dX1_takeBeat_34 : decode cX1_takeBeat 34 = .ok (.iastore, 1) := by decide +kernel
theorem dX1_takeBeat_35 : decode cX1_takeBeat 35 = .ok (.aload_n 0, 1) := by decide +kernel
theorem dX1_takeBeat_36 : decode cX1_takeBeat 36 = .ok (.getfield 36, 3) := by decide +kernel
theorem dX1_takeBeat_39 : decode cX1_takeBeat 39 = .ok (.iload_n 1, 1) := by decide +kernel
theorem dX1_takeBeat_40 : decode cX1_takeBeat 40 = .ok (.aaload, 1) := by decide +kernel
theorem dX1_takeBeat_41 : decode cX1_takeBeat 41 = .ok (.iload_n 3, 1) := by decide +kernel
theorem dX1_takeBeat_42 : decode cX1_takeBeat 42 = .ok (.iload 4, 2) := by decide +kernel
theorem dX1_takeBeat_44 : decode cX1_takeBeat 44 = .ok (.iastore, 1) := by decide +kernel
theorem dX1_takeBeat_45 : decode cX1_takeBeat 45 = .ok (.aload_n 0, 1) := by decide +kernel
theorem dX1_takeBeat_46 : decode cX1_takeBeat 46 = .ok (.getfield 39, 3) := by decide +kernel
theorem dX1_takeBeat_49 : decode cX1_takeBeat 49 = .ok (.iload_n 1, 1) := by decide +kernel
theorem dX1_takeBeat_50 : decode cX1_takeBeat 50 = .ok (.aaload, 1) := by decide +kernel
theorem dX1_takeBeat_51 : decode cX1_takeBeat 51 = .ok (.iload_n 3, 1) := by decide +kernel
theorem dX1_takeBeat_52 : decode cX1_takeBeat 52 = .ok (.iconst 0, 1) := by decide +kernel
theorem dX1_takeBeat_53 : decode cX1_takeBeat 53 = .ok (.iastore, 1) := by decide +kernel
theorem dX1_takeBeat_54 : decode cX1_takeBeat 54 = .ok (.return_, 1) := by decide +kernel
set_option maxRecDepth 20000 in
theorem ggX1_lookAll_X1_lookAtOthers : GoodIn wsX1_lookAll wsX1_lookAtOthers := goodIn_r _ [6, 7, 8, 9, 10, 11, 5, 12, 13, 14, 15, 16, 17, 18, 19, 20, 21, 22, 23, 24, 25, 26] (by decide +kernel) (by decide +kernel)
set_option maxRecDepth 20000 in
theorem gX1_lookAll_X1_lookAtOthers : GoodIn wsX1_lookAll (wsV RX1 88 RX1 yX1_lookAtOthers wsX1_lookAtOthers) := goodIn_app (goodIn_of _ (by decide +kernel)) ggX1_lookAll_X1_lookAtOthers
theorem dX1_lookAll_0 : decode cX1_lookAll 0 = .ok (.iconst 0, 1) := by decide +kernel
theorem dX1_lookAll_1 : decode cX1_lookAll 1 = .ok (.istore_n 2, 1) := by decide +kernel
theorem dX1_lookAll_2 : decode cX1_lookAll 2 = .ok (.iload_n 2, 1) := by decide +kernel
theorem dX1_lookAll_3 : decode cX1_lookAll 3 = .ok (.bipush 8, 2) := by decide +kernel
theorem dX1_lookAll_5 : decode cX1_lookAll 5 = .ok (.if_icmp .ge 24, 3) := by decide +kernel
theorem dX1_lookAll_8 : decode cX1_lookAll 8 = .ok (.aload_n 0, 1) := by decide +kernel
theorem dX1_lookAll_9 : decode cX1_lookAll 9 = .ok (.getfield 9, 3) := by decide +kernel
theorem dX1_lookAll_12 : decode cX1_lookAll 12 = .ok (.iload_n 2, 1) := by decide +kernel
theorem dX1_lookAll_13 : decode cX1_lookAll 13 = .ok (.baload, 1) := by decide +kernel
theorem dX1_lookAll_14 : decode cX1_lookAll 14 = .ok (.ifCond .ne 9, 3) := by decide +kernel
theorem dX1_lookAll_17 : decode cX1_lookAll 17 = .ok (.aload_n 0, 1) := by decide +kernel
theorem dX1_lookAll_18 : decode cX1_lookAll 18 = .ok (.iload_n 2, 1) := by decide +kernel
theorem dX1_lookAll_19 : decode cX1_lookAll 19 = .ok (.iload_n 1, 1) := by decide +kernel
theorem dX1_lookAll_20 : decode cX1_lookAll 20 = .ok (.invokevirtual 88, 3) := by decide +kernel
theorem dX1_lookAll_23 : decode cX1_lookAll 23 = .ok (.iinc 2 1, 3) := by decide +kernel
theorem dX1_lookAll_26 : decode cX1_lookAll 26 = .ok (.goto (-24), 3) := by decide +kernel
theorem dX1_lookAll_29 : decode cX1_lookAll 29 = .ok (.return_, 1) := by decide +kernel
set_option maxRecDepth 20000 in
theorem ggX1_lookAtOthers_X1_statusAfter : GoodIn wsX1_lookAtOthers wsX1_statusAfter := goodIn_r _ [7, 8, 9, 10, 11, 12, 13, 14, 15, 16, 17, 18, 19, 20, 21] (by decide +kernel) (by decide +kernel)
set_option maxRecDepth 20000 in
theorem gX1_lookAtOthers_X1_statusAfter : GoodIn wsX1_lookAtOthers (wsV RX1 91 RX1 yX1_statusAfter wsX1_statusAfter) := goodIn_app (goodIn_of _ (by decide +kernel)) ggX1_lookAtOthers_X1_statusAfter
theorem dX1_lookAtOthers_0 : decode cX1_lookAtOthers 0 = .ok (.iconst 0, 1) := by decide +kernel
theorem dX1_lookAtOthers_1 : decode cX1_lookAtOthers 1 = .ok (.istore_n 3, 1) := by decide +kernel
theorem dX1_lookAtOthers_2 : decode cX1_lookAtOthers 2 = .ok (.iload_n 3, 1) := by decide +kernel
theorem dX1_lookAtOthers_3 : decode cX1_lookAtOthers 3 = .ok (.bipush 8, 2) := by decide +kernel
theorem dX1_lookAtOthers_5 : decode cX1_lookAtOthers 5 = .ok (.if_icmp .ge 36, 3) := by decide +kernel
theorem dX1_lookAtOthers_8 : decode cX1_lookAtOthers 8 = .ok (.iload_n 3, 1) := by decide +kernel
theorem dX1_lookAtOthers_9 : decode cX1_lookAtOthers 9 = .ok (.iload_n 1, 1) := by decide +kernel
theorem dX1_lookAtOthers_10 : decode cX1_lookAtOthers 10 = .ok (.if_icmp .eq 25, 3) := by decide +kernel
theorem dX1_lookAtOthers_13 : decode cX1_lookAtOthers 13 = .ok (.aload_n 0, 1) := by decide +kernel
theorem dX1_lookAtOthers_14 : decode cX1_lookAtOthers 14 = .ok (.getfield 39, 3) := by decide +kernel
theorem dX1_lookAtOthers_17 : decode cX1_lookAtOthers 17 = .ok (.iload_n 1, 1) := by decide +kernel
theorem dX1_lookAtOthers_18 : decode cX1_lookAtOthers 18 = .ok (.aaload, 1) := by decide +kernel
theorem dX1_lookAtOthers_19 : decode cX1_lookAtOthers 19 = .ok (.iload_n 3, 1) := by decide +kernel
theorem dX1_lookAtOthers_20 : decode cX1_lookAtOthers 20 = .ok (.aload_n 0, 1) := by decide +kernel
theorem dX1_lookAtOthers_21 : decode cX1_lookAtOthers 21 = .ok (.iload_n 2, 1) := by decide +kernel
theorem dX1_lookAtOthers_22 : decode cX1_lookAtOthers 22 = .ok (.aload_n 0, 1) := by decide +kernel
theorem dX1_lookAtOthers_23 : decode cX1_lookAtOthers 23 = .ok (.getfield 36, 3) := by decide +kernel
theorem dX1_lookAtOthers_26 : decode cX1_lookAtOthers 26 = .ok (.iload_n 1, 1) := by decide +kernel
theorem dX1_lookAtOthers_27 : decode cX1_lookAtOthers 27 = .ok (.aaload, 1) := by decide +kernel
theorem dX1_lookAtOthers_28 : decode cX1_lookAtOthers 28 = .ok (.iload_n 3, 1) := by decide +kernel
theorem dX1_lookAtOthers_29 : decode cX1_lookAtOthers 29 = .ok (.iaload, 1) := by decide +kernel
theorem dX1_lookAtOthers_30 : decode cX1_lookAtOthers 30 = .ok (.isub, 1) := by decide +kernel
theorem dX1_lookAtOthers_31 : decode cX1_lookAtOthers 31 = .ok (.invokevirtual 91, 3) := by decide +kernel
theorem dX1_lookAtOthers_34 : decode cX1_lookAtOthers 34 = .ok (.iastore, 1) := by decide +kernel
theorem dX1_lookAtOthers_35 : decode cX1_lookAtOthers 35 = .ok (.iinc 3 1, 3) := by decide +kernel
theorem dX1_lookAtOthers_38 : decode cX1_lookAtOthers 38 = .ok (.goto (-36), 3) := by decide +kernel
theorem dX1_lookAtOthers_41 : decode cX1_lookAtOthers 41 = .ok (.return_, 1) := by decide +kernel
theorem dX1_statusAfter_0 : decode cX1_statusAfter 0 = .ok (.iload_n 1, 1) := by decide +kernel
theorem dX1_statusAfter_1 : decode cX1_statusAfter 1 = .ok (.aload_n 0, 1) := by decide +kernel
theorem dX1_statusAfter_2 : decode cX1_statusAfter 2 = .ok (.getfield 46, 3) := by decide +kernel
theorem dX1_statusAfter_5 : decode cX1_statusAfter 5 = .ok (.if_icmp .le 5, 3) := by decide +kernel
theorem dX1_statusAfter_8 : decode cX1_statusAfter 8 = .ok (.iconst 2, 1) := by decide +kernel
theorem dX1_statusAfter_9 : decode cX1_statusAfter 9 = .ok (.ireturn, 1) := by decide +kernel
theorem dX1_statusAfter_10 : decode cX1_statusAfter 10 = .ok (.iload_n 1, 1) := by decide +kernel
theorem dX1_statusAfter_11 : decode cX1_statusAfter 11 = .ok (.aload_n 0, 1) := by decide +kernel
theorem dX1_statusAfter_12 : decode cX1_statusAfter 12 = .ok (.getfield 42, 3) := by decide +kernel
theorem dX1_statusAfter_15 : decode cX1_statusAfter 15 = .ok (.if_icmp .le 7, 3) := by decide +kernel
theorem dX1_statusAfter_18 : decode cX1_statusAfter 18 = .ok (.iconst 1, 1) := by decide +kernel
theorem dX1_statusAfter_19 : decode cX1_statusAfter 19 = .ok (.goto 4, 3) := by decide +kernel
theorem dX1_statusAfter_22 : decode cX1_statusAfter 22 = .ok (.iconst 0, 1) := by decide +kernel
theorem dX1_statusAfter_23 : decode cX1_statusAfter 23 = .ok (.ireturn, 1) := by decide +kernel
theorem dX1_freshestOf_0 : decode cX1_freshestOf 0 = .ok (.iconst (-1), 1) := by decide +kernel
theorem dX1_freshestOf_1 : decode cX1_freshestOf 1 = .ok (.istore_n 2, 1) := by decide +kernel
theorem dX1_freshestOf_2 : decode cX1_freshestOf 2 = .ok (.iconst 0, 1) := by decide +kernel
theorem dX1_freshestOf_3 : decode cX1_freshestOf 3 = .ok (.istore_n 3, 1) := by decide +kernel
theorem dX1_freshestOf_4 : decode cX1_freshestOf 4 = .ok (.iconst 0, 1) := by decide +kernel
theorem dX1_freshestOf_5 : decode cX1_freshestOf 5 = .ok (.istore 4, 2) := by decide +kernel
theorem dX1_freshestOf_7 : decode cX1_freshestOf 7 = .ok (.iload 4, 2) := by decide +kernel
theorem dX1_freshestOf_9 : decode cX1_freshestOf 9 = .ok (.bipush 8, 2) := by decide +kernel
theorem dX1_freshestOf_11 : decode cX1_freshestOf 11 = .ok (.if_icmp .ge 35, 3) := by decide +kernel
theorem dX1_freshestOf_14 : decode cX1_freshestOf 14 = .ok (.aload_n 0, 1) := by decide +kernel
theorem dX1_freshestOf_15 : decode cX1_freshestOf 15 = .ok (.getfield 24, 3) := by decide +kernel
theorem dX1_freshestOf_18 : decode cX1_freshestOf 18 = .ok (.iload 4, 2) := by decide +kernel
theorem dX1_freshestOf_20 : decode cX1_freshestOf 20 = .ok (.aaload, 1) := by decide +kernel
theorem dX1_freshestOf_21 : decode cX1_freshestOf 21 = .ok (.iload_n 1, 1) := by decide +kernel
theorem dX1_freshestOf_22 : decode cX1_freshestOf 22 = .ok (.iaload, 1) := by decide +kernel
theorem dX1_freshestOf_23 : decode cX1_freshestOf 23 = .ok (.iload_n 3, 1) := by decide +kernel
theorem dX1_freshestOf_24 : decode cX1_freshestOf 24 = .ok (.if_icmp .le 16, 3) := by decide +kernel
theorem dX1_freshestOf_27 : decode cX1_freshestOf 27 = .ok (.aload_n 0, 1) := by decide +kernel
theorem dX1_freshestOf_28 : decode cX1_freshestOf 28 = .ok (.getfield 24, 3) := by decide +kernel
theorem dX1_freshestOf_31 : decode cX1_freshestOf 31 = .ok (.iload 4, 2) := by decide +kernel
theorem dX1_freshestOf_33 : decode cX1_freshestOf 33 = .ok (.aaload, 1) := by decide +kernel
theorem dX1_freshestOf_34 : decode cX1_freshestOf 34 = .ok (.iload_n 1, 1) := by decide +kernel
theorem dX1_freshestOf_35 : decode cX1_freshestOf 35 = .ok (.iaload, 1) := by decide +kernel
theorem dX1_freshestOf_36 : decode cX1_freshestOf 36 = .ok (.istore_n 3, 1) := by decide +kernel
theorem dX1_freshestOf_37 : decode cX1_freshestOf 37 = .ok (.iload 4, 2) := by decide +kernel
theorem dX1_freshestOf_39 : decode cX1_freshestOf 39 = .ok (.istore_n 2, 1) := by decide +kernel
theorem dX1_freshestOf_40 : decode cX1_freshestOf 40 = .ok (.iinc 4 1, 3) := by decide +kernel
theorem dX1_freshestOf_43 : decode cX1_freshestOf 43 = .ok (.goto (-36), 3) := by decide +kernel
theorem dX1_freshestOf_46 : decode cX1_freshestOf 46 = .ok (.iload_n 2, 1) := by decide +kernel
theorem dX1_freshestOf_47 : decode cX1_freshestOf 47 = .ok (.ireturn, 1) := by decide +kernel
set_option maxRecDepth 20000 in
theorem ggX1_believersOf_X1_hasNews : GoodIn wsX1_believersOf wsX1_hasNews := goodIn_r _ [7, 8, 9, 10, 11, 12, 13, 14, 15, 16, 17, 18, 19, 20] (by decide +kernel) (by decide +kernel)
set_option maxRecDepth 20000 in
theorem gX1_believersOf_X1_hasNews : GoodIn wsX1_believersOf (wsV RX1 52 RX1 yX1_hasNews wsX1_hasNews) := goodIn_app (goodIn_of _ (by decide +kernel)) ggX1_believersOf_X1_hasNews
theorem dX1_believersOf_0 : decode cX1_believersOf 0 = .ok (.iconst 0, 1) := by decide +kernel
theorem dX1_believersOf_1 : decode cX1_believersOf 1 = .ok (.istore_n 3, 1) := by decide +kernel
theorem dX1_believersOf_2 : decode cX1_believersOf 2 = .ok (.iconst 0, 1) := by decide +kernel
theorem dX1_believersOf_3 : decode cX1_believersOf 3 = .ok (.istore 4, 2) := by decide +kernel
theorem dX1_believersOf_5 : decode cX1_believersOf 5 = .ok (.iload 4, 2) := by decide +kernel
theorem dX1_believersOf_7 : decode cX1_believersOf 7 = .ok (.bipush 8, 2) := by decide +kernel
theorem dX1_believersOf_9 : decode cX1_believersOf 9 = .ok (.if_icmp .ge 57, 3) := by decide +kernel
theorem dX1_believersOf_12 : decode cX1_believersOf 12 = .ok (.aload_n 0, 1) := by decide +kernel
theorem dX1_believersOf_13 : decode cX1_believersOf 13 = .ok (.getfield 9, 3) := by decide +kernel
theorem dX1_believersOf_16 : decode cX1_believersOf 16 = .ok (.iload 4, 2) := by decide +kernel
theorem dX1_believersOf_18 : decode cX1_believersOf 18 = .ok (.baload, 1) := by decide +kernel
theorem dX1_believersOf_19 : decode cX1_believersOf 19 = .ok (.ifCond .ne 17, 3) := by decide +kernel
theorem dX1_believersOf_22 : decode cX1_believersOf 22 = .ok (.aload_n 0, 1) := by decide +kernel
theorem dX1_believersOf_23 : decode cX1_believersOf 23 = .ok (.iload 4, 2) := by decide +kernel
theorem dX1_believersOf_25 : decode cX1_believersOf 25 = .ok (.iload_n 1, 1) := by decide +kernel
theorem dX1_believersOf_26 : decode cX1_believersOf 26 = .ok (.invokevirtual 52, 3) := by decide +kernel
theorem dX1_believersOf_29 : decode cX1_believersOf 29 = .ok (.ifCond .eq 7, 3) := by decide +kernel
theorem dX1_believersOf_32 : decode cX1_believersOf 32 = .ok (.iconst 1, 1) := by decide +kernel
theorem dX1_believersOf_33 : decode cX1_believersOf 33 = .ok (.goto 4, 3) := by decide +kernel
theorem dX1_believersOf_36 : decode cX1_believersOf 36 = .ok (.iconst 0, 1) := by decide +kernel
theorem dX1_believersOf_37 : decode cX1_believersOf 37 = .ok (.istore 5, 2) := by decide +kernel
theorem dX1_believersOf_39 : decode cX1_believersOf 39 = .ok (.iload 5, 2) := by decide +kernel
theorem dX1_believersOf_41 : decode cX1_believersOf 41 = .ok (.ifCond .eq 19, 3) := by decide +kernel
theorem dX1_believersOf_44 : decode cX1_believersOf 44 = .ok (.aload_n 0, 1) := by decide +kernel
theorem dX1_believersOf_45 : decode cX1_believersOf 45 = .ok (.getfield 27, 3) := by decide +kernel
theorem dX1_believersOf_48 : decode cX1_believersOf 48 = .ok (.iload 4, 2) := by decide +kernel
theorem dX1_believersOf_50 : decode cX1_believersOf 50 = .ok (.aaload, 1) := by decide +kernel
theorem dX1_believersOf_51 : decode cX1_believersOf 51 = .ok (.iload_n 1, 1) := by decide +kernel
theorem dX1_believersOf_52 : decode cX1_believersOf 52 = .ok (.iaload, 1) := by decide +kernel
theorem dX1_believersOf_53 : decode cX1_believersOf 53 = .ok (.iload_n 2, 1) := by decide +kernel
theorem dX1_believersOf_54 : decode cX1_believersOf 54 = .ok (.if_icmp .ne 6, 3) := by decide +kernel
theorem dX1_believersOf_57 : decode cX1_believersOf 57 = .ok (.iinc 3 1, 3) := by decide +kernel
theorem dX1_believersOf_60 : decode cX1_believersOf 60 = .ok (.iinc 4 1, 3) := by decide +kernel
theorem dX1_believersOf_63 : decode cX1_believersOf 63 = .ok (.goto (-58), 3) := by decide +kernel
theorem dX1_believersOf_66 : decode cX1_believersOf 66 = .ok (.iload_n 3, 1) := by decide +kernel
theorem dX1_believersOf_67 : decode cX1_believersOf 67 = .ok (.ireturn, 1) := by decide +kernel
set_option maxRecDepth 20000 in
theorem ggX1_countUnnoticed_X1_countHolders : GoodIn wsX1_countUnnoticed wsX1_countHolders := goodIn_r _ [6, 1, 7, 8, 9, 10, 11, 12, 13, 14, 15, 16, 17, 18, 19] (by decide +kernel) (by decide +kernel)
set_option maxRecDepth 20000 in
theorem gX1_countUnnoticed_X1_countHolders : GoodIn wsX1_countUnnoticed (wsV RX1 94 RX1 yX1_countHolders wsX1_countHolders) := goodIn_app (goodIn_of _ (by decide +kernel)) ggX1_countUnnoticed_X1_countHolders
theorem dX1_countUnnoticed_0 : decode cX1_countUnnoticed 0 = .ok (.iconst 0, 1) := by decide +kernel
theorem dX1_countUnnoticed_1 : decode cX1_countUnnoticed 1 = .ok (.istore_n 1, 1) := by decide +kernel
theorem dX1_countUnnoticed_2 : decode cX1_countUnnoticed 2 = .ok (.iconst 0, 1) := by decide +kernel
theorem dX1_countUnnoticed_3 : decode cX1_countUnnoticed 3 = .ok (.istore_n 2, 1) := by decide +kernel
theorem dX1_countUnnoticed_4 : decode cX1_countUnnoticed 4 = .ok (.iload_n 2, 1) := by decide +kernel
theorem dX1_countUnnoticed_5 : decode cX1_countUnnoticed 5 = .ok (.bipush 8, 2) := by decide +kernel
theorem dX1_countUnnoticed_7 : decode cX1_countUnnoticed 7 = .ok (.if_icmp .ge 30, 3) := by decide +kernel
theorem dX1_countUnnoticed_10 : decode cX1_countUnnoticed 10 = .ok (.aload_n 0, 1) := by decide +kernel
theorem dX1_countUnnoticed_11 : decode cX1_countUnnoticed 11 = .ok (.getfield 9, 3) := by decide +kernel
theorem dX1_countUnnoticed_14 : decode cX1_countUnnoticed 14 = .ok (.iload_n 2, 1) := by decide +kernel
theorem dX1_countUnnoticed_15 : decode cX1_countUnnoticed 15 = .ok (.baload, 1) := by decide +kernel
theorem dX1_countUnnoticed_16 : decode cX1_countUnnoticed 16 = .ok (.ifCond .eq 15, 3) := by decide +kernel
theorem dX1_countUnnoticed_19 : decode cX1_countUnnoticed 19 = .ok (.aload_n 0, 1) := by decide +kernel
theorem dX1_countUnnoticed_20 : decode cX1_countUnnoticed 20 = .ok (.iload_n 2, 1) := by decide +kernel
theorem dX1_countUnnoticed_21 : decode cX1_countUnnoticed 21 = .ok (.iconst 0, 1) := by decide +kernel
theorem dX1_countUnnoticed_22 : decode cX1_countUnnoticed 22 = .ok (.invokevirtual 94, 3) := by decide +kernel
theorem dX1_countUnnoticed_25 : decode cX1_countUnnoticed 25 = .ok (.ifCond .le 6, 3) := by decide +kernel
theorem dX1_countUnnoticed_28 : decode cX1_countUnnoticed 28 = .ok (.iinc 1 1, 3) := by decide +kernel
theorem dX1_countUnnoticed_31 : decode cX1_countUnnoticed 31 = .ok (.iinc 2 1, 3) := by decide +kernel
theorem dX1_countUnnoticed_34 : decode cX1_countUnnoticed 34 = .ok (.goto (-30), 3) := by decide +kernel
theorem dX1_countUnnoticed_37 : decode cX1_countUnnoticed 37 = .ok (.iload_n 1, 1) := by decide +kernel
theorem dX1_countUnnoticed_38 : decode cX1_countUnnoticed 38 = .ok (.ireturn, 1) := by decide +kernel
set_option maxRecDepth 20000 in
theorem ggX1_countMistaken_X1_countHolders : GoodIn wsX1_countMistaken wsX1_countHolders := goodIn_r _ [6, 1, 7, 8, 9, 10, 11, 12, 13, 14, 15, 16, 17, 18, 19] (by decide +kernel) (by decide +kernel)
set_option maxRecDepth 20000 in
theorem gX1_countMistaken_X1_countHolders : GoodIn wsX1_countMistaken (wsV RX1 94 RX1 yX1_countHolders wsX1_countHolders) := goodIn_app (goodIn_of _ (by decide +kernel)) ggX1_countMistaken_X1_countHolders
theorem dX1_countMistaken_0 : decode cX1_countMistaken 0 = .ok (.iconst 0, 1) := by decide +kernel
theorem dX1_countMistaken_1 : decode cX1_countMistaken 1 = .ok (.istore_n 1, 1) := by decide +kernel
theorem dX1_countMistaken_2 : decode cX1_countMistaken 2 = .ok (.iconst 0, 1) := by decide +kernel
theorem dX1_countMistaken_3 : decode cX1_countMistaken 3 = .ok (.istore_n 2, 1) := by decide +kernel
theorem dX1_countMistaken_4 : decode cX1_countMistaken 4 = .ok (.iload_n 2, 1) := by decide +kernel
theorem dX1_countMistaken_5 : decode cX1_countMistaken 5 = .ok (.bipush 8, 2) := by decide +kernel
theorem dX1_countMistaken_7 : decode cX1_countMistaken 7 = .ok (.if_icmp .ge 27, 3) := by decide +kernel
theorem dX1_countMistaken_10 : decode cX1_countMistaken 10 = .ok (.aload_n 0, 1) := by decide +kernel
theorem dX1_countMistaken_11 : decode cX1_countMistaken 11 = .ok (.getfield 9, 3) := by decide +kernel
theorem dX1_countMistaken_14 : decode cX1_countMistaken 14 = .ok (.iload_n 2, 1) := by decide +kernel
theorem dX1_countMistaken_15 : decode cX1_countMistaken 15 = .ok (.baload, 1) := by decide +kernel
theorem dX1_countMistaken_16 : decode cX1_countMistaken 16 = .ok (.ifCond .ne 12, 3) := by decide +kernel
theorem dX1_countMistaken_19 : decode cX1_countMistaken 19 = .ok (.iload_n 1, 1) := by decide +kernel
theorem dX1_countMistaken_20 : decode cX1_countMistaken 20 = .ok (.aload_n 0, 1) := by decide +kernel
theorem dX1_countMistaken_21 : decode cX1_countMistaken 21 = .ok (.iload_n 2, 1) := by decide +kernel
theorem dX1_countMistaken_22 : decode cX1_countMistaken 22 = .ok (.iconst 2, 1) := by decide +kernel
theorem dX1_countMistaken_23 : decode cX1_countMistaken 23 = .ok (.invokevirtual 94, 3) := by decide +kernel
theorem dX1_countMistaken_26 : decode cX1_countMistaken 26 = .ok (.iadd, 1) := by decide +kernel
theorem dX1_countMistaken_27 : decode cX1_countMistaken 27 = .ok (.istore_n 1, 1) := by decide +kernel
theorem dX1_countMistaken_28 : decode cX1_countMistaken 28 = .ok (.iinc 2 1, 3) := by decide +kernel
theorem dX1_countMistaken_31 : decode cX1_countMistaken 31 = .ok (.goto (-27), 3) := by decide +kernel
theorem dX1_countMistaken_34 : decode cX1_countMistaken 34 = .ok (.iload_n 1, 1) := by decide +kernel
theorem dX1_countMistaken_35 : decode cX1_countMistaken 35 = .ok (.ireturn, 1) := by decide +kernel
theorem dX1_countHolders_0 : decode cX1_countHolders 0 = .ok (.iconst 0, 1) := by decide +kernel
theorem dX1_countHolders_1 : decode cX1_countHolders 1 = .ok (.istore_n 3, 1) := by decide +kernel
theorem dX1_countHolders_2 : decode cX1_countHolders 2 = .ok (.iconst 0, 1) := by decide +kernel
theorem dX1_countHolders_3 : decode cX1_countHolders 3 = .ok (.istore 4, 2) := by decide +kernel
theorem dX1_countHolders_5 : decode cX1_countHolders 5 = .ok (.iload 4, 2) := by decide +kernel
theorem dX1_countHolders_7 : decode cX1_countHolders 7 = .ok (.bipush 8, 2) := by decide +kernel
theorem dX1_countHolders_9 : decode cX1_countHolders 9 = .ok (.if_icmp .ge 35, 3) := by decide +kernel
theorem dX1_countHolders_12 : decode cX1_countHolders 12 = .ok (.aload_n 0, 1) := by decide +kernel
theorem dX1_countHolders_13 : decode cX1_countHolders 13 = .ok (.getfield 9, 3) := by decide +kernel
theorem dX1_countHolders_16 : decode cX1_countHolders 16 = .ok (.iload 4, 2) := by decide +kernel
theorem dX1_countHolders_18 : decode cX1_countHolders 18 = .ok (.baload, 1) := by decide +kernel
theorem dX1_countHolders_19 : decode cX1_countHolders 19 = .ok (.ifCond .ne 19, 3) := by decide +kernel
theorem dX1_countHolders_22 : decode cX1_countHolders 22 = .ok (.aload_n 0, 1) := by decide +kernel
theorem dX1_countHolders_23 : decode cX1_countHolders 23 = .ok (.getfield 39, 3) := by decide +kernel
theorem dX1_countHolders_26 : decode cX1_countHolders 26 = .ok (.iload 4, 2) := by decide +kernel
theorem dX1_countHolders_28 : decode cX1_countHolders 28 = .ok (.aaload, 1) := by decide +kernel
theorem dX1_countHolders_29 : decode cX1_countHolders 29 = .ok (.iload_n 1, 1) := by decide +kernel
theorem dX1_countHolders_30 : decode cX1_countHolders 30 = .ok (.iaload, 1) := by decide +kernel
theorem dX1_countHolders_31 : decode cX1_countHolders 31 = .ok (.iload_n 2, 1) := by decide +kernel
theorem dX1_countHolders_32 : decode cX1_countHolders 32 = .ok (.if_icmp .ne 6, 3) := by decide +kernel
theorem dX1_countHolders_35 : decode cX1_countHolders 35 = .ok (.iinc 3 1, 3) := by decide +kernel
theorem dX1_countHolders_38 : decode cX1_countHolders 38 = .ok (.iinc 4 1, 3) := by decide +kernel
theorem dX1_countHolders_41 : decode cX1_countHolders 41 = .ok (.goto (-36), 3) := by decide +kernel
theorem dX1_countHolders_44 : decode cX1_countHolders 44 = .ok (.iload_n 3, 1) := by decide +kernel
theorem dX1_countHolders_45 : decode cX1_countHolders 45 = .ok (.ireturn, 1) := by decide +kernel
set_option maxRecDepth 20000 in
theorem ggX2_init_J7_fill_53178 : GoodIn wsX2_init wsJ7_fill_53178 := goodIn_r _ [16] (by decide +kernel) (by decide +kernel)
set_option maxRecDepth 20000 in
theorem gX2_init_J7_fill_53178 : GoodIn wsX2_init (va_wsS RX2 37 yJ7_fill_53178 wsJ7_fill_53178) := goodIn_app (goodIn_of _ (by decide +kernel)) ggX2_init_J7_fill_53178
theorem dX2_init_0 : decode cX2_init 0 = .ok (.aload_n 0, 1) := by decide +kernel
theorem dX2_init_1 : decode cX2_init 1 = .ok (.invokespecial 3, 3) := by decide +kernel
theorem dX2_init_4 : decode cX2_init 4 = .ok (.aload_n 0, 1) := by decide +kernel
theorem dX2_init_5 : decode cX2_init 5 = .ok (.bipush 8, 2) := by decide +kernel
theorem dX2_init_7 : decode cX2_init 7 = .ok (.newarray .int, 2) := by decide +kernel
theorem dX2_init_9 : decode cX2_init 9 = .ok (.putfield 9, 3) := by decide +kernel
theorem dX2_init_12 : decode cX2_init 12 = .ok (.aload_n 0, 1) := by decide +kernel
theorem dX2_init_13 : decode cX2_init 13 = .ok (.bipush 8, 2) := by decide +kernel
theorem dX2_init_15 : decode cX2_init 15 = .ok (.newarray .int, 2) := by decide +kernel
theorem dX2_init_17 : decode cX2_init 17 = .ok (.putfield 15, 3) := by decide +kernel
theorem dX2_init_20 : decode cX2_init 20 = .ok (.aload_n 0, 1) := by decide +kernel
theorem dX2_init_21 : decode cX2_init 21 = .ok (.bipush 8, 2) := by decide +kernel
theorem dX2_init_23 : decode cX2_init 23 = .ok (.newarray .int, 2) := by decide +kernel
theorem dX2_init_25 : decode cX2_init 25 = .ok (.putfield 18, 3) := by decide +kernel
theorem dX2_init_28 : decode cX2_init 28 = .ok (.aload_n 0, 1) := by decide +kernel
theorem dX2_init_29 : decode cX2_init 29 = .ok (.bipush 8, 2) := by decide +kernel
theorem dX2_init_31 : decode cX2_init 31 = .ok (.newarray .int, 2) := by decide +kernel
theorem dX2_init_33 : decode cX2_init 33 = .ok (.putfield 21, 3) := by decide +kernel
theorem dX2_init_36 : decode cX2_init 36 = .ok (.aload_n 0, 1) := by decide +kernel
theorem dX2_init_37 : decode cX2_init 37 = .ok (.bipush 8, 2) := by decide +kernel
theorem dX2_init_39 : decode cX2_init 39 = .ok (.newarray .int, 2) := by decide +kernel
theorem dX2_init_41 : decode cX2_init 41 = .ok (.putfield 24, 3) := by decide +kernel
theorem dX2_init_44 : decode cX2_init 44 = .ok (.aload_n 0, 1) := by decide +kernel
theorem dX2_init_45 : decode cX2_init 45 = .ok (.bipush 8, 2) := by decide +kernel
theorem dX2_init_47 : decode cX2_init 47 = .ok (.newarray .int, 2) := by decide +kernel
theorem dX2_init_49 : decode cX2_init 49 = .ok (.putfield 27, 3) := by decide +kernel
theorem dX2_init_52 : decode cX2_init 52 = .ok (.aload_n 0, 1) := by decide +kernel
theorem dX2_init_53 : decode cX2_init 53 = .ok (.bipush 8, 2) := by decide +kernel
theorem dX2_init_55 : decode cX2_init 55 = .ok (.newarray .int, 2) := by decide +kernel
theorem dX2_init_57 : decode cX2_init 57 = .ok (.putfield 30, 3) := by decide +kernel
theorem dX2_init_60 : decode cX2_init 60 = .ok (.aload_n 0, 1) := by decide +kernel
theorem dX2_init_61 : decode cX2_init 61 = .ok (.iconst 0, 1) := by decide +kernel
theorem dX2_init_62 : decode cX2_init 62 = .ok (.putfield 33, 3) := by decide +kernel
theorem dX2_init_65 : decode cX2_init 65 = .ok (.aload_n 0, 1) := by decide +kernel
theorem dX2_init_66 : decode cX2_init 66 = .ok (.getfield 9, 3) := by decide +kernel
theorem dX2_init_69 : decode cX2_init 69 = .ok (.bipush 10, 2) := by decide +kernel
theorem dX2_init_71 : decode cX2_init 71 = .ok (.invokestatic 37, 3) := by decide +kernel
theorem dX2_init_74 : decode cX2_init 74 = .ok (.aload_n 0, 1) := by decide +kernel
theorem dX2_init_75 : decode cX2_init 75 = .ok (.getfield 15, 3) := by decide +kernel
theorem dX2_init_78 : decode cX2_init 78 = .ok (.bipush 100, 2) := by decide +kernel
theorem dX2_init_80 : decode cX2_init 80 = .ok (.invokestatic 37, 3) := by decide +kernel
theorem dX2_init_83 : decode cX2_init 83 = .ok (.return_, 1) := by decide +kernel
theorem dX2_levelOf_0 : decode cX2_levelOf 0 = .ok (.aload_n 0, 1) := by decide +kernel
theorem dX2_levelOf_1 : decode cX2_levelOf 1 = .ok (.getfield 9, 3) := by decide +kernel
theorem dX2_levelOf_4 : decode cX2_levelOf 4 = .ok (.iload_n 1, 1) := by decide +kernel
theorem dX2_levelOf_5 : decode cX2_levelOf 5 = .ok (.iaload, 1) := by decide +kernel
theorem dX2_levelOf_6 : decode cX2_levelOf 6 = .ok (.istore_n 2, 1) := by decide +kernel
theorem dX2_levelOf_7 : decode cX2_levelOf 7 = .ok (.iload_n 2, 1) := by decide +kernel
theorem dX2_levelOf_8 : decode cX2_levelOf 8 = .ok (.iconst 1, 1) := by decide +kernel
theorem dX2_levelOf_9 : decode cX2_levelOf 9 = .ok (.if_icmp .ge 7, 3) := by decide +kernel
theorem dX2_levelOf_12 : decode cX2_levelOf 12 = .ok (.iconst 0, 1) := by decide +kernel
theorem dX2_levelOf_13 : decode cX2_levelOf 13 = .ok (.goto 11, 3) := by decide +kernel
theorem dX2_levelOf_16 : decode cX2_levelOf 16 = .ok (.aload_n 0, 1) := by decide +kernel
theorem dX2_levelOf_17 : decode cX2_levelOf 17 = .ok (.getfield 18, 3) := by decide +kernel
theorem dX2_levelOf_20 : decode cX2_levelOf 20 = .ok (.iload_n 1, 1) := by decide +kernel
theorem dX2_levelOf_21 : decode cX2_levelOf 21 = .ok (.iaload, 1) := by decide +kernel
theorem dX2_levelOf_22 : decode cX2_levelOf 22 = .ok (.iload_n 2, 1) := by decide +kernel
theorem dX2_levelOf_23 : decode cX2_levelOf 23 = .ok (.idiv, 1) := by decide +kernel
theorem dX2_levelOf_24 : decode cX2_levelOf 24 = .ok (.ireturn, 1) := by decide +kernel
theorem dX2_balanceOf_0 : decode cX2_balanceOf 0 = .ok (.aload_n 0, 1) := by decide +kernel
theorem dX2_balanceOf_1 : decode cX2_balanceOf 1 = .ok (.getfield 24, 3) := by decide +kernel
theorem dX2_balanceOf_4 : decode cX2_balanceOf 4 = .ok (.iload_n 1, 1) := by decide +kernel
theorem dX2_balanceOf_5 : decode cX2_balanceOf 5 = .ok (.iaload, 1) := by decide +kernel
theorem dX2_balanceOf_6 : decode cX2_balanceOf 6 = .ok (.istore_n 2, 1) := by decide +kernel
theorem dX2_balanceOf_7 : decode cX2_balanceOf 7 = .ok (.iload_n 1, 1) := by decide +kernel
theorem dX2_balanceOf_8 : decode cX2_balanceOf 8 = .ok (.ifCond .le 23, 3) := by decide +kernel
theorem dX2_balanceOf_11 : decode cX2_balanceOf 11 = .ok (.iload_n 2, 1) := by decide +kernel
theorem dX2_balanceOf_12 : decode cX2_balanceOf 12 = .ok (.aload_n 0, 1) := by decide +kernel
theorem dX2_balanceOf_13 : decode cX2_balanceOf 13 = .ok (.getfield 27, 3) := by decide +kernel
theorem dX2_balanceOf_16 : decode cX2_balanceOf 16 = .ok (.iload_n 1, 1) := by decide +kernel
theorem dX2_balanceOf_17 : decode cX2_balanceOf 17 = .ok (.iconst 1, 1) := by decide +kernel
theorem dX2_balanceOf_18 : decode cX2_balanceOf 18 = .ok (.isub, 1) := by decide +kernel
theorem dX2_balanceOf_19 : decode cX2_balanceOf 19 = .ok (.iaload, 1) := by decide +kernel
theorem dX2_balanceOf_20 : decode cX2_balanceOf 20 = .ok (.aload_n 0, 1) := by decide +kernel
theorem dX2_balanceOf_21 : decode cX2_balanceOf 21 = .ok (.getfield 30, 3) := by decide +kernel
theorem dX2_balanceOf_24 : decode cX2_balanceOf 24 = .ok (.iload_n 1, 1) := by decide +kernel
theorem dX2_balanceOf_25 : decode cX2_balanceOf 25 = .ok (.iconst 1, 1) := by decide +kernel
theorem dX2_balanceOf_26 : decode cX2_balanceOf 26 = .ok (.isub, 1) := by decide +kernel
theorem dX2_balanceOf_27 : decode cX2_balanceOf 27 = .ok (.iaload, 1) := by decide +kernel
theorem dX2_balanceOf_28 : decode cX2_balanceOf 28 = .ok (.iadd, 1) := by decide +kernel
theorem dX2_balanceOf_29 : decode cX2_balanceOf 29 = .ok (.iadd, 1) := by decide +kernel
theorem dX2_balanceOf_30 : decode cX2_balanceOf 30 = .ok (.istore_n 2, 1) := by decide +kernel
theorem dX2_balanceOf_31 : decode cX2_balanceOf 31 = .ok (.iload_n 2, 1) := by decide +kernel
theorem dX2_balanceOf_32 : decode cX2_balanceOf 32 = .ok (.aload_n 0, 1) := by decide +kernel
theorem dX2_balanceOf_33 : decode cX2_balanceOf 33 = .ok (.getfield 27, 3) := by decide +kernel
theorem dX2_balanceOf_36 : decode cX2_balanceOf 36 = .ok (.iload_n 1, 1) := by decide +kernel
theorem dX2_balanceOf_37 : decode cX2_balanceOf 37 = .ok (.iaload, 1) := by decide +kernel
theorem dX2_balanceOf_38 : decode cX2_balanceOf 38 = .ok (.isub, 1) := by decide +kernel
theorem dX2_balanceOf_39 : decode cX2_balanceOf 39 = .ok (.aload_n 0, 1) := by decide +kernel
theorem dX2_balanceOf_40 : decode cX2_balanceOf 40 = .ok (.getfield 30, 3) := by decide +kernel
theorem dX2_balanceOf_43 : decode cX2_balanceOf 43 = .ok (.iload_n 1, 1) := by decide +kernel
theorem dX2_balanceOf_44 : decode cX2_balanceOf 44 = .ok (.iaload, 1) := by decide +kernel
theorem dX2_balanceOf_45 : decode cX2_balanceOf 45 = .ok (.isub, 1) := by decide +kernel
theorem dX2_balanceOf_46 : decode cX2_balanceOf 46 = .ok (.ireturn, 1) := by decide +kernel
set_option maxRecDepth 20000 in
theorem ggX2_takeIn_X2_receive : GoodIn wsX2_takeIn wsX2_receive := goodIn_r _ [7, 8, 9, 10, 11, 12, 13, 14, 15, 16, 17] (by decide +kernel) (by decide +kernel)
set_option maxRecDepth 20000 in
theorem gX2_takeIn_X2_receive : GoodIn wsX2_takeIn (wsV RX2 43 RX2 yX2_receive wsX2_receive) := goodIn_app (goodIn_of _ (by decide +kernel)) ggX2_takeIn_X2_receive
theorem dX2_takeIn_0 : decode cX2_takeIn 0 = .ok (.aload_n 0, 1) := by decide +kernel
theorem dX2_takeIn_1 : decode cX2_takeIn 1 = .ok (.iconst 0, 1) := by decide +kernel
theorem dX2_takeIn_2 : decode cX2_takeIn 2 = .ok (.aload_n 0, 1) := by decide +kernel
theorem dX2_takeIn_3 : decode cX2_takeIn 3 = .ok (.getfield 33, 3) := by decide +kernel
theorem dX2_takeIn_6 : decode cX2_takeIn 6 = .ok (.invokevirtual 43, 3) := by decide +kernel
theorem dX2_takeIn_9 : decode cX2_takeIn 9 = .ok (.iconst 0, 1) := by decide +kernel
theorem dX2_takeIn_10 : decode cX2_takeIn 10 = .ok (.istore_n 1, 1) := by decide +kernel
theorem dX2_takeIn_11 : decode cX2_takeIn 11 = .ok (.iload_n 1, 1) := by decide +kernel
theorem dX2_takeIn_12 : decode cX2_takeIn 12 = .ok (.bipush 8, 2) := by decide +kernel
theorem dX2_takeIn_14 : decode cX2_takeIn 14 = .ok (.if_icmp .ge 27, 3) := by decide +kernel
theorem dX2_takeIn_17 : decode cX2_takeIn 17 = .ok (.aload_n 0, 1) := by decide +kernel
theorem dX2_takeIn_18 : decode cX2_takeIn 18 = .ok (.iload_n 1, 1) := by decide +kernel
theorem dX2_takeIn_19 : decode cX2_takeIn 19 = .ok (.aload_n 0, 1) := by decide +kernel
theorem dX2_takeIn_20 : decode cX2_takeIn 20 = .ok (.getfield 21, 3) := by decide +kernel
theorem dX2_takeIn_23 : decode cX2_takeIn 23 = .ok (.iload_n 1, 1) := by decide +kernel
theorem dX2_takeIn_24 : decode cX2_takeIn 24 = .ok (.iaload, 1) := by decide +kernel
theorem dX2_takeIn_25 : decode cX2_takeIn 25 = .ok (.invokevirtual 43, 3) := by decide +kernel
theorem dX2_takeIn_28 : decode cX2_takeIn 28 = .ok (.aload_n 0, 1) := by decide +kernel
theorem dX2_takeIn_29 : decode cX2_takeIn 29 = .ok (.getfield 21, 3) := by decide +kernel
theorem dX2_takeIn_32 : decode cX2_takeIn 32 = .ok (.iload_n 1, 1) := by decide +kernel
theorem dX2_takeIn_33 : decode cX2_takeIn 33 = .ok (.iconst 0, 1) := by decide +kernel
theorem dX2_takeIn_34 : decode cX2_takeIn 34 = .ok (.iastore, 1) := by decide +kernel
theorem dX2_takeIn_35 : decode cX2_takeIn 35 = .ok (.iinc 1 1, 3) := by decide +kernel
theorem dX2_takeIn_38 : decode cX2_takeIn 38 = .ok (.goto (-27), 3) := by decide +kernel
theorem dX2_takeIn_41 : decode cX2_takeIn 41 = .ok (.return_, 1) := by decide +kernel
theorem dX2_receive_0 : decode cX2_receive 0 = .ok (.aload_n 0, 1) := by decide +kernel
theorem dX2_receive_1 : decode cX2_receive 1 = .ok (.getfield 18, 3) := by decide +kernel
theorem dX2_receive_4 : decode cX2_receive 4 = .ok (.iload_n 1, 1) := by decide +kernel
theorem dX2_receive_5 : decode cX2_receive 5 = .ok (.dup2, 1) := by decide +kernel
theorem dX2_receive_6 : decode cX2_receive 6 = .ok (.iaload, 1) := by decide +kernel
theorem dX2_receive_7 : decode cX2_receive 7 = .ok (.iload_n 2, 1) := by decide +kernel
theorem dX2_receive_8 : decode cX2_receive 8 = .ok (.iadd, 1) := by decide +kernel
theorem dX2_receive_9 : decode cX2_receive 9 = .ok (.iastore, 1) := by decide +kernel
theorem dX2_receive_10 : decode cX2_receive 10 = .ok (.aload_n 0, 1) := by decide +kernel
theorem dX2_receive_11 : decode cX2_receive 11 = .ok (.getfield 24, 3) := by decide +kernel
theorem dX2_receive_14 : decode cX2_receive 14 = .ok (.iload_n 1, 1) := by decide +kernel
theorem dX2_receive_15 : decode cX2_receive 15 = .ok (.dup2, 1) := by decide +kernel
theorem dX2_receive_16 : decode cX2_receive 16 = .ok (.iaload, 1) := by decide +kernel
theorem dX2_receive_17 : decode cX2_receive 17 = .ok (.iload_n 2, 1) := by decide +kernel
theorem dX2_receive_18 : decode cX2_receive 18 = .ok (.iadd, 1) := by decide +kernel
theorem dX2_receive_19 : decode cX2_receive 19 = .ok (.iastore, 1) := by decide +kernel
theorem dX2_receive_20 : decode cX2_receive 20 = .ok (.return_, 1) := by decide +kernel
set_option maxRecDepth 20000 in
theorem ggX2_letThrough_X0_mostThrough : GoodIn wsX2_letThrough wsX0_mostThrough := goodIn_r _ [11, 12, 13, 27, 28, 29, 30, 31, 32, 33, 34] (by decide +kernel) (by decide +kernel)
set_option maxRecDepth 20000 in
theorem gX2_letThrough_X0_mostThrough : GoodIn wsX2_letThrough (wsV RX2 47 RX0 yX0_mostThrough wsX0_mostThrough) := goodIn_app (goodIn_of _ (by decide +kernel)) ggX2_letThrough_X0_mostThrough
set_option maxRecDepth 20000 in
theorem ggX2_letThrough_X2_moveOn : GoodIn wsX2_letThrough wsX2_moveOn := goodIn_r _ [18, 1, 19, 20, 21, 22, 23, 24, 25, 26] (by decide +kernel) (by decide +kernel)
set_option maxRecDepth 20000 in
theorem gX2_letThrough_X2_moveOn : GoodIn wsX2_letThrough (wsV RX2 59 RX2 yX2_moveOn wsX2_moveOn) := goodIn_app (goodIn_of _ (by decide +kernel)) ggX2_letThrough_X2_moveOn
theorem dX2_letThrough_0 : decode cX2_letThrough 0 = .ok (.bipush 7, 2) := by decide +kernel
theorem dX2_letThrough_2 : decode cX2_letThrough 2 = .ok (.istore_n 2, 1) := by decide +kernel
theorem dX2_letThrough_3 : decode cX2_letThrough 3 = .ok (.iload_n 2, 1) := by decide +kernel
theorem dX2_letThrough_4 : decode cX2_letThrough 4 = .ok (.ifCond .lt 40, 3) := by decide +kernel
theorem dX2_letThrough_7 : decode cX2_letThrough 7 = .ok (.aload_n 1, 1) := by decide +kernel
theorem dX2_letThrough_8 : decode cX2_letThrough 8 = .ok (.iload_n 2, 1) := by decide +kernel
theorem dX2_letThrough_9 : decode cX2_letThrough 9 = .ok (.invokevirtual 47, 3) := by decide +kernel
theorem dX2_letThrough_12 : decode cX2_letThrough 12 = .ok (.aload_n 0, 1) := by decide +kernel
theorem dX2_letThrough_13 : decode cX2_letThrough 13 = .ok (.getfield 18, 3) := by decide +kernel
theorem dX2_letThrough_16 : decode cX2_letThrough 16 = .ok (.iload_n 2, 1) := by decide +kernel
theorem dX2_letThrough_17 : decode cX2_letThrough 17 = .ok (.iaload, 1) := by decide +kernel
theorem dX2_letThrough_18 : decode cX2_letThrough 18 = .ok (.invokestatic 53, 3) := by decide +kernel
theorem dX2_letThrough_21 : decode cX2_letThrough 21 = .ok (.istore_n 3, 1) := by decide +kernel
theorem dX2_letThrough_22 : decode cX2_letThrough 22 = .ok (.aload_n 0, 1) := by decide +kernel
theorem dX2_letThrough_23 : decode cX2_letThrough 23 = .ok (.getfield 27, 3) := by decide +kernel
theorem dX2_letThrough_26 : decode cX2_letThrough 26 = .ok (.iload_n 2, 1) := by decide +kernel
theorem dX2_letThrough_27 : decode cX2_letThrough 27 = .ok (.dup2, 1) := by decide +kernel
theorem dX2_letThrough_28 : decode cX2_letThrough 28 = .ok (.iaload, 1) := by decide +kernel
theorem dX2_letThrough_29 : decode cX2_letThrough 29 = .ok (.iload_n 3, 1) := by decide +kernel
theorem dX2_letThrough_30 : decode cX2_letThrough 30 = .ok (.iadd, 1) := by decide +kernel
theorem dX2_letThrough_31 : decode cX2_letThrough 31 = .ok (.iastore, 1) := by decide +kernel
theorem dX2_letThrough_32 : decode cX2_letThrough 32 = .ok (.aload_n 0, 1) := by decide +kernel
theorem dX2_letThrough_33 : decode cX2_letThrough 33 = .ok (.iload_n 2, 1) := by decide +kernel
theorem dX2_letThrough_34 : decode cX2_letThrough 34 = .ok (.iload_n 3, 1) := by decide +kernel
theorem dX2_letThrough_35 : decode cX2_letThrough 35 = .ok (.invokevirtual 59, 3) := by decide +kernel
theorem dX2_letThrough_38 : decode cX2_letThrough 38 = .ok (.iinc 2 (-1), 3) := by decide +kernel
theorem dX2_letThrough_41 : decode cX2_letThrough 41 = .ok (.goto (-38), 3) := by decide +kernel
theorem dX2_letThrough_44 : decode cX2_letThrough 44 = .ok (.return_, 1) := by decide +kernel
set_option maxRecDepth 20000 in
theorem ggX2_spillOver_X2_moveOn : GoodIn wsX2_spillOver wsX2_moveOn := goodIn_r _ [13, 1, 14, 15, 16, 17, 18, 19, 20, 21] (by decide +kernel) (by decide +kernel)
set_option maxRecDepth 20000 in
theorem gX2_spillOver_X2_moveOn : GoodIn wsX2_spillOver (wsV RX2 59 RX2 yX2_moveOn wsX2_moveOn) := goodIn_app (goodIn_of _ (by decide +kernel)) ggX2_spillOver_X2_moveOn
theorem dX2_spillOver_0 : decode cX2_spillOver 0 = .ok (.iconst 0, 1) := by decide +kernel
theorem dX2_spillOver_1 : decode cX2_spillOver 1 = .ok (.istore_n 1, 1) := by decide +kernel
theorem dX2_spillOver_2 : decode cX2_spillOver 2 = .ok (.iconst 0, 1) := by decide +kernel
theorem dX2_spillOver_3 : decode cX2_spillOver 3 = .ok (.istore_n 2, 1) := by decide +kernel
theorem dX2_spillOver_4 : decode cX2_spillOver 4 = .ok (.iload_n 2, 1) := by decide +kernel
theorem dX2_spillOver_5 : decode cX2_spillOver 5 = .ok (.bipush 8, 2) := by decide +kernel
theorem dX2_spillOver_7 : decode cX2_spillOver 7 = .ok (.if_icmp .ge 54, 3) := by decide +kernel
theorem dX2_spillOver_10 : decode cX2_spillOver 10 = .ok (.aload_n 0, 1) := by decide +kernel
theorem dX2_spillOver_11 : decode cX2_spillOver 11 = .ok (.getfield 18, 3) := by decide +kernel
theorem dX2_spillOver_14 : decode cX2_spillOver 14 = .ok (.iload_n 2, 1) := by decide +kernel
theorem dX2_spillOver_15 : decode cX2_spillOver 15 = .ok (.iaload, 1) := by decide +kernel
theorem dX2_spillOver_16 : decode cX2_spillOver 16 = .ok (.aload_n 0, 1) := by decide +kernel
theorem dX2_spillOver_17 : decode cX2_spillOver 17 = .ok (.getfield 9, 3) := by decide +kernel
theorem dX2_spillOver_20 : decode cX2_spillOver 20 = .ok (.iload_n 2, 1) := by decide +kernel
theorem dX2_spillOver_21 : decode cX2_spillOver 21 = .ok (.iaload, 1) := by decide +kernel
theorem dX2_spillOver_22 : decode cX2_spillOver 22 = .ok (.aload_n 0, 1) := by decide +kernel
theorem dX2_spillOver_23 : decode cX2_spillOver 23 = .ok (.getfield 15, 3) := by decide +kernel
theorem dX2_spillOver_26 : decode cX2_spillOver 26 = .ok (.iload_n 2, 1) := by decide +kernel
theorem dX2_spillOver_27 : decode cX2_spillOver 27 = .ok (.iaload, 1) := by decide +kernel
theorem dX2_spillOver_28 : decode cX2_spillOver 28 = .ok (.imul, 1) := by decide +kernel
theorem dX2_spillOver_29 : decode cX2_spillOver 29 = .ok (.isub, 1) := by decide +kernel
theorem dX2_spillOver_30 : decode cX2_spillOver 30 = .ok (.iconst 0, 1) := by decide +kernel
theorem dX2_spillOver_31 : decode cX2_spillOver 31 = .ok (.invokestatic 62, 3) := by decide +kernel
theorem dX2_spillOver_34 : decode cX2_spillOver 34 = .ok (.istore_n 3, 1) := by decide +kernel
theorem dX2_spillOver_35 : decode cX2_spillOver 35 = .ok (.aload_n 0, 1) := by decide +kernel
theorem dX2_spillOver_36 : decode cX2_spillOver 36 = .ok (.getfield 30, 3) := by decide +kernel
theorem dX2_spillOver_39 : decode cX2_spillOver 39 = .ok (.iload_n 2, 1) := by decide +kernel
theorem dX2_spillOver_40 : decode cX2_spillOver 40 = .ok (.dup2, 1) := by decide +kernel
theorem dX2_spillOver_41 : decode cX2_spillOver 41 = .ok (.iaload, 1) := by decide +kernel
theorem dX2_spillOver_42 : decode cX2_spillOver 42 = .ok (.iload_n 3, 1) := by decide +kernel
theorem dX2_spillOver_43 : decode cX2_spillOver 43 = .ok (.iadd, 1) := by decide +kernel
theorem dX2_spillOver_44 : decode cX2_spillOver 44 = .ok (.iastore, 1) := by decide +kernel
theorem dX2_spillOver_45 : decode cX2_spillOver 45 = .ok (.aload_n 0, 1) := by decide +kernel
theorem dX2_spillOver_46 : decode cX2_spillOver 46 = .ok (.iload_n 2, 1) := by decide +kernel
theorem dX2_spillOver_47 : decode cX2_spillOver 47 = .ok (.iload_n 3, 1) := by decide +kernel
theorem dX2_spillOver_48 : decode cX2_spillOver 48 = .ok (.invokevirtual 59, 3) := by decide +kernel
theorem dX2_spillOver_51 : decode cX2_spillOver 51 = .ok (.iload_n 1, 1) := by decide +kernel
theorem dX2_spillOver_52 : decode cX2_spillOver 52 = .ok (.iload_n 3, 1) := by decide +kernel
theorem dX2_spillOver_53 : decode cX2_spillOver 53 = .ok (.iadd, 1) := by decide +kernel
theorem dX2_spillOver_54 : decode cX2_spillOver 54 = .ok (.istore_n 1, 1) := by decide +kernel
theorem dX2_spillOver_55 : decode cX2_spillOver 55 = .ok (.iinc 2 1, 3) := by decide +kernel
theorem dX2_spillOver_58 : decode cX2_spillOver 58 = .ok (.goto (-54), 3) := by decide +kernel
theorem dX2_spillOver_61 : decode cX2_spillOver 61 = .ok (.iload_n 1, 1) := by decide +kernel
theorem dX2_spillOver_62 : decode cX2_spillOver 62 = .ok (.ireturn, 1) := by decide +kernel
theorem dX2_moveOn_0 : decode cX2_moveOn 0 = .ok (.aload_n 0, 1) := by decide +kernel
theorem dX2_moveOn_1 : decode cX2_moveOn 1 = .ok (.getfield 18, 3) := by decide +kernel
theorem dX2_moveOn_4 : decode cX2_moveOn 4 = .ok (.iload_n 1, 1) := by decide +kernel
theorem dX2_moveOn_5 : decode cX2_moveOn 5 = .ok (.dup2, 1) := by decide +kernel
theorem dX2_moveOn_6 : decode cX2_moveOn 6 = .ok (.iaload, 1) := by decide +kernel
theorem dX2_moveOn_7 : decode cX2_moveOn 7 = .ok (.iload_n 2, 1) := by decide +kernel
theorem dX2_moveOn_8 : decode cX2_moveOn 8 = .ok (.isub, 1) := by decide +kernel
theorem dX2_moveOn_9 : decode cX2_moveOn 9 = .ok (.iastore, 1) := by decide +kernel
theorem dX2_moveOn_10 : decode cX2_moveOn 10 = .ok (.iload_n 1, 1) := by decide +kernel
theorem dX2_moveOn_11 : decode cX2_moveOn 11 = .ok (.iconst 1, 1) := by decide +kernel
theorem dX2_moveOn_12 : decode cX2_moveOn 12 = .ok (.iadd, 1) := by decide +kernel
theorem dX2_moveOn_13 : decode cX2_moveOn 13 = .ok (.istore_n 3, 1) := by decide +kernel
theorem dX2_moveOn_14 : decode cX2_moveOn 14 = .ok (.iload_n 3, 1) := by decide +kernel
theorem dX2_moveOn_15 : decode cX2_moveOn 15 = .ok (.bipush 8, 2) := by decide +kernel
theorem dX2_moveOn_17 : decode cX2_moveOn 17 = .ok (.if_icmp .ge 13, 3) := by decide +kernel
theorem dX2_moveOn_20 : decode cX2_moveOn 20 = .ok (.aload_n 0, 1) := by decide +kernel
theorem dX2_moveOn_21 : decode cX2_moveOn 21 = .ok (.getfield 18, 3) := by decide +kernel
theorem dX2_moveOn_24 : decode cX2_moveOn 24 = .ok (.iload_n 3, 1) := by decide +kernel
theorem dX2_moveOn_25 : decode cX2_moveOn 25 = .ok (.dup2, 1) := by decide +kernel
theorem dX2_moveOn_26 : decode cX2_moveOn 26 = .ok (.iaload, 1) := by decide +kernel
theorem dX2_moveOn_27 : decode cX2_moveOn 27 = .ok (.iload_n 2, 1) := by decide +kernel
theorem dX2_moveOn_28 : decode cX2_moveOn 28 = .ok (.iadd, 1) := by decide +kernel
theorem dX2_moveOn_29 : decode cX2_moveOn 29 = .ok (.iastore, 1) := by decide +kernel
theorem dX2_moveOn_30 : decode cX2_moveOn 30 = .ok (.return_, 1) := by decide +kernel
theorem dJ7_fill_53178_0 : decode cJ7_fill_53178 0 = .ok (.iconst 0, 1) := by decide +kernel
theorem dJ7_fill_53178_1 : decode cJ7_fill_53178 1 = .ok (.istore_n 2, 1) := by decide +kernel
theorem dJ7_fill_53178_2 : decode cJ7_fill_53178 2 = .ok (.aload_n 0, 1) := by decide +kernel
theorem dJ7_fill_53178_3 : decode cJ7_fill_53178 3 = .ok (.arraylength, 1) := by decide +kernel
theorem dJ7_fill_53178_4 : decode cJ7_fill_53178 4 = .ok (.istore_n 3, 1) := by decide +kernel
theorem dJ7_fill_53178_5 : decode cJ7_fill_53178 5 = .ok (.iload_n 2, 1) := by decide +kernel
theorem dJ7_fill_53178_6 : decode cJ7_fill_53178 6 = .ok (.iload_n 3, 1) := by decide +kernel
theorem dJ7_fill_53178_7 : decode cJ7_fill_53178 7 = .ok (.if_icmp .ge 13, 3) := by decide +kernel
theorem dJ7_fill_53178_10 : decode cJ7_fill_53178 10 = .ok (.aload_n 0, 1) := by decide +kernel
theorem dJ7_fill_53178_11 : decode cJ7_fill_53178 11 = .ok (.iload_n 2, 1) := by decide +kernel
theorem dJ7_fill_53178_12 : decode cJ7_fill_53178 12 = .ok (.iload_n 1, 1) := by decide +kernel
theorem dJ7_fill_53178_13 : decode cJ7_fill_53178 13 = .ok (.iastore, 1) := by decide +kernel
theorem dJ7_fill_53178_14 : decode cJ7_fill_53178 14 = .ok (.iinc 2 1, 3) := by decide +kernel
theorem dJ7_fill_53178_17 : decode cJ7_fill_53178 17 = .ok (.goto (-12), 3) := by decide +kernel
theorem dJ7_fill_53178_20 : decode cJ7_fill_53178 20 = .ok (.return_, 1) := by decide +kernel
end
section
set_option maxRecDepth 20000 in
theorem ggX3_init_X2_init : GoodIn wsX3_init wsX2_init := goodIn_r _ [19, 20, 2, 3, 21, 22, 23, 24, 25, 26, 27, 28, 29, 30, 31, 32, 33, 64, 65, 66, 67, 68, 69, 70, 71] (by decide +kernel) (by decide +kernel)
set_option maxRecDepth 20000 in
theorem gX3_init_X2_init : GoodIn wsX3_init (wsX2_init) := ggX3_init_X2_init
set_option maxRecDepth 20000 in
theorem ggX3_init_X0_init : GoodIn wsX3_init wsX0_init := goodIn_r _ [36, 37, 2, 3, 21, 38, 39, 40, 41, 42, 43, 44, 45, 46, 47, 31, 32, 33, 76, 77, 78, 79, 80, 81, 82, 83] (by decide +kernel) (by decide +kernel)
set_option maxRecDepth 20000 in
theorem gX3_init_X0_init : GoodIn wsX3_init (wsX0_init) := ggX3_init_X0_init
set_option maxRecDepth 20000 in
theorem ggX3_init_X1_init : GoodIn wsX3_init wsX1_init := goodIn_r _ [49, 50, 2, 3, 45, 51, 52, 21, 53, 54, 55, 56, 57, 58, 59, 60, 61, 62, 63, 84, 85, 86, 87, 88, 89, 90, 91, 92, 93, 94, 95] (by decide +kernel) (by decide +kernel)
set_option maxRecDepth 20000 in
theorem gX3_init_X1_init_n25 : GoodIn wsX3_init (wsX1_init) := ggX3_init_X1_init
theorem dX3_init_0 : decode cX3_init 0 = .ok (.aload_n 0, 1) := by decide +kernel
theorem dX3_init_1 : decode cX3_init 1 = .ok (.invokespecial 1, 3) := by decide +kernel
theorem dX3_init_4 : decode cX3_init 4 = .ok (.aload_n 0, 1) := by decide +kernel
theorem dX3_init_5 : decode cX3_init 5 = .ok (.new 7, 3) := by decide +kernel
theorem dX3_init_8 : decode cX3_init 8 = .ok (.dup, 1) := by decide +kernel
theorem dX3_init_9 : decode cX3_init 9 = .ok (.invokespecial 9, 3) := by decide +kernel
theorem dX3_init_12 : decode cX3_init 12 = .ok (.putfield 10, 3) := by decide +kernel
theorem dX3_init_15 : decode cX3_init 15 = .ok (.aload_n 0, 1) := by decide +kernel
theorem dX3_init_16 : decode cX3_init 16 = .ok (.new 16, 3) := by decide +kernel
theorem dX3_init_19 : decode cX3_init 19 = .ok (.dup, 1) := by decide +kernel
theorem dX3_init_20 : decode cX3_init 20 = .ok (.invokespecial 18, 3) := by decide +kernel
theorem dX3_init_23 : decode cX3_init 23 = .ok (.putfield 19, 3) := by decide +kernel
theorem dX3_init_26 : decode cX3_init 26 = .ok (.aload_n 0, 1) := by decide +kernel
theorem dX3_init_27 : decode cX3_init 27 = .ok (.new 23, 3) := by decide +kernel
theorem dX3_init_30 : decode cX3_init 30 = .ok (.dup, 1) := by decide +kernel
theorem dX3_init_31 : decode cX3_init 31 = .ok (.invokespecial 25, 3) := by decide +kernel
theorem dX3_init_34 : decode cX3_init 34 = .ok (.putfield 26, 3) := by decide +kernel
theorem dX3_init_37 : decode cX3_init 37 = .ok (.aload_n 0, 1) := by decide +kernel
theorem dX3_init_38 : decode cX3_init 38 = .ok (.iconst 0, 1) := by decide +kernel
theorem dX3_init_39 : decode cX3_init 39 = .ok (.putfield 30, 3) := by decide +kernel
theorem dX3_init_42 : decode cX3_init 42 = .ok (.return_, 1) := by decide +kernel
set_option maxRecDepth 20000 in
theorem ggX3_shape_X3_requireNumber : GoodIn wsX3_shape wsX3_requireNumber := goodIn_ca (goodIn_r _ [7, 8, 9, 6, 10, 11, 12] (by decide +kernel) (by decide +kernel)) (goodIn_sub (fun _ h => List.mem_cons_of_mem _ (List.mem_append_right _ h)) (by decide +kernel))
set_option maxRecDepth 20000 in
theorem gX3_shape_X3_requireNumber : GoodIn wsX3_shape (va_wsS RX3 34 yX3_requireNumber wsX3_requireNumber) := goodIn_app (goodIn_of _ (by decide +kernel)) ggX3_shape_X3_requireNumber
set_option maxRecDepth 20000 in
theorem ggX3_shape_X3_requireWithin : GoodIn wsX3_shape wsX3_requireWithin := goodIn_ca (goodIn_r _ [10, 11, 12] (by decide +kernel) (by decide +kernel)) (goodIn_sub (fun _ h => List.mem_cons_of_mem _ (List.mem_append_right _ h)) (by decide +kernel))
set_option maxRecDepth 20000 in
theorem gX3_shape_X3_requireWithin : GoodIn wsX3_shape (va_wsS RX3 38 yX3_requireWithin wsX3_requireWithin) := goodIn_app (goodIn_of _ (by decide +kernel)) ggX3_shape_X3_requireWithin
theorem dX3_shape_0 : decode cX3_shape 0 = .ok (.iload_n 1, 1) := by decide +kernel
theorem dX3_shape_1 : decode cX3_shape 1 = .ok (.invokestatic 34, 3) := by decide +kernel
theorem dX3_shape_4 : decode cX3_shape 4 = .ok (.iload_n 2, 1) := by decide +kernel
theorem dX3_shape_5 : decode cX3_shape 5 = .ok (.iconst 1, 1) := by decide +kernel
theorem dX3_shape_6 : decode cX3_shape 6 = .ok (.bipush 100, 2) := by decide +kernel
theorem dX3_shape_8 : decode cX3_shape 8 = .ok (.invokestatic 38, 3) := by decide +kernel
theorem dX3_shape_11 : decode cX3_shape 11 = .ok (.iload_n 3, 1) := by decide +kernel
theorem dX3_shape_12 : decode cX3_shape 12 = .ok (.iconst 1, 1) := by decide +kernel
theorem dX3_shape_13 : decode cX3_shape 13 = .ok (.sipush 1000, 3) := by decide +kernel
theorem dX3_shape_16 : decode cX3_shape 16 = .ok (.invokestatic 38, 3) := by decide +kernel
theorem dX3_shape_19 : decode cX3_shape 19 = .ok (.aload_n 0, 1) := by decide +kernel
theorem dX3_shape_20 : decode cX3_shape 20 = .ok (.getfield 10, 3) := by decide +kernel
theorem dX3_shape_23 : decode cX3_shape 23 = .ok (.getfield 42, 3) := by decide +kernel
theorem dX3_shape_26 : decode cX3_shape 26 = .ok (.iload_n 1, 1) := by decide +kernel
theorem dX3_shape_27 : decode cX3_shape 27 = .ok (.iload_n 2, 1) := by decide +kernel
theorem dX3_shape_28 : decode cX3_shape 28 = .ok (.iastore, 1) := by decide +kernel
theorem dX3_shape_29 : decode cX3_shape 29 = .ok (.aload_n 0, 1) := by decide +kernel
theorem dX3_shape_30 : decode cX3_shape 30 = .ok (.getfield 10, 3) := by decide +kernel
theorem dX3_shape_33 : decode cX3_shape 33 = .ok (.getfield 46, 3) := by decide +kernel
theorem dX3_shape_36 : decode cX3_shape 36 = .ok (.iload_n 1, 1) := by decide +kernel
theorem dX3_shape_37 : decode cX3_shape 37 = .ok (.iload_n 3, 1) := by decide +kernel
theorem dX3_shape_38 : decode cX3_shape 38 = .ok (.iastore, 1) := by decide +kernel
theorem dX3_shape_39 : decode cX3_shape 39 = .ok (.return_, 1) := by decide +kernel
set_option maxRecDepth 20000 in
theorem ggX3_setGauge_X3_requireNumber : GoodIn wsX3_setGauge wsX3_requireNumber := goodIn_ca (goodIn_r _ [6, 7, 8, 5, 9, 10, 11] (by decide +kernel) (by decide +kernel)) (goodIn_sub (fun _ h => List.mem_cons_of_mem _ (List.mem_append_right _ h)) (by decide +kernel))
set_option maxRecDepth 20000 in
theorem gX3_setGauge_X3_requireNumber : GoodIn wsX3_setGauge (va_wsS RX3 34 yX3_requireNumber wsX3_requireNumber) := goodIn_app (goodIn_of _ (by decide +kernel)) ggX3_setGauge_X3_requireNumber
set_option maxRecDepth 20000 in
theorem ggX3_setGauge_X3_requireWithin : GoodIn wsX3_setGauge wsX3_requireWithin := goodIn_ca (goodIn_r _ [9, 10, 11] (by decide +kernel) (by decide +kernel)) (goodIn_sub (fun _ h => List.mem_cons_of_mem _ (List.mem_append_right _ h)) (by decide +kernel))
set_option maxRecDepth 20000 in
theorem gX3_setGauge_X3_requireWithin : GoodIn wsX3_setGauge (va_wsS RX3 38 yX3_requireWithin wsX3_requireWithin) := goodIn_app (goodIn_of _ (by decide +kernel)) ggX3_setGauge_X3_requireWithin
theorem dX3_setGauge_0 : decode cX3_setGauge 0 = .ok (.iload_n 1, 1) := by decide +kernel
theorem dX3_setGauge_1 : decode cX3_setGauge 1 = .ok (.invokestatic 34, 3) := by decide +kernel
theorem dX3_setGauge_4 : decode cX3_setGauge 4 = .ok (.iload_n 2, 1) := by decide +kernel
theorem dX3_setGauge_5 : decode cX3_setGauge 5 = .ok (.iconst 1, 1) := by decide +kernel
theorem dX3_setGauge_6 : decode cX3_setGauge 6 = .ok (.bipush 50, 2) := by decide +kernel
theorem dX3_setGauge_8 : decode cX3_setGauge 8 = .ok (.invokestatic 38, 3) := by decide +kernel
theorem dX3_setGauge_11 : decode cX3_setGauge 11 = .ok (.aload_n 0, 1) := by decide +kernel
theorem dX3_setGauge_12 : decode cX3_setGauge 12 = .ok (.getfield 19, 3) := by decide +kernel
theorem dX3_setGauge_15 : decode cX3_setGauge 15 = .ok (.getfield 49, 3) := by decide +kernel
theorem dX3_setGauge_18 : decode cX3_setGauge 18 = .ok (.iload_n 1, 1) := by decide +kernel
theorem dX3_setGauge_19 : decode cX3_setGauge 19 = .ok (.iaload, 1) := by decide +kernel
theorem dX3_setGauge_20 : decode cX3_setGauge 20 = .ok (.istore_n 3, 1) := by decide +kernel
theorem dX3_setGauge_21 : decode cX3_setGauge 21 = .ok (.aload_n 0, 1) := by decide +kernel
theorem dX3_setGauge_22 : decode cX3_setGauge 22 = .ok (.getfield 19, 3) := by decide +kernel
theorem dX3_setGauge_25 : decode cX3_setGauge 25 = .ok (.getfield 49, 3) := by decide +kernel
theorem dX3_setGauge_28 : decode cX3_setGauge 28 = .ok (.iload_n 1, 1) := by decide +kernel
theorem dX3_setGauge_29 : decode cX3_setGauge 29 = .ok (.iload_n 2, 1) := by decide +kernel
theorem dX3_setGauge_30 : decode cX3_setGauge 30 = .ok (.iastore, 1) := by decide +kernel
theorem dX3_setGauge_31 : decode cX3_setGauge 31 = .ok (.iload_n 3, 1) := by decide +kernel
theorem dX3_setGauge_32 : decode cX3_setGauge 32 = .ok (.ireturn, 1) := by decide +kernel
set_option maxRecDepth 20000 in
theorem ggX3_setSource_X3_requireWithin : GoodIn wsX3_setSource wsX3_requireWithin := goodIn_ca (goodIn_r _ [6, 7, 8] (by decide +kernel) (by decide +kernel)) (goodIn_sub (fun _ h => List.mem_cons_of_mem _ (List.mem_append_right _ h)) (by decide +kernel))
set_option maxRecDepth 20000 in
theorem gX3_setSource_X3_requireWithin : GoodIn wsX3_setSource (va_wsS RX3 38 yX3_requireWithin wsX3_requireWithin) := goodIn_app (goodIn_of _ (by decide +kernel)) ggX3_setSource_X3_requireWithin
theorem dX3_setSource_0 : decode cX3_setSource 0 = .ok (.iload_n 1, 1) := by decide +kernel
theorem dX3_setSource_1 : decode cX3_setSource 1 = .ok (.iconst 0, 1) := by decide +kernel
theorem dX3_setSource_2 : decode cX3_setSource 2 = .ok (.sipush 1000, 3) := by decide +kernel
theorem dX3_setSource_5 : decode cX3_setSource 5 = .ok (.invokestatic 38, 3) := by decide +kernel
theorem dX3_setSource_8 : decode cX3_setSource 8 = .ok (.aload_n 0, 1) := by decide +kernel
theorem dX3_setSource_9 : decode cX3_setSource 9 = .ok (.getfield 10, 3) := by decide +kernel
theorem dX3_setSource_12 : decode cX3_setSource 12 = .ok (.getfield 52, 3) := by decide +kernel
theorem dX3_setSource_15 : decode cX3_setSource 15 = .ok (.istore_n 2, 1) := by decide +kernel
theorem dX3_setSource_16 : decode cX3_setSource 16 = .ok (.aload_n 0, 1) := by decide +kernel
theorem dX3_setSource_17 : decode cX3_setSource 17 = .ok (.getfield 10, 3) := by decide +kernel
theorem dX3_setSource_20 : decode cX3_setSource 20 = .ok (.iload_n 1, 1) := by decide +kernel
theorem dX3_setSource_21 : decode cX3_setSource 21 = .ok (.putfield 52, 3) := by decide +kernel
theorem dX3_setSource_24 : decode cX3_setSource 24 = .ok (.iload_n 2, 1) := by decide +kernel
theorem dX3_setSource_25 : decode cX3_setSource 25 = .ok (.ireturn, 1) := by decide +kernel
set_option maxRecDepth 20000 in
theorem ggX3_rain_X3_requireNumber : GoodIn wsX3_rain wsX3_requireNumber := goodIn_ca (goodIn_r _ [6, 7, 8, 5, 9, 10, 11] (by decide +kernel) (by decide +kernel)) (goodIn_sub (fun _ h => List.mem_cons_of_mem _ (List.mem_append_right _ h)) (by decide +kernel))
set_option maxRecDepth 20000 in
theorem gX3_rain_X3_requireNumber : GoodIn wsX3_rain (va_wsS RX3 34 yX3_requireNumber wsX3_requireNumber) := goodIn_app (goodIn_of _ (by decide +kernel)) ggX3_rain_X3_requireNumber
set_option maxRecDepth 20000 in
theorem ggX3_rain_X3_requireWithin : GoodIn wsX3_rain wsX3_requireWithin := goodIn_ca (goodIn_r _ [9, 10, 11] (by decide +kernel) (by decide +kernel)) (goodIn_sub (fun _ h => List.mem_cons_of_mem _ (List.mem_append_right _ h)) (by decide +kernel))
set_option maxRecDepth 20000 in
theorem gX3_rain_X3_requireWithin : GoodIn wsX3_rain (va_wsS RX3 38 yX3_requireWithin wsX3_requireWithin) := goodIn_app (goodIn_of _ (by decide +kernel)) ggX3_rain_X3_requireWithin
theorem dX3_rain_0 : decode cX3_rain 0 = .ok (.iload_n 1, 1) := by decide +kernel
theorem dX3_rain_1 : decode cX3_rain 1 = .ok (.invokestatic 34, 3) := by decide +kernel
theorem dX3_rain_4 : decode cX3_rain 4 = .ok (.iload_n 2, 1) := by decide +kernel
theorem dX3_rain_5 : decode cX3_rain 5 = .ok (.iconst 1, 1) := by decide +kernel
theorem dX3_rain_6 : decode cX3_rain 6 = .ok (.sipush 10000, 3) := by decide +kernel
theorem dX3_rain_9 : decode cX3_rain 9 = .ok (.invokestatic 38, 3) := by decide +kernel
theorem dX3_rain_12 : decode cX3_rain 12 = .ok (.aload_n 0, 1) := by decide +kernel
theorem dX3_rain_13 : decode cX3_rain 13 = .ok (.getfield 10, 3) := by decide +kernel
theorem dX3_rain_16 : decode cX3_rain 16 = .ok (.getfield 55, 3) := by decide +kernel
theorem dX3_rain_19 : decode cX3_rain 19 = .ok (.iload_n 1, 1) := by decide +kernel
theorem dX3_rain_20 : decode cX3_rain 20 = .ok (.dup2, 1) := by decide +kernel
theorem dX3_rain_21 : decode cX3_rain 21 = .ok (.iaload, 1) := by decide +kernel
theorem dX3_rain_22 : decode cX3_rain 22 = .ok (.iload_n 2, 1) := by decide +kernel
theorem dX3_rain_23 : decode cX3_rain 23 = .ok (.iadd, 1) := by decide +kernel
theorem dX3_rain_24 : decode cX3_rain 24 = .ok (.iastore, 1) := by decide +kernel
theorem dX3_rain_25 : decode cX3_rain 25 = .ok (.aload_n 0, 1) := by decide +kernel
theorem dX3_rain_26 : decode cX3_rain 26 = .ok (.getfield 10, 3) := by decide +kernel
theorem dX3_rain_29 : decode cX3_rain 29 = .ok (.getfield 55, 3) := by decide +kernel
theorem dX3_rain_32 : decode cX3_rain 32 = .ok (.iload_n 1, 1) := by decide +kernel
theorem dX3_rain_33 : decode cX3_rain 33 = .ok (.iaload, 1) := by decide +kernel
theorem dX3_rain_34 : decode cX3_rain 34 = .ok (.ireturn, 1) := by decide +kernel
set_option maxRecDepth 20000 in
theorem ggX3_volume_X3_requireNumber : GoodIn wsX3_volume wsX3_requireNumber := goodIn_ca (goodIn_r _ [6, 7, 8, 5, 9, 10, 11] (by decide +kernel) (by decide +kernel)) (goodIn_sub (fun _ h => List.mem_cons_of_mem _ (List.mem_append_right _ h)) (by decide +kernel))
set_option maxRecDepth 20000 in
theorem gX3_volume_X3_requireNumber : GoodIn wsX3_volume (va_wsS RX3 34 yX3_requireNumber wsX3_requireNumber) := goodIn_app (goodIn_of _ (by decide +kernel)) ggX3_volume_X3_requireNumber
theorem dX3_volume_0 : decode cX3_volume 0 = .ok (.iload_n 1, 1) := by decide +kernel
theorem dX3_volume_1 : decode cX3_volume 1 = .ok (.invokestatic 34, 3) := by decide +kernel
theorem dX3_volume_4 : decode cX3_volume 4 = .ok (.aload_n 0, 1) := by decide +kernel
theorem dX3_volume_5 : decode cX3_volume 5 = .ok (.getfield 10, 3) := by decide +kernel
theorem dX3_volume_8 : decode cX3_volume 8 = .ok (.getfield 58, 3) := by decide +kernel
theorem dX3_volume_11 : decode cX3_volume 11 = .ok (.iload_n 1, 1) := by decide +kernel
theorem dX3_volume_12 : decode cX3_volume 12 = .ok (.iaload, 1) := by decide +kernel
theorem dX3_volume_13 : decode cX3_volume 13 = .ok (.ireturn, 1) := by decide +kernel
set_option maxRecDepth 20000 in
theorem ggX3_volumeByBalance_X3_requireNumber : GoodIn wsX3_volumeByBalance wsX3_requireNumber := goodIn_ca (goodIn_r _ [5, 6, 7, 4, 8, 9, 10] (by decide +kernel) (by decide +kernel)) (goodIn_sub (fun _ h => List.mem_cons_of_mem _ (List.mem_append_right _ h)) (by decide +kernel))
set_option maxRecDepth 20000 in
theorem gX3_volumeByBalance_X3_requireNumber : GoodIn wsX3_volumeByBalance (va_wsS RX3 34 yX3_requireNumber wsX3_requireNumber) := goodIn_app (goodIn_of _ (by decide +kernel)) ggX3_volumeByBalance_X3_requireNumber
set_option maxRecDepth 20000 in
theorem ggX3_volumeByBalance_X2_balanceOf : GoodIn wsX3_volumeByBalance wsX2_balanceOf := goodIn_r _ [15, 16, 17, 18, 23, 24, 25, 26, 27, 28, 29, 30] (by decide +kernel) (by decide +kernel)
set_option maxRecDepth 20000 in
theorem gX3_volumeByBalance_X2_balanceOf : GoodIn wsX3_volumeByBalance (wsV RX3 61 RX2 yX2_balanceOf wsX2_balanceOf) := goodIn_app (goodIn_of _ (by decide +kernel)) ggX3_volumeByBalance_X2_balanceOf
theorem dX3_volumeByBalance_0 : decode cX3_volumeByBalance 0 = .ok (.iload_n 1, 1) := by decide +kernel
theorem dX3_volumeByBalance_1 : decode cX3_volumeByBalance 1 = .ok (.invokestatic 34, 3) := by decide +kernel
theorem dX3_volumeByBalance_4 : decode cX3_volumeByBalance 4 = .ok (.aload_n 0, 1) := by decide +kernel
theorem dX3_volumeByBalance_5 : decode cX3_volumeByBalance 5 = .ok (.getfield 10, 3) := by decide +kernel
theorem dX3_volumeByBalance_8 : decode cX3_volumeByBalance 8 = .ok (.iload_n 1, 1) := by decide +kernel
theorem dX3_volumeByBalance_9 : decode cX3_volumeByBalance 9 = .ok (.invokevirtual 61, 3) := by decide +kernel
theorem dX3_volumeByBalance_12 : decode cX3_volumeByBalance 12 = .ok (.ireturn, 1) := by decide +kernel
set_option maxRecDepth 20000 in
theorem ggX3_level_X3_requireNumber : GoodIn wsX3_level wsX3_requireNumber := goodIn_ca (goodIn_r _ [5, 6, 7, 4, 8, 9, 10] (by decide +kernel) (by decide +kernel)) (goodIn_sub (fun _ h => List.mem_cons_of_mem _ (List.mem_append_right _ h)) (by decide +kernel))
set_option maxRecDepth 20000 in
theorem gX3_level_X3_requireNumber : GoodIn wsX3_level (va_wsS RX3 34 yX3_requireNumber wsX3_requireNumber) := goodIn_app (goodIn_of _ (by decide +kernel)) ggX3_level_X3_requireNumber
set_option maxRecDepth 20000 in
theorem ggX3_level_X2_levelOf : GoodIn wsX3_level wsX2_levelOf := goodIn_r _ [15, 16, 17, 22, 23, 24, 25, 26, 27, 28, 29] (by decide +kernel) (by decide +kernel)
set_option maxRecDepth 20000 in
theorem gX3_level_X2_levelOf : GoodIn wsX3_level (wsV RX3 65 RX2 yX2_levelOf wsX2_levelOf) := goodIn_app (goodIn_of _ (by decide +kernel)) ggX3_level_X2_levelOf
theorem dX3_level_0 : decode cX3_level 0 = .ok (.iload_n 1, 1) := by decide +kernel
theorem dX3_level_1 : decode cX3_level 1 = .ok (.invokestatic 34, 3) := by decide +kernel
theorem dX3_level_4 : decode cX3_level 4 = .ok (.aload_n 0, 1) := by decide +kernel
theorem dX3_level_5 : decode cX3_level 5 = .ok (.getfield 10, 3) := by decide +kernel
theorem dX3_level_8 : decode cX3_level 8 = .ok (.iload_n 1, 1) := by decide +kernel
theorem dX3_level_9 : decode cX3_level 9 = .ok (.invokevirtual 65, 3) := by decide +kernel
theorem dX3_level_12 : decode cX3_level 12 = .ok (.ireturn, 1) := by decide +kernel
set_option maxRecDepth 20000 in
theorem ggX3_flowed_X3_requireNumber : GoodIn wsX3_flowed wsX3_requireNumber := goodIn_ca (goodIn_r _ [6, 7, 8, 5, 9, 10, 11] (by decide +kernel) (by decide +kernel)) (goodIn_sub (fun _ h => List.mem_cons_of_mem _ (List.mem_append_right _ h)) (by decide +kernel))
set_option maxRecDepth 20000 in
theorem gX3_flowed_X3_requireNumber : GoodIn wsX3_flowed (va_wsS RX3 34 yX3_requireNumber wsX3_requireNumber) := goodIn_app (goodIn_of _ (by decide +kernel)) ggX3_flowed_X3_requireNumber
theorem dX3_flowed_0 : decode cX3_flowed 0 = .ok (.iload_n 1, 1) := by decide +kernel
theorem dX3_flowed_1 : decode cX3_flowed 1 = .ok (.invokestatic 34, 3) := by decide +kernel
theorem dX3_flowed_4 : decode cX3_flowed 4 = .ok (.aload_n 0, 1) := by decide +kernel
theorem dX3_flowed_5 : decode cX3_flowed 5 = .ok (.getfield 10, 3) := by decide +kernel
theorem dX3_flowed_8 : decode cX3_flowed 8 = .ok (.getfield 68, 3) := by decide +kernel
theorem dX3_flowed_11 : decode cX3_flowed 11 = .ok (.iload_n 1, 1) := by decide +kernel
theorem dX3_flowed_12 : decode cX3_flowed 12 = .ok (.iaload, 1) := by decide +kernel
theorem dX3_flowed_13 : decode cX3_flowed 13 = .ok (.ireturn, 1) := by decide +kernel
set_option maxRecDepth 20000 in
theorem ggX3_spilled_X3_requireNumber : GoodIn wsX3_spilled wsX3_requireNumber := goodIn_ca (goodIn_r _ [6, 7, 8, 5, 9, 10, 11] (by decide +kernel) (by decide +kernel)) (goodIn_sub (fun _ h => List.mem_cons_of_mem _ (List.mem_append_right _ h)) (by decide +kernel))
set_option maxRecDepth 20000 in
theorem gX3_spilled_X3_requireNumber : GoodIn wsX3_spilled (va_wsS RX3 34 yX3_requireNumber wsX3_requireNumber) := goodIn_app (goodIn_of _ (by decide +kernel)) ggX3_spilled_X3_requireNumber
theorem dX3_spilled_0 : decode cX3_spilled 0 = .ok (.iload_n 1, 1) := by decide +kernel
theorem dX3_spilled_1 : decode cX3_spilled 1 = .ok (.invokestatic 34, 3) := by decide +kernel
theorem dX3_spilled_4 : decode cX3_spilled 4 = .ok (.aload_n 0, 1) := by decide +kernel
theorem dX3_spilled_5 : decode cX3_spilled 5 = .ok (.getfield 10, 3) := by decide +kernel
theorem dX3_spilled_8 : decode cX3_spilled 8 = .ok (.getfield 71, 3) := by decide +kernel
theorem dX3_spilled_11 : decode cX3_spilled 11 = .ok (.iload_n 1, 1) := by decide +kernel
theorem dX3_spilled_12 : decode cX3_spilled 12 = .ok (.iaload, 1) := by decide +kernel
theorem dX3_spilled_13 : decode cX3_spilled 13 = .ok (.ireturn, 1) := by decide +kernel
set_option maxRecDepth 20000 in
theorem ggX3_setRule_X3_requireNumber : GoodIn wsX3_setRule wsX3_requireNumber := goodIn_ca (goodIn_r _ [9, 10, 11, 8, 12, 13, 14] (by decide +kernel) (by decide +kernel)) (goodIn_sub (fun _ h => List.mem_cons_of_mem _ (List.mem_append_right _ h)) (by decide +kernel))
set_option maxRecDepth 20000 in
theorem gX3_setRule_X3_requireNumber : GoodIn wsX3_setRule (va_wsS RX3 34 yX3_requireNumber wsX3_requireNumber) := goodIn_app (goodIn_of _ (by decide +kernel)) ggX3_setRule_X3_requireNumber
set_option maxRecDepth 20000 in
theorem ggX3_setRule_X3_requireWithin : GoodIn wsX3_setRule wsX3_requireWithin := goodIn_ca (goodIn_r _ [12, 13, 14] (by decide +kernel) (by decide +kernel)) (goodIn_sub (fun _ h => List.mem_cons_of_mem _ (List.mem_append_right _ h)) (by decide +kernel))
set_option maxRecDepth 20000 in
theorem gX3_setRule_X3_requireWithin : GoodIn wsX3_setRule (va_wsS RX3 38 yX3_requireWithin wsX3_requireWithin) := goodIn_app (goodIn_of _ (by decide +kernel)) ggX3_setRule_X3_requireWithin
theorem dX3_setRule_0 : decode cX3_setRule 0 = .ok (.iload_n 1, 1) := by decide +kernel
theorem dX3_setRule_1 : decode cX3_setRule 1 = .ok (.invokestatic 34, 3) := by decide +kernel
theorem dX3_setRule_4 : decode cX3_setRule 4 = .ok (.iload_n 2, 1) := by decide +kernel
theorem dX3_setRule_5 : decode cX3_setRule 5 = .ok (.iconst 0, 1) := by decide +kernel
theorem dX3_setRule_6 : decode cX3_setRule 6 = .ok (.sipush 1000, 3) := by decide +kernel
theorem dX3_setRule_9 : decode cX3_setRule 9 = .ok (.invokestatic 38, 3) := by decide +kernel
theorem dX3_setRule_12 : decode cX3_setRule 12 = .ok (.iload_n 3, 1) := by decide +kernel
theorem dX3_setRule_13 : decode cX3_setRule 13 = .ok (.iload_n 2, 1) := by decide +kernel
theorem dX3_setRule_14 : decode cX3_setRule 14 = .ok (.sipush 1000, 3) := by decide +kernel
theorem dX3_setRule_17 : decode cX3_setRule 17 = .ok (.invokestatic 38, 3) := by decide +kernel
theorem dX3_setRule_20 : decode cX3_setRule 20 = .ok (.iload 4, 2) := by decide +kernel
theorem dX3_setRule_22 : decode cX3_setRule 22 = .ok (.iconst 0, 1) := by decide +kernel
theorem dX3_setRule_23 : decode cX3_setRule 23 = .ok (.sipush 1000, 3) := by decide +kernel
theorem dX3_setRule_26 : decode cX3_setRule 26 = .ok (.invokestatic 38, 3) := by decide +kernel
theorem dX3_setRule_29 : decode cX3_setRule 29 = .ok (.iload 5, 2) := by decide +kernel
theorem dX3_setRule_31 : decode cX3_setRule 31 = .ok (.iconst 0, 1) := by decide +kernel
theorem dX3_setRule_32 : decode cX3_setRule 32 = .ok (.bipush 100, 2) := by decide +kernel
theorem dX3_setRule_34 : decode cX3_setRule 34 = .ok (.invokestatic 38, 3) := by decide +kernel
theorem dX3_setRule_37 : decode cX3_setRule 37 = .ok (.aload_n 0, 1) := by decide +kernel
theorem dX3_setRule_38 : decode cX3_setRule 38 = .ok (.getfield 19, 3) := by decide +kernel
theorem dX3_setRule_41 : decode cX3_setRule 41 = .ok (.getfield 74, 3) := by decide +kernel
theorem dX3_setRule_44 : decode cX3_setRule 44 = .ok (.iload_n 1, 1) := by decide +kernel
theorem dX3_setRule_45 : decode cX3_setRule 45 = .ok (.iload_n 2, 1) := by decide +kernel
theorem dX3_setRule_46 : decode cX3_setRule 46 = .ok (.iastore, 1) := by decide +kernel
theorem dX3_setRule_47 : decode cX3_setRule 47 = .ok (.aload_n 0, 1) := by decide +kernel
theorem dX3_setRule_48 : decode cX3_setRule 48 = .ok (.getfield 19, 3) := by decide +kernel
theorem dX3_setRule_51 : decode cX3_setRule 51 = .ok (.getfield 77, 3) := by decide +kernel
theorem dX3_setRule_54 : decode cX3_setRule 54 = .ok (.iload_n 1, 1) := by decide +kernel
theorem dX3_setRule_55 : decode cX3_setRule 55 = .ok (.iload_n 3, 1) := by decide +kernel
theorem dX3_setRule_56 : decode cX3_setRule 56 = .ok (.iastore, 1) := by decide +kernel
theorem dX3_setRule_57 : decode cX3_setRule 57 = .ok (.aload_n 0, 1) := by decide +kernel
theorem dX3_setRule_58 : decode cX3_setRule 58 = .ok (.getfield 19, 3) := by decide +kernel
theorem dX3_setRule_61 : decode cX3_setRule 61 = .ok (.getfield 80, 3) := by decide +kernel
theorem dX3_setRule_64 : decode cX3_setRule 64 = .ok (.iload_n 1, 1) := by decide +kernel
theorem dX3_setRule_65 : decode cX3_setRule 65 = .ok (.iload 4, 2) := by decide +kernel
theorem dX3_setRule_67 : decode cX3_setRule 67 = .ok (.iastore, 1) := by decide +kernel
theorem dX3_setRule_68 : decode cX3_setRule 68 = .ok (.aload_n 0, 1) := by decide +kernel
theorem dX3_setRule_69 : decode cX3_setRule 69 = .ok (.getfield 19, 3) := by decide +kernel
theorem dX3_setRule_72 : decode cX3_setRule 72 = .ok (.getfield 83, 3) := by decide +kernel
theorem dX3_setRule_75 : decode cX3_setRule 75 = .ok (.iload_n 1, 1) := by decide +kernel
theorem dX3_setRule_76 : decode cX3_setRule 76 = .ok (.iload 5, 2) := by decide +kernel
theorem dX3_setRule_78 : decode cX3_setRule 78 = .ok (.iastore, 1) := by decide +kernel
theorem dX3_setRule_79 : decode cX3_setRule 79 = .ok (.return_, 1) := by decide +kernel
set_option maxRecDepth 20000 in
theorem ggX3_byHand_X3_requireNumber : GoodIn wsX3_byHand wsX3_requireNumber := goodIn_ca (goodIn_r _ [9, 10, 11, 8, 12, 13, 14] (by decide +kernel) (by decide +kernel)) (goodIn_sub (fun _ h => List.mem_cons_of_mem _ (List.mem_append_right _ h)) (by decide +kernel))
set_option maxRecDepth 20000 in
theorem gX3_byHand_X3_requireNumber : GoodIn wsX3_byHand (va_wsS RX3 34 yX3_requireNumber wsX3_requireNumber) := goodIn_app (goodIn_of _ (by decide +kernel)) ggX3_byHand_X3_requireNumber
set_option maxRecDepth 20000 in
theorem ggX3_byHand_X3_requireWithin : GoodIn wsX3_byHand wsX3_requireWithin := goodIn_ca (goodIn_r _ [12, 13, 14] (by decide +kernel) (by decide +kernel)) (goodIn_sub (fun _ h => List.mem_cons_of_mem _ (List.mem_append_right _ h)) (by decide +kernel))
set_option maxRecDepth 20000 in
theorem gX3_byHand_X3_requireWithin : GoodIn wsX3_byHand (va_wsS RX3 38 yX3_requireWithin wsX3_requireWithin) := goodIn_app (goodIn_of _ (by decide +kernel)) ggX3_byHand_X3_requireWithin
theorem dX3_byHand_0 : decode cX3_byHand 0 = .ok (.iload_n 1, 1) := by decide +kernel
theorem dX3_byHand_1 : decode cX3_byHand 1 = .ok (.invokestatic 34, 3) := by decide +kernel
theorem dX3_byHand_4 : decode cX3_byHand 4 = .ok (.iload_n 2, 1) := by decide +kernel
theorem dX3_byHand_5 : decode cX3_byHand 5 = .ok (.iconst (-1), 1) := by decide +kernel
theorem dX3_byHand_6 : decode cX3_byHand 6 = .ok (.bipush 10, 2) := by decide +kernel
theorem dX3_byHand_8 : decode cX3_byHand 8 = .ok (.invokestatic 38, 3) := by decide +kernel
theorem dX3_byHand_11 : decode cX3_byHand 11 = .ok (.iload_n 2, 1) := by decide +kernel
theorem dX3_byHand_12 : decode cX3_byHand 12 = .ok (.iconst (-1), 1) := by decide +kernel
theorem dX3_byHand_13 : decode cX3_byHand 13 = .ok (.if_icmp .ne 25, 3) := by decide +kernel
theorem dX3_byHand_16 : decode cX3_byHand 16 = .ok (.aload_n 0, 1) := by decide +kernel
theorem dX3_byHand_17 : decode cX3_byHand 17 = .ok (.getfield 19, 3) := by decide +kernel
theorem dX3_byHand_20 : decode cX3_byHand 20 = .ok (.getfield 86, 3) := by decide +kernel
theorem dX3_byHand_23 : decode cX3_byHand 23 = .ok (.iload_n 1, 1) := by decide +kernel
theorem dX3_byHand_24 : decode cX3_byHand 24 = .ok (.baload, 1) := by decide +kernel
theorem dX3_byHand_25 : decode cX3_byHand 25 = .ok (.ifCond .ne 13, 3) := by decide +kernel
theorem dX3_byHand_28 : decode cX3_byHand 28 = .ok (.new 90, 3) := by decide +kernel
theorem dX3_byHand_31 : decode cX3_byHand 31 = .ok (.dup, 1) := by decide +kernel
theorem dX3_byHand_32 : decode cX3_byHand 32 = .ok (.ldc 92, 2) := by decide +kernel
theorem dX3_byHand_34 : decode cX3_byHand 34 = .ok (.invokespecial 94, 3) := by decide +kernel
theorem dX3_byHand_37 : decode cX3_byHand 37 = .ok (.athrow, 1) := by decide +kernel
theorem dX3_byHand_38 : decode cX3_byHand 38 = .ok (.aload_n 0, 1) := by decide +kernel
theorem dX3_byHand_39 : decode cX3_byHand 39 = .ok (.getfield 19, 3) := by decide +kernel
theorem dX3_byHand_42 : decode cX3_byHand 42 = .ok (.getfield 97, 3) := by decide +kernel
theorem dX3_byHand_45 : decode cX3_byHand 45 = .ok (.iload_n 1, 1) := by decide +kernel
theorem dX3_byHand_46 : decode cX3_byHand 46 = .ok (.iaload, 1) := by decide +kernel
theorem dX3_byHand_47 : decode cX3_byHand 47 = .ok (.istore_n 3, 1) := by decide +kernel
theorem dX3_byHand_48 : decode cX3_byHand 48 = .ok (.aload_n 0, 1) := by decide +kernel
theorem dX3_byHand_49 : decode cX3_byHand 49 = .ok (.getfield 19, 3) := by decide +kernel
theorem dX3_byHand_52 : decode cX3_byHand 52 = .ok (.getfield 86, 3) := by decide +kernel
theorem dX3_byHand_55 : decode cX3_byHand 55 = .ok (.iload_n 1, 1) := by decide +kernel
theorem dX3_byHand_56 : decode cX3_byHand 56 = .ok (.iload_n 2, 1) := by decide +kernel
theorem dX3_byHand_57 : decode cX3_byHand 57 = .ok (.iconst (-1), 1) := by decide +kernel
theorem dX3_byHand_58 : decode cX3_byHand 58 = .ok (.if_icmp .eq 7, 3) := by decide +kernel
theorem dX3_byHand_61 : decode cX3_byHand 61 = .ok (.iconst 1, 1) := by decide +kernel
theorem dX3_byHand_62 : decode cX3_byHand 62 = .ok (.goto 4, 3) := by decide +kernel
theorem dX3_byHand_65 : decode cX3_byHand 65 = .ok (.iconst 0, 1) := by decide +kernel
theorem dX3_byHand_66 : decode cX3_byHand 66 = .ok (.bastore, 1) := by decide +kernel
theorem dX3_byHand_67 : decode cX3_byHand 67 = .ok (.iload_n 2, 1) := by decide +kernel
theorem dX3_byHand_68 : decode cX3_byHand 68 = .ok (.iconst (-1), 1) := by decide +kernel
theorem dX3_byHand_69 : decode cX3_byHand 69 = .ok (.if_icmp .eq 13, 3) := by decide +kernel
theorem dX3_byHand_72 : decode cX3_byHand 72 = .ok (.aload_n 0, 1) := by decide +kernel
theorem dX3_byHand_73 : decode cX3_byHand 73 = .ok (.getfield 19, 3) := by decide +kernel
theorem dX3_byHand_76 : decode cX3_byHand 76 = .ok (.getfield 97, 3) := by decide +kernel
theorem dX3_byHand_79 : decode cX3_byHand 79 = .ok (.iload_n 1, 1) := by decide +kernel
theorem dX3_byHand_80 : decode cX3_byHand 80 = .ok (.iload_n 2, 1) := by decide +kernel
theorem dX3_byHand_81 : decode cX3_byHand 81 = .ok (.iastore, 1) := by decide +kernel
theorem dX3_byHand_82 : decode cX3_byHand 82 = .ok (.iload_n 3, 1) := by decide +kernel
theorem dX3_byHand_83 : decode cX3_byHand 83 = .ok (.ireturn, 1) := by decide +kernel
set_option maxRecDepth 20000 in
theorem ggX3_opening_X3_requireNumber : GoodIn wsX3_opening wsX3_requireNumber := goodIn_ca (goodIn_r _ [6, 7, 8, 5, 9, 10, 11] (by decide +kernel) (by decide +kernel)) (goodIn_sub (fun _ h => List.mem_cons_of_mem _ (List.mem_append_right _ h)) (by decide +kernel))
set_option maxRecDepth 20000 in
theorem gX3_opening_X3_requireNumber : GoodIn wsX3_opening (va_wsS RX3 34 yX3_requireNumber wsX3_requireNumber) := goodIn_app (goodIn_of _ (by decide +kernel)) ggX3_opening_X3_requireNumber
theorem dX3_opening_0 : decode cX3_opening 0 = .ok (.iload_n 1, 1) := by decide +kernel
theorem dX3_opening_1 : decode cX3_opening 1 = .ok (.invokestatic 34, 3) := by decide +kernel
theorem dX3_opening_4 : decode cX3_opening 4 = .ok (.aload_n 0, 1) := by decide +kernel
theorem dX3_opening_5 : decode cX3_opening 5 = .ok (.getfield 19, 3) := by decide +kernel
theorem dX3_opening_8 : decode cX3_opening 8 = .ok (.getfield 97, 3) := by decide +kernel
theorem dX3_opening_11 : decode cX3_opening 11 = .ok (.iload_n 1, 1) := by decide +kernel
theorem dX3_opening_12 : decode cX3_opening 12 = .ok (.iaload, 1) := by decide +kernel
theorem dX3_opening_13 : decode cX3_opening 13 = .ok (.ireturn, 1) := by decide +kernel
set_option maxRecDepth 20000 in
theorem ggX3_safety_X3_requireNumber : GoodIn wsX3_safety wsX3_requireNumber := goodIn_ca (goodIn_r _ [6, 7, 8, 5, 9, 10, 11] (by decide +kernel) (by decide +kernel)) (goodIn_sub (fun _ h => List.mem_cons_of_mem _ (List.mem_append_right _ h)) (by decide +kernel))
set_option maxRecDepth 20000 in
theorem gX3_safety_X3_requireNumber : GoodIn wsX3_safety (va_wsS RX3 34 yX3_requireNumber wsX3_requireNumber) := goodIn_app (goodIn_of _ (by decide +kernel)) ggX3_safety_X3_requireNumber
theorem dX3_safety_0 : decode cX3_safety 0 = .ok (.iload_n 1, 1) := by decide +kernel
theorem dX3_safety_1 : decode cX3_safety 1 = .ok (.invokestatic 34, 3) := by decide +kernel
theorem dX3_safety_4 : decode cX3_safety 4 = .ok (.aload_n 0, 1) := by decide +kernel
theorem dX3_safety_5 : decode cX3_safety 5 = .ok (.getfield 19, 3) := by decide +kernel
theorem dX3_safety_8 : decode cX3_safety 8 = .ok (.getfield 100, 3) := by decide +kernel
theorem dX3_safety_11 : decode cX3_safety 11 = .ok (.iload_n 1, 1) := by decide +kernel
theorem dX3_safety_12 : decode cX3_safety 12 = .ok (.iaload, 1) := by decide +kernel
theorem dX3_safety_13 : decode cX3_safety 13 = .ok (.ireturn, 1) := by decide +kernel
set_option maxRecDepth 20000 in
theorem ggX3_fall_X3_requireNumber : GoodIn wsX3_fall wsX3_requireNumber := goodIn_ca (goodIn_r _ [8, 9, 10, 7, 11, 12, 13] (by decide +kernel) (by decide +kernel)) (goodIn_sub (fun _ h => List.mem_cons_of_mem _ (List.mem_append_right _ h)) (by decide +kernel))
set_option maxRecDepth 20000 in
theorem gX3_fall_X3_requireNumber : GoodIn wsX3_fall (va_wsS RX3 34 yX3_requireNumber wsX3_requireNumber) := goodIn_app (goodIn_of _ (by decide +kernel)) ggX3_fall_X3_requireNumber
theorem dX3_fall_0 : decode cX3_fall 0 = .ok (.iload_n 1, 1) := by decide +kernel
theorem dX3_fall_1 : decode cX3_fall 1 = .ok (.invokestatic 34, 3) := by decide +kernel
theorem dX3_fall_4 : decode cX3_fall 4 = .ok (.aload_n 0, 1) := by decide +kernel
theorem dX3_fall_5 : decode cX3_fall 5 = .ok (.getfield 26, 3) := by decide +kernel
theorem dX3_fall_8 : decode cX3_fall 8 = .ok (.getfield 103, 3) := by decide +kernel
theorem dX3_fall_11 : decode cX3_fall 11 = .ok (.iload_n 1, 1) := by decide +kernel
theorem dX3_fall_12 : decode cX3_fall 12 = .ok (.baload, 1) := by decide +kernel
theorem dX3_fall_13 : decode cX3_fall 13 = .ok (.ifCond .eq 13, 3) := by decide +kernel
theorem dX3_fall_16 : decode cX3_fall 16 = .ok (.new 90, 3) := by decide +kernel
theorem dX3_fall_19 : decode cX3_fall 19 = .ok (.dup, 1) := by decide +kernel
theorem dX3_fall_20 : decode cX3_fall 20 = .ok (.ldc 106, 2) := by decide +kernel
theorem dX3_fall_22 : decode cX3_fall 22 = .ok (.invokespecial 94, 3) := by decide +kernel
theorem dX3_fall_25 : decode cX3_fall 25 = .ok (.athrow, 1) := by decide +kernel
theorem dX3_fall_26 : decode cX3_fall 26 = .ok (.aload_n 0, 1) := by decide +kernel
theorem dX3_fall_27 : decode cX3_fall 27 = .ok (.getfield 26, 3) := by decide +kernel
theorem dX3_fall_30 : decode cX3_fall 30 = .ok (.getfield 103, 3) := by decide +kernel
theorem dX3_fall_33 : decode cX3_fall 33 = .ok (.iload_n 1, 1) := by decide +kernel
theorem dX3_fall_34 : decode cX3_fall 34 = .ok (.iconst 1, 1) := by decide +kernel
theorem dX3_fall_35 : decode cX3_fall 35 = .ok (.bastore, 1) := by decide +kernel
theorem dX3_fall_36 : decode cX3_fall 36 = .ok (.return_, 1) := by decide +kernel
set_option maxRecDepth 20000 in
theorem ggX3_comeUp_X3_requireNumber : GoodIn wsX3_comeUp wsX3_requireNumber := goodIn_ca (goodIn_r _ [10, 11, 12, 9, 13, 14, 15] (by decide +kernel) (by decide +kernel)) (goodIn_sub (fun _ h => List.mem_cons_of_mem _ (List.mem_append_right _ h)) (by decide +kernel))
set_option maxRecDepth 20000 in
theorem gX3_comeUp_X3_requireNumber : GoodIn wsX3_comeUp (va_wsS RX3 34 yX3_requireNumber wsX3_requireNumber) := goodIn_app (goodIn_of _ (by decide +kernel)) ggX3_comeUp_X3_requireNumber
set_option maxRecDepth 20000 in
theorem ggX3_comeUp_J7_fill_53178 : GoodIn wsX3_comeUp wsJ7_fill_53178 := goodIn_r _ [19] (by decide +kernel) (by decide +kernel)
set_option maxRecDepth 20000 in
theorem gX3_comeUp_J7_fill_53178 : GoodIn wsX3_comeUp (va_wsS RX3 114 yJ7_fill_53178 wsJ7_fill_53178) := goodIn_app (goodIn_of _ (by decide +kernel)) ggX3_comeUp_J7_fill_53178
theorem dX3_comeUp_0 : decode cX3_comeUp 0 = .ok (.iload_n 1, 1) := by decide +kernel
theorem dX3_comeUp_1 : decode cX3_comeUp 1 = .ok (.invokestatic 34, 3) := by decide +kernel
theorem dX3_comeUp_4 : decode cX3_comeUp 4 = .ok (.aload_n 0, 1) := by decide +kernel
theorem dX3_comeUp_5 : decode cX3_comeUp 5 = .ok (.getfield 26, 3) := by decide +kernel
theorem dX3_comeUp_8 : decode cX3_comeUp 8 = .ok (.getfield 103, 3) := by decide +kernel
theorem dX3_comeUp_11 : decode cX3_comeUp 11 = .ok (.iload_n 1, 1) := by decide +kernel
theorem dX3_comeUp_12 : decode cX3_comeUp 12 = .ok (.baload, 1) := by decide +kernel
theorem dX3_comeUp_13 : decode cX3_comeUp 13 = .ok (.ifCond .ne 13, 3) := by decide +kernel
theorem dX3_comeUp_16 : decode cX3_comeUp 16 = .ok (.new 90, 3) := by decide +kernel
theorem dX3_comeUp_19 : decode cX3_comeUp 19 = .ok (.dup, 1) := by decide +kernel
theorem dX3_comeUp_20 : decode cX3_comeUp 20 = .ok (.ldc 108, 2) := by decide +kernel
theorem dX3_comeUp_22 : decode cX3_comeUp 22 = .ok (.invokespecial 94, 3) := by decide +kernel
theorem dX3_comeUp_25 : decode cX3_comeUp 25 = .ok (.athrow, 1) := by decide +kernel
theorem dX3_comeUp_26 : decode cX3_comeUp 26 = .ok (.aload_n 0, 1) := by decide +kernel
theorem dX3_comeUp_27 : decode cX3_comeUp 27 = .ok (.getfield 26, 3) := by decide +kernel
theorem dX3_comeUp_30 : decode cX3_comeUp 30 = .ok (.getfield 103, 3) := by decide +kernel
theorem dX3_comeUp_33 : decode cX3_comeUp 33 = .ok (.iload_n 1, 1) := by decide +kernel
theorem dX3_comeUp_34 : decode cX3_comeUp 34 = .ok (.iconst 0, 1) := by decide +kernel
theorem dX3_comeUp_35 : decode cX3_comeUp 35 = .ok (.bastore, 1) := by decide +kernel
theorem dX3_comeUp_36 : decode cX3_comeUp 36 = .ok (.aload_n 0, 1) := by decide +kernel
theorem dX3_comeUp_37 : decode cX3_comeUp 37 = .ok (.getfield 26, 3) := by decide +kernel
theorem dX3_comeUp_40 : decode cX3_comeUp 40 = .ok (.getfield 110, 3) := by decide +kernel
theorem dX3_comeUp_43 : decode cX3_comeUp 43 = .ok (.iload_n 1, 1) := by decide +kernel
theorem dX3_comeUp_44 : decode cX3_comeUp 44 = .ok (.aaload, 1) := by decide +kernel
theorem dX3_comeUp_45 : decode cX3_comeUp 45 = .ok (.aload_n 0, 1) := by decide +kernel
theorem dX3_comeUp_46 : decode cX3_comeUp 46 = .ok (.getfield 30, 3) := by decide +kernel
theorem dX3_comeUp_49 : decode cX3_comeUp 49 = .ok (.invokestatic 114, 3) := by decide +kernel
theorem dX3_comeUp_52 : decode cX3_comeUp 52 = .ok (.return_, 1) := by decide +kernel
set_option maxRecDepth 20000 in
theorem ggX3_setGroup_X3_requireNumber : GoodIn wsX3_setGroup wsX3_requireNumber := goodIn_ca (goodIn_r _ [6, 7, 8, 5, 9, 10, 11] (by decide +kernel) (by decide +kernel)) (goodIn_sub (fun _ h => List.mem_cons_of_mem _ (List.mem_append_right _ h)) (by decide +kernel))
set_option maxRecDepth 20000 in
theorem gX3_setGroup_X3_requireNumber : GoodIn wsX3_setGroup (va_wsS RX3 34 yX3_requireNumber wsX3_requireNumber) := goodIn_app (goodIn_of _ (by decide +kernel)) ggX3_setGroup_X3_requireNumber
set_option maxRecDepth 20000 in
theorem ggX3_setGroup_X3_requireWithin : GoodIn wsX3_setGroup wsX3_requireWithin := goodIn_ca (goodIn_r _ [9, 10, 11] (by decide +kernel) (by decide +kernel)) (goodIn_sub (fun _ h => List.mem_cons_of_mem _ (List.mem_append_right _ h)) (by decide +kernel))
set_option maxRecDepth 20000 in
theorem gX3_setGroup_X3_requireWithin : GoodIn wsX3_setGroup (va_wsS RX3 38 yX3_requireWithin wsX3_requireWithin) := goodIn_app (goodIn_of _ (by decide +kernel)) ggX3_setGroup_X3_requireWithin
theorem dX3_setGroup_0 : decode cX3_setGroup 0 = .ok (.iload_n 1, 1) := by decide +kernel
theorem dX3_setGroup_1 : decode cX3_setGroup 1 = .ok (.invokestatic 34, 3) := by decide +kernel
theorem dX3_setGroup_4 : decode cX3_setGroup 4 = .ok (.iload_n 2, 1) := by decide +kernel
theorem dX3_setGroup_5 : decode cX3_setGroup 5 = .ok (.iconst 0, 1) := by decide +kernel
theorem dX3_setGroup_6 : decode cX3_setGroup 6 = .ok (.iconst 3, 1) := by decide +kernel
theorem dX3_setGroup_7 : decode cX3_setGroup 7 = .ok (.invokestatic 38, 3) := by decide +kernel
theorem dX3_setGroup_10 : decode cX3_setGroup 10 = .ok (.aload_n 0, 1) := by decide +kernel
theorem dX3_setGroup_11 : decode cX3_setGroup 11 = .ok (.getfield 26, 3) := by decide +kernel
theorem dX3_setGroup_14 : decode cX3_setGroup 14 = .ok (.getfield 120, 3) := by decide +kernel
theorem dX3_setGroup_17 : decode cX3_setGroup 17 = .ok (.iload_n 1, 1) := by decide +kernel
theorem dX3_setGroup_18 : decode cX3_setGroup 18 = .ok (.iaload, 1) := by decide +kernel
theorem dX3_setGroup_19 : decode cX3_setGroup 19 = .ok (.istore_n 3, 1) := by decide +kernel
theorem dX3_setGroup_20 : decode cX3_setGroup 20 = .ok (.aload_n 0, 1) := by decide +kernel
theorem dX3_setGroup_21 : decode cX3_setGroup 21 = .ok (.getfield 26, 3) := by decide +kernel
theorem dX3_setGroup_24 : decode cX3_setGroup 24 = .ok (.getfield 120, 3) := by decide +kernel
theorem dX3_setGroup_27 : decode cX3_setGroup 27 = .ok (.iload_n 1, 1) := by decide +kernel
theorem dX3_setGroup_28 : decode cX3_setGroup 28 = .ok (.iload_n 2, 1) := by decide +kernel
theorem dX3_setGroup_29 : decode cX3_setGroup 29 = .ok (.iastore, 1) := by decide +kernel
theorem dX3_setGroup_30 : decode cX3_setGroup 30 = .ok (.iload_n 3, 1) := by decide +kernel
theorem dX3_setGroup_31 : decode cX3_setGroup 31 = .ok (.ireturn, 1) := by decide +kernel
set_option maxRecDepth 20000 in
theorem ggX3_setStuck_X3_requireNumber : GoodIn wsX3_setStuck wsX3_requireNumber := goodIn_ca (goodIn_r _ [6, 7, 8, 5, 9, 10, 11] (by decide +kernel) (by decide +kernel)) (goodIn_sub (fun _ h => List.mem_cons_of_mem _ (List.mem_append_right _ h)) (by decide +kernel))
set_option maxRecDepth 20000 in
theorem gX3_setStuck_X3_requireNumber : GoodIn wsX3_setStuck (va_wsS RX3 34 yX3_requireNumber wsX3_requireNumber) := goodIn_app (goodIn_of _ (by decide +kernel)) ggX3_setStuck_X3_requireNumber
theorem dX3_setStuck_0 : decode cX3_setStuck 0 = .ok (.iload_n 1, 1) := by decide +kernel
theorem dX3_setStuck_1 : decode cX3_setStuck 1 = .ok (.invokestatic 34, 3) := by decide +kernel
theorem dX3_setStuck_4 : decode cX3_setStuck 4 = .ok (.aload_n 0, 1) := by decide +kernel
theorem dX3_setStuck_5 : decode cX3_setStuck 5 = .ok (.getfield 26, 3) := by decide +kernel
theorem dX3_setStuck_8 : decode cX3_setStuck 8 = .ok (.getfield 123, 3) := by decide +kernel
theorem dX3_setStuck_11 : decode cX3_setStuck 11 = .ok (.iload_n 1, 1) := by decide +kernel
theorem dX3_setStuck_12 : decode cX3_setStuck 12 = .ok (.baload, 1) := by decide +kernel
theorem dX3_setStuck_13 : decode cX3_setStuck 13 = .ok (.istore_n 3, 1) := by decide +kernel
theorem dX3_setStuck_14 : decode cX3_setStuck 14 = .ok (.aload_n 0, 1) := by decide +kernel
theorem dX3_setStuck_15 : decode cX3_setStuck 15 = .ok (.getfield 26, 3) := by decide +kernel
theorem dX3_setStuck_18 : decode cX3_setStuck 18 = .ok (.getfield 123, 3) := by decide +kernel
theorem dX3_setStuck_21 : decode cX3_setStuck 21 = .ok (.iload_n 1, 1) := by decide +kernel
theorem dX3_setStuck_22 : decode cX3_setStuck 22 = .ok (.iload_n 2, 1) := by decide +kernel
theorem dX3_setStuck_23 : decode cX3_setStuck 23 = .ok (.bastore, 1) := by decide +kernel
theorem dX3_setStuck_24 : decode cX3_setStuck 24 = .ok (.iload_n 3, 1) := by decide +kernel
theorem dX3_setStuck_25 : decode cX3_setStuck 25 = .ok (.ireturn, 1) := by decide +kernel
set_option maxRecDepth 20000 in
theorem ggX3_setTimes_X3_requireWithin : GoodIn wsX3_setTimes wsX3_requireWithin := goodIn_ca (goodIn_r _ [7, 8, 9] (by decide +kernel) (by decide +kernel)) (goodIn_sub (fun _ h => List.mem_cons_of_mem _ (List.mem_append_right _ h)) (by decide +kernel))
set_option maxRecDepth 20000 in
theorem gX3_setTimes_X3_requireWithin : GoodIn wsX3_setTimes (va_wsS RX3 38 yX3_requireWithin wsX3_requireWithin) := goodIn_app (goodIn_of _ (by decide +kernel)) ggX3_setTimes_X3_requireWithin
theorem dX3_setTimes_0 : decode cX3_setTimes 0 = .ok (.iload_n 1, 1) := by decide +kernel
theorem dX3_setTimes_1 : decode cX3_setTimes 1 = .ok (.iconst 1, 1) := by decide +kernel
theorem dX3_setTimes_2 : decode cX3_setTimes 2 = .ok (.bipush 50, 2) := by decide +kernel
theorem dX3_setTimes_4 : decode cX3_setTimes 4 = .ok (.invokestatic 38, 3) := by decide +kernel
theorem dX3_setTimes_7 : decode cX3_setTimes 7 = .ok (.iload_n 2, 1) := by decide +kernel
theorem dX3_setTimes_8 : decode cX3_setTimes 8 = .ok (.iload_n 1, 1) := by decide +kernel
theorem dX3_setTimes_9 : decode cX3_setTimes 9 = .ok (.bipush 100, 2) := by decide +kernel
theorem dX3_setTimes_11 : decode cX3_setTimes 11 = .ok (.invokestatic 38, 3) := by decide +kernel
theorem dX3_setTimes_14 : decode cX3_setTimes 14 = .ok (.aload_n 0, 1) := by decide +kernel
theorem dX3_setTimes_15 : decode cX3_setTimes 15 = .ok (.getfield 26, 3) := by decide +kernel
theorem dX3_setTimes_18 : decode cX3_setTimes 18 = .ok (.iload_n 1, 1) := by decide +kernel
theorem dX3_setTimes_19 : decode cX3_setTimes 19 = .ok (.putfield 126, 3) := by decide +kernel
theorem dX3_setTimes_22 : decode cX3_setTimes 22 = .ok (.aload_n 0, 1) := by decide +kernel
theorem dX3_setTimes_23 : decode cX3_setTimes 23 = .ok (.getfield 26, 3) := by decide +kernel
theorem dX3_setTimes_26 : decode cX3_setTimes 26 = .ok (.iload_n 2, 1) := by decide +kernel
theorem dX3_setTimes_27 : decode cX3_setTimes 27 = .ok (.putfield 129, 3) := by decide +kernel
theorem dX3_setTimes_30 : decode cX3_setTimes 30 = .ok (.return_, 1) := by decide +kernel
set_option maxRecDepth 20000 in
theorem ggX3_believed_X3_requireNumber : GoodIn wsX3_believed wsX3_requireNumber := goodIn_ca (goodIn_r _ [6, 7, 8, 5, 9, 10, 11] (by decide +kernel) (by decide +kernel)) (goodIn_sub (fun _ h => List.mem_cons_of_mem _ (List.mem_append_right _ h)) (by decide +kernel))
set_option maxRecDepth 20000 in
theorem gX3_believed_X3_requireNumber : GoodIn wsX3_believed (va_wsS RX3 34 yX3_requireNumber wsX3_requireNumber) := goodIn_app (goodIn_of _ (by decide +kernel)) ggX3_believed_X3_requireNumber
set_option maxRecDepth 20000 in
theorem ggX3_believed_X1_hasNews : GoodIn wsX3_believed wsX1_hasNews := goodIn_r _ [16, 17, 22, 23, 24, 25, 26, 27, 28, 29, 30, 31, 32, 33] (by decide +kernel) (by decide +kernel)
set_option maxRecDepth 20000 in
theorem gX3_believed_X1_hasNews : GoodIn wsX3_believed (wsV RX3 132 RX1 yX1_hasNews wsX1_hasNews) := goodIn_app (goodIn_of _ (by decide +kernel)) ggX3_believed_X1_hasNews
theorem dX3_believed_0 : decode cX3_believed 0 = .ok (.iload_n 1, 1) := by decide +kernel
theorem dX3_believed_1 : decode cX3_believed 1 = .ok (.invokestatic 34, 3) := by decide +kernel
theorem dX3_believed_4 : decode cX3_believed 4 = .ok (.iload_n 2, 1) := by decide +kernel
theorem dX3_believed_5 : decode cX3_believed 5 = .ok (.invokestatic 34, 3) := by decide +kernel
theorem dX3_believed_8 : decode cX3_believed 8 = .ok (.aload_n 0, 1) := by decide +kernel
theorem dX3_believed_9 : decode cX3_believed 9 = .ok (.getfield 26, 3) := by decide +kernel
theorem dX3_believed_12 : decode cX3_believed 12 = .ok (.iload_n 1, 1) := by decide +kernel
theorem dX3_believed_13 : decode cX3_believed 13 = .ok (.iload_n 2, 1) := by decide +kernel
theorem dX3_believed_14 : decode cX3_believed 14 = .ok (.invokevirtual 132, 3) := by decide +kernel
theorem dX3_believed_17 : decode cX3_believed 17 = .ok (.ifCond .eq 17, 3) := by decide +kernel
theorem dX3_believed_20 : decode cX3_believed 20 = .ok (.aload_n 0, 1) := by decide +kernel
theorem dX3_believed_21 : decode cX3_believed 21 = .ok (.getfield 26, 3) := by decide +kernel
theorem dX3_believed_24 : decode cX3_believed 24 = .ok (.getfield 136, 3) := by decide +kernel
theorem dX3_believed_27 : decode cX3_believed 27 = .ok (.iload_n 1, 1) := by decide +kernel
theorem dX3_believed_28 : decode cX3_believed 28 = .ok (.aaload, 1) := by decide +kernel
theorem dX3_believed_29 : decode cX3_believed 29 = .ok (.iload_n 2, 1) := by decide +kernel
theorem dX3_believed_30 : decode cX3_believed 30 = .ok (.iaload, 1) := by decide +kernel
theorem dX3_believed_31 : decode cX3_believed 31 = .ok (.goto 4, 3) := by decide +kernel
theorem dX3_believed_34 : decode cX3_believed 34 = .ok (.iconst (-1), 1) := by decide +kernel
theorem dX3_believed_35 : decode cX3_believed 35 = .ok (.ireturn, 1) := by decide +kernel
set_option maxRecDepth 20000 in
theorem ggX3_version_X3_requireNumber : GoodIn wsX3_version wsX3_requireNumber := goodIn_ca (goodIn_r _ [6, 7, 8, 5, 9, 10, 11] (by decide +kernel) (by decide +kernel)) (goodIn_sub (fun _ h => List.mem_cons_of_mem _ (List.mem_append_right _ h)) (by decide +kernel))
set_option maxRecDepth 20000 in
theorem gX3_version_X3_requireNumber : GoodIn wsX3_version (va_wsS RX3 34 yX3_requireNumber wsX3_requireNumber) := goodIn_app (goodIn_of _ (by decide +kernel)) ggX3_version_X3_requireNumber
theorem dX3_version_0 : decode cX3_version 0 = .ok (.iload_n 1, 1) := by decide +kernel
theorem dX3_version_1 : decode cX3_version 1 = .ok (.invokestatic 34, 3) := by decide +kernel
theorem dX3_version_4 : decode cX3_version 4 = .ok (.iload_n 2, 1) := by decide +kernel
theorem dX3_version_5 : decode cX3_version 5 = .ok (.invokestatic 34, 3) := by decide +kernel
theorem dX3_version_8 : decode cX3_version 8 = .ok (.aload_n 0, 1) := by decide +kernel
theorem dX3_version_9 : decode cX3_version 9 = .ok (.getfield 26, 3) := by decide +kernel
theorem dX3_version_12 : decode cX3_version 12 = .ok (.getfield 139, 3) := by decide +kernel
theorem dX3_version_15 : decode cX3_version 15 = .ok (.iload_n 1, 1) := by decide +kernel
theorem dX3_version_16 : decode cX3_version 16 = .ok (.aaload, 1) := by decide +kernel
theorem dX3_version_17 : decode cX3_version 17 = .ok (.iload_n 2, 1) := by decide +kernel
theorem dX3_version_18 : decode cX3_version 18 = .ok (.iaload, 1) := by decide +kernel
theorem dX3_version_19 : decode cX3_version 19 = .ok (.ireturn, 1) := by decide +kernel
set_option maxRecDepth 20000 in
theorem ggX3_age_X3_requireNumber : GoodIn wsX3_age wsX3_requireNumber := goodIn_ca (goodIn_r _ [7, 8, 9, 6, 10, 11, 12] (by decide +kernel) (by decide +kernel)) (goodIn_sub (fun _ h => List.mem_cons_of_mem _ (List.mem_append_right _ h)) (by decide +kernel))
set_option maxRecDepth 20000 in
theorem gX3_age_X3_requireNumber : GoodIn wsX3_age (va_wsS RX3 34 yX3_requireNumber wsX3_requireNumber) := goodIn_app (goodIn_of _ (by decide +kernel)) ggX3_age_X3_requireNumber
set_option maxRecDepth 20000 in
theorem ggX3_age_X1_hasNews : GoodIn wsX3_age wsX1_hasNews := goodIn_r _ [17, 18, 23, 24, 25, 26, 27, 28, 29, 30, 31, 32, 33, 34] (by decide +kernel) (by decide +kernel)
set_option maxRecDepth 20000 in
theorem gX3_age_X1_hasNews : GoodIn wsX3_age (wsV RX3 132 RX1 yX1_hasNews wsX1_hasNews) := goodIn_app (goodIn_of _ (by decide +kernel)) ggX3_age_X1_hasNews
theorem dX3_age_0 : decode cX3_age 0 = .ok (.iload_n 1, 1) := by decide +kernel
theorem dX3_age_1 : decode cX3_age 1 = .ok (.invokestatic 34, 3) := by decide +kernel
theorem dX3_age_4 : decode cX3_age 4 = .ok (.iload_n 2, 1) := by decide +kernel
theorem dX3_age_5 : decode cX3_age 5 = .ok (.invokestatic 34, 3) := by decide +kernel
theorem dX3_age_8 : decode cX3_age 8 = .ok (.aload_n 0, 1) := by decide +kernel
theorem dX3_age_9 : decode cX3_age 9 = .ok (.getfield 26, 3) := by decide +kernel
theorem dX3_age_12 : decode cX3_age 12 = .ok (.iload_n 1, 1) := by decide +kernel
theorem dX3_age_13 : decode cX3_age 13 = .ok (.iload_n 2, 1) := by decide +kernel
theorem dX3_age_14 : decode cX3_age 14 = .ok (.invokevirtual 132, 3) := by decide +kernel
theorem dX3_age_17 : decode cX3_age 17 = .ok (.ifCond .eq 22, 3) := by decide +kernel
theorem dX3_age_20 : decode cX3_age 20 = .ok (.aload_n 0, 1) := by decide +kernel
theorem dX3_age_21 : decode cX3_age 21 = .ok (.getfield 30, 3) := by decide +kernel
theorem dX3_age_24 : decode cX3_age 24 = .ok (.aload_n 0, 1) := by decide +kernel
theorem dX3_age_25 : decode cX3_age 25 = .ok (.getfield 26, 3) := by decide +kernel
theorem dX3_age_28 : decode cX3_age 28 = .ok (.getfield 142, 3) := by decide +kernel
theorem dX3_age_31 : decode cX3_age 31 = .ok (.iload_n 1, 1) := by decide +kernel
theorem dX3_age_32 : decode cX3_age 32 = .ok (.aaload, 1) := by decide +kernel
theorem dX3_age_33 : decode cX3_age 33 = .ok (.iload_n 2, 1) := by decide +kernel
theorem dX3_age_34 : decode cX3_age 34 = .ok (.iaload, 1) := by decide +kernel
theorem dX3_age_35 : decode cX3_age 35 = .ok (.isub, 1) := by decide +kernel
theorem dX3_age_36 : decode cX3_age 36 = .ok (.goto 4, 3) := by decide +kernel
theorem dX3_age_39 : decode cX3_age 39 = .ok (.iconst (-1), 1) := by decide +kernel
theorem dX3_age_40 : decode cX3_age 40 = .ok (.ireturn, 1) := by decide +kernel
set_option maxRecDepth 20000 in
theorem ggX3_beat_X3_requireNumber : GoodIn wsX3_beat wsX3_requireNumber := goodIn_ca (goodIn_r _ [6, 7, 8, 5, 9, 10, 11] (by decide +kernel) (by decide +kernel)) (goodIn_sub (fun _ h => List.mem_cons_of_mem _ (List.mem_append_right _ h)) (by decide +kernel))
set_option maxRecDepth 20000 in
theorem gX3_beat_X3_requireNumber : GoodIn wsX3_beat (va_wsS RX3 34 yX3_requireNumber wsX3_requireNumber) := goodIn_app (goodIn_of _ (by decide +kernel)) ggX3_beat_X3_requireNumber
theorem dX3_beat_0 : decode cX3_beat 0 = .ok (.iload_n 1, 1) := by decide +kernel
theorem dX3_beat_1 : decode cX3_beat 1 = .ok (.invokestatic 34, 3) := by decide +kernel
theorem dX3_beat_4 : decode cX3_beat 4 = .ok (.iload_n 2, 1) := by decide +kernel
theorem dX3_beat_5 : decode cX3_beat 5 = .ok (.invokestatic 34, 3) := by decide +kernel
theorem dX3_beat_8 : decode cX3_beat 8 = .ok (.aload_n 0, 1) := by decide +kernel
theorem dX3_beat_9 : decode cX3_beat 9 = .ok (.getfield 26, 3) := by decide +kernel
theorem dX3_beat_12 : decode cX3_beat 12 = .ok (.getfield 145, 3) := by decide +kernel
theorem dX3_beat_15 : decode cX3_beat 15 = .ok (.iload_n 1, 1) := by decide +kernel
theorem dX3_beat_16 : decode cX3_beat 16 = .ok (.aaload, 1) := by decide +kernel
theorem dX3_beat_17 : decode cX3_beat 17 = .ok (.iload_n 2, 1) := by decide +kernel
theorem dX3_beat_18 : decode cX3_beat 18 = .ok (.iaload, 1) := by decide +kernel
theorem dX3_beat_19 : decode cX3_beat 19 = .ok (.ireturn, 1) := by decide +kernel
set_option maxRecDepth 20000 in
theorem ggX3_status_X3_requireNumber : GoodIn wsX3_status wsX3_requireNumber := goodIn_ca (goodIn_r _ [6, 7, 8, 5, 9, 10, 11] (by decide +kernel) (by decide +kernel)) (goodIn_sub (fun _ h => List.mem_cons_of_mem _ (List.mem_append_right _ h)) (by decide +kernel))
set_option maxRecDepth 20000 in
theorem gX3_status_X3_requireNumber : GoodIn wsX3_status (va_wsS RX3 34 yX3_requireNumber wsX3_requireNumber) := goodIn_app (goodIn_of _ (by decide +kernel)) ggX3_status_X3_requireNumber
theorem dX3_status_0 : decode cX3_status 0 = .ok (.iload_n 1, 1) := by decide +kernel
theorem dX3_status_1 : decode cX3_status 1 = .ok (.invokestatic 34, 3) := by decide +kernel
theorem dX3_status_4 : decode cX3_status 4 = .ok (.iload_n 2, 1) := by decide +kernel
theorem dX3_status_5 : decode cX3_status 5 = .ok (.invokestatic 34, 3) := by decide +kernel
theorem dX3_status_8 : decode cX3_status 8 = .ok (.aload_n 0, 1) := by decide +kernel
theorem dX3_status_9 : decode cX3_status 9 = .ok (.getfield 26, 3) := by decide +kernel
theorem dX3_status_12 : decode cX3_status 12 = .ok (.getfield 148, 3) := by decide +kernel
theorem dX3_status_15 : decode cX3_status 15 = .ok (.iload_n 1, 1) := by decide +kernel
theorem dX3_status_16 : decode cX3_status 16 = .ok (.aaload, 1) := by decide +kernel
theorem dX3_status_17 : decode cX3_status 17 = .ok (.iload_n 2, 1) := by decide +kernel
theorem dX3_status_18 : decode cX3_status 18 = .ok (.iaload, 1) := by decide +kernel
theorem dX3_status_19 : decode cX3_status 19 = .ok (.ireturn, 1) := by decide +kernel
set_option maxRecDepth 20000 in
theorem ggX3_partner_X3_requireNumber : GoodIn wsX3_partner wsX3_requireNumber := goodIn_ca (goodIn_r _ [7, 8, 9, 6, 10, 11, 12] (by decide +kernel) (by decide +kernel)) (goodIn_sub (fun _ h => List.mem_cons_of_mem _ (List.mem_append_right _ h)) (by decide +kernel))
set_option maxRecDepth 20000 in
theorem gX3_partner_X3_requireNumber : GoodIn wsX3_partner (va_wsS RX3 34 yX3_requireNumber wsX3_requireNumber) := goodIn_app (goodIn_of _ (by decide +kernel)) ggX3_partner_X3_requireNumber
set_option maxRecDepth 20000 in
theorem ggX3_partner_X1_calledBy : GoodIn wsX3_partner wsX1_calledBy := goodIn_r _ [17, 18, 19, 20, 16, 21, 22, 27, 28, 29, 30, 31, 32, 33, 34, 35, 36, 37, 38] (by decide +kernel) (by decide +kernel)
set_option maxRecDepth 20000 in
theorem gX3_partner_X1_calledBy : GoodIn wsX3_partner (wsV RX3 151 RX1 yX1_calledBy wsX1_calledBy) := goodIn_app (goodIn_of _ (by decide +kernel)) ggX3_partner_X1_calledBy
theorem dX3_partner_0 : decode cX3_partner 0 = .ok (.iload_n 1, 1) := by decide +kernel
theorem dX3_partner_1 : decode cX3_partner 1 = .ok (.invokestatic 34, 3) := by decide +kernel
theorem dX3_partner_4 : decode cX3_partner 4 = .ok (.aload_n 0, 1) := by decide +kernel
theorem dX3_partner_5 : decode cX3_partner 5 = .ok (.getfield 26, 3) := by decide +kernel
theorem dX3_partner_8 : decode cX3_partner 8 = .ok (.getfield 103, 3) := by decide +kernel
theorem dX3_partner_11 : decode cX3_partner 11 = .ok (.iload_n 1, 1) := by decide +kernel
theorem dX3_partner_12 : decode cX3_partner 12 = .ok (.baload, 1) := by decide +kernel
theorem dX3_partner_13 : decode cX3_partner 13 = .ok (.ifCond .eq 7, 3) := by decide +kernel
theorem dX3_partner_16 : decode cX3_partner 16 = .ok (.iconst (-1), 1) := by decide +kernel
theorem dX3_partner_17 : decode cX3_partner 17 = .ok (.goto 17, 3) := by decide +kernel
theorem dX3_partner_20 : decode cX3_partner 20 = .ok (.aload_n 0, 1) := by decide +kernel
theorem dX3_partner_21 : decode cX3_partner 21 = .ok (.getfield 26, 3) := by decide +kernel
theorem dX3_partner_24 : decode cX3_partner 24 = .ok (.iload_n 1, 1) := by decide +kernel
theorem dX3_partner_25 : decode cX3_partner 25 = .ok (.aload_n 0, 1) := by decide +kernel
theorem dX3_partner_26 : decode cX3_partner 26 = .ok (.getfield 30, 3) := by decide +kernel
theorem dX3_partner_29 : decode cX3_partner 29 = .ok (.iconst 1, 1) := by decide +kernel
theorem dX3_partner_30 : decode cX3_partner 30 = .ok (.iadd, 1) := by decide +kernel
theorem dX3_partner_31 : decode cX3_partner 31 = .ok (.invokevirtual 151, 3) := by decide +kernel
theorem dX3_partner_34 : decode cX3_partner 34 = .ok (.ireturn, 1) := by decide +kernel
set_option maxRecDepth 20000 in
theorem ggX3_freshest_X3_requireNumber : GoodIn wsX3_freshest wsX3_requireNumber := goodIn_ca (goodIn_r _ [5, 6, 7, 4, 8, 9, 10] (by decide +kernel) (by decide +kernel)) (goodIn_sub (fun _ h => List.mem_cons_of_mem _ (List.mem_append_right _ h)) (by decide +kernel))
set_option maxRecDepth 20000 in
theorem gX3_freshest_X3_requireNumber : GoodIn wsX3_freshest (va_wsS RX3 34 yX3_requireNumber wsX3_requireNumber) := goodIn_app (goodIn_of _ (by decide +kernel)) ggX3_freshest_X3_requireNumber
set_option maxRecDepth 20000 in
theorem ggX3_freshest_X1_freshestOf : GoodIn wsX3_freshest wsX1_freshestOf := goodIn_r _ [15, 16, 21, 22, 23, 24, 25, 26, 27, 28, 29, 30, 31, 32] (by decide +kernel) (by decide +kernel)
set_option maxRecDepth 20000 in
theorem gX3_freshest_X1_freshestOf : GoodIn wsX3_freshest (wsV RX3 155 RX1 yX1_freshestOf wsX1_freshestOf) := goodIn_app (goodIn_of _ (by decide +kernel)) ggX3_freshest_X1_freshestOf
theorem dX3_freshest_0 : decode cX3_freshest 0 = .ok (.iload_n 1, 1) := by decide +kernel
theorem dX3_freshest_1 : decode cX3_freshest 1 = .ok (.invokestatic 34, 3) := by decide +kernel
theorem dX3_freshest_4 : decode cX3_freshest 4 = .ok (.aload_n 0, 1) := by decide +kernel
theorem dX3_freshest_5 : decode cX3_freshest 5 = .ok (.getfield 26, 3) := by decide +kernel
theorem dX3_freshest_8 : decode cX3_freshest 8 = .ok (.iload_n 1, 1) := by decide +kernel
theorem dX3_freshest_9 : decode cX3_freshest 9 = .ok (.invokevirtual 155, 3) := by decide +kernel
theorem dX3_freshest_12 : decode cX3_freshest 12 = .ok (.ireturn, 1) := by decide +kernel
set_option maxRecDepth 20000 in
theorem ggX3_agree_X3_requireNumber : GoodIn wsX3_agree wsX3_requireNumber := goodIn_ca (goodIn_r _ [6, 7, 8, 5, 9, 10, 11] (by decide +kernel) (by decide +kernel)) (goodIn_sub (fun _ h => List.mem_cons_of_mem _ (List.mem_append_right _ h)) (by decide +kernel))
set_option maxRecDepth 20000 in
theorem gX3_agree_X3_requireNumber : GoodIn wsX3_agree (va_wsS RX3 34 yX3_requireNumber wsX3_requireNumber) := goodIn_app (goodIn_of _ (by decide +kernel)) ggX3_agree_X3_requireNumber
set_option maxRecDepth 20000 in
theorem ggX3_agree_X2_levelOf : GoodIn wsX3_agree wsX2_levelOf := goodIn_r _ [16, 17, 18, 35, 36, 37, 38, 39, 40, 41, 42] (by decide +kernel) (by decide +kernel)
set_option maxRecDepth 20000 in
theorem gX3_agree_X2_levelOf : GoodIn wsX3_agree (wsV RX3 65 RX2 yX2_levelOf wsX2_levelOf) := goodIn_app (goodIn_of _ (by decide +kernel)) ggX3_agree_X2_levelOf
set_option maxRecDepth 20000 in
theorem ggX3_agree_X1_believersOf : GoodIn wsX3_agree wsX1_believersOf := goodIn_r _ [23, 24, 25, 26, 27, 28, 22, 29, 30, 43, 44, 45, 46, 47, 48, 49, 50, 51, 52, 53, 54] (by decide +kernel) (by decide +kernel)
set_option maxRecDepth 20000 in
theorem gX3_agree_X1_believersOf : GoodIn wsX3_agree (wsV RX3 158 RX1 yX1_believersOf wsX1_believersOf) := goodIn_app (goodIn_of _ (by decide +kernel)) ggX3_agree_X1_believersOf
theorem dX3_agree_0 : decode cX3_agree 0 = .ok (.iload_n 1, 1) := by decide +kernel
theorem dX3_agree_1 : decode cX3_agree 1 = .ok (.invokestatic 34, 3) := by decide +kernel
theorem dX3_agree_4 : decode cX3_agree 4 = .ok (.aload_n 0, 1) := by decide +kernel
theorem dX3_agree_5 : decode cX3_agree 5 = .ok (.getfield 26, 3) := by decide +kernel
theorem dX3_agree_8 : decode cX3_agree 8 = .ok (.iload_n 1, 1) := by decide +kernel
theorem dX3_agree_9 : decode cX3_agree 9 = .ok (.aload_n 0, 1) := by decide +kernel
theorem dX3_agree_10 : decode cX3_agree 10 = .ok (.getfield 10, 3) := by decide +kernel
theorem dX3_agree_13 : decode cX3_agree 13 = .ok (.iload_n 1, 1) := by decide +kernel
theorem dX3_agree_14 : decode cX3_agree 14 = .ok (.invokevirtual 65, 3) := by decide +kernel
theorem dX3_agree_17 : decode cX3_agree 17 = .ok (.invokevirtual 158, 3) := by decide +kernel
theorem dX3_agree_20 : decode cX3_agree 20 = .ok (.ireturn, 1) := by decide +kernel
set_option maxRecDepth 20000 in
theorem ggX3_unnoticed_X1_countUnnoticed : GoodIn wsX3_unnoticed wsX1_countUnnoticed := goodIn_r _ [6, 7, 8, 9, 10, 5, 11, 12, 17, 18, 19, 20, 21, 22, 23, 24, 25, 26, 27, 28] (by decide +kernel) (by decide +kernel)
set_option maxRecDepth 20000 in
theorem gX3_unnoticed_X1_countUnnoticed : GoodIn wsX3_unnoticed (wsV RX3 161 RX1 yX1_countUnnoticed wsX1_countUnnoticed) := goodIn_app (goodIn_of _ (by decide +kernel)) ggX3_unnoticed_X1_countUnnoticed
theorem dX3_unnoticed_0 : decode cX3_unnoticed 0 = .ok (.aload_n 0, 1) := by decide +kernel
theorem dX3_unnoticed_1 : decode cX3_unnoticed 1 = .ok (.getfield 26, 3) := by decide +kernel
theorem dX3_unnoticed_4 : decode cX3_unnoticed 4 = .ok (.invokevirtual 161, 3) := by decide +kernel
theorem dX3_unnoticed_7 : decode cX3_unnoticed 7 = .ok (.ireturn, 1) := by decide +kernel
set_option maxRecDepth 20000 in
theorem ggX3_mistaken_X1_countMistaken : GoodIn wsX3_mistaken wsX1_countMistaken := goodIn_r _ [6, 7, 8, 9, 10, 5, 11, 12, 17, 18, 19, 20, 21, 22, 23, 24, 25, 26, 27, 28] (by decide +kernel) (by decide +kernel)
set_option maxRecDepth 20000 in
theorem gX3_mistaken_X1_countMistaken : GoodIn wsX3_mistaken (wsV RX3 165 RX1 yX1_countMistaken wsX1_countMistaken) := goodIn_app (goodIn_of _ (by decide +kernel)) ggX3_mistaken_X1_countMistaken
theorem dX3_mistaken_0 : decode cX3_mistaken 0 = .ok (.aload_n 0, 1) := by decide +kernel
theorem dX3_mistaken_1 : decode cX3_mistaken 1 = .ok (.getfield 26, 3) := by decide +kernel
theorem dX3_mistaken_4 : decode cX3_mistaken 4 = .ok (.invokevirtual 165, 3) := by decide +kernel
theorem dX3_mistaken_7 : decode cX3_mistaken 7 = .ok (.ireturn, 1) := by decide +kernel
theorem dX3_vain_0 : decode cX3_vain 0 = .ok (.aload_n 0, 1) := by decide +kernel
theorem dX3_vain_1 : decode cX3_vain 1 = .ok (.getfield 26, 3) := by decide +kernel
theorem dX3_vain_4 : decode cX3_vain 4 = .ok (.getfield 168, 3) := by decide +kernel
theorem dX3_vain_7 : decode cX3_vain 7 = .ok (.ireturn, 1) := by decide +kernel
set_option maxRecDepth 20000 in
theorem ggX3_tick_X3_requireWithin : GoodIn wsX3_tick wsX3_requireWithin := goodIn_ca (goodIn_r _ [7, 8, 9] (by decide +kernel) (by decide +kernel)) (goodIn_sub (fun _ h => List.mem_cons_of_mem _ (List.mem_append_right _ h)) (by decide +kernel))
set_option maxRecDepth 20000 in
theorem gX3_tick_X3_requireWithin : GoodIn wsX3_tick (va_wsS RX3 38 yX3_requireWithin wsX3_requireWithin) := goodIn_app (goodIn_of _ (by decide +kernel)) ggX3_tick_X3_requireWithin
set_option maxRecDepth 20000 in
theorem ggX3_tick_X3_passOneTick : GoodIn wsX3_tick wsX3_passOneTick := goodIn_r _ [13, 3, 14, 15, 16, 17, 18, 19, 20, 21, 22, 23, 24, 25, 26, 27, 28, 29, 30, 31, 32, 33, 34, 35, 36, 37, 38, 39, 40, 41, 42, 43, 44, 45, 46, 47, 48, 49, 50, 51, 52, 53, 54, 55, 56, 57, 58, 59, 60, 61, 62, 63, 64, 65, 66, 67, 68, 69, 70, 71, 72, 73, 74, 75, 76, 77, 78, 79, 80, 81, 82, 83, 84, 85, 86, 87, 88, 89, 90, 91, 92, 93, 94, 95, 96, 97, 98, 99, 100, 101, 102, 103, 104, 105, 106, 107, 108, 109, 110, 111, 112, 113, 114, 115, 116, 117, 118, 119, 120, 121, 122, 123, 124, 125, 126, 127, 6, 128, 129, 130, 131, 132, 133, 134, 135, 136, 137, 138, 139, 140, 141, 142, 143, 144, 145, 146, 147, 148, 149, 150, 151, 152, 153, 154, 155, 156, 157, 158, 159, 160, 161, 162, 163, 164, 165, 166, 167, 168, 169, 170, 171, 172, 173, 174, 175, 176, 177, 178, 179, 180, 181, 182, 183, 184, 185, 186, 187, 188, 189, 190] (by decide +kernel) (by decide +kernel)
set_option maxRecDepth 20000 in
theorem gX3_tick_X3_passOneTick : GoodIn wsX3_tick (wsV RX3 173 RX3 yX3_passOneTick wsX3_passOneTick) := goodIn_app (goodIn_of _ (by decide +kernel)) ggX3_tick_X3_passOneTick
theorem dX3_tick_0 : decode cX3_tick 0 = .ok (.iload_n 1, 1) := by decide +kernel
theorem dX3_tick_1 : decode cX3_tick 1 = .ok (.iconst 1, 1) := by decide +kernel
theorem dX3_tick_2 : decode cX3_tick 2 = .ok (.bipush 100, 2) := by decide +kernel
theorem dX3_tick_4 : decode cX3_tick 4 = .ok (.invokestatic 38, 3) := by decide +kernel
theorem dX3_tick_7 : decode cX3_tick 7 = .ok (.aload_n 0, 1) := by decide +kernel
theorem dX3_tick_8 : decode cX3_tick 8 = .ok (.getfield 30, 3) := by decide +kernel
theorem dX3_tick_11 : decode cX3_tick 11 = .ok (.iload_n 1, 1) := by decide +kernel
theorem dX3_tick_12 : decode cX3_tick 12 = .ok (.iadd, 1) := by decide +kernel
theorem dX3_tick_13 : decode cX3_tick 13 = .ok (.sipush 5000, 3) := by decide +kernel
theorem dX3_tick_16 : decode cX3_tick 16 = .ok (.if_icmp .le 13, 3) := by decide +kernel
theorem dX3_tick_19 : decode cX3_tick 19 = .ok (.new 90, 3) := by decide +kernel
theorem dX3_tick_22 : decode cX3_tick 22 = .ok (.dup, 1) := by decide +kernel
theorem dX3_tick_23 : decode cX3_tick 23 = .ok (.ldc 171, 2) := by decide +kernel
theorem dX3_tick_25 : decode cX3_tick 25 = .ok (.invokespecial 94, 3) := by decide +kernel
theorem dX3_tick_28 : decode cX3_tick 28 = .ok (.athrow, 1) := by decide +kernel
theorem dX3_tick_29 : decode cX3_tick 29 = .ok (.iconst 0, 1) := by decide +kernel
theorem dX3_tick_30 : decode cX3_tick 30 = .ok (.istore_n 2, 1) := by decide +kernel
theorem dX3_tick_31 : decode cX3_tick 31 = .ok (.iconst 0, 1) := by decide +kernel
theorem dX3_tick_32 : decode cX3_tick 32 = .ok (.istore_n 3, 1) := by decide +kernel
theorem dX3_tick_33 : decode cX3_tick 33 = .ok (.iload_n 3, 1) := by decide +kernel
theorem dX3_tick_34 : decode cX3_tick 34 = .ok (.iload_n 1, 1) := by decide +kernel
theorem dX3_tick_35 : decode cX3_tick 35 = .ok (.if_icmp .ge 16, 3) := by decide +kernel
theorem dX3_tick_38 : decode cX3_tick 38 = .ok (.iload_n 2, 1) := by decide +kernel
theorem dX3_tick_39 : decode cX3_tick 39 = .ok (.aload_n 0, 1) := by decide +kernel
theorem dX3_tick_40 : decode cX3_tick 40 = .ok (.invokevirtual 173, 3) := by decide +kernel
theorem dX3_tick_43 : decode cX3_tick 43 = .ok (.iadd, 1) := by decide +kernel
theorem dX3_tick_44 : decode cX3_tick 44 = .ok (.istore_n 2, 1) := by decide +kernel
theorem dX3_tick_45 : decode cX3_tick 45 = .ok (.iinc 3 1, 3) := by decide +kernel
theorem dX3_tick_48 : decode cX3_tick 48 = .ok (.goto (-15), 3) := by decide +kernel
theorem dX3_tick_51 : decode cX3_tick 51 = .ok (.iload_n 2, 1) := by decide +kernel
theorem dX3_tick_52 : decode cX3_tick 52 = .ok (.ireturn, 1) := by decide +kernel
theorem dX3_time_0 : decode cX3_time 0 = .ok (.aload_n 0, 1) := by decide +kernel
theorem dX3_time_1 : decode cX3_time 1 = .ok (.getfield 30, 3) := by decide +kernel
theorem dX3_time_4 : decode cX3_time 4 = .ok (.ireturn, 1) := by decide +kernel
set_option maxRecDepth 20000 in
theorem ggX3_passOneTick_X2_takeIn : GoodIn wsX3_passOneTick wsX2_takeIn := goodIn_r _ [9, 10, 11, 12, 13, 14, 8, 15, 16, 17, 152, 153, 154, 155, 156, 157, 158, 159] (by decide +kernel) (by decide +kernel)
set_option maxRecDepth 20000 in
theorem gX3_passOneTick_X2_takeIn : GoodIn wsX3_passOneTick (wsV RX3 176 RX2 yX2_takeIn wsX2_takeIn) := goodIn_app (goodIn_of _ (by decide +kernel)) ggX3_passOneTick_X2_takeIn
set_option maxRecDepth 20000 in
theorem ggX3_passOneTick_X2_letThrough : GoodIn wsX3_passOneTick wsX2_letThrough := goodIn_r _ [21, 16, 22, 23, 24, 25, 26, 27, 28, 29, 30, 31, 32, 33, 34, 35, 36, 8, 37, 152, 153, 154, 155, 156, 157, 158, 159, 160, 161, 162, 163, 164, 165, 166, 167] (by decide +kernel) (by decide +kernel)
set_option maxRecDepth 20000 in
theorem gX3_passOneTick_X2_letThrough : GoodIn wsX3_passOneTick (wsV RX3 179 RX2 yX2_letThrough wsX2_letThrough) := goodIn_app (goodIn_of _ (by decide +kernel)) ggX3_passOneTick_X2_letThrough
set_option maxRecDepth 20000 in
theorem ggX3_passOneTick_X2_spillOver : GoodIn wsX3_passOneTick wsX2_spillOver := goodIn_r _ [41, 16, 42, 43, 44, 45, 24, 46, 47, 34, 35, 36, 8, 37, 152, 153, 154, 155, 156, 157, 158, 159] (by decide +kernel) (by decide +kernel)
set_option maxRecDepth 20000 in
theorem gX3_passOneTick_X2_spillOver : GoodIn wsX3_passOneTick (wsV RX3 183 RX2 yX2_spillOver wsX2_spillOver) := goodIn_app (goodIn_of _ (by decide +kernel)) ggX3_passOneTick_X2_spillOver
set_option maxRecDepth 20000 in
theorem ggX3_passOneTick_X1_measureAll : GoodIn wsX3_passOneTick wsX1_measureAll := goodIn_r _ [52, 53, 54, 55, 56, 8, 57, 42, 16, 58, 59, 60, 51, 61, 62, 63, 64, 65, 66, 67, 168, 169, 170, 171, 172, 173, 174, 175, 176, 177, 178, 179, 152, 153, 154, 155, 156, 157, 158, 159] (by decide +kernel) (by decide +kernel)
set_option maxRecDepth 20000 in
theorem gX3_passOneTick_X1_measureAll : GoodIn wsX3_passOneTick (wsV RX3 186 RX1 yX1_measureAll wsX1_measureAll) := goodIn_app (goodIn_of _ (by decide +kernel)) ggX3_passOneTick_X1_measureAll
set_option maxRecDepth 20000 in
theorem ggX3_passOneTick_X1_callAll : GoodIn wsX3_passOneTick wsX1_callAll := goodIn_r _ [71, 53, 72, 73, 74, 51, 75, 76, 77, 78, 79, 80, 81, 82, 83, 84, 85, 86, 87, 88, 89, 90, 91, 92, 93, 94, 65, 63, 64, 95, 96, 97, 98, 66, 67, 168, 169, 170, 171, 172, 173, 174, 175, 176, 177, 178, 179] (by decide +kernel) (by decide +kernel)
set_option maxRecDepth 20000 in
theorem gX3_passOneTick_X1_callAll : GoodIn wsX3_passOneTick (wsV RX3 190 RX1 yX1_callAll wsX1_callAll) := goodIn_app (goodIn_of _ (by decide +kernel)) ggX3_passOneTick_X1_callAll
set_option maxRecDepth 20000 in
theorem ggX3_passOneTick_X1_lookAll : GoodIn wsX3_passOneTick wsX1_lookAll := goodIn_r _ [102, 53, 103, 104, 105, 51, 106, 86, 67, 107, 108, 109, 110, 111, 112, 168, 169, 170, 171, 172, 173, 174, 175, 176, 177, 178, 179] (by decide +kernel) (by decide +kernel)
set_option maxRecDepth 20000 in
theorem gX3_passOneTick_X1_lookAll : GoodIn wsX3_passOneTick (wsV RX3 193 RX1 yX1_lookAll wsX1_lookAll) := goodIn_app (goodIn_of _ (by decide +kernel)) ggX3_passOneTick_X1_lookAll
set_option maxRecDepth 20000 in
theorem ggX3_passOneTick_X3_ruleGates : GoodIn wsX3_passOneTick wsX3_ruleGates := goodIn_r _ [117, 4, 118, 3, 119, 120, 121, 122, 116, 123, 1, 124, 125, 126, 127, 128, 129, 51, 130, 64, 131, 132, 133, 134, 65, 135, 136, 137, 30, 138, 32, 139, 23, 24, 25, 140, 141, 142, 143, 144, 145, 146, 147, 45, 46, 148, 149, 150, 151, 168, 169, 170, 171, 172, 173, 174, 175, 176, 177, 178, 179, 160, 161, 162, 163, 164, 165, 166, 167] (by decide +kernel) (by decide +kernel)
set_option maxRecDepth 20000 in
theorem gX3_passOneTick_X3_ruleGates : GoodIn wsX3_passOneTick (wsV RX3 196 RX3 yX3_ruleGates wsX3_ruleGates) := goodIn_app (goodIn_of _ (by decide +kernel)) ggX3_passOneTick_X3_ruleGates
theorem dX3_passOneTick_0 : decode cX3_passOneTick 0 = .ok (.aload_n 0, 1) := by decide +kernel
theorem dX3_passOneTick_1 : decode cX3_passOneTick 1 = .ok (.dup, 1) := by decide +kernel
theorem dX3_passOneTick_2 : decode cX3_passOneTick 2 = .ok (.getfield 30, 3) := by decide +kernel
theorem dX3_passOneTick_5 : decode cX3_passOneTick 5 = .ok (.iconst 1, 1) := by decide +kernel
theorem dX3_passOneTick_6 : decode cX3_passOneTick 6 = .ok (.iadd, 1) := by decide +kernel
theorem dX3_passOneTick_7 : decode cX3_passOneTick 7 = .ok (.putfield 30, 3) := by decide +kernel
theorem dX3_passOneTick_10 : decode cX3_passOneTick 10 = .ok (.aload_n 0, 1) := by decide +kernel
theorem dX3_passOneTick_11 : decode cX3_passOneTick 11 = .ok (.getfield 10, 3) := by decide +kernel
theorem dX3_passOneTick_14 : decode cX3_passOneTick 14 = .ok (.invokevirtual 176, 3) := by decide +kernel
theorem dX3_passOneTick_17 : decode cX3_passOneTick 17 = .ok (.aload_n 0, 1) := by decide +kernel
theorem dX3_passOneTick_18 : decode cX3_passOneTick 18 = .ok (.getfield 10, 3) := by decide +kernel
theorem dX3_passOneTick_21 : decode cX3_passOneTick 21 = .ok (.aload_n 0, 1) := by decide +kernel
theorem dX3_passOneTick_22 : decode cX3_passOneTick 22 = .ok (.getfield 19, 3) := by decide +kernel
theorem dX3_passOneTick_25 : decode cX3_passOneTick 25 = .ok (.invokevirtual 179, 3) := by decide +kernel
theorem dX3_passOneTick_28 : decode cX3_passOneTick 28 = .ok (.aload_n 0, 1) := by decide +kernel
theorem dX3_passOneTick_29 : decode cX3_passOneTick 29 = .ok (.getfield 10, 3) := by decide +kernel
theorem dX3_passOneTick_32 : decode cX3_passOneTick 32 = .ok (.invokevirtual 183, 3) := by decide +kernel
theorem dX3_passOneTick_35 : decode cX3_passOneTick 35 = .ok (.istore_n 1, 1) := by decide +kernel
theorem dX3_passOneTick_36 : decode cX3_passOneTick 36 = .ok (.aload_n 0, 1) := by decide +kernel
theorem dX3_passOneTick_37 : decode cX3_passOneTick 37 = .ok (.getfield 26, 3) := by decide +kernel
theorem dX3_passOneTick_40 : decode cX3_passOneTick 40 = .ok (.aload_n 0, 1) := by decide +kernel
theorem dX3_passOneTick_41 : decode cX3_passOneTick 41 = .ok (.getfield 10, 3) := by decide +kernel
theorem dX3_passOneTick_44 : decode cX3_passOneTick 44 = .ok (.aload_n 0, 1) := by decide +kernel
theorem dX3_passOneTick_45 : decode cX3_passOneTick 45 = .ok (.getfield 30, 3) := by decide +kernel
theorem dX3_passOneTick_48 : decode cX3_passOneTick 48 = .ok (.invokevirtual 186, 3) := by decide +kernel
theorem dX3_passOneTick_51 : decode cX3_passOneTick 51 = .ok (.aload_n 0, 1) := by decide +kernel
theorem dX3_passOneTick_52 : decode cX3_passOneTick 52 = .ok (.getfield 26, 3) := by decide +kernel
theorem dX3_passOneTick_55 : decode cX3_passOneTick 55 = .ok (.aload_n 0, 1) := by decide +kernel
theorem dX3_passOneTick_56 : decode cX3_passOneTick 56 = .ok (.getfield 30, 3) := by decide +kernel
theorem dX3_passOneTick_59 : decode cX3_passOneTick 59 = .ok (.invokevirtual 190, 3) := by decide +kernel
theorem dX3_passOneTick_62 : decode cX3_passOneTick 62 = .ok (.aload_n 0, 1) := by decide +kernel
theorem dX3_passOneTick_63 : decode cX3_passOneTick 63 = .ok (.getfield 26, 3) := by decide +kernel
theorem dX3_passOneTick_66 : decode cX3_passOneTick 66 = .ok (.aload_n 0, 1) := by decide +kernel
theorem dX3_passOneTick_67 : decode cX3_passOneTick 67 = .ok (.getfield 30, 3) := by decide +kernel
theorem dX3_passOneTick_70 : decode cX3_passOneTick 70 = .ok (.invokevirtual 193, 3) := by decide +kernel
theorem dX3_passOneTick_73 : decode cX3_passOneTick 73 = .ok (.aload_n 0, 1) := by decide +kernel
theorem dX3_passOneTick_74 : decode cX3_passOneTick 74 = .ok (.invokevirtual 196, 3) := by decide +kernel
theorem dX3_passOneTick_77 : decode cX3_passOneTick 77 = .ok (.iload_n 1, 1) := by decide +kernel
theorem dX3_passOneTick_78 : decode cX3_passOneTick 78 = .ok (.ireturn, 1) := by decide +kernel
set_option maxRecDepth 20000 in
theorem ggX3_ruleGates_X3_ruleGate : GoodIn wsX3_ruleGates wsX3_ruleGate := goodIn_r _ [9, 1, 10, 3, 11, 12, 13, 14, 15, 16, 17, 18, 19, 20, 21, 22, 23, 24, 25, 26, 27, 28, 29, 30, 31, 32, 33, 34, 35, 36, 37, 38, 39, 40, 41, 42, 43, 44, 45, 46, 47, 48, 61, 62, 63, 64, 65, 66, 67, 68, 49, 50, 51, 52, 53, 54, 55, 56, 57, 58, 59, 60] (by decide +kernel) (by decide +kernel)
set_option maxRecDepth 20000 in
theorem gX3_ruleGates_X3_ruleGate : GoodIn wsX3_ruleGates (wsV RX3 199 RX3 yX3_ruleGate wsX3_ruleGate) := goodIn_app (goodIn_of _ (by decide +kernel)) ggX3_ruleGates_X3_ruleGate
theorem dX3_ruleGates_0 : decode cX3_ruleGates 0 = .ok (.iconst 0, 1) := by decide +kernel
theorem dX3_ruleGates_1 : decode cX3_ruleGates 1 = .ok (.istore_n 1, 1) := by decide +kernel
theorem dX3_ruleGates_2 : decode cX3_ruleGates 2 = .ok (.iload_n 1, 1) := by decide +kernel
theorem dX3_ruleGates_3 : decode cX3_ruleGates 3 = .ok (.bipush 8, 2) := by decide +kernel
theorem dX3_ruleGates_5 : decode cX3_ruleGates 5 = .ok (.if_icmp .ge 38, 3) := by decide +kernel
theorem dX3_ruleGates_8 : decode cX3_ruleGates 8 = .ok (.aload_n 0, 1) := by decide +kernel
theorem dX3_ruleGates_9 : decode cX3_ruleGates 9 = .ok (.getfield 26, 3) := by decide +kernel
theorem dX3_ruleGates_12 : decode cX3_ruleGates 12 = .ok (.getfield 103, 3) := by decide +kernel
theorem dX3_ruleGates_15 : decode cX3_ruleGates 15 = .ok (.iload_n 1, 1) := by decide +kernel
theorem dX3_ruleGates_16 : decode cX3_ruleGates 16 = .ok (.baload, 1) := by decide +kernel
theorem dX3_ruleGates_17 : decode cX3_ruleGates 17 = .ok (.ifCond .ne 20, 3) := by decide +kernel
theorem dX3_ruleGates_20 : decode cX3_ruleGates 20 = .ok (.aload_n 0, 1) := by decide +kernel
theorem dX3_ruleGates_21 : decode cX3_ruleGates 21 = .ok (.getfield 19, 3) := by decide +kernel
theorem dX3_ruleGates_24 : decode cX3_ruleGates 24 = .ok (.getfield 86, 3) := by decide +kernel
theorem dX3_ruleGates_27 : decode cX3_ruleGates 27 = .ok (.iload_n 1, 1) := by decide +kernel
theorem dX3_ruleGates_28 : decode cX3_ruleGates 28 = .ok (.baload, 1) := by decide +kernel
theorem dX3_ruleGates_29 : decode cX3_ruleGates 29 = .ok (.ifCond .ne 8, 3) := by decide +kernel
theorem dX3_ruleGates_32 : decode cX3_ruleGates 32 = .ok (.aload_n 0, 1) := by decide +kernel
theorem dX3_ruleGates_33 : decode cX3_ruleGates 33 = .ok (.iload_n 1, 1) := by decide +kernel
theorem dX3_ruleGates_34 : decode cX3_ruleGates 34 = .ok (.invokevirtual 199, 3) := by decide +kernel
theorem dX3_ruleGates_37 : decode cX3_ruleGates 37 = .ok (.iinc 1 1, 3) := by decide +kernel
theorem dX3_ruleGates_40 : decode cX3_ruleGates 40 = .ok (.goto (-38), 3) := by decide +kernel
theorem dX3_ruleGates_43 : decode cX3_ruleGates 43 = .ok (.return_, 1) := by decide +kernel
set_option maxRecDepth 20000 in
theorem ggX3_ruleGate_X1_isOld : GoodIn wsX3_ruleGate wsX1_isOld := goodIn_r _ [11, 12, 13, 14, 15, 10, 16, 17, 50, 51, 52, 53, 54, 55, 56, 57, 58, 59, 60, 61] (by decide +kernel) (by decide +kernel)
set_option maxRecDepth 20000 in
theorem gX3_ruleGate_X1_isOld : GoodIn wsX3_ruleGate (wsV RX3 202 RX1 yX1_isOld wsX1_isOld) := goodIn_app (goodIn_of _ (by decide +kernel)) ggX3_ruleGate_X1_isOld
set_option maxRecDepth 20000 in
theorem ggX3_ruleGate_X0_openForSafety : GoodIn wsX3_ruleGate wsX0_openForSafety := goodIn_r _ [22, 23, 24, 25, 26, 27, 28, 42, 43, 44, 45, 46, 47, 48, 49] (by decide +kernel) (by decide +kernel)
set_option maxRecDepth 20000 in
theorem gX3_ruleGate_X0_openForSafety : GoodIn wsX3_ruleGate (wsV RX3 206 RX0 yX0_openForSafety wsX0_openForSafety) := goodIn_app (goodIn_of _ (by decide +kernel)) ggX3_ruleGate_X0_openForSafety
set_option maxRecDepth 20000 in
theorem ggX3_ruleGate_X0_follow : GoodIn wsX3_ruleGate wsX0_follow := goodIn_r _ [32, 33, 23, 24, 25, 26, 27, 34, 35, 36, 37, 42, 43, 44, 45, 46, 47, 48, 49] (by decide +kernel) (by decide +kernel)
set_option maxRecDepth 20000 in
theorem gX3_ruleGate_X0_follow : GoodIn wsX3_ruleGate (wsV RX3 209 RX0 yX0_follow wsX0_follow) := goodIn_app (goodIn_of _ (by decide +kernel)) ggX3_ruleGate_X0_follow
theorem dX3_ruleGate_0 : decode cX3_ruleGate 0 = .ok (.iload_n 1, 1) := by decide +kernel
theorem dX3_ruleGate_1 : decode cX3_ruleGate 1 = .ok (.iconst 1, 1) := by decide +kernel
theorem dX3_ruleGate_2 : decode cX3_ruleGate 2 = .ok (.iadd, 1) := by decide +kernel
theorem dX3_ruleGate_3 : decode cX3_ruleGate 3 = .ok (.istore_n 2, 1) := by decide +kernel
theorem dX3_ruleGate_4 : decode cX3_ruleGate 4 = .ok (.iload_n 2, 1) := by decide +kernel
theorem dX3_ruleGate_5 : decode cX3_ruleGate 5 = .ok (.bipush 8, 2) := by decide +kernel
theorem dX3_ruleGate_7 : decode cX3_ruleGate 7 = .ok (.if_icmp .ge 7, 3) := by decide +kernel
theorem dX3_ruleGate_10 : decode cX3_ruleGate 10 = .ok (.iconst 1, 1) := by decide +kernel
theorem dX3_ruleGate_11 : decode cX3_ruleGate 11 = .ok (.goto 4, 3) := by decide +kernel
theorem dX3_ruleGate_14 : decode cX3_ruleGate 14 = .ok (.iconst 0, 1) := by decide +kernel
theorem dX3_ruleGate_15 : decode cX3_ruleGate 15 = .ok (.istore_n 3, 1) := by decide +kernel
theorem dX3_ruleGate_16 : decode cX3_ruleGate 16 = .ok (.iload_n 3, 1) := by decide +kernel
theorem dX3_ruleGate_17 : decode cX3_ruleGate 17 = .ok (.ifCond .eq 37, 3) := by decide +kernel
theorem dX3_ruleGate_20 : decode cX3_ruleGate 20 = .ok (.aload_n 0, 1) := by decide +kernel
theorem dX3_ruleGate_21 : decode cX3_ruleGate 21 = .ok (.getfield 26, 3) := by decide +kernel
theorem dX3_ruleGate_24 : decode cX3_ruleGate 24 = .ok (.iload_n 1, 1) := by decide +kernel
theorem dX3_ruleGate_25 : decode cX3_ruleGate 25 = .ok (.iload_n 2, 1) := by decide +kernel
theorem dX3_ruleGate_26 : decode cX3_ruleGate 26 = .ok (.aload_n 0, 1) := by decide +kernel
theorem dX3_ruleGate_27 : decode cX3_ruleGate 27 = .ok (.getfield 30, 3) := by decide +kernel
theorem dX3_ruleGate_30 : decode cX3_ruleGate 30 = .ok (.aload_n 0, 1) := by decide +kernel
theorem dX3_ruleGate_31 : decode cX3_ruleGate 31 = .ok (.getfield 19, 3) := by decide +kernel
theorem dX3_ruleGate_34 : decode cX3_ruleGate 34 = .ok (.getfield 83, 3) := by decide +kernel
theorem dX3_ruleGate_37 : decode cX3_ruleGate 37 = .ok (.iload_n 1, 1) := by decide +kernel
theorem dX3_ruleGate_38 : decode cX3_ruleGate 38 = .ok (.iaload, 1) := by decide +kernel
theorem dX3_ruleGate_39 : decode cX3_ruleGate 39 = .ok (.invokevirtual 202, 3) := by decide +kernel
theorem dX3_ruleGate_42 : decode cX3_ruleGate 42 = .ok (.ifCond .eq 12, 3) := by decide +kernel
theorem dX3_ruleGate_45 : decode cX3_ruleGate 45 = .ok (.aload_n 0, 1) := by decide +kernel
theorem dX3_ruleGate_46 : decode cX3_ruleGate 46 = .ok (.getfield 19, 3) := by decide +kernel
theorem dX3_ruleGate_49 : decode cX3_ruleGate 49 = .ok (.iload_n 1, 1) := by decide +kernel
theorem dX3_ruleGate_50 : decode cX3_ruleGate 50 = .ok (.invokevirtual 206, 3) := by decide +kernel
theorem dX3_ruleGate_53 : decode cX3_ruleGate 53 = .ok (.return_, 1) := by decide +kernel
theorem dX3_ruleGate_54 : decode cX3_ruleGate 54 = .ok (.iload_n 3, 1) := by decide +kernel
theorem dX3_ruleGate_55 : decode cX3_ruleGate 55 = .ok (.ifCond .eq 26, 3) := by decide +kernel
theorem dX3_ruleGate_58 : decode cX3_ruleGate 58 = .ok (.aload_n 0, 1) := by decide +kernel
theorem dX3_ruleGate_59 : decode cX3_ruleGate 59 = .ok (.getfield 26, 3) := by decide +kernel
theorem dX3_ruleGate_62 : decode cX3_ruleGate 62 = .ok (.getfield 136, 3) := by decide +kernel
theorem dX3_ruleGate_65 : decode cX3_ruleGate 65 = .ok (.iload_n 1, 1) := by decide +kernel
theorem dX3_ruleGate_66 : decode cX3_ruleGate 66 = .ok (.aaload, 1) := by decide +kernel
theorem dX3_ruleGate_67 : decode cX3_ruleGate 67 = .ok (.iload_n 2, 1) := by decide +kernel
theorem dX3_ruleGate_68 : decode cX3_ruleGate 68 = .ok (.iaload, 1) := by decide +kernel
theorem dX3_ruleGate_69 : decode cX3_ruleGate 69 = .ok (.aload_n 0, 1) := by decide +kernel
theorem dX3_ruleGate_70 : decode cX3_ruleGate 70 = .ok (.getfield 19, 3) := by decide +kernel
theorem dX3_ruleGate_73 : decode cX3_ruleGate 73 = .ok (.getfield 80, 3) := by decide +kernel
theorem dX3_ruleGate_76 : decode cX3_ruleGate 76 = .ok (.iload_n 1, 1) := by decide +kernel
theorem dX3_ruleGate_77 : decode cX3_ruleGate 77 = .ok (.iaload, 1) := by decide +kernel
theorem dX3_ruleGate_78 : decode cX3_ruleGate 78 = .ok (.if_icmp .ge 7, 3) := by decide +kernel
theorem dX3_ruleGate_81 : decode cX3_ruleGate 81 = .ok (.iconst 1, 1) := by decide +kernel
theorem dX3_ruleGate_82 : decode cX3_ruleGate 82 = .ok (.goto 4, 3) := by decide +kernel
theorem dX3_ruleGate_85 : decode cX3_ruleGate 85 = .ok (.iconst 0, 1) := by decide +kernel
theorem dX3_ruleGate_86 : decode cX3_ruleGate 86 = .ok (.istore 4, 2) := by decide +kernel
theorem dX3_ruleGate_88 : decode cX3_ruleGate 88 = .ok (.aload_n 0, 1) := by decide +kernel
theorem dX3_ruleGate_89 : decode cX3_ruleGate 89 = .ok (.getfield 19, 3) := by decide +kernel
theorem dX3_ruleGate_92 : decode cX3_ruleGate 92 = .ok (.iload_n 1, 1) := by decide +kernel
theorem dX3_ruleGate_93 : decode cX3_ruleGate 93 = .ok (.aload_n 0, 1) := by decide +kernel
theorem dX3_ruleGate_94 : decode cX3_ruleGate 94 = .ok (.getfield 26, 3) := by decide +kernel
theorem dX3_ruleGate_97 : decode cX3_ruleGate 97 = .ok (.getfield 136, 3) := by decide +kernel
theorem dX3_ruleGate_100 : decode cX3_ruleGate 100 = .ok (.iload_n 1, 1) := by decide +kernel
theorem dX3_ruleGate_101 : decode cX3_ruleGate 101 = .ok (.aaload, 1) := by decide +kernel
theorem dX3_ruleGate_102 : decode cX3_ruleGate 102 = .ok (.iload_n 1, 1) := by decide +kernel
theorem dX3_ruleGate_103 : decode cX3_ruleGate 103 = .ok (.iaload, 1) := by decide +kernel
theorem dX3_ruleGate_104 : decode cX3_ruleGate 104 = .ok (.iload 4, 2) := by decide +kernel
theorem dX3_ruleGate_106 : decode cX3_ruleGate 106 = .ok (.invokevirtual 209, 3) := by decide +kernel
theorem dX3_ruleGate_109 : decode cX3_ruleGate 109 = .ok (.return_, 1) := by decide +kernel
set_option maxRecDepth 20000 in
theorem ggX3_requireNumber_X3_requireWithin : GoodIn wsX3_requireNumber wsX3_requireWithin := goodIn_ca (goodIn_r _ [4, 5, 6] (by decide +kernel) (by decide +kernel)) (goodIn_sub (fun _ h => List.mem_cons_of_mem _ (List.mem_append_right _ h)) (by decide +kernel))
set_option maxRecDepth 20000 in
theorem gX3_requireNumber_X3_requireWithin : GoodIn wsX3_requireNumber (va_wsS RX3 38 yX3_requireWithin wsX3_requireWithin) := goodIn_app (goodIn_of _ (by decide +kernel)) ggX3_requireNumber_X3_requireWithin
theorem dX3_requireNumber_0 : decode cX3_requireNumber 0 = .ok (.iload_n 0, 1) := by decide +kernel
theorem dX3_requireNumber_1 : decode cX3_requireNumber 1 = .ok (.iconst 0, 1) := by decide +kernel
theorem dX3_requireNumber_2 : decode cX3_requireNumber 2 = .ok (.bipush 7, 2) := by decide +kernel
theorem dX3_requireNumber_4 : decode cX3_requireNumber 4 = .ok (.invokestatic 38, 3) := by decide +kernel
theorem dX3_requireNumber_7 : decode cX3_requireNumber 7 = .ok (.return_, 1) := by decide +kernel
theorem dX3_requireWithin_0 : decode cX3_requireWithin 0 = .ok (.iload_n 0, 1) := by decide +kernel
theorem dX3_requireWithin_1 : decode cX3_requireWithin 1 = .ok (.iload_n 1, 1) := by decide +kernel
theorem dX3_requireWithin_2 : decode cX3_requireWithin 2 = .ok (.if_icmp .lt 8, 3) := by decide +kernel
theorem dX3_requireWithin_5 : decode cX3_requireWithin 5 = .ok (.iload_n 0, 1) := by decide +kernel
theorem dX3_requireWithin_6 : decode cX3_requireWithin 6 = .ok (.iload_n 2, 1) := by decide +kernel
theorem dX3_requireWithin_7 : decode cX3_requireWithin 7 = .ok (.if_icmp .le 13, 3) := by decide +kernel
theorem dX3_requireWithin_10 : decode cX3_requireWithin 10 = .ok (.new 213, 3) := by decide +kernel
theorem dX3_requireWithin_13 : decode cX3_requireWithin 13 = .ok (.dup, 1) := by decide +kernel
theorem dX3_requireWithin_14 : decode cX3_requireWithin 14 = .ok (.ldc 215, 2) := by decide +kernel
theorem dX3_requireWithin_16 : decode cX3_requireWithin 16 = .ok (.invokespecial 217, 3) := by decide +kernel
theorem dX3_requireWithin_19 : decode cX3_requireWithin 19 = .ok (.athrow, 1) := by decide +kernel
theorem dX3_requireWithin_20 : decode cX3_requireWithin 20 = .ok (.return_, 1) := by decide +kernel
end
section
theorem dJ9_max_7cf53_0 : decode cJ9_max_7cf53 0 = .ok (.iload_n 0, 1) := by decide +kernel
theorem dJ9_max_7cf53_1 : decode cJ9_max_7cf53 1 = .ok (.iload_n 1, 1) := by decide +kernel
theorem dJ9_max_7cf53_2 : decode cJ9_max_7cf53 2 = .ok (.if_icmp .lt 7, 3) := by decide +kernel
theorem dJ9_max_7cf53_5 : decode cJ9_max_7cf53 5 = .ok (.iload_n 0, 1) := by decide +kernel
theorem dJ9_max_7cf53_6 : decode cJ9_max_7cf53 6 = .ok (.goto 4, 3) := by decide +kernel
theorem dJ9_max_7cf53_9 : decode cJ9_max_7cf53 9 = .ok (.iload_n 1, 1) := by decide +kernel
theorem dJ9_max_7cf53_10 : decode cJ9_max_7cf53 10 = .ok (.ireturn, 1) := by decide +kernel
theorem dJ9_min_7cf53_0 : decode cJ9_min_7cf53 0 = .ok (.iload_n 0, 1) := by decide +kernel
theorem dJ9_min_7cf53_1 : decode cJ9_min_7cf53 1 = .ok (.iload_n 1, 1) := by decide +kernel
theorem dJ9_min_7cf53_2 : decode cJ9_min_7cf53 2 = .ok (.if_icmp .gt 7, 3) := by decide +kernel
theorem dJ9_min_7cf53_5 : decode cJ9_min_7cf53 5 = .ok (.iload_n 0, 1) := by decide +kernel
theorem dJ9_min_7cf53_6 : decode cJ9_min_7cf53 6 = .ok (.goto 4, 3) := by decide +kernel
theorem dJ9_min_7cf53_9 : decode cJ9_min_7cf53 9 = .ok (.iload_n 1, 1) := by decide +kernel
theorem dJ9_min_7cf53_10 : decode cJ9_min_7cf53 10 = .ok (.ireturn, 1) := by decide +kernel
end
section
/-! 03f: the law -/
theorem goodIn_nil {big : List Cond} : GoodIn big [] := fun _ h => nomatch h
theorem goodIn_c1 {big a : List Cond} {c : Cond} (hc : GoodIn big [c]) (ha : GoodIn big a) : GoodIn big (c :: a) := fun w h => (List.mem_cons.mp h).elim (fun e => hc w (List.mem_singleton.mpr e)) (ha w)
theorem goodIn_1 {big : List Cond} {c : Cond} {i : Nat} (h : big[i]? = some c) (hg : goodWord c = true) : GoodIn big [c] := fun w hw => by
  obtain rfl := List.mem_singleton.mp hw
  exact ⟨List.mem_of_getElem? h, good_of_word hg⟩
theorem dL_dice_0 : decode cL_dice 0 = .ok (.iload_n 1, 1) := by decide +kernel
theorem dL_dice_1 : decode cL_dice 1 = .ok (.aload_n 0, 1) := by decide +kernel
theorem dL_dice_2 : decode cL_dice 2 = .ok (.arraylength, 1) := by decide +kernel
theorem dL_dice_3 : decode cL_dice 3 = .ok (.if_icmp .ge 9, 3) := by decide +kernel
theorem dL_dice_6 : decode cL_dice 6 = .ok (.aload_n 0, 1) := by decide +kernel
theorem dL_dice_7 : decode cL_dice 7 = .ok (.iload_n 1, 1) := by decide +kernel
theorem dL_dice_8 : decode cL_dice 8 = .ok (.iaload, 1) := by decide +kernel
theorem dL_dice_9 : decode cL_dice 9 = .ok (.goto 23, 3) := by decide +kernel
theorem dL_dice_12 : decode cL_dice 12 = .ok (.ldc 7, 2) := by decide +kernel
theorem dL_dice_14 : decode cL_dice 14 = .ok (.iload_n 1, 1) := by decide +kernel
theorem dL_dice_15 : decode cL_dice 15 = .ok (.sipush 311, 3) := by decide +kernel
theorem dL_dice_18 : decode cL_dice 18 = .ok (.iadd, 1) := by decide +kernel
theorem dL_dice_19 : decode cL_dice 19 = .ok (.imul, 1) := by decide +kernel
theorem dL_dice_20 : decode cL_dice 20 = .ok (.sipush 709, 3) := by decide +kernel
theorem dL_dice_23 : decode cL_dice 23 = .ok (.iload_n 1, 1) := by decide +kernel
theorem dL_dice_24 : decode cL_dice 24 = .ok (.imul, 1) := by decide +kernel
theorem dL_dice_25 : decode cL_dice 25 = .ok (.iload_n 1, 1) := by decide +kernel
theorem dL_dice_26 : decode cL_dice 26 = .ok (.imul, 1) := by decide +kernel
theorem dL_dice_27 : decode cL_dice 27 = .ok (.iadd, 1) := by decide +kernel
theorem dL_dice_28 : decode cL_dice 28 = .ok (.sipush 199, 3) := by decide +kernel
theorem dL_dice_31 : decode cL_dice 31 = .ok (.iadd, 1) := by decide +kernel
theorem dL_dice_32 : decode cL_dice 32 = .ok (.ldc 8, 2) := by decide +kernel
theorem dL_dice_34 : decode cL_dice 34 = .ok (.iand, 1) := by decide +kernel
theorem dL_dice_35 : decode cL_dice 35 = .ok (.ireturn, 1) := by decide +kernel
set_option maxRecDepth 20000 in
theorem ggL_act_X3_setGauge : GoodIn wsL_act wsX3_setGauge := goodIn_ca (goodIn_r _ [7, 8, 9, 10, 11, 6, 12, 13, 14, 15, 16, 17, 198, 199, 200, 201, 202, 203, 204, 205, 206, 207, 208, 209] (by decide +kernel) (by decide +kernel)) (goodIn_sub (fun _ h => List.mem_cons_of_mem _ (List.mem_append_left _ (List.mem_append_right _ h))) (by decide +kernel))
set_option maxRecDepth 20000 in
theorem gL_act_X3_setGauge : GoodIn wsL_act (wsV RL 9 RX3 yX3_setGauge wsX3_setGauge) := goodIn_app (goodIn_of _ (by decide +kernel)) ggL_act_X3_setGauge
set_option maxRecDepth 20000 in
theorem ggL_act_X3_setSource : GoodIn wsL_act wsX3_setSource := goodIn_ca (goodIn_r _ [21, 22, 23, 13, 14, 6, 15, 16, 17, 198, 199, 200, 201, 210, 211, 212, 213, 214, 215, 216, 217] (by decide +kernel) (by decide +kernel)) (goodIn_sub (fun _ h => List.mem_cons_of_mem _ (List.mem_append_left _ (List.mem_append_right _ h))) (by decide +kernel))
set_option maxRecDepth 20000 in
theorem gL_act_X3_setSource : GoodIn wsL_act (wsV RL 15 RX3 yX3_setSource wsX3_setSource) := goodIn_app (goodIn_of _ (by decide +kernel)) ggL_act_X3_setSource
set_option maxRecDepth 20000 in
theorem ggL_act_X3_rain : GoodIn wsL_act wsX3_rain := goodIn_ca (goodIn_r _ [27, 22, 28, 10, 11, 6, 12, 13, 14, 15, 16, 17, 198, 199, 200, 201, 210, 211, 212, 213, 214, 215, 216, 217] (by decide +kernel) (by decide +kernel)) (goodIn_sub (fun _ h => List.mem_cons_of_mem _ (List.mem_append_left _ (List.mem_append_right _ h))) (by decide +kernel))
set_option maxRecDepth 20000 in
theorem gL_act_X3_rain : GoodIn wsL_act (wsV RL 19 RX3 yX3_rain wsX3_rain) := goodIn_app (goodIn_of _ (by decide +kernel)) ggL_act_X3_rain
set_option maxRecDepth 20000 in
theorem ggL_act_X3_byHand : GoodIn wsL_act wsX3_byHand := goodIn_ca (goodIn_ca (goodIn_r _ [32, 33, 34, 8, 35, 36, 10, 11, 6, 12, 13, 14, 15, 16, 17, 198, 199, 200, 201, 202, 203, 204, 205, 206, 207, 208, 209] (by decide +kernel) (by decide +kernel)) (goodIn_sub (fun _ h => List.mem_cons_of_mem _ (List.mem_append_right _ h)) (by decide +kernel))) (goodIn_sub (fun _ h => List.mem_cons_of_mem _ (List.mem_append_left _ (List.mem_append_right _ h))) (by decide +kernel))
set_option maxRecDepth 20000 in
theorem gL_act_X3_byHand : GoodIn wsL_act (wsV RL 22 RX3 yX3_byHand wsX3_byHand) := goodIn_app (goodIn_of _ (by decide +kernel)) ggL_act_X3_byHand
set_option maxRecDepth 20000 in
theorem ggL_act_X3_setGroup : GoodIn wsL_act wsX3_setGroup := goodIn_ca (goodIn_r _ [40, 41, 42, 10, 11, 6, 12, 13, 14, 15, 16, 17, 198, 199, 200, 201, 218, 219, 220, 221, 222, 223, 224, 225, 226, 227, 228, 229] (by decide +kernel) (by decide +kernel)) (goodIn_sub (fun _ h => List.mem_cons_of_mem _ (List.mem_append_left _ (List.mem_append_right _ h))) (by decide +kernel))
set_option maxRecDepth 20000 in
theorem gL_act_X3_setGroup : GoodIn wsL_act (wsV RL 25 RX3 yX3_setGroup wsX3_setGroup) := goodIn_app (goodIn_of _ (by decide +kernel)) ggL_act_X3_setGroup
set_option maxRecDepth 20000 in
theorem ggL_act_X3_setStuck : GoodIn wsL_act wsX3_setStuck := goodIn_ca (goodIn_r _ [46, 41, 47, 10, 11, 6, 12, 13, 14, 15, 16, 17, 198, 199, 200, 201, 218, 219, 220, 221, 222, 223, 224, 225, 226, 227, 228, 229] (by decide +kernel) (by decide +kernel)) (goodIn_sub (fun _ h => List.mem_cons_of_mem _ (List.mem_append_left _ (List.mem_append_right _ h))) (by decide +kernel))
set_option maxRecDepth 20000 in
theorem gL_act_X3_setStuck : GoodIn wsL_act (wsV RL 28 RX3 yX3_setStuck wsX3_setStuck) := goodIn_app (goodIn_of _ (by decide +kernel)) ggL_act_X3_setStuck
set_option maxRecDepth 20000 in
theorem ggL_act_X3_tick : GoodIn wsL_act wsX3_tick := goodIn_ca (goodIn_ca (goodIn_r _ [51, 33, 34, 52, 13, 14, 6, 15, 16, 17, 53, 54, 55, 56, 22, 8, 41, 57, 58, 59, 60, 61, 62, 63, 64, 65, 66, 67, 68, 69, 70, 71, 72, 73, 74, 75, 76, 77, 78, 79, 80, 81, 82, 83, 84, 85, 86, 87, 88, 89, 90, 91, 92, 93, 94, 95, 96, 97, 98, 99, 100, 101, 102, 103, 104, 105, 106, 107, 108, 109, 110, 111, 112, 113, 114, 115, 116, 117, 118, 119, 120, 121, 122, 123, 124, 125, 126, 127, 128, 129, 130, 131, 132, 133, 134, 135, 136, 137, 138, 139, 140, 141, 142, 143, 144, 145, 146, 147, 148, 149, 150, 151, 152, 153, 154, 155, 156, 157, 158, 159, 160, 161, 162, 163, 164, 165, 166, 167, 168, 169, 35, 170, 171, 172, 173, 174, 175, 176, 177, 178, 179, 180, 181, 182, 183, 184, 185, 186, 187, 188, 189, 190, 191, 192, 193, 194, 195, 196, 197, 198, 199, 200, 201, 210, 211, 212, 213, 214, 215, 216, 217, 202, 203, 204, 205, 206, 207, 208, 209, 218, 219, 220, 221, 222, 223, 224, 225, 226, 227, 228, 229] (by decide +kernel) (by decide +kernel)) (goodIn_sub (fun _ h => List.mem_cons_of_mem _ (List.mem_append_right _ h)) (by decide +kernel))) (goodIn_sub (fun _ h => List.mem_cons_of_mem _ (List.mem_append_left _ (List.mem_append_right _ h))) (by decide +kernel))
set_option maxRecDepth 20000 in
theorem gL_act_X3_tick : GoodIn wsL_act (wsV RL 32 RX3 yX3_tick wsX3_tick) := goodIn_app (goodIn_of _ (by decide +kernel)) ggL_act_X3_tick
theorem dL_act_0 : decode cL_act 0 = .ok (.iload_n 1, 1) := by decide +kernel
theorem dL_act_1 : decode cL_act 1 = .ok (.ifCond .ne 12, 3) := by decide +kernel
theorem dL_act_4 : decode cL_act 4 = .ok (.aload_n 0, 1) := by decide +kernel
theorem dL_act_5 : decode cL_act 5 = .ok (.iload_n 2, 1) := by decide +kernel
theorem dL_act_6 : decode cL_act 6 = .ok (.iload_n 3, 1) := by decide +kernel
theorem dL_act_7 : decode cL_act 7 = .ok (.invokevirtual 9, 3) := by decide +kernel
theorem dL_act_10 : decode cL_act 10 = .ok (.goto 94, 3) := by decide +kernel
theorem dL_act_13 : decode cL_act 13 = .ok (.iload_n 1, 1) := by decide +kernel
theorem dL_act_14 : decode cL_act 14 = .ok (.iconst 1, 1) := by decide +kernel
theorem dL_act_15 : decode cL_act 15 = .ok (.if_icmp .ne 11, 3) := by decide +kernel
theorem dL_act_18 : decode cL_act 18 = .ok (.aload_n 0, 1) := by decide +kernel
theorem dL_act_19 : decode cL_act 19 = .ok (.iload_n 2, 1) := by decide +kernel
theorem dL_act_20 : decode cL_act 20 = .ok (.invokevirtual 15, 3) := by decide +kernel
theorem dL_act_23 : decode cL_act 23 = .ok (.goto 81, 3) := by decide +kernel
theorem dL_act_26 : decode cL_act 26 = .ok (.iload_n 1, 1) := by decide +kernel
theorem dL_act_27 : decode cL_act 27 = .ok (.iconst 2, 1) := by decide +kernel
theorem dL_act_28 : decode cL_act 28 = .ok (.if_icmp .ne 12, 3) := by decide +kernel
theorem dL_act_31 : decode cL_act 31 = .ok (.aload_n 0, 1) := by decide +kernel
theorem dL_act_32 : decode cL_act 32 = .ok (.iload_n 2, 1) := by decide +kernel
theorem dL_act_33 : decode cL_act 33 = .ok (.iload_n 3, 1) := by decide +kernel
theorem dL_act_34 : decode cL_act 34 = .ok (.invokevirtual 19, 3) := by decide +kernel
theorem dL_act_37 : decode cL_act 37 = .ok (.goto 67, 3) := by decide +kernel
theorem dL_act_40 : decode cL_act 40 = .ok (.iload_n 1, 1) := by decide +kernel
theorem dL_act_41 : decode cL_act 41 = .ok (.iconst 3, 1) := by decide +kernel
theorem dL_act_42 : decode cL_act 42 = .ok (.if_icmp .ne 12, 3) := by decide +kernel
theorem dL_act_45 : decode cL_act 45 = .ok (.aload_n 0, 1) := by decide +kernel
theorem dL_act_46 : decode cL_act 46 = .ok (.iload_n 2, 1) := by decide +kernel
theorem dL_act_47 : decode cL_act 47 = .ok (.iload_n 3, 1) := by decide +kernel
theorem dL_act_48 : decode cL_act 48 = .ok (.invokevirtual 22, 3) := by decide +kernel
theorem dL_act_51 : decode cL_act 51 = .ok (.goto 53, 3) := by decide +kernel
theorem dL_act_54 : decode cL_act 54 = .ok (.iload_n 1, 1) := by decide +kernel
theorem dL_act_55 : decode cL_act 55 = .ok (.iconst 4, 1) := by decide +kernel
theorem dL_act_56 : decode cL_act 56 = .ok (.if_icmp .ne 12, 3) := by decide +kernel
theorem dL_act_59 : decode cL_act 59 = .ok (.aload_n 0, 1) := by decide +kernel
theorem dL_act_60 : decode cL_act 60 = .ok (.iload_n 2, 1) := by decide +kernel
theorem dL_act_61 : decode cL_act 61 = .ok (.iload_n 3, 1) := by decide +kernel
theorem dL_act_62 : decode cL_act 62 = .ok (.invokevirtual 25, 3) := by decide +kernel
theorem dL_act_65 : decode cL_act 65 = .ok (.goto 39, 3) := by decide +kernel
theorem dL_act_68 : decode cL_act 68 = .ok (.iload_n 1, 1) := by decide +kernel
theorem dL_act_69 : decode cL_act 69 = .ok (.iconst 5, 1) := by decide +kernel
theorem dL_act_70 : decode cL_act 70 = .ok (.if_icmp .ne 29, 3) := by decide +kernel
theorem dL_act_73 : decode cL_act 73 = .ok (.aload_n 0, 1) := by decide +kernel
theorem dL_act_74 : decode cL_act 74 = .ok (.iload_n 2, 1) := by decide +kernel
theorem dL_act_75 : decode cL_act 75 = .ok (.iload_n 3, 1) := by decide +kernel
theorem dL_act_76 : decode cL_act 76 = .ok (.iconst 1, 1) := by decide +kernel
theorem dL_act_77 : decode cL_act 77 = .ok (.if_icmp .ne 7, 3) := by decide +kernel
theorem dL_act_80 : decode cL_act 80 = .ok (.iconst 1, 1) := by decide +kernel
theorem dL_act_81 : decode cL_act 81 = .ok (.goto 4, 3) := by decide +kernel
theorem dL_act_84 : decode cL_act 84 = .ok (.iconst 0, 1) := by decide +kernel
theorem dL_act_85 : decode cL_act 85 = .ok (.invokevirtual 28, 3) := by decide +kernel
theorem dL_act_88 : decode cL_act 88 = .ok (.ifCond .eq 7, 3) := by decide +kernel
theorem dL_act_91 : decode cL_act 91 = .ok (.iconst 1, 1) := by decide +kernel
theorem dL_act_92 : decode cL_act 92 = .ok (.goto 12, 3) := by decide +kernel
theorem dL_act_95 : decode cL_act 95 = .ok (.iconst 0, 1) := by decide +kernel
theorem dL_act_96 : decode cL_act 96 = .ok (.goto 8, 3) := by decide +kernel
theorem dL_act_99 : decode cL_act 99 = .ok (.aload_n 0, 1) := by decide +kernel
theorem dL_act_100 : decode cL_act 100 = .ok (.iload_n 2, 1) := by decide +kernel
theorem dL_act_101 : decode cL_act 101 = .ok (.invokevirtual 32, 3) := by decide +kernel
theorem dL_act_104 : decode cL_act 104 = .ok (.ireturn, 1) := by decide +kernel
theorem dL_act_105 : decode cL_act 105 = .ok (.astore 4, 2) := by decide +kernel
theorem dL_act_107 : decode cL_act 107 = .ok (.sipush (-1232), 3) := by decide +kernel
theorem dL_act_110 : decode cL_act 110 = .ok (.ireturn, 1) := by decide +kernel
theorem dL_act_111 : decode cL_act 111 = .ok (.astore 4, 2) := by decide +kernel
theorem dL_act_113 : decode cL_act 113 = .ok (.sipush (-1233), 3) := by decide +kernel
theorem dL_act_116 : decode cL_act 116 = .ok (.ireturn, 1) := by decide +kernel
set_option maxRecDepth 20000 in
theorem ggL_shaped_X3_shape : GoodIn wsL_shaped wsX3_shape := goodIn_ca (goodIn_r _ [6, 7, 8, 9, 10, 11, 5, 12, 13, 14, 15, 16, 17, 18, 19, 20, 21, 22, 23, 24, 25, 26, 27, 28, 29] (by decide +kernel) (by decide +kernel)) (goodIn_sub (fun _ h => List.mem_cons_of_mem _ (List.mem_append_right _ h)) (by decide +kernel))
set_option maxRecDepth 20000 in
theorem gL_shaped_X3_shape : GoodIn wsL_shaped (wsV RL 39 RX3 yX3_shape wsX3_shape) := goodIn_app (goodIn_of _ (by decide +kernel)) ggL_shaped_X3_shape
theorem dL_shaped_0 : decode cL_shaped 0 = .ok (.aload_n 0, 1) := by decide +kernel
theorem dL_shaped_1 : decode cL_shaped 1 = .ok (.iload_n 1, 1) := by decide +kernel
theorem dL_shaped_2 : decode cL_shaped 2 = .ok (.iload_n 2, 1) := by decide +kernel
theorem dL_shaped_3 : decode cL_shaped 3 = .ok (.iload_n 3, 1) := by decide +kernel
theorem dL_shaped_4 : decode cL_shaped 4 = .ok (.invokevirtual 39, 3) := by decide +kernel
theorem dL_shaped_7 : decode cL_shaped 7 = .ok (.iconst 0, 1) := by decide +kernel
theorem dL_shaped_8 : decode cL_shaped 8 = .ok (.ireturn, 1) := by decide +kernel
theorem dL_shaped_9 : decode cL_shaped 9 = .ok (.astore 4, 2) := by decide +kernel
theorem dL_shaped_11 : decode cL_shaped 11 = .ok (.sipush (-1232), 3) := by decide +kernel
theorem dL_shaped_14 : decode cL_shaped 14 = .ok (.ireturn, 1) := by decide +kernel
set_option maxRecDepth 20000 in
theorem ggL_ruled_X3_setRule : GoodIn wsL_ruled wsX3_setRule := goodIn_ca (goodIn_r _ [6, 7, 8, 9, 10, 11, 12, 13, 5, 14, 15, 16, 17, 18, 19, 20, 21, 22, 23, 24, 25, 26, 27, 28, 29, 30, 31] (by decide +kernel) (by decide +kernel)) (goodIn_sub (fun _ h => List.mem_cons_of_mem _ (List.mem_append_right _ h)) (by decide +kernel))
set_option maxRecDepth 20000 in
theorem gL_ruled_X3_setRule : GoodIn wsL_ruled (wsV RL 43 RX3 yX3_setRule wsX3_setRule) := goodIn_app (goodIn_of _ (by decide +kernel)) ggL_ruled_X3_setRule
theorem dL_ruled_0 : decode cL_ruled 0 = .ok (.aload_n 0, 1) := by decide +kernel
theorem dL_ruled_1 : decode cL_ruled 1 = .ok (.iload_n 1, 1) := by decide +kernel
theorem dL_ruled_2 : decode cL_ruled 2 = .ok (.iload_n 2, 1) := by decide +kernel
theorem dL_ruled_3 : decode cL_ruled 3 = .ok (.iload_n 3, 1) := by decide +kernel
theorem dL_ruled_4 : decode cL_ruled 4 = .ok (.iload 4, 2) := by decide +kernel
theorem dL_ruled_6 : decode cL_ruled 6 = .ok (.iload 5, 2) := by decide +kernel
theorem dL_ruled_8 : decode cL_ruled 8 = .ok (.invokevirtual 43, 3) := by decide +kernel
theorem dL_ruled_11 : decode cL_ruled 11 = .ok (.iconst 0, 1) := by decide +kernel
theorem dL_ruled_12 : decode cL_ruled 12 = .ok (.ireturn, 1) := by decide +kernel
theorem dL_ruled_13 : decode cL_ruled 13 = .ok (.astore 6, 2) := by decide +kernel
theorem dL_ruled_15 : decode cL_ruled 15 = .ok (.sipush (-1232), 3) := by decide +kernel
theorem dL_ruled_18 : decode cL_ruled 18 = .ok (.ireturn, 1) := by decide +kernel
set_option maxRecDepth 20000 in
theorem ggL_timed_X3_setTimes : GoodIn wsL_timed wsX3_setTimes := goodIn_ca (goodIn_r _ [6, 7, 8, 9, 10, 11, 5, 12, 13, 14, 15, 16, 17, 18, 19, 20, 21, 22, 23, 24, 25, 26, 27, 28, 29, 30] (by decide +kernel) (by decide +kernel)) (goodIn_sub (fun _ h => List.mem_cons_of_mem _ (List.mem_append_right _ h)) (by decide +kernel))
set_option maxRecDepth 20000 in
theorem gL_timed_X3_setTimes : GoodIn wsL_timed (wsV RL 47 RX3 yX3_setTimes wsX3_setTimes) := goodIn_app (goodIn_of _ (by decide +kernel)) ggL_timed_X3_setTimes
theorem dL_timed_0 : decode cL_timed 0 = .ok (.aload_n 0, 1) := by decide +kernel
theorem dL_timed_1 : decode cL_timed 1 = .ok (.iload_n 1, 1) := by decide +kernel
theorem dL_timed_2 : decode cL_timed 2 = .ok (.iload_n 2, 1) := by decide +kernel
theorem dL_timed_3 : decode cL_timed 3 = .ok (.invokevirtual 47, 3) := by decide +kernel
theorem dL_timed_6 : decode cL_timed 6 = .ok (.iconst 0, 1) := by decide +kernel
theorem dL_timed_7 : decode cL_timed 7 = .ok (.ireturn, 1) := by decide +kernel
theorem dL_timed_8 : decode cL_timed 8 = .ok (.astore_n 3, 1) := by decide +kernel
theorem dL_timed_9 : decode cL_timed 9 = .ok (.sipush (-1232), 3) := by decide +kernel
theorem dL_timed_12 : decode cL_timed 12 = .ok (.ireturn, 1) := by decide +kernel
set_option maxRecDepth 20000 in
theorem ggL_fallen_X3_fall : GoodIn wsL_fallen wsX3_fall := goodIn_ca (goodIn_ca (goodIn_r _ [7, 8, 9, 10, 11, 12, 13, 6, 14, 15, 16, 17, 18, 19, 20, 21, 22, 23, 24, 25, 26, 27, 28, 29, 30, 31, 32, 33, 34, 35] (by decide +kernel) (by decide +kernel)) (goodIn_sub (fun _ h => List.mem_cons_of_mem _ (List.mem_append_left _ (List.mem_append_right _ h))) (by decide +kernel))) (goodIn_sub (fun _ h => List.mem_cons_of_mem _ (List.mem_append_right _ h)) (by decide +kernel))
set_option maxRecDepth 20000 in
theorem gL_fallen_X3_fall : GoodIn wsL_fallen (wsV RL 51 RX3 yX3_fall wsX3_fall) := goodIn_app (goodIn_of _ (by decide +kernel)) ggL_fallen_X3_fall
theorem dL_fallen_0 : decode cL_fallen 0 = .ok (.aload_n 0, 1) := by decide +kernel
theorem dL_fallen_1 : decode cL_fallen 1 = .ok (.iload_n 1, 1) := by decide +kernel
theorem dL_fallen_2 : decode cL_fallen 2 = .ok (.invokevirtual 51, 3) := by decide +kernel
theorem dL_fallen_5 : decode cL_fallen 5 = .ok (.iconst 0, 1) := by decide +kernel
theorem dL_fallen_6 : decode cL_fallen 6 = .ok (.ireturn, 1) := by decide +kernel
theorem dL_fallen_7 : decode cL_fallen 7 = .ok (.astore_n 2, 1) := by decide +kernel
theorem dL_fallen_8 : decode cL_fallen 8 = .ok (.sipush (-1232), 3) := by decide +kernel
theorem dL_fallen_11 : decode cL_fallen 11 = .ok (.ireturn, 1) := by decide +kernel
theorem dL_fallen_12 : decode cL_fallen 12 = .ok (.astore_n 2, 1) := by decide +kernel
theorem dL_fallen_13 : decode cL_fallen 13 = .ok (.sipush (-1233), 3) := by decide +kernel
theorem dL_fallen_16 : decode cL_fallen 16 = .ok (.ireturn, 1) := by decide +kernel
set_option maxRecDepth 20000 in
theorem ggL_risen_X3_comeUp : GoodIn wsL_risen wsX3_comeUp := goodIn_ca (goodIn_ca (goodIn_r _ [7, 8, 9, 10, 11, 12, 13, 14, 15, 6, 16, 17, 18, 19, 20, 21, 22, 23, 24, 25, 26, 27, 28, 29, 30, 31, 32, 33, 34, 35, 36, 37, 38, 39, 40, 41] (by decide +kernel) (by decide +kernel)) (goodIn_sub (fun _ h => List.mem_cons_of_mem _ (List.mem_append_left _ (List.mem_append_right _ h))) (by decide +kernel))) (goodIn_sub (fun _ h => List.mem_cons_of_mem _ (List.mem_append_right _ h)) (by decide +kernel))
set_option maxRecDepth 20000 in
theorem gL_risen_X3_comeUp : GoodIn wsL_risen (wsV RL 55 RX3 yX3_comeUp wsX3_comeUp) := goodIn_app (goodIn_of _ (by decide +kernel)) ggL_risen_X3_comeUp
theorem dL_risen_0 : decode cL_risen 0 = .ok (.aload_n 0, 1) := by decide +kernel
theorem dL_risen_1 : decode cL_risen 1 = .ok (.iload_n 1, 1) := by decide +kernel
theorem dL_risen_2 : decode cL_risen 2 = .ok (.invokevirtual 55, 3) := by decide +kernel
theorem dL_risen_5 : decode cL_risen 5 = .ok (.iconst 0, 1) := by decide +kernel
theorem dL_risen_6 : decode cL_risen 6 = .ok (.ireturn, 1) := by decide +kernel
theorem dL_risen_7 : decode cL_risen 7 = .ok (.astore_n 2, 1) := by decide +kernel
theorem dL_risen_8 : decode cL_risen 8 = .ok (.sipush (-1232), 3) := by decide +kernel
theorem dL_risen_11 : decode cL_risen 11 = .ok (.ireturn, 1) := by decide +kernel
theorem dL_risen_12 : decode cL_risen 12 = .ok (.astore_n 2, 1) := by decide +kernel
theorem dL_risen_13 : decode cL_risen 13 = .ok (.sipush (-1233), 3) := by decide +kernel
theorem dL_risen_16 : decode cL_risen 16 = .ok (.ireturn, 1) := by decide +kernel
set_option maxRecDepth 20000 in
theorem ggL_of_X3_volume : GoodIn wsL_of wsX3_volume := goodIn_ca (goodIn_r _ [6, 7, 8, 9, 10, 5, 11, 12, 13, 14, 15, 16, 126, 127, 128, 129, 130, 131, 132, 133, 134, 135, 136, 137] (by decide +kernel) (by decide +kernel)) (goodIn_sub (fun _ h => List.mem_cons_of_mem _ (List.mem_append_right _ h)) (by decide +kernel))
set_option maxRecDepth 20000 in
theorem gL_of_X3_volume : GoodIn wsL_of (wsV RL 58 RX3 yX3_volume wsX3_volume) := goodIn_app (goodIn_of _ (by decide +kernel)) ggL_of_X3_volume
set_option maxRecDepth 20000 in
theorem ggL_of_X3_volumeByBalance : GoodIn wsL_of wsX3_volumeByBalance := goodIn_ca (goodIn_r _ [20, 7, 9, 10, 5, 11, 12, 13, 14, 15, 16, 21, 22, 23, 24, 25, 26, 27, 28, 126, 127, 128, 129, 130, 131, 132, 133, 134, 135, 136, 137] (by decide +kernel) (by decide +kernel)) (goodIn_sub (fun _ h => List.mem_cons_of_mem _ (List.mem_append_right _ h)) (by decide +kernel))
set_option maxRecDepth 20000 in
theorem gL_of_X3_volumeByBalance : GoodIn wsL_of (wsV RL 61 RX3 yX3_volumeByBalance wsX3_volumeByBalance) := goodIn_app (goodIn_of _ (by decide +kernel)) ggL_of_X3_volumeByBalance
set_option maxRecDepth 20000 in
theorem ggL_of_X3_level : GoodIn wsL_of wsX3_level := goodIn_ca (goodIn_r _ [32, 7, 9, 10, 5, 11, 12, 13, 14, 15, 16, 33, 34, 35, 24, 36, 37, 38, 126, 127, 128, 129, 130, 131, 132, 133, 134, 135, 136, 137] (by decide +kernel) (by decide +kernel)) (goodIn_sub (fun _ h => List.mem_cons_of_mem _ (List.mem_append_right _ h)) (by decide +kernel))
set_option maxRecDepth 20000 in
theorem gL_of_X3_level : GoodIn wsL_of (wsV RL 64 RX3 yX3_level wsX3_level) := goodIn_app (goodIn_of _ (by decide +kernel)) ggL_of_X3_level
set_option maxRecDepth 20000 in
theorem ggL_of_X3_flowed : GoodIn wsL_of wsX3_flowed := goodIn_ca (goodIn_r _ [42, 7, 43, 9, 10, 5, 11, 12, 13, 14, 15, 16, 126, 127, 128, 129, 130, 131, 132, 133, 134, 135, 136, 137] (by decide +kernel) (by decide +kernel)) (goodIn_sub (fun _ h => List.mem_cons_of_mem _ (List.mem_append_right _ h)) (by decide +kernel))
set_option maxRecDepth 20000 in
theorem gL_of_X3_flowed : GoodIn wsL_of (wsV RL 67 RX3 yX3_flowed wsX3_flowed) := goodIn_app (goodIn_of _ (by decide +kernel)) ggL_of_X3_flowed
set_option maxRecDepth 20000 in
theorem ggL_of_X3_spilled : GoodIn wsL_of wsX3_spilled := goodIn_ca (goodIn_r _ [47, 7, 48, 9, 10, 5, 11, 12, 13, 14, 15, 16, 126, 127, 128, 129, 130, 131, 132, 133, 134, 135, 136, 137] (by decide +kernel) (by decide +kernel)) (goodIn_sub (fun _ h => List.mem_cons_of_mem _ (List.mem_append_right _ h)) (by decide +kernel))
set_option maxRecDepth 20000 in
theorem gL_of_X3_spilled : GoodIn wsL_of (wsV RL 70 RX3 yX3_spilled wsX3_spilled) := goodIn_app (goodIn_of _ (by decide +kernel)) ggL_of_X3_spilled
set_option maxRecDepth 20000 in
theorem ggL_of_X3_opening : GoodIn wsL_of wsX3_opening := goodIn_ca (goodIn_r _ [52, 53, 54, 9, 10, 5, 11, 12, 13, 14, 15, 16, 126, 127, 128, 129, 138, 139, 140, 141, 142, 143, 144, 145] (by decide +kernel) (by decide +kernel)) (goodIn_sub (fun _ h => List.mem_cons_of_mem _ (List.mem_append_right _ h)) (by decide +kernel))
set_option maxRecDepth 20000 in
theorem gL_of_X3_opening : GoodIn wsL_of (wsV RL 73 RX3 yX3_opening wsX3_opening) := goodIn_app (goodIn_of _ (by decide +kernel)) ggL_of_X3_opening
set_option maxRecDepth 20000 in
theorem ggL_of_X3_safety : GoodIn wsL_of wsX3_safety := goodIn_ca (goodIn_r _ [58, 53, 59, 9, 10, 5, 11, 12, 13, 14, 15, 16, 126, 127, 128, 129, 138, 139, 140, 141, 142, 143, 144, 145] (by decide +kernel) (by decide +kernel)) (goodIn_sub (fun _ h => List.mem_cons_of_mem _ (List.mem_append_right _ h)) (by decide +kernel))
set_option maxRecDepth 20000 in
theorem gL_of_X3_safety : GoodIn wsL_of (wsV RL 76 RX3 yX3_safety wsX3_safety) := goodIn_app (goodIn_of _ (by decide +kernel)) ggL_of_X3_safety
set_option maxRecDepth 20000 in
theorem ggL_of_X3_partner : GoodIn wsL_of wsX3_partner := goodIn_ca (goodIn_r _ [63, 64, 65, 66, 9, 10, 5, 11, 12, 13, 14, 15, 16, 67, 68, 69, 70, 71, 72, 73, 74, 75, 76, 126, 127, 128, 129, 146, 147, 148, 149, 150, 151, 152, 153, 154, 155, 156, 157] (by decide +kernel) (by decide +kernel)) (goodIn_sub (fun _ h => List.mem_cons_of_mem _ (List.mem_append_right _ h)) (by decide +kernel))
set_option maxRecDepth 20000 in
theorem gL_of_X3_partner : GoodIn wsL_of (wsV RL 79 RX3 yX3_partner wsX3_partner) := goodIn_app (goodIn_of _ (by decide +kernel)) ggL_of_X3_partner
set_option maxRecDepth 20000 in
theorem ggL_of_X3_freshest : GoodIn wsL_of wsX3_freshest := goodIn_ca (goodIn_r _ [80, 64, 9, 10, 5, 11, 12, 13, 14, 15, 16, 81, 82, 83, 70, 84, 85, 126, 127, 128, 129, 146, 147, 148, 149, 150, 151, 152, 153, 154, 155, 156, 157] (by decide +kernel) (by decide +kernel)) (goodIn_sub (fun _ h => List.mem_cons_of_mem _ (List.mem_append_right _ h)) (by decide +kernel))
set_option maxRecDepth 20000 in
theorem gL_of_X3_freshest : GoodIn wsL_of (wsV RL 82 RX3 yX3_freshest wsX3_freshest) := goodIn_app (goodIn_of _ (by decide +kernel)) ggL_of_X3_freshest
set_option maxRecDepth 20000 in
theorem ggL_of_X3_agree : GoodIn wsL_of wsX3_agree := goodIn_ca (goodIn_r _ [89, 64, 7, 9, 10, 5, 11, 12, 13, 14, 15, 16, 33, 34, 35, 24, 36, 37, 38, 90, 91, 92, 70, 93, 94, 95, 96, 97, 98, 99, 85, 126, 127, 128, 129, 130, 131, 132, 133, 134, 135, 136, 137, 146, 147, 148, 149, 150, 151, 152, 153, 154, 155, 156, 157] (by decide +kernel) (by decide +kernel)) (goodIn_sub (fun _ h => List.mem_cons_of_mem _ (List.mem_append_right _ h)) (by decide +kernel))
set_option maxRecDepth 20000 in
theorem gL_of_X3_agree : GoodIn wsL_of (wsV RL 85 RX3 yX3_agree wsX3_agree) := goodIn_app (goodIn_of _ (by decide +kernel)) ggL_of_X3_agree
set_option maxRecDepth 20000 in
theorem ggL_of_X3_believed : GoodIn wsL_of wsX3_believed := goodIn_ca (goodIn_r _ [103, 64, 104, 9, 10, 5, 11, 12, 13, 14, 15, 16, 105, 97, 98, 70, 99, 85, 126, 127, 128, 129, 146, 147, 148, 149, 150, 151, 152, 153, 154, 155, 156, 157] (by decide +kernel) (by decide +kernel)) (goodIn_sub (fun _ h => List.mem_cons_of_mem _ (List.mem_append_right _ h)) (by decide +kernel))
set_option maxRecDepth 20000 in
theorem gL_of_X3_believed : GoodIn wsL_of (wsV RL 88 RX3 yX3_believed wsX3_believed) := goodIn_app (goodIn_of _ (by decide +kernel)) ggL_of_X3_believed
set_option maxRecDepth 20000 in
theorem ggL_of_X3_version : GoodIn wsL_of wsX3_version := goodIn_ca (goodIn_r _ [109, 64, 110, 9, 10, 5, 11, 12, 13, 14, 15, 16, 126, 127, 128, 129, 146, 147, 148, 149, 150, 151, 152, 153, 154, 155, 156, 157] (by decide +kernel) (by decide +kernel)) (goodIn_sub (fun _ h => List.mem_cons_of_mem _ (List.mem_append_right _ h)) (by decide +kernel))
set_option maxRecDepth 20000 in
theorem gL_of_X3_version : GoodIn wsL_of (wsV RL 91 RX3 yX3_version wsX3_version) := goodIn_app (goodIn_of _ (by decide +kernel)) ggL_of_X3_version
set_option maxRecDepth 20000 in
theorem ggL_of_X3_age : GoodIn wsL_of wsX3_age := goodIn_ca (goodIn_r _ [114, 64, 66, 115, 9, 10, 5, 11, 12, 13, 14, 15, 16, 105, 97, 98, 70, 99, 85, 126, 127, 128, 129, 146, 147, 148, 149, 150, 151, 152, 153, 154, 155, 156, 157] (by decide +kernel) (by decide +kernel)) (goodIn_sub (fun _ h => List.mem_cons_of_mem _ (List.mem_append_right _ h)) (by decide +kernel))
set_option maxRecDepth 20000 in
theorem gL_of_X3_age : GoodIn wsL_of (wsV RL 94 RX3 yX3_age wsX3_age) := goodIn_app (goodIn_of _ (by decide +kernel)) ggL_of_X3_age
set_option maxRecDepth 20000 in
theorem ggL_of_X3_beat : GoodIn wsL_of wsX3_beat := goodIn_ca (goodIn_r _ [119, 64, 120, 9, 10, 5, 11, 12, 13, 14, 15, 16, 126, 127, 128, 129, 146, 147, 148, 149, 150, 151, 152, 153, 154, 155, 156, 157] (by decide +kernel) (by decide +kernel)) (goodIn_sub (fun _ h => List.mem_cons_of_mem _ (List.mem_append_right _ h)) (by decide +kernel))
set_option maxRecDepth 20000 in
theorem gL_of_X3_beat : GoodIn wsL_of (wsV RL 97 RX3 yX3_beat wsX3_beat) := goodIn_app (goodIn_of _ (by decide +kernel)) ggL_of_X3_beat
set_option maxRecDepth 20000 in
theorem ggL_of_X3_status : GoodIn wsL_of wsX3_status := goodIn_ca (goodIn_r _ [124, 64, 125, 9, 10, 5, 11, 12, 13, 14, 15, 16, 126, 127, 128, 129, 146, 147, 148, 149, 150, 151, 152, 153, 154, 155, 156, 157] (by decide +kernel) (by decide +kernel)) (goodIn_sub (fun _ h => List.mem_cons_of_mem _ (List.mem_append_right _ h)) (by decide +kernel))
set_option maxRecDepth 20000 in
theorem gL_of_X3_status : GoodIn wsL_of (wsV RL 100 RX3 yX3_status wsX3_status) := goodIn_app (goodIn_of _ (by decide +kernel)) ggL_of_X3_status
theorem dL_of_0 : decode cL_of 0 = .ok (.iload_n 1, 1) := by decide +kernel
theorem dL_of_1 : decode cL_of 1 = .ok (.ifCond .ne 11, 3) := by decide +kernel
theorem dL_of_4 : decode cL_of 4 = .ok (.aload_n 0, 1) := by decide +kernel
theorem dL_of_5 : decode cL_of 5 = .ok (.iload_n 2, 1) := by decide +kernel
theorem dL_of_6 : decode cL_of 6 = .ok (.invokevirtual 58, 3) := by decide +kernel
theorem dL_of_9 : decode cL_of 9 = .ok (.goto 190, 3) := by decide +kernel
theorem dL_of_12 : decode cL_of 12 = .ok (.iload_n 1, 1) := by decide +kernel
theorem dL_of_13 : decode cL_of 13 = .ok (.iconst 1, 1) := by decide +kernel
theorem dL_of_14 : decode cL_of 14 = .ok (.if_icmp .ne 11, 3) := by decide +kernel
theorem dL_of_17 : decode cL_of 17 = .ok (.aload_n 0, 1) := by decide +kernel
theorem dL_of_18 : decode cL_of 18 = .ok (.iload_n 2, 1) := by decide +kernel
theorem dL_of_19 : decode cL_of 19 = .ok (.invokevirtual 61, 3) := by decide +kernel
theorem dL_of_22 : decode cL_of 22 = .ok (.goto 177, 3) := by decide +kernel
theorem dL_of_25 : decode cL_of 25 = .ok (.iload_n 1, 1) := by decide +kernel
theorem dL_of_26 : decode cL_of 26 = .ok (.iconst 2, 1) := by decide +kernel
theorem dL_of_27 : decode cL_of 27 = .ok (.if_icmp .ne 11, 3) := by decide +kernel
theorem dL_of_30 : decode cL_of 30 = .ok (.aload_n 0, 1) := by decide +kernel
theorem dL_of_31 : decode cL_of 31 = .ok (.iload_n 2, 1) := by decide +kernel
theorem dL_of_32 : decode cL_of 32 = .ok (.invokevirtual 64, 3) := by decide +kernel
theorem dL_of_35 : decode cL_of 35 = .ok (.goto 164, 3) := by decide +kernel
theorem dL_of_38 : decode cL_of 38 = .ok (.iload_n 1, 1) := by decide +kernel
theorem dL_of_39 : decode cL_of 39 = .ok (.iconst 3, 1) := by decide +kernel
theorem dL_of_40 : decode cL_of 40 = .ok (.if_icmp .ne 11, 3) := by decide +kernel
theorem dL_of_43 : decode cL_of 43 = .ok (.aload_n 0, 1) := by decide +kernel
theorem dL_of_44 : decode cL_of 44 = .ok (.iload_n 2, 1) := by decide +kernel
theorem dL_of_45 : decode cL_of 45 = .ok (.invokevirtual 67, 3) := by decide +kernel
theorem dL_of_48 : decode cL_of 48 = .ok (.goto 151, 3) := by decide +kernel
theorem dL_of_51 : decode cL_of 51 = .ok (.iload_n 1, 1) := by decide +kernel
theorem dL_of_52 : decode cL_of 52 = .ok (.iconst 4, 1) := by decide +kernel
theorem dL_of_53 : decode cL_of 53 = .ok (.if_icmp .ne 11, 3) := by decide +kernel
theorem dL_of_56 : decode cL_of 56 = .ok (.aload_n 0, 1) := by decide +kernel
theorem dL_of_57 : decode cL_of 57 = .ok (.iload_n 2, 1) := by decide +kernel
theorem dL_of_58 : decode cL_of 58 = .ok (.invokevirtual 70, 3) := by decide +kernel
theorem dL_of_61 : decode cL_of 61 = .ok (.goto 138, 3) := by decide +kernel
theorem dL_of_64 : decode cL_of 64 = .ok (.iload_n 1, 1) := by decide +kernel
theorem dL_of_65 : decode cL_of 65 = .ok (.iconst 5, 1) := by decide +kernel
theorem dL_of_66 : decode cL_of 66 = .ok (.if_icmp .ne 11, 3) := by decide +kernel
theorem dL_of_69 : decode cL_of 69 = .ok (.aload_n 0, 1) := by decide +kernel
theorem dL_of_70 : decode cL_of 70 = .ok (.iload_n 2, 1) := by decide +kernel
theorem dL_of_71 : decode cL_of 71 = .ok (.invokevirtual 73, 3) := by decide +kernel
theorem dL_of_74 : decode cL_of 74 = .ok (.goto 125, 3) := by decide +kernel
theorem dL_of_77 : decode cL_of 77 = .ok (.iload_n 1, 1) := by decide +kernel
theorem dL_of_78 : decode cL_of 78 = .ok (.bipush 6, 2) := by decide +kernel
theorem dL_of_80 : decode cL_of 80 = .ok (.if_icmp .ne 11, 3) := by decide +kernel
theorem dL_of_83 : decode cL_of 83 = .ok (.aload_n 0, 1) := by decide +kernel
theorem dL_of_84 : decode cL_of 84 = .ok (.iload_n 2, 1) := by decide +kernel
theorem dL_of_85 : decode cL_of 85 = .ok (.invokevirtual 76, 3) := by decide +kernel
theorem dL_of_88 : decode cL_of 88 = .ok (.goto 111, 3) := by decide +kernel
theorem dL_of_91 : decode cL_of 91 = .ok (.iload_n 1, 1) := by decide +kernel
theorem dL_of_92 : decode cL_of 92 = .ok (.bipush 7, 2) := by decide +kernel
theorem dL_of_94 : decode cL_of 94 = .ok (.if_icmp .ne 11, 3) := by decide +kernel
theorem dL_of_97 : decode cL_of 97 = .ok (.aload_n 0, 1) := by decide +kernel
theorem dL_of_98 : decode cL_of 98 = .ok (.iload_n 2, 1) := by decide +kernel
theorem dL_of_99 : decode cL_of 99 = .ok (.invokevirtual 79, 3) := by decide +kernel
theorem dL_of_102 : decode cL_of 102 = .ok (.goto 97, 3) := by decide +kernel
theorem dL_of_105 : decode cL_of 105 = .ok (.iload_n 1, 1) := by decide +kernel
theorem dL_of_106 : decode cL_of 106 = .ok (.bipush 8, 2) := by decide +kernel
theorem dL_of_108 : decode cL_of 108 = .ok (.if_icmp .ne 11, 3) := by decide +kernel
theorem dL_of_111 : decode cL_of 111 = .ok (.aload_n 0, 1) := by decide +kernel
theorem dL_of_112 : decode cL_of 112 = .ok (.iload_n 2, 1) := by decide +kernel
theorem dL_of_113 : decode cL_of 113 = .ok (.invokevirtual 82, 3) := by decide +kernel
theorem dL_of_116 : decode cL_of 116 = .ok (.goto 83, 3) := by decide +kernel
theorem dL_of_119 : decode cL_of 119 = .ok (.iload_n 1, 1) := by decide +kernel
theorem dL_of_120 : decode cL_of 120 = .ok (.bipush 9, 2) := by decide +kernel
theorem dL_of_122 : decode cL_of 122 = .ok (.if_icmp .ne 11, 3) := by decide +kernel
theorem dL_of_125 : decode cL_of 125 = .ok (.aload_n 0, 1) := by decide +kernel
theorem dL_of_126 : decode cL_of 126 = .ok (.iload_n 2, 1) := by decide +kernel
theorem dL_of_127 : decode cL_of 127 = .ok (.invokevirtual 85, 3) := by decide +kernel
theorem dL_of_130 : decode cL_of 130 = .ok (.goto 69, 3) := by decide +kernel
theorem dL_of_133 : decode cL_of 133 = .ok (.iload_n 1, 1) := by decide +kernel
theorem dL_of_134 : decode cL_of 134 = .ok (.bipush 10, 2) := by decide +kernel
theorem dL_of_136 : decode cL_of 136 = .ok (.if_icmp .ne 12, 3) := by decide +kernel
theorem dL_of_139 : decode cL_of 139 = .ok (.aload_n 0, 1) := by decide +kernel
theorem dL_of_140 : decode cL_of 140 = .ok (.iload_n 2, 1) := by decide +kernel
theorem dL_of_141 : decode cL_of 141 = .ok (.iload_n 3, 1) := by decide +kernel
theorem dL_of_142 : decode cL_of 142 = .ok (.invokevirtual 88, 3) := by decide +kernel
theorem dL_of_145 : decode cL_of 145 = .ok (.goto 54, 3) := by decide +kernel
theorem dL_of_148 : decode cL_of 148 = .ok (.iload_n 1, 1) := by decide +kernel
theorem dL_of_149 : decode cL_of 149 = .ok (.bipush 11, 2) := by decide +kernel
theorem dL_of_151 : decode cL_of 151 = .ok (.if_icmp .ne 12, 3) := by decide +kernel
theorem dL_of_154 : decode cL_of 154 = .ok (.aload_n 0, 1) := by decide +kernel
theorem dL_of_155 : decode cL_of 155 = .ok (.iload_n 2, 1) := by decide +kernel
theorem dL_of_156 : decode cL_of 156 = .ok (.iload_n 3, 1) := by decide +kernel
theorem dL_of_157 : decode cL_of 157 = .ok (.invokevirtual 91, 3) := by decide +kernel
theorem dL_of_160 : decode cL_of 160 = .ok (.goto 39, 3) := by decide +kernel
theorem dL_of_163 : decode cL_of 163 = .ok (.iload_n 1, 1) := by decide +kernel
theorem dL_of_164 : decode cL_of 164 = .ok (.bipush 12, 2) := by decide +kernel
theorem dL_of_166 : decode cL_of 166 = .ok (.if_icmp .ne 12, 3) := by decide +kernel
theorem dL_of_169 : decode cL_of 169 = .ok (.aload_n 0, 1) := by decide +kernel
theorem dL_of_170 : decode cL_of 170 = .ok (.iload_n 2, 1) := by decide +kernel
theorem dL_of_171 : decode cL_of 171 = .ok (.iload_n 3, 1) := by decide +kernel
theorem dL_of_172 : decode cL_of 172 = .ok (.invokevirtual 94, 3) := by decide +kernel
theorem dL_of_175 : decode cL_of 175 = .ok (.goto 24, 3) := by decide +kernel
theorem dL_of_178 : decode cL_of 178 = .ok (.iload_n 1, 1) := by decide +kernel
theorem dL_of_179 : decode cL_of 179 = .ok (.bipush 13, 2) := by decide +kernel
theorem dL_of_181 : decode cL_of 181 = .ok (.if_icmp .ne 12, 3) := by decide +kernel
theorem dL_of_184 : decode cL_of 184 = .ok (.aload_n 0, 1) := by decide +kernel
theorem dL_of_185 : decode cL_of 185 = .ok (.iload_n 2, 1) := by decide +kernel
theorem dL_of_186 : decode cL_of 186 = .ok (.iload_n 3, 1) := by decide +kernel
theorem dL_of_187 : decode cL_of 187 = .ok (.invokevirtual 97, 3) := by decide +kernel
theorem dL_of_190 : decode cL_of 190 = .ok (.goto 9, 3) := by decide +kernel
theorem dL_of_193 : decode cL_of 193 = .ok (.aload_n 0, 1) := by decide +kernel
theorem dL_of_194 : decode cL_of 194 = .ok (.iload_n 2, 1) := by decide +kernel
theorem dL_of_195 : decode cL_of 195 = .ok (.iload_n 3, 1) := by decide +kernel
theorem dL_of_196 : decode cL_of 196 = .ok (.invokevirtual 100, 3) := by decide +kernel
theorem dL_of_199 : decode cL_of 199 = .ok (.ireturn, 1) := by decide +kernel
theorem dL_of_200 : decode cL_of 200 = .ok (.astore 4, 2) := by decide +kernel
theorem dL_of_202 : decode cL_of 202 = .ok (.sipush (-1232), 3) := by decide +kernel
theorem dL_of_205 : decode cL_of 205 = .ok (.ireturn, 1) := by decide +kernel
set_option maxRecDepth 20000 in
theorem ggL_all_X3_time : GoodIn wsL_all wsX3_time := goodIn_r _ [13, 14, 124, 125, 126, 127] (by decide +kernel) (by decide +kernel)
set_option maxRecDepth 20000 in
theorem gL_all_X3_time : GoodIn wsL_all (wsV RL 103 RX3 yX3_time wsX3_time) := goodIn_app (goodIn_of _ (by decide +kernel)) ggL_all_X3_time
set_option maxRecDepth 20000 in
theorem ggL_all_X3_vain : GoodIn wsL_all wsX3_vain := goodIn_r _ [18, 19, 20, 124, 125, 126, 127, 128, 129, 130, 131, 132, 133, 134, 135, 136, 137, 138, 139] (by decide +kernel) (by decide +kernel)
set_option maxRecDepth 20000 in
theorem gL_all_X3_vain : GoodIn wsL_all (wsV RL 109 RX3 yX3_vain wsX3_vain) := goodIn_app (goodIn_of _ (by decide +kernel)) ggL_all_X3_vain
set_option maxRecDepth 20000 in
theorem ggL_all_X3_unnoticed : GoodIn wsL_all wsX3_unnoticed := goodIn_r _ [24, 19, 25, 26, 27, 28, 29, 30, 31, 32, 33, 34, 35, 124, 125, 126, 127, 128, 129, 130, 131, 132, 133, 134, 135, 136, 137, 138, 139] (by decide +kernel) (by decide +kernel)
set_option maxRecDepth 20000 in
theorem gL_all_X3_unnoticed : GoodIn wsL_all (wsV RL 114 RX3 yX3_unnoticed wsX3_unnoticed) := goodIn_app (goodIn_of _ (by decide +kernel)) ggL_all_X3_unnoticed
set_option maxRecDepth 20000 in
theorem ggL_all_X3_mistaken : GoodIn wsL_all wsX3_mistaken := goodIn_r _ [39, 19, 40, 41, 42, 28, 43, 30, 31, 32, 33, 34, 35, 124, 125, 126, 127, 128, 129, 130, 131, 132, 133, 134, 135, 136, 137, 138, 139] (by decide +kernel) (by decide +kernel)
set_option maxRecDepth 20000 in
theorem gL_all_X3_mistaken : GoodIn wsL_all (wsV RL 119 RX3 yX3_mistaken wsX3_mistaken) := goodIn_app (goodIn_of _ (by decide +kernel)) ggL_all_X3_mistaken
set_option maxRecDepth 20000 in
theorem ggL_all_X3_volume : GoodIn wsL_all wsX3_volume := goodIn_ca (goodIn_r _ [47, 48, 49, 50, 51, 12, 52, 53, 54, 55, 56, 57, 124, 125, 126, 127, 140, 141, 142, 143, 144, 145, 146, 147] (by decide +kernel) (by decide +kernel)) (goodIn_sub (fun _ h => List.mem_cons_of_mem _ (List.mem_append_right _ h)) (by decide +kernel))
set_option maxRecDepth 20000 in
theorem gL_all_X3_volume : GoodIn wsL_all (wsV RL 58 RX3 yX3_volume wsX3_volume) := goodIn_app (goodIn_of _ (by decide +kernel)) ggL_all_X3_volume
set_option maxRecDepth 20000 in
theorem ggL_all_X3_opening : GoodIn wsL_all wsX3_opening := goodIn_ca (goodIn_r _ [61, 62, 63, 50, 51, 12, 52, 53, 54, 55, 56, 57, 124, 125, 126, 127, 148, 149, 150, 151, 152, 153, 154, 155] (by decide +kernel) (by decide +kernel)) (goodIn_sub (fun _ h => List.mem_cons_of_mem _ (List.mem_append_right _ h)) (by decide +kernel))
set_option maxRecDepth 20000 in
theorem gL_all_X3_opening : GoodIn wsL_all (wsV RL 73 RX3 yX3_opening wsX3_opening) := goodIn_app (goodIn_of _ (by decide +kernel)) ggL_all_X3_opening
set_option maxRecDepth 20000 in
theorem ggL_all_X3_safety : GoodIn wsL_all wsX3_safety := goodIn_ca (goodIn_r _ [67, 62, 68, 50, 51, 12, 52, 53, 54, 55, 56, 57, 124, 125, 126, 127, 148, 149, 150, 151, 152, 153, 154, 155] (by decide +kernel) (by decide +kernel)) (goodIn_sub (fun _ h => List.mem_cons_of_mem _ (List.mem_append_right _ h)) (by decide +kernel))
set_option maxRecDepth 20000 in
theorem gL_all_X3_safety : GoodIn wsL_all (wsV RL 76 RX3 yX3_safety wsX3_safety) := goodIn_app (goodIn_of _ (by decide +kernel)) ggL_all_X3_safety
set_option maxRecDepth 20000 in
theorem ggL_all_X3_agree : GoodIn wsL_all wsX3_agree := goodIn_ca (goodIn_r _ [72, 19, 48, 50, 51, 12, 52, 53, 54, 55, 56, 57, 73, 74, 75, 76, 77, 78, 79, 80, 81, 82, 28, 83, 30, 84, 85, 86, 87, 88, 89, 124, 125, 126, 127, 140, 141, 142, 143, 144, 145, 146, 147, 128, 129, 130, 131, 132, 133, 134, 135, 136, 137, 138, 139] (by decide +kernel) (by decide +kernel)) (goodIn_sub (fun _ h => List.mem_cons_of_mem _ (List.mem_append_right _ h)) (by decide +kernel))
set_option maxRecDepth 20000 in
theorem gL_all_X3_agree : GoodIn wsL_all (wsV RL 85 RX3 yX3_agree wsX3_agree) := goodIn_app (goodIn_of _ (by decide +kernel)) ggL_all_X3_agree
set_option maxRecDepth 20000 in
theorem ggL_all_X3_partner : GoodIn wsL_all wsX3_partner := goodIn_ca (goodIn_r _ [93, 19, 94, 14, 50, 51, 12, 52, 53, 54, 55, 56, 57, 95, 96, 97, 28, 98, 99, 100, 101, 102, 35, 124, 125, 126, 127, 128, 129, 130, 131, 132, 133, 134, 135, 136, 137, 138, 139] (by decide +kernel) (by decide +kernel)) (goodIn_sub (fun _ h => List.mem_cons_of_mem _ (List.mem_append_right _ h)) (by decide +kernel))
set_option maxRecDepth 20000 in
theorem gL_all_X3_partner : GoodIn wsL_all (wsV RL 79 RX3 yX3_partner wsX3_partner) := goodIn_app (goodIn_of _ (by decide +kernel)) ggL_all_X3_partner
set_option maxRecDepth 20000 in
theorem ggL_all_X3_version : GoodIn wsL_all wsX3_version := goodIn_ca (goodIn_r _ [106, 19, 107, 50, 51, 12, 52, 53, 54, 55, 56, 57, 124, 125, 126, 127, 128, 129, 130, 131, 132, 133, 134, 135, 136, 137, 138, 139] (by decide +kernel) (by decide +kernel)) (goodIn_sub (fun _ h => List.mem_cons_of_mem _ (List.mem_append_right _ h)) (by decide +kernel))
set_option maxRecDepth 20000 in
theorem gL_all_X3_version : GoodIn wsL_all (wsV RL 91 RX3 yX3_version wsX3_version) := goodIn_app (goodIn_of _ (by decide +kernel)) ggL_all_X3_version
set_option maxRecDepth 20000 in
theorem ggL_all_X3_beat : GoodIn wsL_all wsX3_beat := goodIn_ca (goodIn_r _ [111, 19, 112, 50, 51, 12, 52, 53, 54, 55, 56, 57, 124, 125, 126, 127, 128, 129, 130, 131, 132, 133, 134, 135, 136, 137, 138, 139] (by decide +kernel) (by decide +kernel)) (goodIn_sub (fun _ h => List.mem_cons_of_mem _ (List.mem_append_right _ h)) (by decide +kernel))
set_option maxRecDepth 20000 in
theorem gL_all_X3_beat : GoodIn wsL_all (wsV RL 97 RX3 yX3_beat wsX3_beat) := goodIn_app (goodIn_of _ (by decide +kernel)) ggL_all_X3_beat
set_option maxRecDepth 20000 in
theorem ggL_all_X3_status : GoodIn wsL_all wsX3_status := goodIn_ca (goodIn_r _ [116, 19, 117, 50, 51, 12, 52, 53, 54, 55, 56, 57, 124, 125, 126, 127, 128, 129, 130, 131, 132, 133, 134, 135, 136, 137, 138, 139] (by decide +kernel) (by decide +kernel)) (goodIn_sub (fun _ h => List.mem_cons_of_mem _ (List.mem_append_right _ h)) (by decide +kernel))
set_option maxRecDepth 20000 in
theorem gL_all_X3_status : GoodIn wsL_all (wsV RL 100 RX3 yX3_status wsX3_status) := goodIn_app (goodIn_of _ (by decide +kernel)) ggL_all_X3_status
set_option maxRecDepth 20000 in
theorem ggL_all_X3_believed : GoodIn wsL_all wsX3_believed := goodIn_ca (goodIn_r _ [121, 19, 122, 50, 51, 12, 52, 53, 54, 55, 56, 57, 123, 86, 87, 28, 88, 89, 124, 125, 126, 127, 128, 129, 130, 131, 132, 133, 134, 135, 136, 137, 138, 139] (by decide +kernel) (by decide +kernel)) (goodIn_sub (fun _ h => List.mem_cons_of_mem _ (List.mem_append_right _ h)) (by decide +kernel))
set_option maxRecDepth 20000 in
theorem gL_all_X3_believed : GoodIn wsL_all (wsV RL 88 RX3 yX3_believed wsX3_believed) := goodIn_app (goodIn_of _ (by decide +kernel)) ggL_all_X3_believed
theorem dL_all_0 : decode cL_all 0 = .ok (.aload_n 0, 1) := by decide +kernel
theorem dL_all_1 : decode cL_all 1 = .ok (.invokevirtual 103, 3) := by decide +kernel
theorem dL_all_4 : decode cL_all 4 = .ok (.i2l, 1) := by decide +kernel
theorem dL_all_5 : decode cL_all 5 = .ok (.ldc2_w 107, 3) := by decide +kernel
theorem dL_all_8 : decode cL_all 8 = .ok (.aload_n 0, 1) := by decide +kernel
theorem dL_all_9 : decode cL_all 9 = .ok (.invokevirtual 109, 3) := by decide +kernel
theorem dL_all_12 : decode cL_all 12 = .ok (.i2l, 1) := by decide +kernel
theorem dL_all_13 : decode cL_all 13 = .ok (.lmul, 1) := by decide +kernel
theorem dL_all_14 : decode cL_all 14 = .ok (.ladd, 1) := by decide +kernel
theorem dL_all_15 : decode cL_all 15 = .ok (.ldc2_w 112, 3) := by decide +kernel
theorem dL_all_18 : decode cL_all 18 = .ok (.aload_n 0, 1) := by decide +kernel
theorem dL_all_19 : decode cL_all 19 = .ok (.invokevirtual 114, 3) := by decide +kernel
theorem dL_all_22 : decode cL_all 22 = .ok (.i2l, 1) := by decide +kernel
theorem dL_all_23 : decode cL_all 23 = .ok (.lmul, 1) := by decide +kernel
theorem dL_all_24 : decode cL_all 24 = .ok (.ladd, 1) := by decide +kernel
theorem dL_all_25 : decode cL_all 25 = .ok (.ldc2_w 117, 3) := by decide +kernel
theorem dL_all_28 : decode cL_all 28 = .ok (.aload_n 0, 1) := by decide +kernel
theorem dL_all_29 : decode cL_all 29 = .ok (.invokevirtual 119, 3) := by decide +kernel
theorem dL_all_32 : decode cL_all 32 = .ok (.i2l, 1) := by decide +kernel
theorem dL_all_33 : decode cL_all 33 = .ok (.lmul, 1) := by decide +kernel
theorem dL_all_34 : decode cL_all 34 = .ok (.ladd, 1) := by decide +kernel
theorem dL_all_35 : decode cL_all 35 = .ok (.lstore_n 1, 1) := by decide +kernel
theorem dL_all_36 : decode cL_all 36 = .ok (.iconst 0, 1) := by decide +kernel
theorem dL_all_37 : decode cL_all 37 = .ok (.istore_n 3, 1) := by decide +kernel
theorem dL_all_38 : decode cL_all 38 = .ok (.iload_n 3, 1) := by decide +kernel
theorem dL_all_39 : decode cL_all 39 = .ok (.bipush 8, 2) := by decide +kernel
theorem dL_all_41 : decode cL_all 41 = .ok (.if_icmp .ge 136, 3) := by decide +kernel
theorem dL_all_44 : decode cL_all 44 = .ok (.ldc2_w 122, 3) := by decide +kernel
theorem dL_all_47 : decode cL_all 47 = .ok (.lload_n 1, 1) := by decide +kernel
theorem dL_all_48 : decode cL_all 48 = .ok (.lmul, 1) := by decide +kernel
theorem dL_all_49 : decode cL_all 49 = .ok (.aload_n 0, 1) := by decide +kernel
theorem dL_all_50 : decode cL_all 50 = .ok (.iload_n 3, 1) := by decide +kernel
theorem dL_all_51 : decode cL_all 51 = .ok (.invokevirtual 58, 3) := by decide +kernel
theorem dL_all_54 : decode cL_all 54 = .ok (.i2l, 1) := by decide +kernel
theorem dL_all_55 : decode cL_all 55 = .ok (.ladd, 1) := by decide +kernel
theorem dL_all_56 : decode cL_all 56 = .ok (.ldc2_w 107, 3) := by decide +kernel
theorem dL_all_59 : decode cL_all 59 = .ok (.aload_n 0, 1) := by decide +kernel
theorem dL_all_60 : decode cL_all 60 = .ok (.iload_n 3, 1) := by decide +kernel
theorem dL_all_61 : decode cL_all 61 = .ok (.invokevirtual 73, 3) := by decide +kernel
theorem dL_all_64 : decode cL_all 64 = .ok (.i2l, 1) := by decide +kernel
theorem dL_all_65 : decode cL_all 65 = .ok (.lmul, 1) := by decide +kernel
theorem dL_all_66 : decode cL_all 66 = .ok (.ladd, 1) := by decide +kernel
theorem dL_all_67 : decode cL_all 67 = .ok (.ldc2_w 112, 3) := by decide +kernel
theorem dL_all_70 : decode cL_all 70 = .ok (.aload_n 0, 1) := by decide +kernel
theorem dL_all_71 : decode cL_all 71 = .ok (.iload_n 3, 1) := by decide +kernel
theorem dL_all_72 : decode cL_all 72 = .ok (.invokevirtual 76, 3) := by decide +kernel
theorem dL_all_75 : decode cL_all 75 = .ok (.i2l, 1) := by decide +kernel
theorem dL_all_76 : decode cL_all 76 = .ok (.lmul, 1) := by decide +kernel
theorem dL_all_77 : decode cL_all 77 = .ok (.ladd, 1) := by decide +kernel
theorem dL_all_78 : decode cL_all 78 = .ok (.ldc2_w 117, 3) := by decide +kernel
theorem dL_all_81 : decode cL_all 81 = .ok (.aload_n 0, 1) := by decide +kernel
theorem dL_all_82 : decode cL_all 82 = .ok (.iload_n 3, 1) := by decide +kernel
theorem dL_all_83 : decode cL_all 83 = .ok (.invokevirtual 85, 3) := by decide +kernel
theorem dL_all_86 : decode cL_all 86 = .ok (.i2l, 1) := by decide +kernel
theorem dL_all_87 : decode cL_all 87 = .ok (.lmul, 1) := by decide +kernel
theorem dL_all_88 : decode cL_all 88 = .ok (.ladd, 1) := by decide +kernel
theorem dL_all_89 : decode cL_all 89 = .ok (.ldc2_w 124, 3) := by decide +kernel
theorem dL_all_92 : decode cL_all 92 = .ok (.aload_n 0, 1) := by decide +kernel
theorem dL_all_93 : decode cL_all 93 = .ok (.iload_n 3, 1) := by decide +kernel
theorem dL_all_94 : decode cL_all 94 = .ok (.invokevirtual 79, 3) := by decide +kernel
theorem dL_all_97 : decode cL_all 97 = .ok (.i2l, 1) := by decide +kernel
theorem dL_all_98 : decode cL_all 98 = .ok (.lmul, 1) := by decide +kernel
theorem dL_all_99 : decode cL_all 99 = .ok (.ladd, 1) := by decide +kernel
theorem dL_all_100 : decode cL_all 100 = .ok (.lstore_n 1, 1) := by decide +kernel
theorem dL_all_101 : decode cL_all 101 = .ok (.iconst 0, 1) := by decide +kernel
theorem dL_all_102 : decode cL_all 102 = .ok (.istore 4, 2) := by decide +kernel
theorem dL_all_104 : decode cL_all 104 = .ok (.iload 4, 2) := by decide +kernel
theorem dL_all_106 : decode cL_all 106 = .ok (.bipush 8, 2) := by decide +kernel
theorem dL_all_108 : decode cL_all 108 = .ok (.if_icmp .ge 63, 3) := by decide +kernel
theorem dL_all_111 : decode cL_all 111 = .ok (.ldc2_w 107, 3) := by decide +kernel
theorem dL_all_114 : decode cL_all 114 = .ok (.lload_n 1, 1) := by decide +kernel
theorem dL_all_115 : decode cL_all 115 = .ok (.lmul, 1) := by decide +kernel
theorem dL_all_116 : decode cL_all 116 = .ok (.aload_n 0, 1) := by decide +kernel
theorem dL_all_117 : decode cL_all 117 = .ok (.iload_n 3, 1) := by decide +kernel
theorem dL_all_118 : decode cL_all 118 = .ok (.iload 4, 2) := by decide +kernel
theorem dL_all_120 : decode cL_all 120 = .ok (.invokevirtual 91, 3) := by decide +kernel
theorem dL_all_123 : decode cL_all 123 = .ok (.i2l, 1) := by decide +kernel
theorem dL_all_124 : decode cL_all 124 = .ok (.ladd, 1) := by decide +kernel
theorem dL_all_125 : decode cL_all 125 = .ok (.ldc2_w 126, 3) := by decide +kernel
theorem dL_all_128 : decode cL_all 128 = .ok (.aload_n 0, 1) := by decide +kernel
theorem dL_all_129 : decode cL_all 129 = .ok (.iload_n 3, 1) := by decide +kernel
theorem dL_all_130 : decode cL_all 130 = .ok (.iload 4, 2) := by decide +kernel
theorem dL_all_132 : decode cL_all 132 = .ok (.invokevirtual 97, 3) := by decide +kernel
theorem dL_all_135 : decode cL_all 135 = .ok (.i2l, 1) := by decide +kernel
theorem dL_all_136 : decode cL_all 136 = .ok (.lmul, 1) := by decide +kernel
theorem dL_all_137 : decode cL_all 137 = .ok (.ladd, 1) := by decide +kernel
theorem dL_all_138 : decode cL_all 138 = .ok (.ldc2_w 128, 3) := by decide +kernel
theorem dL_all_141 : decode cL_all 141 = .ok (.aload_n 0, 1) := by decide +kernel
theorem dL_all_142 : decode cL_all 142 = .ok (.iload_n 3, 1) := by decide +kernel
theorem dL_all_143 : decode cL_all 143 = .ok (.iload 4, 2) := by decide +kernel
theorem dL_all_145 : decode cL_all 145 = .ok (.invokevirtual 100, 3) := by decide +kernel
theorem dL_all_148 : decode cL_all 148 = .ok (.i2l, 1) := by decide +kernel
theorem dL_all_149 : decode cL_all 149 = .ok (.lmul, 1) := by decide +kernel
theorem dL_all_150 : decode cL_all 150 = .ok (.ladd, 1) := by decide +kernel
theorem dL_all_151 : decode cL_all 151 = .ok (.ldc2_w 130, 3) := by decide +kernel
theorem dL_all_154 : decode cL_all 154 = .ok (.aload_n 0, 1) := by decide +kernel
theorem dL_all_155 : decode cL_all 155 = .ok (.iload_n 3, 1) := by decide +kernel
theorem dL_all_156 : decode cL_all 156 = .ok (.iload 4, 2) := by decide +kernel
theorem dL_all_158 : decode cL_all 158 = .ok (.invokevirtual 88, 3) := by decide +kernel
theorem dL_all_161 : decode cL_all 161 = .ok (.i2l, 1) := by decide +kernel
theorem dL_all_162 : decode cL_all 162 = .ok (.lmul, 1) := by decide +kernel
theorem dL_all_163 : decode cL_all 163 = .ok (.ladd, 1) := by decide +kernel
theorem dL_all_164 : decode cL_all 164 = .ok (.lstore_n 1, 1) := by decide +kernel
theorem dL_all_165 : decode cL_all 165 = .ok (.iinc 4 1, 3) := by decide +kernel
theorem dL_all_168 : decode cL_all 168 = .ok (.goto (-64), 3) := by decide +kernel
theorem dL_all_171 : decode cL_all 171 = .ok (.iinc 3 1, 3) := by decide +kernel
theorem dL_all_174 : decode cL_all 174 = .ok (.goto (-136), 3) := by decide +kernel
theorem dL_all_177 : decode cL_all 177 = .ok (.lload_n 1, 1) := by decide +kernel
theorem dL_all_178 : decode cL_all 178 = .ok (.lreturn, 1) := by decide +kernel
set_option maxRecDepth 20000 in
theorem ggL_keeps_X3_volume : GoodIn wsL_keeps wsX3_volume := goodIn_ca (goodIn_r _ [5, 6, 7, 8, 9, 4, 10, 11, 12, 13, 14, 15, 38, 39, 40, 41, 42, 43, 44, 45, 46, 47, 48, 49] (by decide +kernel) (by decide +kernel)) (goodIn_sub (fun _ h => List.mem_cons_of_mem _ (List.mem_append_right _ h)) (by decide +kernel))
set_option maxRecDepth 20000 in
theorem gL_keeps_X3_volume : GoodIn wsL_keeps (wsV RL 58 RX3 yX3_volume wsX3_volume) := goodIn_app (goodIn_of _ (by decide +kernel)) ggL_keeps_X3_volume
set_option maxRecDepth 20000 in
theorem ggL_keeps_X3_flowed : GoodIn wsL_keeps wsX3_flowed := goodIn_ca (goodIn_r _ [19, 6, 20, 8, 9, 4, 10, 11, 12, 13, 14, 15, 38, 39, 40, 41, 42, 43, 44, 45, 46, 47, 48, 49] (by decide +kernel) (by decide +kernel)) (goodIn_sub (fun _ h => List.mem_cons_of_mem _ (List.mem_append_right _ h)) (by decide +kernel))
set_option maxRecDepth 20000 in
theorem gL_keeps_X3_flowed : GoodIn wsL_keeps (wsV RL 67 RX3 yX3_flowed wsX3_flowed) := goodIn_app (goodIn_of _ (by decide +kernel)) ggL_keeps_X3_flowed
set_option maxRecDepth 20000 in
theorem ggL_keeps_X3_spilled : GoodIn wsL_keeps wsX3_spilled := goodIn_ca (goodIn_r _ [24, 6, 25, 8, 9, 4, 10, 11, 12, 13, 14, 15, 38, 39, 40, 41, 42, 43, 44, 45, 46, 47, 48, 49] (by decide +kernel) (by decide +kernel)) (goodIn_sub (fun _ h => List.mem_cons_of_mem _ (List.mem_append_right _ h)) (by decide +kernel))
set_option maxRecDepth 20000 in
theorem gL_keeps_X3_spilled : GoodIn wsL_keeps (wsV RL 70 RX3 yX3_spilled wsX3_spilled) := goodIn_app (goodIn_of _ (by decide +kernel)) ggL_keeps_X3_spilled
set_option maxRecDepth 20000 in
theorem ggL_keeps_X3_opening : GoodIn wsL_keeps wsX3_opening := goodIn_ca (goodIn_r _ [29, 30, 31, 8, 9, 4, 10, 11, 12, 13, 14, 15, 38, 39, 40, 41, 50, 51, 52, 53, 54, 55, 56, 57] (by decide +kernel) (by decide +kernel)) (goodIn_sub (fun _ h => List.mem_cons_of_mem _ (List.mem_append_right _ h)) (by decide +kernel))
set_option maxRecDepth 20000 in
theorem gL_keeps_X3_opening : GoodIn wsL_keeps (wsV RL 73 RX3 yX3_opening wsX3_opening) := goodIn_app (goodIn_of _ (by decide +kernel)) ggL_keeps_X3_opening
set_option maxRecDepth 20000 in
theorem ggL_keeps_X3_beat : GoodIn wsL_keeps wsX3_beat := goodIn_ca (goodIn_r _ [35, 36, 37, 8, 9, 4, 10, 11, 12, 13, 14, 15, 38, 39, 40, 41, 58, 59, 60, 61, 62, 63, 64, 65, 66, 67, 68, 69] (by decide +kernel) (by decide +kernel)) (goodIn_sub (fun _ h => List.mem_cons_of_mem _ (List.mem_append_right _ h)) (by decide +kernel))
set_option maxRecDepth 20000 in
theorem gL_keeps_X3_beat : GoodIn wsL_keeps (wsV RL 97 RX3 yX3_beat wsX3_beat) := goodIn_app (goodIn_of _ (by decide +kernel)) ggL_keeps_X3_beat
theorem dL_keeps_0 : decode cL_keeps 0 = .ok (.iconst 0, 1) := by decide +kernel
theorem dL_keeps_1 : decode cL_keeps 1 = .ok (.istore_n 3, 1) := by decide +kernel
theorem dL_keeps_2 : decode cL_keeps 2 = .ok (.iload_n 3, 1) := by decide +kernel
theorem dL_keeps_3 : decode cL_keeps 3 = .ok (.bipush 8, 2) := by decide +kernel
theorem dL_keeps_5 : decode cL_keeps 5 = .ok (.if_icmp .ge 95, 3) := by decide +kernel
theorem dL_keeps_8 : decode cL_keeps 8 = .ok (.aload_n 1, 1) := by decide +kernel
theorem dL_keeps_9 : decode cL_keeps 9 = .ok (.bipush 8, 2) := by decide +kernel
theorem dL_keeps_11 : decode cL_keeps 11 = .ok (.iload_n 3, 1) := by decide +kernel
theorem dL_keeps_12 : decode cL_keeps 12 = .ok (.imul, 1) := by decide +kernel
theorem dL_keeps_13 : decode cL_keeps 13 = .ok (.iconst 4, 1) := by decide +kernel
theorem dL_keeps_14 : decode cL_keeps 14 = .ok (.iadd, 1) := by decide +kernel
theorem dL_keeps_15 : decode cL_keeps 15 = .ok (.aload_n 0, 1) := by decide +kernel
theorem dL_keeps_16 : decode cL_keeps 16 = .ok (.iload_n 3, 1) := by decide +kernel
theorem dL_keeps_17 : decode cL_keeps 17 = .ok (.invokevirtual 58, 3) := by decide +kernel
theorem dL_keeps_20 : decode cL_keeps 20 = .ok (.iastore, 1) := by decide +kernel
theorem dL_keeps_21 : decode cL_keeps 21 = .ok (.aload_n 1, 1) := by decide +kernel
theorem dL_keeps_22 : decode cL_keeps 22 = .ok (.bipush 8, 2) := by decide +kernel
theorem dL_keeps_24 : decode cL_keeps 24 = .ok (.iload_n 3, 1) := by decide +kernel
theorem dL_keeps_25 : decode cL_keeps 25 = .ok (.imul, 1) := by decide +kernel
theorem dL_keeps_26 : decode cL_keeps 26 = .ok (.iconst 5, 1) := by decide +kernel
theorem dL_keeps_27 : decode cL_keeps 27 = .ok (.iadd, 1) := by decide +kernel
theorem dL_keeps_28 : decode cL_keeps 28 = .ok (.aload_n 0, 1) := by decide +kernel
theorem dL_keeps_29 : decode cL_keeps 29 = .ok (.iload_n 3, 1) := by decide +kernel
theorem dL_keeps_30 : decode cL_keeps 30 = .ok (.invokevirtual 67, 3) := by decide +kernel
theorem dL_keeps_33 : decode cL_keeps 33 = .ok (.iastore, 1) := by decide +kernel
theorem dL_keeps_34 : decode cL_keeps 34 = .ok (.aload_n 1, 1) := by decide +kernel
theorem dL_keeps_35 : decode cL_keeps 35 = .ok (.bipush 8, 2) := by decide +kernel
theorem dL_keeps_37 : decode cL_keeps 37 = .ok (.iload_n 3, 1) := by decide +kernel
theorem dL_keeps_38 : decode cL_keeps 38 = .ok (.imul, 1) := by decide +kernel
theorem dL_keeps_39 : decode cL_keeps 39 = .ok (.bipush 6, 2) := by decide +kernel
theorem dL_keeps_41 : decode cL_keeps 41 = .ok (.iadd, 1) := by decide +kernel
theorem dL_keeps_42 : decode cL_keeps 42 = .ok (.aload_n 0, 1) := by decide +kernel
theorem dL_keeps_43 : decode cL_keeps 43 = .ok (.iload_n 3, 1) := by decide +kernel
theorem dL_keeps_44 : decode cL_keeps 44 = .ok (.invokevirtual 70, 3) := by decide +kernel
theorem dL_keeps_47 : decode cL_keeps 47 = .ok (.iastore, 1) := by decide +kernel
theorem dL_keeps_48 : decode cL_keeps 48 = .ok (.aload_n 1, 1) := by decide +kernel
theorem dL_keeps_49 : decode cL_keeps 49 = .ok (.bipush 8, 2) := by decide +kernel
theorem dL_keeps_51 : decode cL_keeps 51 = .ok (.iload_n 3, 1) := by decide +kernel
theorem dL_keeps_52 : decode cL_keeps 52 = .ok (.imul, 1) := by decide +kernel
theorem dL_keeps_53 : decode cL_keeps 53 = .ok (.bipush 7, 2) := by decide +kernel
theorem dL_keeps_55 : decode cL_keeps 55 = .ok (.iadd, 1) := by decide +kernel
theorem dL_keeps_56 : decode cL_keeps 56 = .ok (.aload_n 0, 1) := by decide +kernel
theorem dL_keeps_57 : decode cL_keeps 57 = .ok (.iload_n 3, 1) := by decide +kernel
theorem dL_keeps_58 : decode cL_keeps 58 = .ok (.invokevirtual 73, 3) := by decide +kernel
theorem dL_keeps_61 : decode cL_keeps 61 = .ok (.iastore, 1) := by decide +kernel
theorem dL_keeps_62 : decode cL_keeps 62 = .ok (.iconst 0, 1) := by decide +kernel
theorem dL_keeps_63 : decode cL_keeps 63 = .ok (.istore 4, 2) := by decide +kernel
theorem dL_keeps_65 : decode cL_keeps 65 = .ok (.iload 4, 2) := by decide +kernel
theorem dL_keeps_67 : decode cL_keeps 67 = .ok (.bipush 8, 2) := by decide +kernel
theorem dL_keeps_69 : decode cL_keeps 69 = .ok (.if_icmp .ge 25, 3) := by decide +kernel
theorem dL_keeps_72 : decode cL_keeps 72 = .ok (.aload_n 2, 1) := by decide +kernel
theorem dL_keeps_73 : decode cL_keeps 73 = .ok (.bipush 8, 2) := by decide +kernel
theorem dL_keeps_75 : decode cL_keeps 75 = .ok (.iload_n 3, 1) := by decide +kernel
theorem dL_keeps_76 : decode cL_keeps 76 = .ok (.imul, 1) := by decide +kernel
theorem dL_keeps_77 : decode cL_keeps 77 = .ok (.iload 4, 2) := by decide +kernel
theorem dL_keeps_79 : decode cL_keeps 79 = .ok (.iadd, 1) := by decide +kernel
theorem dL_keeps_80 : decode cL_keeps 80 = .ok (.aload_n 0, 1) := by decide +kernel
theorem dL_keeps_81 : decode cL_keeps 81 = .ok (.iload_n 3, 1) := by decide +kernel
theorem dL_keeps_82 : decode cL_keeps 82 = .ok (.iload 4, 2) := by decide +kernel
theorem dL_keeps_84 : decode cL_keeps 84 = .ok (.invokevirtual 97, 3) := by decide +kernel
theorem dL_keeps_87 : decode cL_keeps 87 = .ok (.iastore, 1) := by decide +kernel
theorem dL_keeps_88 : decode cL_keeps 88 = .ok (.iinc 4 1, 3) := by decide +kernel
theorem dL_keeps_91 : decode cL_keeps 91 = .ok (.goto (-26), 3) := by decide +kernel
theorem dL_keeps_94 : decode cL_keeps 94 = .ok (.iinc 3 1, 3) := by decide +kernel
theorem dL_keeps_97 : decode cL_keeps 97 = .ok (.goto (-95), 3) := by decide +kernel
theorem dL_keeps_100 : decode cL_keeps 100 = .ok (.return_, 1) := by decide +kernel
set_option maxRecDepth 20000 in
theorem ggL_isWater_X3_flowed : GoodIn wsL_isWater wsX3_flowed := goodIn_ca (goodIn_r _ [5, 6, 7, 8, 9, 4, 10, 11, 12, 13, 14, 15, 48, 49, 50, 51, 52, 53, 54, 55, 56, 57, 58, 59] (by decide +kernel) (by decide +kernel)) (goodIn_sub (fun _ h => List.mem_cons_of_mem _ (List.mem_append_right _ h)) (by decide +kernel))
set_option maxRecDepth 20000 in
theorem gL_isWater_X3_flowed : GoodIn wsL_isWater (wsV RL 67 RX3 yX3_flowed wsX3_flowed) := goodIn_app (goodIn_of _ (by decide +kernel)) ggL_isWater_X3_flowed
set_option maxRecDepth 20000 in
theorem ggL_isWater_X3_spilled : GoodIn wsL_isWater wsX3_spilled := goodIn_ca (goodIn_r _ [19, 6, 20, 8, 9, 4, 10, 11, 12, 13, 14, 15, 48, 49, 50, 51, 52, 53, 54, 55, 56, 57, 58, 59] (by decide +kernel) (by decide +kernel)) (goodIn_sub (fun _ h => List.mem_cons_of_mem _ (List.mem_append_right _ h)) (by decide +kernel))
set_option maxRecDepth 20000 in
theorem gL_isWater_X3_spilled : GoodIn wsL_isWater (wsV RL 70 RX3 yX3_spilled wsX3_spilled) := goodIn_app (goodIn_of _ (by decide +kernel)) ggL_isWater_X3_spilled
set_option maxRecDepth 20000 in
theorem ggL_isWater_X3_volume : GoodIn wsL_isWater wsX3_volume := goodIn_ca (goodIn_r _ [24, 6, 25, 8, 9, 4, 10, 11, 12, 13, 14, 15, 48, 49, 50, 51, 52, 53, 54, 55, 56, 57, 58, 59] (by decide +kernel) (by decide +kernel)) (goodIn_sub (fun _ h => List.mem_cons_of_mem _ (List.mem_append_right _ h)) (by decide +kernel))
set_option maxRecDepth 20000 in
theorem gL_isWater_X3_volume : GoodIn wsL_isWater (wsV RL 58 RX3 yX3_volume wsX3_volume) := goodIn_app (goodIn_of _ (by decide +kernel)) ggL_isWater_X3_volume
set_option maxRecDepth 20000 in
theorem ggL_isWater_X3_volumeByBalance : GoodIn wsL_isWater wsX3_volumeByBalance := goodIn_ca (goodIn_r _ [29, 6, 8, 9, 4, 10, 11, 12, 13, 14, 15, 30, 31, 32, 33, 34, 35, 36, 37, 48, 49, 50, 51, 52, 53, 54, 55, 56, 57, 58, 59] (by decide +kernel) (by decide +kernel)) (goodIn_sub (fun _ h => List.mem_cons_of_mem _ (List.mem_append_right _ h)) (by decide +kernel))
set_option maxRecDepth 20000 in
theorem gL_isWater_X3_volumeByBalance : GoodIn wsL_isWater (wsV RL 61 RX3 yX3_volumeByBalance wsX3_volumeByBalance) := goodIn_app (goodIn_of _ (by decide +kernel)) ggL_isWater_X3_volumeByBalance
set_option maxRecDepth 20000 in
theorem ggL_isWater_X3_level : GoodIn wsL_isWater wsX3_level := goodIn_ca (goodIn_r _ [41, 6, 8, 9, 4, 10, 11, 12, 13, 14, 15, 42, 43, 44, 33, 45, 46, 47, 48, 49, 50, 51, 52, 53, 54, 55, 56, 57, 58, 59] (by decide +kernel) (by decide +kernel)) (goodIn_sub (fun _ h => List.mem_cons_of_mem _ (List.mem_append_right _ h)) (by decide +kernel))
set_option maxRecDepth 20000 in
theorem gL_isWater_X3_level : GoodIn wsL_isWater (wsV RL 64 RX3 yX3_level wsX3_level) := goodIn_app (goodIn_of _ (by decide +kernel)) ggL_isWater_X3_level
theorem dL_isWater_0 : decode cL_isWater 0 = .ok (.iconst 0, 1) := by decide +kernel
theorem dL_isWater_1 : decode cL_isWater 1 = .ok (.istore 5, 2) := by decide +kernel
theorem dL_isWater_3 : decode cL_isWater 3 = .ok (.iconst 0, 1) := by decide +kernel
theorem dL_isWater_4 : decode cL_isWater 4 = .ok (.istore 6, 2) := by decide +kernel
theorem dL_isWater_6 : decode cL_isWater 6 = .ok (.iconst 0, 1) := by decide +kernel
theorem dL_isWater_7 : decode cL_isWater 7 = .ok (.istore 7, 2) := by decide +kernel
theorem dL_isWater_9 : decode cL_isWater 9 = .ok (.iconst 1, 1) := by decide +kernel
theorem dL_isWater_10 : decode cL_isWater 10 = .ok (.istore 8, 2) := by decide +kernel
theorem dL_isWater_12 : decode cL_isWater 12 = .ok (.iconst 0, 1) := by decide +kernel
theorem dL_isWater_13 : decode cL_isWater 13 = .ok (.istore 9, 2) := by decide +kernel
theorem dL_isWater_15 : decode cL_isWater 15 = .ok (.iload 9, 2) := by decide +kernel
theorem dL_isWater_17 : decode cL_isWater 17 = .ok (.bipush 8, 2) := by decide +kernel
theorem dL_isWater_19 : decode cL_isWater 19 = .ok (.if_icmp .ge 270, 3) := by decide +kernel
theorem dL_isWater_22 : decode cL_isWater 22 = .ok (.iload 8, 2) := by decide +kernel
theorem dL_isWater_24 : decode cL_isWater 24 = .ok (.ifCond .eq 265, 3) := by decide +kernel
theorem dL_isWater_27 : decode cL_isWater 27 = .ok (.aload_n 2, 1) := by decide +kernel
theorem dL_isWater_28 : decode cL_isWater 28 = .ok (.bipush 8, 2) := by decide +kernel
theorem dL_isWater_30 : decode cL_isWater 30 = .ok (.iload 9, 2) := by decide +kernel
theorem dL_isWater_32 : decode cL_isWater 32 = .ok (.imul, 1) := by decide +kernel
theorem dL_isWater_33 : decode cL_isWater 33 = .ok (.iconst 4, 1) := by decide +kernel
theorem dL_isWater_34 : decode cL_isWater 34 = .ok (.iadd, 1) := by decide +kernel
theorem dL_isWater_35 : decode cL_isWater 35 = .ok (.iaload, 1) := by decide +kernel
theorem dL_isWater_36 : decode cL_isWater 36 = .ok (.aload_n 1, 1) := by decide +kernel
theorem dL_isWater_37 : decode cL_isWater 37 = .ok (.bipush 8, 2) := by decide +kernel
theorem dL_isWater_39 : decode cL_isWater 39 = .ok (.iload 9, 2) := by decide +kernel
theorem dL_isWater_41 : decode cL_isWater 41 = .ok (.imul, 1) := by decide +kernel
theorem dL_isWater_42 : decode cL_isWater 42 = .ok (.iconst 3, 1) := by decide +kernel
theorem dL_isWater_43 : decode cL_isWater 43 = .ok (.iadd, 1) := by decide +kernel
theorem dL_isWater_44 : decode cL_isWater 44 = .ok (.iaload, 1) := by decide +kernel
theorem dL_isWater_45 : decode cL_isWater 45 = .ok (.iadd, 1) := by decide +kernel
theorem dL_isWater_46 : decode cL_isWater 46 = .ok (.iload 9, 2) := by decide +kernel
theorem dL_isWater_48 : decode cL_isWater 48 = .ok (.ifCond .ne 9, 3) := by decide +kernel
theorem dL_isWater_51 : decode cL_isWater 51 = .ok (.aload_n 3, 1) := by decide +kernel
theorem dL_isWater_52 : decode cL_isWater 52 = .ok (.iconst 0, 1) := by decide +kernel
theorem dL_isWater_53 : decode cL_isWater 53 = .ok (.iaload, 1) := by decide +kernel
theorem dL_isWater_54 : decode cL_isWater 54 = .ok (.goto 4, 3) := by decide +kernel
theorem dL_isWater_57 : decode cL_isWater 57 = .ok (.iconst 0, 1) := by decide +kernel
theorem dL_isWater_58 : decode cL_isWater 58 = .ok (.iadd, 1) := by decide +kernel
theorem dL_isWater_59 : decode cL_isWater 59 = .ok (.istore 10, 2) := by decide +kernel
theorem dL_isWater_61 : decode cL_isWater 61 = .ok (.aload_n 0, 1) := by decide +kernel
theorem dL_isWater_62 : decode cL_isWater 62 = .ok (.iload 9, 2) := by decide +kernel
theorem dL_isWater_64 : decode cL_isWater 64 = .ok (.invokevirtual 67, 3) := by decide +kernel
theorem dL_isWater_67 : decode cL_isWater 67 = .ok (.aload_n 2, 1) := by decide +kernel
theorem dL_isWater_68 : decode cL_isWater 68 = .ok (.bipush 8, 2) := by decide +kernel
theorem dL_isWater_70 : decode cL_isWater 70 = .ok (.iload 9, 2) := by decide +kernel
theorem dL_isWater_72 : decode cL_isWater 72 = .ok (.imul, 1) := by decide +kernel
theorem dL_isWater_73 : decode cL_isWater 73 = .ok (.iconst 5, 1) := by decide +kernel
theorem dL_isWater_74 : decode cL_isWater 74 = .ok (.iadd, 1) := by decide +kernel
theorem dL_isWater_75 : decode cL_isWater 75 = .ok (.iaload, 1) := by decide +kernel
theorem dL_isWater_76 : decode cL_isWater 76 = .ok (.isub, 1) := by decide +kernel
theorem dL_isWater_77 : decode cL_isWater 77 = .ok (.istore 11, 2) := by decide +kernel
theorem dL_isWater_79 : decode cL_isWater 79 = .ok (.aload_n 2, 1) := by decide +kernel
theorem dL_isWater_80 : decode cL_isWater 80 = .ok (.bipush 8, 2) := by decide +kernel
theorem dL_isWater_82 : decode cL_isWater 82 = .ok (.iload 9, 2) := by decide +kernel
theorem dL_isWater_84 : decode cL_isWater 84 = .ok (.imul, 1) := by decide +kernel
theorem dL_isWater_85 : decode cL_isWater 85 = .ok (.bipush 7, 2) := by decide +kernel
theorem dL_isWater_87 : decode cL_isWater 87 = .ok (.iadd, 1) := by decide +kernel
theorem dL_isWater_88 : decode cL_isWater 88 = .ok (.iaload, 1) := by decide +kernel
theorem dL_isWater_89 : decode cL_isWater 89 = .ok (.aload_n 1, 1) := by decide +kernel
theorem dL_isWater_90 : decode cL_isWater 90 = .ok (.bipush 8, 2) := by decide +kernel
theorem dL_isWater_92 : decode cL_isWater 92 = .ok (.iload 9, 2) := by decide +kernel
theorem dL_isWater_94 : decode cL_isWater 94 = .ok (.imul, 1) := by decide +kernel
theorem dL_isWater_95 : decode cL_isWater 95 = .ok (.iconst 2, 1) := by decide +kernel
theorem dL_isWater_96 : decode cL_isWater 96 = .ok (.iadd, 1) := by decide +kernel
theorem dL_isWater_97 : decode cL_isWater 97 = .ok (.iaload, 1) := by decide +kernel
theorem dL_isWater_98 : decode cL_isWater 98 = .ok (.imul, 1) := by decide +kernel
theorem dL_isWater_99 : decode cL_isWater 99 = .ok (.istore 12, 2) := by decide +kernel
theorem dL_isWater_101 : decode cL_isWater 101 = .ok (.aload_n 0, 1) := by decide +kernel
theorem dL_isWater_102 : decode cL_isWater 102 = .ok (.iload 9, 2) := by decide +kernel
theorem dL_isWater_104 : decode cL_isWater 104 = .ok (.invokevirtual 70, 3) := by decide +kernel
theorem dL_isWater_107 : decode cL_isWater 107 = .ok (.aload_n 2, 1) := by decide +kernel
theorem dL_isWater_108 : decode cL_isWater 108 = .ok (.bipush 8, 2) := by decide +kernel
theorem dL_isWater_110 : decode cL_isWater 110 = .ok (.iload 9, 2) := by decide +kernel
theorem dL_isWater_112 : decode cL_isWater 112 = .ok (.imul, 1) := by decide +kernel
theorem dL_isWater_113 : decode cL_isWater 113 = .ok (.bipush 6, 2) := by decide +kernel
theorem dL_isWater_115 : decode cL_isWater 115 = .ok (.iadd, 1) := by decide +kernel
theorem dL_isWater_116 : decode cL_isWater 116 = .ok (.iaload, 1) := by decide +kernel
theorem dL_isWater_117 : decode cL_isWater 117 = .ok (.isub, 1) := by decide +kernel
theorem dL_isWater_118 : decode cL_isWater 118 = .ok (.istore 13, 2) := by decide +kernel
theorem dL_isWater_120 : decode cL_isWater 120 = .ok (.aload_n 1, 1) := by decide +kernel
end
section
theorem dL_isWater_121 : decode cL_isWater 121 = .ok (.bipush 8, 2) := by decide +kernel
theorem dL_isWater_123 : decode cL_isWater 123 = .ok (.iload 9, 2) := by decide +kernel
theorem dL_isWater_125 : decode cL_isWater 125 = .ok (.imul, 1) := by decide +kernel
theorem dL_isWater_126 : decode cL_isWater 126 = .ok (.iaload, 1) := by decide +kernel
theorem dL_isWater_127 : decode cL_isWater 127 = .ok (.aload_n 1, 1) := by decide +kernel
theorem dL_isWater_128 : decode cL_isWater 128 = .ok (.bipush 8, 2) := by decide +kernel
theorem dL_isWater_130 : decode cL_isWater 130 = .ok (.iload 9, 2) := by decide +kernel
theorem dL_isWater_132 : decode cL_isWater 132 = .ok (.imul, 1) := by decide +kernel
theorem dL_isWater_133 : decode cL_isWater 133 = .ok (.iconst 1, 1) := by decide +kernel
theorem dL_isWater_134 : decode cL_isWater 134 = .ok (.iadd, 1) := by decide +kernel
theorem dL_isWater_135 : decode cL_isWater 135 = .ok (.iaload, 1) := by decide +kernel
theorem dL_isWater_136 : decode cL_isWater 136 = .ok (.imul, 1) := by decide +kernel
theorem dL_isWater_137 : decode cL_isWater 137 = .ok (.istore 14, 2) := by decide +kernel
theorem dL_isWater_139 : decode cL_isWater 139 = .ok (.iload 11, 2) := by decide +kernel
theorem dL_isWater_141 : decode cL_isWater 141 = .ok (.iload 12, 2) := by decide +kernel
theorem dL_isWater_143 : decode cL_isWater 143 = .ok (.iload 10, 2) := by decide +kernel
theorem dL_isWater_145 : decode cL_isWater 145 = .ok (.if_icmp .ge 8, 3) := by decide +kernel
theorem dL_isWater_148 : decode cL_isWater 148 = .ok (.iload 12, 2) := by decide +kernel
theorem dL_isWater_150 : decode cL_isWater 150 = .ok (.goto 5, 3) := by decide +kernel
theorem dL_isWater_153 : decode cL_isWater 153 = .ok (.iload 10, 2) := by decide +kernel
theorem dL_isWater_155 : decode cL_isWater 155 = .ok (.if_icmp .ne 100, 3) := by decide +kernel
theorem dL_isWater_158 : decode cL_isWater 158 = .ok (.aload_n 0, 1) := by decide +kernel
theorem dL_isWater_159 : decode cL_isWater 159 = .ok (.iload 9, 2) := by decide +kernel
theorem dL_isWater_161 : decode cL_isWater 161 = .ok (.invokevirtual 58, 3) := by decide +kernel
theorem dL_isWater_164 : decode cL_isWater 164 = .ok (.iload 10, 2) := by decide +kernel
theorem dL_isWater_166 : decode cL_isWater 166 = .ok (.iload 6, 2) := by decide +kernel
theorem dL_isWater_168 : decode cL_isWater 168 = .ok (.iadd, 1) := by decide +kernel
theorem dL_isWater_169 : decode cL_isWater 169 = .ok (.iload 7, 2) := by decide +kernel
theorem dL_isWater_171 : decode cL_isWater 171 = .ok (.iadd, 1) := by decide +kernel
theorem dL_isWater_172 : decode cL_isWater 172 = .ok (.iload 11, 2) := by decide +kernel
theorem dL_isWater_174 : decode cL_isWater 174 = .ok (.isub, 1) := by decide +kernel
theorem dL_isWater_175 : decode cL_isWater 175 = .ok (.iload 13, 2) := by decide +kernel
theorem dL_isWater_177 : decode cL_isWater 177 = .ok (.isub, 1) := by decide +kernel
theorem dL_isWater_178 : decode cL_isWater 178 = .ok (.if_icmp .ne 77, 3) := by decide +kernel
theorem dL_isWater_181 : decode cL_isWater 181 = .ok (.aload_n 0, 1) := by decide +kernel
theorem dL_isWater_182 : decode cL_isWater 182 = .ok (.iload 9, 2) := by decide +kernel
theorem dL_isWater_184 : decode cL_isWater 184 = .ok (.invokevirtual 61, 3) := by decide +kernel
theorem dL_isWater_187 : decode cL_isWater 187 = .ok (.aload_n 0, 1) := by decide +kernel
theorem dL_isWater_188 : decode cL_isWater 188 = .ok (.iload 9, 2) := by decide +kernel
theorem dL_isWater_190 : decode cL_isWater 190 = .ok (.invokevirtual 58, 3) := by decide +kernel
theorem dL_isWater_193 : decode cL_isWater 193 = .ok (.if_icmp .ne 62, 3) := by decide +kernel
theorem dL_isWater_196 : decode cL_isWater 196 = .ok (.aload_n 0, 1) := by decide +kernel
theorem dL_isWater_197 : decode cL_isWater 197 = .ok (.iload 9, 2) := by decide +kernel
theorem dL_isWater_199 : decode cL_isWater 199 = .ok (.invokevirtual 58, 3) := by decide +kernel
theorem dL_isWater_202 : decode cL_isWater 202 = .ok (.iload 14, 2) := by decide +kernel
theorem dL_isWater_204 : decode cL_isWater 204 = .ok (.if_icmp .gt 51, 3) := by decide +kernel
theorem dL_isWater_207 : decode cL_isWater 207 = .ok (.iload 13, 2) := by decide +kernel
theorem dL_isWater_209 : decode cL_isWater 209 = .ok (.ifCond .eq 14, 3) := by decide +kernel
theorem dL_isWater_212 : decode cL_isWater 212 = .ok (.aload_n 0, 1) := by decide +kernel
theorem dL_isWater_213 : decode cL_isWater 213 = .ok (.iload 9, 2) := by decide +kernel
theorem dL_isWater_215 : decode cL_isWater 215 = .ok (.invokevirtual 58, 3) := by decide +kernel
theorem dL_isWater_218 : decode cL_isWater 218 = .ok (.iload 14, 2) := by decide +kernel
theorem dL_isWater_220 : decode cL_isWater 220 = .ok (.if_icmp .ne 35, 3) := by decide +kernel
theorem dL_isWater_223 : decode cL_isWater 223 = .ok (.iload 13, 2) := by decide +kernel
theorem dL_isWater_225 : decode cL_isWater 225 = .ok (.ifCond .lt 30, 3) := by decide +kernel
theorem dL_isWater_228 : decode cL_isWater 228 = .ok (.aload_n 0, 1) := by decide +kernel
theorem dL_isWater_229 : decode cL_isWater 229 = .ok (.iload 9, 2) := by decide +kernel
theorem dL_isWater_231 : decode cL_isWater 231 = .ok (.invokevirtual 64, 3) := by decide +kernel
theorem dL_isWater_234 : decode cL_isWater 234 = .ok (.aload_n 0, 1) := by decide +kernel
theorem dL_isWater_235 : decode cL_isWater 235 = .ok (.iload 9, 2) := by decide +kernel
theorem dL_isWater_237 : decode cL_isWater 237 = .ok (.invokevirtual 58, 3) := by decide +kernel
theorem dL_isWater_240 : decode cL_isWater 240 = .ok (.aload_n 1, 1) := by decide +kernel
theorem dL_isWater_241 : decode cL_isWater 241 = .ok (.bipush 8, 2) := by decide +kernel
theorem dL_isWater_243 : decode cL_isWater 243 = .ok (.iload 9, 2) := by decide +kernel
theorem dL_isWater_245 : decode cL_isWater 245 = .ok (.imul, 1) := by decide +kernel
theorem dL_isWater_246 : decode cL_isWater 246 = .ok (.iaload, 1) := by decide +kernel
theorem dL_isWater_247 : decode cL_isWater 247 = .ok (.idiv, 1) := by decide +kernel
theorem dL_isWater_248 : decode cL_isWater 248 = .ok (.if_icmp .ne 7, 3) := by decide +kernel
theorem dL_isWater_251 : decode cL_isWater 251 = .ok (.iconst 1, 1) := by decide +kernel
theorem dL_isWater_252 : decode cL_isWater 252 = .ok (.goto 4, 3) := by decide +kernel
theorem dL_isWater_255 : decode cL_isWater 255 = .ok (.iconst 0, 1) := by decide +kernel
theorem dL_isWater_256 : decode cL_isWater 256 = .ok (.istore 8, 2) := by decide +kernel
theorem dL_isWater_258 : decode cL_isWater 258 = .ok (.iload 11, 2) := by decide +kernel
theorem dL_isWater_260 : decode cL_isWater 260 = .ok (.istore 6, 2) := by decide +kernel
theorem dL_isWater_262 : decode cL_isWater 262 = .ok (.iload 13, 2) := by decide +kernel
theorem dL_isWater_264 : decode cL_isWater 264 = .ok (.istore 7, 2) := by decide +kernel
theorem dL_isWater_266 : decode cL_isWater 266 = .ok (.iload 5, 2) := by decide +kernel
theorem dL_isWater_268 : decode cL_isWater 268 = .ok (.iload 13, 2) := by decide +kernel
theorem dL_isWater_270 : decode cL_isWater 270 = .ok (.iadd, 1) := by decide +kernel
theorem dL_isWater_271 : decode cL_isWater 271 = .ok (.istore 5, 2) := by decide +kernel
theorem dL_isWater_273 : decode cL_isWater 273 = .ok (.aload_n 1, 1) := by decide +kernel
theorem dL_isWater_274 : decode cL_isWater 274 = .ok (.bipush 8, 2) := by decide +kernel
theorem dL_isWater_276 : decode cL_isWater 276 = .ok (.iload 9, 2) := by decide +kernel
theorem dL_isWater_278 : decode cL_isWater 278 = .ok (.imul, 1) := by decide +kernel
theorem dL_isWater_279 : decode cL_isWater 279 = .ok (.iconst 3, 1) := by decide +kernel
theorem dL_isWater_280 : decode cL_isWater 280 = .ok (.iadd, 1) := by decide +kernel
theorem dL_isWater_281 : decode cL_isWater 281 = .ok (.iconst 0, 1) := by decide +kernel
theorem dL_isWater_282 : decode cL_isWater 282 = .ok (.iastore, 1) := by decide +kernel
theorem dL_isWater_283 : decode cL_isWater 283 = .ok (.iinc 9 1, 3) := by decide +kernel
theorem dL_isWater_286 : decode cL_isWater 286 = .ok (.goto (-271), 3) := by decide +kernel
theorem dL_isWater_289 : decode cL_isWater 289 = .ok (.iload 8, 2) := by decide +kernel
theorem dL_isWater_291 : decode cL_isWater 291 = .ok (.ifCond .eq 14, 3) := by decide +kernel
theorem dL_isWater_294 : decode cL_isWater 294 = .ok (.iload 5, 2) := by decide +kernel
theorem dL_isWater_296 : decode cL_isWater 296 = .ok (.iload 4, 2) := by decide +kernel
theorem dL_isWater_298 : decode cL_isWater 298 = .ok (.if_icmp .ne 7, 3) := by decide +kernel
theorem dL_isWater_301 : decode cL_isWater 301 = .ok (.iconst 1, 1) := by decide +kernel
theorem dL_isWater_302 : decode cL_isWater 302 = .ok (.goto 4, 3) := by decide +kernel
theorem dL_isWater_305 : decode cL_isWater 305 = .ok (.iconst 0, 1) := by decide +kernel
theorem dL_isWater_306 : decode cL_isWater 306 = .ok (.ireturn, 1) := by decide +kernel
set_option maxRecDepth 20000 in
theorem ggL_areBeats_X3_time : GoodIn wsL_areBeats wsX3_time := goodIn_r _ [5, 6, 47, 48, 49, 50] (by decide +kernel) (by decide +kernel)
set_option maxRecDepth 20000 in
theorem gL_areBeats_X3_time : GoodIn wsL_areBeats (wsV RL 103 RX3 yX3_time wsX3_time) := goodIn_app (goodIn_of _ (by decide +kernel)) ggL_areBeats_X3_time
set_option maxRecDepth 20000 in
theorem ggL_areBeats_X3_beat : GoodIn wsL_areBeats wsX3_beat := goodIn_ca (goodIn_r _ [10, 11, 12, 13, 14, 4, 15, 16, 17, 18, 19, 20, 47, 48, 49, 50, 51, 52, 53, 54, 55, 56, 57, 58, 59, 60, 61, 62] (by decide +kernel) (by decide +kernel)) (goodIn_sub (fun _ h => List.mem_cons_of_mem _ (List.mem_append_right _ h)) (by decide +kernel))
set_option maxRecDepth 20000 in
theorem gL_areBeats_X3_beat : GoodIn wsL_areBeats (wsV RL 97 RX3 yX3_beat wsX3_beat) := goodIn_app (goodIn_of _ (by decide +kernel)) ggL_areBeats_X3_beat
set_option maxRecDepth 20000 in
theorem ggL_areBeats_X3_status : GoodIn wsL_areBeats wsX3_status := goodIn_ca (goodIn_r _ [24, 11, 25, 13, 14, 4, 15, 16, 17, 18, 19, 20, 47, 48, 49, 50, 51, 52, 53, 54, 55, 56, 57, 58, 59, 60, 61, 62] (by decide +kernel) (by decide +kernel)) (goodIn_sub (fun _ h => List.mem_cons_of_mem _ (List.mem_append_right _ h)) (by decide +kernel))
set_option maxRecDepth 20000 in
theorem gL_areBeats_X3_status : GoodIn wsL_areBeats (wsV RL 100 RX3 yX3_status wsX3_status) := goodIn_app (goodIn_of _ (by decide +kernel)) ggL_areBeats_X3_status
set_option maxRecDepth 20000 in
theorem ggL_areBeats_X3_version : GoodIn wsL_areBeats wsX3_version := goodIn_ca (goodIn_r _ [29, 11, 30, 13, 14, 4, 15, 16, 17, 18, 19, 20, 47, 48, 49, 50, 51, 52, 53, 54, 55, 56, 57, 58, 59, 60, 61, 62] (by decide +kernel) (by decide +kernel)) (goodIn_sub (fun _ h => List.mem_cons_of_mem _ (List.mem_append_right _ h)) (by decide +kernel))
set_option maxRecDepth 20000 in
theorem gL_areBeats_X3_version : GoodIn wsL_areBeats (wsV RL 91 RX3 yX3_version wsX3_version) := goodIn_app (goodIn_of _ (by decide +kernel)) ggL_areBeats_X3_version
set_option maxRecDepth 20000 in
theorem ggL_areBeats_X3_believed : GoodIn wsL_areBeats wsX3_believed := goodIn_ca (goodIn_r _ [34, 11, 35, 13, 14, 4, 15, 16, 17, 18, 19, 20, 36, 37, 38, 39, 40, 41, 47, 48, 49, 50, 51, 52, 53, 54, 55, 56, 57, 58, 59, 60, 61, 62] (by decide +kernel) (by decide +kernel)) (goodIn_sub (fun _ h => List.mem_cons_of_mem _ (List.mem_append_right _ h)) (by decide +kernel))
set_option maxRecDepth 20000 in
theorem gL_areBeats_X3_believed : GoodIn wsL_areBeats (wsV RL 88 RX3 yX3_believed wsX3_believed) := goodIn_app (goodIn_of _ (by decide +kernel)) ggL_areBeats_X3_believed
set_option maxRecDepth 20000 in
theorem ggL_areBeats_X3_age : GoodIn wsL_areBeats wsX3_age := goodIn_ca (goodIn_r _ [45, 11, 6, 46, 13, 14, 4, 15, 16, 17, 18, 19, 20, 36, 37, 38, 39, 40, 41, 47, 48, 49, 50, 51, 52, 53, 54, 55, 56, 57, 58, 59, 60, 61, 62] (by decide +kernel) (by decide +kernel)) (goodIn_sub (fun _ h => List.mem_cons_of_mem _ (List.mem_append_right _ h)) (by decide +kernel))
set_option maxRecDepth 20000 in
theorem gL_areBeats_X3_age : GoodIn wsL_areBeats (wsV RL 94 RX3 yX3_age wsX3_age) := goodIn_app (goodIn_of _ (by decide +kernel)) ggL_areBeats_X3_age
theorem dL_areBeats_0 : decode cL_areBeats 0 = .ok (.aload_n 0, 1) := by decide +kernel
theorem dL_areBeats_1 : decode cL_areBeats 1 = .ok (.invokevirtual 103, 3) := by decide +kernel
theorem dL_areBeats_4 : decode cL_areBeats 4 = .ok (.istore 5, 2) := by decide +kernel
theorem dL_areBeats_6 : decode cL_areBeats 6 = .ok (.iconst 1, 1) := by decide +kernel
theorem dL_areBeats_7 : decode cL_areBeats 7 = .ok (.istore 6, 2) := by decide +kernel
theorem dL_areBeats_9 : decode cL_areBeats 9 = .ok (.iconst 0, 1) := by decide +kernel
theorem dL_areBeats_10 : decode cL_areBeats 10 = .ok (.istore 7, 2) := by decide +kernel
theorem dL_areBeats_12 : decode cL_areBeats 12 = .ok (.iload 7, 2) := by decide +kernel
theorem dL_areBeats_14 : decode cL_areBeats 14 = .ok (.bipush 64, 2) := by decide +kernel
theorem dL_areBeats_16 : decode cL_areBeats 16 = .ok (.if_icmp .ge 451, 3) := by decide +kernel
theorem dL_areBeats_19 : decode cL_areBeats 19 = .ok (.iload 6, 2) := by decide +kernel
theorem dL_areBeats_21 : decode cL_areBeats 21 = .ok (.ifCond .eq 446, 3) := by decide +kernel
theorem dL_areBeats_24 : decode cL_areBeats 24 = .ok (.iload 7, 2) := by decide +kernel
theorem dL_areBeats_26 : decode cL_areBeats 26 = .ok (.bipush 8, 2) := by decide +kernel
theorem dL_areBeats_28 : decode cL_areBeats 28 = .ok (.idiv, 1) := by decide +kernel
theorem dL_areBeats_29 : decode cL_areBeats 29 = .ok (.istore 8, 2) := by decide +kernel
theorem dL_areBeats_31 : decode cL_areBeats 31 = .ok (.iload 7, 2) := by decide +kernel
theorem dL_areBeats_33 : decode cL_areBeats 33 = .ok (.bipush 8, 2) := by decide +kernel
theorem dL_areBeats_35 : decode cL_areBeats 35 = .ok (.irem, 1) := by decide +kernel
theorem dL_areBeats_36 : decode cL_areBeats 36 = .ok (.istore 9, 2) := by decide +kernel
theorem dL_areBeats_38 : decode cL_areBeats 38 = .ok (.aload_n 1, 1) := by decide +kernel
theorem dL_areBeats_39 : decode cL_areBeats 39 = .ok (.bipush 8, 2) := by decide +kernel
theorem dL_areBeats_41 : decode cL_areBeats 41 = .ok (.iload 8, 2) := by decide +kernel
theorem dL_areBeats_43 : decode cL_areBeats 43 = .ok (.imul, 1) := by decide +kernel
theorem dL_areBeats_44 : decode cL_areBeats 44 = .ok (.iconst 1, 1) := by decide +kernel
theorem dL_areBeats_45 : decode cL_areBeats 45 = .ok (.iadd, 1) := by decide +kernel
theorem dL_areBeats_46 : decode cL_areBeats 46 = .ok (.iaload, 1) := by decide +kernel
theorem dL_areBeats_47 : decode cL_areBeats 47 = .ok (.ifCond .ne 7, 3) := by decide +kernel
theorem dL_areBeats_50 : decode cL_areBeats 50 = .ok (.iconst 1, 1) := by decide +kernel
theorem dL_areBeats_51 : decode cL_areBeats 51 = .ok (.goto 4, 3) := by decide +kernel
theorem dL_areBeats_54 : decode cL_areBeats 54 = .ok (.iconst 0, 1) := by decide +kernel
theorem dL_areBeats_55 : decode cL_areBeats 55 = .ok (.istore 10, 2) := by decide +kernel
theorem dL_areBeats_57 : decode cL_areBeats 57 = .ok (.aload_n 0, 1) := by decide +kernel
theorem dL_areBeats_58 : decode cL_areBeats 58 = .ok (.iload 8, 2) := by decide +kernel
theorem dL_areBeats_60 : decode cL_areBeats 60 = .ok (.iload 9, 2) := by decide +kernel
theorem dL_areBeats_62 : decode cL_areBeats 62 = .ok (.invokevirtual 97, 3) := by decide +kernel
theorem dL_areBeats_65 : decode cL_areBeats 65 = .ok (.istore 11, 2) := by decide +kernel
theorem dL_areBeats_67 : decode cL_areBeats 67 = .ok (.iload 11, 2) := by decide +kernel
theorem dL_areBeats_69 : decode cL_areBeats 69 = .ok (.aload_n 2, 1) := by decide +kernel
theorem dL_areBeats_70 : decode cL_areBeats 70 = .ok (.iload 7, 2) := by decide +kernel
theorem dL_areBeats_72 : decode cL_areBeats 72 = .ok (.iaload, 1) := by decide +kernel
theorem dL_areBeats_73 : decode cL_areBeats 73 = .ok (.if_icmp .le 7, 3) := by decide +kernel
theorem dL_areBeats_76 : decode cL_areBeats 76 = .ok (.iconst 1, 1) := by decide +kernel
theorem dL_areBeats_77 : decode cL_areBeats 77 = .ok (.goto 4, 3) := by decide +kernel
theorem dL_areBeats_80 : decode cL_areBeats 80 = .ok (.iconst 0, 1) := by decide +kernel
theorem dL_areBeats_81 : decode cL_areBeats 81 = .ok (.istore 12, 2) := by decide +kernel
theorem dL_areBeats_83 : decode cL_areBeats 83 = .ok (.aload_n 3, 1) := by decide +kernel
theorem dL_areBeats_84 : decode cL_areBeats 84 = .ok (.iload 7, 2) := by decide +kernel
theorem dL_areBeats_86 : decode cL_areBeats 86 = .ok (.iload 12, 2) := by decide +kernel
theorem dL_areBeats_88 : decode cL_areBeats 88 = .ok (.ifCond .eq 8, 3) := by decide +kernel
theorem dL_areBeats_91 : decode cL_areBeats 91 = .ok (.iload 5, 2) := by decide +kernel
theorem dL_areBeats_93 : decode cL_areBeats 93 = .ok (.goto 7, 3) := by decide +kernel
theorem dL_areBeats_96 : decode cL_areBeats 96 = .ok (.aload_n 3, 1) := by decide +kernel
theorem dL_areBeats_97 : decode cL_areBeats 97 = .ok (.iload 7, 2) := by decide +kernel
theorem dL_areBeats_99 : decode cL_areBeats 99 = .ok (.iaload, 1) := by decide +kernel
theorem dL_areBeats_100 : decode cL_areBeats 100 = .ok (.iastore, 1) := by decide +kernel
theorem dL_areBeats_101 : decode cL_areBeats 101 = .ok (.iload 11, 2) := by decide +kernel
theorem dL_areBeats_103 : decode cL_areBeats 103 = .ok (.aload_n 2, 1) := by decide +kernel
theorem dL_areBeats_104 : decode cL_areBeats 104 = .ok (.iload 7, 2) := by decide +kernel
theorem dL_areBeats_106 : decode cL_areBeats 106 = .ok (.iaload, 1) := by decide +kernel
theorem dL_areBeats_107 : decode cL_areBeats 107 = .ok (.if_icmp .lt 57, 3) := by decide +kernel
theorem dL_areBeats_110 : decode cL_areBeats 110 = .ok (.iload 12, 2) := by decide +kernel
theorem dL_areBeats_112 : decode cL_areBeats 112 = .ok (.ifCond .eq 35, 3) := by decide +kernel
theorem dL_areBeats_115 : decode cL_areBeats 115 = .ok (.iload 10, 2) := by decide +kernel
theorem dL_areBeats_117 : decode cL_areBeats 117 = .ok (.ifCond .eq 47, 3) := by decide +kernel
theorem dL_areBeats_120 : decode cL_areBeats 120 = .ok (.aload_n 1, 1) := by decide +kernel
theorem dL_areBeats_121 : decode cL_areBeats 121 = .ok (.bipush 8, 2) := by decide +kernel
theorem dL_areBeats_123 : decode cL_areBeats 123 = .ok (.iload 9, 2) := by decide +kernel
theorem dL_areBeats_125 : decode cL_areBeats 125 = .ok (.imul, 1) := by decide +kernel
theorem dL_areBeats_126 : decode cL_areBeats 126 = .ok (.iconst 1, 1) := by decide +kernel
theorem dL_areBeats_127 : decode cL_areBeats 127 = .ok (.iadd, 1) := by decide +kernel
theorem dL_areBeats_128 : decode cL_areBeats 128 = .ok (.iaload, 1) := by decide +kernel
theorem dL_areBeats_129 : decode cL_areBeats 129 = .ok (.ifCond .eq 18, 3) := by decide +kernel
theorem dL_areBeats_132 : decode cL_areBeats 132 = .ok (.iload 11, 2) := by decide +kernel
theorem dL_areBeats_134 : decode cL_areBeats 134 = .ok (.aload_n 0, 1) := by decide +kernel
theorem dL_areBeats_135 : decode cL_areBeats 135 = .ok (.iload 9, 2) := by decide +kernel
theorem dL_areBeats_137 : decode cL_areBeats 137 = .ok (.iload 9, 2) := by decide +kernel
theorem dL_areBeats_139 : decode cL_areBeats 139 = .ok (.invokevirtual 97, 3) := by decide +kernel
theorem dL_areBeats_142 : decode cL_areBeats 142 = .ok (.iconst 1, 1) := by decide +kernel
theorem dL_areBeats_143 : decode cL_areBeats 143 = .ok (.iadd, 1) := by decide +kernel
theorem dL_areBeats_144 : decode cL_areBeats 144 = .ok (.if_icmp .ge 20, 3) := by decide +kernel
theorem dL_areBeats_147 : decode cL_areBeats 147 = .ok (.iload 11, 2) := by decide +kernel
theorem dL_areBeats_149 : decode cL_areBeats 149 = .ok (.aload_n 0, 1) := by decide +kernel
theorem dL_areBeats_150 : decode cL_areBeats 150 = .ok (.iload 9, 2) := by decide +kernel
theorem dL_areBeats_152 : decode cL_areBeats 152 = .ok (.iload 9, 2) := by decide +kernel
theorem dL_areBeats_154 : decode cL_areBeats 154 = .ok (.invokevirtual 97, 3) := by decide +kernel
theorem dL_areBeats_157 : decode cL_areBeats 157 = .ok (.if_icmp .gt 7, 3) := by decide +kernel
theorem dL_areBeats_160 : decode cL_areBeats 160 = .ok (.iconst 1, 1) := by decide +kernel
theorem dL_areBeats_161 : decode cL_areBeats 161 = .ok (.goto 4, 3) := by decide +kernel
theorem dL_areBeats_164 : decode cL_areBeats 164 = .ok (.iconst 0, 1) := by decide +kernel
theorem dL_areBeats_165 : decode cL_areBeats 165 = .ok (.istore 6, 2) := by decide +kernel
theorem dL_areBeats_167 : decode cL_areBeats 167 = .ok (.iload 8, 2) := by decide +kernel
theorem dL_areBeats_169 : decode cL_areBeats 169 = .ok (.iload 9, 2) := by decide +kernel
theorem dL_areBeats_171 : decode cL_areBeats 171 = .ok (.if_icmp .ne 65, 3) := by decide +kernel
theorem dL_areBeats_174 : decode cL_areBeats 174 = .ok (.iload 6, 2) := by decide +kernel
theorem dL_areBeats_176 : decode cL_areBeats 176 = .ok (.ifCond .eq 54, 3) := by decide +kernel
theorem dL_areBeats_179 : decode cL_areBeats 179 = .ok (.iload 12, 2) := by decide +kernel
theorem dL_areBeats_181 : decode cL_areBeats 181 = .ok (.iload 10, 2) := by decide +kernel
theorem dL_areBeats_183 : decode cL_areBeats 183 = .ok (.if_icmp .ne 47, 3) := by decide +kernel
theorem dL_areBeats_186 : decode cL_areBeats 186 = .ok (.iload 10, 2) := by decide +kernel
theorem dL_areBeats_188 : decode cL_areBeats 188 = .ok (.ifCond .eq 14, 3) := by decide +kernel
theorem dL_areBeats_191 : decode cL_areBeats 191 = .ok (.iload 11, 2) := by decide +kernel
theorem dL_areBeats_193 : decode cL_areBeats 193 = .ok (.aload_n 2, 1) := by decide +kernel
theorem dL_areBeats_194 : decode cL_areBeats 194 = .ok (.iload 7, 2) := by decide +kernel
theorem dL_areBeats_196 : decode cL_areBeats 196 = .ok (.iaload, 1) := by decide +kernel
theorem dL_areBeats_197 : decode cL_areBeats 197 = .ok (.iconst 1, 1) := by decide +kernel
theorem dL_areBeats_198 : decode cL_areBeats 198 = .ok (.iadd, 1) := by decide +kernel
theorem dL_areBeats_199 : decode cL_areBeats 199 = .ok (.if_icmp .ne 31, 3) := by decide +kernel
theorem dL_areBeats_202 : decode cL_areBeats 202 = .ok (.aload_n 0, 1) := by decide +kernel
theorem dL_areBeats_203 : decode cL_areBeats 203 = .ok (.iload 8, 2) := by decide +kernel
theorem dL_areBeats_205 : decode cL_areBeats 205 = .ok (.iload 9, 2) := by decide +kernel
theorem dL_areBeats_207 : decode cL_areBeats 207 = .ok (.invokevirtual 100, 3) := by decide +kernel
theorem dL_areBeats_210 : decode cL_areBeats 210 = .ok (.ifCond .ne 20, 3) := by decide +kernel
theorem dL_areBeats_213 : decode cL_areBeats 213 = .ok (.aload_n 0, 1) := by decide +kernel
theorem dL_areBeats_214 : decode cL_areBeats 214 = .ok (.iload 8, 2) := by decide +kernel
theorem dL_areBeats_216 : decode cL_areBeats 216 = .ok (.iload 8, 2) := by decide +kernel
theorem dL_areBeats_218 : decode cL_areBeats 218 = .ok (.invokevirtual 91, 3) := by decide +kernel
theorem dL_areBeats_221 : decode cL_areBeats 221 = .ok (.iload 11, 2) := by decide +kernel
theorem dL_areBeats_223 : decode cL_areBeats 223 = .ok (.if_icmp .ne 7, 3) := by decide +kernel
theorem dL_areBeats_226 : decode cL_areBeats 226 = .ok (.iconst 1, 1) := by decide +kernel
theorem dL_areBeats_227 : decode cL_areBeats 227 = .ok (.goto 4, 3) := by decide +kernel
theorem dL_areBeats_230 : decode cL_areBeats 230 = .ok (.iconst 0, 1) := by decide +kernel
theorem dL_areBeats_231 : decode cL_areBeats 231 = .ok (.istore 6, 2) := by decide +kernel
theorem dL_areBeats_233 : decode cL_areBeats 233 = .ok (.goto 67, 3) := by decide +kernel
theorem dL_areBeats_236 : decode cL_areBeats 236 = .ok (.iload 10, 2) := by decide +kernel
theorem dL_areBeats_238 : decode cL_areBeats 238 = .ok (.ifCond .eq 62, 3) := by decide +kernel
theorem dL_areBeats_241 : decode cL_areBeats 241 = .ok (.iload 5, 2) := by decide +kernel
theorem dL_areBeats_243 : decode cL_areBeats 243 = .ok (.aload_n 3, 1) := by decide +kernel
theorem dL_areBeats_244 : decode cL_areBeats 244 = .ok (.iload 7, 2) := by decide +kernel
theorem dL_areBeats_246 : decode cL_areBeats 246 = .ok (.iaload, 1) := by decide +kernel
theorem dL_areBeats_247 : decode cL_areBeats 247 = .ok (.isub, 1) := by decide +kernel
theorem dL_areBeats_248 : decode cL_areBeats 248 = .ok (.istore 13, 2) := by decide +kernel
theorem dL_areBeats_250 : decode cL_areBeats 250 = .ok (.iload 6, 2) := by decide +kernel
theorem dL_areBeats_252 : decode cL_areBeats 252 = .ok (.ifCond .eq 45, 3) := by decide +kernel
theorem dL_areBeats_255 : decode cL_areBeats 255 = .ok (.aload_n 0, 1) := by decide +kernel
theorem dL_areBeats_256 : decode cL_areBeats 256 = .ok (.iload 8, 2) := by decide +kernel
theorem dL_areBeats_258 : decode cL_areBeats 258 = .ok (.iload 9, 2) := by decide +kernel
theorem dL_areBeats_260 : decode cL_areBeats 260 = .ok (.invokevirtual 100, 3) := by decide +kernel
theorem dL_areBeats_263 : decode cL_areBeats 263 = .ok (.iload 13, 2) := by decide +kernel
theorem dL_areBeats_265 : decode cL_areBeats 265 = .ok (.aload 4, 2) := by decide +kernel
theorem dL_areBeats_267 : decode cL_areBeats 267 = .ok (.iconst 2, 1) := by decide +kernel
theorem dL_areBeats_268 : decode cL_areBeats 268 = .ok (.iaload, 1) := by decide +kernel
theorem dL_areBeats_269 : decode cL_areBeats 269 = .ok (.if_icmp .le 7, 3) := by decide +kernel
theorem dL_areBeats_272 : decode cL_areBeats 272 = .ok (.iconst 2, 1) := by decide +kernel
theorem dL_areBeats_273 : decode cL_areBeats 273 = .ok (.goto 17, 3) := by decide +kernel
theorem dL_areBeats_276 : decode cL_areBeats 276 = .ok (.iload 13, 2) := by decide +kernel
theorem dL_areBeats_278 : decode cL_areBeats 278 = .ok (.aload 4, 2) := by decide +kernel
theorem dL_areBeats_280 : decode cL_areBeats 280 = .ok (.iconst 1, 1) := by decide +kernel
theorem dL_areBeats_281 : decode cL_areBeats 281 = .ok (.iaload, 1) := by decide +kernel
theorem dL_areBeats_282 : decode cL_areBeats 282 = .ok (.if_icmp .le 7, 3) := by decide +kernel
theorem dL_areBeats_285 : decode cL_areBeats 285 = .ok (.iconst 1, 1) := by decide +kernel
theorem dL_areBeats_286 : decode cL_areBeats 286 = .ok (.goto 4, 3) := by decide +kernel
theorem dL_areBeats_289 : decode cL_areBeats 289 = .ok (.iconst 0, 1) := by decide +kernel
theorem dL_areBeats_290 : decode cL_areBeats 290 = .ok (.if_icmp .ne 7, 3) := by decide +kernel
theorem dL_areBeats_293 : decode cL_areBeats 293 = .ok (.iconst 1, 1) := by decide +kernel
theorem dL_areBeats_294 : decode cL_areBeats 294 = .ok (.goto 4, 3) := by decide +kernel
theorem dL_areBeats_297 : decode cL_areBeats 297 = .ok (.iconst 0, 1) := by decide +kernel
theorem dL_areBeats_298 : decode cL_areBeats 298 = .ok (.istore 6, 2) := by decide +kernel
theorem dL_areBeats_300 : decode cL_areBeats 300 = .ok (.aload_n 0, 1) := by decide +kernel
theorem dL_areBeats_301 : decode cL_areBeats 301 = .ok (.iload 8, 2) := by decide +kernel
theorem dL_areBeats_303 : decode cL_areBeats 303 = .ok (.iload 9, 2) := by decide +kernel
theorem dL_areBeats_305 : decode cL_areBeats 305 = .ok (.invokevirtual 91, 3) := by decide +kernel
theorem dL_areBeats_308 : decode cL_areBeats 308 = .ok (.ifCond .le 7, 3) := by decide +kernel
theorem dL_areBeats_311 : decode cL_areBeats 311 = .ok (.iconst 1, 1) := by decide +kernel
theorem dL_areBeats_312 : decode cL_areBeats 312 = .ok (.goto 4, 3) := by decide +kernel
theorem dL_areBeats_315 : decode cL_areBeats 315 = .ok (.iconst 0, 1) := by decide +kernel
theorem dL_areBeats_316 : decode cL_areBeats 316 = .ok (.istore 13, 2) := by decide +kernel
theorem dL_areBeats_318 : decode cL_areBeats 318 = .ok (.iload 6, 2) := by decide +kernel
theorem dL_areBeats_320 : decode cL_areBeats 320 = .ok (.ifCond .eq 138, 3) := by decide +kernel
theorem dL_areBeats_323 : decode cL_areBeats 323 = .ok (.aload_n 0, 1) := by decide +kernel
theorem dL_areBeats_324 : decode cL_areBeats 324 = .ok (.iload 8, 2) := by decide +kernel
theorem dL_areBeats_326 : decode cL_areBeats 326 = .ok (.iload 9, 2) := by decide +kernel
theorem dL_areBeats_328 : decode cL_areBeats 328 = .ok (.invokevirtual 88, 3) := by decide +kernel
theorem dL_areBeats_331 : decode cL_areBeats 331 = .ok (.ifCond .lt 7, 3) := by decide +kernel
theorem dL_areBeats_334 : decode cL_areBeats 334 = .ok (.iconst 1, 1) := by decide +kernel
theorem dL_areBeats_335 : decode cL_areBeats 335 = .ok (.goto 4, 3) := by decide +kernel
theorem dL_areBeats_338 : decode cL_areBeats 338 = .ok (.iconst 0, 1) := by decide +kernel
theorem dL_areBeats_339 : decode cL_areBeats 339 = .ok (.iload 13, 2) := by decide +kernel
theorem dL_areBeats_341 : decode cL_areBeats 341 = .ok (.if_icmp .ne 117, 3) := by decide +kernel
theorem dL_areBeats_344 : decode cL_areBeats 344 = .ok (.aload_n 0, 1) := by decide +kernel
theorem dL_areBeats_345 : decode cL_areBeats 345 = .ok (.iload 8, 2) := by decide +kernel
theorem dL_areBeats_347 : decode cL_areBeats 347 = .ok (.iload 9, 2) := by decide +kernel
theorem dL_areBeats_349 : decode cL_areBeats 349 = .ok (.invokevirtual 94, 3) := by decide +kernel
theorem dL_areBeats_352 : decode cL_areBeats 352 = .ok (.ifCond .lt 7, 3) := by decide +kernel
theorem dL_areBeats_355 : decode cL_areBeats 355 = .ok (.iconst 1, 1) := by decide +kernel
theorem dL_areBeats_356 : decode cL_areBeats 356 = .ok (.goto 4, 3) := by decide +kernel
theorem dL_areBeats_359 : decode cL_areBeats 359 = .ok (.iconst 0, 1) := by decide +kernel
theorem dL_areBeats_360 : decode cL_areBeats 360 = .ok (.iload 13, 2) := by decide +kernel
theorem dL_areBeats_362 : decode cL_areBeats 362 = .ok (.if_icmp .ne 96, 3) := by decide +kernel
theorem dL_areBeats_365 : decode cL_areBeats 365 = .ok (.aload_n 0, 1) := by decide +kernel
theorem dL_areBeats_366 : decode cL_areBeats 366 = .ok (.iload 8, 2) := by decide +kernel
theorem dL_areBeats_368 : decode cL_areBeats 368 = .ok (.iload 9, 2) := by decide +kernel
theorem dL_areBeats_370 : decode cL_areBeats 370 = .ok (.invokevirtual 94, 3) := by decide +kernel
theorem dL_areBeats_373 : decode cL_areBeats 373 = .ok (.iload 5, 2) := by decide +kernel
theorem dL_areBeats_375 : decode cL_areBeats 375 = .ok (.if_icmp .gt 83, 3) := by decide +kernel
theorem dL_areBeats_378 : decode cL_areBeats 378 = .ok (.aload_n 0, 1) := by decide +kernel
theorem dL_areBeats_379 : decode cL_areBeats 379 = .ok (.iload 8, 2) := by decide +kernel
theorem dL_areBeats_381 : decode cL_areBeats 381 = .ok (.iload 9, 2) := by decide +kernel
theorem dL_areBeats_383 : decode cL_areBeats 383 = .ok (.invokevirtual 91, 3) := by decide +kernel
theorem dL_areBeats_386 : decode cL_areBeats 386 = .ok (.aload_n 0, 1) := by decide +kernel
theorem dL_areBeats_387 : decode cL_areBeats 387 = .ok (.iload 9, 2) := by decide +kernel
theorem dL_areBeats_389 : decode cL_areBeats 389 = .ok (.iload 9, 2) := by decide +kernel
theorem dL_areBeats_391 : decode cL_areBeats 391 = .ok (.invokevirtual 91, 3) := by decide +kernel
theorem dL_areBeats_394 : decode cL_areBeats 394 = .ok (.if_icmp .gt 64, 3) := by decide +kernel
theorem dL_areBeats_397 : decode cL_areBeats 397 = .ok (.aload_n 0, 1) := by decide +kernel
theorem dL_areBeats_398 : decode cL_areBeats 398 = .ok (.iload 8, 2) := by decide +kernel
theorem dL_areBeats_400 : decode cL_areBeats 400 = .ok (.iload 9, 2) := by decide +kernel
theorem dL_areBeats_402 : decode cL_areBeats 402 = .ok (.invokevirtual 91, 3) := by decide +kernel
theorem dL_areBeats_405 : decode cL_areBeats 405 = .ok (.aload_n 0, 1) := by decide +kernel
theorem dL_areBeats_406 : decode cL_areBeats 406 = .ok (.iload 9, 2) := by decide +kernel
theorem dL_areBeats_408 : decode cL_areBeats 408 = .ok (.iload 9, 2) := by decide +kernel
theorem dL_areBeats_410 : decode cL_areBeats 410 = .ok (.invokevirtual 91, 3) := by decide +kernel
theorem dL_areBeats_413 : decode cL_areBeats 413 = .ok (.if_icmp .ne 41, 3) := by decide +kernel
theorem dL_areBeats_416 : decode cL_areBeats 416 = .ok (.aload_n 0, 1) := by decide +kernel
theorem dL_areBeats_417 : decode cL_areBeats 417 = .ok (.iload 8, 2) := by decide +kernel
theorem dL_areBeats_419 : decode cL_areBeats 419 = .ok (.iload 9, 2) := by decide +kernel
theorem dL_areBeats_421 : decode cL_areBeats 421 = .ok (.invokevirtual 88, 3) := by decide +kernel
theorem dL_areBeats_424 : decode cL_areBeats 424 = .ok (.aload_n 0, 1) := by decide +kernel
theorem dL_areBeats_425 : decode cL_areBeats 425 = .ok (.iload 9, 2) := by decide +kernel
theorem dL_areBeats_427 : decode cL_areBeats 427 = .ok (.iload 9, 2) := by decide +kernel
theorem dL_areBeats_429 : decode cL_areBeats 429 = .ok (.invokevirtual 88, 3) := by decide +kernel
theorem dL_areBeats_432 : decode cL_areBeats 432 = .ok (.if_icmp .ne 26, 3) := by decide +kernel
theorem dL_areBeats_435 : decode cL_areBeats 435 = .ok (.aload_n 0, 1) := by decide +kernel
theorem dL_areBeats_436 : decode cL_areBeats 436 = .ok (.iload 8, 2) := by decide +kernel
theorem dL_areBeats_438 : decode cL_areBeats 438 = .ok (.iload 9, 2) := by decide +kernel
theorem dL_areBeats_440 : decode cL_areBeats 440 = .ok (.invokevirtual 94, 3) := by decide +kernel
theorem dL_areBeats_443 : decode cL_areBeats 443 = .ok (.aload_n 0, 1) := by decide +kernel
theorem dL_areBeats_444 : decode cL_areBeats 444 = .ok (.iload 9, 2) := by decide +kernel
theorem dL_areBeats_446 : decode cL_areBeats 446 = .ok (.iload 9, 2) := by decide +kernel
theorem dL_areBeats_448 : decode cL_areBeats 448 = .ok (.invokevirtual 94, 3) := by decide +kernel
theorem dL_areBeats_451 : decode cL_areBeats 451 = .ok (.if_icmp .ne 7, 3) := by decide +kernel
theorem dL_areBeats_454 : decode cL_areBeats 454 = .ok (.iconst 1, 1) := by decide +kernel
theorem dL_areBeats_455 : decode cL_areBeats 455 = .ok (.goto 4, 3) := by decide +kernel
theorem dL_areBeats_458 : decode cL_areBeats 458 = .ok (.iconst 0, 1) := by decide +kernel
theorem dL_areBeats_459 : decode cL_areBeats 459 = .ok (.istore 6, 2) := by decide +kernel
theorem dL_areBeats_461 : decode cL_areBeats 461 = .ok (.iinc 7 1, 3) := by decide +kernel
theorem dL_areBeats_464 : decode cL_areBeats 464 = .ok (.goto (-452), 3) := by decide +kernel
theorem dL_areBeats_467 : decode cL_areBeats 467 = .ok (.iload 6, 2) := by decide +kernel
theorem dL_areBeats_469 : decode cL_areBeats 469 = .ok (.ireturn, 1) := by decide +kernel
set_option maxRecDepth 20000 in
theorem ggL_areGates_X3_believed : GoodIn wsL_areGates wsX3_believed := goodIn_ca (goodIn_r _ [5, 6, 7, 8, 9, 4, 10, 11, 12, 13, 14, 15, 16, 17, 18, 19, 20, 21, 39, 40, 41, 42, 43, 44, 45, 46, 47, 48, 49, 50, 51, 52, 53, 54] (by decide +kernel) (by decide +kernel)) (goodIn_sub (fun _ h => List.mem_cons_of_mem _ (List.mem_append_right _ h)) (by decide +kernel))
set_option maxRecDepth 20000 in
theorem gL_areGates_X3_believed : GoodIn wsL_areGates (wsV RL 88 RX3 yX3_believed wsX3_believed) := goodIn_app (goodIn_of _ (by decide +kernel)) ggL_areGates_X3_believed
set_option maxRecDepth 20000 in
theorem ggL_areGates_X3_age : GoodIn wsL_areGates wsX3_age := goodIn_ca (goodIn_r _ [25, 6, 26, 27, 8, 9, 4, 10, 11, 12, 13, 14, 15, 16, 17, 18, 19, 20, 21, 39, 40, 41, 42, 43, 44, 45, 46, 47, 48, 49, 50, 51, 52, 53, 54] (by decide +kernel) (by decide +kernel)) (goodIn_sub (fun _ h => List.mem_cons_of_mem _ (List.mem_append_right _ h)) (by decide +kernel))
set_option maxRecDepth 20000 in
theorem gL_areGates_X3_age : GoodIn wsL_areGates (wsV RL 94 RX3 yX3_age wsX3_age) := goodIn_app (goodIn_of _ (by decide +kernel)) ggL_areGates_X3_age
set_option maxRecDepth 20000 in
theorem ggL_areGates_X3_opening : GoodIn wsL_areGates wsX3_opening := goodIn_ca (goodIn_r _ [31, 32, 33, 8, 9, 4, 10, 11, 12, 13, 14, 15, 39, 40, 41, 42, 55, 56, 57, 58, 59, 60, 61, 62] (by decide +kernel) (by decide +kernel)) (goodIn_sub (fun _ h => List.mem_cons_of_mem _ (List.mem_append_right _ h)) (by decide +kernel))
set_option maxRecDepth 20000 in
theorem gL_areGates_X3_opening : GoodIn wsL_areGates (wsV RL 73 RX3 yX3_opening wsX3_opening) := goodIn_app (goodIn_of _ (by decide +kernel)) ggL_areGates_X3_opening
set_option maxRecDepth 20000 in
theorem ggL_areGates_X3_safety : GoodIn wsL_areGates wsX3_safety := goodIn_ca (goodIn_r _ [37, 32, 38, 8, 9, 4, 10, 11, 12, 13, 14, 15, 39, 40, 41, 42, 55, 56, 57, 58, 59, 60, 61, 62] (by decide +kernel) (by decide +kernel)) (goodIn_sub (fun _ h => List.mem_cons_of_mem _ (List.mem_append_right _ h)) (by decide +kernel))
set_option maxRecDepth 20000 in
theorem gL_areGates_X3_safety : GoodIn wsL_areGates (wsV RL 76 RX3 yX3_safety wsX3_safety) := goodIn_app (goodIn_of _ (by decide +kernel)) ggL_areGates_X3_safety
theorem dL_areGates_0 : decode cL_areGates 0 = .ok (.iconst 1, 1) := by decide +kernel
theorem dL_areGates_1 : decode cL_areGates 1 = .ok (.istore 4, 2) := by decide +kernel
theorem dL_areGates_3 : decode cL_areGates 3 = .ok (.iconst 0, 1) := by decide +kernel
theorem dL_areGates_4 : decode cL_areGates 4 = .ok (.istore 5, 2) := by decide +kernel
theorem dL_areGates_6 : decode cL_areGates 6 = .ok (.iload 5, 2) := by decide +kernel
theorem dL_areGates_8 : decode cL_areGates 8 = .ok (.bipush 8, 2) := by decide +kernel
theorem dL_areGates_10 : decode cL_areGates 10 = .ok (.if_icmp .ge 306, 3) := by decide +kernel
theorem dL_areGates_13 : decode cL_areGates 13 = .ok (.iload 4, 2) := by decide +kernel
theorem dL_areGates_15 : decode cL_areGates 15 = .ok (.ifCond .eq 301, 3) := by decide +kernel
theorem dL_areGates_18 : decode cL_areGates 18 = .ok (.aload_n 2, 1) := by decide +kernel
theorem dL_areGates_19 : decode cL_areGates 19 = .ok (.bipush 8, 2) := by decide +kernel
theorem dL_areGates_21 : decode cL_areGates 21 = .ok (.iload 5, 2) := by decide +kernel
theorem dL_areGates_23 : decode cL_areGates 23 = .ok (.imul, 1) := by decide +kernel
theorem dL_areGates_24 : decode cL_areGates 24 = .ok (.bipush 7, 2) := by decide +kernel
theorem dL_areGates_26 : decode cL_areGates 26 = .ok (.iadd, 1) := by decide +kernel
theorem dL_areGates_27 : decode cL_areGates 27 = .ok (.iaload, 1) := by decide +kernel
theorem dL_areGates_28 : decode cL_areGates 28 = .ok (.istore 6, 2) := by decide +kernel
theorem dL_areGates_30 : decode cL_areGates 30 = .ok (.iload 6, 2) := by decide +kernel
theorem dL_areGates_32 : decode cL_areGates 32 = .ok (.istore 7, 2) := by decide +kernel
theorem dL_areGates_34 : decode cL_areGates 34 = .ok (.aload_n 2, 1) := by decide +kernel
theorem dL_areGates_35 : decode cL_areGates 35 = .ok (.bipush 8, 2) := by decide +kernel
theorem dL_areGates_37 : decode cL_areGates 37 = .ok (.iload 5, 2) := by decide +kernel
theorem dL_areGates_39 : decode cL_areGates 39 = .ok (.imul, 1) := by decide +kernel
theorem dL_areGates_40 : decode cL_areGates 40 = .ok (.iaload, 1) := by decide +kernel
theorem dL_areGates_41 : decode cL_areGates 41 = .ok (.ifCond .ne 19, 3) := by decide +kernel
theorem dL_areGates_44 : decode cL_areGates 44 = .ok (.aload_n 2, 1) := by decide +kernel
theorem dL_areGates_45 : decode cL_areGates 45 = .ok (.bipush 8, 2) := by decide +kernel
theorem dL_areGates_47 : decode cL_areGates 47 = .ok (.iload 5, 2) := by decide +kernel
theorem dL_areGates_49 : decode cL_areGates 49 = .ok (.imul, 1) := by decide +kernel
theorem dL_areGates_50 : decode cL_areGates 50 = .ok (.iconst 1, 1) := by decide +kernel
theorem dL_areGates_51 : decode cL_areGates 51 = .ok (.iadd, 1) := by decide +kernel
theorem dL_areGates_52 : decode cL_areGates 52 = .ok (.iaload, 1) := by decide +kernel
theorem dL_areGates_53 : decode cL_areGates 53 = .ok (.ifCond .ne 7, 3) := by decide +kernel
theorem dL_areGates_56 : decode cL_areGates 56 = .ok (.iconst 1, 1) := by decide +kernel
theorem dL_areGates_57 : decode cL_areGates 57 = .ok (.goto 4, 3) := by decide +kernel
theorem dL_areGates_60 : decode cL_areGates 60 = .ok (.iconst 0, 1) := by decide +kernel
theorem dL_areGates_61 : decode cL_areGates 61 = .ok (.istore 8, 2) := by decide +kernel
theorem dL_areGates_63 : decode cL_areGates 63 = .ok (.iload 5, 2) := by decide +kernel
theorem dL_areGates_65 : decode cL_areGates 65 = .ok (.bipush 7, 2) := by decide +kernel
theorem dL_areGates_67 : decode cL_areGates 67 = .ok (.if_icmp .ge 54, 3) := by decide +kernel
theorem dL_areGates_70 : decode cL_areGates 70 = .ok (.aload_n 0, 1) := by decide +kernel
theorem dL_areGates_71 : decode cL_areGates 71 = .ok (.iload 5, 2) := by decide +kernel
theorem dL_areGates_73 : decode cL_areGates 73 = .ok (.iload 5, 2) := by decide +kernel
theorem dL_areGates_75 : decode cL_areGates 75 = .ok (.bipush 7, 2) := by decide +kernel
theorem dL_areGates_77 : decode cL_areGates 77 = .ok (.if_icmp .ge 10, 3) := by decide +kernel
theorem dL_areGates_80 : decode cL_areGates 80 = .ok (.iload 5, 2) := by decide +kernel
theorem dL_areGates_82 : decode cL_areGates 82 = .ok (.iconst 1, 1) := by decide +kernel
theorem dL_areGates_83 : decode cL_areGates 83 = .ok (.iadd, 1) := by decide +kernel
theorem dL_areGates_84 : decode cL_areGates 84 = .ok (.goto 4, 3) := by decide +kernel
theorem dL_areGates_87 : decode cL_areGates 87 = .ok (.iconst 0, 1) := by decide +kernel
theorem dL_areGates_88 : decode cL_areGates 88 = .ok (.invokevirtual 88, 3) := by decide +kernel
theorem dL_areGates_91 : decode cL_areGates 91 = .ok (.ifCond .lt 26, 3) := by decide +kernel
theorem dL_areGates_94 : decode cL_areGates 94 = .ok (.aload_n 0, 1) := by decide +kernel
theorem dL_areGates_95 : decode cL_areGates 95 = .ok (.iload 5, 2) := by decide +kernel
theorem dL_areGates_97 : decode cL_areGates 97 = .ok (.iload 5, 2) := by decide +kernel
theorem dL_areGates_99 : decode cL_areGates 99 = .ok (.iconst 1, 1) := by decide +kernel
theorem dL_areGates_100 : decode cL_areGates 100 = .ok (.iadd, 1) := by decide +kernel
theorem dL_areGates_101 : decode cL_areGates 101 = .ok (.invokevirtual 94, 3) := by decide +kernel
theorem dL_areGates_104 : decode cL_areGates 104 = .ok (.aload_n 1, 1) := by decide +kernel
theorem dL_areGates_105 : decode cL_areGates 105 = .ok (.bipush 8, 2) := by decide +kernel
theorem dL_areGates_107 : decode cL_areGates 107 = .ok (.iload 5, 2) := by decide +kernel
theorem dL_areGates_109 : decode cL_areGates 109 = .ok (.imul, 1) := by decide +kernel
theorem dL_areGates_110 : decode cL_areGates 110 = .ok (.bipush 7, 2) := by decide +kernel
theorem dL_areGates_112 : decode cL_areGates 112 = .ok (.iadd, 1) := by decide +kernel
theorem dL_areGates_113 : decode cL_areGates 113 = .ok (.iaload, 1) := by decide +kernel
theorem dL_areGates_114 : decode cL_areGates 114 = .ok (.if_icmp .le 7, 3) := by decide +kernel
theorem dL_areGates_117 : decode cL_areGates 117 = .ok (.iconst 1, 1) := by decide +kernel
theorem dL_areGates_118 : decode cL_areGates 118 = .ok (.goto 4, 3) := by decide +kernel
theorem dL_areGates_121 : decode cL_areGates 121 = .ok (.iconst 0, 1) := by decide +kernel
theorem dL_areGates_122 : decode cL_areGates 122 = .ok (.istore 9, 2) := by decide +kernel
theorem dL_areGates_124 : decode cL_areGates 124 = .ok (.iload 8, 2) := by decide +kernel
theorem dL_areGates_126 : decode cL_areGates 126 = .ok (.ifCond .eq 37, 3) := by decide +kernel
theorem dL_areGates_129 : decode cL_areGates 129 = .ok (.iload 9, 2) := by decide +kernel
theorem dL_areGates_131 : decode cL_areGates 131 = .ok (.ifCond .eq 32, 3) := by decide +kernel
theorem dL_areGates_134 : decode cL_areGates 134 = .ok (.iload 6, 2) := by decide +kernel
theorem dL_areGates_136 : decode cL_areGates 136 = .ok (.bipush 8, 2) := by decide +kernel
theorem dL_areGates_138 : decode cL_areGates 138 = .ok (.if_icmp .le 8, 3) := by decide +kernel
theorem dL_areGates_141 : decode cL_areGates 141 = .ok (.bipush 10, 2) := by decide +kernel
theorem dL_areGates_143 : decode cL_areGates 143 = .ok (.goto 7, 3) := by decide +kernel
theorem dL_areGates_146 : decode cL_areGates 146 = .ok (.iload 6, 2) := by decide +kernel
theorem dL_areGates_148 : decode cL_areGates 148 = .ok (.iconst 2, 1) := by decide +kernel
theorem dL_areGates_149 : decode cL_areGates 149 = .ok (.iadd, 1) := by decide +kernel
theorem dL_areGates_150 : decode cL_areGates 150 = .ok (.istore 7, 2) := by decide +kernel
theorem dL_areGates_152 : decode cL_areGates 152 = .ok (.aload_n 3, 1) := by decide +kernel
theorem dL_areGates_153 : decode cL_areGates 153 = .ok (.iload 5, 2) := by decide +kernel
theorem dL_areGates_155 : decode cL_areGates 155 = .ok (.dup2, 1) := by decide +kernel
theorem dL_areGates_156 : decode cL_areGates 156 = .ok (.iaload, 1) := by decide +kernel
theorem dL_areGates_157 : decode cL_areGates 157 = .ok (.iconst 1, 1) := by decide +kernel
theorem dL_areGates_158 : decode cL_areGates 158 = .ok (.iadd, 1) := by decide +kernel
theorem dL_areGates_159 : decode cL_areGates 159 = .ok (.iastore, 1) := by decide +kernel
theorem dL_areGates_160 : decode cL_areGates 160 = .ok (.goto 119, 3) := by decide +kernel
theorem dL_areGates_163 : decode cL_areGates 163 = .ok (.iload 8, 2) := by decide +kernel
theorem dL_areGates_165 : decode cL_areGates 165 = .ok (.ifCond .eq 74, 3) := by decide +kernel
theorem dL_areGates_168 : decode cL_areGates 168 = .ok (.aload_n 0, 1) := by decide +kernel
theorem dL_areGates_169 : decode cL_areGates 169 = .ok (.iload 5, 2) := by decide +kernel
theorem dL_areGates_171 : decode cL_areGates 171 = .ok (.iload 5, 2) := by decide +kernel
theorem dL_areGates_173 : decode cL_areGates 173 = .ok (.invokevirtual 88, 3) := by decide +kernel
theorem dL_areGates_176 : decode cL_areGates 176 = .ok (.aload_n 1, 1) := by decide +kernel
theorem dL_areGates_177 : decode cL_areGates 177 = .ok (.bipush 8, 2) := by decide +kernel
theorem dL_areGates_179 : decode cL_areGates 179 = .ok (.iload 5, 2) := by decide +kernel
theorem dL_areGates_181 : decode cL_areGates 181 = .ok (.imul, 1) := by decide +kernel
theorem dL_areGates_182 : decode cL_areGates 182 = .ok (.iconst 5, 1) := by decide +kernel
theorem dL_areGates_183 : decode cL_areGates 183 = .ok (.iadd, 1) := by decide +kernel
theorem dL_areGates_184 : decode cL_areGates 184 = .ok (.iaload, 1) := by decide +kernel
theorem dL_areGates_185 : decode cL_areGates 185 = .ok (.if_icmp .le 54, 3) := by decide +kernel
theorem dL_areGates_188 : decode cL_areGates 188 = .ok (.iload 5, 2) := by decide +kernel
theorem dL_areGates_190 : decode cL_areGates 190 = .ok (.bipush 7, 2) := by decide +kernel
theorem dL_areGates_192 : decode cL_areGates 192 = .ok (.if_icmp .eq 26, 3) := by decide +kernel
theorem dL_areGates_195 : decode cL_areGates 195 = .ok (.aload_n 0, 1) := by decide +kernel
theorem dL_areGates_196 : decode cL_areGates 196 = .ok (.iload 5, 2) := by decide +kernel
theorem dL_areGates_198 : decode cL_areGates 198 = .ok (.iload 5, 2) := by decide +kernel
theorem dL_areGates_200 : decode cL_areGates 200 = .ok (.iconst 1, 1) := by decide +kernel
theorem dL_areGates_201 : decode cL_areGates 201 = .ok (.iadd, 1) := by decide +kernel
theorem dL_areGates_202 : decode cL_areGates 202 = .ok (.invokevirtual 88, 3) := by decide +kernel
theorem dL_areGates_205 : decode cL_areGates 205 = .ok (.aload_n 1, 1) := by decide +kernel
theorem dL_areGates_206 : decode cL_areGates 206 = .ok (.bipush 8, 2) := by decide +kernel
theorem dL_areGates_208 : decode cL_areGates 208 = .ok (.iload 5, 2) := by decide +kernel
theorem dL_areGates_210 : decode cL_areGates 210 = .ok (.imul, 1) := by decide +kernel
theorem dL_areGates_211 : decode cL_areGates 211 = .ok (.bipush 6, 2) := by decide +kernel
theorem dL_areGates_213 : decode cL_areGates 213 = .ok (.iadd, 1) := by decide +kernel
theorem dL_areGates_214 : decode cL_areGates 214 = .ok (.iaload, 1) := by decide +kernel
theorem dL_areGates_215 : decode cL_areGates 215 = .ok (.if_icmp .ge 24, 3) := by decide +kernel
theorem dL_areGates_218 : decode cL_areGates 218 = .ok (.iload 6, 2) := by decide +kernel
theorem dL_areGates_220 : decode cL_areGates 220 = .ok (.bipush 10, 2) := by decide +kernel
theorem dL_areGates_222 : decode cL_areGates 222 = .ok (.if_icmp .ge 10, 3) := by decide +kernel
theorem dL_areGates_225 : decode cL_areGates 225 = .ok (.iload 6, 2) := by decide +kernel
theorem dL_areGates_227 : decode cL_areGates 227 = .ok (.iconst 1, 1) := by decide +kernel
theorem dL_areGates_228 : decode cL_areGates 228 = .ok (.iadd, 1) := by decide +kernel
theorem dL_areGates_229 : decode cL_areGates 229 = .ok (.goto 5, 3) := by decide +kernel
theorem dL_areGates_232 : decode cL_areGates 232 = .ok (.bipush 10, 2) := by decide +kernel
theorem dL_areGates_234 : decode cL_areGates 234 = .ok (.istore 7, 2) := by decide +kernel
theorem dL_areGates_236 : decode cL_areGates 236 = .ok (.goto 43, 3) := by decide +kernel
theorem dL_areGates_239 : decode cL_areGates 239 = .ok (.iload 8, 2) := by decide +kernel
theorem dL_areGates_241 : decode cL_areGates 241 = .ok (.ifCond .eq 38, 3) := by decide +kernel
theorem dL_areGates_244 : decode cL_areGates 244 = .ok (.aload_n 0, 1) := by decide +kernel
theorem dL_areGates_245 : decode cL_areGates 245 = .ok (.iload 5, 2) := by decide +kernel
theorem dL_areGates_247 : decode cL_areGates 247 = .ok (.iload 5, 2) := by decide +kernel
theorem dL_areGates_249 : decode cL_areGates 249 = .ok (.invokevirtual 88, 3) := by decide +kernel
theorem dL_areGates_252 : decode cL_areGates 252 = .ok (.aload_n 1, 1) := by decide +kernel
theorem dL_areGates_253 : decode cL_areGates 253 = .ok (.bipush 8, 2) := by decide +kernel
theorem dL_areGates_255 : decode cL_areGates 255 = .ok (.iload 5, 2) := by decide +kernel
theorem dL_areGates_257 : decode cL_areGates 257 = .ok (.imul, 1) := by decide +kernel
theorem dL_areGates_258 : decode cL_areGates 258 = .ok (.iconst 4, 1) := by decide +kernel
theorem dL_areGates_259 : decode cL_areGates 259 = .ok (.iadd, 1) := by decide +kernel
theorem dL_areGates_260 : decode cL_areGates 260 = .ok (.iaload, 1) := by decide +kernel
theorem dL_areGates_261 : decode cL_areGates 261 = .ok (.if_icmp .ge 18, 3) := by decide +kernel
theorem dL_areGates_264 : decode cL_areGates 264 = .ok (.iload 6, 2) := by decide +kernel
theorem dL_areGates_266 : decode cL_areGates 266 = .ok (.ifCond .le 10, 3) := by decide +kernel
theorem dL_areGates_269 : decode cL_areGates 269 = .ok (.iload 6, 2) := by decide +kernel
theorem dL_areGates_271 : decode cL_areGates 271 = .ok (.iconst 1, 1) := by decide +kernel
theorem dL_areGates_272 : decode cL_areGates 272 = .ok (.isub, 1) := by decide +kernel
theorem dL_areGates_273 : decode cL_areGates 273 = .ok (.goto 4, 3) := by decide +kernel
theorem dL_areGates_276 : decode cL_areGates 276 = .ok (.iconst 0, 1) := by decide +kernel
theorem dL_areGates_277 : decode cL_areGates 277 = .ok (.istore 7, 2) := by decide +kernel
theorem dL_areGates_279 : decode cL_areGates 279 = .ok (.aload_n 0, 1) := by decide +kernel
theorem dL_areGates_280 : decode cL_areGates 280 = .ok (.iload 5, 2) := by decide +kernel
theorem dL_areGates_282 : decode cL_areGates 282 = .ok (.invokevirtual 73, 3) := by decide +kernel
theorem dL_areGates_285 : decode cL_areGates 285 = .ok (.iload 7, 2) := by decide +kernel
theorem dL_areGates_287 : decode cL_areGates 287 = .ok (.if_icmp .ne 20, 3) := by decide +kernel
theorem dL_areGates_290 : decode cL_areGates 290 = .ok (.aload_n 0, 1) := by decide +kernel
theorem dL_areGates_291 : decode cL_areGates 291 = .ok (.iload 5, 2) := by decide +kernel
theorem dL_areGates_293 : decode cL_areGates 293 = .ok (.invokevirtual 76, 3) := by decide +kernel
theorem dL_areGates_296 : decode cL_areGates 296 = .ok (.aload_n 3, 1) := by decide +kernel
theorem dL_areGates_297 : decode cL_areGates 297 = .ok (.iload 5, 2) := by decide +kernel
theorem dL_areGates_299 : decode cL_areGates 299 = .ok (.iaload, 1) := by decide +kernel
theorem dL_areGates_300 : decode cL_areGates 300 = .ok (.if_icmp .ne 7, 3) := by decide +kernel
theorem dL_areGates_303 : decode cL_areGates 303 = .ok (.iconst 1, 1) := by decide +kernel
theorem dL_areGates_304 : decode cL_areGates 304 = .ok (.goto 4, 3) := by decide +kernel
theorem dL_areGates_307 : decode cL_areGates 307 = .ok (.iconst 0, 1) := by decide +kernel
theorem dL_areGates_308 : decode cL_areGates 308 = .ok (.istore 4, 2) := by decide +kernel
theorem dL_areGates_310 : decode cL_areGates 310 = .ok (.iinc 5 1, 3) := by decide +kernel
theorem dL_areGates_313 : decode cL_areGates 313 = .ok (.goto (-307), 3) := by decide +kernel
theorem dL_areGates_316 : decode cL_areGates 316 = .ok (.iload 4, 2) := by decide +kernel
theorem dL_areGates_318 : decode cL_areGates 318 = .ok (.ireturn, 1) := by decide +kernel
set_option maxRecDepth 20000 in
theorem ggL_areMembers_X3_believed : GoodIn wsL_areMembers wsX3_believed := goodIn_ca (goodIn_r _ [5, 6, 7, 8, 9, 4, 10, 11, 12, 13, 14, 15, 16, 17, 18, 19, 20, 21, 102, 103, 104, 105, 106, 107, 108, 109, 110, 111, 112, 113, 114, 115, 116, 117] (by decide +kernel) (by decide +kernel)) (goodIn_sub (fun _ h => List.mem_cons_of_mem _ (List.mem_append_right _ h)) (by decide +kernel))
set_option maxRecDepth 20000 in
theorem gL_areMembers_X3_believed : GoodIn wsL_areMembers (wsV RL 88 RX3 yX3_believed wsX3_believed) := goodIn_app (goodIn_of _ (by decide +kernel)) ggL_areMembers_X3_believed
set_option maxRecDepth 20000 in
theorem ggL_areMembers_X3_level : GoodIn wsL_areMembers wsX3_level := goodIn_ca (goodIn_r _ [25, 26, 8, 9, 4, 10, 11, 12, 13, 14, 15, 27, 28, 29, 30, 31, 32, 33, 102, 103, 104, 105, 118, 119, 120, 121, 122, 123, 124, 125] (by decide +kernel) (by decide +kernel)) (goodIn_sub (fun _ h => List.mem_cons_of_mem _ (List.mem_append_right _ h)) (by decide +kernel))
set_option maxRecDepth 20000 in
theorem gL_areMembers_X3_level : GoodIn wsL_areMembers (wsV RL 64 RX3 yX3_level wsX3_level) := goodIn_app (goodIn_of _ (by decide +kernel)) ggL_areMembers_X3_level
set_option maxRecDepth 20000 in
theorem ggL_areMembers_X3_version : GoodIn wsL_areMembers wsX3_version := goodIn_ca (goodIn_r _ [37, 6, 38, 8, 9, 4, 10, 11, 12, 13, 14, 15, 102, 103, 104, 105, 106, 107, 108, 109, 110, 111, 112, 113, 114, 115, 116, 117] (by decide +kernel) (by decide +kernel)) (goodIn_sub (fun _ h => List.mem_cons_of_mem _ (List.mem_append_right _ h)) (by decide +kernel))
set_option maxRecDepth 20000 in
theorem gL_areMembers_X3_version : GoodIn wsL_areMembers (wsV RL 91 RX3 yX3_version wsX3_version) := goodIn_app (goodIn_of _ (by decide +kernel)) ggL_areMembers_X3_version
set_option maxRecDepth 20000 in
theorem ggL_areMembers_X3_status : GoodIn wsL_areMembers wsX3_status := goodIn_ca (goodIn_r _ [42, 6, 43, 8, 9, 4, 10, 11, 12, 13, 14, 15, 102, 103, 104, 105, 106, 107, 108, 109, 110, 111, 112, 113, 114, 115, 116, 117] (by decide +kernel) (by decide +kernel)) (goodIn_sub (fun _ h => List.mem_cons_of_mem _ (List.mem_append_right _ h)) (by decide +kernel))
set_option maxRecDepth 20000 in
theorem gL_areMembers_X3_status : GoodIn wsL_areMembers (wsV RL 100 RX3 yX3_status wsX3_status) := goodIn_app (goodIn_of _ (by decide +kernel)) ggL_areMembers_X3_status
set_option maxRecDepth 20000 in
theorem ggL_areMembers_X3_partner : GoodIn wsL_areMembers wsX3_partner := goodIn_ca (goodIn_r _ [47, 6, 48, 49, 8, 9, 4, 10, 11, 12, 13, 14, 15, 50, 51, 52, 19, 53, 54, 55, 56, 57, 58, 102, 103, 104, 105, 106, 107, 108, 109, 110, 111, 112, 113, 114, 115, 116, 117] (by decide +kernel) (by decide +kernel)) (goodIn_sub (fun _ h => List.mem_cons_of_mem _ (List.mem_append_right _ h)) (by decide +kernel))
set_option maxRecDepth 20000 in
theorem gL_areMembers_X3_partner : GoodIn wsL_areMembers (wsV RL 79 RX3 yX3_partner wsX3_partner) := goodIn_app (goodIn_of _ (by decide +kernel)) ggL_areMembers_X3_partner
set_option maxRecDepth 20000 in
theorem ggL_areMembers_X3_agree : GoodIn wsL_areMembers wsX3_agree := goodIn_ca (goodIn_r _ [62, 6, 26, 8, 9, 4, 10, 11, 12, 13, 14, 15, 27, 28, 29, 30, 31, 32, 33, 63, 64, 65, 19, 66, 67, 68, 69, 17, 18, 20, 21, 102, 103, 104, 105, 118, 119, 120, 121, 122, 123, 124, 125, 106, 107, 108, 109, 110, 111, 112, 113, 114, 115, 116, 117] (by decide +kernel) (by decide +kernel)) (goodIn_sub (fun _ h => List.mem_cons_of_mem _ (List.mem_append_right _ h)) (by decide +kernel))
set_option maxRecDepth 20000 in
theorem gL_areMembers_X3_agree : GoodIn wsL_areMembers (wsV RL 85 RX3 yX3_agree wsX3_agree) := goodIn_app (goodIn_of _ (by decide +kernel)) ggL_areMembers_X3_agree
set_option maxRecDepth 20000 in
theorem ggL_areMembers_X3_freshest : GoodIn wsL_areMembers wsX3_freshest := goodIn_ca (goodIn_r _ [73, 6, 8, 9, 4, 10, 11, 12, 13, 14, 15, 74, 75, 76, 19, 77, 21, 102, 103, 104, 105, 106, 107, 108, 109, 110, 111, 112, 113, 114, 115, 116, 117] (by decide +kernel) (by decide +kernel)) (goodIn_sub (fun _ h => List.mem_cons_of_mem _ (List.mem_append_right _ h)) (by decide +kernel))
set_option maxRecDepth 20000 in
theorem gL_areMembers_X3_freshest : GoodIn wsL_areMembers (wsV RL 82 RX3 yX3_freshest wsX3_freshest) := goodIn_app (goodIn_of _ (by decide +kernel)) ggL_areMembers_X3_freshest
set_option maxRecDepth 20000 in
theorem ggL_areMembers_X3_time : GoodIn wsL_areMembers wsX3_time := goodIn_r _ [81, 49, 102, 103, 104, 105] (by decide +kernel) (by decide +kernel)
set_option maxRecDepth 20000 in
theorem gL_areMembers_X3_time : GoodIn wsL_areMembers (wsV RL 103 RX3 yX3_time wsX3_time) := goodIn_app (goodIn_of _ (by decide +kernel)) ggL_areMembers_X3_time
set_option maxRecDepth 20000 in
theorem ggL_areMembers_X3_unnoticed : GoodIn wsL_areMembers wsX3_unnoticed := goodIn_r _ [85, 6, 86, 87, 88, 19, 89, 67, 90, 91, 92, 93, 58, 102, 103, 104, 105, 106, 107, 108, 109, 110, 111, 112, 113, 114, 115, 116, 117] (by decide +kernel) (by decide +kernel)
set_option maxRecDepth 20000 in
theorem gL_areMembers_X3_unnoticed : GoodIn wsL_areMembers (wsV RL 114 RX3 yX3_unnoticed wsX3_unnoticed) := goodIn_app (goodIn_of _ (by decide +kernel)) ggL_areMembers_X3_unnoticed
set_option maxRecDepth 20000 in
theorem ggL_areMembers_X3_mistaken : GoodIn wsL_areMembers wsX3_mistaken := goodIn_r _ [97, 6, 98, 99, 100, 19, 101, 67, 90, 91, 92, 93, 58, 102, 103, 104, 105, 106, 107, 108, 109, 110, 111, 112, 113, 114, 115, 116, 117] (by decide +kernel) (by decide +kernel)
set_option maxRecDepth 20000 in
theorem gL_areMembers_X3_mistaken : GoodIn wsL_areMembers (wsV RL 119 RX3 yX3_mistaken wsX3_mistaken) := goodIn_app (goodIn_of _ (by decide +kernel)) ggL_areMembers_X3_mistaken
theorem dL_areMembers_0 : decode cL_areMembers 0 = .ok (.iconst 0, 1) := by decide +kernel
theorem dL_areMembers_1 : decode cL_areMembers 1 = .ok (.istore_n 2, 1) := by decide +kernel
theorem dL_areMembers_2 : decode cL_areMembers 2 = .ok (.iconst 0, 1) := by decide +kernel
theorem dL_areMembers_3 : decode cL_areMembers 3 = .ok (.istore_n 3, 1) := by decide +kernel
theorem dL_areMembers_4 : decode cL_areMembers 4 = .ok (.iconst 1, 1) := by decide +kernel
theorem dL_areMembers_5 : decode cL_areMembers 5 = .ok (.istore 4, 2) := by decide +kernel
theorem dL_areMembers_7 : decode cL_areMembers 7 = .ok (.iconst 0, 1) := by decide +kernel
theorem dL_areMembers_8 : decode cL_areMembers 8 = .ok (.istore 5, 2) := by decide +kernel
theorem dL_areMembers_10 : decode cL_areMembers 10 = .ok (.iload 5, 2) := by decide +kernel
theorem dL_areMembers_12 : decode cL_areMembers 12 = .ok (.bipush 8, 2) := by decide +kernel
theorem dL_areMembers_14 : decode cL_areMembers 14 = .ok (.if_icmp .ge 321, 3) := by decide +kernel
theorem dL_areMembers_17 : decode cL_areMembers 17 = .ok (.iload 4, 2) := by decide +kernel
theorem dL_areMembers_19 : decode cL_areMembers 19 = .ok (.ifCond .eq 316, 3) := by decide +kernel
theorem dL_areMembers_22 : decode cL_areMembers 22 = .ok (.iconst 0, 1) := by decide +kernel
theorem dL_areMembers_23 : decode cL_areMembers 23 = .ok (.istore 6, 2) := by decide +kernel
theorem dL_areMembers_25 : decode cL_areMembers 25 = .ok (.iconst 0, 1) := by decide +kernel
theorem dL_areMembers_26 : decode cL_areMembers 26 = .ok (.istore 7, 2) := by decide +kernel
theorem dL_areMembers_28 : decode cL_areMembers 28 = .ok (.iconst 0, 1) := by decide +kernel
theorem dL_areMembers_29 : decode cL_areMembers 29 = .ok (.istore 8, 2) := by decide +kernel
theorem dL_areMembers_31 : decode cL_areMembers 31 = .ok (.iconst 0, 1) := by decide +kernel
theorem dL_areMembers_32 : decode cL_areMembers 32 = .ok (.istore 9, 2) := by decide +kernel
theorem dL_areMembers_34 : decode cL_areMembers 34 = .ok (.iload 9, 2) := by decide +kernel
theorem dL_areMembers_36 : decode cL_areMembers 36 = .ok (.bipush 8, 2) := by decide +kernel
theorem dL_areMembers_38 : decode cL_areMembers 38 = .ok (.if_icmp .ge 153, 3) := by decide +kernel
theorem dL_areMembers_41 : decode cL_areMembers 41 = .ok (.aload_n 1, 1) := by decide +kernel
theorem dL_areMembers_42 : decode cL_areMembers 42 = .ok (.bipush 8, 2) := by decide +kernel
theorem dL_areMembers_44 : decode cL_areMembers 44 = .ok (.iload 9, 2) := by decide +kernel
theorem dL_areMembers_46 : decode cL_areMembers 46 = .ok (.imul, 1) := by decide +kernel
theorem dL_areMembers_47 : decode cL_areMembers 47 = .ok (.iconst 1, 1) := by decide +kernel
theorem dL_areMembers_48 : decode cL_areMembers 48 = .ok (.iadd, 1) := by decide +kernel
theorem dL_areMembers_49 : decode cL_areMembers 49 = .ok (.iaload, 1) := by decide +kernel
theorem dL_areMembers_50 : decode cL_areMembers 50 = .ok (.ifCond .ne 7, 3) := by decide +kernel
theorem dL_areMembers_53 : decode cL_areMembers 53 = .ok (.iconst 1, 1) := by decide +kernel
theorem dL_areMembers_54 : decode cL_areMembers 54 = .ok (.goto 4, 3) := by decide +kernel
theorem dL_areMembers_57 : decode cL_areMembers 57 = .ok (.iconst 0, 1) := by decide +kernel
theorem dL_areMembers_58 : decode cL_areMembers 58 = .ok (.istore 10, 2) := by decide +kernel
theorem dL_areMembers_60 : decode cL_areMembers 60 = .ok (.iload 6, 2) := by decide +kernel
theorem dL_areMembers_62 : decode cL_areMembers 62 = .ok (.iload 10, 2) := by decide +kernel
theorem dL_areMembers_64 : decode cL_areMembers 64 = .ok (.ifCond .eq 24, 3) := by decide +kernel
theorem dL_areMembers_67 : decode cL_areMembers 67 = .ok (.aload_n 0, 1) := by decide +kernel
theorem dL_areMembers_68 : decode cL_areMembers 68 = .ok (.iload 9, 2) := by decide +kernel
theorem dL_areMembers_70 : decode cL_areMembers 70 = .ok (.iload 5, 2) := by decide +kernel
theorem dL_areMembers_72 : decode cL_areMembers 72 = .ok (.invokevirtual 88, 3) := by decide +kernel
theorem dL_areMembers_75 : decode cL_areMembers 75 = .ok (.aload_n 0, 1) := by decide +kernel
theorem dL_areMembers_76 : decode cL_areMembers 76 = .ok (.iload 5, 2) := by decide +kernel
theorem dL_areMembers_78 : decode cL_areMembers 78 = .ok (.invokevirtual 64, 3) := by decide +kernel
theorem dL_areMembers_81 : decode cL_areMembers 81 = .ok (.if_icmp .ne 7, 3) := by decide +kernel
theorem dL_areMembers_84 : decode cL_areMembers 84 = .ok (.iconst 1, 1) := by decide +kernel
theorem dL_areMembers_85 : decode cL_areMembers 85 = .ok (.goto 4, 3) := by decide +kernel
theorem dL_areMembers_88 : decode cL_areMembers 88 = .ok (.iconst 0, 1) := by decide +kernel
theorem dL_areMembers_89 : decode cL_areMembers 89 = .ok (.iadd, 1) := by decide +kernel
theorem dL_areMembers_90 : decode cL_areMembers 90 = .ok (.istore 6, 2) := by decide +kernel
theorem dL_areMembers_92 : decode cL_areMembers 92 = .ok (.aload_n 0, 1) := by decide +kernel
theorem dL_areMembers_93 : decode cL_areMembers 93 = .ok (.iload 9, 2) := by decide +kernel
theorem dL_areMembers_95 : decode cL_areMembers 95 = .ok (.iload 5, 2) := by decide +kernel
theorem dL_areMembers_97 : decode cL_areMembers 97 = .ok (.invokevirtual 91, 3) := by decide +kernel
theorem dL_areMembers_100 : decode cL_areMembers 100 = .ok (.aload_n 0, 1) := by decide +kernel
theorem dL_areMembers_101 : decode cL_areMembers 101 = .ok (.iload 7, 2) := by decide +kernel
theorem dL_areMembers_103 : decode cL_areMembers 103 = .ok (.iload 5, 2) := by decide +kernel
theorem dL_areMembers_105 : decode cL_areMembers 105 = .ok (.invokevirtual 91, 3) := by decide +kernel
theorem dL_areMembers_108 : decode cL_areMembers 108 = .ok (.if_icmp .le 8, 3) := by decide +kernel
theorem dL_areMembers_111 : decode cL_areMembers 111 = .ok (.iload 9, 2) := by decide +kernel
theorem dL_areMembers_113 : decode cL_areMembers 113 = .ok (.goto 5, 3) := by decide +kernel
theorem dL_areMembers_116 : decode cL_areMembers 116 = .ok (.iload 7, 2) := by decide +kernel
theorem dL_areMembers_118 : decode cL_areMembers 118 = .ok (.istore 7, 2) := by decide +kernel
theorem dL_areMembers_120 : decode cL_areMembers 120 = .ok (.iload 8, 2) := by decide +kernel
theorem dL_areMembers_122 : decode cL_areMembers 122 = .ok (.ifCond .ne 19, 3) := by decide +kernel
theorem dL_areMembers_125 : decode cL_areMembers 125 = .ok (.iload 10, 2) := by decide +kernel
theorem dL_areMembers_127 : decode cL_areMembers 127 = .ok (.ifCond .eq 18, 3) := by decide +kernel
theorem dL_areMembers_130 : decode cL_areMembers 130 = .ok (.aload_n 0, 1) := by decide +kernel
theorem dL_areMembers_131 : decode cL_areMembers 131 = .ok (.iload 9, 2) := by decide +kernel
theorem dL_areMembers_133 : decode cL_areMembers 133 = .ok (.iload 5, 2) := by decide +kernel
theorem dL_areMembers_135 : decode cL_areMembers 135 = .ok (.invokevirtual 100, 3) := by decide +kernel
theorem dL_areMembers_138 : decode cL_areMembers 138 = .ok (.ifCond .ne 7, 3) := by decide +kernel
theorem dL_areMembers_141 : decode cL_areMembers 141 = .ok (.iconst 1, 1) := by decide +kernel
theorem dL_areMembers_142 : decode cL_areMembers 142 = .ok (.goto 4, 3) := by decide +kernel
theorem dL_areMembers_145 : decode cL_areMembers 145 = .ok (.iconst 0, 1) := by decide +kernel
theorem dL_areMembers_146 : decode cL_areMembers 146 = .ok (.istore 8, 2) := by decide +kernel
theorem dL_areMembers_148 : decode cL_areMembers 148 = .ok (.iload_n 3, 1) := by decide +kernel
theorem dL_areMembers_149 : decode cL_areMembers 149 = .ok (.iload 10, 2) := by decide +kernel
theorem dL_areMembers_151 : decode cL_areMembers 151 = .ok (.ifCond .eq 31, 3) := by decide +kernel
theorem dL_areMembers_154 : decode cL_areMembers 154 = .ok (.aload_n 1, 1) := by decide +kernel
theorem dL_areMembers_155 : decode cL_areMembers 155 = .ok (.bipush 8, 2) := by decide +kernel
theorem dL_areMembers_157 : decode cL_areMembers 157 = .ok (.iload 5, 2) := by decide +kernel
theorem dL_areMembers_159 : decode cL_areMembers 159 = .ok (.imul, 1) := by decide +kernel
theorem dL_areMembers_160 : decode cL_areMembers 160 = .ok (.iconst 1, 1) := by decide +kernel
theorem dL_areMembers_161 : decode cL_areMembers 161 = .ok (.iadd, 1) := by decide +kernel
theorem dL_areMembers_162 : decode cL_areMembers 162 = .ok (.iaload, 1) := by decide +kernel
theorem dL_areMembers_163 : decode cL_areMembers 163 = .ok (.ifCond .ne 19, 3) := by decide +kernel
theorem dL_areMembers_166 : decode cL_areMembers 166 = .ok (.aload_n 0, 1) := by decide +kernel
theorem dL_areMembers_167 : decode cL_areMembers 167 = .ok (.iload 9, 2) := by decide +kernel
theorem dL_areMembers_169 : decode cL_areMembers 169 = .ok (.iload 5, 2) := by decide +kernel
theorem dL_areMembers_171 : decode cL_areMembers 171 = .ok (.invokevirtual 100, 3) := by decide +kernel
theorem dL_areMembers_174 : decode cL_areMembers 174 = .ok (.iconst 2, 1) := by decide +kernel
theorem dL_areMembers_175 : decode cL_areMembers 175 = .ok (.if_icmp .ne 7, 3) := by decide +kernel
theorem dL_areMembers_178 : decode cL_areMembers 178 = .ok (.iconst 1, 1) := by decide +kernel
theorem dL_areMembers_179 : decode cL_areMembers 179 = .ok (.goto 4, 3) := by decide +kernel
theorem dL_areMembers_182 : decode cL_areMembers 182 = .ok (.iconst 0, 1) := by decide +kernel
theorem dL_areMembers_183 : decode cL_areMembers 183 = .ok (.iadd, 1) := by decide +kernel
theorem dL_areMembers_184 : decode cL_areMembers 184 = .ok (.istore_n 3, 1) := by decide +kernel
theorem dL_areMembers_185 : decode cL_areMembers 185 = .ok (.iinc 9 1, 3) := by decide +kernel
theorem dL_areMembers_188 : decode cL_areMembers 188 = .ok (.goto (-154), 3) := by decide +kernel
theorem dL_areMembers_191 : decode cL_areMembers 191 = .ok (.iload_n 2, 1) := by decide +kernel
theorem dL_areMembers_192 : decode cL_areMembers 192 = .ok (.iload 8, 2) := by decide +kernel
theorem dL_areMembers_194 : decode cL_areMembers 194 = .ok (.ifCond .eq 20, 3) := by decide +kernel
theorem dL_areMembers_197 : decode cL_areMembers 197 = .ok (.aload_n 1, 1) := by decide +kernel
theorem dL_areMembers_198 : decode cL_areMembers 198 = .ok (.bipush 8, 2) := by decide +kernel
theorem dL_areMembers_200 : decode cL_areMembers 200 = .ok (.iload 5, 2) := by decide +kernel
theorem dL_areMembers_202 : decode cL_areMembers 202 = .ok (.imul, 1) := by decide +kernel
theorem dL_areMembers_203 : decode cL_areMembers 203 = .ok (.iconst 1, 1) := by decide +kernel
theorem dL_areMembers_204 : decode cL_areMembers 204 = .ok (.iadd, 1) := by decide +kernel
theorem dL_areMembers_205 : decode cL_areMembers 205 = .ok (.iaload, 1) := by decide +kernel
theorem dL_areMembers_206 : decode cL_areMembers 206 = .ok (.iconst 1, 1) := by decide +kernel
theorem dL_areMembers_207 : decode cL_areMembers 207 = .ok (.if_icmp .ne 7, 3) := by decide +kernel
theorem dL_areMembers_210 : decode cL_areMembers 210 = .ok (.iconst 1, 1) := by decide +kernel
end
section
theorem dL_areMembers_211 : decode cL_areMembers 211 = .ok (.goto 4, 3) := by decide +kernel
theorem dL_areMembers_214 : decode cL_areMembers 214 = .ok (.iconst 0, 1) := by decide +kernel
theorem dL_areMembers_215 : decode cL_areMembers 215 = .ok (.iadd, 1) := by decide +kernel
theorem dL_areMembers_216 : decode cL_areMembers 216 = .ok (.istore_n 2, 1) := by decide +kernel
theorem dL_areMembers_217 : decode cL_areMembers 217 = .ok (.aload_n 0, 1) := by decide +kernel
theorem dL_areMembers_218 : decode cL_areMembers 218 = .ok (.iload 5, 2) := by decide +kernel
theorem dL_areMembers_220 : decode cL_areMembers 220 = .ok (.invokevirtual 79, 3) := by decide +kernel
theorem dL_areMembers_223 : decode cL_areMembers 223 = .ok (.istore 9, 2) := by decide +kernel
theorem dL_areMembers_225 : decode cL_areMembers 225 = .ok (.aload_n 0, 1) := by decide +kernel
theorem dL_areMembers_226 : decode cL_areMembers 226 = .ok (.iload 5, 2) := by decide +kernel
theorem dL_areMembers_228 : decode cL_areMembers 228 = .ok (.invokevirtual 85, 3) := by decide +kernel
theorem dL_areMembers_231 : decode cL_areMembers 231 = .ok (.iload 6, 2) := by decide +kernel
theorem dL_areMembers_233 : decode cL_areMembers 233 = .ok (.if_icmp .ne 93, 3) := by decide +kernel
theorem dL_areMembers_236 : decode cL_areMembers 236 = .ok (.aload_n 0, 1) := by decide +kernel
theorem dL_areMembers_237 : decode cL_areMembers 237 = .ok (.iload 5, 2) := by decide +kernel
theorem dL_areMembers_239 : decode cL_areMembers 239 = .ok (.invokevirtual 82, 3) := by decide +kernel
theorem dL_areMembers_242 : decode cL_areMembers 242 = .ok (.aload_n 0, 1) := by decide +kernel
theorem dL_areMembers_243 : decode cL_areMembers 243 = .ok (.iload 7, 2) := by decide +kernel
theorem dL_areMembers_245 : decode cL_areMembers 245 = .ok (.iload 5, 2) := by decide +kernel
theorem dL_areMembers_247 : decode cL_areMembers 247 = .ok (.invokevirtual 91, 3) := by decide +kernel
theorem dL_areMembers_250 : decode cL_areMembers 250 = .ok (.ifCond .le 8, 3) := by decide +kernel
theorem dL_areMembers_253 : decode cL_areMembers 253 = .ok (.iload 7, 2) := by decide +kernel
theorem dL_areMembers_255 : decode cL_areMembers 255 = .ok (.goto 4, 3) := by decide +kernel
theorem dL_areMembers_258 : decode cL_areMembers 258 = .ok (.iconst (-1), 1) := by decide +kernel
theorem dL_areMembers_259 : decode cL_areMembers 259 = .ok (.if_icmp .ne 67, 3) := by decide +kernel
theorem dL_areMembers_262 : decode cL_areMembers 262 = .ok (.iload 9, 2) := by decide +kernel
theorem dL_areMembers_264 : decode cL_areMembers 264 = .ok (.iconst (-1), 1) := by decide +kernel
theorem dL_areMembers_265 : decode cL_areMembers 265 = .ok (.if_icmp .lt 61, 3) := by decide +kernel
theorem dL_areMembers_268 : decode cL_areMembers 268 = .ok (.iload 9, 2) := by decide +kernel
theorem dL_areMembers_270 : decode cL_areMembers 270 = .ok (.bipush 8, 2) := by decide +kernel
theorem dL_areMembers_272 : decode cL_areMembers 272 = .ok (.if_icmp .ge 54, 3) := by decide +kernel
theorem dL_areMembers_275 : decode cL_areMembers 275 = .ok (.iload 9, 2) := by decide +kernel
theorem dL_areMembers_277 : decode cL_areMembers 277 = .ok (.iload 5, 2) := by decide +kernel
theorem dL_areMembers_279 : decode cL_areMembers 279 = .ok (.if_icmp .eq 47, 3) := by decide +kernel
theorem dL_areMembers_282 : decode cL_areMembers 282 = .ok (.iload 9, 2) := by decide +kernel
theorem dL_areMembers_284 : decode cL_areMembers 284 = .ok (.ifCond .lt 38, 3) := by decide +kernel
theorem dL_areMembers_287 : decode cL_areMembers 287 = .ok (.aload_n 1, 1) := by decide +kernel
theorem dL_areMembers_288 : decode cL_areMembers 288 = .ok (.bipush 8, 2) := by decide +kernel
theorem dL_areMembers_290 : decode cL_areMembers 290 = .ok (.iload 5, 2) := by decide +kernel
theorem dL_areMembers_292 : decode cL_areMembers 292 = .ok (.imul, 1) := by decide +kernel
theorem dL_areMembers_293 : decode cL_areMembers 293 = .ok (.iconst 1, 1) := by decide +kernel
theorem dL_areMembers_294 : decode cL_areMembers 294 = .ok (.iadd, 1) := by decide +kernel
theorem dL_areMembers_295 : decode cL_areMembers 295 = .ok (.iaload, 1) := by decide +kernel
theorem dL_areMembers_296 : decode cL_areMembers 296 = .ok (.ifCond .ne 30, 3) := by decide +kernel
theorem dL_areMembers_299 : decode cL_areMembers 299 = .ok (.aload_n 0, 1) := by decide +kernel
theorem dL_areMembers_300 : decode cL_areMembers 300 = .ok (.invokevirtual 103, 3) := by decide +kernel
theorem dL_areMembers_303 : decode cL_areMembers 303 = .ok (.iconst 1, 1) := by decide +kernel
theorem dL_areMembers_304 : decode cL_areMembers 304 = .ok (.iadd, 1) := by decide +kernel
theorem dL_areMembers_305 : decode cL_areMembers 305 = .ok (.iconst 4, 1) := by decide +kernel
theorem dL_areMembers_306 : decode cL_areMembers 306 = .ok (.irem, 1) := by decide +kernel
theorem dL_areMembers_307 : decode cL_areMembers 307 = .ok (.ifCond .eq 15, 3) := by decide +kernel
theorem dL_areMembers_310 : decode cL_areMembers 310 = .ok (.aload_n 0, 1) := by decide +kernel
theorem dL_areMembers_311 : decode cL_areMembers 311 = .ok (.iload 5, 2) := by decide +kernel
theorem dL_areMembers_313 : decode cL_areMembers 313 = .ok (.iload 9, 2) := by decide +kernel
theorem dL_areMembers_315 : decode cL_areMembers 315 = .ok (.invokevirtual 100, 3) := by decide +kernel
theorem dL_areMembers_318 : decode cL_areMembers 318 = .ok (.iconst 2, 1) := by decide +kernel
theorem dL_areMembers_319 : decode cL_areMembers 319 = .ok (.if_icmp .ge 7, 3) := by decide +kernel
theorem dL_areMembers_322 : decode cL_areMembers 322 = .ok (.iconst 1, 1) := by decide +kernel
theorem dL_areMembers_323 : decode cL_areMembers 323 = .ok (.goto 4, 3) := by decide +kernel
theorem dL_areMembers_326 : decode cL_areMembers 326 = .ok (.iconst 0, 1) := by decide +kernel
theorem dL_areMembers_327 : decode cL_areMembers 327 = .ok (.istore 4, 2) := by decide +kernel
theorem dL_areMembers_329 : decode cL_areMembers 329 = .ok (.iinc 5 1, 3) := by decide +kernel
theorem dL_areMembers_332 : decode cL_areMembers 332 = .ok (.goto (-322), 3) := by decide +kernel
theorem dL_areMembers_335 : decode cL_areMembers 335 = .ok (.iload 4, 2) := by decide +kernel
theorem dL_areMembers_337 : decode cL_areMembers 337 = .ok (.ifCond .eq 23, 3) := by decide +kernel
theorem dL_areMembers_340 : decode cL_areMembers 340 = .ok (.aload_n 0, 1) := by decide +kernel
theorem dL_areMembers_341 : decode cL_areMembers 341 = .ok (.invokevirtual 114, 3) := by decide +kernel
theorem dL_areMembers_344 : decode cL_areMembers 344 = .ok (.iload_n 2, 1) := by decide +kernel
theorem dL_areMembers_345 : decode cL_areMembers 345 = .ok (.if_icmp .ne 15, 3) := by decide +kernel
theorem dL_areMembers_348 : decode cL_areMembers 348 = .ok (.aload_n 0, 1) := by decide +kernel
theorem dL_areMembers_349 : decode cL_areMembers 349 = .ok (.invokevirtual 119, 3) := by decide +kernel
theorem dL_areMembers_352 : decode cL_areMembers 352 = .ok (.iload_n 3, 1) := by decide +kernel
theorem dL_areMembers_353 : decode cL_areMembers 353 = .ok (.if_icmp .ne 7, 3) := by decide +kernel
theorem dL_areMembers_356 : decode cL_areMembers 356 = .ok (.iconst 1, 1) := by decide +kernel
theorem dL_areMembers_357 : decode cL_areMembers 357 = .ok (.goto 4, 3) := by decide +kernel
theorem dL_areMembers_360 : decode cL_areMembers 360 = .ok (.iconst 0, 1) := by decide +kernel
theorem dL_areMembers_361 : decode cL_areMembers 361 = .ok (.ireturn, 1) := by decide +kernel
set_option maxRecDepth 20000 in
theorem ggL_isTicked_L_keeps : GoodIn wsL_isTicked wsL_keeps := goodIn_ca (goodIn_r _ [4, 5, 6, 7, 8, 9, 10, 11, 12, 13, 14, 15, 16, 17, 18, 19, 20, 21, 22, 23, 24, 25, 26, 27, 28, 29, 30, 31, 32, 33, 34, 35, 36, 37, 38, 39, 40, 41, 285, 286, 287, 288, 289, 290, 291, 292, 293, 294, 295, 296, 297, 298, 299, 300, 301, 302, 303, 304, 305, 306, 307, 308, 309, 310, 311, 312, 313, 314, 315, 316] (by decide +kernel) (by decide +kernel)) (goodIn_sub (fun _ h => List.mem_cons_of_mem _ (List.mem_append_left _ (List.mem_append_right _ h))) (by decide +kernel))
set_option maxRecDepth 20000 in
theorem gL_isTicked_L_keeps : GoodIn wsL_isTicked (va_wsS RL 132 yL_keeps wsL_keeps) := goodIn_app (goodIn_of _ (by decide +kernel)) ggL_isTicked_L_keeps
set_option maxRecDepth 20000 in
theorem ggL_isTicked_X3_time : GoodIn wsL_isTicked wsX3_time := goodIn_r _ [45, 46, 285, 286, 287, 288] (by decide +kernel) (by decide +kernel)
set_option maxRecDepth 20000 in
theorem gL_isTicked_X3_time : GoodIn wsL_isTicked (wsV RL 103 RX3 yX3_time wsX3_time) := goodIn_app (goodIn_of _ (by decide +kernel)) ggL_isTicked_X3_time
set_option maxRecDepth 20000 in
theorem ggL_isTicked_X3_vain : GoodIn wsL_isTicked wsX3_vain := goodIn_r _ [50, 40, 51, 285, 286, 287, 288, 305, 306, 307, 308, 309, 310, 311, 312, 313, 314, 315, 316] (by decide +kernel) (by decide +kernel)
set_option maxRecDepth 20000 in
theorem gL_isTicked_X3_vain : GoodIn wsL_isTicked (wsV RL 109 RX3 yX3_vain wsX3_vain) := goodIn_app (goodIn_of _ (by decide +kernel)) ggL_isTicked_X3_vain
set_option maxRecDepth 20000 in
theorem ggL_isTicked_L_act : GoodIn wsL_isTicked wsL_act := goodIn_ca (goodIn_ca (goodIn_r _ [54, 55, 56, 57, 58, 59, 8, 60, 34, 61, 12, 13, 14, 15, 16, 17, 18, 19, 62, 63, 64, 65, 10, 66, 67, 68, 69, 70, 71, 72, 73, 74, 75, 76, 77, 78, 35, 79, 80, 81, 82, 40, 83, 84, 85, 86, 87, 88, 89, 90, 91, 92, 46, 93, 94, 95, 96, 97, 98, 99, 100, 101, 102, 103, 104, 105, 106, 107, 108, 109, 110, 111, 112, 113, 114, 115, 116, 117, 118, 119, 120, 121, 122, 123, 124, 125, 126, 127, 128, 129, 130, 131, 132, 133, 134, 135, 136, 137, 138, 139, 140, 141, 142, 143, 144, 145, 146, 147, 148, 149, 150, 151, 152, 153, 154, 155, 156, 157, 158, 159, 160, 161, 162, 163, 164, 165, 166, 167, 168, 169, 170, 171, 172, 173, 174, 175, 176, 177, 178, 179, 180, 181, 182, 183, 184, 185, 186, 187, 188, 189, 190, 191, 192, 193, 194, 195, 196, 197, 198, 199, 200, 201, 202, 203, 204, 205, 206, 207, 208, 209, 210, 211, 212, 213, 214, 215, 216, 217, 218, 219, 220, 221, 222, 223, 224, 225, 226, 227, 228, 229, 230, 231, 232, 233, 234, 235, 236, 237, 285, 286, 287, 288, 297, 298, 299, 300, 301, 302, 303, 304, 289, 290, 291, 292, 293, 294, 295, 296, 305, 306, 307, 308, 309, 310, 311, 312, 313, 314, 315, 316] (by decide +kernel) (by decide +kernel)) (goodIn_sub (fun _ h => List.mem_cons_of_mem _ (List.mem_append_left _ (List.mem_append_right _ h))) (by decide +kernel))) (goodIn_sub (fun _ h => List.mem_cons_of_mem _ (List.mem_append_right _ h)) (by decide +kernel))
set_option maxRecDepth 20000 in
theorem gL_isTicked_L_act : GoodIn wsL_isTicked (va_wsS RL 138 yL_act wsL_act) := goodIn_app (goodIn_of _ (by decide +kernel)) ggL_isTicked_L_act
set_option maxRecDepth 20000 in
theorem ggL_isTicked_L_isWater : GoodIn wsL_isTicked wsL_isWater := goodIn_ca (goodIn_r _ [240, 20, 21, 22, 8, 23, 10, 24, 12, 13, 14, 15, 16, 17, 18, 19, 25, 26, 27, 28, 29, 5, 6, 7, 9, 11, 241, 242, 243, 244, 245, 246, 247, 100, 248, 109, 118, 139, 249, 250, 251, 252, 253, 147, 148, 149, 134, 108, 285, 286, 287, 288, 289, 290, 291, 292, 293, 294, 295, 296] (by decide +kernel) (by decide +kernel)) (goodIn_sub (fun _ h => List.mem_cons_of_mem _ (List.mem_append_left _ (List.mem_append_right _ h))) (by decide +kernel))
set_option maxRecDepth 20000 in
theorem gL_isTicked_L_isWater : GoodIn wsL_isTicked (va_wsS RL 142 yL_isWater wsL_isWater) := goodIn_app (goodIn_of _ (by decide +kernel)) ggL_isTicked_L_isWater
set_option maxRecDepth 20000 in
theorem ggL_isTicked_L_areBeats : GoodIn wsL_isTicked wsL_areBeats := goodIn_ca (goodIn_r _ [256, 42, 43, 44, 8, 45, 46, 36, 37, 38, 39, 40, 41, 12, 13, 14, 15, 16, 17, 18, 19, 257, 258, 259, 260, 261, 262, 263, 264, 265, 266, 267, 268, 269, 270, 215, 271, 222, 223, 143, 224, 157, 272, 273, 274, 275, 276, 285, 286, 287, 288, 305, 306, 307, 308, 309, 310, 311, 312, 313, 314, 315, 316] (by decide +kernel) (by decide +kernel)) (goodIn_sub (fun _ h => List.mem_cons_of_mem _ (List.mem_append_left _ (List.mem_append_right _ h))) (by decide +kernel))
set_option maxRecDepth 20000 in
theorem gL_isTicked_L_areBeats : GoodIn wsL_isTicked (va_wsS RL 146 yL_areBeats wsL_areBeats) := goodIn_app (goodIn_of _ (by decide +kernel)) ggL_isTicked_L_areBeats
set_option maxRecDepth 20000 in
theorem ggL_isTicked_L_areGates : GoodIn wsL_isTicked wsL_areGates := goodIn_ca (goodIn_r _ [279, 267, 268, 269, 8, 270, 40, 215, 12, 13, 14, 15, 16, 17, 18, 19, 271, 222, 223, 143, 224, 157, 272, 273, 274, 275, 46, 276, 30, 31, 32, 33, 34, 35, 280, 281, 282, 283, 284, 285, 286, 287, 288, 305, 306, 307, 308, 309, 310, 311, 312, 313, 314, 315, 316, 297, 298, 299, 300, 301, 302, 303, 304] (by decide +kernel) (by decide +kernel)) (goodIn_sub (fun _ h => List.mem_cons_of_mem _ (List.mem_append_left _ (List.mem_append_right _ h))) (by decide +kernel))
set_option maxRecDepth 20000 in
theorem gL_isTicked_L_areGates : GoodIn wsL_isTicked (va_wsS RL 150 yL_areGates wsL_areGates) := goodIn_app (goodIn_of _ (by decide +kernel)) ggL_isTicked_L_areGates
theorem dL_isTicked_0 : decode cL_isTicked 0 = .ok (.aload_n 0, 1) := by decide +kernel
theorem dL_isTicked_1 : decode cL_isTicked 1 = .ok (.aload_n 2, 1) := by decide +kernel
theorem dL_isTicked_2 : decode cL_isTicked 2 = .ok (.aload_n 3, 1) := by decide +kernel
theorem dL_isTicked_3 : decode cL_isTicked 3 = .ok (.invokestatic 132, 3) := by decide +kernel
theorem dL_isTicked_6 : decode cL_isTicked 6 = .ok (.aload_n 0, 1) := by decide +kernel
theorem dL_isTicked_7 : decode cL_isTicked 7 = .ok (.invokevirtual 103, 3) := by decide +kernel
theorem dL_isTicked_10 : decode cL_isTicked 10 = .ok (.istore 7, 2) := by decide +kernel
theorem dL_isTicked_12 : decode cL_isTicked 12 = .ok (.aload_n 0, 1) := by decide +kernel
theorem dL_isTicked_13 : decode cL_isTicked 13 = .ok (.invokevirtual 109, 3) := by decide +kernel
theorem dL_isTicked_16 : decode cL_isTicked 16 = .ok (.istore 8, 2) := by decide +kernel
theorem dL_isTicked_18 : decode cL_isTicked 18 = .ok (.iconst 0, 1) := by decide +kernel
theorem dL_isTicked_19 : decode cL_isTicked 19 = .ok (.istore 9, 2) := by decide +kernel
theorem dL_isTicked_21 : decode cL_isTicked 21 = .ok (.iconst 0, 1) := by decide +kernel
theorem dL_isTicked_22 : decode cL_isTicked 22 = .ok (.istore 10, 2) := by decide +kernel
theorem dL_isTicked_24 : decode cL_isTicked 24 = .ok (.iload 10, 2) := by decide +kernel
theorem dL_isTicked_26 : decode cL_isTicked 26 = .ok (.bipush 8, 2) := by decide +kernel
theorem dL_isTicked_28 : decode cL_isTicked 28 = .ok (.if_icmp .ge 31, 3) := by decide +kernel
theorem dL_isTicked_31 : decode cL_isTicked 31 = .ok (.iload 9, 2) := by decide +kernel
theorem dL_isTicked_33 : decode cL_isTicked 33 = .ok (.aload_n 2, 1) := by decide +kernel
theorem dL_isTicked_34 : decode cL_isTicked 34 = .ok (.bipush 8, 2) := by decide +kernel
theorem dL_isTicked_36 : decode cL_isTicked 36 = .ok (.iload 10, 2) := by decide +kernel
theorem dL_isTicked_38 : decode cL_isTicked 38 = .ok (.imul, 1) := by decide +kernel
theorem dL_isTicked_39 : decode cL_isTicked 39 = .ok (.iconst 1, 1) := by decide +kernel
theorem dL_isTicked_40 : decode cL_isTicked 40 = .ok (.iadd, 1) := by decide +kernel
theorem dL_isTicked_41 : decode cL_isTicked 41 = .ok (.iaload, 1) := by decide +kernel
theorem dL_isTicked_42 : decode cL_isTicked 42 = .ok (.ifCond .ne 7, 3) := by decide +kernel
theorem dL_isTicked_45 : decode cL_isTicked 45 = .ok (.iconst 1, 1) := by decide +kernel
theorem dL_isTicked_46 : decode cL_isTicked 46 = .ok (.goto 4, 3) := by decide +kernel
theorem dL_isTicked_49 : decode cL_isTicked 49 = .ok (.iconst 0, 1) := by decide +kernel
theorem dL_isTicked_50 : decode cL_isTicked 50 = .ok (.iadd, 1) := by decide +kernel
theorem dL_isTicked_51 : decode cL_isTicked 51 = .ok (.istore 9, 2) := by decide +kernel
theorem dL_isTicked_53 : decode cL_isTicked 53 = .ok (.iinc 10 1, 3) := by decide +kernel
theorem dL_isTicked_56 : decode cL_isTicked 56 = .ok (.goto (-32), 3) := by decide +kernel
theorem dL_isTicked_59 : decode cL_isTicked 59 = .ok (.aload_n 0, 1) := by decide +kernel
theorem dL_isTicked_60 : decode cL_isTicked 60 = .ok (.bipush 6, 2) := by decide +kernel
theorem dL_isTicked_62 : decode cL_isTicked 62 = .ok (.iconst 1, 1) := by decide +kernel
theorem dL_isTicked_63 : decode cL_isTicked 63 = .ok (.iconst 0, 1) := by decide +kernel
theorem dL_isTicked_64 : decode cL_isTicked 64 = .ok (.invokestatic 138, 3) := by decide +kernel
theorem dL_isTicked_67 : decode cL_isTicked 67 = .ok (.istore 10, 2) := by decide +kernel
theorem dL_isTicked_69 : decode cL_isTicked 69 = .ok (.iload 10, 2) := by decide +kernel
theorem dL_isTicked_71 : decode cL_isTicked 71 = .ok (.ifCond .lt 76, 3) := by decide +kernel
theorem dL_isTicked_74 : decode cL_isTicked 74 = .ok (.aload_n 0, 1) := by decide +kernel
theorem dL_isTicked_75 : decode cL_isTicked 75 = .ok (.invokevirtual 103, 3) := by decide +kernel
theorem dL_isTicked_78 : decode cL_isTicked 78 = .ok (.iload 7, 2) := by decide +kernel
theorem dL_isTicked_80 : decode cL_isTicked 80 = .ok (.iconst 1, 1) := by decide +kernel
theorem dL_isTicked_81 : decode cL_isTicked 81 = .ok (.iadd, 1) := by decide +kernel
theorem dL_isTicked_82 : decode cL_isTicked 82 = .ok (.if_icmp .ne 65, 3) := by decide +kernel
theorem dL_isTicked_85 : decode cL_isTicked 85 = .ok (.aload_n 0, 1) := by decide +kernel
theorem dL_isTicked_86 : decode cL_isTicked 86 = .ok (.invokevirtual 109, 3) := by decide +kernel
theorem dL_isTicked_89 : decode cL_isTicked 89 = .ok (.iload 8, 2) := by decide +kernel
theorem dL_isTicked_91 : decode cL_isTicked 91 = .ok (.if_icmp .lt 56, 3) := by decide +kernel
theorem dL_isTicked_94 : decode cL_isTicked 94 = .ok (.aload_n 0, 1) := by decide +kernel
theorem dL_isTicked_95 : decode cL_isTicked 95 = .ok (.invokevirtual 109, 3) := by decide +kernel
theorem dL_isTicked_98 : decode cL_isTicked 98 = .ok (.iload 8, 2) := by decide +kernel
theorem dL_isTicked_100 : decode cL_isTicked 100 = .ok (.iload 9, 2) := by decide +kernel
theorem dL_isTicked_102 : decode cL_isTicked 102 = .ok (.iadd, 1) := by decide +kernel
theorem dL_isTicked_103 : decode cL_isTicked 103 = .ok (.if_icmp .gt 44, 3) := by decide +kernel
theorem dL_isTicked_106 : decode cL_isTicked 106 = .ok (.aload_n 0, 1) := by decide +kernel
theorem dL_isTicked_107 : decode cL_isTicked 107 = .ok (.aload_n 1, 1) := by decide +kernel
theorem dL_isTicked_108 : decode cL_isTicked 108 = .ok (.aload_n 2, 1) := by decide +kernel
theorem dL_isTicked_109 : decode cL_isTicked 109 = .ok (.aload 6, 2) := by decide +kernel
theorem dL_isTicked_111 : decode cL_isTicked 111 = .ok (.iload 10, 2) := by decide +kernel
theorem dL_isTicked_113 : decode cL_isTicked 113 = .ok (.invokestatic 142, 3) := by decide +kernel
theorem dL_isTicked_116 : decode cL_isTicked 116 = .ok (.ifCond .eq 31, 3) := by decide +kernel
theorem dL_isTicked_119 : decode cL_isTicked 119 = .ok (.aload_n 0, 1) := by decide +kernel
theorem dL_isTicked_120 : decode cL_isTicked 120 = .ok (.aload_n 2, 1) := by decide +kernel
theorem dL_isTicked_121 : decode cL_isTicked 121 = .ok (.aload_n 3, 1) := by decide +kernel
theorem dL_isTicked_122 : decode cL_isTicked 122 = .ok (.aload 4, 2) := by decide +kernel
theorem dL_isTicked_124 : decode cL_isTicked 124 = .ok (.aload 6, 2) := by decide +kernel
theorem dL_isTicked_126 : decode cL_isTicked 126 = .ok (.invokestatic 146, 3) := by decide +kernel
theorem dL_isTicked_129 : decode cL_isTicked 129 = .ok (.ifCond .eq 18, 3) := by decide +kernel
theorem dL_isTicked_132 : decode cL_isTicked 132 = .ok (.aload_n 0, 1) := by decide +kernel
theorem dL_isTicked_133 : decode cL_isTicked 133 = .ok (.aload_n 1, 1) := by decide +kernel
theorem dL_isTicked_134 : decode cL_isTicked 134 = .ok (.aload_n 2, 1) := by decide +kernel
theorem dL_isTicked_135 : decode cL_isTicked 135 = .ok (.aload 5, 2) := by decide +kernel
theorem dL_isTicked_137 : decode cL_isTicked 137 = .ok (.invokestatic 150, 3) := by decide +kernel
theorem dL_isTicked_140 : decode cL_isTicked 140 = .ok (.ifCond .eq 7, 3) := by decide +kernel
theorem dL_isTicked_143 : decode cL_isTicked 143 = .ok (.iconst 1, 1) := by decide +kernel
theorem dL_isTicked_144 : decode cL_isTicked 144 = .ok (.goto 4, 3) := by decide +kernel
theorem dL_isTicked_147 : decode cL_isTicked 147 = .ok (.iconst 0, 1) := by decide +kernel
theorem dL_isTicked_148 : decode cL_isTicked 148 = .ok (.ireturn, 1) := by decide +kernel
set_option maxRecDepth 20000 in
theorem ggL_isRefused_L_all : GoodIn wsL_isRefused wsL_all := goodIn_ca (goodIn_r _ [4, 5, 6, 7, 8, 9, 10, 11, 12, 13, 14, 15, 16, 17, 18, 19, 20, 21, 22, 23, 24, 25, 26, 27, 28, 29, 30, 31, 32, 33, 34, 35, 36, 37, 38, 39, 40, 41, 42, 43, 44, 45, 46, 47, 48, 49, 50, 51, 52, 53, 54, 55, 56, 57, 58, 59, 60, 61, 62, 63, 64, 65, 66, 67, 68, 69, 70, 71, 72, 73, 74, 75, 76, 77, 78, 79, 80, 81, 82, 83, 84, 85, 86, 87, 88, 89, 90, 91, 92, 93, 94, 95, 96, 97, 98, 99, 100, 101, 102, 103, 104, 105, 106, 107, 108, 109, 110, 111, 112, 113, 114, 115, 116, 117, 118, 119, 120, 121, 122, 123, 124, 125, 126, 127, 374, 375, 376, 377, 378, 379, 380, 381, 382, 383, 384, 385, 386, 387, 388, 389, 390, 391, 392, 393, 394, 395, 396, 397, 398, 399, 400, 401, 402, 403, 404, 405] (by decide +kernel) (by decide +kernel)) (goodIn_sub (fun _ h => List.mem_cons_of_mem _ (List.mem_append_left _ (List.mem_append_right _ h))) (by decide +kernel))
set_option maxRecDepth 20000 in
theorem gL_isRefused_L_all : GoodIn wsL_isRefused (va_wsS RL 154 yL_all wsL_all) := goodIn_app (goodIn_of _ (by decide +kernel)) ggL_isRefused_L_all
set_option maxRecDepth 20000 in
theorem ggL_isRefused_L_shaped : GoodIn wsL_isRefused wsL_shaped := goodIn_ca (goodIn_r _ [130, 131, 132, 133, 134, 16, 135, 52, 136, 137, 54, 55, 56, 57, 58, 59, 60, 61, 374, 375, 376, 377, 390, 391, 392, 393, 394, 395, 396, 397] (by decide +kernel) (by decide +kernel)) (goodIn_sub (fun _ h => List.mem_cons_of_mem _ (List.mem_append_left _ (List.mem_append_right _ h))) (by decide +kernel))
set_option maxRecDepth 20000 in
theorem gL_isRefused_L_shaped : GoodIn wsL_isRefused (va_wsS RL 158 yL_shaped wsL_shaped) := goodIn_app (goodIn_of _ (by decide +kernel)) ggL_isRefused_L_shaped
set_option maxRecDepth 20000 in
theorem ggL_isRefused_L_act : GoodIn wsL_isRefused wsL_act := goodIn_ca (goodIn_ca (goodIn_r _ [140, 131, 141, 142, 143, 144, 16, 145, 66, 146, 54, 55, 56, 57, 58, 59, 60, 61, 147, 148, 149, 150, 52, 151, 152, 153, 154, 155, 156, 157, 158, 159, 160, 161, 162, 163, 67, 164, 165, 166, 167, 23, 168, 169, 170, 171, 172, 173, 174, 175, 176, 177, 18, 178, 179, 180, 181, 182, 183, 184, 80, 185, 186, 187, 188, 189, 190, 191, 83, 192, 193, 194, 195, 196, 197, 198, 199, 200, 201, 202, 203, 204, 205, 206, 207, 208, 209, 210, 211, 212, 213, 214, 215, 216, 82, 217, 218, 219, 220, 221, 222, 223, 224, 32, 225, 34, 226, 78, 79, 81, 227, 228, 229, 230, 231, 88, 232, 93, 233, 234, 235, 236, 237, 238, 239, 240, 241, 242, 243, 244, 245, 100, 101, 102, 103, 104, 105, 106, 39, 246, 247, 248, 249, 250, 251, 252, 253, 254, 255, 256, 257, 258, 259, 260, 261, 262, 263, 264, 265, 266, 267, 268, 269, 270, 271, 272, 273, 274, 275, 98, 276, 277, 278, 279, 280, 126, 281, 282, 283, 284, 285, 89, 90, 91, 92, 286, 287, 288, 289, 290, 291, 292, 293, 294, 295, 296, 297, 298, 374, 375, 376, 377, 398, 399, 400, 401, 402, 403, 404, 405, 390, 391, 392, 393, 394, 395, 396, 397, 378, 379, 380, 381, 382, 383, 384, 385, 386, 387, 388, 389] (by decide +kernel) (by decide +kernel)) (goodIn_sub (fun _ h => List.mem_cons_of_mem _ (List.mem_append_left _ (List.mem_append_right _ h))) (by decide +kernel))) (goodIn_sub (fun _ h => List.mem_cons_of_mem _ (List.mem_append_right _ h)) (by decide +kernel))
set_option maxRecDepth 20000 in
theorem gL_isRefused_L_act : GoodIn wsL_isRefused (va_wsS RL 138 yL_act wsL_act) := goodIn_app (goodIn_of _ (by decide +kernel)) ggL_isRefused_L_act
set_option maxRecDepth 20000 in
theorem ggL_isRefused_L_ruled : GoodIn wsL_isRefused wsL_ruled := goodIn_ca (goodIn_r _ [301, 131, 302, 303, 304, 16, 305, 66, 306, 307, 281, 280, 54, 55, 56, 57, 58, 59, 60, 61, 374, 375, 376, 377, 398, 399, 400, 401, 402, 403, 404, 405] (by decide +kernel) (by decide +kernel)) (goodIn_sub (fun _ h => List.mem_cons_of_mem _ (List.mem_append_left _ (List.mem_append_right _ h))) (by decide +kernel))
set_option maxRecDepth 20000 in
theorem gL_isRefused_L_ruled : GoodIn wsL_isRefused (va_wsS RL 161 yL_ruled wsL_ruled) := goodIn_app (goodIn_of _ (by decide +kernel)) ggL_isRefused_L_ruled
set_option maxRecDepth 20000 in
theorem ggL_isRefused_L_timed : GoodIn wsL_isRefused wsL_timed := goodIn_ca (goodIn_r _ [310, 131, 311, 312, 313, 16, 314, 23, 315, 316, 57, 58, 59, 60, 61, 374, 375, 376, 377, 378, 379, 380, 381, 382, 383, 384, 385, 386, 387, 388, 389] (by decide +kernel) (by decide +kernel)) (goodIn_sub (fun _ h => List.mem_cons_of_mem _ (List.mem_append_left _ (List.mem_append_right _ h))) (by decide +kernel))
set_option maxRecDepth 20000 in
theorem gL_isRefused_L_timed : GoodIn wsL_isRefused (va_wsS RL 165 yL_timed wsL_timed) := goodIn_app (goodIn_of _ (by decide +kernel)) ggL_isRefused_L_timed
set_option maxRecDepth 20000 in
theorem ggL_isRefused_L_fallen : GoodIn wsL_isRefused wsL_fallen := goodIn_ca (goodIn_ca (goodIn_r _ [319, 131, 141, 320, 321, 322, 16, 323, 161, 162, 23, 98, 54, 55, 56, 57, 58, 59, 60, 61, 374, 375, 376, 377, 378, 379, 380, 381, 382, 383, 384, 385, 386, 387, 388, 389] (by decide +kernel) (by decide +kernel)) (goodIn_sub (fun _ h => List.mem_cons_of_mem _ (List.mem_append_right _ h)) (by decide +kernel))) (goodIn_sub (fun _ h => List.mem_cons_of_mem _ (List.mem_append_left _ (List.mem_append_right _ h))) (by decide +kernel))
set_option maxRecDepth 20000 in
theorem gL_isRefused_L_fallen : GoodIn wsL_isRefused (va_wsS RL 169 yL_fallen wsL_fallen) := goodIn_app (goodIn_of _ (by decide +kernel)) ggL_isRefused_L_fallen
set_option maxRecDepth 20000 in
theorem ggL_isRefused_L_risen : GoodIn wsL_isRefused wsL_risen := goodIn_ca (goodIn_ca (goodIn_r _ [326, 131, 141, 327, 328, 329, 16, 330, 161, 162, 23, 98, 331, 18, 54, 55, 56, 57, 58, 59, 60, 61, 332, 333, 334, 335, 374, 375, 376, 377, 378, 379, 380, 381, 382, 383, 384, 385, 386, 387, 388, 389] (by decide +kernel) (by decide +kernel)) (goodIn_sub (fun _ h => List.mem_cons_of_mem _ (List.mem_append_right _ h)) (by decide +kernel))) (goodIn_sub (fun _ h => List.mem_cons_of_mem _ (List.mem_append_left _ (List.mem_append_right _ h))) (by decide +kernel))
set_option maxRecDepth 20000 in
theorem gL_isRefused_L_risen : GoodIn wsL_isRefused (va_wsS RL 173 yL_risen wsL_risen) := goodIn_app (goodIn_of _ (by decide +kernel)) ggL_isRefused_L_risen
set_option maxRecDepth 20000 in
theorem ggL_isRefused_L_of : GoodIn wsL_isRefused wsL_of := goodIn_ca (goodIn_r _ [338, 131, 48, 49, 50, 16, 51, 52, 53, 54, 55, 56, 57, 58, 59, 60, 61, 339, 340, 341, 342, 343, 344, 345, 80, 346, 192, 201, 221, 347, 348, 349, 350, 77, 78, 79, 81, 82, 83, 351, 352, 353, 354, 355, 356, 357, 358, 359, 360, 62, 63, 64, 65, 66, 67, 68, 69, 70, 71, 72, 94, 95, 96, 97, 23, 98, 18, 99, 100, 101, 32, 102, 103, 104, 105, 106, 39, 361, 362, 363, 364, 365, 366, 367, 368, 93, 73, 74, 75, 76, 84, 85, 86, 87, 34, 88, 89, 90, 91, 92, 122, 123, 124, 125, 126, 127, 107, 108, 109, 110, 111, 369, 370, 371, 372, 373, 112, 113, 114, 115, 116, 117, 118, 119, 120, 121, 374, 375, 376, 377, 390, 391, 392, 393, 394, 395, 396, 397, 398, 399, 400, 401, 402, 403, 404, 405, 378, 379, 380, 381, 382, 383, 384, 385, 386, 387, 388, 389] (by decide +kernel) (by decide +kernel)) (goodIn_sub (fun _ h => List.mem_cons_of_mem _ (List.mem_append_left _ (List.mem_append_right _ h))) (by decide +kernel))
set_option maxRecDepth 20000 in
theorem gL_isRefused_L_of : GoodIn wsL_isRefused (va_wsS RL 176 yL_of wsL_of) := goodIn_app (goodIn_of _ (by decide +kernel)) ggL_isRefused_L_of
theorem dL_isRefused_0 : decode cL_isRefused 0 = .ok (.iload_n 2, 1) := by decide +kernel
theorem dL_isRefused_1 : decode cL_isRefused 1 = .ok (.iconst 2, 1) := by decide +kernel
theorem dL_isRefused_2 : decode cL_isRefused 2 = .ok (.irem, 1) := by decide +kernel
theorem dL_isRefused_3 : decode cL_isRefused 3 = .ok (.ifCond .ne 7, 3) := by decide +kernel
theorem dL_isRefused_6 : decode cL_isRefused 6 = .ok (.iconst 1, 1) := by decide +kernel
theorem dL_isRefused_7 : decode cL_isRefused 7 = .ok (.goto 4, 3) := by decide +kernel
theorem dL_isRefused_10 : decode cL_isRefused 10 = .ok (.iconst 0, 1) := by decide +kernel
theorem dL_isRefused_11 : decode cL_isRefused 11 = .ok (.istore_n 3, 1) := by decide +kernel
theorem dL_isRefused_12 : decode cL_isRefused 12 = .ok (.iload_n 3, 1) := by decide +kernel
theorem dL_isRefused_13 : decode cL_isRefused 13 = .ok (.ifCond .eq 12, 3) := by decide +kernel
theorem dL_isRefused_16 : decode cL_isRefused 16 = .ok (.iconst (-1), 1) := by decide +kernel
theorem dL_isRefused_17 : decode cL_isRefused 17 = .ok (.iload_n 2, 1) := by decide +kernel
theorem dL_isRefused_18 : decode cL_isRefused 18 = .ok (.bipush 30, 2) := by decide +kernel
theorem dL_isRefused_20 : decode cL_isRefused 20 = .ok (.irem, 1) := by decide +kernel
theorem dL_isRefused_21 : decode cL_isRefused 21 = .ok (.isub, 1) := by decide +kernel
theorem dL_isRefused_22 : decode cL_isRefused 22 = .ok (.goto 10, 3) := by decide +kernel
theorem dL_isRefused_25 : decode cL_isRefused 25 = .ok (.bipush 8, 2) := by decide +kernel
theorem dL_isRefused_27 : decode cL_isRefused 27 = .ok (.iload_n 2, 1) := by decide +kernel
theorem dL_isRefused_28 : decode cL_isRefused 28 = .ok (.bipush 30, 2) := by decide +kernel
theorem dL_isRefused_30 : decode cL_isRefused 30 = .ok (.irem, 1) := by decide +kernel
theorem dL_isRefused_31 : decode cL_isRefused 31 = .ok (.iadd, 1) := by decide +kernel
theorem dL_isRefused_32 : decode cL_isRefused 32 = .ok (.istore 4, 2) := by decide +kernel
theorem dL_isRefused_34 : decode cL_isRefused 34 = .ok (.iload_n 2, 1) := by decide +kernel
theorem dL_isRefused_35 : decode cL_isRefused 35 = .ok (.iconst 2, 1) := by decide +kernel
theorem dL_isRefused_36 : decode cL_isRefused 36 = .ok (.idiv, 1) := by decide +kernel
theorem dL_isRefused_37 : decode cL_isRefused 37 = .ok (.bipush 8, 2) := by decide +kernel
theorem dL_isRefused_39 : decode cL_isRefused 39 = .ok (.irem, 1) := by decide +kernel
theorem dL_isRefused_40 : decode cL_isRefused 40 = .ok (.istore 5, 2) := by decide +kernel
theorem dL_isRefused_42 : decode cL_isRefused 42 = .ok (.aload_n 0, 1) := by decide +kernel
theorem dL_isRefused_43 : decode cL_isRefused 43 = .ok (.invokestatic 154, 3) := by decide +kernel
theorem dL_isRefused_46 : decode cL_isRefused 46 = .ok (.lstore 6, 2) := by decide +kernel
theorem dL_isRefused_48 : decode cL_isRefused 48 = .ok (.aload_n 0, 1) := by decide +kernel
theorem dL_isRefused_49 : decode cL_isRefused 49 = .ok (.iload 4, 2) := by decide +kernel
theorem dL_isRefused_51 : decode cL_isRefused 51 = .ok (.iconst 5, 1) := by decide +kernel
theorem dL_isRefused_52 : decode cL_isRefused 52 = .ok (.iconst 5, 1) := by decide +kernel
theorem dL_isRefused_53 : decode cL_isRefused 53 = .ok (.invokestatic 158, 3) := by decide +kernel
theorem dL_isRefused_56 : decode cL_isRefused 56 = .ok (.sipush (-1232), 3) := by decide +kernel
theorem dL_isRefused_59 : decode cL_isRefused 59 = .ok (.if_icmp .ne 499, 3) := by decide +kernel
theorem dL_isRefused_62 : decode cL_isRefused 62 = .ok (.aload_n 0, 1) := by decide +kernel
theorem dL_isRefused_63 : decode cL_isRefused 63 = .ok (.iload 5, 2) := by decide +kernel
theorem dL_isRefused_65 : decode cL_isRefused 65 = .ok (.iload_n 3, 1) := by decide +kernel
theorem dL_isRefused_66 : decode cL_isRefused 66 = .ok (.ifCond .eq 12, 3) := by decide +kernel
theorem dL_isRefused_69 : decode cL_isRefused 69 = .ok (.iconst 0, 1) := by decide +kernel
theorem dL_isRefused_70 : decode cL_isRefused 70 = .ok (.iload_n 2, 1) := by decide +kernel
theorem dL_isRefused_71 : decode cL_isRefused 71 = .ok (.bipush 30, 2) := by decide +kernel
theorem dL_isRefused_73 : decode cL_isRefused 73 = .ok (.irem, 1) := by decide +kernel
theorem dL_isRefused_74 : decode cL_isRefused 74 = .ok (.isub, 1) := by decide +kernel
theorem dL_isRefused_75 : decode cL_isRefused 75 = .ok (.goto 5, 3) := by decide +kernel
theorem dL_isRefused_78 : decode cL_isRefused 78 = .ok (.bipush 101, 2) := by decide +kernel
theorem dL_isRefused_80 : decode cL_isRefused 80 = .ok (.iconst 5, 1) := by decide +kernel
theorem dL_isRefused_81 : decode cL_isRefused 81 = .ok (.invokestatic 158, 3) := by decide +kernel
theorem dL_isRefused_84 : decode cL_isRefused 84 = .ok (.sipush (-1232), 3) := by decide +kernel
theorem dL_isRefused_87 : decode cL_isRefused 87 = .ok (.if_icmp .ne 471, 3) := by decide +kernel
theorem dL_isRefused_90 : decode cL_isRefused 90 = .ok (.aload_n 0, 1) := by decide +kernel
theorem dL_isRefused_91 : decode cL_isRefused 91 = .ok (.iload 5, 2) := by decide +kernel
theorem dL_isRefused_93 : decode cL_isRefused 93 = .ok (.iconst 5, 1) := by decide +kernel
theorem dL_isRefused_94 : decode cL_isRefused 94 = .ok (.iload_n 3, 1) := by decide +kernel
theorem dL_isRefused_95 : decode cL_isRefused 95 = .ok (.ifCond .eq 12, 3) := by decide +kernel
theorem dL_isRefused_98 : decode cL_isRefused 98 = .ok (.iconst 0, 1) := by decide +kernel
theorem dL_isRefused_99 : decode cL_isRefused 99 = .ok (.iload_n 2, 1) := by decide +kernel
theorem dL_isRefused_100 : decode cL_isRefused 100 = .ok (.bipush 30, 2) := by decide +kernel
theorem dL_isRefused_102 : decode cL_isRefused 102 = .ok (.irem, 1) := by decide +kernel
theorem dL_isRefused_103 : decode cL_isRefused 103 = .ok (.isub, 1) := by decide +kernel
theorem dL_isRefused_104 : decode cL_isRefused 104 = .ok (.goto 6, 3) := by decide +kernel
theorem dL_isRefused_107 : decode cL_isRefused 107 = .ok (.sipush 1001, 3) := by decide +kernel
theorem dL_isRefused_110 : decode cL_isRefused 110 = .ok (.invokestatic 158, 3) := by decide +kernel
theorem dL_isRefused_113 : decode cL_isRefused 113 = .ok (.sipush (-1232), 3) := by decide +kernel
theorem dL_isRefused_116 : decode cL_isRefused 116 = .ok (.if_icmp .ne 442, 3) := by decide +kernel
theorem dL_isRefused_119 : decode cL_isRefused 119 = .ok (.aload_n 0, 1) := by decide +kernel
theorem dL_isRefused_120 : decode cL_isRefused 120 = .ok (.iconst 0, 1) := by decide +kernel
theorem dL_isRefused_121 : decode cL_isRefused 121 = .ok (.iload 4, 2) := by decide +kernel
theorem dL_isRefused_123 : decode cL_isRefused 123 = .ok (.iconst 5, 1) := by decide +kernel
theorem dL_isRefused_124 : decode cL_isRefused 124 = .ok (.invokestatic 138, 3) := by decide +kernel
theorem dL_isRefused_127 : decode cL_isRefused 127 = .ok (.sipush (-1232), 3) := by decide +kernel
theorem dL_isRefused_130 : decode cL_isRefused 130 = .ok (.if_icmp .ne 428, 3) := by decide +kernel
theorem dL_isRefused_133 : decode cL_isRefused 133 = .ok (.aload_n 0, 1) := by decide +kernel
theorem dL_isRefused_134 : decode cL_isRefused 134 = .ok (.iconst 0, 1) := by decide +kernel
theorem dL_isRefused_135 : decode cL_isRefused 135 = .ok (.iload 5, 2) := by decide +kernel
theorem dL_isRefused_137 : decode cL_isRefused 137 = .ok (.iload_n 3, 1) := by decide +kernel
theorem dL_isRefused_138 : decode cL_isRefused 138 = .ok (.ifCond .eq 12, 3) := by decide +kernel
theorem dL_isRefused_141 : decode cL_isRefused 141 = .ok (.iconst 0, 1) := by decide +kernel
theorem dL_isRefused_142 : decode cL_isRefused 142 = .ok (.iload_n 2, 1) := by decide +kernel
theorem dL_isRefused_143 : decode cL_isRefused 143 = .ok (.bipush 30, 2) := by decide +kernel
theorem dL_isRefused_145 : decode cL_isRefused 145 = .ok (.irem, 1) := by decide +kernel
theorem dL_isRefused_146 : decode cL_isRefused 146 = .ok (.isub, 1) := by decide +kernel
theorem dL_isRefused_147 : decode cL_isRefused 147 = .ok (.goto 5, 3) := by decide +kernel
theorem dL_isRefused_150 : decode cL_isRefused 150 = .ok (.bipush 51, 2) := by decide +kernel
theorem dL_isRefused_152 : decode cL_isRefused 152 = .ok (.invokestatic 138, 3) := by decide +kernel
theorem dL_isRefused_155 : decode cL_isRefused 155 = .ok (.sipush (-1232), 3) := by decide +kernel
theorem dL_isRefused_158 : decode cL_isRefused 158 = .ok (.if_icmp .ne 400, 3) := by decide +kernel
theorem dL_isRefused_161 : decode cL_isRefused 161 = .ok (.aload_n 0, 1) := by decide +kernel
theorem dL_isRefused_162 : decode cL_isRefused 162 = .ok (.iconst 1, 1) := by decide +kernel
theorem dL_isRefused_163 : decode cL_isRefused 163 = .ok (.iload_n 3, 1) := by decide +kernel
theorem dL_isRefused_164 : decode cL_isRefused 164 = .ok (.ifCond .eq 12, 3) := by decide +kernel
theorem dL_isRefused_167 : decode cL_isRefused 167 = .ok (.iconst (-1), 1) := by decide +kernel
theorem dL_isRefused_168 : decode cL_isRefused 168 = .ok (.iload_n 2, 1) := by decide +kernel
theorem dL_isRefused_169 : decode cL_isRefused 169 = .ok (.bipush 30, 2) := by decide +kernel
theorem dL_isRefused_171 : decode cL_isRefused 171 = .ok (.irem, 1) := by decide +kernel
theorem dL_isRefused_172 : decode cL_isRefused 172 = .ok (.isub, 1) := by decide +kernel
theorem dL_isRefused_173 : decode cL_isRefused 173 = .ok (.goto 6, 3) := by decide +kernel
theorem dL_isRefused_176 : decode cL_isRefused 176 = .ok (.sipush 1001, 3) := by decide +kernel
theorem dL_isRefused_179 : decode cL_isRefused 179 = .ok (.iconst 0, 1) := by decide +kernel
theorem dL_isRefused_180 : decode cL_isRefused 180 = .ok (.invokestatic 138, 3) := by decide +kernel
theorem dL_isRefused_183 : decode cL_isRefused 183 = .ok (.sipush (-1232), 3) := by decide +kernel
theorem dL_isRefused_186 : decode cL_isRefused 186 = .ok (.if_icmp .ne 372, 3) := by decide +kernel
theorem dL_isRefused_189 : decode cL_isRefused 189 = .ok (.aload_n 0, 1) := by decide +kernel
theorem dL_isRefused_190 : decode cL_isRefused 190 = .ok (.iconst 2, 1) := by decide +kernel
theorem dL_isRefused_191 : decode cL_isRefused 191 = .ok (.iload 4, 2) := by decide +kernel
theorem dL_isRefused_193 : decode cL_isRefused 193 = .ok (.iconst 5, 1) := by decide +kernel
theorem dL_isRefused_194 : decode cL_isRefused 194 = .ok (.invokestatic 138, 3) := by decide +kernel
theorem dL_isRefused_197 : decode cL_isRefused 197 = .ok (.sipush (-1232), 3) := by decide +kernel
theorem dL_isRefused_200 : decode cL_isRefused 200 = .ok (.if_icmp .ne 358, 3) := by decide +kernel
theorem dL_isRefused_203 : decode cL_isRefused 203 = .ok (.aload_n 0, 1) := by decide +kernel
theorem dL_isRefused_204 : decode cL_isRefused 204 = .ok (.iconst 2, 1) := by decide +kernel
theorem dL_isRefused_205 : decode cL_isRefused 205 = .ok (.iload 5, 2) := by decide +kernel
theorem dL_isRefused_207 : decode cL_isRefused 207 = .ok (.iload_n 3, 1) := by decide +kernel
theorem dL_isRefused_208 : decode cL_isRefused 208 = .ok (.ifCond .eq 12, 3) := by decide +kernel
theorem dL_isRefused_211 : decode cL_isRefused 211 = .ok (.iconst 0, 1) := by decide +kernel
theorem dL_isRefused_212 : decode cL_isRefused 212 = .ok (.iload_n 2, 1) := by decide +kernel
theorem dL_isRefused_213 : decode cL_isRefused 213 = .ok (.bipush 30, 2) := by decide +kernel
theorem dL_isRefused_215 : decode cL_isRefused 215 = .ok (.irem, 1) := by decide +kernel
theorem dL_isRefused_216 : decode cL_isRefused 216 = .ok (.isub, 1) := by decide +kernel
theorem dL_isRefused_217 : decode cL_isRefused 217 = .ok (.goto 6, 3) := by decide +kernel
theorem dL_isRefused_220 : decode cL_isRefused 220 = .ok (.sipush 10001, 3) := by decide +kernel
theorem dL_isRefused_223 : decode cL_isRefused 223 = .ok (.invokestatic 138, 3) := by decide +kernel
theorem dL_isRefused_226 : decode cL_isRefused 226 = .ok (.sipush (-1232), 3) := by decide +kernel
theorem dL_isRefused_229 : decode cL_isRefused 229 = .ok (.if_icmp .ne 329, 3) := by decide +kernel
theorem dL_isRefused_232 : decode cL_isRefused 232 = .ok (.aload_n 0, 1) := by decide +kernel
theorem dL_isRefused_233 : decode cL_isRefused 233 = .ok (.iconst 3, 1) := by decide +kernel
theorem dL_isRefused_234 : decode cL_isRefused 234 = .ok (.iload 4, 2) := by decide +kernel
theorem dL_isRefused_236 : decode cL_isRefused 236 = .ok (.iconst (-1), 1) := by decide +kernel
theorem dL_isRefused_237 : decode cL_isRefused 237 = .ok (.invokestatic 138, 3) := by decide +kernel
theorem dL_isRefused_240 : decode cL_isRefused 240 = .ok (.sipush (-1232), 3) := by decide +kernel
theorem dL_isRefused_243 : decode cL_isRefused 243 = .ok (.if_icmp .ne 315, 3) := by decide +kernel
theorem dL_isRefused_246 : decode cL_isRefused 246 = .ok (.aload_n 0, 1) := by decide +kernel
theorem dL_isRefused_247 : decode cL_isRefused 247 = .ok (.iconst 3, 1) := by decide +kernel
theorem dL_isRefused_248 : decode cL_isRefused 248 = .ok (.iload 5, 2) := by decide +kernel
theorem dL_isRefused_250 : decode cL_isRefused 250 = .ok (.iload_n 3, 1) := by decide +kernel
theorem dL_isRefused_251 : decode cL_isRefused 251 = .ok (.ifCond .eq 13, 3) := by decide +kernel
theorem dL_isRefused_254 : decode cL_isRefused 254 = .ok (.bipush (-2), 2) := by decide +kernel
theorem dL_isRefused_256 : decode cL_isRefused 256 = .ok (.iload_n 2, 1) := by decide +kernel
theorem dL_isRefused_257 : decode cL_isRefused 257 = .ok (.bipush 30, 2) := by decide +kernel
theorem dL_isRefused_259 : decode cL_isRefused 259 = .ok (.irem, 1) := by decide +kernel
theorem dL_isRefused_260 : decode cL_isRefused 260 = .ok (.isub, 1) := by decide +kernel
theorem dL_isRefused_261 : decode cL_isRefused 261 = .ok (.goto 5, 3) := by decide +kernel
theorem dL_isRefused_264 : decode cL_isRefused 264 = .ok (.bipush 11, 2) := by decide +kernel
theorem dL_isRefused_266 : decode cL_isRefused 266 = .ok (.invokestatic 138, 3) := by decide +kernel
theorem dL_isRefused_269 : decode cL_isRefused 269 = .ok (.sipush (-1232), 3) := by decide +kernel
theorem dL_isRefused_272 : decode cL_isRefused 272 = .ok (.if_icmp .ne 286, 3) := by decide +kernel
theorem dL_isRefused_275 : decode cL_isRefused 275 = .ok (.aload_n 0, 1) := by decide +kernel
theorem dL_isRefused_276 : decode cL_isRefused 276 = .ok (.iconst 4, 1) := by decide +kernel
theorem dL_isRefused_277 : decode cL_isRefused 277 = .ok (.iload 4, 2) := by decide +kernel
theorem dL_isRefused_279 : decode cL_isRefused 279 = .ok (.iconst 0, 1) := by decide +kernel
theorem dL_isRefused_280 : decode cL_isRefused 280 = .ok (.invokestatic 138, 3) := by decide +kernel
theorem dL_isRefused_283 : decode cL_isRefused 283 = .ok (.sipush (-1232), 3) := by decide +kernel
theorem dL_isRefused_286 : decode cL_isRefused 286 = .ok (.if_icmp .ne 272, 3) := by decide +kernel
theorem dL_isRefused_289 : decode cL_isRefused 289 = .ok (.aload_n 0, 1) := by decide +kernel
theorem dL_isRefused_290 : decode cL_isRefused 290 = .ok (.iconst 4, 1) := by decide +kernel
theorem dL_isRefused_291 : decode cL_isRefused 291 = .ok (.iload 5, 2) := by decide +kernel
theorem dL_isRefused_293 : decode cL_isRefused 293 = .ok (.iload_n 3, 1) := by decide +kernel
theorem dL_isRefused_294 : decode cL_isRefused 294 = .ok (.ifCond .eq 12, 3) := by decide +kernel
theorem dL_isRefused_297 : decode cL_isRefused 297 = .ok (.iconst (-1), 1) := by decide +kernel
theorem dL_isRefused_298 : decode cL_isRefused 298 = .ok (.iload_n 2, 1) := by decide +kernel
theorem dL_isRefused_299 : decode cL_isRefused 299 = .ok (.bipush 30, 2) := by decide +kernel
theorem dL_isRefused_301 : decode cL_isRefused 301 = .ok (.irem, 1) := by decide +kernel
theorem dL_isRefused_302 : decode cL_isRefused 302 = .ok (.isub, 1) := by decide +kernel
theorem dL_isRefused_303 : decode cL_isRefused 303 = .ok (.goto 4, 3) := by decide +kernel
theorem dL_isRefused_306 : decode cL_isRefused 306 = .ok (.iconst 4, 1) := by decide +kernel
theorem dL_isRefused_307 : decode cL_isRefused 307 = .ok (.invokestatic 138, 3) := by decide +kernel
theorem dL_isRefused_310 : decode cL_isRefused 310 = .ok (.sipush (-1232), 3) := by decide +kernel
theorem dL_isRefused_313 : decode cL_isRefused 313 = .ok (.if_icmp .ne 245, 3) := by decide +kernel
theorem dL_isRefused_316 : decode cL_isRefused 316 = .ok (.aload_n 0, 1) := by decide +kernel
theorem dL_isRefused_317 : decode cL_isRefused 317 = .ok (.iconst 5, 1) := by decide +kernel
theorem dL_isRefused_318 : decode cL_isRefused 318 = .ok (.iload 4, 2) := by decide +kernel
theorem dL_isRefused_320 : decode cL_isRefused 320 = .ok (.iconst 1, 1) := by decide +kernel
theorem dL_isRefused_321 : decode cL_isRefused 321 = .ok (.invokestatic 138, 3) := by decide +kernel
theorem dL_isRefused_324 : decode cL_isRefused 324 = .ok (.sipush (-1232), 3) := by decide +kernel
theorem dL_isRefused_327 : decode cL_isRefused 327 = .ok (.if_icmp .ne 231, 3) := by decide +kernel
theorem dL_isRefused_330 : decode cL_isRefused 330 = .ok (.aload_n 0, 1) := by decide +kernel
theorem dL_isRefused_331 : decode cL_isRefused 331 = .ok (.bipush 6, 2) := by decide +kernel
theorem dL_isRefused_333 : decode cL_isRefused 333 = .ok (.iload_n 3, 1) := by decide +kernel
theorem dL_isRefused_334 : decode cL_isRefused 334 = .ok (.ifCond .eq 12, 3) := by decide +kernel
theorem dL_isRefused_337 : decode cL_isRefused 337 = .ok (.iconst 0, 1) := by decide +kernel
theorem dL_isRefused_338 : decode cL_isRefused 338 = .ok (.iload_n 2, 1) := by decide +kernel
theorem dL_isRefused_339 : decode cL_isRefused 339 = .ok (.bipush 30, 2) := by decide +kernel
theorem dL_isRefused_341 : decode cL_isRefused 341 = .ok (.irem, 1) := by decide +kernel
theorem dL_isRefused_342 : decode cL_isRefused 342 = .ok (.isub, 1) := by decide +kernel
theorem dL_isRefused_343 : decode cL_isRefused 343 = .ok (.goto 5, 3) := by decide +kernel
theorem dL_isRefused_346 : decode cL_isRefused 346 = .ok (.bipush 101, 2) := by decide +kernel
theorem dL_isRefused_348 : decode cL_isRefused 348 = .ok (.iconst 0, 1) := by decide +kernel
theorem dL_isRefused_349 : decode cL_isRefused 349 = .ok (.invokestatic 138, 3) := by decide +kernel
theorem dL_isRefused_352 : decode cL_isRefused 352 = .ok (.sipush (-1232), 3) := by decide +kernel
theorem dL_isRefused_355 : decode cL_isRefused 355 = .ok (.if_icmp .ne 203, 3) := by decide +kernel
theorem dL_isRefused_358 : decode cL_isRefused 358 = .ok (.aload_n 0, 1) := by decide +kernel
theorem dL_isRefused_359 : decode cL_isRefused 359 = .ok (.iload 4, 2) := by decide +kernel
theorem dL_isRefused_361 : decode cL_isRefused 361 = .ok (.iconst 1, 1) := by decide +kernel
theorem dL_isRefused_362 : decode cL_isRefused 362 = .ok (.iconst 2, 1) := by decide +kernel
theorem dL_isRefused_363 : decode cL_isRefused 363 = .ok (.iconst 3, 1) := by decide +kernel
theorem dL_isRefused_364 : decode cL_isRefused 364 = .ok (.iconst 4, 1) := by decide +kernel
theorem dL_isRefused_365 : decode cL_isRefused 365 = .ok (.invokestatic 161, 3) := by decide +kernel
theorem dL_isRefused_368 : decode cL_isRefused 368 = .ok (.sipush (-1232), 3) := by decide +kernel
theorem dL_isRefused_371 : decode cL_isRefused 371 = .ok (.if_icmp .ne 187, 3) := by decide +kernel
theorem dL_isRefused_374 : decode cL_isRefused 374 = .ok (.aload_n 0, 1) := by decide +kernel
theorem dL_isRefused_375 : decode cL_isRefused 375 = .ok (.iload 5, 2) := by decide +kernel
theorem dL_isRefused_377 : decode cL_isRefused 377 = .ok (.iconst (-1), 1) := by decide +kernel
theorem dL_isRefused_378 : decode cL_isRefused 378 = .ok (.iload_n 2, 1) := by decide +kernel
theorem dL_isRefused_379 : decode cL_isRefused 379 = .ok (.bipush 30, 2) := by decide +kernel
theorem dL_isRefused_381 : decode cL_isRefused 381 = .ok (.irem, 1) := by decide +kernel
theorem dL_isRefused_382 : decode cL_isRefused 382 = .ok (.isub, 1) := by decide +kernel
theorem dL_isRefused_383 : decode cL_isRefused 383 = .ok (.iconst 2, 1) := by decide +kernel
theorem dL_isRefused_384 : decode cL_isRefused 384 = .ok (.iconst 3, 1) := by decide +kernel
theorem dL_isRefused_385 : decode cL_isRefused 385 = .ok (.iconst 4, 1) := by decide +kernel
theorem dL_isRefused_386 : decode cL_isRefused 386 = .ok (.invokestatic 161, 3) := by decide +kernel
theorem dL_isRefused_389 : decode cL_isRefused 389 = .ok (.sipush (-1232), 3) := by decide +kernel
theorem dL_isRefused_392 : decode cL_isRefused 392 = .ok (.if_icmp .ne 166, 3) := by decide +kernel
theorem dL_isRefused_395 : decode cL_isRefused 395 = .ok (.aload_n 0, 1) := by decide +kernel
theorem dL_isRefused_396 : decode cL_isRefused 396 = .ok (.iload 5, 2) := by decide +kernel
theorem dL_isRefused_398 : decode cL_isRefused 398 = .ok (.iconst 5, 1) := by decide +kernel
theorem dL_isRefused_399 : decode cL_isRefused 399 = .ok (.iload_n 3, 1) := by decide +kernel
theorem dL_isRefused_400 : decode cL_isRefused 400 = .ok (.ifCond .eq 7, 3) := by decide +kernel
theorem dL_isRefused_403 : decode cL_isRefused 403 = .ok (.iconst 4, 1) := by decide +kernel
theorem dL_isRefused_404 : decode cL_isRefused 404 = .ok (.goto 6, 3) := by decide +kernel
theorem dL_isRefused_407 : decode cL_isRefused 407 = .ok (.sipush 1001, 3) := by decide +kernel
theorem dL_isRefused_410 : decode cL_isRefused 410 = .ok (.iconst 3, 1) := by decide +kernel
theorem dL_isRefused_411 : decode cL_isRefused 411 = .ok (.iconst 4, 1) := by decide +kernel
theorem dL_isRefused_412 : decode cL_isRefused 412 = .ok (.invokestatic 161, 3) := by decide +kernel
theorem dL_isRefused_415 : decode cL_isRefused 415 = .ok (.sipush (-1232), 3) := by decide +kernel
theorem dL_isRefused_418 : decode cL_isRefused 418 = .ok (.if_icmp .ne 140, 3) := by decide +kernel
theorem dL_isRefused_421 : decode cL_isRefused 421 = .ok (.aload_n 0, 1) := by decide +kernel
theorem dL_isRefused_422 : decode cL_isRefused 422 = .ok (.iload 5, 2) := by decide +kernel
theorem dL_isRefused_424 : decode cL_isRefused 424 = .ok (.iconst 1, 1) := by decide +kernel
theorem dL_isRefused_425 : decode cL_isRefused 425 = .ok (.iconst 2, 1) := by decide +kernel
theorem dL_isRefused_426 : decode cL_isRefused 426 = .ok (.iload_n 3, 1) := by decide +kernel
theorem dL_isRefused_427 : decode cL_isRefused 427 = .ok (.ifCond .eq 12, 3) := by decide +kernel
theorem dL_isRefused_430 : decode cL_isRefused 430 = .ok (.iconst (-1), 1) := by decide +kernel
theorem dL_isRefused_431 : decode cL_isRefused 431 = .ok (.iload_n 2, 1) := by decide +kernel
theorem dL_isRefused_432 : decode cL_isRefused 432 = .ok (.bipush 30, 2) := by decide +kernel
theorem dL_isRefused_434 : decode cL_isRefused 434 = .ok (.irem, 1) := by decide +kernel
theorem dL_isRefused_435 : decode cL_isRefused 435 = .ok (.isub, 1) := by decide +kernel
theorem dL_isRefused_436 : decode cL_isRefused 436 = .ok (.goto 6, 3) := by decide +kernel
theorem dL_isRefused_439 : decode cL_isRefused 439 = .ok (.sipush 1001, 3) := by decide +kernel
theorem dL_isRefused_442 : decode cL_isRefused 442 = .ok (.iconst 4, 1) := by decide +kernel
theorem dL_isRefused_443 : decode cL_isRefused 443 = .ok (.invokestatic 161, 3) := by decide +kernel
theorem dL_isRefused_446 : decode cL_isRefused 446 = .ok (.sipush (-1232), 3) := by decide +kernel
theorem dL_isRefused_449 : decode cL_isRefused 449 = .ok (.if_icmp .ne 109, 3) := by decide +kernel
theorem dL_isRefused_452 : decode cL_isRefused 452 = .ok (.aload_n 0, 1) := by decide +kernel
theorem dL_isRefused_453 : decode cL_isRefused 453 = .ok (.iload 5, 2) := by decide +kernel
theorem dL_isRefused_455 : decode cL_isRefused 455 = .ok (.iconst 1, 1) := by decide +kernel
theorem dL_isRefused_456 : decode cL_isRefused 456 = .ok (.iconst 2, 1) := by decide +kernel
theorem dL_isRefused_457 : decode cL_isRefused 457 = .ok (.iconst 3, 1) := by decide +kernel
theorem dL_isRefused_458 : decode cL_isRefused 458 = .ok (.iload_n 3, 1) := by decide +kernel
theorem dL_isRefused_459 : decode cL_isRefused 459 = .ok (.ifCond .eq 12, 3) := by decide +kernel
theorem dL_isRefused_462 : decode cL_isRefused 462 = .ok (.iconst (-1), 1) := by decide +kernel
theorem dL_isRefused_463 : decode cL_isRefused 463 = .ok (.iload_n 2, 1) := by decide +kernel
theorem dL_isRefused_464 : decode cL_isRefused 464 = .ok (.bipush 30, 2) := by decide +kernel
theorem dL_isRefused_466 : decode cL_isRefused 466 = .ok (.irem, 1) := by decide +kernel
theorem dL_isRefused_467 : decode cL_isRefused 467 = .ok (.isub, 1) := by decide +kernel
theorem dL_isRefused_468 : decode cL_isRefused 468 = .ok (.goto 5, 3) := by decide +kernel
theorem dL_isRefused_471 : decode cL_isRefused 471 = .ok (.bipush 101, 2) := by decide +kernel
theorem dL_isRefused_473 : decode cL_isRefused 473 = .ok (.invokestatic 161, 3) := by decide +kernel
theorem dL_isRefused_476 : decode cL_isRefused 476 = .ok (.sipush (-1232), 3) := by decide +kernel
theorem dL_isRefused_479 : decode cL_isRefused 479 = .ok (.if_icmp .ne 79, 3) := by decide +kernel
theorem dL_isRefused_482 : decode cL_isRefused 482 = .ok (.aload_n 0, 1) := by decide +kernel
theorem dL_isRefused_483 : decode cL_isRefused 483 = .ok (.iload_n 3, 1) := by decide +kernel
theorem dL_isRefused_484 : decode cL_isRefused 484 = .ok (.ifCond .eq 12, 3) := by decide +kernel
theorem dL_isRefused_487 : decode cL_isRefused 487 = .ok (.iconst 0, 1) := by decide +kernel
theorem dL_isRefused_488 : decode cL_isRefused 488 = .ok (.iload_n 2, 1) := by decide +kernel
theorem dL_isRefused_489 : decode cL_isRefused 489 = .ok (.bipush 30, 2) := by decide +kernel
theorem dL_isRefused_491 : decode cL_isRefused 491 = .ok (.irem, 1) := by decide +kernel
theorem dL_isRefused_492 : decode cL_isRefused 492 = .ok (.isub, 1) := by decide +kernel
theorem dL_isRefused_493 : decode cL_isRefused 493 = .ok (.goto 5, 3) := by decide +kernel
theorem dL_isRefused_496 : decode cL_isRefused 496 = .ok (.bipush 51, 2) := by decide +kernel
theorem dL_isRefused_498 : decode cL_isRefused 498 = .ok (.bipush 60, 2) := by decide +kernel
theorem dL_isRefused_500 : decode cL_isRefused 500 = .ok (.invokestatic 165, 3) := by decide +kernel
theorem dL_isRefused_503 : decode cL_isRefused 503 = .ok (.sipush (-1232), 3) := by decide +kernel
theorem dL_isRefused_506 : decode cL_isRefused 506 = .ok (.if_icmp .ne 52, 3) := by decide +kernel
theorem dL_isRefused_509 : decode cL_isRefused 509 = .ok (.aload_n 0, 1) := by decide +kernel
theorem dL_isRefused_510 : decode cL_isRefused 510 = .ok (.iconst 5, 1) := by decide +kernel
theorem dL_isRefused_511 : decode cL_isRefused 511 = .ok (.iload_n 3, 1) := by decide +kernel
theorem dL_isRefused_512 : decode cL_isRefused 512 = .ok (.ifCond .eq 7, 3) := by decide +kernel
theorem dL_isRefused_515 : decode cL_isRefused 515 = .ok (.iconst 4, 1) := by decide +kernel
theorem dL_isRefused_516 : decode cL_isRefused 516 = .ok (.goto 5, 3) := by decide +kernel
theorem dL_isRefused_519 : decode cL_isRefused 519 = .ok (.bipush 101, 2) := by decide +kernel
theorem dL_isRefused_521 : decode cL_isRefused 521 = .ok (.invokestatic 165, 3) := by decide +kernel
theorem dL_isRefused_524 : decode cL_isRefused 524 = .ok (.sipush (-1232), 3) := by decide +kernel
theorem dL_isRefused_527 : decode cL_isRefused 527 = .ok (.if_icmp .ne 31, 3) := by decide +kernel
theorem dL_isRefused_530 : decode cL_isRefused 530 = .ok (.aload_n 0, 1) := by decide +kernel
theorem dL_isRefused_531 : decode cL_isRefused 531 = .ok (.iload 4, 2) := by decide +kernel
theorem dL_isRefused_533 : decode cL_isRefused 533 = .ok (.invokestatic 169, 3) := by decide +kernel
theorem dL_isRefused_536 : decode cL_isRefused 536 = .ok (.sipush (-1232), 3) := by decide +kernel
theorem dL_isRefused_539 : decode cL_isRefused 539 = .ok (.if_icmp .ne 19, 3) := by decide +kernel
theorem dL_isRefused_542 : decode cL_isRefused 542 = .ok (.aload_n 0, 1) := by decide +kernel
theorem dL_isRefused_543 : decode cL_isRefused 543 = .ok (.iload 4, 2) := by decide +kernel
theorem dL_isRefused_545 : decode cL_isRefused 545 = .ok (.invokestatic 173, 3) := by decide +kernel
theorem dL_isRefused_548 : decode cL_isRefused 548 = .ok (.sipush (-1232), 3) := by decide +kernel
theorem dL_isRefused_551 : decode cL_isRefused 551 = .ok (.if_icmp .ne 7, 3) := by decide +kernel
theorem dL_isRefused_554 : decode cL_isRefused 554 = .ok (.iconst 1, 1) := by decide +kernel
theorem dL_isRefused_555 : decode cL_isRefused 555 = .ok (.goto 4, 3) := by decide +kernel
theorem dL_isRefused_558 : decode cL_isRefused 558 = .ok (.iconst 0, 1) := by decide +kernel
theorem dL_isRefused_559 : decode cL_isRefused 559 = .ok (.istore 8, 2) := by decide +kernel
theorem dL_isRefused_561 : decode cL_isRefused 561 = .ok (.iconst 0, 1) := by decide +kernel
theorem dL_isRefused_562 : decode cL_isRefused 562 = .ok (.istore 9, 2) := by decide +kernel
theorem dL_isRefused_564 : decode cL_isRefused 564 = .ok (.iload 9, 2) := by decide +kernel
theorem dL_isRefused_566 : decode cL_isRefused 566 = .ok (.bipush 15, 2) := by decide +kernel
theorem dL_isRefused_568 : decode cL_isRefused 568 = .ok (.if_icmp .ge 59, 3) := by decide +kernel
theorem dL_isRefused_571 : decode cL_isRefused 571 = .ok (.iload 8, 2) := by decide +kernel
theorem dL_isRefused_573 : decode cL_isRefused 573 = .ok (.ifCond .eq 54, 3) := by decide +kernel
theorem dL_isRefused_576 : decode cL_isRefused 576 = .ok (.aload_n 0, 1) := by decide +kernel
theorem dL_isRefused_577 : decode cL_isRefused 577 = .ok (.iload 9, 2) := by decide +kernel
theorem dL_isRefused_579 : decode cL_isRefused 579 = .ok (.iload 4, 2) := by decide +kernel
theorem dL_isRefused_581 : decode cL_isRefused 581 = .ok (.iconst 0, 1) := by decide +kernel
theorem dL_isRefused_582 : decode cL_isRefused 582 = .ok (.invokestatic 176, 3) := by decide +kernel
theorem dL_isRefused_585 : decode cL_isRefused 585 = .ok (.sipush (-1232), 3) := by decide +kernel
theorem dL_isRefused_588 : decode cL_isRefused 588 = .ok (.if_icmp .ne 30, 3) := by decide +kernel
theorem dL_isRefused_591 : decode cL_isRefused 591 = .ok (.iload 9, 2) := by decide +kernel
theorem dL_isRefused_593 : decode cL_isRefused 593 = .ok (.bipush 10, 2) := by decide +kernel
theorem dL_isRefused_595 : decode cL_isRefused 595 = .ok (.if_icmp .lt 19, 3) := by decide +kernel
theorem dL_isRefused_598 : decode cL_isRefused 598 = .ok (.aload_n 0, 1) := by decide +kernel
theorem dL_isRefused_599 : decode cL_isRefused 599 = .ok (.iload 9, 2) := by decide +kernel
theorem dL_isRefused_601 : decode cL_isRefused 601 = .ok (.iload 5, 2) := by decide +kernel
theorem dL_isRefused_603 : decode cL_isRefused 603 = .ok (.iload 4, 2) := by decide +kernel
theorem dL_isRefused_605 : decode cL_isRefused 605 = .ok (.invokestatic 176, 3) := by decide +kernel
theorem dL_isRefused_608 : decode cL_isRefused 608 = .ok (.sipush (-1232), 3) := by decide +kernel
theorem dL_isRefused_611 : decode cL_isRefused 611 = .ok (.if_icmp .ne 7, 3) := by decide +kernel
theorem dL_isRefused_614 : decode cL_isRefused 614 = .ok (.iconst 1, 1) := by decide +kernel
theorem dL_isRefused_615 : decode cL_isRefused 615 = .ok (.goto 4, 3) := by decide +kernel
theorem dL_isRefused_618 : decode cL_isRefused 618 = .ok (.iconst 0, 1) := by decide +kernel
theorem dL_isRefused_619 : decode cL_isRefused 619 = .ok (.istore 8, 2) := by decide +kernel
theorem dL_isRefused_621 : decode cL_isRefused 621 = .ok (.iinc 9 1, 3) := by decide +kernel
theorem dL_isRefused_624 : decode cL_isRefused 624 = .ok (.goto (-60), 3) := by decide +kernel
theorem dL_isRefused_627 : decode cL_isRefused 627 = .ok (.iconst 0, 1) := by decide +kernel
theorem dL_isRefused_628 : decode cL_isRefused 628 = .ok (.istore 9, 2) := by decide +kernel
theorem dL_isRefused_630 : decode cL_isRefused 630 = .ok (.iload 9, 2) := by decide +kernel
theorem dL_isRefused_632 : decode cL_isRefused 632 = .ok (.bipush 8, 2) := by decide +kernel
theorem dL_isRefused_634 : decode cL_isRefused 634 = .ok (.if_icmp .ge 79, 3) := by decide +kernel
theorem dL_isRefused_637 : decode cL_isRefused 637 = .ok (.iload 8, 2) := by decide +kernel
theorem dL_isRefused_639 : decode cL_isRefused 639 = .ok (.ifCond .eq 74, 3) := by decide +kernel
theorem dL_isRefused_642 : decode cL_isRefused 642 = .ok (.aload_n 1, 1) := by decide +kernel
theorem dL_isRefused_643 : decode cL_isRefused 643 = .ok (.bipush 8, 2) := by decide +kernel
theorem dL_isRefused_645 : decode cL_isRefused 645 = .ok (.iload 9, 2) := by decide +kernel
theorem dL_isRefused_647 : decode cL_isRefused 647 = .ok (.imul, 1) := by decide +kernel
theorem dL_isRefused_648 : decode cL_isRefused 648 = .ok (.iconst 1, 1) := by decide +kernel
theorem dL_isRefused_649 : decode cL_isRefused 649 = .ok (.iadd, 1) := by decide +kernel
theorem dL_isRefused_650 : decode cL_isRefused 650 = .ok (.iaload, 1) := by decide +kernel
theorem dL_isRefused_651 : decode cL_isRefused 651 = .ok (.ifCond .ne 12, 3) := by decide +kernel
theorem dL_isRefused_654 : decode cL_isRefused 654 = .ok (.aload_n 0, 1) := by decide +kernel
theorem dL_isRefused_655 : decode cL_isRefused 655 = .ok (.iload 9, 2) := by decide +kernel
theorem dL_isRefused_657 : decode cL_isRefused 657 = .ok (.invokestatic 173, 3) := by decide +kernel
theorem dL_isRefused_660 : decode cL_isRefused 660 = .ok (.goto 9, 3) := by decide +kernel
theorem dL_isRefused_663 : decode cL_isRefused 663 = .ok (.aload_n 0, 1) := by decide +kernel
theorem dL_isRefused_664 : decode cL_isRefused 664 = .ok (.iload 9, 2) := by decide +kernel
theorem dL_isRefused_666 : decode cL_isRefused 666 = .ok (.invokestatic 169, 3) := by decide +kernel
theorem dL_isRefused_669 : decode cL_isRefused 669 = .ok (.sipush (-1233), 3) := by decide +kernel
theorem dL_isRefused_672 : decode cL_isRefused 672 = .ok (.if_icmp .ne 32, 3) := by decide +kernel
theorem dL_isRefused_675 : decode cL_isRefused 675 = .ok (.aload_n 1, 1) := by decide +kernel
theorem dL_isRefused_676 : decode cL_isRefused 676 = .ok (.bipush 8, 2) := by decide +kernel
theorem dL_isRefused_678 : decode cL_isRefused 678 = .ok (.iload 9, 2) := by decide +kernel
theorem dL_isRefused_680 : decode cL_isRefused 680 = .ok (.imul, 1) := by decide +kernel
theorem dL_isRefused_681 : decode cL_isRefused 681 = .ok (.iaload, 1) := by decide +kernel
theorem dL_isRefused_682 : decode cL_isRefused 682 = .ok (.iconst 1, 1) := by decide +kernel
theorem dL_isRefused_683 : decode cL_isRefused 683 = .ok (.if_icmp .eq 17, 3) := by decide +kernel
theorem dL_isRefused_686 : decode cL_isRefused 686 = .ok (.aload_n 0, 1) := by decide +kernel
theorem dL_isRefused_687 : decode cL_isRefused 687 = .ok (.iconst 3, 1) := by decide +kernel
theorem dL_isRefused_688 : decode cL_isRefused 688 = .ok (.iload 9, 2) := by decide +kernel
theorem dL_isRefused_690 : decode cL_isRefused 690 = .ok (.iconst (-1), 1) := by decide +kernel
theorem dL_isRefused_691 : decode cL_isRefused 691 = .ok (.invokestatic 138, 3) := by decide +kernel
theorem dL_isRefused_694 : decode cL_isRefused 694 = .ok (.sipush (-1233), 3) := by decide +kernel
theorem dL_isRefused_697 : decode cL_isRefused 697 = .ok (.if_icmp .ne 7, 3) := by decide +kernel
theorem dL_isRefused_700 : decode cL_isRefused 700 = .ok (.iconst 1, 1) := by decide +kernel
theorem dL_isRefused_701 : decode cL_isRefused 701 = .ok (.goto 4, 3) := by decide +kernel
theorem dL_isRefused_704 : decode cL_isRefused 704 = .ok (.iconst 0, 1) := by decide +kernel
theorem dL_isRefused_705 : decode cL_isRefused 705 = .ok (.istore 8, 2) := by decide +kernel
theorem dL_isRefused_707 : decode cL_isRefused 707 = .ok (.iinc 9 1, 3) := by decide +kernel
theorem dL_isRefused_710 : decode cL_isRefused 710 = .ok (.goto (-80), 3) := by decide +kernel
theorem dL_isRefused_713 : decode cL_isRefused 713 = .ok (.iload 8, 2) := by decide +kernel
theorem dL_isRefused_715 : decode cL_isRefused 715 = .ok (.ifCond .eq 17, 3) := by decide +kernel
theorem dL_isRefused_718 : decode cL_isRefused 718 = .ok (.aload_n 0, 1) := by decide +kernel
theorem dL_isRefused_719 : decode cL_isRefused 719 = .ok (.invokestatic 154, 3) := by decide +kernel
theorem dL_isRefused_722 : decode cL_isRefused 722 = .ok (.lload 6, 2) := by decide +kernel
theorem dL_isRefused_724 : decode cL_isRefused 724 = .ok (.lcmp, 1) := by decide +kernel
theorem dL_isRefused_725 : decode cL_isRefused 725 = .ok (.ifCond .ne 7, 3) := by decide +kernel
theorem dL_isRefused_728 : decode cL_isRefused 728 = .ok (.iconst 1, 1) := by decide +kernel
theorem dL_isRefused_729 : decode cL_isRefused 729 = .ok (.goto 4, 3) := by decide +kernel
theorem dL_isRefused_732 : decode cL_isRefused 732 = .ok (.iconst 0, 1) := by decide +kernel
theorem dL_isRefused_733 : decode cL_isRefused 733 = .ok (.ireturn, 1) := by decide +kernel
set_option maxRecDepth 20000 in
theorem ggL_law_X3_init : GoodIn wsL_law wsX3_init := goodIn_r _ [6, 7, 8, 9, 10, 11, 12, 13, 14, 15, 16, 17, 18, 19, 20, 21, 22, 23, 24, 25, 26, 3, 27, 28, 29, 30, 31, 32, 33, 34, 35, 36, 37, 38, 39, 40, 41, 42, 43, 44, 45, 46, 47, 48, 49, 50, 51, 52, 53, 54, 55, 56, 57, 58, 59, 60, 61, 62, 63, 64, 65, 66, 67, 68, 436, 437, 438, 439, 440, 441, 442, 443, 432, 433, 434, 435, 444, 445, 446, 447, 448, 449, 450, 451, 452, 453, 454, 455, 456, 457, 458, 459, 460, 461, 462, 463] (by decide +kernel) (by decide +kernel)
set_option maxRecDepth 20000 in
theorem gL_law_X3_init : GoodIn wsL_law (wsX3_init) := ggL_law_X3_init
set_option maxRecDepth 20000 in
theorem ggL_law_L_isRefused : GoodIn wsL_law wsL_isRefused := goodIn_ca (goodIn_ca (goodIn_c1 (goodIn_1 (i := 72) rfl rfl) (goodIn_app (goodIn_app (goodIn_app (goodIn_app (goodIn_app (goodIn_r _ [73, 74, 71, 75, 76, 77, 78, 79, 80, 81, 82, 83, 84, 85, 86, 2, 87, 22, 88, 89, 90, 91, 21, 92] (by decide +kernel) (by decide +kernel)) (goodIn_app (goodIn_r _ [93, 94, 95, 96, 97, 98, 99, 20, 100, 56, 101, 102, 103, 104, 65, 105, 106, 107, 108, 109, 110, 111, 112, 113] (by decide +kernel) (by decide +kernel)) (goodIn_app (goodIn_r _ [114, 115, 116, 13, 117, 118, 119, 120, 121, 122, 123, 124, 125, 126, 127, 128, 129, 17, 130, 131, 132, 133, 134, 135] (by decide +kernel) (by decide +kernel)) (goodIn_app (goodIn_r _ [136, 137, 138, 139, 140, 141, 142, 12, 143, 27, 29, 144, 145, 146, 147, 61, 148, 149, 150, 151, 60, 152, 153, 154] (by decide +kernel) (by decide +kernel)) (goodIn_app (goodIn_r _ [155, 156, 157, 158, 159, 160, 161, 162, 163, 164, 165, 166, 167, 168, 169, 170, 171, 172, 173, 174, 175, 176, 177, 178] (by decide +kernel) (by decide +kernel)) (goodIn_app (goodIn_r _ [179, 180, 181, 182, 183, 184, 185, 186, 187, 188, 189, 190, 191, 192, 193, 194, 195, 196, 197, 198, 199, 200, 201, 202] (by decide +kernel) (by decide +kernel)) (goodIn_app (goodIn_r _ [203, 204, 205, 206, 207, 208, 209, 210, 211, 212, 213, 214, 215, 216, 217, 218, 219, 220, 221, 222, 223, 224, 225, 226] (by decide +kernel) (by decide +kernel)) (goodIn_app (goodIn_r _ [227, 228, 229, 230, 231, 232, 233, 234, 235, 236, 237, 238, 239, 240, 241, 242, 243, 34, 30, 244, 245, 246, 247, 31] (by decide +kernel) (by decide +kernel)) (goodIn_app (goodIn_r _ [248, 249, 250, 251, 252, 253, 254, 255, 32, 256, 257, 258, 16, 259, 44, 43, 260, 261, 262, 263, 264, 265, 266, 267] (by decide +kernel) (by decide +kernel)) (goodIn_app (goodIn_r _ [28, 268, 269, 270, 33, 271, 272, 273, 274, 275, 276, 277, 278, 279, 57, 62, 63, 64, 280, 281, 282, 283, 284, 285] (by decide +kernel) (by decide +kernel)) (goodIn_app (goodIn_r _ [286, 287, 58, 68, 288, 289, 290, 291, 292, 293, 294, 295, 296, 297, 298, 299, 300, 301, 302, 303, 304, 305, 306, 307] (by decide +kernel) (by decide +kernel)) (goodIn_app (goodIn_r _ [308, 309, 310, 311, 312, 67, 66, 313, 314, 315, 316, 317, 318, 319, 320, 321, 322, 323, 324, 325, 326, 327, 328, 329] (by decide +kernel) (by decide +kernel)) (goodIn_app (goodIn_r _ [330, 331, 49, 332, 333, 334, 335, 46, 45, 336, 337, 338, 339, 340, 341, 342, 343, 344, 345, 346, 347, 348, 349, 350] (by decide +kernel) (by decide +kernel)) (goodIn_app (goodIn_r _ [351, 352, 353, 354, 355, 356, 357, 358, 359, 360, 361, 362, 363, 364, 365, 366, 367, 368, 369, 370, 36, 37, 38, 371] (by decide +kernel) (by decide +kernel)) (goodIn_app (goodIn_r _ [372, 373, 374, 375, 376, 377, 378, 379, 380, 381, 382, 383, 384, 385, 386, 387, 388, 389, 390, 391, 392, 393, 394, 395] (by decide +kernel) (by decide +kernel)) (goodIn_r _ [396, 397, 398, 399, 400, 401, 402, 403, 404, 405, 406, 407, 408] (by decide +kernel) (by decide +kernel))))))))))))))))) (goodIn_sub inlX3 (by decide +kernel))) (goodIn_sub inlX1 (by decide +kernel))) (goodIn_sub inlX2 (by decide +kernel))) (goodIn_sub inlX0 (by decide +kernel)))) (goodIn_sub (fun _ h => List.mem_append_left _ (List.mem_append_right _ h)) (by decide +kernel))) (goodIn_sub (fun _ h => List.mem_append_right _ h) (by decide +kernel))
set_option maxRecDepth 20000 in
theorem gL_law_L_isRefused : GoodIn wsL_law (va_wsS RL 180 yL_isRefused wsL_isRefused) := goodIn_app (goodIn_of _ (by decide +kernel)) ggL_law_L_isRefused
set_option maxRecDepth 20000 in
theorem ggL_law_L_dice : GoodIn wsL_law wsL_dice := goodIn_r _ [411, 412, 413] (by decide +kernel) (by decide +kernel)
set_option maxRecDepth 20000 in
theorem gL_law_L_dice : GoodIn wsL_law (va_wsS RL 184 yL_dice wsL_dice) := goodIn_app (goodIn_of _ (by decide +kernel)) ggL_law_L_dice
set_option maxRecDepth 20000 in
theorem ggL_law_L_shaped : GoodIn wsL_law wsL_shaped := goodIn_ca (goodIn_r _ [188, 189, 190, 191, 192, 2, 193, 13, 194, 195, 118, 119, 120, 121, 122, 123, 124, 125, 432, 433, 434, 435, 436, 437, 438, 439, 440, 441, 442, 443] (by decide +kernel) (by decide +kernel)) (goodIn_sub (fun _ h => List.mem_append_left _ (List.mem_append_right _ h)) (by decide +kernel))
set_option maxRecDepth 20000 in
theorem gL_law_L_shaped : GoodIn wsL_law (va_wsS RL 158 yL_shaped wsL_shaped) := goodIn_app (goodIn_of _ (by decide +kernel)) ggL_law_L_shaped
set_option maxRecDepth 20000 in
theorem ggL_law_X3_level : GoodIn wsL_law wsX3_level := goodIn_ca (goodIn_r _ [385, 13, 118, 119, 2, 120, 121, 122, 123, 124, 125, 140, 141, 142, 12, 143, 27, 29, 432, 433, 434, 435, 436, 437, 438, 439, 440, 441, 442, 443] (by decide +kernel) (by decide +kernel)) (goodIn_sub (fun _ h => List.mem_append_left _ (List.mem_append_right _ h)) (by decide +kernel))
set_option maxRecDepth 20000 in
theorem gL_law_X3_level : GoodIn wsL_law (wsV RL 64 RX3 yX3_level wsX3_level) := goodIn_app (goodIn_of _ (by decide +kernel)) ggL_law_X3_level
set_option maxRecDepth 20000 in
theorem ggL_law_X3_volume : GoodIn wsL_law wsX3_volume := goodIn_ca (goodIn_r _ [116, 13, 117, 118, 119, 2, 120, 121, 122, 123, 124, 125, 432, 433, 434, 435, 436, 437, 438, 439, 440, 441, 442, 443] (by decide +kernel) (by decide +kernel)) (goodIn_sub (fun _ h => List.mem_append_left _ (List.mem_append_right _ h)) (by decide +kernel))
set_option maxRecDepth 20000 in
theorem gL_law_X3_volume : GoodIn wsL_law (wsV RL 58 RX3 yX3_volume wsX3_volume) := goodIn_app (goodIn_of _ (by decide +kernel)) ggL_law_X3_volume
set_option maxRecDepth 20000 in
theorem ggL_law_L_act : GoodIn wsL_law wsL_act := goodIn_ca (goodIn_ca (goodIn_r _ [198, 189, 199, 200, 201, 202, 2, 203, 17, 204, 118, 119, 120, 121, 122, 123, 124, 125, 205, 206, 207, 208, 13, 209, 210, 211, 212, 213, 214, 215, 216, 217, 218, 219, 220, 221, 130, 222, 223, 224, 225, 21, 226, 227, 228, 229, 230, 231, 232, 233, 234, 235, 22, 236, 237, 238, 239, 240, 241, 242, 12, 243, 34, 30, 244, 245, 246, 247, 29, 31, 248, 249, 250, 251, 252, 253, 254, 255, 32, 256, 257, 258, 16, 259, 44, 43, 260, 261, 262, 263, 264, 265, 266, 267, 27, 28, 268, 269, 270, 33, 271, 272, 273, 20, 274, 56, 275, 141, 142, 143, 276, 277, 278, 279, 57, 61, 62, 60, 63, 64, 280, 281, 282, 283, 284, 285, 286, 287, 58, 68, 288, 158, 159, 160, 161, 162, 163, 164, 65, 289, 290, 291, 292, 293, 294, 295, 296, 297, 298, 299, 300, 301, 302, 303, 304, 305, 306, 307, 308, 309, 310, 311, 312, 67, 66, 313, 314, 315, 316, 156, 317, 318, 319, 320, 321, 184, 322, 323, 324, 325, 326, 148, 149, 150, 151, 327, 328, 329, 330, 331, 49, 332, 333, 334, 335, 46, 45, 336, 432, 433, 434, 435, 444, 445, 446, 447, 448, 449, 450, 451, 436, 437, 438, 439, 440, 441, 442, 443, 452, 453, 454, 455, 456, 457, 458, 459, 460, 461, 462, 463] (by decide +kernel) (by decide +kernel)) (goodIn_sub (fun _ h => List.mem_append_left _ (List.mem_append_right _ h)) (by decide +kernel))) (goodIn_sub (fun _ h => List.mem_append_right _ h) (by decide +kernel))
set_option maxRecDepth 20000 in
theorem gL_law_L_act : GoodIn wsL_law (va_wsS RL 138 yL_act wsL_act) := goodIn_app (goodIn_of _ (by decide +kernel)) ggL_law_L_act
set_option maxRecDepth 20000 in
theorem ggL_law_L_ruled : GoodIn wsL_law wsL_ruled := goodIn_ca (goodIn_r _ [339, 189, 340, 341, 342, 2, 343, 17, 344, 345, 322, 321, 118, 119, 120, 121, 122, 123, 124, 125, 432, 433, 434, 435, 444, 445, 446, 447, 448, 449, 450, 451] (by decide +kernel) (by decide +kernel)) (goodIn_sub (fun _ h => List.mem_append_left _ (List.mem_append_right _ h)) (by decide +kernel))
set_option maxRecDepth 20000 in
theorem gL_law_L_ruled : GoodIn wsL_law (va_wsS RL 161 yL_ruled wsL_ruled) := goodIn_app (goodIn_of _ (by decide +kernel)) ggL_law_L_ruled
set_option maxRecDepth 20000 in
theorem ggL_law_X3_opening : GoodIn wsL_law wsX3_opening := goodIn_ca (goodIn_r _ [129, 17, 130, 118, 119, 2, 120, 121, 122, 123, 124, 125, 432, 433, 434, 435, 444, 445, 446, 447, 448, 449, 450, 451] (by decide +kernel) (by decide +kernel)) (goodIn_sub (fun _ h => List.mem_append_left _ (List.mem_append_right _ h)) (by decide +kernel))
set_option maxRecDepth 20000 in
theorem gL_law_X3_opening : GoodIn wsL_law (wsV RL 73 RX3 yX3_opening wsX3_opening) := goodIn_app (goodIn_of _ (by decide +kernel)) ggL_law_X3_opening
set_option maxRecDepth 20000 in
theorem ggL_law_X3_time : GoodIn wsL_law wsX3_time := goodIn_r _ [87, 22, 432, 433, 434, 435] (by decide +kernel) (by decide +kernel)
set_option maxRecDepth 20000 in
theorem gL_law_X3_time : GoodIn wsL_law (wsV RL 103 RX3 yX3_time wsX3_time) := goodIn_app (goodIn_of _ (by decide +kernel)) ggL_law_X3_time
set_option maxRecDepth 20000 in
theorem ggL_law_L_fallen : GoodIn wsL_law wsL_fallen := goodIn_ca (goodIn_ca (goodIn_r _ [357, 189, 199, 358, 359, 360, 2, 361, 219, 220, 21, 156, 118, 119, 120, 121, 122, 123, 124, 125, 432, 433, 434, 435, 452, 453, 454, 455, 456, 457, 458, 459, 460, 461, 462, 463] (by decide +kernel) (by decide +kernel)) (goodIn_sub (fun _ h => List.mem_append_right _ h) (by decide +kernel))) (goodIn_sub (fun _ h => List.mem_append_left _ (List.mem_append_right _ h)) (by decide +kernel))
set_option maxRecDepth 20000 in
theorem gL_law_L_fallen : GoodIn wsL_law (va_wsS RL 169 yL_fallen wsL_fallen) := goodIn_app (goodIn_of _ (by decide +kernel)) ggL_law_L_fallen
set_option maxRecDepth 20000 in
theorem ggL_law_L_risen : GoodIn wsL_law wsL_risen := goodIn_ca (goodIn_ca (goodIn_r _ [364, 189, 199, 365, 366, 367, 2, 368, 219, 220, 21, 156, 369, 22, 118, 119, 120, 121, 122, 123, 124, 125, 370, 36, 37, 38, 432, 433, 434, 435, 452, 453, 454, 455, 456, 457, 458, 459, 460, 461, 462, 463] (by decide +kernel) (by decide +kernel)) (goodIn_sub (fun _ h => List.mem_append_right _ h) (by decide +kernel))) (goodIn_sub (fun _ h => List.mem_append_left _ (List.mem_append_right _ h)) (by decide +kernel))
set_option maxRecDepth 20000 in
theorem gL_law_L_risen : GoodIn wsL_law (va_wsS RL 173 yL_risen wsL_risen) := goodIn_app (goodIn_of _ (by decide +kernel)) ggL_law_L_risen
set_option maxRecDepth 20000 in
theorem ggL_law_L_timed : GoodIn wsL_law wsL_timed := goodIn_ca (goodIn_r _ [348, 189, 349, 350, 351, 2, 352, 21, 353, 354, 121, 122, 123, 124, 125, 432, 433, 434, 435, 452, 453, 454, 455, 456, 457, 458, 459, 460, 461, 462, 463] (by decide +kernel) (by decide +kernel)) (goodIn_sub (fun _ h => List.mem_append_left _ (List.mem_append_right _ h)) (by decide +kernel))
set_option maxRecDepth 20000 in
theorem gL_law_L_timed : GoodIn wsL_law (va_wsS RL 165 yL_timed wsL_timed) := goodIn_app (goodIn_of _ (by decide +kernel)) ggL_law_L_timed
set_option maxRecDepth 20000 in
theorem ggL_law_L_isTicked : GoodIn wsL_law wsL_isTicked := goodIn_ca (goodIn_ca (goodIn_c1 (goodIn_1 (i := 416) rfl rfl) (goodIn_app (goodIn_app (goodIn_app (goodIn_app (goodIn_app (goodIn_r _ [417, 418, 71, 419, 113, 114, 115, 2, 116, 13, 117, 118, 119, 120, 121, 122, 123, 124, 125, 386, 387, 388, 389, 390] (by decide +kernel) (by decide +kernel)) (goodIn_app (goodIn_r _ [391, 392, 393, 394, 395, 126, 127, 128, 129, 17, 130, 170, 171, 172, 173, 21, 174, 84, 85, 86, 87, 22, 88, 89] (by decide +kernel) (by decide +kernel)) (goodIn_app (goodIn_r _ [90, 91, 92, 196, 197, 198, 189, 199, 200, 201, 202, 203, 204, 205, 206, 207, 208, 209, 210, 211, 212, 213, 214, 215] (by decide +kernel) (by decide +kernel)) (goodIn_app (goodIn_r _ [216, 217, 218, 219, 220, 221, 222, 223, 224, 225, 226, 227, 228, 229, 230, 231, 232, 233, 234, 235, 236, 237, 238, 239] (by decide +kernel) (by decide +kernel)) (goodIn_app (goodIn_r _ [240, 241, 242, 12, 243, 34, 30, 244, 245, 246, 247, 29, 31, 248, 249, 250, 251, 252, 253, 254, 255, 32, 256, 257] (by decide +kernel) (by decide +kernel)) (goodIn_app (goodIn_r _ [258, 16, 259, 44, 43, 260, 261, 262, 263, 264, 265, 266, 267, 27, 28, 268, 269, 270, 33, 271, 272, 273, 20, 274] (by decide +kernel) (by decide +kernel)) (goodIn_app (goodIn_r _ [56, 275, 141, 142, 143, 276, 277, 278, 279, 57, 61, 62, 60, 63, 64, 280, 281, 282, 283, 284, 285, 286, 287, 58] (by decide +kernel) (by decide +kernel)) (goodIn_app (goodIn_r _ [68, 288, 158, 159, 160, 161, 162, 163, 164, 65, 289, 290, 291, 292, 293, 294, 295, 296, 297, 298, 299, 300, 301, 302] (by decide +kernel) (by decide +kernel)) (goodIn_app (goodIn_r _ [303, 304, 305, 306, 307, 308, 309, 310, 311, 312, 67, 66, 313, 314, 315, 316, 156, 317, 318, 319, 320, 321, 184, 322] (by decide +kernel) (by decide +kernel)) (goodIn_app (goodIn_r _ [323, 324, 325, 326, 148, 149, 150, 151, 327, 328, 329, 330, 331, 49, 332, 333, 334, 335, 46, 45, 336, 420, 421, 422] (by decide +kernel) (by decide +kernel)) (goodIn_app (goodIn_c1 (goodIn_1 (i := 374) rfl rfl) (goodIn_c1 (goodIn_1 (i := 375) rfl rfl) (goodIn_c1 (goodIn_1 (i := 376) rfl rfl) (goodIn_c1 (goodIn_1 (i := 377) rfl rfl) (goodIn_c1 (goodIn_1 (i := 378) rfl rfl) (goodIn_c1 (goodIn_1 (i := 379) rfl rfl) (goodIn_c1 (goodIn_1 (i := 380) rfl rfl) (goodIn_c1 (goodIn_1 (i := 381) rfl rfl) (goodIn_c1 (goodIn_1 (i := 382) rfl rfl) (goodIn_c1 (goodIn_1 (i := 383) rfl rfl) (goodIn_c1 (goodIn_1 (i := 384) rfl rfl) (goodIn_c1 (goodIn_1 (i := 385) rfl rfl) (goodIn_c1 (goodIn_1 (i := 140) rfl rfl) (goodIn_c1 (goodIn_1 (i := 423) rfl rfl) (goodIn_c1 (goodIn_1 (i := 424) rfl rfl) (goodIn_c1 (goodIn_1 (i := 425) rfl rfl) (goodIn_c1 (goodIn_1 (i := 175) rfl rfl) (goodIn_c1 (goodIn_1 (i := 176) rfl rfl) (goodIn_c1 (goodIn_1 (i := 177) rfl rfl) (goodIn_c1 (goodIn_1 (i := 178) rfl rfl) (goodIn_c1 (goodIn_1 (i := 179) rfl rfl) (goodIn_c1 (goodIn_1 (i := 165) rfl rfl) (goodIn_c1 (goodIn_1 (i := 166) rfl rfl) (goodIn_c1 (goodIn_1 (i := 167) rfl rfl) goodIn_nil)))))))))))))))))))))))) (goodIn_r _ [168, 169, 180, 181, 182, 183, 185, 404, 405, 406, 407, 408, 426, 427, 428, 131, 132, 133, 134, 135] (by decide +kernel) (by decide +kernel))))))))))))) (goodIn_sub inlX3 (by decide +kernel))) (goodIn_sub inlX2 (by decide +kernel))) (goodIn_sub inlX0 (by decide +kernel))) (goodIn_sub inlX1 (by decide +kernel)))) (goodIn_sub (fun _ h => List.mem_append_left _ (List.mem_append_right _ h)) (by decide +kernel))) (goodIn_sub (fun _ h => List.mem_append_right _ h) (by decide +kernel))
set_option maxRecDepth 20000 in
theorem gL_law_L_isTicked : GoodIn wsL_law (va_wsS RL 188 yL_isTicked wsL_isTicked) := goodIn_app (goodIn_of _ (by decide +kernel)) ggL_law_L_isTicked
set_option maxRecDepth 20000 in
theorem ggL_law_L_areMembers : GoodIn wsL_law wsL_areMembers := goodIn_ca (goodIn_r _ [431, 180, 181, 182, 2, 183, 21, 184, 118, 119, 120, 121, 122, 123, 124, 125, 185, 149, 150, 20, 151, 60, 382, 383, 384, 385, 13, 140, 141, 142, 12, 143, 27, 29, 165, 166, 167, 168, 169, 175, 176, 177, 178, 179, 152, 153, 154, 155, 156, 22, 157, 158, 159, 160, 161, 162, 163, 164, 65, 136, 137, 138, 139, 144, 145, 146, 147, 56, 61, 148, 396, 397, 398, 399, 400, 401, 402, 403, 84, 85, 86, 87, 93, 94, 95, 96, 97, 98, 99, 100, 101, 102, 103, 104, 105, 106, 107, 108, 109, 110, 111, 112, 432, 433, 434, 435, 452, 453, 454, 455, 456, 457, 458, 459, 460, 461, 462, 463, 436, 437, 438, 439, 440, 441, 442, 443] (by decide +kernel) (by decide +kernel)) (goodIn_sub (fun _ h => List.mem_append_left _ (List.mem_append_right _ h)) (by decide +kernel))
set_option maxRecDepth 20000 in
theorem gL_law_L_areMembers : GoodIn wsL_law (va_wsS RL 192 yL_areMembers wsL_areMembers) := goodIn_app (goodIn_of _ (by decide +kernel)) ggL_law_L_areMembers
theorem dL_law_0 : decode cL_law 0 = .ok (.new 10, 3) := by decide +kernel
theorem dL_law_3 : decode cL_law 3 = .ok (.dup, 1) := by decide +kernel
theorem dL_law_4 : decode cL_law 4 = .ok (.invokespecial 179, 3) := by decide +kernel
theorem dL_law_7 : decode cL_law 7 = .ok (.astore_n 1, 1) := by decide +kernel
theorem dL_law_8 : decode cL_law 8 = .ok (.bipush 64, 2) := by decide +kernel
theorem dL_law_10 : decode cL_law 10 = .ok (.newarray .int, 2) := by decide +kernel
theorem dL_law_12 : decode cL_law 12 = .ok (.astore_n 2, 1) := by decide +kernel
theorem dL_law_13 : decode cL_law 13 = .ok (.bipush 64, 2) := by decide +kernel
theorem dL_law_15 : decode cL_law 15 = .ok (.newarray .int, 2) := by decide +kernel
theorem dL_law_17 : decode cL_law 17 = .ok (.astore_n 3, 1) := by decide +kernel
theorem dL_law_18 : decode cL_law 18 = .ok (.bipush 64, 2) := by decide +kernel
theorem dL_law_20 : decode cL_law 20 = .ok (.newarray .int, 2) := by decide +kernel
theorem dL_law_22 : decode cL_law 22 = .ok (.astore 4, 2) := by decide +kernel
theorem dL_law_24 : decode cL_law 24 = .ok (.bipush 64, 2) := by decide +kernel
theorem dL_law_26 : decode cL_law 26 = .ok (.newarray .int, 2) := by decide +kernel
theorem dL_law_28 : decode cL_law 28 = .ok (.astore 5, 2) := by decide +kernel
theorem dL_law_30 : decode cL_law 30 = .ok (.bipush 8, 2) := by decide +kernel
theorem dL_law_32 : decode cL_law 32 = .ok (.newarray .int, 2) := by decide +kernel
theorem dL_law_34 : decode cL_law 34 = .ok (.astore 6, 2) := by decide +kernel
theorem dL_law_36 : decode cL_law 36 = .ok (.iconst 3, 1) := by decide +kernel
theorem dL_law_37 : decode cL_law 37 = .ok (.newarray .int, 2) := by decide +kernel
theorem dL_law_39 : decode cL_law 39 = .ok (.astore 7, 2) := by decide +kernel
theorem dL_law_41 : decode cL_law 41 = .ok (.aload 7, 2) := by decide +kernel
theorem dL_law_43 : decode cL_law 43 = .ok (.iconst 1, 1) := by decide +kernel
theorem dL_law_44 : decode cL_law 44 = .ok (.iconst 3, 1) := by decide +kernel
theorem dL_law_45 : decode cL_law 45 = .ok (.iastore, 1) := by decide +kernel
theorem dL_law_46 : decode cL_law 46 = .ok (.aload 7, 2) := by decide +kernel
theorem dL_law_48 : decode cL_law 48 = .ok (.iconst 2, 1) := by decide +kernel
theorem dL_law_49 : decode cL_law 49 = .ok (.bipush 6, 2) := by decide +kernel
theorem dL_law_51 : decode cL_law 51 = .ok (.iastore, 1) := by decide +kernel
theorem dL_law_52 : decode cL_law 52 = .ok (.iconst 0, 1) := by decide +kernel
theorem dL_law_53 : decode cL_law 53 = .ok (.istore 8, 2) := by decide +kernel
theorem dL_law_55 : decode cL_law 55 = .ok (.iload 8, 2) := by decide +kernel
theorem dL_law_57 : decode cL_law 57 = .ok (.bipush 8, 2) := by decide +kernel
theorem dL_law_59 : decode cL_law 59 = .ok (.if_icmp .ge 84, 3) := by decide +kernel
theorem dL_law_62 : decode cL_law 62 = .ok (.aload_n 2, 1) := by decide +kernel
theorem dL_law_63 : decode cL_law 63 = .ok (.bipush 8, 2) := by decide +kernel
theorem dL_law_65 : decode cL_law 65 = .ok (.iload 8, 2) := by decide +kernel
theorem dL_law_67 : decode cL_law 67 = .ok (.imul, 1) := by decide +kernel
theorem dL_law_68 : decode cL_law 68 = .ok (.bipush 10, 2) := by decide +kernel
theorem dL_law_70 : decode cL_law 70 = .ok (.iastore, 1) := by decide +kernel
theorem dL_law_71 : decode cL_law 71 = .ok (.aload_n 2, 1) := by decide +kernel
theorem dL_law_72 : decode cL_law 72 = .ok (.bipush 8, 2) := by decide +kernel
end
section
theorem dL_law_74 : decode cL_law 74 = .ok (.iload 8, 2) := by decide +kernel
theorem dL_law_76 : decode cL_law 76 = .ok (.imul, 1) := by decide +kernel
theorem dL_law_77 : decode cL_law 77 = .ok (.iconst 1, 1) := by decide +kernel
theorem dL_law_78 : decode cL_law 78 = .ok (.iadd, 1) := by decide +kernel
theorem dL_law_79 : decode cL_law 79 = .ok (.bipush 100, 2) := by decide +kernel
theorem dL_law_81 : decode cL_law 81 = .ok (.iastore, 1) := by decide +kernel
theorem dL_law_82 : decode cL_law 82 = .ok (.aload_n 2, 1) := by decide +kernel
theorem dL_law_83 : decode cL_law 83 = .ok (.bipush 8, 2) := by decide +kernel
theorem dL_law_85 : decode cL_law 85 = .ok (.iload 8, 2) := by decide +kernel
theorem dL_law_87 : decode cL_law 87 = .ok (.imul, 1) := by decide +kernel
theorem dL_law_88 : decode cL_law 88 = .ok (.iconst 2, 1) := by decide +kernel
theorem dL_law_89 : decode cL_law 89 = .ok (.iadd, 1) := by decide +kernel
theorem dL_law_90 : decode cL_law 90 = .ok (.iconst 5, 1) := by decide +kernel
theorem dL_law_91 : decode cL_law 91 = .ok (.iastore, 1) := by decide +kernel
theorem dL_law_92 : decode cL_law 92 = .ok (.aload_n 2, 1) := by decide +kernel
theorem dL_law_93 : decode cL_law 93 = .ok (.bipush 8, 2) := by decide +kernel
theorem dL_law_95 : decode cL_law 95 = .ok (.iload 8, 2) := by decide +kernel
theorem dL_law_97 : decode cL_law 97 = .ok (.imul, 1) := by decide +kernel
theorem dL_law_98 : decode cL_law 98 = .ok (.iconst 4, 1) := by decide +kernel
theorem dL_law_99 : decode cL_law 99 = .ok (.iadd, 1) := by decide +kernel
theorem dL_law_100 : decode cL_law 100 = .ok (.bipush 20, 2) := by decide +kernel
theorem dL_law_102 : decode cL_law 102 = .ok (.iastore, 1) := by decide +kernel
theorem dL_law_103 : decode cL_law 103 = .ok (.aload_n 2, 1) := by decide +kernel
theorem dL_law_104 : decode cL_law 104 = .ok (.bipush 8, 2) := by decide +kernel
theorem dL_law_106 : decode cL_law 106 = .ok (.iload 8, 2) := by decide +kernel
theorem dL_law_108 : decode cL_law 108 = .ok (.imul, 1) := by decide +kernel
theorem dL_law_109 : decode cL_law 109 = .ok (.iconst 5, 1) := by decide +kernel
theorem dL_law_110 : decode cL_law 110 = .ok (.iadd, 1) := by decide +kernel
theorem dL_law_111 : decode cL_law 111 = .ok (.bipush 40, 2) := by decide +kernel
theorem dL_law_113 : decode cL_law 113 = .ok (.iastore, 1) := by decide +kernel
theorem dL_law_114 : decode cL_law 114 = .ok (.aload_n 2, 1) := by decide +kernel
theorem dL_law_115 : decode cL_law 115 = .ok (.bipush 8, 2) := by decide +kernel
theorem dL_law_117 : decode cL_law 117 = .ok (.iload 8, 2) := by decide +kernel
theorem dL_law_119 : decode cL_law 119 = .ok (.imul, 1) := by decide +kernel
theorem dL_law_120 : decode cL_law 120 = .ok (.bipush 6, 2) := by decide +kernel
theorem dL_law_122 : decode cL_law 122 = .ok (.iadd, 1) := by decide +kernel
theorem dL_law_123 : decode cL_law 123 = .ok (.bipush 80, 2) := by decide +kernel
theorem dL_law_125 : decode cL_law 125 = .ok (.iastore, 1) := by decide +kernel
theorem dL_law_126 : decode cL_law 126 = .ok (.aload_n 2, 1) := by decide +kernel
theorem dL_law_127 : decode cL_law 127 = .ok (.bipush 8, 2) := by decide +kernel
theorem dL_law_129 : decode cL_law 129 = .ok (.iload 8, 2) := by decide +kernel
theorem dL_law_131 : decode cL_law 131 = .ok (.imul, 1) := by decide +kernel
theorem dL_law_132 : decode cL_law 132 = .ok (.bipush 7, 2) := by decide +kernel
theorem dL_law_134 : decode cL_law 134 = .ok (.iadd, 1) := by decide +kernel
theorem dL_law_135 : decode cL_law 135 = .ok (.iconst 5, 1) := by decide +kernel
theorem dL_law_136 : decode cL_law 136 = .ok (.iastore, 1) := by decide +kernel
theorem dL_law_137 : decode cL_law 137 = .ok (.iinc 8 1, 3) := by decide +kernel
theorem dL_law_140 : decode cL_law 140 = .ok (.goto (-85), 3) := by decide +kernel
theorem dL_law_143 : decode cL_law 143 = .ok (.aload_n 1, 1) := by decide +kernel
theorem dL_law_144 : decode cL_law 144 = .ok (.aload_n 3, 1) := by decide +kernel
theorem dL_law_145 : decode cL_law 145 = .ok (.iconst 0, 1) := by decide +kernel
theorem dL_law_146 : decode cL_law 146 = .ok (.invokestatic 180, 3) := by decide +kernel
theorem dL_law_149 : decode cL_law 149 = .ok (.ifCond .eq 16, 3) := by decide +kernel
theorem dL_law_152 : decode cL_law 152 = .ok (.aload_n 1, 1) := by decide +kernel
theorem dL_law_153 : decode cL_law 153 = .ok (.aload_n 3, 1) := by decide +kernel
theorem dL_law_154 : decode cL_law 154 = .ok (.iconst 1, 1) := by decide +kernel
theorem dL_law_155 : decode cL_law 155 = .ok (.invokestatic 180, 3) := by decide +kernel
theorem dL_law_158 : decode cL_law 158 = .ok (.ifCond .eq 7, 3) := by decide +kernel
theorem dL_law_161 : decode cL_law 161 = .ok (.iconst 1, 1) := by decide +kernel
theorem dL_law_162 : decode cL_law 162 = .ok (.goto 4, 3) := by decide +kernel
theorem dL_law_165 : decode cL_law 165 = .ok (.iconst 0, 1) := by decide +kernel
theorem dL_law_166 : decode cL_law 166 = .ok (.istore 8, 2) := by decide +kernel
theorem dL_law_168 : decode cL_law 168 = .ok (.iconst 0, 1) := by decide +kernel
theorem dL_law_169 : decode cL_law 169 = .ok (.istore 9, 2) := by decide +kernel
theorem dL_law_171 : decode cL_law 171 = .ok (.iload 9, 2) := by decide +kernel
theorem dL_law_173 : decode cL_law 173 = .ok (.bipush 90, 2) := by decide +kernel
theorem dL_law_175 : decode cL_law 175 = .ok (.if_icmp .ge 1096, 3) := by decide +kernel
theorem dL_law_178 : decode cL_law 178 = .ok (.iload 8, 2) := by decide +kernel
theorem dL_law_180 : decode cL_law 180 = .ok (.ifCond .eq 1091, 3) := by decide +kernel
theorem dL_law_183 : decode cL_law 183 = .ok (.aload_n 0, 1) := by decide +kernel
theorem dL_law_184 : decode cL_law 184 = .ok (.iload 9, 2) := by decide +kernel
theorem dL_law_186 : decode cL_law 186 = .ok (.invokestatic 184, 3) := by decide +kernel
theorem dL_law_189 : decode cL_law 189 = .ok (.istore 10, 2) := by decide +kernel
theorem dL_law_191 : decode cL_law 191 = .ok (.iload 10, 2) := by decide +kernel
theorem dL_law_193 : decode cL_law 193 = .ok (.bipush 32, 2) := by decide +kernel
theorem dL_law_195 : decode cL_law 195 = .ok (.idiv, 1) := by decide +kernel
theorem dL_law_196 : decode cL_law 196 = .ok (.istore 11, 2) := by decide +kernel
theorem dL_law_198 : decode cL_law 198 = .ok (.iload 10, 2) := by decide +kernel
theorem dL_law_200 : decode cL_law 200 = .ok (.bipush 32, 2) := by decide +kernel
theorem dL_law_202 : decode cL_law 202 = .ok (.irem, 1) := by decide +kernel
theorem dL_law_203 : decode cL_law 203 = .ok (.istore 12, 2) := by decide +kernel
theorem dL_law_205 : decode cL_law 205 = .ok (.iload 11, 2) := by decide +kernel
theorem dL_law_207 : decode cL_law 207 = .ok (.bipush 8, 2) := by decide +kernel
theorem dL_law_209 : decode cL_law 209 = .ok (.irem, 1) := by decide +kernel
theorem dL_law_210 : decode cL_law 210 = .ok (.istore 13, 2) := by decide +kernel
theorem dL_law_212 : decode cL_law 212 = .ok (.iload 12, 2) := by decide +kernel
theorem dL_law_214 : decode cL_law 214 = .ok (.iconst 2, 1) := by decide +kernel
theorem dL_law_215 : decode cL_law 215 = .ok (.if_icmp .ge 123, 3) := by decide +kernel
theorem dL_law_218 : decode cL_law 218 = .ok (.aload_n 2, 1) := by decide +kernel
theorem dL_law_219 : decode cL_law 219 = .ok (.bipush 8, 2) := by decide +kernel
theorem dL_law_221 : decode cL_law 221 = .ok (.iload 13, 2) := by decide +kernel
theorem dL_law_223 : decode cL_law 223 = .ok (.imul, 1) := by decide +kernel
theorem dL_law_224 : decode cL_law 224 = .ok (.iconst 1, 1) := by decide +kernel
theorem dL_law_225 : decode cL_law 225 = .ok (.iload 11, 2) := by decide +kernel
theorem dL_law_227 : decode cL_law 227 = .ok (.bipush 8, 2) := by decide +kernel
theorem dL_law_229 : decode cL_law 229 = .ok (.idiv, 1) := by decide +kernel
theorem dL_law_230 : decode cL_law 230 = .ok (.iload 11, 2) := by decide +kernel
theorem dL_law_232 : decode cL_law 232 = .ok (.iconst 3, 1) := by decide +kernel
theorem dL_law_233 : decode cL_law 233 = .ok (.irem, 1) := by decide +kernel
theorem dL_law_234 : decode cL_law 234 = .ok (.ifCond .ne 8, 3) := by decide +kernel
theorem dL_law_237 : decode cL_law 237 = .ok (.bipush 100, 2) := by decide +kernel
theorem dL_law_239 : decode cL_law 239 = .ok (.goto 5, 3) := by decide +kernel
theorem dL_law_242 : decode cL_law 242 = .ok (.bipush 10, 2) := by decide +kernel
theorem dL_law_244 : decode cL_law 244 = .ok (.irem, 1) := by decide +kernel
theorem dL_law_245 : decode cL_law 245 = .ok (.iadd, 1) := by decide +kernel
theorem dL_law_246 : decode cL_law 246 = .ok (.iastore, 1) := by decide +kernel
theorem dL_law_247 : decode cL_law 247 = .ok (.aload_n 2, 1) := by decide +kernel
theorem dL_law_248 : decode cL_law 248 = .ok (.bipush 8, 2) := by decide +kernel
theorem dL_law_250 : decode cL_law 250 = .ok (.iload 13, 2) := by decide +kernel
theorem dL_law_252 : decode cL_law 252 = .ok (.imul, 1) := by decide +kernel
theorem dL_law_253 : decode cL_law 253 = .ok (.iconst 1, 1) := by decide +kernel
theorem dL_law_254 : decode cL_law 254 = .ok (.iadd, 1) := by decide +kernel
theorem dL_law_255 : decode cL_law 255 = .ok (.iconst 1, 1) := by decide +kernel
theorem dL_law_256 : decode cL_law 256 = .ok (.iload 11, 2) := by decide +kernel
theorem dL_law_258 : decode cL_law 258 = .ok (.sipush 800, 3) := by decide +kernel
theorem dL_law_261 : decode cL_law 261 = .ok (.idiv, 1) := by decide +kernel
theorem dL_law_262 : decode cL_law 262 = .ok (.iload 11, 2) := by decide +kernel
theorem dL_law_264 : decode cL_law 264 = .ok (.iconst 5, 1) := by decide +kernel
theorem dL_law_265 : decode cL_law 265 = .ok (.irem, 1) := by decide +kernel
theorem dL_law_266 : decode cL_law 266 = .ok (.ifCond .ne 9, 3) := by decide +kernel
theorem dL_law_269 : decode cL_law 269 = .ok (.sipush 1000, 3) := by decide +kernel
theorem dL_law_272 : decode cL_law 272 = .ok (.goto 5, 3) := by decide +kernel
theorem dL_law_275 : decode cL_law 275 = .ok (.bipush 90, 2) := by decide +kernel
theorem dL_law_277 : decode cL_law 277 = .ok (.irem, 1) := by decide +kernel
theorem dL_law_278 : decode cL_law 278 = .ok (.iadd, 1) := by decide +kernel
theorem dL_law_279 : decode cL_law 279 = .ok (.iastore, 1) := by decide +kernel
theorem dL_law_280 : decode cL_law 280 = .ok (.aload_n 1, 1) := by decide +kernel
theorem dL_law_281 : decode cL_law 281 = .ok (.iload 13, 2) := by decide +kernel
theorem dL_law_283 : decode cL_law 283 = .ok (.aload_n 2, 1) := by decide +kernel
theorem dL_law_284 : decode cL_law 284 = .ok (.bipush 8, 2) := by decide +kernel
theorem dL_law_286 : decode cL_law 286 = .ok (.iload 13, 2) := by decide +kernel
theorem dL_law_288 : decode cL_law 288 = .ok (.imul, 1) := by decide +kernel
theorem dL_law_289 : decode cL_law 289 = .ok (.iaload, 1) := by decide +kernel
theorem dL_law_290 : decode cL_law 290 = .ok (.aload_n 2, 1) := by decide +kernel
theorem dL_law_291 : decode cL_law 291 = .ok (.bipush 8, 2) := by decide +kernel
theorem dL_law_293 : decode cL_law 293 = .ok (.iload 13, 2) := by decide +kernel
theorem dL_law_295 : decode cL_law 295 = .ok (.imul, 1) := by decide +kernel
theorem dL_law_296 : decode cL_law 296 = .ok (.iconst 1, 1) := by decide +kernel
theorem dL_law_297 : decode cL_law 297 = .ok (.iadd, 1) := by decide +kernel
theorem dL_law_298 : decode cL_law 298 = .ok (.iaload, 1) := by decide +kernel
theorem dL_law_299 : decode cL_law 299 = .ok (.invokestatic 158, 3) := by decide +kernel
theorem dL_law_302 : decode cL_law 302 = .ok (.ifCond .ne 30, 3) := by decide +kernel
theorem dL_law_305 : decode cL_law 305 = .ok (.aload_n 1, 1) := by decide +kernel
theorem dL_law_306 : decode cL_law 306 = .ok (.iload 13, 2) := by decide +kernel
theorem dL_law_308 : decode cL_law 308 = .ok (.invokevirtual 64, 3) := by decide +kernel
theorem dL_law_311 : decode cL_law 311 = .ok (.aload_n 1, 1) := by decide +kernel
theorem dL_law_312 : decode cL_law 312 = .ok (.iload 13, 2) := by decide +kernel
theorem dL_law_314 : decode cL_law 314 = .ok (.invokevirtual 58, 3) := by decide +kernel
theorem dL_law_317 : decode cL_law 317 = .ok (.aload_n 2, 1) := by decide +kernel
theorem dL_law_318 : decode cL_law 318 = .ok (.bipush 8, 2) := by decide +kernel
theorem dL_law_320 : decode cL_law 320 = .ok (.iload 13, 2) := by decide +kernel
theorem dL_law_322 : decode cL_law 322 = .ok (.imul, 1) := by decide +kernel
theorem dL_law_323 : decode cL_law 323 = .ok (.iaload, 1) := by decide +kernel
theorem dL_law_324 : decode cL_law 324 = .ok (.idiv, 1) := by decide +kernel
theorem dL_law_325 : decode cL_law 325 = .ok (.if_icmp .ne 7, 3) := by decide +kernel
theorem dL_law_328 : decode cL_law 328 = .ok (.iconst 1, 1) := by decide +kernel
theorem dL_law_329 : decode cL_law 329 = .ok (.goto 4, 3) := by decide +kernel
theorem dL_law_332 : decode cL_law 332 = .ok (.iconst 0, 1) := by decide +kernel
theorem dL_law_333 : decode cL_law 333 = .ok (.istore 8, 2) := by decide +kernel
theorem dL_law_335 : decode cL_law 335 = .ok (.goto 883, 3) := by decide +kernel
theorem dL_law_338 : decode cL_law 338 = .ok (.iload 12, 2) := by decide +kernel
theorem dL_law_340 : decode cL_law 340 = .ok (.iconst 2, 1) := by decide +kernel
theorem dL_law_341 : decode cL_law 341 = .ok (.if_icmp .ne 64, 3) := by decide +kernel
theorem dL_law_344 : decode cL_law 344 = .ok (.aload_n 2, 1) := by decide +kernel
theorem dL_law_345 : decode cL_law 345 = .ok (.bipush 8, 2) := by decide +kernel
theorem dL_law_347 : decode cL_law 347 = .ok (.iload 13, 2) := by decide +kernel
theorem dL_law_349 : decode cL_law 349 = .ok (.imul, 1) := by decide +kernel
theorem dL_law_350 : decode cL_law 350 = .ok (.iconst 2, 1) := by decide +kernel
theorem dL_law_351 : decode cL_law 351 = .ok (.iadd, 1) := by decide +kernel
theorem dL_law_352 : decode cL_law 352 = .ok (.iaload, 1) := by decide +kernel
theorem dL_law_353 : decode cL_law 353 = .ok (.istore 14, 2) := by decide +kernel
theorem dL_law_355 : decode cL_law 355 = .ok (.aload_n 2, 1) := by decide +kernel
theorem dL_law_356 : decode cL_law 356 = .ok (.bipush 8, 2) := by decide +kernel
theorem dL_law_358 : decode cL_law 358 = .ok (.iload 13, 2) := by decide +kernel
theorem dL_law_360 : decode cL_law 360 = .ok (.imul, 1) := by decide +kernel
theorem dL_law_361 : decode cL_law 361 = .ok (.iconst 2, 1) := by decide +kernel
theorem dL_law_362 : decode cL_law 362 = .ok (.iadd, 1) := by decide +kernel
theorem dL_law_363 : decode cL_law 363 = .ok (.iconst 1, 1) := by decide +kernel
theorem dL_law_364 : decode cL_law 364 = .ok (.iload 11, 2) := by decide +kernel
theorem dL_law_366 : decode cL_law 366 = .ok (.bipush 8, 2) := by decide +kernel
theorem dL_law_368 : decode cL_law 368 = .ok (.idiv, 1) := by decide +kernel
theorem dL_law_369 : decode cL_law 369 = .ok (.bipush 50, 2) := by decide +kernel
theorem dL_law_371 : decode cL_law 371 = .ok (.irem, 1) := by decide +kernel
theorem dL_law_372 : decode cL_law 372 = .ok (.iadd, 1) := by decide +kernel
theorem dL_law_373 : decode cL_law 373 = .ok (.iastore, 1) := by decide +kernel
theorem dL_law_374 : decode cL_law 374 = .ok (.aload_n 1, 1) := by decide +kernel
theorem dL_law_375 : decode cL_law 375 = .ok (.iconst 0, 1) := by decide +kernel
theorem dL_law_376 : decode cL_law 376 = .ok (.iload 13, 2) := by decide +kernel
theorem dL_law_378 : decode cL_law 378 = .ok (.aload_n 2, 1) := by decide +kernel
theorem dL_law_379 : decode cL_law 379 = .ok (.bipush 8, 2) := by decide +kernel
theorem dL_law_381 : decode cL_law 381 = .ok (.iload 13, 2) := by decide +kernel
theorem dL_law_383 : decode cL_law 383 = .ok (.imul, 1) := by decide +kernel
theorem dL_law_384 : decode cL_law 384 = .ok (.iconst 2, 1) := by decide +kernel
theorem dL_law_385 : decode cL_law 385 = .ok (.iadd, 1) := by decide +kernel
theorem dL_law_386 : decode cL_law 386 = .ok (.iaload, 1) := by decide +kernel
theorem dL_law_387 : decode cL_law 387 = .ok (.invokestatic 138, 3) := by decide +kernel
theorem dL_law_390 : decode cL_law 390 = .ok (.iload 14, 2) := by decide +kernel
theorem dL_law_392 : decode cL_law 392 = .ok (.if_icmp .ne 7, 3) := by decide +kernel
theorem dL_law_395 : decode cL_law 395 = .ok (.iconst 1, 1) := by decide +kernel
theorem dL_law_396 : decode cL_law 396 = .ok (.goto 4, 3) := by decide +kernel
theorem dL_law_399 : decode cL_law 399 = .ok (.iconst 0, 1) := by decide +kernel
theorem dL_law_400 : decode cL_law 400 = .ok (.istore 8, 2) := by decide +kernel
theorem dL_law_402 : decode cL_law 402 = .ok (.goto 816, 3) := by decide +kernel
theorem dL_law_405 : decode cL_law 405 = .ok (.iload 12, 2) := by decide +kernel
theorem dL_law_407 : decode cL_law 407 = .ok (.iconst 5, 1) := by decide +kernel
theorem dL_law_408 : decode cL_law 408 = .ok (.if_icmp .ge 57, 3) := by decide +kernel
theorem dL_law_411 : decode cL_law 411 = .ok (.aload 7, 2) := by decide +kernel
theorem dL_law_413 : decode cL_law 413 = .ok (.iconst 0, 1) := by decide +kernel
theorem dL_law_414 : decode cL_law 414 = .ok (.iaload, 1) := by decide +kernel
theorem dL_law_415 : decode cL_law 415 = .ok (.istore 14, 2) := by decide +kernel
theorem dL_law_417 : decode cL_law 417 = .ok (.aload 7, 2) := by decide +kernel
theorem dL_law_419 : decode cL_law 419 = .ok (.iconst 0, 1) := by decide +kernel
theorem dL_law_420 : decode cL_law 420 = .ok (.iload 11, 2) := by decide +kernel
theorem dL_law_422 : decode cL_law 422 = .ok (.iload 11, 2) := by decide +kernel
theorem dL_law_424 : decode cL_law 424 = .ok (.iconst 3, 1) := by decide +kernel
theorem dL_law_425 : decode cL_law 425 = .ok (.irem, 1) := by decide +kernel
theorem dL_law_426 : decode cL_law 426 = .ok (.ifCond .ne 9, 3) := by decide +kernel
theorem dL_law_429 : decode cL_law 429 = .ok (.sipush 1001, 3) := by decide +kernel
theorem dL_law_432 : decode cL_law 432 = .ok (.goto 6, 3) := by decide +kernel
theorem dL_law_435 : decode cL_law 435 = .ok (.sipush 200, 3) := by decide +kernel
theorem dL_law_438 : decode cL_law 438 = .ok (.irem, 1) := by decide +kernel
theorem dL_law_439 : decode cL_law 439 = .ok (.iastore, 1) := by decide +kernel
theorem dL_law_440 : decode cL_law 440 = .ok (.aload_n 1, 1) := by decide +kernel
theorem dL_law_441 : decode cL_law 441 = .ok (.iconst 1, 1) := by decide +kernel
theorem dL_law_442 : decode cL_law 442 = .ok (.aload 7, 2) := by decide +kernel
theorem dL_law_444 : decode cL_law 444 = .ok (.iconst 0, 1) := by decide +kernel
theorem dL_law_445 : decode cL_law 445 = .ok (.iaload, 1) := by decide +kernel
theorem dL_law_446 : decode cL_law 446 = .ok (.iconst 0, 1) := by decide +kernel
theorem dL_law_447 : decode cL_law 447 = .ok (.invokestatic 138, 3) := by decide +kernel
theorem dL_law_450 : decode cL_law 450 = .ok (.iload 14, 2) := by decide +kernel
theorem dL_law_452 : decode cL_law 452 = .ok (.if_icmp .ne 7, 3) := by decide +kernel
theorem dL_law_455 : decode cL_law 455 = .ok (.iconst 1, 1) := by decide +kernel
theorem dL_law_456 : decode cL_law 456 = .ok (.goto 4, 3) := by decide +kernel
theorem dL_law_459 : decode cL_law 459 = .ok (.iconst 0, 1) := by decide +kernel
theorem dL_law_460 : decode cL_law 460 = .ok (.istore 8, 2) := by decide +kernel
theorem dL_law_462 : decode cL_law 462 = .ok (.goto 756, 3) := by decide +kernel
theorem dL_law_465 : decode cL_law 465 = .ok (.iload 12, 2) := by decide +kernel
theorem dL_law_467 : decode cL_law 467 = .ok (.bipush 9, 2) := by decide +kernel
theorem dL_law_469 : decode cL_law 469 = .ok (.if_icmp .ge 75, 3) := by decide +kernel
theorem dL_law_472 : decode cL_law 472 = .ok (.iconst 1, 1) := by decide +kernel
theorem dL_law_473 : decode cL_law 473 = .ok (.iload 11, 2) := by decide +kernel
theorem dL_law_475 : decode cL_law 475 = .ok (.bipush 8, 2) := by decide +kernel
theorem dL_law_477 : decode cL_law 477 = .ok (.idiv, 1) := by decide +kernel
theorem dL_law_478 : decode cL_law 478 = .ok (.iload 11, 2) := by decide +kernel
theorem dL_law_480 : decode cL_law 480 = .ok (.bipush 7, 2) := by decide +kernel
theorem dL_law_482 : decode cL_law 482 = .ok (.irem, 1) := by decide +kernel
theorem dL_law_483 : decode cL_law 483 = .ok (.ifCond .ne 9, 3) := by decide +kernel
theorem dL_law_486 : decode cL_law 486 = .ok (.sipush 10000, 3) := by decide +kernel
theorem dL_law_489 : decode cL_law 489 = .ok (.goto 6, 3) := by decide +kernel
theorem dL_law_492 : decode cL_law 492 = .ok (.sipush 900, 3) := by decide +kernel
theorem dL_law_495 : decode cL_law 495 = .ok (.irem, 1) := by decide +kernel
theorem dL_law_496 : decode cL_law 496 = .ok (.iadd, 1) := by decide +kernel
theorem dL_law_497 : decode cL_law 497 = .ok (.istore 14, 2) := by decide +kernel
theorem dL_law_499 : decode cL_law 499 = .ok (.aload_n 2, 1) := by decide +kernel
theorem dL_law_500 : decode cL_law 500 = .ok (.bipush 8, 2) := by decide +kernel
theorem dL_law_502 : decode cL_law 502 = .ok (.iload 13, 2) := by decide +kernel
theorem dL_law_504 : decode cL_law 504 = .ok (.imul, 1) := by decide +kernel
theorem dL_law_505 : decode cL_law 505 = .ok (.iconst 3, 1) := by decide +kernel
theorem dL_law_506 : decode cL_law 506 = .ok (.iadd, 1) := by decide +kernel
theorem dL_law_507 : decode cL_law 507 = .ok (.dup2, 1) := by decide +kernel
theorem dL_law_508 : decode cL_law 508 = .ok (.iaload, 1) := by decide +kernel
theorem dL_law_509 : decode cL_law 509 = .ok (.iload 14, 2) := by decide +kernel
theorem dL_law_511 : decode cL_law 511 = .ok (.iadd, 1) := by decide +kernel
theorem dL_law_512 : decode cL_law 512 = .ok (.iastore, 1) := by decide +kernel
theorem dL_law_513 : decode cL_law 513 = .ok (.aload_n 1, 1) := by decide +kernel
theorem dL_law_514 : decode cL_law 514 = .ok (.iconst 2, 1) := by decide +kernel
theorem dL_law_515 : decode cL_law 515 = .ok (.iload 13, 2) := by decide +kernel
theorem dL_law_517 : decode cL_law 517 = .ok (.iload 14, 2) := by decide +kernel
theorem dL_law_519 : decode cL_law 519 = .ok (.invokestatic 138, 3) := by decide +kernel
theorem dL_law_522 : decode cL_law 522 = .ok (.aload_n 2, 1) := by decide +kernel
theorem dL_law_523 : decode cL_law 523 = .ok (.bipush 8, 2) := by decide +kernel
theorem dL_law_525 : decode cL_law 525 = .ok (.iload 13, 2) := by decide +kernel
theorem dL_law_527 : decode cL_law 527 = .ok (.imul, 1) := by decide +kernel
theorem dL_law_528 : decode cL_law 528 = .ok (.iconst 3, 1) := by decide +kernel
theorem dL_law_529 : decode cL_law 529 = .ok (.iadd, 1) := by decide +kernel
theorem dL_law_530 : decode cL_law 530 = .ok (.iaload, 1) := by decide +kernel
theorem dL_law_531 : decode cL_law 531 = .ok (.if_icmp .ne 7, 3) := by decide +kernel
theorem dL_law_534 : decode cL_law 534 = .ok (.iconst 1, 1) := by decide +kernel
theorem dL_law_535 : decode cL_law 535 = .ok (.goto 4, 3) := by decide +kernel
theorem dL_law_538 : decode cL_law 538 = .ok (.iconst 0, 1) := by decide +kernel
theorem dL_law_539 : decode cL_law 539 = .ok (.istore 8, 2) := by decide +kernel
theorem dL_law_541 : decode cL_law 541 = .ok (.goto 677, 3) := by decide +kernel
theorem dL_law_544 : decode cL_law 544 = .ok (.iload 12, 2) := by decide +kernel
theorem dL_law_546 : decode cL_law 546 = .ok (.bipush 11, 2) := by decide +kernel
theorem dL_law_548 : decode cL_law 548 = .ok (.if_icmp .ge 155, 3) := by decide +kernel
theorem dL_law_551 : decode cL_law 551 = .ok (.aload_n 2, 1) := by decide +kernel
theorem dL_law_552 : decode cL_law 552 = .ok (.bipush 8, 2) := by decide +kernel
theorem dL_law_554 : decode cL_law 554 = .ok (.iload 13, 2) := by decide +kernel
theorem dL_law_556 : decode cL_law 556 = .ok (.imul, 1) := by decide +kernel
theorem dL_law_557 : decode cL_law 557 = .ok (.iconst 4, 1) := by decide +kernel
theorem dL_law_558 : decode cL_law 558 = .ok (.iadd, 1) := by decide +kernel
theorem dL_law_559 : decode cL_law 559 = .ok (.iload 11, 2) := by decide +kernel
theorem dL_law_561 : decode cL_law 561 = .ok (.bipush 8, 2) := by decide +kernel
theorem dL_law_563 : decode cL_law 563 = .ok (.idiv, 1) := by decide +kernel
theorem dL_law_564 : decode cL_law 564 = .ok (.bipush 60, 2) := by decide +kernel
theorem dL_law_566 : decode cL_law 566 = .ok (.irem, 1) := by decide +kernel
theorem dL_law_567 : decode cL_law 567 = .ok (.iastore, 1) := by decide +kernel
theorem dL_law_568 : decode cL_law 568 = .ok (.aload_n 2, 1) := by decide +kernel
theorem dL_law_569 : decode cL_law 569 = .ok (.bipush 8, 2) := by decide +kernel
theorem dL_law_571 : decode cL_law 571 = .ok (.iload 13, 2) := by decide +kernel
theorem dL_law_573 : decode cL_law 573 = .ok (.imul, 1) := by decide +kernel
theorem dL_law_574 : decode cL_law 574 = .ok (.iconst 5, 1) := by decide +kernel
theorem dL_law_575 : decode cL_law 575 = .ok (.iadd, 1) := by decide +kernel
theorem dL_law_576 : decode cL_law 576 = .ok (.aload_n 2, 1) := by decide +kernel
theorem dL_law_577 : decode cL_law 577 = .ok (.bipush 8, 2) := by decide +kernel
theorem dL_law_579 : decode cL_law 579 = .ok (.iload 13, 2) := by decide +kernel
theorem dL_law_581 : decode cL_law 581 = .ok (.imul, 1) := by decide +kernel
theorem dL_law_582 : decode cL_law 582 = .ok (.iconst 4, 1) := by decide +kernel
theorem dL_law_583 : decode cL_law 583 = .ok (.iadd, 1) := by decide +kernel
theorem dL_law_584 : decode cL_law 584 = .ok (.iaload, 1) := by decide +kernel
theorem dL_law_585 : decode cL_law 585 = .ok (.iload 11, 2) := by decide +kernel
theorem dL_law_587 : decode cL_law 587 = .ok (.sipush 480, 3) := by decide +kernel
theorem dL_law_590 : decode cL_law 590 = .ok (.idiv, 1) := by decide +kernel
theorem dL_law_591 : decode cL_law 591 = .ok (.bipush 50, 2) := by decide +kernel
theorem dL_law_593 : decode cL_law 593 = .ok (.irem, 1) := by decide +kernel
theorem dL_law_594 : decode cL_law 594 = .ok (.iadd, 1) := by decide +kernel
theorem dL_law_595 : decode cL_law 595 = .ok (.iastore, 1) := by decide +kernel
theorem dL_law_596 : decode cL_law 596 = .ok (.aload_n 2, 1) := by decide +kernel
theorem dL_law_597 : decode cL_law 597 = .ok (.bipush 8, 2) := by decide +kernel
theorem dL_law_599 : decode cL_law 599 = .ok (.iload 13, 2) := by decide +kernel
theorem dL_law_601 : decode cL_law 601 = .ok (.imul, 1) := by decide +kernel
theorem dL_law_602 : decode cL_law 602 = .ok (.bipush 6, 2) := by decide +kernel
theorem dL_law_604 : decode cL_law 604 = .ok (.iadd, 1) := by decide +kernel
theorem dL_law_605 : decode cL_law 605 = .ok (.iload 11, 2) := by decide +kernel
theorem dL_law_607 : decode cL_law 607 = .ok (.sipush 24000, 3) := by decide +kernel
theorem dL_law_610 : decode cL_law 610 = .ok (.idiv, 1) := by decide +kernel
theorem dL_law_611 : decode cL_law 611 = .ok (.sipush 1001, 3) := by decide +kernel
theorem dL_law_614 : decode cL_law 614 = .ok (.irem, 1) := by decide +kernel
theorem dL_law_615 : decode cL_law 615 = .ok (.iastore, 1) := by decide +kernel
theorem dL_law_616 : decode cL_law 616 = .ok (.aload_n 2, 1) := by decide +kernel
theorem dL_law_617 : decode cL_law 617 = .ok (.bipush 8, 2) := by decide +kernel
theorem dL_law_619 : decode cL_law 619 = .ok (.iload 13, 2) := by decide +kernel
theorem dL_law_621 : decode cL_law 621 = .ok (.imul, 1) := by decide +kernel
theorem dL_law_622 : decode cL_law 622 = .ok (.bipush 7, 2) := by decide +kernel
theorem dL_law_624 : decode cL_law 624 = .ok (.iadd, 1) := by decide +kernel
theorem dL_law_625 : decode cL_law 625 = .ok (.iload 11, 2) := by decide +kernel
theorem dL_law_627 : decode cL_law 627 = .ok (.bipush 8, 2) := by decide +kernel
theorem dL_law_629 : decode cL_law 629 = .ok (.idiv, 1) := by decide +kernel
theorem dL_law_630 : decode cL_law 630 = .ok (.iload 11, 2) := by decide +kernel
theorem dL_law_632 : decode cL_law 632 = .ok (.iconst 3, 1) := by decide +kernel
theorem dL_law_633 : decode cL_law 633 = .ok (.irem, 1) := by decide +kernel
theorem dL_law_634 : decode cL_law 634 = .ok (.ifCond .ne 8, 3) := by decide +kernel
theorem dL_law_637 : decode cL_law 637 = .ok (.bipush 101, 2) := by decide +kernel
theorem dL_law_639 : decode cL_law 639 = .ok (.goto 5, 3) := by decide +kernel
theorem dL_law_642 : decode cL_law 642 = .ok (.bipush 7, 2) := by decide +kernel
theorem dL_law_644 : decode cL_law 644 = .ok (.irem, 1) := by decide +kernel
theorem dL_law_645 : decode cL_law 645 = .ok (.iastore, 1) := by decide +kernel
theorem dL_law_646 : decode cL_law 646 = .ok (.aload_n 1, 1) := by decide +kernel
theorem dL_law_647 : decode cL_law 647 = .ok (.iload 13, 2) := by decide +kernel
theorem dL_law_649 : decode cL_law 649 = .ok (.aload_n 2, 1) := by decide +kernel
theorem dL_law_650 : decode cL_law 650 = .ok (.bipush 8, 2) := by decide +kernel
theorem dL_law_652 : decode cL_law 652 = .ok (.iload 13, 2) := by decide +kernel
theorem dL_law_654 : decode cL_law 654 = .ok (.imul, 1) := by decide +kernel
theorem dL_law_655 : decode cL_law 655 = .ok (.iconst 4, 1) := by decide +kernel
theorem dL_law_656 : decode cL_law 656 = .ok (.iadd, 1) := by decide +kernel
theorem dL_law_657 : decode cL_law 657 = .ok (.iaload, 1) := by decide +kernel
theorem dL_law_658 : decode cL_law 658 = .ok (.aload_n 2, 1) := by decide +kernel
theorem dL_law_659 : decode cL_law 659 = .ok (.bipush 8, 2) := by decide +kernel
theorem dL_law_661 : decode cL_law 661 = .ok (.iload 13, 2) := by decide +kernel
theorem dL_law_663 : decode cL_law 663 = .ok (.imul, 1) := by decide +kernel
theorem dL_law_664 : decode cL_law 664 = .ok (.iconst 5, 1) := by decide +kernel
theorem dL_law_665 : decode cL_law 665 = .ok (.iadd, 1) := by decide +kernel
theorem dL_law_666 : decode cL_law 666 = .ok (.iaload, 1) := by decide +kernel
theorem dL_law_667 : decode cL_law 667 = .ok (.aload_n 2, 1) := by decide +kernel
theorem dL_law_668 : decode cL_law 668 = .ok (.bipush 8, 2) := by decide +kernel
theorem dL_law_670 : decode cL_law 670 = .ok (.iload 13, 2) := by decide +kernel
theorem dL_law_672 : decode cL_law 672 = .ok (.imul, 1) := by decide +kernel
theorem dL_law_673 : decode cL_law 673 = .ok (.bipush 6, 2) := by decide +kernel
theorem dL_law_675 : decode cL_law 675 = .ok (.iadd, 1) := by decide +kernel
theorem dL_law_676 : decode cL_law 676 = .ok (.iaload, 1) := by decide +kernel
theorem dL_law_677 : decode cL_law 677 = .ok (.aload_n 2, 1) := by decide +kernel
theorem dL_law_678 : decode cL_law 678 = .ok (.bipush 8, 2) := by decide +kernel
theorem dL_law_680 : decode cL_law 680 = .ok (.iload 13, 2) := by decide +kernel
theorem dL_law_682 : decode cL_law 682 = .ok (.imul, 1) := by decide +kernel
theorem dL_law_683 : decode cL_law 683 = .ok (.bipush 7, 2) := by decide +kernel
theorem dL_law_685 : decode cL_law 685 = .ok (.iadd, 1) := by decide +kernel
theorem dL_law_686 : decode cL_law 686 = .ok (.iaload, 1) := by decide +kernel
theorem dL_law_687 : decode cL_law 687 = .ok (.invokestatic 161, 3) := by decide +kernel
theorem dL_law_690 : decode cL_law 690 = .ok (.ifCond .ne 7, 3) := by decide +kernel
theorem dL_law_693 : decode cL_law 693 = .ok (.iconst 1, 1) := by decide +kernel
theorem dL_law_694 : decode cL_law 694 = .ok (.goto 4, 3) := by decide +kernel
theorem dL_law_697 : decode cL_law 697 = .ok (.iconst 0, 1) := by decide +kernel
theorem dL_law_698 : decode cL_law 698 = .ok (.istore 8, 2) := by decide +kernel
theorem dL_law_700 : decode cL_law 700 = .ok (.goto 518, 3) := by decide +kernel
theorem dL_law_703 : decode cL_law 703 = .ok (.iload 12, 2) := by decide +kernel
theorem dL_law_705 : decode cL_law 705 = .ok (.bipush 13, 2) := by decide +kernel
theorem dL_law_707 : decode cL_law 707 = .ok (.if_icmp .ge 119, 3) := by decide +kernel
theorem dL_law_710 : decode cL_law 710 = .ok (.iload 11, 2) := by decide +kernel
theorem dL_law_712 : decode cL_law 712 = .ok (.bipush 8, 2) := by decide +kernel
theorem dL_law_714 : decode cL_law 714 = .ok (.idiv, 1) := by decide +kernel
theorem dL_law_715 : decode cL_law 715 = .ok (.bipush 12, 2) := by decide +kernel
theorem dL_law_717 : decode cL_law 717 = .ok (.irem, 1) := by decide +kernel
theorem dL_law_718 : decode cL_law 718 = .ok (.iconst 1, 1) := by decide +kernel
theorem dL_law_719 : decode cL_law 719 = .ok (.isub, 1) := by decide +kernel
theorem dL_law_720 : decode cL_law 720 = .ok (.istore 14, 2) := by decide +kernel
theorem dL_law_722 : decode cL_law 722 = .ok (.aload_n 1, 1) := by decide +kernel
theorem dL_law_723 : decode cL_law 723 = .ok (.iload 13, 2) := by decide +kernel
theorem dL_law_725 : decode cL_law 725 = .ok (.invokevirtual 73, 3) := by decide +kernel
theorem dL_law_728 : decode cL_law 728 = .ok (.istore 15, 2) := by decide +kernel
theorem dL_law_730 : decode cL_law 730 = .ok (.iload 14, 2) := by decide +kernel
theorem dL_law_732 : decode cL_law 732 = .ok (.ifCond .ge 14, 3) := by decide +kernel
theorem dL_law_735 : decode cL_law 735 = .ok (.aload_n 3, 1) := by decide +kernel
theorem dL_law_736 : decode cL_law 736 = .ok (.bipush 8, 2) := by decide +kernel
theorem dL_law_738 : decode cL_law 738 = .ok (.iload 13, 2) := by decide +kernel
theorem dL_law_740 : decode cL_law 740 = .ok (.imul, 1) := by decide +kernel
theorem dL_law_741 : decode cL_law 741 = .ok (.iaload, 1) := by decide +kernel
theorem dL_law_742 : decode cL_law 742 = .ok (.iconst 1, 1) := by decide +kernel
theorem dL_law_743 : decode cL_law 743 = .ok (.if_icmp .ne 7, 3) := by decide +kernel
theorem dL_law_746 : decode cL_law 746 = .ok (.iconst 1, 1) := by decide +kernel
theorem dL_law_747 : decode cL_law 747 = .ok (.goto 4, 3) := by decide +kernel
theorem dL_law_750 : decode cL_law 750 = .ok (.iconst 0, 1) := by decide +kernel
theorem dL_law_751 : decode cL_law 751 = .ok (.istore 16, 2) := by decide +kernel
theorem dL_law_753 : decode cL_law 753 = .ok (.aload_n 3, 1) := by decide +kernel
theorem dL_law_754 : decode cL_law 754 = .ok (.bipush 8, 2) := by decide +kernel
theorem dL_law_756 : decode cL_law 756 = .ok (.iload 13, 2) := by decide +kernel
theorem dL_law_758 : decode cL_law 758 = .ok (.imul, 1) := by decide +kernel
theorem dL_law_759 : decode cL_law 759 = .ok (.iload 14, 2) := by decide +kernel
theorem dL_law_761 : decode cL_law 761 = .ok (.ifCond .ge 7, 3) := by decide +kernel
theorem dL_law_764 : decode cL_law 764 = .ok (.iconst 0, 1) := by decide +kernel
theorem dL_law_765 : decode cL_law 765 = .ok (.goto 4, 3) := by decide +kernel
theorem dL_law_768 : decode cL_law 768 = .ok (.iconst 1, 1) := by decide +kernel
theorem dL_law_769 : decode cL_law 769 = .ok (.iastore, 1) := by decide +kernel
theorem dL_law_770 : decode cL_law 770 = .ok (.aload_n 1, 1) := by decide +kernel
theorem dL_law_771 : decode cL_law 771 = .ok (.iconst 3, 1) := by decide +kernel
theorem dL_law_772 : decode cL_law 772 = .ok (.iload 13, 2) := by decide +kernel
theorem dL_law_774 : decode cL_law 774 = .ok (.iload 14, 2) := by decide +kernel
theorem dL_law_776 : decode cL_law 776 = .ok (.invokestatic 138, 3) := by decide +kernel
theorem dL_law_779 : decode cL_law 779 = .ok (.iload 16, 2) := by decide +kernel
theorem dL_law_781 : decode cL_law 781 = .ok (.ifCond .eq 8, 3) := by decide +kernel
theorem dL_law_784 : decode cL_law 784 = .ok (.iload 15, 2) := by decide +kernel
theorem dL_law_786 : decode cL_law 786 = .ok (.goto 6, 3) := by decide +kernel
theorem dL_law_789 : decode cL_law 789 = .ok (.sipush (-1233), 3) := by decide +kernel
theorem dL_law_792 : decode cL_law 792 = .ok (.if_icmp .ne 28, 3) := by decide +kernel
theorem dL_law_795 : decode cL_law 795 = .ok (.aload_n 1, 1) := by decide +kernel
theorem dL_law_796 : decode cL_law 796 = .ok (.iload 13, 2) := by decide +kernel
theorem dL_law_798 : decode cL_law 798 = .ok (.invokevirtual 73, 3) := by decide +kernel
theorem dL_law_801 : decode cL_law 801 = .ok (.iload 14, 2) := by decide +kernel
theorem dL_law_803 : decode cL_law 803 = .ok (.ifCond .ge 8, 3) := by decide +kernel
theorem dL_law_806 : decode cL_law 806 = .ok (.iload 15, 2) := by decide +kernel
theorem dL_law_808 : decode cL_law 808 = .ok (.goto 5, 3) := by decide +kernel
theorem dL_law_811 : decode cL_law 811 = .ok (.iload 14, 2) := by decide +kernel
theorem dL_law_813 : decode cL_law 813 = .ok (.if_icmp .ne 7, 3) := by decide +kernel
theorem dL_law_816 : decode cL_law 816 = .ok (.iconst 1, 1) := by decide +kernel
theorem dL_law_817 : decode cL_law 817 = .ok (.goto 4, 3) := by decide +kernel
theorem dL_law_820 : decode cL_law 820 = .ok (.iconst 0, 1) := by decide +kernel
theorem dL_law_821 : decode cL_law 821 = .ok (.istore 8, 2) := by decide +kernel
theorem dL_law_823 : decode cL_law 823 = .ok (.goto 395, 3) := by decide +kernel
theorem dL_law_826 : decode cL_law 826 = .ok (.iload 12, 2) := by decide +kernel
theorem dL_law_828 : decode cL_law 828 = .ok (.bipush 16, 2) := by decide +kernel
theorem dL_law_830 : decode cL_law 830 = .ok (.if_icmp .ge 110, 3) := by decide +kernel
theorem dL_law_833 : decode cL_law 833 = .ok (.aload_n 3, 1) := by decide +kernel
theorem dL_law_834 : decode cL_law 834 = .ok (.bipush 8, 2) := by decide +kernel
theorem dL_law_836 : decode cL_law 836 = .ok (.iload 13, 2) := by decide +kernel
theorem dL_law_838 : decode cL_law 838 = .ok (.imul, 1) := by decide +kernel
theorem dL_law_839 : decode cL_law 839 = .ok (.iconst 1, 1) := by decide +kernel
theorem dL_law_840 : decode cL_law 840 = .ok (.iadd, 1) := by decide +kernel
theorem dL_law_841 : decode cL_law 841 = .ok (.iaload, 1) := by decide +kernel
theorem dL_law_842 : decode cL_law 842 = .ok (.ifCond .ne 7, 3) := by decide +kernel
theorem dL_law_845 : decode cL_law 845 = .ok (.iconst 1, 1) := by decide +kernel
theorem dL_law_846 : decode cL_law 846 = .ok (.goto 4, 3) := by decide +kernel
theorem dL_law_849 : decode cL_law 849 = .ok (.iconst 0, 1) := by decide +kernel
theorem dL_law_850 : decode cL_law 850 = .ok (.istore 14, 2) := by decide +kernel
theorem dL_law_852 : decode cL_law 852 = .ok (.aload_n 3, 1) := by decide +kernel
theorem dL_law_853 : decode cL_law 853 = .ok (.bipush 8, 2) := by decide +kernel
theorem dL_law_855 : decode cL_law 855 = .ok (.iload 13, 2) := by decide +kernel
theorem dL_law_857 : decode cL_law 857 = .ok (.imul, 1) := by decide +kernel
theorem dL_law_858 : decode cL_law 858 = .ok (.iconst 1, 1) := by decide +kernel
theorem dL_law_859 : decode cL_law 859 = .ok (.iadd, 1) := by decide +kernel
theorem dL_law_860 : decode cL_law 860 = .ok (.iload 14, 2) := by decide +kernel
theorem dL_law_862 : decode cL_law 862 = .ok (.ifCond .eq 7, 3) := by decide +kernel
theorem dL_law_865 : decode cL_law 865 = .ok (.iconst 1, 1) := by decide +kernel
theorem dL_law_866 : decode cL_law 866 = .ok (.goto 4, 3) := by decide +kernel
theorem dL_law_869 : decode cL_law 869 = .ok (.iconst 0, 1) := by decide +kernel
theorem dL_law_870 : decode cL_law 870 = .ok (.iastore, 1) := by decide +kernel
theorem dL_law_871 : decode cL_law 871 = .ok (.iconst 0, 1) := by decide +kernel
theorem dL_law_872 : decode cL_law 872 = .ok (.istore 15, 2) := by decide +kernel
theorem dL_law_874 : decode cL_law 874 = .ok (.iload 15, 2) := by decide +kernel
theorem dL_law_876 : decode cL_law 876 = .ok (.bipush 8, 2) := by decide +kernel
theorem dL_law_878 : decode cL_law 878 = .ok (.if_icmp .ge 29, 3) := by decide +kernel
theorem dL_law_881 : decode cL_law 881 = .ok (.iload 14, 2) := by decide +kernel
theorem dL_law_883 : decode cL_law 883 = .ok (.ifCond .ne 24, 3) := by decide +kernel
theorem dL_law_886 : decode cL_law 886 = .ok (.aload 5, 2) := by decide +kernel
theorem dL_law_888 : decode cL_law 888 = .ok (.bipush 8, 2) := by decide +kernel
theorem dL_law_890 : decode cL_law 890 = .ok (.iload 13, 2) := by decide +kernel
theorem dL_law_892 : decode cL_law 892 = .ok (.imul, 1) := by decide +kernel
theorem dL_law_893 : decode cL_law 893 = .ok (.iload 15, 2) := by decide +kernel
theorem dL_law_895 : decode cL_law 895 = .ok (.iadd, 1) := by decide +kernel
theorem dL_law_896 : decode cL_law 896 = .ok (.aload_n 1, 1) := by decide +kernel
theorem dL_law_897 : decode cL_law 897 = .ok (.invokevirtual 103, 3) := by decide +kernel
theorem dL_law_900 : decode cL_law 900 = .ok (.iastore, 1) := by decide +kernel
theorem dL_law_901 : decode cL_law 901 = .ok (.iinc 15 1, 3) := by decide +kernel
theorem dL_law_904 : decode cL_law 904 = .ok (.goto (-30), 3) := by decide +kernel
theorem dL_law_907 : decode cL_law 907 = .ok (.iload 14, 2) := by decide +kernel
theorem dL_law_909 : decode cL_law 909 = .ok (.ifCond .eq 12, 3) := by decide +kernel
theorem dL_law_912 : decode cL_law 912 = .ok (.aload_n 1, 1) := by decide +kernel
theorem dL_law_913 : decode cL_law 913 = .ok (.iload 13, 2) := by decide +kernel
theorem dL_law_915 : decode cL_law 915 = .ok (.invokestatic 169, 3) := by decide +kernel
theorem dL_law_918 : decode cL_law 918 = .ok (.goto 9, 3) := by decide +kernel
theorem dL_law_921 : decode cL_law 921 = .ok (.aload_n 1, 1) := by decide +kernel
theorem dL_law_922 : decode cL_law 922 = .ok (.iload 13, 2) := by decide +kernel
theorem dL_law_924 : decode cL_law 924 = .ok (.invokestatic 173, 3) := by decide +kernel
theorem dL_law_927 : decode cL_law 927 = .ok (.ifCond .ne 7, 3) := by decide +kernel
theorem dL_law_930 : decode cL_law 930 = .ok (.iconst 1, 1) := by decide +kernel
theorem dL_law_931 : decode cL_law 931 = .ok (.goto 4, 3) := by decide +kernel
theorem dL_law_934 : decode cL_law 934 = .ok (.iconst 0, 1) := by decide +kernel
theorem dL_law_935 : decode cL_law 935 = .ok (.istore 8, 2) := by decide +kernel
theorem dL_law_937 : decode cL_law 937 = .ok (.goto 281, 3) := by decide +kernel
theorem dL_law_940 : decode cL_law 940 = .ok (.iload 12, 2) := by decide +kernel
theorem dL_law_942 : decode cL_law 942 = .ok (.bipush 18, 2) := by decide +kernel
theorem dL_law_944 : decode cL_law 944 = .ok (.if_icmp .ge 71, 3) := by decide +kernel
theorem dL_law_947 : decode cL_law 947 = .ok (.iload 11, 2) := by decide +kernel
theorem dL_law_949 : decode cL_law 949 = .ok (.bipush 8, 2) := by decide +kernel
theorem dL_law_951 : decode cL_law 951 = .ok (.idiv, 1) := by decide +kernel
theorem dL_law_952 : decode cL_law 952 = .ok (.iconst 4, 1) := by decide +kernel
theorem dL_law_953 : decode cL_law 953 = .ok (.irem, 1) := by decide +kernel
theorem dL_law_954 : decode cL_law 954 = .ok (.iload 11, 2) := by decide +kernel
theorem dL_law_956 : decode cL_law 956 = .ok (.iconst 3, 1) := by decide +kernel
theorem dL_law_957 : decode cL_law 957 = .ok (.irem, 1) := by decide +kernel
theorem dL_law_958 : decode cL_law 958 = .ok (.ifCond .ne 7, 3) := by decide +kernel
theorem dL_law_961 : decode cL_law 961 = .ok (.iconst 1, 1) := by decide +kernel
theorem dL_law_962 : decode cL_law 962 = .ok (.goto 4, 3) := by decide +kernel
theorem dL_law_965 : decode cL_law 965 = .ok (.iconst 0, 1) := by decide +kernel
theorem dL_law_966 : decode cL_law 966 = .ok (.imul, 1) := by decide +kernel
theorem dL_law_967 : decode cL_law 967 = .ok (.istore 14, 2) := by decide +kernel
theorem dL_law_969 : decode cL_law 969 = .ok (.aload_n 3, 1) := by decide +kernel
theorem dL_law_970 : decode cL_law 970 = .ok (.bipush 8, 2) := by decide +kernel
theorem dL_law_972 : decode cL_law 972 = .ok (.iload 13, 2) := by decide +kernel
theorem dL_law_974 : decode cL_law 974 = .ok (.imul, 1) := by decide +kernel
theorem dL_law_975 : decode cL_law 975 = .ok (.iconst 3, 1) := by decide +kernel
theorem dL_law_976 : decode cL_law 976 = .ok (.iadd, 1) := by decide +kernel
theorem dL_law_977 : decode cL_law 977 = .ok (.iaload, 1) := by decide +kernel
theorem dL_law_978 : decode cL_law 978 = .ok (.istore 15, 2) := by decide +kernel
theorem dL_law_980 : decode cL_law 980 = .ok (.aload_n 3, 1) := by decide +kernel
theorem dL_law_981 : decode cL_law 981 = .ok (.bipush 8, 2) := by decide +kernel
theorem dL_law_983 : decode cL_law 983 = .ok (.iload 13, 2) := by decide +kernel
theorem dL_law_985 : decode cL_law 985 = .ok (.imul, 1) := by decide +kernel
theorem dL_law_986 : decode cL_law 986 = .ok (.iconst 3, 1) := by decide +kernel
theorem dL_law_987 : decode cL_law 987 = .ok (.iadd, 1) := by decide +kernel
theorem dL_law_988 : decode cL_law 988 = .ok (.iload 14, 2) := by decide +kernel
theorem dL_law_990 : decode cL_law 990 = .ok (.iastore, 1) := by decide +kernel
theorem dL_law_991 : decode cL_law 991 = .ok (.aload_n 1, 1) := by decide +kernel
theorem dL_law_992 : decode cL_law 992 = .ok (.iconst 4, 1) := by decide +kernel
theorem dL_law_993 : decode cL_law 993 = .ok (.iload 13, 2) := by decide +kernel
theorem dL_law_995 : decode cL_law 995 = .ok (.iload 14, 2) := by decide +kernel
theorem dL_law_997 : decode cL_law 997 = .ok (.invokestatic 138, 3) := by decide +kernel
theorem dL_law_1000 : decode cL_law 1000 = .ok (.iload 15, 2) := by decide +kernel
theorem dL_law_1002 : decode cL_law 1002 = .ok (.if_icmp .ne 7, 3) := by decide +kernel
theorem dL_law_1005 : decode cL_law 1005 = .ok (.iconst 1, 1) := by decide +kernel
theorem dL_law_1006 : decode cL_law 1006 = .ok (.goto 4, 3) := by decide +kernel
theorem dL_law_1009 : decode cL_law 1009 = .ok (.iconst 0, 1) := by decide +kernel
theorem dL_law_1010 : decode cL_law 1010 = .ok (.istore 8, 2) := by decide +kernel
theorem dL_law_1012 : decode cL_law 1012 = .ok (.goto 206, 3) := by decide +kernel
theorem dL_law_1015 : decode cL_law 1015 = .ok (.iload 12, 2) := by decide +kernel
theorem dL_law_1017 : decode cL_law 1017 = .ok (.bipush 18, 2) := by decide +kernel
theorem dL_law_1019 : decode cL_law 1019 = .ok (.if_icmp .ne 59, 3) := by decide +kernel
theorem dL_law_1022 : decode cL_law 1022 = .ok (.aload_n 3, 1) := by decide +kernel
theorem dL_law_1023 : decode cL_law 1023 = .ok (.bipush 8, 2) := by decide +kernel
theorem dL_law_1025 : decode cL_law 1025 = .ok (.iload 13, 2) := by decide +kernel
theorem dL_law_1027 : decode cL_law 1027 = .ok (.imul, 1) := by decide +kernel
theorem dL_law_1028 : decode cL_law 1028 = .ok (.iconst 2, 1) := by decide +kernel
theorem dL_law_1029 : decode cL_law 1029 = .ok (.iadd, 1) := by decide +kernel
theorem dL_law_1030 : decode cL_law 1030 = .ok (.iaload, 1) := by decide +kernel
theorem dL_law_1031 : decode cL_law 1031 = .ok (.istore 14, 2) := by decide +kernel
theorem dL_law_1033 : decode cL_law 1033 = .ok (.aload_n 3, 1) := by decide +kernel
theorem dL_law_1034 : decode cL_law 1034 = .ok (.bipush 8, 2) := by decide +kernel
theorem dL_law_1036 : decode cL_law 1036 = .ok (.iload 13, 2) := by decide +kernel
theorem dL_law_1038 : decode cL_law 1038 = .ok (.imul, 1) := by decide +kernel
theorem dL_law_1039 : decode cL_law 1039 = .ok (.iconst 2, 1) := by decide +kernel
theorem dL_law_1040 : decode cL_law 1040 = .ok (.iadd, 1) := by decide +kernel
theorem dL_law_1041 : decode cL_law 1041 = .ok (.iload 11, 2) := by decide +kernel
theorem dL_law_1043 : decode cL_law 1043 = .ok (.bipush 8, 2) := by decide +kernel
theorem dL_law_1045 : decode cL_law 1045 = .ok (.idiv, 1) := by decide +kernel
theorem dL_law_1046 : decode cL_law 1046 = .ok (.iconst 2, 1) := by decide +kernel
theorem dL_law_1047 : decode cL_law 1047 = .ok (.irem, 1) := by decide +kernel
theorem dL_law_1048 : decode cL_law 1048 = .ok (.iastore, 1) := by decide +kernel
theorem dL_law_1049 : decode cL_law 1049 = .ok (.aload_n 1, 1) := by decide +kernel
theorem dL_law_1050 : decode cL_law 1050 = .ok (.iconst 5, 1) := by decide +kernel
theorem dL_law_1051 : decode cL_law 1051 = .ok (.iload 13, 2) := by decide +kernel
theorem dL_law_1053 : decode cL_law 1053 = .ok (.iload 11, 2) := by decide +kernel
theorem dL_law_1055 : decode cL_law 1055 = .ok (.bipush 8, 2) := by decide +kernel
theorem dL_law_1057 : decode cL_law 1057 = .ok (.idiv, 1) := by decide +kernel
theorem dL_law_1058 : decode cL_law 1058 = .ok (.iconst 2, 1) := by decide +kernel
theorem dL_law_1059 : decode cL_law 1059 = .ok (.irem, 1) := by decide +kernel
theorem dL_law_1060 : decode cL_law 1060 = .ok (.invokestatic 138, 3) := by decide +kernel
theorem dL_law_1063 : decode cL_law 1063 = .ok (.iload 14, 2) := by decide +kernel
theorem dL_law_1065 : decode cL_law 1065 = .ok (.if_icmp .ne 7, 3) := by decide +kernel
theorem dL_law_1068 : decode cL_law 1068 = .ok (.iconst 1, 1) := by decide +kernel
theorem dL_law_1069 : decode cL_law 1069 = .ok (.goto 4, 3) := by decide +kernel
theorem dL_law_1072 : decode cL_law 1072 = .ok (.iconst 0, 1) := by decide +kernel
theorem dL_law_1073 : decode cL_law 1073 = .ok (.istore 8, 2) := by decide +kernel
theorem dL_law_1075 : decode cL_law 1075 = .ok (.goto 143, 3) := by decide +kernel
theorem dL_law_1078 : decode cL_law 1078 = .ok (.iload 12, 2) := by decide +kernel
theorem dL_law_1080 : decode cL_law 1080 = .ok (.bipush 19, 2) := by decide +kernel
theorem dL_law_1082 : decode cL_law 1082 = .ok (.if_icmp .ne 78, 3) := by decide +kernel
theorem dL_law_1085 : decode cL_law 1085 = .ok (.aload 7, 2) := by decide +kernel
theorem dL_law_1087 : decode cL_law 1087 = .ok (.iconst 1, 1) := by decide +kernel
theorem dL_law_1088 : decode cL_law 1088 = .ok (.iconst 1, 1) := by decide +kernel
theorem dL_law_1089 : decode cL_law 1089 = .ok (.iload 11, 2) := by decide +kernel
theorem dL_law_1091 : decode cL_law 1091 = .ok (.iload 11, 2) := by decide +kernel
theorem dL_law_1093 : decode cL_law 1093 = .ok (.iconst 3, 1) := by decide +kernel
theorem dL_law_1094 : decode cL_law 1094 = .ok (.irem, 1) := by decide +kernel
theorem dL_law_1095 : decode cL_law 1095 = .ok (.ifCond .ne 8, 3) := by decide +kernel
theorem dL_law_1098 : decode cL_law 1098 = .ok (.bipush 50, 2) := by decide +kernel
theorem dL_law_1100 : decode cL_law 1100 = .ok (.goto 4, 3) := by decide +kernel
theorem dL_law_1103 : decode cL_law 1103 = .ok (.iconst 4, 1) := by decide +kernel
theorem dL_law_1104 : decode cL_law 1104 = .ok (.irem, 1) := by decide +kernel
theorem dL_law_1105 : decode cL_law 1105 = .ok (.iadd, 1) := by decide +kernel
theorem dL_law_1106 : decode cL_law 1106 = .ok (.iastore, 1) := by decide +kernel
theorem dL_law_1107 : decode cL_law 1107 = .ok (.aload 7, 2) := by decide +kernel
theorem dL_law_1109 : decode cL_law 1109 = .ok (.iconst 2, 1) := by decide +kernel
theorem dL_law_1110 : decode cL_law 1110 = .ok (.aload 7, 2) := by decide +kernel
theorem dL_law_1112 : decode cL_law 1112 = .ok (.iconst 1, 1) := by decide +kernel
theorem dL_law_1113 : decode cL_law 1113 = .ok (.iaload, 1) := by decide +kernel
theorem dL_law_1114 : decode cL_law 1114 = .ok (.iload 11, 2) := by decide +kernel
theorem dL_law_1116 : decode cL_law 1116 = .ok (.bipush 50, 2) := by decide +kernel
theorem dL_law_1118 : decode cL_law 1118 = .ok (.idiv, 1) := by decide +kernel
theorem dL_law_1119 : decode cL_law 1119 = .ok (.iload 11, 2) := by decide +kernel
theorem dL_law_1121 : decode cL_law 1121 = .ok (.iconst 3, 1) := by decide +kernel
theorem dL_law_1122 : decode cL_law 1122 = .ok (.irem, 1) := by decide +kernel
theorem dL_law_1123 : decode cL_law 1123 = .ok (.ifCond .ne 8, 3) := by decide +kernel
theorem dL_law_1126 : decode cL_law 1126 = .ok (.bipush 51, 2) := by decide +kernel
theorem dL_law_1128 : decode cL_law 1128 = .ok (.goto 4, 3) := by decide +kernel
theorem dL_law_1131 : decode cL_law 1131 = .ok (.iconst 5, 1) := by decide +kernel
theorem dL_law_1132 : decode cL_law 1132 = .ok (.irem, 1) := by decide +kernel
theorem dL_law_1133 : decode cL_law 1133 = .ok (.iadd, 1) := by decide +kernel
theorem dL_law_1134 : decode cL_law 1134 = .ok (.iastore, 1) := by decide +kernel
theorem dL_law_1135 : decode cL_law 1135 = .ok (.aload_n 1, 1) := by decide +kernel
theorem dL_law_1136 : decode cL_law 1136 = .ok (.aload 7, 2) := by decide +kernel
theorem dL_law_1138 : decode cL_law 1138 = .ok (.iconst 1, 1) := by decide +kernel
theorem dL_law_1139 : decode cL_law 1139 = .ok (.iaload, 1) := by decide +kernel
theorem dL_law_1140 : decode cL_law 1140 = .ok (.aload 7, 2) := by decide +kernel
theorem dL_law_1142 : decode cL_law 1142 = .ok (.iconst 2, 1) := by decide +kernel
theorem dL_law_1143 : decode cL_law 1143 = .ok (.iaload, 1) := by decide +kernel
theorem dL_law_1144 : decode cL_law 1144 = .ok (.invokestatic 165, 3) := by decide +kernel
theorem dL_law_1147 : decode cL_law 1147 = .ok (.ifCond .ne 7, 3) := by decide +kernel
theorem dL_law_1150 : decode cL_law 1150 = .ok (.iconst 1, 1) := by decide +kernel
theorem dL_law_1151 : decode cL_law 1151 = .ok (.goto 4, 3) := by decide +kernel
theorem dL_law_1154 : decode cL_law 1154 = .ok (.iconst 0, 1) := by decide +kernel
theorem dL_law_1155 : decode cL_law 1155 = .ok (.istore 8, 2) := by decide +kernel
theorem dL_law_1157 : decode cL_law 1157 = .ok (.goto 61, 3) := by decide +kernel
theorem dL_law_1160 : decode cL_law 1160 = .ok (.iconst 1, 1) := by decide +kernel
theorem dL_law_1161 : decode cL_law 1161 = .ok (.iload 11, 2) := by decide +kernel
theorem dL_law_1163 : decode cL_law 1163 = .ok (.iload 11, 2) := by decide +kernel
theorem dL_law_1165 : decode cL_law 1165 = .ok (.bipush 7, 2) := by decide +kernel
theorem dL_law_1167 : decode cL_law 1167 = .ok (.irem, 1) := by decide +kernel
theorem dL_law_1168 : decode cL_law 1168 = .ok (.ifCond .ne 8, 3) := by decide +kernel
theorem dL_law_1171 : decode cL_law 1171 = .ok (.bipush 15, 2) := by decide +kernel
theorem dL_law_1173 : decode cL_law 1173 = .ok (.goto 4, 3) := by decide +kernel
theorem dL_law_1176 : decode cL_law 1176 = .ok (.iconst 4, 1) := by decide +kernel
theorem dL_law_1177 : decode cL_law 1177 = .ok (.irem, 1) := by decide +kernel
theorem dL_law_1178 : decode cL_law 1178 = .ok (.iadd, 1) := by decide +kernel
theorem dL_law_1179 : decode cL_law 1179 = .ok (.istore 14, 2) := by decide +kernel
theorem dL_law_1181 : decode cL_law 1181 = .ok (.iconst 0, 1) := by decide +kernel
theorem dL_law_1182 : decode cL_law 1182 = .ok (.istore 15, 2) := by decide +kernel
theorem dL_law_1184 : decode cL_law 1184 = .ok (.iload 15, 2) := by decide +kernel
theorem dL_law_1186 : decode cL_law 1186 = .ok (.iload 14, 2) := by decide +kernel
theorem dL_law_1188 : decode cL_law 1188 = .ok (.if_icmp .ge 30, 3) := by decide +kernel
theorem dL_law_1191 : decode cL_law 1191 = .ok (.iload 8, 2) := by decide +kernel
theorem dL_law_1193 : decode cL_law 1193 = .ok (.ifCond .eq 25, 3) := by decide +kernel
theorem dL_law_1196 : decode cL_law 1196 = .ok (.aload_n 1, 1) := by decide +kernel
theorem dL_law_1197 : decode cL_law 1197 = .ok (.aload_n 2, 1) := by decide +kernel
theorem dL_law_1198 : decode cL_law 1198 = .ok (.aload_n 3, 1) := by decide +kernel
theorem dL_law_1199 : decode cL_law 1199 = .ok (.aload 4, 2) := by decide +kernel
theorem dL_law_1201 : decode cL_law 1201 = .ok (.aload 5, 2) := by decide +kernel
theorem dL_law_1203 : decode cL_law 1203 = .ok (.aload 6, 2) := by decide +kernel
theorem dL_law_1205 : decode cL_law 1205 = .ok (.aload 7, 2) := by decide +kernel
theorem dL_law_1207 : decode cL_law 1207 = .ok (.invokestatic 188, 3) := by decide +kernel
theorem dL_law_1210 : decode cL_law 1210 = .ok (.istore 8, 2) := by decide +kernel
theorem dL_law_1212 : decode cL_law 1212 = .ok (.iinc 15 1, 3) := by decide +kernel
theorem dL_law_1215 : decode cL_law 1215 = .ok (.goto (-31), 3) := by decide +kernel
theorem dL_law_1218 : decode cL_law 1218 = .ok (.iload 8, 2) := by decide +kernel
theorem dL_law_1220 : decode cL_law 1220 = .ok (.ifCond .eq 42, 3) := by decide +kernel
theorem dL_law_1223 : decode cL_law 1223 = .ok (.iload 9, 2) := by decide +kernel
theorem dL_law_1225 : decode cL_law 1225 = .ok (.iconst 3, 1) := by decide +kernel
theorem dL_law_1226 : decode cL_law 1226 = .ok (.irem, 1) := by decide +kernel
theorem dL_law_1227 : decode cL_law 1227 = .ok (.ifCond .gt 11, 3) := by decide +kernel
theorem dL_law_1230 : decode cL_law 1230 = .ok (.aload_n 1, 1) := by decide +kernel
theorem dL_law_1231 : decode cL_law 1231 = .ok (.aload_n 3, 1) := by decide +kernel
theorem dL_law_1232 : decode cL_law 1232 = .ok (.invokestatic 192, 3) := by decide +kernel
theorem dL_law_1235 : decode cL_law 1235 = .ok (.ifCond .eq 27, 3) := by decide +kernel
theorem dL_law_1238 : decode cL_law 1238 = .ok (.iload 9, 2) := by decide +kernel
theorem dL_law_1240 : decode cL_law 1240 = .ok (.bipush 18, 2) := by decide +kernel
theorem dL_law_1242 : decode cL_law 1242 = .ok (.irem, 1) := by decide +kernel
theorem dL_law_1243 : decode cL_law 1243 = .ok (.ifCond .gt 15, 3) := by decide +kernel
theorem dL_law_1246 : decode cL_law 1246 = .ok (.aload_n 1, 1) := by decide +kernel
theorem dL_law_1247 : decode cL_law 1247 = .ok (.aload_n 3, 1) := by decide +kernel
theorem dL_law_1248 : decode cL_law 1248 = .ok (.iload 10, 2) := by decide +kernel
theorem dL_law_1250 : decode cL_law 1250 = .ok (.iconst 3, 1) := by decide +kernel
theorem dL_law_1251 : decode cL_law 1251 = .ok (.idiv, 1) := by decide +kernel
theorem dL_law_1252 : decode cL_law 1252 = .ok (.invokestatic 180, 3) := by decide +kernel
theorem dL_law_1255 : decode cL_law 1255 = .ok (.ifCond .eq 7, 3) := by decide +kernel
theorem dL_law_1258 : decode cL_law 1258 = .ok (.iconst 1, 1) := by decide +kernel
theorem dL_law_1259 : decode cL_law 1259 = .ok (.goto 4, 3) := by decide +kernel
theorem dL_law_1262 : decode cL_law 1262 = .ok (.iconst 0, 1) := by decide +kernel
theorem dL_law_1263 : decode cL_law 1263 = .ok (.istore 8, 2) := by decide +kernel
theorem dL_law_1265 : decode cL_law 1265 = .ok (.iinc 9 1, 3) := by decide +kernel
theorem dL_law_1268 : decode cL_law 1268 = .ok (.goto (-1097), 3) := by decide +kernel
theorem dL_law_1271 : decode cL_law 1271 = .ok (.iload 8, 2) := by decide +kernel
theorem dL_law_1273 : decode cL_law 1273 = .ok (.ifCond .eq 15, 3) := by decide +kernel
theorem dL_law_1276 : decode cL_law 1276 = .ok (.aload_n 1, 1) := by decide +kernel
theorem dL_law_1277 : decode cL_law 1277 = .ok (.aload_n 3, 1) := by decide +kernel
theorem dL_law_1278 : decode cL_law 1278 = .ok (.invokestatic 192, 3) := by decide +kernel
theorem dL_law_1281 : decode cL_law 1281 = .ok (.ifCond .eq 7, 3) := by decide +kernel
theorem dL_law_1284 : decode cL_law 1284 = .ok (.iconst 1, 1) := by decide +kernel
theorem dL_law_1285 : decode cL_law 1285 = .ok (.goto 4, 3) := by decide +kernel
theorem dL_law_1288 : decode cL_law 1288 = .ok (.iconst 0, 1) := by decide +kernel
theorem dL_law_1289 : decode cL_law 1289 = .ok (.ireturn, 1) := by decide +kernel
end
section
/-! 04.base: the frame of this proof. A world is a table Y of families of cells (a family: so many rows of one shape), at addresses G.2.2 f r; what it holds is a state S : family, row, index. 'xg F k w pc L st I': from every machine state at pc whose locals hold L, whose stack is st, whose heap keeps I, the method goes to its end. -/
abbrev xS : Type := Nat → Int32 → Int32 → Int32
def xu (S : xS) (f : Nat) (r i v : Int32) : xS := fun f' => if f' = f then (fun r' i' => if r' = r ∧ i' = i then v else S f' r' i') else S f'
abbrev xSh : Type := (Nat × List (Option Nat)) ⊕ ((Bool × Nat) ⊕ Nat)
abbrev xY : Type := List (Nat × xSh)
abbrev xG : Type := va_G × (ClassId × ClassId × ClassId) × (Nat → Int32 → Nat)
def xFl (ad : Nat → Int32 → Nat) (g : Int32 → Int32) : List (Option Nat) → Nat → List Value
  | [], _ => []
  | some t :: l, k => .ref (ad t 0) :: xFl ad g l (k + 1)
  | none :: l, k => .int (g (nI k)) :: xFl ad g l (k + 1)
theorem xFl_ref {ad : Nat → Int32 → Nat} {g : Int32 → Int32} : ∀ (l : List (Option Nat)) (j k : Nat) (t : Nat), l[k]? = some (some t) → (xFl ad g l j)[k]? = some (.ref (ad t 0))
  | [], _, k, t, h => by simp at h
  | some a :: l, j, 0, t, h => by
    simp at h
    subst h
    simp [xFl]
  | none :: l, j, 0, t, h => by simp at h
  | some a :: l, j, k + 1, t, h => by
    simp only [List.getElem?_cons_succ] at h
    simp only [xFl, List.getElem?_cons_succ]
    exact xFl_ref l (j + 1) k t h
  | none :: l, j, k + 1, t, h => by
    simp only [List.getElem?_cons_succ] at h
    simp only [xFl, List.getElem?_cons_succ]
    exact xFl_ref l (j + 1) k t h
theorem xFl_int {ad : Nat → Int32 → Nat} {g : Int32 → Int32} : ∀ (l : List (Option Nat)) (j k : Nat), l[k]? = some none → (xFl ad g l j)[k]? = some (.int (g (nI (j + k))))
  | [], _, k, h => by simp at h
  | some a :: l, j, 0, h => by simp at h
  | none :: l, j, 0, h => by simp [xFl]
  | some a :: l, j, k + 1, h => by
    simp only [List.getElem?_cons_succ] at h
    simp only [xFl, List.getElem?_cons_succ]
    rw [xFl_int l (j + 1) k h, show j + 1 + k = j + (k + 1) by omega]
  | none :: l, j, k + 1, h => by
    simp only [List.getElem?_cons_succ] at h
    simp only [xFl, List.getElem?_cons_succ]
    rw [xFl_int l (j + 1) k h, show j + 1 + k = j + (k + 1) by omega]
theorem xFl_len {ad : Nat → Int32 → Nat} {g : Int32 → Int32} : ∀ (l : List (Option Nat)) (j : Nat), (xFl ad g l j).length = l.length
  | [], _ => rfl
  | some a :: l, j => by simp [xFl, xFl_len l (j + 1)]
  | none :: l, j => by simp [xFl, xFl_len l (j + 1)]
theorem xFl_cong {ad : Nat → Int32 → Nat} {g g' : Int32 → Int32} : ∀ (l : List (Option Nat)) (j : Nat), (∀ k, j ≤ k → k < j + l.length → g (nI k) = g' (nI k)) → xFl ad g l j = xFl ad g' l j
  | [], _, _ => rfl
  | some a :: l, j, h => by
    simp only [xFl]
    rw [xFl_cong l (j + 1) (fun k h1 h2 => h k (by omega) (by simp only [List.length_cons]; omega))]
  | none :: l, j, h => by
    simp only [xFl]
    rw [xFl_cong l (j + 1) (fun k h1 h2 => h k (by omega) (by simp only [List.length_cons]; omega)), h j (Nat.le_refl _) (by simp only [List.length_cons]; omega)]
theorem xFl_set {ad : Nat → Int32 → Nat} {g : Int32 → Int32} {v : Int32} : ∀ (l : List (Option Nat)) (j k : Nat), j + l.length < 2 ^ 31 → l[k]? = some none → (xFl ad g l j).set k (.int v) = xFl ad (fun i => if i = nI (j + k) then v else g i) l j
  | [], _, k, _, h => by simp at h
  | some a :: l, j, 0, _, h => by simp at h
  | none :: l, j, 0, hn, h => by
    simp only [List.length_cons] at hn
    simp only [xFl, List.set_cons_zero, Nat.add_zero, if_true]
    rw [xFl_cong (g := g) (g' := fun i => if i = nI j then v else g i) l (j + 1) (fun k h1 h2 => ?_)]
    show g (nI k) = if nI k = nI j then v else g (nI k)
    rw [if_neg]
    rw [nI_eq (by omega) (by omega)]
    omega
  | some a :: l, j, k + 1, hn, h => by
    simp only [List.getElem?_cons_succ] at h
    simp only [List.length_cons] at hn
    simp only [xFl, List.set_cons_succ]
    rw [xFl_set l (j + 1) k (by omega) h, show j + 1 + k = j + (k + 1) by omega]
  | none :: l, j, k + 1, hn, h => by
    simp only [List.getElem?_cons_succ] at h
    simp only [List.length_cons] at hn
    have hk : k < l.length := (List.getElem?_eq_some_iff.mp h).1
    simp only [xFl, List.set_cons_succ]
    rw [xFl_set l (j + 1) k (by omega) h, show j + 1 + k = j + (k + 1) by omega, if_neg]
    rw [nI_eq (by omega) (by omega)]
    omega
def xE (G : xG) (g : Int32 → Int32) (y : xSh) : va_E := match y with
  | .inl (ci, fs) => .inr (ci, xFl G.2.2 g fs 0)
  | .inr (.inl (z, n)) => .inl (cond z G.2.1.2.1 G.2.1.1, n, .inl (fun j => g (nI j)))
  | .inr (.inr b) => .inl (G.2.1.2.2, 8, .inr (.inr (.inr (.inr (fun j => some (G.2.2 b (nI j)))))))
def xP (Y : xY) (G : xG) (S : xS) (H : Heap) : Prop := ∀ (f : Nat) (q : Nat × xSh), Y[f]? = some q → ∀ j : Nat, j < q.1 → va_at G.1 vwCl (G.2.2 f (nI j), xE G (S f (nI j)) q.2) H
def xAp (Y : xY) (G : xG) : Prop := (∀ (f : Nat) (q : Nat × xSh), Y[f]? = some q → q.1 ≤ 8) ∧ ∀ (f : Nat) (q : Nat × xSh) (j f' : Nat) (q' : Nat × xSh) (j' : Nat), Y[f]? = some q → j < q.1 → Y[f']? = some q' → j' < q'.1 → G.2.2 f (nI j) = G.2.2 f' (nI j') → f = f' ∧ j = j'
def xA (Y : xY) (G : xG) : Nat → Prop := fun a => ∃ (f : Nat) (q : Nat × xSh) (j : Nat), Y[f]? = some q ∧ j < q.1 ∧ a = G.2.2 f (nI j)
/-- r is a row of a family of n rows -/
def xR (n : Nat) (r : Int32) : Prop := ∃ j : Nat, j < n ∧ r = nI j
theorem xR_0 {n : Nat} (h : 0 < n) : xR n 0 := ⟨0, h, nI_0.symm⟩
theorem xR_8 {r : Int32} {n : Nat} (hn : n < 2 ^ 31) (h : vp_in r n) : xR n r := by
  obtain ⟨j, h1, h2⟩ := vp_in_of h hn
  exact ⟨j, h1, h2⟩
theorem xu_ne {S : xS} {f f' : Nat} {r i v r' i' : Int32} (h : f' ≠ f) : xu S f r i v f' r' i' = S f' r' i' := by
  unfold xu
  rw [if_neg h]
theorem xu_self {S : xS} {f : Nat} {r i v r' i' : Int32} : xu S f r i v f r' i' = if r' = r ∧ i' = i then v else S f r' i' := by
  unfold xu
  rw [if_pos rfl]
theorem xP_at {Y : xY} {G : xG} {S : xS} {H : Heap} (h : xP Y G S H) {f : Nat} {n : Nat} {y : xSh} {r : Int32} (hY : Y[f]? = some (n, y)) (hr : xR n r) : va_at G.1 vwCl (G.2.2 f r, xE G (S f r) y) H := by
  obtain ⟨j, h1, rfl⟩ := hr
  exact h f (n, y) hY j h1
theorem xP_put {Y : xY} {G : xG} {S : xS} {H H1 : Heap} {f n : Nat} {y : xSh} {r i v : Int32} (hP : xP Y G S H) (hap : xAp Y G) (hY : Y[f]? = some (n, y)) (hr : xR n r)
    (hnew : va_at G.1 vwCl (G.2.2 f r, xE G (xu S f r i v f r) y) H1) (hold : ∀ a : Nat, a ≠ G.2.2 f r → H1[a]? = H[a]?) : xP Y G (xu S f r i v) H1 := by
  obtain ⟨j, hj, rfl⟩ := hr
  intro f' q' hY' j' hj'
  have b1 := hap.1 f _ hY
  have b2 := hap.1 f' _ hY'
  by_cases hc : f' = f ∧ j' = j
  · obtain ⟨rfl, rfl⟩ := hc
    cases hY.symm.trans hY'
    exact hnew
  · have hne : G.2.2 f' (nI j') ≠ G.2.2 f (nI j) := fun he => hc (hap.2 f' q' j' f (n, y) j hY' hj' hY hj he)
    have h0 := (hP f' q' hY' j' hj').kept (hold _ hne)
    have he : xu S f (nI j) i v f' (nI j') = S f' (nI j') := by
      funext i'
      by_cases hf : f' = f
      · subst hf
        rw [xu_self, if_neg]
        intro hh
        have hjj : j' ≠ j := fun z => hc ⟨rfl, z⟩
        have h8 : n ≤ 8 := b1
        have h8' : q'.1 ≤ 8 := b2
        have := (nI_eq (a := j') (b := j) (by omega) (by omega)).mp hh.1
        exact hjj this
      · exact xu_ne hf
    rw [he]
    exact h0
theorem xP_kept {Y : xY} {G : xG} {S : xS} {H H1 : Heap} (hP : xP Y G S H) (h : ∀ a : Nat, xA Y G a → H1[a]? = H[a]?) : xP Y G S H1 := fun f q hY j hj => (hP f q hY j hj).kept (h _ ⟨f, q, j, hY, hj, rfl⟩)
theorem xA_of {Y : xY} {G : xG} {f n : Nat} {y : xSh} {r : Int32} (hY : Y[f]? = some (n, y)) (hr : xR n r) : xA Y G (G.2.2 f r) := by
  obtain ⟨j, h1, rfl⟩ := hr
  exact ⟨f, (n, y), j, hY, h1, rfl⟩
theorem xA_lt {Y : xY} {G : xG} {S : xS} {H : Heap} (hP : xP Y G S H) {a : Nat} (h : xA Y G a) : a < H.size := by
  obtain ⟨f, q, j, hY, hj, rfl⟩ := h
  exact (hP f q hY j hj).lt
theorem xarr_cong {cA : ClassId} {n : Nat} {f g : Nat → Value} (h : ∀ j, j < n → f j = g j) : arrV cA n f = arrV cA n g := by
  unfold arrV
  congr 1
  apply Array.ext
  · simp
  · intro i h1 h2
    simp at h1
    simp [h i h1]
/-! the locals: by their places -/
/-- what holds of a local: a long fills the next place too, of which nothing else is known -/
def xL (ls : Array Slot) (nL : Nat) (L : List (Option Value)) : Prop := ls.size = nL ∧ lv_wf ls ∧ ∀ (j : Nat) (w : Value), L[j]? = some (some w) → ls[j]? = some (.val w) ∧ (w.category = 1 ∨ ∀ v, L[j + 1]? ≠ some (some v))
/-- no long ends at place i -/
def xnl (L : List (Option Value)) : Nat → Bool
  | 0 => true
  | i + 1 => match L[i]? with
    | some (some w) => w.category == 1
    | _ => true
theorem xnl_1 {L : List (Option Value)} {i j : Nat} {w : Value} (h : xnl L i = true) (hj : L[j]? = some (some w)) (hw : ¬ w.category = 1) : j + 1 ≠ i := by
  intro e
  subst e
  simp [xnl, hj] at h
  exact hw h
def xPairs (L : List (Option Value)) : List (Nat × Value) := L.zipIdx.filterMap (fun q => q.1.map (fun v => (q.2, v)))
theorem xPairs_mem {L : List (Option Value)} {j : Nat} {w : Value} : (j, w) ∈ xPairs L ↔ L[j]? = some (some w) := by
  unfold xPairs
  rw [List.mem_filterMap]
  constructor
  · rintro ⟨⟨a, b⟩, h1, h2⟩
    rw [List.mem_zipIdx_iff_getElem?] at h1
    cases a with
    | none => simp at h2
    | some x =>
      simp at h2
      obtain ⟨rfl, rfl⟩ := h2
      exact h1
  · intro h
    exact ⟨(some w, j), List.mem_zipIdx_iff_getElem?.mpr h, rfl⟩
theorem xL_has {ls : Array Slot} {nL : Nat} {L : List (Option Value)} (h : xL ls nL L) : lv_has ls nL (xPairs L) := ⟨h.1, h.2.1, fun q hq => (h.2.2 q.1 q.2 (xPairs_mem.mp hq)).1⟩
theorem xL_of {ls ls' : Array Slot} {nL i : Nat} {L : List (Option Value)} {v : Value} (h : xL ls nL L) (hv : v.category = 1) (hno : xnl L i = true) (h' : lv_has ls' nL ((i, v) :: (xPairs L).filter (fun q => !(q.1 == i) && !(q.1 + 1 == i && q.2.category == 2)))) : xL ls' nL (L.set i (some v)) := by
  refine ⟨h'.1, h'.2.1, fun j w hj => ?_⟩
  by_cases hji : j = i
  · subst hji
    rw [List.getElem?_set] at hj
    simp only [if_true] at hj
    split at hj
    · simp at hj
      subst hj
      exact ⟨h'.2.2 (j, v) List.mem_cons_self, Or.inl hv⟩
    · cases hj
  · rw [List.getElem?_set_ne (Ne.symm hji)] at hj
    have hc := (h.2.2 j w hj).2
    have hne : ¬ w.category = 1 → j + 1 ≠ i := fun z => xnl_1 hno hj z
    refine ⟨h'.2.2 (j, w) (List.mem_cons_of_mem _ (List.mem_filter.mpr ⟨xPairs_mem.mpr hj, ?_⟩)), ?_⟩
    · by_cases z : w.category = 1
      · simp [hji, z]
      · simp [hji, hne z]
    · rcases hc with z | z
      · exact Or.inl z
      · by_cases z1 : w.category = 1
        · exact Or.inl z1
        · exact Or.inr (by rw [List.getElem?_set_ne (Ne.symm (hne z1))]; exact z)
theorem xL_of2 {ls ls' : Array Slot} {nL i : Nat} {L : List (Option Value)} {v : Value} (h : xL ls nL L) (hno : xnl L i = true) (hnx : L[i + 1]? = some none) (h' : lv_has ls' nL ((i, v) :: (xPairs L).filter (fun q => !(q.1 == i) && (!(q.1 == i + 1) && !(q.1 + 1 == i && q.2.category == 2))))) : xL ls' nL (L.set i (some v)) := by
  refine ⟨h'.1, h'.2.1, fun j w hj => ?_⟩
  by_cases hji : j = i
  · subst hji
    rw [List.getElem?_set] at hj
    simp only [if_true] at hj
    split at hj
    · simp at hj
      subst hj
      exact ⟨h'.2.2 (j, v) List.mem_cons_self, Or.inr (by rw [List.getElem?_set_ne (by omega), hnx]; exact fun v z => by cases z)⟩
    · cases hj
  · rw [List.getElem?_set_ne (Ne.symm hji)] at hj
    have hc := (h.2.2 j w hj).2
    have hne : ¬ w.category = 1 → j + 1 ≠ i := fun z => xnl_1 hno hj z
    have hn2 : ¬ j = i + 1 := fun z => by rw [z, hnx] at hj; cases hj
    refine ⟨h'.2.2 (j, w) (List.mem_cons_of_mem _ (List.mem_filter.mpr ⟨xPairs_mem.mpr hj, ?_⟩)), ?_⟩
    · by_cases z : w.category = 1
      · simp [hji, hn2, z]
      · simp [hji, hn2, hne z]
    · rcases hc with z | z
      · exact Or.inl z
      · by_cases z1 : w.category = 1
        · exact Or.inl z1
        · exact Or.inr (by rw [List.getElem?_set_ne (Ne.symm (hne z1))]; exact z)
theorem xL_weak {ls : Array Slot} {nL : Nat} {L L' : List (Option Value)} (h : xL ls nL L) (hw : ∀ (j : Nat) (w : Value), L'[j]? = some (some w) → L[j]? = some (some w)) : xL ls nL L' := ⟨h.1, h.2.1, fun j w hj => ⟨(h.2.2 j w (hw j w hj)).1, (h.2.2 j w (hw j w hj)).2.imp id (fun z v hv => z v (hw _ v hv))⟩⟩
theorem xargs_mem : ∀ (as : List Value) (k : Nat), (∀ v ∈ as, v.category = 1) → ∀ (j : Nat) (w : Value), as[j]? = some w → (k + j, w) ∈ lv_args k as
  | [], k, _, j, w, h => by simp at h
  | a :: as, k, hc, 0, w, h => by
    simp at h
    subst h
    simp [lv_args]
  | a :: as, k, hc, j + 1, w, h => by
    simp only [List.getElem?_cons_succ] at h
    have h1 : a.category = 1 := hc a List.mem_cons_self
    simp only [lv_args, h1]
    refine List.mem_cons_of_mem _ ?_
    have := xargs_mem as (k + 1) (fun v hv => hc v (List.mem_cons_of_mem _ hv)) j w h
    rw [show k + (j + 1) = k + 1 + j by omega]
    simpa using this
theorem xsl_len : ∀ (as : List Value), (∀ v ∈ as, v.category = 1) → (lg_sl as).length = as.length
  | [], _ => rfl
  | a :: as, hc => by
    have h1 : a.category = 1 := hc a List.mem_cons_self
    have := xsl_len as (fun v hv => hc v (List.mem_cons_of_mem _ hv))
    unfold lg_sl at this ⊢
    rw [List.flatMap_cons, List.length_append, this, h1]
    simp [Nat.add_comm]
theorem xL_entry {as : List Value} {n : Nat} (hc : ∀ v ∈ as, v.category = 1) (hn : as.length ≤ n) {L : List (Option Value)} (hL : L = as.map some ++ List.replicate (n - as.length) none) : xL ((lg_sl as ++ List.replicate (n - (lg_sl as).length) Slot.unset).toArray) n L := by
  subst hL
  have h := lv_entry as (n := n) (by rw [xsl_len as hc]; exact hn)
  refine ⟨h.1, h.2.1, fun j w hj => ?_⟩
  by_cases hl : j < as.length
  · rw [List.getElem?_append_left (by rw [List.length_map]; exact hl), List.getElem?_map] at hj
    have hj' : as[j]? = some w := by
      cases ha : as[j]? with
      | none => rw [ha] at hj; simp at hj
      | some x => rw [ha] at hj; simp at hj; rw [hj]
    have hm := xargs_mem as 0 hc j w hj'
    rw [Nat.zero_add] at hm
    exact ⟨h.2.2 (j, w) hm, Or.inl (hc w (List.mem_of_getElem? hj'))⟩
  · rw [List.getElem?_append_right (by rw [List.length_map]; omega), List.getElem?_replicate] at hj
    split at hj
    · simp at hj
    · cases hj
end
section
/-! 05.rows: the frame's rows, an instruction each -/
abbrev xF : Type := Program × Launch × Env × Room × State × MethodId × Array Value × List Frame × Method × Code × (Nat → Prop) × Heap × (State → Prop)
def xg (F : xF) (k w : Nat) (pc : Nat) (L : List (Option Value)) (st : List Value) (I : Heap → Prop) : Prop := match F with
  | (p, l, e, R, s, m, args, below, meth, c, A, H0, Q) => ∀ (H : Heap) (locs : List Loc) (ls : Array Slot), I H → va_S A H0 H locs → xL ls c.maxLocals L → W p l e R s m args below meth c H locs k w Q (F0 m pc ls st)
/-- what stays in a method: the machine, its code, its words, its room -/
def xC (F : xF) (cc : ByteArray) (nL : Nat) (own : String) (Ws : List Cond) (rm : Room) : Prop := match F with
  | (p, _, _, R, s, m, args, _, _, c, _, _, _) => p.tables.exec = Jvm.exec ∧ c.code = cc ∧ c.maxLocals = nL ∧ s.vm.findClass own = some m.cls ∧ (∀ w ∈ Ws, w.before args s = true) ∧ R = rm
def xT (G : xG) : List (ClassId × FieldType) := [(G.2.1.1, .int), (G.2.1.2.1, .boolean), (G.2.1.2.2, .array .int)]
/-- what stays of a world: its cells are apart and may be changed; the tables -/
def xV (F : xF) (Y : xY) (G : xG) : Prop := match F with
  | (_, _, _, _, s, _, _, _, _, _, A, _, _) => xAp Y G ∧ (∀ a : Nat, xA Y G a → A a) ∧ va_K G.1 vwCl (xT G) s
section XROWS
variable {F : xF} {cc : ByteArray} {nL : Nat} {own : String} {Ws : List Cond} {rm : Room} {k w pc : Nat} {L : List (Option Value)} {st : List Value} {I : Heap → Prop}
theorem xg_weak {L' : List (Option Value)} (h : xg F k w pc L' st I) (hw : ∀ (j : Nat) (v : Value), L'[j]? = some (some v) → L[j]? = some (some v)) : xg F k w pc L st I := by
  obtain ⟨p, l, e, R, s, m, args, below, meth, c, A, H0, Q⟩ := F
  exact fun H locs ls hI hS hL => h H locs ls hI hS (xL_weak hL hw)
theorem xg_I {I' : Heap → Prop} (h : xg F k w pc L st I') (hI : ∀ H, I H → I' H) : xg F k w pc L st I := by
  obtain ⟨p, l, e, R, s, m, args, below, meth, c, A, H0, Q⟩ := F
  exact fun H locs ls h1 hS hL => h H locs ls (hI H h1) hS hL
theorem xg_st {st' : List Value} (h : xg F k w pc L st' I) (e : st = st') : xg F k w pc L st I := e ▸ h
theorem xg_wide {k' w' : Nat} (h : xg F k' w' pc L st I) (h1 : k ≤ k') (h2 : w ≤ w') : xg F k w pc L st I := by
  obtain ⟨p, l, e, R, s, m, args, below, meth, c, A, H0, Q⟩ := F
  exact fun H locs ls hI hS hL => W.widen h1 h2 (h H locs ls hI hS hL)
theorem xg_iconst (C : xC F cc nL own Ws rm) {n : Int} {v : Int32} (d : decode cc pc = .ok (.iconst n, 1)) (hv : Int32.ofInt n = v) (K : xg F k w (pc + 1) L (.int v :: st) I) : xg F k w pc L st I := by
  obtain ⟨p, l, e, R, s, m, args, below, meth, c, A, H0, Q⟩ := F
  obtain ⟨hx, hb, -⟩ := C
  exact fun H locs ls hI hS hL => lv_iconst hx hb d hv (K H locs ls hI hS hL)
theorem xg_bipush (C : xC F cc nL own Ws rm) {n : Int} {v : Int32} (d : decode cc pc = .ok (.bipush n, 2)) (hv : (Int8.ofInt n).toInt32 = v) (K : xg F k w (pc + 2) L (.int v :: st) I) : xg F k w pc L st I := by
  obtain ⟨p, l, e, R, s, m, args, below, meth, c, A, H0, Q⟩ := F
  obtain ⟨hx, hb, -⟩ := C
  exact fun H locs ls hI hS hL => lv_bipush hx hb d hv (K H locs ls hI hS hL)
theorem xg_sipush (C : xC F cc nL own Ws rm) {n : Int} {v : Int32} (d : decode cc pc = .ok (.sipush n, 3)) (hv : (Int16.ofInt n).toInt32 = v) (K : xg F k w (pc + 3) L (.int v :: st) I) : xg F k w pc L st I := by
  obtain ⟨p, l, e, R, s, m, args, below, meth, c, A, H0, Q⟩ := F
  obtain ⟨hx, hb, -⟩ := C
  exact fun H locs ls hI hS hL => lv_sipush hx hb d hv (K H locs ls hI hS hL)
theorem xg_iload_n (C : xC F cc nL own Ws rm) {i : Fin 4} {x : Int32} (d : decode cc pc = .ok (.iload_n i, 1)) (hl : L[(i : Nat)]? = some (some (.int x))) (K : xg F k w (pc + 1) L (.int x :: st) I) : xg F k w pc L st I := by
  obtain ⟨p, l, e, R, s, m, args, below, meth, c, A, H0, Q⟩ := F
  obtain ⟨hx, hb, -⟩ := C
  exact fun H locs ls hI hS hL => lv_iload_n hx hb d rfl (hL.2.2 _ _ hl).1 (K H locs ls hI hS hL)
theorem xg_iload (C : xC F cc nL own Ws rm) {i : Nat} {x : Int32} (d : decode cc pc = .ok (.iload i, 2)) (hl : L[i]? = some (some (.int x))) (K : xg F k w (pc + 2) L (.int x :: st) I) : xg F k w pc L st I := by
  obtain ⟨p, l, e, R, s, m, args, below, meth, c, A, H0, Q⟩ := F
  obtain ⟨hx, hb, -⟩ := C
  exact fun H locs ls hI hS hL => lv_iload hx hb d (hL.2.2 _ _ hl).1 (K H locs ls hI hS hL)
theorem xg_aload_n (C : xC F cc nL own Ws rm) {i : Fin 4} {x : Nat} (d : decode cc pc = .ok (.aload_n i, 1)) (hl : L[(i : Nat)]? = some (some (.ref x))) (K : xg F k w (pc + 1) L (.ref x :: st) I) : xg F k w pc L st I := by
  obtain ⟨p, l, e, R, s, m, args, below, meth, c, A, H0, Q⟩ := F
  obtain ⟨hx, hb, -⟩ := C
  exact fun H locs ls hI hS hL => lv_aload_n hx hb d rfl (hL.2.2 _ _ hl).1 (K H locs ls hI hS hL)
theorem xg_aload (C : xC F cc nL own Ws rm) {i : Nat} {x : Nat} (d : decode cc pc = .ok (.aload i, 2)) (hl : L[i]? = some (some (.ref x))) (K : xg F k w (pc + 2) L (.ref x :: st) I) : xg F k w pc L st I := by
  obtain ⟨p, l, e, R, s, m, args, below, meth, c, A, H0, Q⟩ := F
  obtain ⟨hx, hb, -⟩ := C
  exact fun H locs ls hI hS hL => lv_aload hx hb d (hL.2.2 _ _ hl).1 (K H locs ls hI hS hL)
theorem xg_istore_n (C : xC F cc nL own Ws rm) {i : Fin 4} {x : Int32} (d : decode cc pc = .ok (.istore_n i, 1)) (hn : (i : Nat) < nL) {L' : List (Option Value)} (hL' : L.set i (some (.int x)) = L') (K : xg F k w (pc + 1) L' st I) (hno : xnl L i = true := by rfl) : xg F k w pc L (.int x :: st) I := by
  subst hL'
  obtain ⟨p, l, e, R, s, m, args, below, meth, c, A, H0, Q⟩ := F
  obtain ⟨hx, hb, hm, -⟩ := C
  exact fun H locs ls hI hS hL => lv_istore_n hx hb d rfl (xL_has hL) (by rw [hm]; exact hn) rfl (fun ls' h' => K H locs ls' hI hS (xL_of hL rfl hno h'))
theorem xg_istore (C : xC F cc nL own Ws rm) {i : Nat} {x : Int32} (d : decode cc pc = .ok (.istore i, 2)) (hn : i < nL) {L' : List (Option Value)} (hL' : L.set i (some (.int x)) = L') (K : xg F k w (pc + 2) L' st I) (hno : xnl L i = true := by rfl) : xg F k w pc L (.int x :: st) I := by
  subst hL'
  obtain ⟨p, l, e, R, s, m, args, below, meth, c, A, H0, Q⟩ := F
  obtain ⟨hx, hb, hm, -⟩ := C
  exact fun H locs ls hI hS hL => lv_istore hx hb d (xL_has hL) (by rw [hm]; exact hn) rfl (fun ls' h' => K H locs ls' hI hS (xL_of hL rfl hno h'))
theorem xg_astore_n (C : xC F cc nL own Ws rm) {i : Fin 4} {x : Nat} (d : decode cc pc = .ok (.astore_n i, 1)) (hn : (i : Nat) < nL) {L' : List (Option Value)} (hL' : L.set i (some (.ref x)) = L') (K : xg F k w (pc + 1) L' st I) (hno : xnl L i = true := by rfl) : xg F k w pc L (.ref x :: st) I := by
  subst hL'
  obtain ⟨p, l, e, R, s, m, args, below, meth, c, A, H0, Q⟩ := F
  obtain ⟨hx, hb, hm, -⟩ := C
  exact fun H locs ls hI hS hL => lv_astore_n hx hb d rfl (xL_has hL) (by rw [hm]; exact hn) rfl (fun ls' h' => K H locs ls' hI hS (xL_of hL rfl hno h'))
theorem xg_astore (C : xC F cc nL own Ws rm) {i : Nat} {x : Nat} (d : decode cc pc = .ok (.astore i, 2)) (hn : i < nL) {L' : List (Option Value)} (hL' : L.set i (some (.ref x)) = L') (K : xg F k w (pc + 2) L' st I) (hno : xnl L i = true := by rfl) : xg F k w pc L (.ref x :: st) I := by
  subst hL'
  obtain ⟨p, l, e, R, s, m, args, below, meth, c, A, H0, Q⟩ := F
  obtain ⟨hx, hb, hm, -⟩ := C
  exact fun H locs ls hI hS hL => lv_astore hx hb d (xL_has hL) (by rw [hm]; exact hn) rfl (fun ls' h' => K H locs ls' hI hS (xL_of hL rfl hno h'))
theorem xg_iinc (C : xC F cc nL own Ws rm) {i : Nat} {n : Int} {x v : Int32} (d : decode cc pc = .ok (.iinc i n, 3)) (hl : L[i]? = some (some (.int x))) (hv : x + Int32.ofInt n = v) (hn : i < nL) {L' : List (Option Value)} (hL' : L.set i (some (.int v)) = L') (K : xg F k w (pc + 3) L' st I) (hno : xnl L i = true := by rfl) : xg F k w pc L st I := by
  subst hL'
  obtain ⟨p, l, e, R, s, m, args, below, meth, c, A, H0, Q⟩ := F
  obtain ⟨hx, hb, hm, -⟩ := C
  intro H locs ls hI hS hL
  obtain ⟨q, hq⟩ := List.getElem?_of_mem (xPairs_mem.mpr hl)
  exact lv_iinc hx hb d (xL_has hL) hq hv (by rw [hm]; exact hn) rfl (fun ls' h' => K H locs ls' hI hS (xL_of hL rfl hno h'))
theorem xg_iadd (C : xC F cc nL own Ws rm) {x y : Int32} (d : decode cc pc = .ok (.iadd, 1)) (K : xg F k w (pc + 1) L (.int (x + y) :: st) I) : xg F k w pc L (.int y :: .int x :: st) I := by
  obtain ⟨p, l, e, R, s, m, args, below, meth, c, A, H0, Q⟩ := F
  obtain ⟨hx, hb, -⟩ := C
  exact fun H locs ls hI hS hL => lv_iadd hx hb d (K H locs ls hI hS hL)
theorem xg_isub (C : xC F cc nL own Ws rm) {x y : Int32} (d : decode cc pc = .ok (.isub, 1)) (K : xg F k w (pc + 1) L (.int (x - y) :: st) I) : xg F k w pc L (.int y :: .int x :: st) I := by
  obtain ⟨p, l, e, R, s, m, args, below, meth, c, A, H0, Q⟩ := F
  obtain ⟨hx, hb, -⟩ := C
  exact fun H locs ls hI hS hL => lv_isub hx hb d (K H locs ls hI hS hL)
theorem xg_imul (C : xC F cc nL own Ws rm) {x y : Int32} (d : decode cc pc = .ok (.imul, 1)) (K : xg F k w (pc + 1) L (.int (x * y) :: st) I) : xg F k w pc L (.int y :: .int x :: st) I := by
  obtain ⟨p, l, e, R, s, m, args, below, meth, c, A, H0, Q⟩ := F
  obtain ⟨hx, hb, -⟩ := C
  exact fun H locs ls hI hS hL => lv_imul hx hb d (K H locs ls hI hS hL)
theorem xg_iand (C : xC F cc nL own Ws rm) {x y : Int32} (d : decode cc pc = .ok (.iand, 1)) (K : xg F k w (pc + 1) L (.int (x &&& y) :: st) I) : xg F k w pc L (.int y :: .int x :: st) I := by
  obtain ⟨p, l, e, R, s, m, args, below, meth, c, A, H0, Q⟩ := F
  obtain ⟨hx, hb, -⟩ := C
  exact fun H locs ls hI hS hL => lv_iand hx hb d (K H locs ls hI hS hL)
theorem xg_idiv (C : xC F cc nL own Ws rm) {x y : Int32} (d : decode cc pc = .ok (.idiv, 1)) (hne : ¬ y = 0) (K : xg F k w (pc + 1) L (.int (x / y) :: st) I) : xg F k w pc L (.int y :: .int x :: st) I := by
  obtain ⟨p, l, e, R, s, m, args, below, meth, c, A, H0, Q⟩ := F
  obtain ⟨hx, hb, -⟩ := C
  exact fun H locs ls hI hS hL => lv_idiv hx hb d hne (K H locs ls hI hS hL)
theorem xg_irem (C : xC F cc nL own Ws rm) {x y : Int32} (d : decode cc pc = .ok (.irem, 1)) (hne : ¬ y = 0) (K : xg F k w (pc + 1) L (.int (x - x / y * y) :: st) I) : xg F k w pc L (.int y :: .int x :: st) I := by
  obtain ⟨p, l, e, R, s, m, args, below, meth, c, A, H0, Q⟩ := F
  obtain ⟨hx, hb, -⟩ := C
  exact fun H locs ls hI hS hL => lv_irem hx hb d hne (K H locs ls hI hS hL)
theorem xg_dup (C : xC F cc nL own Ws rm) {a : Value} (d : decode cc pc = .ok (.dup, 1)) (ha : a.category = 1) (K : xg F k w (pc + 1) L (a :: a :: st) I) : xg F k w pc L (a :: st) I := by
  obtain ⟨p, l, e, R, s, m, args, below, meth, c, A, H0, Q⟩ := F
  obtain ⟨hx, hb, -⟩ := C
  exact fun H locs ls hI hS hL => lv_dup hx hb d ha (K H locs ls hI hS hL)
theorem xg_pop (C : xC F cc nL own Ws rm) {a : Value} (d : decode cc pc = .ok (.pop, 1)) (ha : a.category = 1) (K : xg F k w (pc + 1) L st I) : xg F k w pc L (a :: st) I := by
  obtain ⟨p, l, e, R, s, m, args, below, meth, c, A, H0, Q⟩ := F
  obtain ⟨hx, hb, -⟩ := C
  exact fun H locs ls hI hS hL => lv_pop hx hb d ha (K H locs ls hI hS hL)
theorem xg_dup2 (C : xC F cc nL own Ws rm) {a b : Value} (d : decode cc pc = .ok (.dup2, 1)) (ha : a.category = 1) (hb' : b.category = 1) (K : xg F k w (pc + 1) L (a :: b :: a :: b :: st) I) : xg F k w pc L (a :: b :: st) I := by
  obtain ⟨p, l, e, R, s, m, args, below, meth, c, A, H0, Q⟩ := F
  obtain ⟨hx, hb, -⟩ := C
  exact fun H locs ls hI hS hL => lv_dup2_11 hx hb d ha hb' (K H locs ls hI hS hL)
theorem xg_goto (C : xC F cc nL own Ws rm) {off : Int} (tgt : Nat) (d : decode cc pc = .ok (.goto off, 3)) (ht : (pc : Int) + off = (tgt : Int)) (K : xg F k w tgt L st I) : xg F k w pc L st I := by
  obtain ⟨p, l, e, R, s, m, args, below, meth, c, A, H0, Q⟩ := F
  obtain ⟨hx, hb, -⟩ := C
  exact fun H locs ls hI hS hL => lv_goto hx hb d ht (K H locs ls hI hS hL)
theorem xg_if_eq (C : xC F cc nL own Ws rm) {x : Int32} {off : Int} (tgt : Nat) (d : decode cc pc = .ok (.ifCond .eq off, 3)) (ht : (pc : Int) + off = (tgt : Int)) (Kt : x = 0 → xg F k w tgt L st I) (Kf : ¬ x = 0 → xg F k w (pc + 3) L st I) : xg F k w pc L (.int x :: st) I := by
  obtain ⟨p, l, e, R, s, m, args, below, meth, c, A, H0, Q⟩ := F
  obtain ⟨hx, hb, -⟩ := C
  exact fun H locs ls hI hS hL => lv_if_eq hx hb d ht (fun h => Kt h H locs ls hI hS hL) (fun h => Kf h H locs ls hI hS hL)
theorem xg_if_ne (C : xC F cc nL own Ws rm) {x : Int32} {off : Int} (tgt : Nat) (d : decode cc pc = .ok (.ifCond .ne off, 3)) (ht : (pc : Int) + off = (tgt : Int)) (Kt : ¬ x = 0 → xg F k w tgt L st I) (Kf : x = 0 → xg F k w (pc + 3) L st I) : xg F k w pc L (.int x :: st) I := by
  obtain ⟨p, l, e, R, s, m, args, below, meth, c, A, H0, Q⟩ := F
  obtain ⟨hx, hb, -⟩ := C
  exact fun H locs ls hI hS hL => lv_if_ne hx hb d ht (fun h => Kt h H locs ls hI hS hL) (fun h => Kf h H locs ls hI hS hL)
theorem xg_if_lt (C : xC F cc nL own Ws rm) {x : Int32} {off : Int} (tgt : Nat) (d : decode cc pc = .ok (.ifCond .lt off, 3)) (ht : (pc : Int) + off = (tgt : Int)) (Kt : x < 0 → xg F k w tgt L st I) (Kf : ¬ x < 0 → xg F k w (pc + 3) L st I) : xg F k w pc L (.int x :: st) I := by
  obtain ⟨p, l, e, R, s, m, args, below, meth, c, A, H0, Q⟩ := F
  obtain ⟨hx, hb, -⟩ := C
  exact fun H locs ls hI hS hL => lv_if_lt hx hb d ht (fun h => Kt h H locs ls hI hS hL) (fun h => Kf h H locs ls hI hS hL)
theorem xg_if_ge (C : xC F cc nL own Ws rm) {x : Int32} {off : Int} (tgt : Nat) (d : decode cc pc = .ok (.ifCond .ge off, 3)) (ht : (pc : Int) + off = (tgt : Int)) (Kt : 0 ≤ x → xg F k w tgt L st I) (Kf : ¬ 0 ≤ x → xg F k w (pc + 3) L st I) : xg F k w pc L (.int x :: st) I := by
  obtain ⟨p, l, e, R, s, m, args, below, meth, c, A, H0, Q⟩ := F
  obtain ⟨hx, hb, -⟩ := C
  exact fun H locs ls hI hS hL => lv_if_ge hx hb d ht (fun h => Kt h H locs ls hI hS hL) (fun h => Kf h H locs ls hI hS hL)
theorem xg_if_gt (C : xC F cc nL own Ws rm) {x : Int32} {off : Int} (tgt : Nat) (d : decode cc pc = .ok (.ifCond .gt off, 3)) (ht : (pc : Int) + off = (tgt : Int)) (Kt : 0 < x → xg F k w tgt L st I) (Kf : ¬ 0 < x → xg F k w (pc + 3) L st I) : xg F k w pc L (.int x :: st) I := by
  obtain ⟨p, l, e, R, s, m, args, below, meth, c, A, H0, Q⟩ := F
  obtain ⟨hx, hb, -⟩ := C
  exact fun H locs ls hI hS hL => lv_if_gt hx hb d ht (fun h => Kt h H locs ls hI hS hL) (fun h => Kf h H locs ls hI hS hL)
theorem xg_if_le (C : xC F cc nL own Ws rm) {x : Int32} {off : Int} (tgt : Nat) (d : decode cc pc = .ok (.ifCond .le off, 3)) (ht : (pc : Int) + off = (tgt : Int)) (Kt : x ≤ 0 → xg F k w tgt L st I) (Kf : ¬ x ≤ 0 → xg F k w (pc + 3) L st I) : xg F k w pc L (.int x :: st) I := by
  obtain ⟨p, l, e, R, s, m, args, below, meth, c, A, H0, Q⟩ := F
  obtain ⟨hx, hb, -⟩ := C
  exact fun H locs ls hI hS hL => lv_if_le hx hb d ht (fun h => Kt h H locs ls hI hS hL) (fun h => Kf h H locs ls hI hS hL)
theorem xg_icmp_eq (C : xC F cc nL own Ws rm) {x y : Int32} {off : Int} (tgt : Nat) (d : decode cc pc = .ok (.if_icmp .eq off, 3)) (ht : (pc : Int) + off = (tgt : Int)) (Kt : x = y → xg F k w tgt L st I) (Kf : ¬ x = y → xg F k w (pc + 3) L st I) : xg F k w pc L (.int y :: .int x :: st) I := by
  obtain ⟨p, l, e, R, s, m, args, below, meth, c, A, H0, Q⟩ := F
  obtain ⟨hx, hb, -⟩ := C
  exact fun H locs ls hI hS hL => lv_icmp_eq hx hb d ht (fun h => Kt h H locs ls hI hS hL) (fun h => Kf h H locs ls hI hS hL)
theorem xg_icmp_ne (C : xC F cc nL own Ws rm) {x y : Int32} {off : Int} (tgt : Nat) (d : decode cc pc = .ok (.if_icmp .ne off, 3)) (ht : (pc : Int) + off = (tgt : Int)) (Kt : ¬ x = y → xg F k w tgt L st I) (Kf : x = y → xg F k w (pc + 3) L st I) : xg F k w pc L (.int y :: .int x :: st) I := by
  obtain ⟨p, l, e, R, s, m, args, below, meth, c, A, H0, Q⟩ := F
  obtain ⟨hx, hb, -⟩ := C
  exact fun H locs ls hI hS hL => lv_icmp_ne hx hb d ht (fun h => Kt h H locs ls hI hS hL) (fun h => Kf h H locs ls hI hS hL)
theorem xg_icmp_lt (C : xC F cc nL own Ws rm) {x y : Int32} {off : Int} (tgt : Nat) (d : decode cc pc = .ok (.if_icmp .lt off, 3)) (ht : (pc : Int) + off = (tgt : Int)) (Kt : x < y → xg F k w tgt L st I) (Kf : ¬ x < y → xg F k w (pc + 3) L st I) : xg F k w pc L (.int y :: .int x :: st) I := by
  obtain ⟨p, l, e, R, s, m, args, below, meth, c, A, H0, Q⟩ := F
  obtain ⟨hx, hb, -⟩ := C
  exact fun H locs ls hI hS hL => lv_icmp_lt hx hb d ht (fun h => Kt h H locs ls hI hS hL) (fun h => Kf h H locs ls hI hS hL)
theorem xg_icmp_ge (C : xC F cc nL own Ws rm) {x y : Int32} {off : Int} (tgt : Nat) (d : decode cc pc = .ok (.if_icmp .ge off, 3)) (ht : (pc : Int) + off = (tgt : Int)) (Kt : y ≤ x → xg F k w tgt L st I) (Kf : ¬ y ≤ x → xg F k w (pc + 3) L st I) : xg F k w pc L (.int y :: .int x :: st) I := by
  obtain ⟨p, l, e, R, s, m, args, below, meth, c, A, H0, Q⟩ := F
  obtain ⟨hx, hb, -⟩ := C
  exact fun H locs ls hI hS hL => lv_icmp_ge hx hb d ht (fun h => Kt h H locs ls hI hS hL) (fun h => Kf h H locs ls hI hS hL)
theorem xg_icmp_gt (C : xC F cc nL own Ws rm) {x y : Int32} {off : Int} (tgt : Nat) (d : decode cc pc = .ok (.if_icmp .gt off, 3)) (ht : (pc : Int) + off = (tgt : Int)) (Kt : y < x → xg F k w tgt L st I) (Kf : ¬ y < x → xg F k w (pc + 3) L st I) : xg F k w pc L (.int y :: .int x :: st) I := by
  obtain ⟨p, l, e, R, s, m, args, below, meth, c, A, H0, Q⟩ := F
  obtain ⟨hx, hb, -⟩ := C
  exact fun H locs ls hI hS hL => lv_icmp_gt hx hb d ht (fun h => Kt h H locs ls hI hS hL) (fun h => Kf h H locs ls hI hS hL)
theorem xg_icmp_le (C : xC F cc nL own Ws rm) {x y : Int32} {off : Int} (tgt : Nat) (d : decode cc pc = .ok (.if_icmp .le off, 3)) (ht : (pc : Int) + off = (tgt : Int)) (Kt : x ≤ y → xg F k w tgt L st I) (Kf : ¬ x ≤ y → xg F k w (pc + 3) L st I) : xg F k w pc L (.int y :: .int x :: st) I := by
  obtain ⟨p, l, e, R, s, m, args, below, meth, c, A, H0, Q⟩ := F
  obtain ⟨hx, hb, -⟩ := C
  exact fun H locs ls hI hS hL => lv_icmp_le hx hb d ht (fun h => Kt h H locs ls hI hS hL) (fun h => Kf h H locs ls hI hS hL)
end XROWS
section XMEM
variable {F : xF} {cc : ByteArray} {nL : Nat} {own : String} {Ws : List Cond} {rm : Room} {k w pc : Nat} {L : List (Option Value)} {st : List Value} {Y : xY} {G : xG} {S : xS}
theorem xin_cl {i : Int32} {n : Nat} (hn : n < 2 ^ 31) (h : vp_in i n) : nI i.toNatClampNeg = i ∧ i.toNatClampNeg < n := by
  obtain ⟨j, h1, rfl⟩ := vp_in_of h hn
  rw [nI_clamp (by omega)]
  exact ⟨rfl, h1⟩
theorem xg_iald (C : xC F cc nL own Ws rm) (V : xV F Y G) {f n N : Nat} {r i : Int32} (hY : Y[f]? = some (n, .inr (.inl (false, N)))) (hN : N < 2 ^ 31) (hr : xR n r) (hi : vp_in i N) (d : decode cc pc = .ok (.iaload, 1)) {v : Int32} (hv : S f r i = v) (K : xg F k w (pc + 1) L (.int v :: st) (xP Y G S)) : xg F k w pc L (.int i :: .ref (G.2.2 f r) :: st) (xP Y G S) := by
  subst hv
  obtain ⟨p, l, e, R, s, m, args, below, meth, c, A, H0, Q⟩ := F
  obtain ⟨hx, hb, -⟩ := C
  obtain ⟨-, -, hK⟩ := V
  intro H locs ls hI hS hL
  obtain ⟨e1, e2⟩ := xin_cl hN hi
  have h0 : H[G.2.2 f r]? = some (arrV G.2.1.1 N (fun j => .int (S f r (nI j)))) := xP_at hI hY hr
  refine W.iald (v := .int (S f r i)) hx hb h0 ((hK.2 0 _ rfl).1 _ _) (fun q => by cases q) (by rw [arrV_size]; exact hi) (by rw [arrV_read _ _ e2, e1]) rfl rfl d (K H locs ls hI hS hL)
theorem xg_zald (C : xC F cc nL own Ws rm) (V : xV F Y G) {f n N : Nat} {r i : Int32} (hY : Y[f]? = some (n, .inr (.inl (true, N)))) (hN : N < 2 ^ 31) (hr : xR n r) (hi : vp_in i N) (d : decode cc pc = .ok (.baload, 1)) {v : Int32} (hv : S f r i = v) (K : xg F k w (pc + 1) L (.int v :: st) (xP Y G S)) : xg F k w pc L (.int i :: .ref (G.2.2 f r) :: st) (xP Y G S) := by
  subst hv
  obtain ⟨p, l, e, R, s, m, args, below, meth, c, A, H0, Q⟩ := F
  obtain ⟨hx, hb, -⟩ := C
  obtain ⟨-, -, hK⟩ := V
  intro H locs ls hI hS hL
  obtain ⟨e1, e2⟩ := xin_cl hN hi
  have h0 : H[G.2.2 f r]? = some (arrV G.2.1.2.1 N (fun j => .int (S f r (nI j)))) := xP_at hI hY hr
  refine W.zald (v := .int (S f r i)) hx hb h0 ((hK.2 1 _ rfl).1 _ _) (fun q => by cases q) (by rw [arrV_size]; exact hi) (by rw [arrV_read _ _ e2, e1]) rfl rfl d (K H locs ls hI hS hL)
theorem xg_aald (C : xC F cc nL own Ws rm) (V : xV F Y G) {f b : Nat} {i : Int32} (hY : Y[f]? = some (1, .inr (.inr b))) (hi : vp_in i 8) (d : decode cc pc = .ok (.aaload, 1)) (K : xg F k w (pc + 1) L (.ref (G.2.2 b i) :: st) (xP Y G S)) : xg F k w pc L (.int i :: .ref (G.2.2 f 0) :: st) (xP Y G S) := by
  obtain ⟨p, l, e, R, s, m, args, below, meth, c, A, H0, Q⟩ := F
  obtain ⟨hx, hb, -⟩ := C
  obtain ⟨-, -, hK⟩ := V
  intro H locs ls hI hS hL
  obtain ⟨e1, e2⟩ := xin_cl (by decide) hi
  have h0 : H[G.2.2 f 0]? = some (arrV G.2.1.2.2 8 (fun j => va_rf (some (G.2.2 b (nI j))))) := xP_at hI hY (xR_0 (by decide))
  refine W.aald (v := .ref (G.2.2 b i)) (ty := .array .int) hx hb h0 ((hK.2 2 _ rfl).1 _ _) rfl (fun q => by cases q) (by rw [arrV_size]; exact hi) (by rw [arrV_read _ _ e2, e1]; rfl) rfl rfl d (K H locs ls hI hS hL)
theorem xar_put {f n N : Nat} {r i x : Int32} {z : Bool} {H H1 : Heap} {cA : ClassId} (hcA : cA = cond z G.2.1.2.1 G.2.1.1) (hI : xP Y G S H) (hap : xAp Y G) (hY : Y[f]? = some (n, .inr (.inl (z, N)))) (hr : xR n r) (hN : N < 2 ^ 31) (hi : vp_in i N)
    (e : H1[G.2.2 f r]? = some ((arrV cA N (fun j => .int (S f r (nI j)))).setSlot i.toNatClampNeg (.int x))) (oq : ∀ q : Nat, q ≠ G.2.2 f r → H1[q]? = H[q]?) : xP Y G (xu S f r i x) H1 := by
  obtain ⟨e1, e2⟩ := xin_cl hN hi
  refine xP_put hI hap hY hr ?_ oq
  show H1[G.2.2 f r]? = some (arrV (cond z G.2.1.2.1 G.2.1.1) N (fun j => .int (xu S f r i x f r (nI j))))
  rw [e, arrV_store, ← hcA]
  refine congrArg some (xarr_cong fun j hj => ?_)
  by_cases hq : j = i.toNatClampNeg
  · subst hq
    rw [e1, xu_self, if_pos ⟨rfl, rfl⟩]
    simp [updV]
  · rw [xu_self, if_neg]
    · simp [updV, hq]
    · rintro ⟨-, h2⟩
      rw [← e1] at h2
      exact hq ((nI_eq (by omega) (by omega)).mp h2)
theorem xg_iast (C : xC F cc nL own Ws rm) (V : xV F Y G) {f n N : Nat} {r i x : Int32} (hY : Y[f]? = some (n, .inr (.inl (false, N)))) (hN : N < 2 ^ 31) (hr : xR n r) (hi : vp_in i N) (d : decode cc pc = .ok (.iastore, 1)) (K : xg F k w (pc + 1) L st (xP Y G (xu S f r i x))) : xg F k w pc L (.int x :: .int i :: .ref (G.2.2 f r) :: st) (xP Y G S) := by
  obtain ⟨p, l, e, R, s, m, args, below, meth, c, A, H0, Q⟩ := F
  obtain ⟨hx, hb, -⟩ := C
  obtain ⟨hap, hA, hK⟩ := V
  intro H locs ls hI hS hL
  obtain ⟨e1, e2⟩ := xin_cl hN hi
  have h0 : H[G.2.2 f r]? = some (arrV G.2.1.1 N (fun j => .int (S f r (nI j)))) := xP_at hI hY hr
  refine W.iast hx hb h0 ((hK.2 0 _ rfl).1 _ _) (fun q => by cases q) (by rw [arrV_size]; exact hi) rfl rfl d fun H1 e z oq => ?_
  exact K H1 _ ls (xar_put rfl hI hap hY hr hN hi e oq) (hS.put z oq (hA _ (xA_of hY hr))) hL
theorem xg_zast (C : xC F cc nL own Ws rm) (V : xV F Y G) {f n N : Nat} {r i x : Int32} (hY : Y[f]? = some (n, .inr (.inl (true, N)))) (hN : N < 2 ^ 31) (hr : xR n r) (hi : vp_in i N) (hx01 : narrow .boolean (.int x) = .int x) (d : decode cc pc = .ok (.bastore, 1)) (K : xg F k w (pc + 1) L st (xP Y G (xu S f r i x))) : xg F k w pc L (.int x :: .int i :: .ref (G.2.2 f r) :: st) (xP Y G S) := by
  obtain ⟨p, l, e, R, s, m, args, below, meth, c, A, H0, Q⟩ := F
  obtain ⟨hx, hb, -⟩ := C
  obtain ⟨hap, hA, hK⟩ := V
  intro H locs ls hI hS hL
  obtain ⟨e1, e2⟩ := xin_cl hN hi
  have h0 : H[G.2.2 f r]? = some (arrV G.2.1.2.1 N (fun j => .int (S f r (nI j)))) := xP_at hI hY hr
  refine W.zast hx hb h0 ((hK.2 1 _ rfl).1 _ _) (fun q => by cases q) (by rw [arrV_size]; exact hi) rfl rfl d fun H1 e z oq => ?_
  rw [hx01] at e
  exact K H1 _ ls (xar_put rfl hI hap hY hr hN hi e oq) (hS.put z oq (hA _ (xA_of hY hr))) hL
/-- a field that a method links: its words -/
def xFr (Ws : List Cond) (own : String) (idx : Nat) (Cn : String) (T : u_T) (N kf : Nat) : Prop := (∀ w ∈ u_ws Cn T N, w ∈ Ws) ∧ Cond.fieldLink own idx (T kf).1 (T kf).2.1 (T kf).2.2.1 ∈ Ws ∧ kf < N
theorem xg_get (C : xC F cc nL own Ws rm) (V : xV F Y G) {f ci idx N kf : Nat} {fs : List (Option Nat)} {Cn : String} {T : u_T} {v : Value} (q : xFr Ws own idx Cn T N kf) (hY : Y[f]? = some (1, .inl (ci, fs))) (hci : vwCl[ci]? = some (Cn, T, N)) (hv : (xFl G.2.2 (S f 0) fs 0)[kf]? = some v) (d : decode cc pc = .ok (.getfield idx, 3)) (K : xg F k w (pc + 3) L (v :: st) (xP Y G S)) : xg F k w pc L (.ref (G.2.2 f 0) :: st) (xP Y G S) := by
  obtain ⟨p, l, e, R, s, m, args, below, meth, c, A, H0, Q⟩ := F
  obtain ⟨hx, hb, -, hown, hts, -⟩ := C
  obtain ⟨hap, hA, hK⟩ := V
  intro H locs ls hI hS hL
  obtain ⟨r, h1, cell, q1, q2, q3, q4⟩ := xP_at hI hY (xR_0 (by decide))
  have hr : r = (Cn, T, N) := Option.some.inj (h1.symm.trans hci)
  subst hr
  obtain ⟨hSl, hfc, kC, hkC, hkind⟩ := hK.1 ci _ hci
  obtain ⟨cf, kfl, fi, fd, hi, hsl⟩ := hSl kf q.2.2
  refine W.getf hx hb hown (hts _ q.2.1) hi (u_facts hfc hkC (u_lays hts q.1 q.2.2) hi).1 q1 (by rw [q3]; exact fun h => by cases h) (v := v) ?_ rfl rfl d (K H locs ls hI hS hL)
  rw [hsl, q4 kf q.2.2]
  simp [vp_V, hv]
theorem xg_getR (C : xC F cc nL own Ws rm) (V : xV F Y G) {f ci idx N kf t : Nat} {fs : List (Option Nat)} {Cn : String} {T : u_T} (q : xFr Ws own idx Cn T N kf) (hY : Y[f]? = some (1, .inl (ci, fs))) (hci : vwCl[ci]? = some (Cn, T, N)) (hv : fs[kf]? = some (some t)) (d : decode cc pc = .ok (.getfield idx, 3)) (K : xg F k w (pc + 3) L (.ref (G.2.2 t 0) :: st) (xP Y G S)) : xg F k w pc L (.ref (G.2.2 f 0) :: st) (xP Y G S) :=
  xg_get C V q hY hci (xFl_ref fs 0 kf t hv) d K
theorem xg_getI (C : xC F cc nL own Ws rm) (V : xV F Y G) {f ci idx N kf : Nat} {fs : List (Option Nat)} {Cn : String} {T : u_T} (q : xFr Ws own idx Cn T N kf) (hY : Y[f]? = some (1, .inl (ci, fs))) (hci : vwCl[ci]? = some (Cn, T, N)) (hv : fs[kf]? = some none) (d : decode cc pc = .ok (.getfield idx, 3)) {v : Int32} (hv2 : S f 0 (nI kf) = v) (K : xg F k w (pc + 3) L (.int v :: st) (xP Y G S)) : xg F k w pc L (.ref (G.2.2 f 0) :: st) (xP Y G S) := by
  subst hv2
  refine xg_get C V q hY hci ?_ d K
  have := xFl_int (ad := G.2.2) (g := S f 0) fs 0 kf hv
  rw [Nat.zero_add] at this
  exact this
theorem xg_putI (C : xC F cc nL own Ws rm) (V : xV F Y G) {f ci idx N kf : Nat} {fs : List (Option Nat)} {Cn : String} {T : u_T} {ty : Nat → FieldType} {x : Int32} (q : xFr Ws own idx Cn T N kf) (hY : Y[f]? = some (1, .inl (ci, fs))) (hfl : fs.length < 100) (hci : vwCl[ci]? = some (Cn, T, N)) (hv : fs[kf]? = some none)
    (hty : ∀ j, j < N → parseFieldDescriptor (T j).2.2.1 = some (ty j)) (hnm : ∀ a, a < N → ∀ b, b < N → a ≠ b → (T a).2.1 ≠ (T b).2.1) (hti : ty kf = .int) (hfin : (T kf).2.2.2 = false) (d : decode cc pc = .ok (.putfield idx, 3)) (K : xg F k w (pc + 3) L st (xP Y G (xu S f 0 (nI kf) x))) : xg F k w pc L (.int x :: .ref (G.2.2 f 0) :: st) (xP Y G S) := by
  obtain ⟨p, l, e, R, s, m, args, below, meth, c, A, H0, Q⟩ := F
  obtain ⟨hx, hb, -, hown, hts, -⟩ := C
  obtain ⟨hap, hA, hK⟩ := V
  intro H locs ls hI hS hL
  have hk := q.2.2
  have hap2 := va_apart (own := own) hts q.1 ty hty hnm hK hci
  have hat := xP_at hI hY (xR_0 (by decide))
  obtain ⟨r, h1, cell, q1, q2, q3, q4⟩ := hat
  have hr : r = (Cn, T, N) := Option.some.inj (h1.symm.trans hci)
  subst hr
  obtain ⟨hSl, hfc, kC, hkC, hkind⟩ := hK.1 ci _ hci
  obtain ⟨cf, kfl, fi, fd, hi, hsl⟩ := hSl kf hk
  have hlay := hts _ (q.1 _ (u_in_lay hk))
  unfold u_lay at hlay
  rw [if_neg (by rw [hfin]; decide)] at hlay
  have hst := (u_facts hfc hkC (u_lays hts q.1 hk) hi).1
  have hd : parseFieldDescriptor (T kf).2.2.1 = some .int := by rw [hty kf hk, hti]
  have h6 := u_store (v := .int x) hfc hkC hkind hlay hi hd rfl rfl
  have hl : kf < (xFl G.2.2 (S f 0) fs 0).length := by
    rw [xFl_len]
    exact (List.getElem?_eq_some_iff.mp hv).1
  refine W.putK hx hb (f := fd) ⟨hown, hts _ q.2.1, ⟨_, _, _, hi⟩, hst⟩ (by rw [q2]; exact h6) q1 q3 (by rw [hsl]; exact k2_hasslot (q4 kf hk)) rfl rfl d fun H' e1 e2 e3 => ?_
  rw [hsl] at e1 ⊢
  refine K H' _ ls (xP_put hI hap hY (xR_0 (by decide)) ?_ e3) (hS.put e2 e3 (hA _ (xA_of hY (xR_0 (by decide))))) hL
  have hset : (xFl G.2.2 (S f 0) fs 0).set kf (.int x) = xFl G.2.2 (xu S f 0 (nI kf) x f 0) fs 0 := by
    rw [xFl_set fs 0 kf (by omega) hv, Nat.zero_add]
    refine congrArg (fun g => xFl G.2.2 g fs 0) (funext fun i => ?_)
    rw [xu_self]
    by_cases hi : i = nI kf
    · rw [if_pos hi, if_pos ⟨rfl, hi⟩]
    · rw [if_neg hi, if_neg (fun z => hi z.2)]
  refine ⟨_, hci, t_OB.to (V := updV (vp_V (xFl G.2.2 (S f 0) fs 0)) kf (.int x)) ⟨_, e1, q2, q3, t_set q4 hap2 hk (.int x)⟩ (fun j _ => ?_)⟩
  rw [vp_updV_set hl, hset]
end XMEM
/-! contracts of methods that make nothing and don't throw -/
def xPre (Y : xY) (G : xG) (S : xS) (U : State) : Prop := xP Y G S U.heap ∧ va_K G.1 vwCl (xT G) U
abbrev xMi (l : Launch) (Y : xY) (G : xG) (y : MethodName) (ws : List Cond) (fr lo : Nat) (as : List Value) (S S' : xS) (r : Int32) : Prop := Met l y ws { frames := fr, cells := 0, slots := 0, locals := lo } (va_Pc as (xPre Y G S)) (va_Qi (fun (r' : Int32) (_ : Unit) => r' = r) (fun _ t => xP Y G S' t.heap) (xA Y G)) 0 0 (xA Y G)
abbrev xMv (l : Launch) (Y : xY) (G : xG) (y : MethodName) (ws : List Cond) (fr lo : Nat) (as : List Value) (S S' : xS) : Prop := Met l y ws { frames := fr, cells := 0, slots := 0, locals := lo } (va_Pc as (xPre Y G S)) (va_Qv (fun (_ : Unit) => True) (fun _ t => xP Y G S' t.heap) (xA Y G)) 0 0 (xA Y G)
theorem xMi_of {l : Launch} {Y : xY} {G : xG} {y : MethodName} {ws ws' : List Cond} {cc : ByteArray} {maxL : Nat} {ty : FieldType} {fr lo : Nat} {as : List Value} {S S' : xS} {r : Int32} {own : String} (L : List (Option Value)) (hy : plainName y.cls = true) (ho : y.cls = own) (hw : ws = Cond.code y cc maxL (some ty) :: ws') (hn : narrow ty (.int r) = .int r) (hc : ∀ v ∈ as, v.category = 1) (hlen : as.length ≤ maxL) (hL : L = as.map some ++ List.replicate (maxL - as.length) none) (hap : xAp Y G)
    (body : ∀ F, xC F cc maxL own ws { frames := fr, cells := 0, slots := 0, locals := lo } → xV F Y G → (∀ pc L, decode cc pc = .ok (.ireturn, 1) → xg F 0 0 pc L [.int r] (xP Y G S')) → xg F 0 0 0 L [] (xP Y G S)) : xMi l Y G y ws fr lo as S S' r := by
  refine Met.ofW (cc := cc) (maxL := maxL) (ret := some ty) hy hw ?_
  intro p e s m args below meth c s₁ B hml hv
  obtain ⟨rfl, hP, hK⟩ := hv
  have hts := atoms_spec (ws := ws) B.pre
  have hown : s.vm.findClass own = some m.cls := ho ▸ findClass_of_methodNamed B.named
  have hlocks := B.notSynchronized
  have hb := B.bytes
  have hx := B.exec
  have hr := B.returns
  have hl := xL_entry hc hlen hL
  rw [lg_entry_eq]
  refine body (p, l, e, _, s, m, as.toArray, below, meth, c, xA Y G, s.heap, _) ⟨hx, hb, hml, hown, hts, rfl⟩ ⟨hap, fun a h => h, hK⟩ ?_ s.heap [] _ hP va_S.rf (hml.symm ▸ hl)
  intro pc L d H locs ls hI hS hL
  exact W.zret hx hb hr hn (fun t ht hW => ⟨⟨r, (), rfl, rfl, by show xP Y G S' t.heap; rw [ht]; exact hI⟩, hS.F ht⟩) hS.2.2 d hlocks
theorem xMv_of {l : Launch} {Y : xY} {G : xG} {y : MethodName} {ws ws' : List Cond} {cc : ByteArray} {maxL : Nat} {fr lo : Nat} {as : List Value} {S S' : xS} {own : String} (L : List (Option Value)) (hy : plainName y.cls = true) (ho : y.cls = own) (hw : ws = Cond.code y cc maxL none :: ws') (hc : ∀ v ∈ as, v.category = 1) (hlen : as.length ≤ maxL) (hL : L = as.map some ++ List.replicate (maxL - as.length) none) (hap : xAp Y G)
    (body : ∀ F, xC F cc maxL own ws { frames := fr, cells := 0, slots := 0, locals := lo } → xV F Y G → (∀ pc L, decode cc pc = .ok (.return_, 1) → xg F 0 0 pc L [] (xP Y G S')) → xg F 0 0 0 L [] (xP Y G S)) : xMv l Y G y ws fr lo as S S' := by
  refine Met.ofW (cc := cc) (maxL := maxL) (ret := none) hy hw ?_
  intro p e s m args below meth c s₁ B hml hv
  obtain ⟨rfl, hP, hK⟩ := hv
  have hts := atoms_spec (ws := ws) B.pre
  have hown : s.vm.findClass own = some m.cls := ho ▸ findClass_of_methodNamed B.named
  have hlocks := B.notSynchronized
  have hb := B.bytes
  have hx := B.exec
  have hr := B.returns
  have hl := xL_entry hc hlen hL
  rw [lg_entry_eq]
  refine body (p, l, e, _, s, m, as.toArray, below, meth, c, xA Y G, s.heap, _) ⟨hx, hb, hml, hown, hts, rfl⟩ ⟨hap, fun a h => h, hK⟩ ?_ s.heap [] _ hP va_S.rf (hml.symm ▸ hl)
  intro pc L d H locs ls hI hS hL
  exact W.vret hx hb hr (fun t ht hW => ⟨⟨(), rfl, trivial, by show xP Y G S' t.heap; rw [ht]; exact hI⟩, hS.F ht⟩) hS.2.2 d hlocks
/-! calls of such methods -/
section XCALLS
variable {F : xF} {cc : ByteArray} {nL : Nat} {own : String} {Ws : List Cond} {rm : Room} {k w pc : Nat} {L : List (Option Value)} {st st0 : List Value} {Y : xY} {G : xG} {S S' : xS}
theorem xpre_blind {as : List Value} : FrameBlind (va_Pc as (xPre Y G S)) := fun a U g mk q => ⟨q.1, q.2.1, va_K.moved (u := U) (U := U.calling g mk a) (Vm.Alike.refl U.vm) q.2.2⟩
theorem xg_callVi (C : xC F cc nL own Ws rm) (V : xV F Y G) {y : MethodName} {ws ws' : List Cond} {bytes : ByteArray} {maxL idx n f ci N fr lo : Nat} {ret : Option FieldType} {Cn : String} {T : u_T} {fs : List (Option Nat)} {as As : List Value} {r : Int32} (hM : ∀ l, xMi l Y G y ws fr lo as S S' r) (g : GoodIn Ws (wsV own idx Cn y ws)) (hw : ws = Cond.code y bytes maxL ret :: ws')
    (hd : y.cls = Cn ∧ y.cls ≠ "java/lang/invoke/MethodHandle" ∧ y.cls ≠ "java/lang/invoke/VarHandle" ∧ (parseMethodDescriptor y.desc).map (fun d => d.parameters.length) = some n) (hR : fr + 1 ≤ rm.frames ∧ 8 + (maxL + 11) + lo ≤ rm.locals) (hY : Y[f]? = some (1, .inl (ci, fs))) (hci : vwCl[ci]? = some (Cn, T, N)) (has : as = .ref (G.2.2 f 0) :: As) (hn : As.length = n) (hst : st0 = As.reverse ++ .ref (G.2.2 f 0) :: st) (hcat : (st.map fun v => v.category).sum ≤ 8) (hkw : k ≤ rm.cells ∧ w ≤ rm.slots) (d : decode cc pc = .ok (.invokevirtual idx, 3))
    (K : xg F k w (pc + 3) L (.int r :: st) (xP Y G S')) : xg F k w pc L st0 (xP Y G S) := by
  obtain ⟨p, l, e, R, s, m, args, below, meth, c, A, H0, Q⟩ := F
  obtain ⟨hx, hb, hml, hown, hts, rfl⟩ := C
  obtain ⟨hap, hA, hK⟩ := V
  intro H locs ls hI hS hL
  subst has
  obtain ⟨rr, h1, cell, q1, q2, q3, q4⟩ := xP_at hI hY (xR_0 (by decide))
  have hr : rr = (Cn, T, N) := Option.some.inj (h1.symm.trans hci)
  subst hr
  have hfc := (hK.1 ci _ hci).2.1
  refine va_calli (va_runV (As := As) (rest := st) (b := G.2.2 f 0) ⟨hx, hb, hml, hown, hts⟩ (hM l) (cwV n hts g hw rfl rfl hd hR) ⟨xpre_blind, ⟨cell, q1, by rw [q3]; rfl, by rw [q2]; exact hfc⟩, fun U hU hW => ⟨rfl, by rw [hU]; exact hI, va_K.moved hW.alike hK⟩⟩ rfl hn (hL.1.trans hml) hst (lv_room hcat) d hkw) hS (fun q _ h => hA q h) hA (fun r2 u t H1 locs1 ht hvm hr2 hB hz1 hk1 hS1 => ?_)
  subst hr2
  rw [ht] at hB
  exact K H1 locs1 ls hB hS1 hL
theorem xg_callVv (C : xC F cc nL own Ws rm) (V : xV F Y G) {y : MethodName} {ws ws' : List Cond} {bytes : ByteArray} {maxL idx n f ci N fr lo : Nat} {ret : Option FieldType} {Cn : String} {T : u_T} {fs : List (Option Nat)} {as As : List Value} (hM : ∀ l, xMv l Y G y ws fr lo as S S') (g : GoodIn Ws (wsV own idx Cn y ws)) (hw : ws = Cond.code y bytes maxL ret :: ws')
    (hd : y.cls = Cn ∧ y.cls ≠ "java/lang/invoke/MethodHandle" ∧ y.cls ≠ "java/lang/invoke/VarHandle" ∧ (parseMethodDescriptor y.desc).map (fun d => d.parameters.length) = some n) (hR : fr + 1 ≤ rm.frames ∧ 8 + (maxL + 11) + lo ≤ rm.locals) (hY : Y[f]? = some (1, .inl (ci, fs))) (hci : vwCl[ci]? = some (Cn, T, N)) (has : as = .ref (G.2.2 f 0) :: As) (hn : As.length = n) (hst : st0 = As.reverse ++ .ref (G.2.2 f 0) :: st) (hcat : (st.map fun v => v.category).sum ≤ 8) (hkw : k ≤ rm.cells ∧ w ≤ rm.slots) (d : decode cc pc = .ok (.invokevirtual idx, 3))
    (K : xg F k w (pc + 3) L st (xP Y G S')) : xg F k w pc L st0 (xP Y G S) := by
  obtain ⟨p, l, e, R, s, m, args, below, meth, c, A, H0, Q⟩ := F
  obtain ⟨hx, hb, hml, hown, hts, rfl⟩ := C
  obtain ⟨hap, hA, hK⟩ := V
  intro H locs ls hI hS hL
  subst has
  obtain ⟨rr, h1, cell, q1, q2, q3, q4⟩ := xP_at hI hY (xR_0 (by decide))
  have hr : rr = (Cn, T, N) := Option.some.inj (h1.symm.trans hci)
  subst hr
  have hfc := (hK.1 ci _ hci).2.1
  refine va_callv (va_runV (As := As) (rest := st) (b := G.2.2 f 0) ⟨hx, hb, hml, hown, hts⟩ (hM l) (cwV n hts g hw rfl rfl hd hR) ⟨xpre_blind, ⟨cell, q1, by rw [q3]; rfl, by rw [q2]; exact hfc⟩, fun U hU hW => ⟨rfl, by rw [hU]; exact hI, va_K.moved hW.alike hK⟩⟩ rfl hn (hL.1.trans hml) hst (lv_room hcat) d hkw) hS (fun q _ h => hA q h) hA (fun u t H1 locs1 ht hvm hr2 hB hz1 hk1 hS1 => ?_)
  rw [ht] at hB
  exact K H1 locs1 ls hB hS1 hL
theorem xg_callSi (C : xC F cc nL own Ws rm) (V : xV F Y G) {y : MethodName} {ws ws' : List Cond} {bytes : ByteArray} {maxL idx n fr lo : Nat} {ret : Option FieldType} {as : List Value} {r : Int32} (hM : ∀ l, xMi l Y G y ws fr lo as S S' r) (g : GoodIn Ws (va_wsS own idx y ws)) (hw : ws = Cond.code y bytes maxL ret :: ws')
    (hd : y.cls ≠ "java/lang/invoke/MethodHandle" ∧ y.cls ≠ "java/lang/invoke/VarHandle" ∧ (parseMethodDescriptor y.desc).map (fun d => d.parameters.length) = some n) (hR : fr + 1 ≤ rm.frames ∧ 8 + (maxL + 11) + lo ≤ rm.locals) (hn : as.length = n) (hst : st0 = as.reverse ++ st) (hcat : (st.map fun v => v.category).sum ≤ 8) (hkw : k ≤ rm.cells ∧ w ≤ rm.slots) (d : decode cc pc = .ok (.invokestatic idx, 3))
    (K : xg F k w (pc + 3) L (.int r :: st) (xP Y G S')) : xg F k w pc L st0 (xP Y G S) := by
  obtain ⟨p, l, e, R, s, m, args, below, meth, c, A, H0, Q⟩ := F
  obtain ⟨hx, hb, hml, hown, hts, rfl⟩ := C
  obtain ⟨hap, hA, hK⟩ := V
  intro H locs ls hI hS hL
  refine va_calli (va_runS (As := as) (rest := st) ⟨hx, hb, hml, hown, hts⟩ (hM l) (va_cwS n hts g hw rfl rfl hd hR) ⟨xpre_blind, fun U hU hW => ⟨rfl, by rw [hU]; exact hI, va_K.moved hW.alike hK⟩⟩ rfl hn (hL.1.trans hml) hst (lv_room hcat) d hkw) hS (fun q _ h => hA q h) hA (fun r2 u t H1 locs1 ht hvm hr2 hB hz1 hk1 hS1 => ?_)
  subst hr2
  rw [ht] at hB
  exact K H1 locs1 ls hB hS1 hL
theorem xg_callSv (C : xC F cc nL own Ws rm) (V : xV F Y G) {y : MethodName} {ws ws' : List Cond} {bytes : ByteArray} {maxL idx n fr lo : Nat} {ret : Option FieldType} {as : List Value} (hM : ∀ l, xMv l Y G y ws fr lo as S S') (g : GoodIn Ws (va_wsS own idx y ws)) (hw : ws = Cond.code y bytes maxL ret :: ws')
    (hd : y.cls ≠ "java/lang/invoke/MethodHandle" ∧ y.cls ≠ "java/lang/invoke/VarHandle" ∧ (parseMethodDescriptor y.desc).map (fun d => d.parameters.length) = some n) (hR : fr + 1 ≤ rm.frames ∧ 8 + (maxL + 11) + lo ≤ rm.locals) (hn : as.length = n) (hst : st0 = as.reverse ++ st) (hcat : (st.map fun v => v.category).sum ≤ 8) (hkw : k ≤ rm.cells ∧ w ≤ rm.slots) (d : decode cc pc = .ok (.invokestatic idx, 3))
    (K : xg F k w (pc + 3) L st (xP Y G S')) : xg F k w pc L st0 (xP Y G S) := by
  obtain ⟨p, l, e, R, s, m, args, below, meth, c, A, H0, Q⟩ := F
  obtain ⟨hx, hb, hml, hown, hts, rfl⟩ := C
  obtain ⟨hap, hA, hK⟩ := V
  intro H locs ls hI hS hL
  refine va_callv (va_runS (As := as) (rest := st) ⟨hx, hb, hml, hown, hts⟩ (hM l) (va_cwS n hts g hw rfl rfl hd hR) ⟨xpre_blind, fun U hU hW => ⟨rfl, by rw [hU]; exact hI, va_K.moved hW.alike hK⟩⟩ rfl hn (hL.1.trans hml) hst (lv_room hcat) d hkw) hS (fun q _ h => hA q h) hA (fun u t H1 locs1 ht hvm hr2 hB hz1 hk1 hS1 => ?_)
  rw [ht] at hB
  exact K H1 locs1 ls hB hS1 hL
theorem xg_mmin {I : Heap → Prop} (C : xC F cc nL own Ws rm) {idx : Nat} {x y : Int32} (h1 : Cond.methodLink own idx Lib.Math.min.name ∈ Ws) (h2 : Cond.static Lib.Math.min.name ∈ Ws) (h3 : Cond.initialized "java/lang/Math" ∈ Ws) (h4 : Cond.code Lib.Math.min.name Lib.Math.min.code 2 (some .int) ∈ Ws) (hf : 1 ≤ rm.frames) (hlo : (st.map fun v => v.category).sum + 13 ≤ rm.locals) (hkw : k ≤ rm.cells ∧ w ≤ rm.slots) (d : decode cc pc = .ok (.invokestatic idx, 3))
    (K : xg F k w (pc + 3) L (.int (if y < x then y else x) :: st) I) : xg F k w pc L (.int y :: .int x :: st) I := by
  obtain ⟨p, l, e, R, s, m, args, below, meth, c, A, H0, Q⟩ := F
  obtain ⟨hx, hb, hml, hown, hts, rfl⟩ := C
  intro H locs ls hI hS hL
  exact va_mmin hx hb hL.1.symm hown (hts _ h1) (hts _ h2) (hts _ h3) (hts _ h4) hf hlo hkw.1 hkw.2 d (K H locs ls hI hS hL)
theorem xg_mmax {I : Heap → Prop} (C : xC F cc nL own Ws rm) {idx : Nat} {x y : Int32} (h1 : Cond.methodLink own idx Lib.Math.max.name ∈ Ws) (h2 : Cond.static Lib.Math.max.name ∈ Ws) (h3 : Cond.initialized "java/lang/Math" ∈ Ws) (h4 : Cond.code Lib.Math.max.name Lib.Math.max.code 2 (some .int) ∈ Ws) (hf : 1 ≤ rm.frames) (hlo : (st.map fun v => v.category).sum + 13 ≤ rm.locals) (hkw : k ≤ rm.cells ∧ w ≤ rm.slots) (d : decode cc pc = .ok (.invokestatic idx, 3))
    (K : xg F k w (pc + 3) L (.int (if x < y then y else x) :: st) I) : xg F k w pc L (.int y :: .int x :: st) I := by
  obtain ⟨p, l, e, R, s, m, args, below, meth, c, A, H0, Q⟩ := F
  obtain ⟨hx, hb, hml, hown, hts, rfl⟩ := C
  intro H locs ls hI hS hL
  exact va_mmax hx hb hL.1.symm hown (hts _ h1) (hts _ h2) (hts _ h3) (hts _ h4) hf hlo hkw.1 hkw.2 d (K H locs ls hI hS hL)
theorem xg_alen (C : xC F cc nL own Ws rm) (V : xV F Y G) {f n N : Nat} {r : Int32} {v : Int32} (hY : Y[f]? = some (n, .inr (.inl (false, N)))) (hr : xR n r) (hv : Int32.ofNat N = v) (d : decode cc pc = .ok (.arraylength, 1)) (K : xg F k w (pc + 1) L (.int v :: st) (xP Y G S)) : xg F k w pc L (.ref (G.2.2 f r) :: st) (xP Y G S) := by
  obtain ⟨p, l, e, R, s, m, args, below, meth, c, A, H0, Q⟩ := F
  obtain ⟨hx, hb, -⟩ := C
  obtain ⟨-, -, hK⟩ := V
  intro H locs ls hI hS hL
  have h0 : H[G.2.2 f r]? = some (arrV G.2.1.1 N (fun j => .int (S f r (nI j)))) := xP_at hI hY hr
  exact W.alen (n := v) hx hb h0 ((hK.2 0 _ rfl).1 _ _) (by rw [arrV_size, ← hv]) rfl rfl d (K H locs ls hI hS hL)
theorem xret_i {r v : Int32} {S1 : xS} (E : ∀ pc L, decode cc pc = .ok (.ireturn, 1) → xg F 0 0 pc L [.int r] (xP Y G S')) (d : decode cc pc = .ok (.ireturn, 1)) (h1 : r = v) (h2 : S' = S1) : xg F 0 0 pc L [.int v] (xP Y G S1) := by
  subst h1; subst h2; exact E pc L d
theorem xret_v {S1 : xS} (E : ∀ pc L, decode cc pc = .ok (.return_, 1) → xg F 0 0 pc L [] (xP Y G S')) (d : decode cc pc = .ok (.return_, 1)) (h2 : S' = S1) : xg F 0 0 pc L [] (xP Y G S1) := by
  subst h2; exact E pc L d
end XCALLS
/-- L' knows no more than L -/
def xLe : List (Option Value) → List (Option Value) → Prop
  | [], _ => True
  | none :: a, _ :: b => xLe a b
  | some v :: a, o :: b => o = some v ∧ xLe a b
  | _ :: _, [] => False
theorem xLe_w : ∀ (a b : List (Option Value)), xLe a b → ∀ (j : Nat) (v : Value), a[j]? = some (some v) → b[j]? = some (some v)
  | [], _, _, j, v, h => by simp at h
  | none :: a, [], hl, j, v, h => by simp [xLe] at hl
  | some v' :: a, [], hl, j, v, h => by simp [xLe] at hl
  | none :: a, x :: b, hl, 0, v, h => by simp at h
  | none :: a, x :: b, hl, j + 1, v, h => by
    simp only [xLe] at hl
    simp only [List.getElem?_cons_succ] at h ⊢
    exact xLe_w a b hl j v h
  | some v' :: a, x :: b, hl, 0, v, h => by
    simp only [xLe] at hl
    simp at h
    subst h
    simp [hl.1]
  | some v' :: a, x :: b, hl, j + 1, v, h => by
    simp only [xLe] at hl
    simp only [List.getElem?_cons_succ] at h ⊢
    exact xLe_w a b hl.2 j v h
theorem xg_le {F : xF} {k w pc : Nat} {L L' : List (Option Value)} {st : List Value} {I : Heap → Prop} (h : xg F k w pc L' st I) (hl : xLe L' L) : xg F k w pc L st I := xg_weak h (xLe_w _ _ hl)
theorem xg_le2 {F : xF} {k w pc : Nat} {L L' : List (Option Value)} {st : List Value} {I : Heap → Prop} (hl : xLe L' L) (h : xg F k w pc L' st I) : xg F k w pc L st I := xg_le h hl
theorem xu_same {S : xS} {f : Nat} {r i v : Int32} : xu S f r i v f r i = v := by rw [xu_self, if_pos ⟨rfl, rfl⟩]
theorem xu_ni {S : xS} {f : Nat} {r i v r' i' : Int32} (h : i' ≠ i) : xu S f r i v f r' i' = S f r' i' := by rw [xu_self, if_neg (fun z => h z.2)]
theorem xinc (i : Nat) : nI i + Int32.ofInt 1 = nI (i + 1) := nI_1 i
theorem xdec (i : Nat) : nI i + Int32.ofInt (-1) = nI i - 1 := by
  rw [show Int32.ofInt (-1) = -1 from by decide, Int32.sub_eq_add_neg]
theorem xcat1 {as : List Value} (h : as.all (fun v => v.category == 1) = true) : ∀ v ∈ as, v.category = 1 := fun v hv => by
  have := List.all_eq_true.mp h v hv
  simpa using this
/-! loops -/
def xfold {σ : Type} (b : Int32 → σ → σ) : Nat → σ → σ
  | 0, x => x
  | n + 1, x => b (nI n) (xfold b n x)
def xfoldD {σ : Type} (b : Int32 → σ → σ) : Nat → σ → σ
  | 0, x => x
  | n + 1, x => xfoldD b n (b (nI n) x)
theorem xloopI {σ : Type} (P : Int32 → σ → Prop) (b : Int32 → σ → σ) (N : Nat) (x0 : σ) (J : Nat → σ → Prop) (h0 : J 0 x0) (hJ : ∀ i, i < N → ∀ x, J i x → J (i + 1) (b (nI i) x)) (step : ∀ i, i < N → ∀ x, J i x → P (nI (i + 1)) (b (nI i) x) → P (nI i) x) (fin : J N (xfold b N x0) → P (nI N) (xfold b N x0)) : P 0 x0 := by
  have hj : ∀ n, n ≤ N → J n (xfold b n x0) := by
    intro n
    induction n with
    | zero => exact fun _ => h0
    | succ n ih => exact fun hn => hJ n (by omega) _ (ih (by omega))
  have key : ∀ d n, n + d = N → P (nI n) (xfold b n x0) := by
    intro d
    induction d with
    | zero =>
      intro n hn
      rw [Nat.add_zero] at hn
      subst hn
      exact fin (hj _ (Nat.le_refl _))
    | succ d ih => exact fun n hn => step n (by omega) _ (hj n (by omega)) (ih (n + 1) (by omega))
  have h := key N 0 (by omega)
  rw [nI_0] at h
  exact h
theorem xloop {σ : Type} (P : Int32 → σ → Prop) (b : Int32 → σ → σ) (N : Nat) (x0 : σ) (step : ∀ i, i < N → ∀ x, P (nI (i + 1)) (b (nI i) x) → P (nI i) x) (fin : P (nI N) (xfold b N x0)) : P 0 x0 :=
  xloopI P b N x0 (fun _ _ => True) trivial (fun _ _ _ _ => trivial) (fun i hi x _ h => step i hi x h) (fun _ => fin)
theorem xloopD {σ : Type} (P : Int32 → σ → Prop) (b : Int32 → σ → σ) (N : Nat) (x0 : σ) (step : ∀ i, i < N → ∀ x, P (nI i - 1) (b (nI i) x) → P (nI i) x) (fin : P (-1) (xfoldD b N x0)) : P (nI N - 1) x0 := by
  have key : ∀ n, n ≤ N → ∀ x, P (-1) (xfoldD b n x) → P (nI n - 1) x := by
    intro n
    induction n with
    | zero =>
      intro _ x h
      rw [nI_0]
      exact h
    | succ n ih =>
      intro hn x h
      rw [nI_pred]
      exact step n (by omega) x (ih (by omega) _ h)
  exact key N (Nat.le_refl _) x0 fin
theorem xloopD0 {σ : Type} (P : Int32 → σ → Prop) (b : Int32 → σ → σ) (N : Nat) (x0 : σ) (c0 : Int32) (hc : nI N - 1 = c0) (step : ∀ i, i < N → ∀ x, P (nI i - 1) (b (nI i) x) → P (nI i) x) (fin : P (-1) (xfoldD b N x0)) : P c0 x0 := hc ▸ xloopD P b N x0 step fin
/-- a loop that may return out of its body -/
def xrun {σ ρ : Type} (b : Int32 → σ → σ ⊕ ρ) (d : σ → ρ) : Nat → Nat → σ → ρ
  | 0, _, x => d x
  | n + 1, i, x => match b (nI i) x with
    | .inl y => xrun b d n (i + 1) y
    | .inr r => r
theorem xloopR {σ ρ : Type} (P : Int32 → σ → Prop) (T : ρ → Prop) (b : Int32 → σ → σ ⊕ ρ) (d : σ → ρ) (N : Nat) (x0 : σ) (h0 : T (xrun b d N 0 x0)) (step : ∀ i, i < N → ∀ x, (∀ y, b (nI i) x = .inl y → P (nI (i + 1)) y) → (∀ r, b (nI i) x = .inr r → T r) → P (nI i) x) (fin : ∀ x, T (d x) → P (nI N) x) : P 0 x0 := by
  have key : ∀ n i, i + n = N → ∀ x, T (xrun b d n i x) → P (nI i) x := by
    intro n
    induction n with
    | zero =>
      intro i hi x h
      rw [Nat.add_zero] at hi
      subst hi
      exact fin x h
    | succ n ih =>
      intro i hi x h
      refine step i (by omega) x (fun y hy => ih (i + 1) (by omega) y ?_) (fun r hr => ?_)
      · have h2 := h
        unfold xrun at h2
        rw [hy] at h2
        exact h2
      · have h2 := h
        unfold xrun at h2
        rw [hr] at h2
        exact h2
  have := key N 0 (by omega) x0 h0
  rw [nI_0] at this
  exact this
end
