/-! 05.rows: the frame's rows, an instruction each -/
abbrev xF : Type := Program × Launch × Env × Room × State × MethodId × Array Value × List Frame × Method × Code × (Nat → Prop) × Heap × (State → Prop)
def xg (F : xF) (k w : Nat) (pc : Nat) (L : List (Option Value)) (st : List Value) (I : Heap → Prop) : Prop := match F with
  | (p, l, e, R, s, m, args, below, meth, c, A, H0, Q) => ∀ (H : Heap) (locs : List Loc) (ls : Array Slot), I H → va_S A H0 H locs → xL ls c.maxLocals L → W p l e R s m args below meth c H locs k w Q (F0 m pc ls st)
/-- what stays in a method: the machine, its code, its words, its room -/
def xC (F : xF) (cc : ByteArray) (nL : Nat) (own : String) (Ws : List Cond) (rm : Room) : Prop := match F with
  | (p, _, _, R, s, m, args, _, _, c, _, _, _) => p.tables.exec = Jvm.exec ∧ c.code = cc ∧ c.maxLocals = nL ∧ s.vm.findClass own = some m.cls ∧ (∀ w ∈ Ws, w.before args s = true) ∧ R = rm
def xT (G : xG) : List (ClassId × FieldType) := [(G.2.1.1, .int), (G.2.1.2.1, .boolean), (G.2.1.2.2, .array .int)]
/-- what stays of a world: its cells are apart and may be changed; the tables -/
def xV (F : xF) (Y : xY) (G : xG) : Prop := match F with
  | (_, _, _, _, s, _, _, _, _, _, A, _, _) => xAp Y G ∧ (∀ a : Nat, xA Y G a → A a) ∧ va_K G.1 vwCl (xT G) s
section XROWS
variable {F : xF} {cc : ByteArray} {nL : Nat} {own : String} {Ws : List Cond} {rm : Room} {k w pc : Nat} {L : List (Option Value)} {st : List Value} {I : Heap → Prop}
theorem xg_weak {L' : List (Option Value)} (h : xg F k w pc L' st I) (hw : ∀ (j : Nat) (v : Value), L'[j]? = some (some v) → L[j]? = some (some v)) : xg F k w pc L st I := by
  obtain ⟨p, l, e, R, s, m, args, below, meth, c, A, H0, Q⟩ := F
  exact fun H locs ls hI hS hL => h H locs ls hI hS (xL_weak hL hw)
theorem xg_I {I' : Heap → Prop} (h : xg F k w pc L st I') (hI : ∀ H, I H → I' H) : xg F k w pc L st I := by
  obtain ⟨p, l, e, R, s, m, args, below, meth, c, A, H0, Q⟩ := F
  exact fun H locs ls h1 hS hL => h H locs ls (hI H h1) hS hL
theorem xg_st {st' : List Value} (h : xg F k w pc L st' I) (e : st = st') : xg F k w pc L st I := e ▸ h
theorem xg_wide {k' w' : Nat} (h : xg F k' w' pc L st I) (h1 : k ≤ k') (h2 : w ≤ w') : xg F k w pc L st I := by
  obtain ⟨p, l, e, R, s, m, args, below, meth, c, A, H0, Q⟩ := F
  exact fun H locs ls hI hS hL => W.widen h1 h2 (h H locs ls hI hS hL)
theorem xg_iconst (C : xC F cc nL own Ws rm) {n : Int} {v : Int32} (d : decode cc pc = .ok (.iconst n, 1)) (hv : Int32.ofInt n = v) (K : xg F k w (pc + 1) L (.int v :: st) I) : xg F k w pc L st I := by
  obtain ⟨p, l, e, R, s, m, args, below, meth, c, A, H0, Q⟩ := F
  obtain ⟨hx, hb, -⟩ := C
  exact fun H locs ls hI hS hL => lv_iconst hx hb d hv (K H locs ls hI hS hL)
theorem xg_bipush (C : xC F cc nL own Ws rm) {n : Int} {v : Int32} (d : decode cc pc = .ok (.bipush n, 2)) (hv : (Int8.ofInt n).toInt32 = v) (K : xg F k w (pc + 2) L (.int v :: st) I) : xg F k w pc L st I := by
  obtain ⟨p, l, e, R, s, m, args, below, meth, c, A, H0, Q⟩ := F
  obtain ⟨hx, hb, -⟩ := C
  exact fun H locs ls hI hS hL => lv_bipush hx hb d hv (K H locs ls hI hS hL)
theorem xg_sipush (C : xC F cc nL own Ws rm) {n : Int} {v : Int32} (d : decode cc pc = .ok (.sipush n, 3)) (hv : (Int16.ofInt n).toInt32 = v) (K : xg F k w (pc + 3) L (.int v :: st) I) : xg F k w pc L st I := by
  obtain ⟨p, l, e, R, s, m, args, below, meth, c, A, H0, Q⟩ := F
  obtain ⟨hx, hb, -⟩ := C
  exact fun H locs ls hI hS hL => lv_sipush hx hb d hv (K H locs ls hI hS hL)
theorem xg_iload_n (C : xC F cc nL own Ws rm) {i : Fin 4} {x : Int32} (d : decode cc pc = .ok (.iload_n i, 1)) (hl : L[(i : Nat)]? = some (some (.int x))) (K : xg F k w (pc + 1) L (.int x :: st) I) : xg F k w pc L st I := by
  obtain ⟨p, l, e, R, s, m, args, below, meth, c, A, H0, Q⟩ := F
  obtain ⟨hx, hb, -⟩ := C
  exact fun H locs ls hI hS hL => lv_iload_n hx hb d rfl (hL.2.2 _ _ hl).1 (K H locs ls hI hS hL)
theorem xg_iload (C : xC F cc nL own Ws rm) {i : Nat} {x : Int32} (d : decode cc pc = .ok (.iload i, 2)) (hl : L[i]? = some (some (.int x))) (K : xg F k w (pc + 2) L (.int x :: st) I) : xg F k w pc L st I := by
  obtain ⟨p, l, e, R, s, m, args, below, meth, c, A, H0, Q⟩ := F
  obtain ⟨hx, hb, -⟩ := C
  exact fun H locs ls hI hS hL => lv_iload hx hb d (hL.2.2 _ _ hl).1 (K H locs ls hI hS hL)
theorem xg_aload_n (C : xC F cc nL own Ws rm) {i : Fin 4} {x : Nat} (d : decode cc pc = .ok (.aload_n i, 1)) (hl : L[(i : Nat)]? = some (some (.ref x))) (K : xg F k w (pc + 1) L (.ref x :: st) I) : xg F k w pc L st I := by
  obtain ⟨p, l, e, R, s, m, args, below, meth, c, A, H0, Q⟩ := F
  obtain ⟨hx, hb, -⟩ := C
  exact fun H locs ls hI hS hL => lv_aload_n hx hb d rfl (hL.2.2 _ _ hl).1 (K H locs ls hI hS hL)
theorem xg_aload (C : xC F cc nL own Ws rm) {i : Nat} {x : Nat} (d : decode cc pc = .ok (.aload i, 2)) (hl : L[i]? = some (some (.ref x))) (K : xg F k w (pc + 2) L (.ref x :: st) I) : xg F k w pc L st I := by
  obtain ⟨p, l, e, R, s, m, args, below, meth, c, A, H0, Q⟩ := F
  obtain ⟨hx, hb, -⟩ := C
  exact fun H locs ls hI hS hL => lv_aload hx hb d (hL.2.2 _ _ hl).1 (K H locs ls hI hS hL)
theorem xg_istore_n (C : xC F cc nL own Ws rm) {i : Fin 4} {x : Int32} (d : decode cc pc = .ok (.istore_n i, 1)) (hn : (i : Nat) < nL) {L' : List (Option Value)} (hL' : L.set i (some (.int x)) = L') (K : xg F k w (pc + 1) L' st I) (hno : xnl L i = true := by rfl) : xg F k w pc L (.int x :: st) I := by
  subst hL'
  obtain ⟨p, l, e, R, s, m, args, below, meth, c, A, H0, Q⟩ := F
  obtain ⟨hx, hb, hm, -⟩ := C
  exact fun H locs ls hI hS hL => lv_istore_n hx hb d rfl (xL_has hL) (by rw [hm]; exact hn) rfl (fun ls' h' => K H locs ls' hI hS (xL_of hL rfl hno h'))
theorem xg_istore (C : xC F cc nL own Ws rm) {i : Nat} {x : Int32} (d : decode cc pc = .ok (.istore i, 2)) (hn : i < nL) {L' : List (Option Value)} (hL' : L.set i (some (.int x)) = L') (K : xg F k w (pc + 2) L' st I) (hno : xnl L i = true := by rfl) : xg F k w pc L (.int x :: st) I := by
  subst hL'
  obtain ⟨p, l, e, R, s, m, args, below, meth, c, A, H0, Q⟩ := F
  obtain ⟨hx, hb, hm, -⟩ := C
  exact fun H locs ls hI hS hL => lv_istore hx hb d (xL_has hL) (by rw [hm]; exact hn) rfl (fun ls' h' => K H locs ls' hI hS (xL_of hL rfl hno h'))
theorem xg_astore_n (C : xC F cc nL own Ws rm) {i : Fin 4} {x : Nat} (d : decode cc pc = .ok (.astore_n i, 1)) (hn : (i : Nat) < nL) {L' : List (Option Value)} (hL' : L.set i (some (.ref x)) = L') (K : xg F k w (pc + 1) L' st I) (hno : xnl L i = true := by rfl) : xg F k w pc L (.ref x :: st) I := by
  subst hL'
  obtain ⟨p, l, e, R, s, m, args, below, meth, c, A, H0, Q⟩ := F
  obtain ⟨hx, hb, hm, -⟩ := C
  exact fun H locs ls hI hS hL => lv_astore_n hx hb d rfl (xL_has hL) (by rw [hm]; exact hn) rfl (fun ls' h' => K H locs ls' hI hS (xL_of hL rfl hno h'))
theorem xg_astore (C : xC F cc nL own Ws rm) {i : Nat} {x : Nat} (d : decode cc pc = .ok (.astore i, 2)) (hn : i < nL) {L' : List (Option Value)} (hL' : L.set i (some (.ref x)) = L') (K : xg F k w (pc + 2) L' st I) (hno : xnl L i = true := by rfl) : xg F k w pc L (.ref x :: st) I := by
  subst hL'
  obtain ⟨p, l, e, R, s, m, args, below, meth, c, A, H0, Q⟩ := F
  obtain ⟨hx, hb, hm, -⟩ := C
  exact fun H locs ls hI hS hL => lv_astore hx hb d (xL_has hL) (by rw [hm]; exact hn) rfl (fun ls' h' => K H locs ls' hI hS (xL_of hL rfl hno h'))
theorem xg_iinc (C : xC F cc nL own Ws rm) {i : Nat} {n : Int} {x v : Int32} (d : decode cc pc = .ok (.iinc i n, 3)) (hl : L[i]? = some (some (.int x))) (hv : x + Int32.ofInt n = v) (hn : i < nL) {L' : List (Option Value)} (hL' : L.set i (some (.int v)) = L') (K : xg F k w (pc + 3) L' st I) (hno : xnl L i = true := by rfl) : xg F k w pc L st I := by
  subst hL'
  obtain ⟨p, l, e, R, s, m, args, below, meth, c, A, H0, Q⟩ := F
  obtain ⟨hx, hb, hm, -⟩ := C
  intro H locs ls hI hS hL
  obtain ⟨q, hq⟩ := List.getElem?_of_mem (xPairs_mem.mpr hl)
  exact lv_iinc hx hb d (xL_has hL) hq hv (by rw [hm]; exact hn) rfl (fun ls' h' => K H locs ls' hI hS (xL_of hL rfl hno h'))
theorem xg_iadd (C : xC F cc nL own Ws rm) {x y : Int32} (d : decode cc pc = .ok (.iadd, 1)) (K : xg F k w (pc + 1) L (.int (x + y) :: st) I) : xg F k w pc L (.int y :: .int x :: st) I := by
  obtain ⟨p, l, e, R, s, m, args, below, meth, c, A, H0, Q⟩ := F
  obtain ⟨hx, hb, -⟩ := C
  exact fun H locs ls hI hS hL => lv_iadd hx hb d (K H locs ls hI hS hL)
theorem xg_isub (C : xC F cc nL own Ws rm) {x y : Int32} (d : decode cc pc = .ok (.isub, 1)) (K : xg F k w (pc + 1) L (.int (x - y) :: st) I) : xg F k w pc L (.int y :: .int x :: st) I := by
  obtain ⟨p, l, e, R, s, m, args, below, meth, c, A, H0, Q⟩ := F
  obtain ⟨hx, hb, -⟩ := C
  exact fun H locs ls hI hS hL => lv_isub hx hb d (K H locs ls hI hS hL)
theorem xg_imul (C : xC F cc nL own Ws rm) {x y : Int32} (d : decode cc pc = .ok (.imul, 1)) (K : xg F k w (pc + 1) L (.int (x * y) :: st) I) : xg F k w pc L (.int y :: .int x :: st) I := by
  obtain ⟨p, l, e, R, s, m, args, below, meth, c, A, H0, Q⟩ := F
  obtain ⟨hx, hb, -⟩ := C
  exact fun H locs ls hI hS hL => lv_imul hx hb d (K H locs ls hI hS hL)
theorem xg_iand (C : xC F cc nL own Ws rm) {x y : Int32} (d : decode cc pc = .ok (.iand, 1)) (K : xg F k w (pc + 1) L (.int (x &&& y) :: st) I) : xg F k w pc L (.int y :: .int x :: st) I := by
  obtain ⟨p, l, e, R, s, m, args, below, meth, c, A, H0, Q⟩ := F
  obtain ⟨hx, hb, -⟩ := C
  exact fun H locs ls hI hS hL => lv_iand hx hb d (K H locs ls hI hS hL)
theorem xg_idiv (C : xC F cc nL own Ws rm) {x y : Int32} (d : decode cc pc = .ok (.idiv, 1)) (hne : ¬ y = 0) (K : xg F k w (pc + 1) L (.int (x / y) :: st) I) : xg F k w pc L (.int y :: .int x :: st) I := by
  obtain ⟨p, l, e, R, s, m, args, below, meth, c, A, H0, Q⟩ := F
  obtain ⟨hx, hb, -⟩ := C
  exact fun H locs ls hI hS hL => lv_idiv hx hb d hne (K H locs ls hI hS hL)
theorem xg_irem (C : xC F cc nL own Ws rm) {x y : Int32} (d : decode cc pc = .ok (.irem, 1)) (hne : ¬ y = 0) (K : xg F k w (pc + 1) L (.int (x - x / y * y) :: st) I) : xg F k w pc L (.int y :: .int x :: st) I := by
  obtain ⟨p, l, e, R, s, m, args, below, meth, c, A, H0, Q⟩ := F
  obtain ⟨hx, hb, -⟩ := C
  exact fun H locs ls hI hS hL => lv_irem hx hb d hne (K H locs ls hI hS hL)
theorem xg_dup (C : xC F cc nL own Ws rm) {a : Value} (d : decode cc pc = .ok (.dup, 1)) (ha : a.category = 1) (K : xg F k w (pc + 1) L (a :: a :: st) I) : xg F k w pc L (a :: st) I := by
  obtain ⟨p, l, e, R, s, m, args, below, meth, c, A, H0, Q⟩ := F
  obtain ⟨hx, hb, -⟩ := C
  exact fun H locs ls hI hS hL => lv_dup hx hb d ha (K H locs ls hI hS hL)
theorem xg_pop (C : xC F cc nL own Ws rm) {a : Value} (d : decode cc pc = .ok (.pop, 1)) (ha : a.category = 1) (K : xg F k w (pc + 1) L st I) : xg F k w pc L (a :: st) I := by
  obtain ⟨p, l, e, R, s, m, args, below, meth, c, A, H0, Q⟩ := F
  obtain ⟨hx, hb, -⟩ := C
  exact fun H locs ls hI hS hL => lv_pop hx hb d ha (K H locs ls hI hS hL)
theorem xg_dup2 (C : xC F cc nL own Ws rm) {a b : Value} (d : decode cc pc = .ok (.dup2, 1)) (ha : a.category = 1) (hb' : b.category = 1) (K : xg F k w (pc + 1) L (a :: b :: a :: b :: st) I) : xg F k w pc L (a :: b :: st) I := by
  obtain ⟨p, l, e, R, s, m, args, below, meth, c, A, H0, Q⟩ := F
  obtain ⟨hx, hb, -⟩ := C
  exact fun H locs ls hI hS hL => lv_dup2_11 hx hb d ha hb' (K H locs ls hI hS hL)
theorem xg_goto (C : xC F cc nL own Ws rm) {off : Int} (tgt : Nat) (d : decode cc pc = .ok (.goto off, 3)) (ht : (pc : Int) + off = (tgt : Int)) (K : xg F k w tgt L st I) : xg F k w pc L st I := by
  obtain ⟨p, l, e, R, s, m, args, below, meth, c, A, H0, Q⟩ := F
  obtain ⟨hx, hb, -⟩ := C
  exact fun H locs ls hI hS hL => lv_goto hx hb d ht (K H locs ls hI hS hL)
theorem xg_if_eq (C : xC F cc nL own Ws rm) {x : Int32} {off : Int} (tgt : Nat) (d : decode cc pc = .ok (.ifCond .eq off, 3)) (ht : (pc : Int) + off = (tgt : Int)) (Kt : x = 0 → xg F k w tgt L st I) (Kf : ¬ x = 0 → xg F k w (pc + 3) L st I) : xg F k w pc L (.int x :: st) I := by
  obtain ⟨p, l, e, R, s, m, args, below, meth, c, A, H0, Q⟩ := F
  obtain ⟨hx, hb, -⟩ := C
  exact fun H locs ls hI hS hL => lv_if_eq hx hb d ht (fun h => Kt h H locs ls hI hS hL) (fun h => Kf h H locs ls hI hS hL)
theorem xg_if_ne (C : xC F cc nL own Ws rm) {x : Int32} {off : Int} (tgt : Nat) (d : decode cc pc = .ok (.ifCond .ne off, 3)) (ht : (pc : Int) + off = (tgt : Int)) (Kt : ¬ x = 0 → xg F k w tgt L st I) (Kf : x = 0 → xg F k w (pc + 3) L st I) : xg F k w pc L (.int x :: st) I := by
  obtain ⟨p, l, e, R, s, m, args, below, meth, c, A, H0, Q⟩ := F
  obtain ⟨hx, hb, -⟩ := C
  exact fun H locs ls hI hS hL => lv_if_ne hx hb d ht (fun h => Kt h H locs ls hI hS hL) (fun h => Kf h H locs ls hI hS hL)
theorem xg_if_lt (C : xC F cc nL own Ws rm) {x : Int32} {off : Int} (tgt : Nat) (d : decode cc pc = .ok (.ifCond .lt off, 3)) (ht : (pc : Int) + off = (tgt : Int)) (Kt : x < 0 → xg F k w tgt L st I) (Kf : ¬ x < 0 → xg F k w (pc + 3) L st I) : xg F k w pc L (.int x :: st) I := by
  obtain ⟨p, l, e, R, s, m, args, below, meth, c, A, H0, Q⟩ := F
  obtain ⟨hx, hb, -⟩ := C
  exact fun H locs ls hI hS hL => lv_if_lt hx hb d ht (fun h => Kt h H locs ls hI hS hL) (fun h => Kf h H locs ls hI hS hL)
theorem xg_if_ge (C : xC F cc nL own Ws rm) {x : Int32} {off : Int} (tgt : Nat) (d : decode cc pc = .ok (.ifCond .ge off, 3)) (ht : (pc : Int) + off = (tgt : Int)) (Kt : 0 ≤ x → xg F k w tgt L st I) (Kf : ¬ 0 ≤ x → xg F k w (pc + 3) L st I) : xg F k w pc L (.int x :: st) I := by
  obtain ⟨p, l, e, R, s, m, args, below, meth, c, A, H0, Q⟩ := F
  obtain ⟨hx, hb, -⟩ := C
  exact fun H locs ls hI hS hL => lv_if_ge hx hb d ht (fun h => Kt h H locs ls hI hS hL) (fun h => Kf h H locs ls hI hS hL)
theorem xg_if_gt (C : xC F cc nL own Ws rm) {x : Int32} {off : Int} (tgt : Nat) (d : decode cc pc = .ok (.ifCond .gt off, 3)) (ht : (pc : Int) + off = (tgt : Int)) (Kt : 0 < x → xg F k w tgt L st I) (Kf : ¬ 0 < x → xg F k w (pc + 3) L st I) : xg F k w pc L (.int x :: st) I := by
  obtain ⟨p, l, e, R, s, m, args, below, meth, c, A, H0, Q⟩ := F
  obtain ⟨hx, hb, -⟩ := C
  exact fun H locs ls hI hS hL => lv_if_gt hx hb d ht (fun h => Kt h H locs ls hI hS hL) (fun h => Kf h H locs ls hI hS hL)
theorem xg_if_le (C : xC F cc nL own Ws rm) {x : Int32} {off : Int} (tgt : Nat) (d : decode cc pc = .ok (.ifCond .le off, 3)) (ht : (pc : Int) + off = (tgt : Int)) (Kt : x ≤ 0 → xg F k w tgt L st I) (Kf : ¬ x ≤ 0 → xg F k w (pc + 3) L st I) : xg F k w pc L (.int x :: st) I := by
  obtain ⟨p, l, e, R, s, m, args, below, meth, c, A, H0, Q⟩ := F
  obtain ⟨hx, hb, -⟩ := C
  exact fun H locs ls hI hS hL => lv_if_le hx hb d ht (fun h => Kt h H locs ls hI hS hL) (fun h => Kf h H locs ls hI hS hL)
theorem xg_icmp_eq (C : xC F cc nL own Ws rm) {x y : Int32} {off : Int} (tgt : Nat) (d : decode cc pc = .ok (.if_icmp .eq off, 3)) (ht : (pc : Int) + off = (tgt : Int)) (Kt : x = y → xg F k w tgt L st I) (Kf : ¬ x = y → xg F k w (pc + 3) L st I) : xg F k w pc L (.int y :: .int x :: st) I := by
  obtain ⟨p, l, e, R, s, m, args, below, meth, c, A, H0, Q⟩ := F
  obtain ⟨hx, hb, -⟩ := C
  exact fun H locs ls hI hS hL => lv_icmp_eq hx hb d ht (fun h => Kt h H locs ls hI hS hL) (fun h => Kf h H locs ls hI hS hL)
theorem xg_icmp_ne (C : xC F cc nL own Ws rm) {x y : Int32} {off : Int} (tgt : Nat) (d : decode cc pc = .ok (.if_icmp .ne off, 3)) (ht : (pc : Int) + off = (tgt : Int)) (Kt : ¬ x = y → xg F k w tgt L st I) (Kf : x = y → xg F k w (pc + 3) L st I) : xg F k w pc L (.int y :: .int x :: st) I := by
  obtain ⟨p, l, e, R, s, m, args, below, meth, c, A, H0, Q⟩ := F
  obtain ⟨hx, hb, -⟩ := C
  exact fun H locs ls hI hS hL => lv_icmp_ne hx hb d ht (fun h => Kt h H locs ls hI hS hL) (fun h => Kf h H locs ls hI hS hL)
theorem xg_icmp_lt (C : xC F cc nL own Ws rm) {x y : Int32} {off : Int} (tgt : Nat) (d : decode cc pc = .ok (.if_icmp .lt off, 3)) (ht : (pc : Int) + off = (tgt : Int)) (Kt : x < y → xg F k w tgt L st I) (Kf : ¬ x < y → xg F k w (pc + 3) L st I) : xg F k w pc L (.int y :: .int x :: st) I := by
  obtain ⟨p, l, e, R, s, m, args, below, meth, c, A, H0, Q⟩ := F
  obtain ⟨hx, hb, -⟩ := C
  exact fun H locs ls hI hS hL => lv_icmp_lt hx hb d ht (fun h => Kt h H locs ls hI hS hL) (fun h => Kf h H locs ls hI hS hL)
theorem xg_icmp_ge (C : xC F cc nL own Ws rm) {x y : Int32} {off : Int} (tgt : Nat) (d : decode cc pc = .ok (.if_icmp .ge off, 3)) (ht : (pc : Int) + off = (tgt : Int)) (Kt : y ≤ x → xg F k w tgt L st I) (Kf : ¬ y ≤ x → xg F k w (pc + 3) L st I) : xg F k w pc L (.int y :: .int x :: st) I := by
  obtain ⟨p, l, e, R, s, m, args, below, meth, c, A, H0, Q⟩ := F
  obtain ⟨hx, hb, -⟩ := C
  exact fun H locs ls hI hS hL => lv_icmp_ge hx hb d ht (fun h => Kt h H locs ls hI hS hL) (fun h => Kf h H locs ls hI hS hL)
theorem xg_icmp_gt (C : xC F cc nL own Ws rm) {x y : Int32} {off : Int} (tgt : Nat) (d : decode cc pc = .ok (.if_icmp .gt off, 3)) (ht : (pc : Int) + off = (tgt : Int)) (Kt : y < x → xg F k w tgt L st I) (Kf : ¬ y < x → xg F k w (pc + 3) L st I) : xg F k w pc L (.int y :: .int x :: st) I := by
  obtain ⟨p, l, e, R, s, m, args, below, meth, c, A, H0, Q⟩ := F
  obtain ⟨hx, hb, -⟩ := C
  exact fun H locs ls hI hS hL => lv_icmp_gt hx hb d ht (fun h => Kt h H locs ls hI hS hL) (fun h => Kf h H locs ls hI hS hL)
theorem xg_icmp_le (C : xC F cc nL own Ws rm) {x y : Int32} {off : Int} (tgt : Nat) (d : decode cc pc = .ok (.if_icmp .le off, 3)) (ht : (pc : Int) + off = (tgt : Int)) (Kt : x ≤ y → xg F k w tgt L st I) (Kf : ¬ x ≤ y → xg F k w (pc + 3) L st I) : xg F k w pc L (.int y :: .int x :: st) I := by
  obtain ⟨p, l, e, R, s, m, args, below, meth, c, A, H0, Q⟩ := F
  obtain ⟨hx, hb, -⟩ := C
  exact fun H locs ls hI hS hL => lv_icmp_le hx hb d ht (fun h => Kt h H locs ls hI hS hL) (fun h => Kf h H locs ls hI hS hL)
end XROWS
section XMEM
variable {F : xF} {cc : ByteArray} {nL : Nat} {own : String} {Ws : List Cond} {rm : Room} {k w pc : Nat} {L : List (Option Value)} {st : List Value} {Y : xY} {G : xG} {S : xS}
theorem xin_cl {i : Int32} {n : Nat} (hn : n < 2 ^ 31) (h : vp_in i n) : nI i.toNatClampNeg = i ∧ i.toNatClampNeg < n := by
  obtain ⟨j, h1, rfl⟩ := vp_in_of h hn
  rw [nI_clamp (by omega)]
  exact ⟨rfl, h1⟩
theorem xg_iald (C : xC F cc nL own Ws rm) (V : xV F Y G) {f n N : Nat} {r i : Int32} (hY : Y[f]? = some (n, .inr (.inl (false, N)))) (hN : N < 2 ^ 31) (hr : xR n r) (hi : vp_in i N) (d : decode cc pc = .ok (.iaload, 1)) {v : Int32} (hv : S f r i = v) (K : xg F k w (pc + 1) L (.int v :: st) (xP Y G S)) : xg F k w pc L (.int i :: .ref (G.2.2 f r) :: st) (xP Y G S) := by
  subst hv
  obtain ⟨p, l, e, R, s, m, args, below, meth, c, A, H0, Q⟩ := F
  obtain ⟨hx, hb, -⟩ := C
  obtain ⟨-, -, hK⟩ := V
  intro H locs ls hI hS hL
  obtain ⟨e1, e2⟩ := xin_cl hN hi
  have h0 : H[G.2.2 f r]? = some (arrV G.2.1.1 N (fun j => .int (S f r (nI j)))) := xP_at hI hY hr
  refine W.iald (v := .int (S f r i)) hx hb h0 ((hK.2 0 _ rfl).1 _ _) (fun q => by cases q) (by rw [arrV_size]; exact hi) (by rw [arrV_read _ _ e2, e1]) rfl rfl d (K H locs ls hI hS hL)
theorem xg_zald (C : xC F cc nL own Ws rm) (V : xV F Y G) {f n N : Nat} {r i : Int32} (hY : Y[f]? = some (n, .inr (.inl (true, N)))) (hN : N < 2 ^ 31) (hr : xR n r) (hi : vp_in i N) (d : decode cc pc = .ok (.baload, 1)) {v : Int32} (hv : S f r i = v) (K : xg F k w (pc + 1) L (.int v :: st) (xP Y G S)) : xg F k w pc L (.int i :: .ref (G.2.2 f r) :: st) (xP Y G S) := by
  subst hv
  obtain ⟨p, l, e, R, s, m, args, below, meth, c, A, H0, Q⟩ := F
  obtain ⟨hx, hb, -⟩ := C
  obtain ⟨-, -, hK⟩ := V
  intro H locs ls hI hS hL
  obtain ⟨e1, e2⟩ := xin_cl hN hi
  have h0 : H[G.2.2 f r]? = some (arrV G.2.1.2.1 N (fun j => .int (S f r (nI j)))) := xP_at hI hY hr
  refine W.zald (v := .int (S f r i)) hx hb h0 ((hK.2 1 _ rfl).1 _ _) (fun q => by cases q) (by rw [arrV_size]; exact hi) (by rw [arrV_read _ _ e2, e1]) rfl rfl d (K H locs ls hI hS hL)
theorem xg_aald (C : xC F cc nL own Ws rm) (V : xV F Y G) {f b : Nat} {i : Int32} (hY : Y[f]? = some (1, .inr (.inr b))) (hi : vp_in i 8) (d : decode cc pc = .ok (.aaload, 1)) (K : xg F k w (pc + 1) L (.ref (G.2.2 b i) :: st) (xP Y G S)) : xg F k w pc L (.int i :: .ref (G.2.2 f 0) :: st) (xP Y G S) := by
  obtain ⟨p, l, e, R, s, m, args, below, meth, c, A, H0, Q⟩ := F
  obtain ⟨hx, hb, -⟩ := C
  obtain ⟨-, -, hK⟩ := V
  intro H locs ls hI hS hL
  obtain ⟨e1, e2⟩ := xin_cl (by decide) hi
  have h0 : H[G.2.2 f 0]? = some (arrV G.2.1.2.2 8 (fun j => va_rf (some (G.2.2 b (nI j))))) := xP_at hI hY (xR_0 (by decide))
  refine W.aald (v := .ref (G.2.2 b i)) (ty := .array .int) hx hb h0 ((hK.2 2 _ rfl).1 _ _) rfl (fun q => by cases q) (by rw [arrV_size]; exact hi) (by rw [arrV_read _ _ e2, e1]; rfl) rfl rfl d (K H locs ls hI hS hL)
theorem xar_put {f n N : Nat} {r i x : Int32} {z : Bool} {H H1 : Heap} {cA : ClassId} (hcA : cA = cond z G.2.1.2.1 G.2.1.1) (hI : xP Y G S H) (hap : xAp Y G) (hY : Y[f]? = some (n, .inr (.inl (z, N)))) (hr : xR n r) (hN : N < 2 ^ 31) (hi : vp_in i N)
    (e : H1[G.2.2 f r]? = some ((arrV cA N (fun j => .int (S f r (nI j)))).setSlot i.toNatClampNeg (.int x))) (oq : ∀ q : Nat, q ≠ G.2.2 f r → H1[q]? = H[q]?) : xP Y G (xu S f r i x) H1 := by
  obtain ⟨e1, e2⟩ := xin_cl hN hi
  refine xP_put hI hap hY hr ?_ oq
  show H1[G.2.2 f r]? = some (arrV (cond z G.2.1.2.1 G.2.1.1) N (fun j => .int (xu S f r i x f r (nI j))))
  rw [e, arrV_store, ← hcA]
  refine congrArg some (xarr_cong fun j hj => ?_)
  by_cases hq : j = i.toNatClampNeg
  · subst hq
    rw [e1, xu_self, if_pos ⟨rfl, rfl⟩]
    simp [updV]
  · rw [xu_self, if_neg]
    · simp [updV, hq]
    · rintro ⟨-, h2⟩
      rw [← e1] at h2
      exact hq ((nI_eq (by omega) (by omega)).mp h2)
theorem xg_iast (C : xC F cc nL own Ws rm) (V : xV F Y G) {f n N : Nat} {r i x : Int32} (hY : Y[f]? = some (n, .inr (.inl (false, N)))) (hN : N < 2 ^ 31) (hr : xR n r) (hi : vp_in i N) (d : decode cc pc = .ok (.iastore, 1)) (K : xg F k w (pc + 1) L st (xP Y G (xu S f r i x))) : xg F k w pc L (.int x :: .int i :: .ref (G.2.2 f r) :: st) (xP Y G S) := by
  obtain ⟨p, l, e, R, s, m, args, below, meth, c, A, H0, Q⟩ := F
  obtain ⟨hx, hb, -⟩ := C
  obtain ⟨hap, hA, hK⟩ := V
  intro H locs ls hI hS hL
  obtain ⟨e1, e2⟩ := xin_cl hN hi
  have h0 : H[G.2.2 f r]? = some (arrV G.2.1.1 N (fun j => .int (S f r (nI j)))) := xP_at hI hY hr
  refine W.iast hx hb h0 ((hK.2 0 _ rfl).1 _ _) (fun q => by cases q) (by rw [arrV_size]; exact hi) rfl rfl d fun H1 e z oq => ?_
  exact K H1 _ ls (xar_put rfl hI hap hY hr hN hi e oq) (hS.put z oq (hA _ (xA_of hY hr))) hL
theorem xg_zast (C : xC F cc nL own Ws rm) (V : xV F Y G) {f n N : Nat} {r i x : Int32} (hY : Y[f]? = some (n, .inr (.inl (true, N)))) (hN : N < 2 ^ 31) (hr : xR n r) (hi : vp_in i N) (hx01 : narrow .boolean (.int x) = .int x) (d : decode cc pc = .ok (.bastore, 1)) (K : xg F k w (pc + 1) L st (xP Y G (xu S f r i x))) : xg F k w pc L (.int x :: .int i :: .ref (G.2.2 f r) :: st) (xP Y G S) := by
  obtain ⟨p, l, e, R, s, m, args, below, meth, c, A, H0, Q⟩ := F
  obtain ⟨hx, hb, -⟩ := C
  obtain ⟨hap, hA, hK⟩ := V
  intro H locs ls hI hS hL
  obtain ⟨e1, e2⟩ := xin_cl hN hi
  have h0 : H[G.2.2 f r]? = some (arrV G.2.1.2.1 N (fun j => .int (S f r (nI j)))) := xP_at hI hY hr
  refine W.zast hx hb h0 ((hK.2 1 _ rfl).1 _ _) (fun q => by cases q) (by rw [arrV_size]; exact hi) rfl rfl d fun H1 e z oq => ?_
  rw [hx01] at e
  exact K H1 _ ls (xar_put rfl hI hap hY hr hN hi e oq) (hS.put z oq (hA _ (xA_of hY hr))) hL
/-- a field that a method links: its words -/
def xFr (Ws : List Cond) (own : String) (idx : Nat) (Cn : String) (T : u_T) (N kf : Nat) : Prop := (∀ w ∈ u_ws Cn T N, w ∈ Ws) ∧ Cond.fieldLink own idx (T kf).1 (T kf).2.1 (T kf).2.2.1 ∈ Ws ∧ kf < N
theorem xg_get (C : xC F cc nL own Ws rm) (V : xV F Y G) {f ci idx N kf : Nat} {fs : List (Option Nat)} {Cn : String} {T : u_T} {v : Value} (q : xFr Ws own idx Cn T N kf) (hY : Y[f]? = some (1, .inl (ci, fs))) (hci : vwCl[ci]? = some (Cn, T, N)) (hv : (xFl G.2.2 (S f 0) fs 0)[kf]? = some v) (d : decode cc pc = .ok (.getfield idx, 3)) (K : xg F k w (pc + 3) L (v :: st) (xP Y G S)) : xg F k w pc L (.ref (G.2.2 f 0) :: st) (xP Y G S) := by
  obtain ⟨p, l, e, R, s, m, args, below, meth, c, A, H0, Q⟩ := F
  obtain ⟨hx, hb, -, hown, hts, -⟩ := C
  obtain ⟨hap, hA, hK⟩ := V
  intro H locs ls hI hS hL
  obtain ⟨r, h1, cell, q1, q2, q3, q4⟩ := xP_at hI hY (xR_0 (by decide))
  have hr : r = (Cn, T, N) := Option.some.inj (h1.symm.trans hci)
  subst hr
  obtain ⟨hSl, hfc, kC, hkC, hkind⟩ := hK.1 ci _ hci
  obtain ⟨cf, kfl, fi, fd, hi, hsl⟩ := hSl kf q.2.2
  refine W.getf hx hb hown (hts _ q.2.1) hi (u_facts hfc hkC (u_lays hts q.1 q.2.2) hi).1 q1 (by rw [q3]; exact fun h => by cases h) (v := v) ?_ rfl rfl d (K H locs ls hI hS hL)
  rw [hsl, q4 kf q.2.2]
  simp [vp_V, hv]
theorem xg_getR (C : xC F cc nL own Ws rm) (V : xV F Y G) {f ci idx N kf t : Nat} {fs : List (Option Nat)} {Cn : String} {T : u_T} (q : xFr Ws own idx Cn T N kf) (hY : Y[f]? = some (1, .inl (ci, fs))) (hci : vwCl[ci]? = some (Cn, T, N)) (hv : fs[kf]? = some (some t)) (d : decode cc pc = .ok (.getfield idx, 3)) (K : xg F k w (pc + 3) L (.ref (G.2.2 t 0) :: st) (xP Y G S)) : xg F k w pc L (.ref (G.2.2 f 0) :: st) (xP Y G S) :=
  xg_get C V q hY hci (xFl_ref fs 0 kf t hv) d K
theorem xg_getI (C : xC F cc nL own Ws rm) (V : xV F Y G) {f ci idx N kf : Nat} {fs : List (Option Nat)} {Cn : String} {T : u_T} (q : xFr Ws own idx Cn T N kf) (hY : Y[f]? = some (1, .inl (ci, fs))) (hci : vwCl[ci]? = some (Cn, T, N)) (hv : fs[kf]? = some none) (d : decode cc pc = .ok (.getfield idx, 3)) {v : Int32} (hv2 : S f 0 (nI kf) = v) (K : xg F k w (pc + 3) L (.int v :: st) (xP Y G S)) : xg F k w pc L (.ref (G.2.2 f 0) :: st) (xP Y G S) := by
  subst hv2
  refine xg_get C V q hY hci ?_ d K
  have := xFl_int (ad := G.2.2) (g := S f 0) fs 0 kf hv
  rw [Nat.zero_add] at this
  exact this
theorem xg_putI (C : xC F cc nL own Ws rm) (V : xV F Y G) {f ci idx N kf : Nat} {fs : List (Option Nat)} {Cn : String} {T : u_T} {ty : Nat → FieldType} {x : Int32} (q : xFr Ws own idx Cn T N kf) (hY : Y[f]? = some (1, .inl (ci, fs))) (hfl : fs.length < 100) (hci : vwCl[ci]? = some (Cn, T, N)) (hv : fs[kf]? = some none)
    (hty : ∀ j, j < N → parseFieldDescriptor (T j).2.2.1 = some (ty j)) (hnm : ∀ a, a < N → ∀ b, b < N → a ≠ b → (T a).2.1 ≠ (T b).2.1) (hti : ty kf = .int) (hfin : (T kf).2.2.2 = false) (d : decode cc pc = .ok (.putfield idx, 3)) (K : xg F k w (pc + 3) L st (xP Y G (xu S f 0 (nI kf) x))) : xg F k w pc L (.int x :: .ref (G.2.2 f 0) :: st) (xP Y G S) := by
  obtain ⟨p, l, e, R, s, m, args, below, meth, c, A, H0, Q⟩ := F
  obtain ⟨hx, hb, -, hown, hts, -⟩ := C
  obtain ⟨hap, hA, hK⟩ := V
  intro H locs ls hI hS hL
  have hk := q.2.2
  have hap2 := va_apart (own := own) hts q.1 ty hty hnm hK hci
  have hat := xP_at hI hY (xR_0 (by decide))
  obtain ⟨r, h1, cell, q1, q2, q3, q4⟩ := hat
  have hr : r = (Cn, T, N) := Option.some.inj (h1.symm.trans hci)
  subst hr
  obtain ⟨hSl, hfc, kC, hkC, hkind⟩ := hK.1 ci _ hci
  obtain ⟨cf, kfl, fi, fd, hi, hsl⟩ := hSl kf hk
  have hlay := hts _ (q.1 _ (u_in_lay hk))
  unfold u_lay at hlay
  rw [if_neg (by rw [hfin]; decide)] at hlay
  have hst := (u_facts hfc hkC (u_lays hts q.1 hk) hi).1
  have hd : parseFieldDescriptor (T kf).2.2.1 = some .int := by rw [hty kf hk, hti]
  have h6 := u_store (v := .int x) hfc hkC hkind hlay hi hd rfl rfl
  have hl : kf < (xFl G.2.2 (S f 0) fs 0).length := by
    rw [xFl_len]
    exact (List.getElem?_eq_some_iff.mp hv).1
  refine W.putK hx hb (f := fd) ⟨hown, hts _ q.2.1, ⟨_, _, _, hi⟩, hst⟩ (by rw [q2]; exact h6) q1 q3 (by rw [hsl]; exact k2_hasslot (q4 kf hk)) rfl rfl d fun H' e1 e2 e3 => ?_
  rw [hsl] at e1 ⊢
  refine K H' _ ls (xP_put hI hap hY (xR_0 (by decide)) ?_ e3) (hS.put e2 e3 (hA _ (xA_of hY (xR_0 (by decide))))) hL
  have hset : (xFl G.2.2 (S f 0) fs 0).set kf (.int x) = xFl G.2.2 (xu S f 0 (nI kf) x f 0) fs 0 := by
    rw [xFl_set fs 0 kf (by omega) hv, Nat.zero_add]
    refine congrArg (fun g => xFl G.2.2 g fs 0) (funext fun i => ?_)
    rw [xu_self]
    by_cases hi : i = nI kf
    · rw [if_pos hi, if_pos ⟨rfl, hi⟩]
    · rw [if_neg hi, if_neg (fun z => hi z.2)]
  refine ⟨_, hci, t_OB.to (V := updV (vp_V (xFl G.2.2 (S f 0) fs 0)) kf (.int x)) ⟨_, e1, q2, q3, t_set q4 hap2 hk (.int x)⟩ (fun j _ => ?_)⟩
  rw [vp_updV_set hl, hset]
end XMEM
/-! contracts of methods that make nothing and don't throw -/
def xPre (Y : xY) (G : xG) (S : xS) (U : State) : Prop := xP Y G S U.heap ∧ va_K G.1 vwCl (xT G) U
abbrev xMi (l : Launch) (Y : xY) (G : xG) (y : MethodName) (ws : List Cond) (fr lo : Nat) (as : List Value) (S S' : xS) (r : Int32) : Prop := Met l y ws { frames := fr, cells := 0, slots := 0, locals := lo } (va_Pc as (xPre Y G S)) (va_Qi (fun (r' : Int32) (_ : Unit) => r' = r) (fun _ t => xP Y G S' t.heap) (xA Y G)) 0 0 (xA Y G)
abbrev xMv (l : Launch) (Y : xY) (G : xG) (y : MethodName) (ws : List Cond) (fr lo : Nat) (as : List Value) (S S' : xS) : Prop := Met l y ws { frames := fr, cells := 0, slots := 0, locals := lo } (va_Pc as (xPre Y G S)) (va_Qv (fun (_ : Unit) => True) (fun _ t => xP Y G S' t.heap) (xA Y G)) 0 0 (xA Y G)
theorem xMi_of {l : Launch} {Y : xY} {G : xG} {y : MethodName} {ws ws' : List Cond} {cc : ByteArray} {maxL : Nat} {ty : FieldType} {fr lo : Nat} {as : List Value} {S S' : xS} {r : Int32} {own : String} (L : List (Option Value)) (hy : plainName y.cls = true) (ho : y.cls = own) (hw : ws = Cond.code y cc maxL (some ty) :: ws') (hn : narrow ty (.int r) = .int r) (hc : ∀ v ∈ as, v.category = 1) (hlen : as.length ≤ maxL) (hL : L = as.map some ++ List.replicate (maxL - as.length) none) (hap : xAp Y G)
    (body : ∀ F, xC F cc maxL own ws { frames := fr, cells := 0, slots := 0, locals := lo } → xV F Y G → (∀ pc L, decode cc pc = .ok (.ireturn, 1) → xg F 0 0 pc L [.int r] (xP Y G S')) → xg F 0 0 0 L [] (xP Y G S)) : xMi l Y G y ws fr lo as S S' r := by
  refine Met.ofW (cc := cc) (maxL := maxL) (ret := some ty) hy hw ?_
  intro p e s m args below meth c s₁ B hml hv
  obtain ⟨rfl, hP, hK⟩ := hv
  have hts := atoms_spec (ws := ws) B.pre
  have hown : s.vm.findClass own = some m.cls := ho ▸ findClass_of_methodNamed B.named
  have hlocks := B.notSynchronized
  have hb := B.bytes
  have hx := B.exec
  have hr := B.returns
  have hl := xL_entry hc hlen hL
  rw [lg_entry_eq]
  refine body (p, l, e, _, s, m, as.toArray, below, meth, c, xA Y G, s.heap, _) ⟨hx, hb, hml, hown, hts, rfl⟩ ⟨hap, fun a h => h, hK⟩ ?_ s.heap [] _ hP va_S.rf (hml.symm ▸ hl)
  intro pc L d H locs ls hI hS hL
  exact W.zret hx hb hr hn (fun t ht hW => ⟨⟨r, (), rfl, rfl, by show xP Y G S' t.heap; rw [ht]; exact hI⟩, hS.F ht⟩) hS.2.2 d hlocks
theorem xMv_of {l : Launch} {Y : xY} {G : xG} {y : MethodName} {ws ws' : List Cond} {cc : ByteArray} {maxL : Nat} {fr lo : Nat} {as : List Value} {S S' : xS} {own : String} (L : List (Option Value)) (hy : plainName y.cls = true) (ho : y.cls = own) (hw : ws = Cond.code y cc maxL none :: ws') (hc : ∀ v ∈ as, v.category = 1) (hlen : as.length ≤ maxL) (hL : L = as.map some ++ List.replicate (maxL - as.length) none) (hap : xAp Y G)
    (body : ∀ F, xC F cc maxL own ws { frames := fr, cells := 0, slots := 0, locals := lo } → xV F Y G → (∀ pc L, decode cc pc = .ok (.return_, 1) → xg F 0 0 pc L [] (xP Y G S')) → xg F 0 0 0 L [] (xP Y G S)) : xMv l Y G y ws fr lo as S S' := by
  refine Met.ofW (cc := cc) (maxL := maxL) (ret := none) hy hw ?_
  intro p e s m args below meth c s₁ B hml hv
  obtain ⟨rfl, hP, hK⟩ := hv
  have hts := atoms_spec (ws := ws) B.pre
  have hown : s.vm.findClass own = some m.cls := ho ▸ findClass_of_methodNamed B.named
  have hlocks := B.notSynchronized
  have hb := B.bytes
  have hx := B.exec
  have hr := B.returns
  have hl := xL_entry hc hlen hL
  rw [lg_entry_eq]
  refine body (p, l, e, _, s, m, as.toArray, below, meth, c, xA Y G, s.heap, _) ⟨hx, hb, hml, hown, hts, rfl⟩ ⟨hap, fun a h => h, hK⟩ ?_ s.heap [] _ hP va_S.rf (hml.symm ▸ hl)
  intro pc L d H locs ls hI hS hL
  exact W.vret hx hb hr (fun t ht hW => ⟨⟨(), rfl, trivial, by show xP Y G S' t.heap; rw [ht]; exact hI⟩, hS.F ht⟩) hS.2.2 d hlocks
/-! calls of such methods -/
section XCALLS
variable {F : xF} {cc : ByteArray} {nL : Nat} {own : String} {Ws : List Cond} {rm : Room} {k w pc : Nat} {L : List (Option Value)} {st st0 : List Value} {Y : xY} {G : xG} {S S' : xS}
theorem xpre_blind {as : List Value} : FrameBlind (va_Pc as (xPre Y G S)) := fun a U g mk q => ⟨q.1, q.2.1, va_K.moved (u := U) (U := U.calling g mk a) (Vm.Alike.refl U.vm) q.2.2⟩
theorem xg_callVi (C : xC F cc nL own Ws rm) (V : xV F Y G) {y : MethodName} {ws ws' : List Cond} {bytes : ByteArray} {maxL idx n f ci N fr lo : Nat} {ret : Option FieldType} {Cn : String} {T : u_T} {fs : List (Option Nat)} {as As : List Value} {r : Int32} (hM : ∀ l, xMi l Y G y ws fr lo as S S' r) (g : GoodIn Ws (wsV own idx Cn y ws)) (hw : ws = Cond.code y bytes maxL ret :: ws')
    (hd : y.cls = Cn ∧ y.cls ≠ "java/lang/invoke/MethodHandle" ∧ y.cls ≠ "java/lang/invoke/VarHandle" ∧ (parseMethodDescriptor y.desc).map (fun d => d.parameters.length) = some n) (hR : fr + 1 ≤ rm.frames ∧ 8 + (maxL + 11) + lo ≤ rm.locals) (hY : Y[f]? = some (1, .inl (ci, fs))) (hci : vwCl[ci]? = some (Cn, T, N)) (has : as = .ref (G.2.2 f 0) :: As) (hn : As.length = n) (hst : st0 = As.reverse ++ .ref (G.2.2 f 0) :: st) (hcat : (st.map fun v => v.category).sum ≤ 8) (hkw : k ≤ rm.cells ∧ w ≤ rm.slots) (d : decode cc pc = .ok (.invokevirtual idx, 3))
    (K : xg F k w (pc + 3) L (.int r :: st) (xP Y G S')) : xg F k w pc L st0 (xP Y G S) := by
  obtain ⟨p, l, e, R, s, m, args, below, meth, c, A, H0, Q⟩ := F
  obtain ⟨hx, hb, hml, hown, hts, rfl⟩ := C
  obtain ⟨hap, hA, hK⟩ := V
  intro H locs ls hI hS hL
  subst has
  obtain ⟨rr, h1, cell, q1, q2, q3, q4⟩ := xP_at hI hY (xR_0 (by decide))
  have hr : rr = (Cn, T, N) := Option.some.inj (h1.symm.trans hci)
  subst hr
  have hfc := (hK.1 ci _ hci).2.1
  refine va_calli (va_runV (As := As) (rest := st) (b := G.2.2 f 0) ⟨hx, hb, hml, hown, hts⟩ (hM l) (cwV n hts g hw rfl rfl hd hR) ⟨xpre_blind, ⟨cell, q1, by rw [q3]; rfl, by rw [q2]; exact hfc⟩, fun U hU hW => ⟨rfl, by rw [hU]; exact hI, va_K.moved hW.alike hK⟩⟩ rfl hn (hL.1.trans hml) hst (lv_room hcat) d hkw) hS (fun q _ h => hA q h) hA (fun r2 u t H1 locs1 ht hvm hr2 hB hz1 hk1 hS1 => ?_)
  subst hr2
  rw [ht] at hB
  exact K H1 locs1 ls hB hS1 hL
theorem xg_callVv (C : xC F cc nL own Ws rm) (V : xV F Y G) {y : MethodName} {ws ws' : List Cond} {bytes : ByteArray} {maxL idx n f ci N fr lo : Nat} {ret : Option FieldType} {Cn : String} {T : u_T} {fs : List (Option Nat)} {as As : List Value} (hM : ∀ l, xMv l Y G y ws fr lo as S S') (g : GoodIn Ws (wsV own idx Cn y ws)) (hw : ws = Cond.code y bytes maxL ret :: ws')
    (hd : y.cls = Cn ∧ y.cls ≠ "java/lang/invoke/MethodHandle" ∧ y.cls ≠ "java/lang/invoke/VarHandle" ∧ (parseMethodDescriptor y.desc).map (fun d => d.parameters.length) = some n) (hR : fr + 1 ≤ rm.frames ∧ 8 + (maxL + 11) + lo ≤ rm.locals) (hY : Y[f]? = some (1, .inl (ci, fs))) (hci : vwCl[ci]? = some (Cn, T, N)) (has : as = .ref (G.2.2 f 0) :: As) (hn : As.length = n) (hst : st0 = As.reverse ++ .ref (G.2.2 f 0) :: st) (hcat : (st.map fun v => v.category).sum ≤ 8) (hkw : k ≤ rm.cells ∧ w ≤ rm.slots) (d : decode cc pc = .ok (.invokevirtual idx, 3))
    (K : xg F k w (pc + 3) L st (xP Y G S')) : xg F k w pc L st0 (xP Y G S) := by
  obtain ⟨p, l, e, R, s, m, args, below, meth, c, A, H0, Q⟩ := F
  obtain ⟨hx, hb, hml, hown, hts, rfl⟩ := C
  obtain ⟨hap, hA, hK⟩ := V
  intro H locs ls hI hS hL
  subst has
  obtain ⟨rr, h1, cell, q1, q2, q3, q4⟩ := xP_at hI hY (xR_0 (by decide))
  have hr : rr = (Cn, T, N) := Option.some.inj (h1.symm.trans hci)
  subst hr
  have hfc := (hK.1 ci _ hci).2.1
  refine va_callv (va_runV (As := As) (rest := st) (b := G.2.2 f 0) ⟨hx, hb, hml, hown, hts⟩ (hM l) (cwV n hts g hw rfl rfl hd hR) ⟨xpre_blind, ⟨cell, q1, by rw [q3]; rfl, by rw [q2]; exact hfc⟩, fun U hU hW => ⟨rfl, by rw [hU]; exact hI, va_K.moved hW.alike hK⟩⟩ rfl hn (hL.1.trans hml) hst (lv_room hcat) d hkw) hS (fun q _ h => hA q h) hA (fun u t H1 locs1 ht hvm hr2 hB hz1 hk1 hS1 => ?_)
  rw [ht] at hB
  exact K H1 locs1 ls hB hS1 hL
theorem xg_callSi (C : xC F cc nL own Ws rm) (V : xV F Y G) {y : MethodName} {ws ws' : List Cond} {bytes : ByteArray} {maxL idx n fr lo : Nat} {ret : Option FieldType} {as : List Value} {r : Int32} (hM : ∀ l, xMi l Y G y ws fr lo as S S' r) (g : GoodIn Ws (va_wsS own idx y ws)) (hw : ws = Cond.code y bytes maxL ret :: ws')
    (hd : y.cls ≠ "java/lang/invoke/MethodHandle" ∧ y.cls ≠ "java/lang/invoke/VarHandle" ∧ (parseMethodDescriptor y.desc).map (fun d => d.parameters.length) = some n) (hR : fr + 1 ≤ rm.frames ∧ 8 + (maxL + 11) + lo ≤ rm.locals) (hn : as.length = n) (hst : st0 = as.reverse ++ st) (hcat : (st.map fun v => v.category).sum ≤ 8) (hkw : k ≤ rm.cells ∧ w ≤ rm.slots) (d : decode cc pc = .ok (.invokestatic idx, 3))
    (K : xg F k w (pc + 3) L (.int r :: st) (xP Y G S')) : xg F k w pc L st0 (xP Y G S) := by
  obtain ⟨p, l, e, R, s, m, args, below, meth, c, A, H0, Q⟩ := F
  obtain ⟨hx, hb, hml, hown, hts, rfl⟩ := C
  obtain ⟨hap, hA, hK⟩ := V
  intro H locs ls hI hS hL
  refine va_calli (va_runS (As := as) (rest := st) ⟨hx, hb, hml, hown, hts⟩ (hM l) (va_cwS n hts g hw rfl rfl hd hR) ⟨xpre_blind, fun U hU hW => ⟨rfl, by rw [hU]; exact hI, va_K.moved hW.alike hK⟩⟩ rfl hn (hL.1.trans hml) hst (lv_room hcat) d hkw) hS (fun q _ h => hA q h) hA (fun r2 u t H1 locs1 ht hvm hr2 hB hz1 hk1 hS1 => ?_)
  subst hr2
  rw [ht] at hB
  exact K H1 locs1 ls hB hS1 hL
theorem xg_callSv (C : xC F cc nL own Ws rm) (V : xV F Y G) {y : MethodName} {ws ws' : List Cond} {bytes : ByteArray} {maxL idx n fr lo : Nat} {ret : Option FieldType} {as : List Value} (hM : ∀ l, xMv l Y G y ws fr lo as S S') (g : GoodIn Ws (va_wsS own idx y ws)) (hw : ws = Cond.code y bytes maxL ret :: ws')
    (hd : y.cls ≠ "java/lang/invoke/MethodHandle" ∧ y.cls ≠ "java/lang/invoke/VarHandle" ∧ (parseMethodDescriptor y.desc).map (fun d => d.parameters.length) = some n) (hR : fr + 1 ≤ rm.frames ∧ 8 + (maxL + 11) + lo ≤ rm.locals) (hn : as.length = n) (hst : st0 = as.reverse ++ st) (hcat : (st.map fun v => v.category).sum ≤ 8) (hkw : k ≤ rm.cells ∧ w ≤ rm.slots) (d : decode cc pc = .ok (.invokestatic idx, 3))
    (K : xg F k w (pc + 3) L st (xP Y G S')) : xg F k w pc L st0 (xP Y G S) := by
  obtain ⟨p, l, e, R, s, m, args, below, meth, c, A, H0, Q⟩ := F
  obtain ⟨hx, hb, hml, hown, hts, rfl⟩ := C
  obtain ⟨hap, hA, hK⟩ := V
  intro H locs ls hI hS hL
  refine va_callv (va_runS (As := as) (rest := st) ⟨hx, hb, hml, hown, hts⟩ (hM l) (va_cwS n hts g hw rfl rfl hd hR) ⟨xpre_blind, fun U hU hW => ⟨rfl, by rw [hU]; exact hI, va_K.moved hW.alike hK⟩⟩ rfl hn (hL.1.trans hml) hst (lv_room hcat) d hkw) hS (fun q _ h => hA q h) hA (fun u t H1 locs1 ht hvm hr2 hB hz1 hk1 hS1 => ?_)
  rw [ht] at hB
  exact K H1 locs1 ls hB hS1 hL
theorem xg_mmin {I : Heap → Prop} (C : xC F cc nL own Ws rm) {idx : Nat} {x y : Int32} (h1 : Cond.methodLink own idx Lib.Math.min.name ∈ Ws) (h2 : Cond.static Lib.Math.min.name ∈ Ws) (h3 : Cond.initialized "java/lang/Math" ∈ Ws) (h4 : Cond.code Lib.Math.min.name Lib.Math.min.code 2 (some .int) ∈ Ws) (hf : 1 ≤ rm.frames) (hlo : (st.map fun v => v.category).sum + 13 ≤ rm.locals) (hkw : k ≤ rm.cells ∧ w ≤ rm.slots) (d : decode cc pc = .ok (.invokestatic idx, 3))
    (K : xg F k w (pc + 3) L (.int (if y < x then y else x) :: st) I) : xg F k w pc L (.int y :: .int x :: st) I := by
  obtain ⟨p, l, e, R, s, m, args, below, meth, c, A, H0, Q⟩ := F
  obtain ⟨hx, hb, hml, hown, hts, rfl⟩ := C
  intro H locs ls hI hS hL
  exact va_mmin hx hb hL.1.symm hown (hts _ h1) (hts _ h2) (hts _ h3) (hts _ h4) hf hlo hkw.1 hkw.2 d (K H locs ls hI hS hL)
theorem xg_mmax {I : Heap → Prop} (C : xC F cc nL own Ws rm) {idx : Nat} {x y : Int32} (h1 : Cond.methodLink own idx Lib.Math.max.name ∈ Ws) (h2 : Cond.static Lib.Math.max.name ∈ Ws) (h3 : Cond.initialized "java/lang/Math" ∈ Ws) (h4 : Cond.code Lib.Math.max.name Lib.Math.max.code 2 (some .int) ∈ Ws) (hf : 1 ≤ rm.frames) (hlo : (st.map fun v => v.category).sum + 13 ≤ rm.locals) (hkw : k ≤ rm.cells ∧ w ≤ rm.slots) (d : decode cc pc = .ok (.invokestatic idx, 3))
    (K : xg F k w (pc + 3) L (.int (if x < y then y else x) :: st) I) : xg F k w pc L (.int y :: .int x :: st) I := by
  obtain ⟨p, l, e, R, s, m, args, below, meth, c, A, H0, Q⟩ := F
  obtain ⟨hx, hb, hml, hown, hts, rfl⟩ := C
  intro H locs ls hI hS hL
  exact va_mmax hx hb hL.1.symm hown (hts _ h1) (hts _ h2) (hts _ h3) (hts _ h4) hf hlo hkw.1 hkw.2 d (K H locs ls hI hS hL)
theorem xg_alen (C : xC F cc nL own Ws rm) (V : xV F Y G) {f n N : Nat} {r : Int32} {v : Int32} (hY : Y[f]? = some (n, .inr (.inl (false, N)))) (hr : xR n r) (hv : Int32.ofNat N = v) (d : decode cc pc = .ok (.arraylength, 1)) (K : xg F k w (pc + 1) L (.int v :: st) (xP Y G S)) : xg F k w pc L (.ref (G.2.2 f r) :: st) (xP Y G S) := by
  obtain ⟨p, l, e, R, s, m, args, below, meth, c, A, H0, Q⟩ := F
  obtain ⟨hx, hb, -⟩ := C
  obtain ⟨-, -, hK⟩ := V
  intro H locs ls hI hS hL
  have h0 : H[G.2.2 f r]? = some (arrV G.2.1.1 N (fun j => .int (S f r (nI j)))) := xP_at hI hY hr
  exact W.alen (n := v) hx hb h0 ((hK.2 0 _ rfl).1 _ _) (by rw [arrV_size, ← hv]) rfl rfl d (K H locs ls hI hS hL)
theorem xret_i {r v : Int32} {S1 : xS} (E : ∀ pc L, decode cc pc = .ok (.ireturn, 1) → xg F 0 0 pc L [.int r] (xP Y G S')) (d : decode cc pc = .ok (.ireturn, 1)) (h1 : r = v) (h2 : S' = S1) : xg F 0 0 pc L [.int v] (xP Y G S1) := by
  subst h1; subst h2; exact E pc L d
theorem xret_v {S1 : xS} (E : ∀ pc L, decode cc pc = .ok (.return_, 1) → xg F 0 0 pc L [] (xP Y G S')) (d : decode cc pc = .ok (.return_, 1)) (h2 : S' = S1) : xg F 0 0 pc L [] (xP Y G S1) := by
  subst h2; exact E pc L d
end XCALLS
/-- L' knows no more than L -/
def xLe : List (Option Value) → List (Option Value) → Prop
  | [], _ => True
  | none :: a, _ :: b => xLe a b
  | some v :: a, o :: b => o = some v ∧ xLe a b
  | _ :: _, [] => False
theorem xLe_w : ∀ (a b : List (Option Value)), xLe a b → ∀ (j : Nat) (v : Value), a[j]? = some (some v) → b[j]? = some (some v)
  | [], _, _, j, v, h => by simp at h
  | none :: a, [], hl, j, v, h => by simp [xLe] at hl
  | some v' :: a, [], hl, j, v, h => by simp [xLe] at hl
  | none :: a, x :: b, hl, 0, v, h => by simp at h
  | none :: a, x :: b, hl, j + 1, v, h => by
    simp only [xLe] at hl
    simp only [List.getElem?_cons_succ] at h ⊢
    exact xLe_w a b hl j v h
  | some v' :: a, x :: b, hl, 0, v, h => by
    simp only [xLe] at hl
    simp at h
    subst h
    simp [hl.1]
  | some v' :: a, x :: b, hl, j + 1, v, h => by
    simp only [xLe] at hl
    simp only [List.getElem?_cons_succ] at h ⊢
    exact xLe_w a b hl.2 j v h
theorem xg_le {F : xF} {k w pc : Nat} {L L' : List (Option Value)} {st : List Value} {I : Heap → Prop} (h : xg F k w pc L' st I) (hl : xLe L' L) : xg F k w pc L st I := xg_weak h (xLe_w _ _ hl)
theorem xg_le2 {F : xF} {k w pc : Nat} {L L' : List (Option Value)} {st : List Value} {I : Heap → Prop} (hl : xLe L' L) (h : xg F k w pc L' st I) : xg F k w pc L st I := xg_le h hl
theorem xu_same {S : xS} {f : Nat} {r i v : Int32} : xu S f r i v f r i = v := by rw [xu_self, if_pos ⟨rfl, rfl⟩]
theorem xu_ni {S : xS} {f : Nat} {r i v r' i' : Int32} (h : i' ≠ i) : xu S f r i v f r' i' = S f r' i' := by rw [xu_self, if_neg (fun z => h z.2)]
theorem xinc (i : Nat) : nI i + Int32.ofInt 1 = nI (i + 1) := nI_1 i
theorem xdec (i : Nat) : nI i + Int32.ofInt (-1) = nI i - 1 := by
  rw [show Int32.ofInt (-1) = -1 from by decide, Int32.sub_eq_add_neg]
theorem xcat1 {as : List Value} (h : as.all (fun v => v.category == 1) = true) : ∀ v ∈ as, v.category = 1 := fun v hv => by
  have := List.all_eq_true.mp h v hv
  simpa using this
/-! loops -/
def xfold {σ : Type} (b : Int32 → σ → σ) : Nat → σ → σ
  | 0, x => x
  | n + 1, x => b (nI n) (xfold b n x)
def xfoldD {σ : Type} (b : Int32 → σ → σ) : Nat → σ → σ
  | 0, x => x
  | n + 1, x => xfoldD b n (b (nI n) x)
theorem xloopI {σ : Type} (P : Int32 → σ → Prop) (b : Int32 → σ → σ) (N : Nat) (x0 : σ) (J : Nat → σ → Prop) (h0 : J 0 x0) (hJ : ∀ i, i < N → ∀ x, J i x → J (i + 1) (b (nI i) x)) (step : ∀ i, i < N → ∀ x, J i x → P (nI (i + 1)) (b (nI i) x) → P (nI i) x) (fin : J N (xfold b N x0) → P (nI N) (xfold b N x0)) : P 0 x0 := by
  have hj : ∀ n, n ≤ N → J n (xfold b n x0) := by
    intro n
    induction n with
    | zero => exact fun _ => h0
    | succ n ih => exact fun hn => hJ n (by omega) _ (ih (by omega))
  have key : ∀ d n, n + d = N → P (nI n) (xfold b n x0) := by
    intro d
    induction d with
    | zero =>
      intro n hn
      rw [Nat.add_zero] at hn
      subst hn
      exact fin (hj _ (Nat.le_refl _))
    | succ d ih => exact fun n hn => step n (by omega) _ (hj n (by omega)) (ih (n + 1) (by omega))
  have h := key N 0 (by omega)
  rw [nI_0] at h
  exact h
theorem xloop {σ : Type} (P : Int32 → σ → Prop) (b : Int32 → σ → σ) (N : Nat) (x0 : σ) (step : ∀ i, i < N → ∀ x, P (nI (i + 1)) (b (nI i) x) → P (nI i) x) (fin : P (nI N) (xfold b N x0)) : P 0 x0 :=
  xloopI P b N x0 (fun _ _ => True) trivial (fun _ _ _ _ => trivial) (fun i hi x _ h => step i hi x h) (fun _ => fin)
theorem xloopD {σ : Type} (P : Int32 → σ → Prop) (b : Int32 → σ → σ) (N : Nat) (x0 : σ) (step : ∀ i, i < N → ∀ x, P (nI i - 1) (b (nI i) x) → P (nI i) x) (fin : P (-1) (xfoldD b N x0)) : P (nI N - 1) x0 := by
  have key : ∀ n, n ≤ N → ∀ x, P (-1) (xfoldD b n x) → P (nI n - 1) x := by
    intro n
    induction n with
    | zero =>
      intro _ x h
      rw [nI_0]
      exact h
    | succ n ih =>
      intro hn x h
      rw [nI_pred]
      exact step n (by omega) x (ih (by omega) _ h)
  exact key N (Nat.le_refl _) x0 fin
theorem xloopD0 {σ : Type} (P : Int32 → σ → Prop) (b : Int32 → σ → σ) (N : Nat) (x0 : σ) (c0 : Int32) (hc : nI N - 1 = c0) (step : ∀ i, i < N → ∀ x, P (nI i - 1) (b (nI i) x) → P (nI i) x) (fin : P (-1) (xfoldD b N x0)) : P c0 x0 := hc ▸ xloopD P b N x0 step fin
/-- a loop that may return out of its body -/
def xrun {σ ρ : Type} (b : Int32 → σ → σ ⊕ ρ) (d : σ → ρ) : Nat → Nat → σ → ρ
  | 0, _, x => d x
  | n + 1, i, x => match b (nI i) x with
    | .inl y => xrun b d n (i + 1) y
    | .inr r => r
theorem xloopR {σ ρ : Type} (P : Int32 → σ → Prop) (T : ρ → Prop) (b : Int32 → σ → σ ⊕ ρ) (d : σ → ρ) (N : Nat) (x0 : σ) (h0 : T (xrun b d N 0 x0)) (step : ∀ i, i < N → ∀ x, (∀ y, b (nI i) x = .inl y → P (nI (i + 1)) y) → (∀ r, b (nI i) x = .inr r → T r) → P (nI i) x) (fin : ∀ x, T (d x) → P (nI N) x) : P 0 x0 := by
  have key : ∀ n i, i + n = N → ∀ x, T (xrun b d n i x) → P (nI i) x := by
    intro n
    induction n with
    | zero =>
      intro i hi x h
      rw [Nat.add_zero] at hi
      subst hi
      exact fin x h
    | succ n ih =>
      intro i hi x h
      refine step i (by omega) x (fun y hy => ih (i + 1) (by omega) y ?_) (fun r hr => ?_)
      · have h2 := h
        unfold xrun at h2
        rw [hy] at h2
        exact h2
      · have h2 := h
        unfold xrun at h2
        rw [hr] at h2
        exact h2
  have := key N 0 (by omega) x0 h0
  rw [nI_0] at this
  exact this
