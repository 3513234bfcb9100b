section
-- ===== PART A: goes FIRST, ahead of the names: the tables' words, and 'selects' of the private methods out of them =====
/-- a private method of a class that the tables say can be made, by its rows of tables_1 -/
def lw_okq (q : MethodName × Nat) : Prop := (q.1.cls ≠ "java/lang/invoke/MethodHandle" ∧ q.1.cls ≠ "java/lang/invoke/VarHandle") ∧ Cond.instantiable q.1.cls q.2 ∈ tables_1 ∧ Cond.privateMethod q.1 ∈ tables_1 ∧ Cond.instanceMethod q.1 ∈ tables_1
theorem lw_p0 : lw_okq (⟨"GossipGates$Net", "countHolders", "(II)I"⟩, 12) := ⟨⟨by decide +kernel, by decide +kernel⟩, List.mem_of_getElem? (i := 105) (by decide +kernel), List.mem_of_getElem? (i := 183) (by decide +kernel), List.mem_of_getElem? (i := 184) (by decide +kernel)⟩
theorem lw_p1 : lw_okq (⟨"java/lang/Throwable", "fillInStackTrace", "(I)Ljava/lang/Throwable;"⟩, 6) := ⟨⟨by decide +kernel, by decide +kernel⟩, List.mem_of_getElem? (i := 254) (by decide +kernel), List.mem_of_getElem? (i := 252) (by decide +kernel), List.mem_of_getElem? (i := 253) (by decide +kernel)⟩
theorem lw_p2 : lw_okq (⟨"GossipGates$Net", "isCallable", "(IIZ)Z"⟩, 12) := ⟨⟨by decide +kernel, by decide +kernel⟩, List.mem_of_getElem? (i := 105) (by decide +kernel), List.mem_of_getElem? (i := 481) (by decide +kernel), List.mem_of_getElem? (i := 482) (by decide +kernel)⟩
theorem lw_p3 : lw_okq (⟨"GossipGates", "passOneTick", "()I"⟩, 4) := ⟨⟨by decide +kernel, by decide +kernel⟩, List.mem_of_getElem? (i := 14) (by decide +kernel), List.mem_of_getElem? (i := 516) (by decide +kernel), List.mem_of_getElem? (i := 517) (by decide +kernel)⟩
theorem lw_p4 : lw_okq (⟨"GossipGates$River", "receive", "(II)V"⟩, 8) := ⟨⟨by decide +kernel, by decide +kernel⟩, List.mem_of_getElem? (i := 22) (by decide +kernel), List.mem_of_getElem? (i := 524) (by decide +kernel), List.mem_of_getElem? (i := 525) (by decide +kernel)⟩
theorem lw_p5 : lw_okq (⟨"GossipGates$River", "moveOn", "(II)V"⟩, 8) := ⟨⟨by decide +kernel, by decide +kernel⟩, List.mem_of_getElem? (i := 22) (by decide +kernel), List.mem_of_getElem? (i := 539) (by decide +kernel), List.mem_of_getElem? (i := 540) (by decide +kernel)⟩
theorem lw_p6 : lw_okq (⟨"GossipGates$Net", "measure", "(III)V"⟩, 12) := ⟨⟨by decide +kernel, by decide +kernel⟩, List.mem_of_getElem? (i := 105) (by decide +kernel), List.mem_of_getElem? (i := 555) (by decide +kernel), List.mem_of_getElem? (i := 556) (by decide +kernel)⟩
theorem lw_p7 : lw_okq (⟨"GossipGates$Net", "call", "(II)V"⟩, 12) := ⟨⟨by decide +kernel, by decide +kernel⟩, List.mem_of_getElem? (i := 105) (by decide +kernel), List.mem_of_getElem? (i := 563) (by decide +kernel), List.mem_of_getElem? (i := 564) (by decide +kernel)⟩
theorem lw_p8 : lw_okq (⟨"GossipGates$Net", "tellOneAnother", "(III)V"⟩, 12) := ⟨⟨by decide +kernel, by decide +kernel⟩, List.mem_of_getElem? (i := 105) (by decide +kernel), List.mem_of_getElem? (i := 568) (by decide +kernel), List.mem_of_getElem? (i := 569) (by decide +kernel)⟩
theorem lw_p9 : lw_okq (⟨"GossipGates$Net", "takeNews", "(III)V"⟩, 12) := ⟨⟨by decide +kernel, by decide +kernel⟩, List.mem_of_getElem? (i := 105) (by decide +kernel), List.mem_of_getElem? (i := 572) (by decide +kernel), List.mem_of_getElem? (i := 573) (by decide +kernel)⟩
theorem lw_p10 : lw_okq (⟨"GossipGates$Net", "takeBeat", "(IIII)V"⟩, 12) := ⟨⟨by decide +kernel, by decide +kernel⟩, List.mem_of_getElem? (i := 105) (by decide +kernel), List.mem_of_getElem? (i := 576) (by decide +kernel), List.mem_of_getElem? (i := 577) (by decide +kernel)⟩
theorem lw_p11 : lw_okq (⟨"GossipGates$Net", "lookAtOthers", "(II)V"⟩, 12) := ⟨⟨by decide +kernel, by decide +kernel⟩, List.mem_of_getElem? (i := 105) (by decide +kernel), List.mem_of_getElem? (i := 584) (by decide +kernel), List.mem_of_getElem? (i := 585) (by decide +kernel)⟩
theorem lw_p12 : lw_okq (⟨"GossipGates$Net", "statusAfter", "(I)I"⟩, 12) := ⟨⟨by decide +kernel, by decide +kernel⟩, List.mem_of_getElem? (i := 105) (by decide +kernel), List.mem_of_getElem? (i := 588) (by decide +kernel), List.mem_of_getElem? (i := 589) (by decide +kernel)⟩
theorem lw_p13 : lw_okq (⟨"GossipGates", "ruleGates", "()V"⟩, 4) := ⟨⟨by decide +kernel, by decide +kernel⟩, List.mem_of_getElem? (i := 14) (by decide +kernel), List.mem_of_getElem? (i := 592) (by decide +kernel), List.mem_of_getElem? (i := 593) (by decide +kernel)⟩
theorem lw_p14 : lw_okq (⟨"GossipGates", "ruleGate", "(I)V"⟩, 4) := ⟨⟨by decide +kernel, by decide +kernel⟩, List.mem_of_getElem? (i := 14) (by decide +kernel), List.mem_of_getElem? (i := 596) (by decide +kernel), List.mem_of_getElem? (i := 597) (by decide +kernel)⟩
theorem lw_p15 : lw_okq (⟨"GossipGatesModel", "goes", "(I)Z"⟩, 30) := ⟨⟨by decide +kernel, by decide +kernel⟩, List.mem_of_getElem? (i := 614) (by decide +kernel), List.mem_of_getElem? (i := 725) (by decide +kernel), List.mem_of_getElem? (i := 726) (by decide +kernel)⟩
def lw_privs_1 : List (MethodName × Nat) := [(⟨"GossipGates$Net", "countHolders", "(II)I"⟩, 12), (⟨"java/lang/Throwable", "fillInStackTrace", "(I)Ljava/lang/Throwable;"⟩, 6), (⟨"GossipGates$Net", "isCallable", "(IIZ)Z"⟩, 12), (⟨"GossipGates", "passOneTick", "()I"⟩, 4), (⟨"GossipGates$River", "receive", "(II)V"⟩, 8), (⟨"GossipGates$River", "moveOn", "(II)V"⟩, 8), (⟨"GossipGates$Net", "measure", "(III)V"⟩, 12), (⟨"GossipGates$Net", "call", "(II)V"⟩, 12), (⟨"GossipGates$Net", "tellOneAnother", "(III)V"⟩, 12), (⟨"GossipGates$Net", "takeNews", "(III)V"⟩, 12), (⟨"GossipGates$Net", "takeBeat", "(IIII)V"⟩, 12), (⟨"GossipGates$Net", "lookAtOthers", "(II)V"⟩, 12), (⟨"GossipGates$Net", "statusAfter", "(I)I"⟩, 12), (⟨"GossipGates", "ruleGates", "()V"⟩, 4), (⟨"GossipGates", "ruleGate", "(I)V"⟩, 4), (⟨"GossipGatesModel", "goes", "(I)Z"⟩, 30)]
theorem lw_r1 : ∀ q ∈ lw_privs_1, lw_okq q := List.forall_mem_cons.mpr ⟨lw_p0, List.forall_mem_cons.mpr ⟨lw_p1, List.forall_mem_cons.mpr ⟨lw_p2, List.forall_mem_cons.mpr ⟨lw_p3, List.forall_mem_cons.mpr ⟨lw_p4, List.forall_mem_cons.mpr ⟨lw_p5, List.forall_mem_cons.mpr ⟨lw_p6, List.forall_mem_cons.mpr ⟨lw_p7, List.forall_mem_cons.mpr ⟨lw_p8, List.forall_mem_cons.mpr ⟨lw_p9, List.forall_mem_cons.mpr ⟨lw_p10, List.forall_mem_cons.mpr ⟨lw_p11, List.forall_mem_cons.mpr ⟨lw_p12, List.forall_mem_cons.mpr ⟨lw_p13, List.forall_mem_cons.mpr ⟨lw_p14, List.forall_mem_cons.mpr ⟨lw_p15, fun _ h => absurd h List.not_mem_nil⟩⟩⟩⟩⟩⟩⟩⟩⟩⟩⟩⟩⟩⟩⟩⟩
theorem lw_p16 : lw_okq (⟨"GossipGatesModel", "asks", "(I)Z"⟩, 30) := ⟨⟨by decide +kernel, by decide +kernel⟩, List.mem_of_getElem? (i := 614) (by decide +kernel), List.mem_of_getElem? (i := 745) (by decide +kernel), List.mem_of_getElem? (i := 746) (by decide +kernel)⟩
theorem lw_p17 : lw_okq (⟨"GossipGatesModel", "levelOf", "(I)I"⟩, 30) := ⟨⟨by decide +kernel, by decide +kernel⟩, List.mem_of_getElem? (i := 614) (by decide +kernel), List.mem_of_getElem? (i := 757) (by decide +kernel), List.mem_of_getElem? (i := 758) (by decide +kernel)⟩
theorem lw_p18 : lw_okq (⟨"GossipGatesModel", "ask", "(II)Z"⟩, 30) := ⟨⟨by decide +kernel, by decide +kernel⟩, List.mem_of_getElem? (i := 614) (by decide +kernel), List.mem_of_getElem? (i := 812) (by decide +kernel), List.mem_of_getElem? (i := 813) (by decide +kernel)⟩
theorem lw_p19 : lw_okq (⟨"GossipGatesModel", "hasNews", "(II)Z"⟩, 30) := ⟨⟨by decide +kernel, by decide +kernel⟩, List.mem_of_getElem? (i := 614) (by decide +kernel), List.mem_of_getElem? (i := 816) (by decide +kernel), List.mem_of_getElem? (i := 817) (by decide +kernel)⟩
theorem lw_p20 : lw_okq (⟨"GossipGatesModel", "ageOf", "(II)I"⟩, 30) := ⟨⟨by decide +kernel, by decide +kernel⟩, List.mem_of_getElem? (i := 614) (by decide +kernel), List.mem_of_getElem? (i := 828) (by decide +kernel), List.mem_of_getElem? (i := 829) (by decide +kernel)⟩
theorem lw_p21 : lw_okq (⟨"GossipGatesModel", "called", "(II)I"⟩, 30) := ⟨⟨by decide +kernel, by decide +kernel⟩, List.mem_of_getElem? (i := 614) (by decide +kernel), List.mem_of_getElem? (i := 844) (by decide +kernel), List.mem_of_getElem? (i := 845) (by decide +kernel)⟩
theorem lw_p22 : lw_okq (⟨"GossipGatesModel", "isCallable", "(III)Z"⟩, 30) := ⟨⟨by decide +kernel, by decide +kernel⟩, List.mem_of_getElem? (i := 614) (by decide +kernel), List.mem_of_getElem? (i := 848) (by decide +kernel), List.mem_of_getElem? (i := 849) (by decide +kernel)⟩
theorem lw_p23 : lw_okq (⟨"GossipGatesModel", "ticks", "()I"⟩, 30) := ⟨⟨by decide +kernel, by decide +kernel⟩, List.mem_of_getElem? (i := 614) (by decide +kernel), List.mem_of_getElem? (i := 876) (by decide +kernel), List.mem_of_getElem? (i := 877) (by decide +kernel)⟩
theorem lw_p24 : lw_okq (⟨"GossipGatesModel", "falls", "()V"⟩, 30) := ⟨⟨by decide +kernel, by decide +kernel⟩, List.mem_of_getElem? (i := 614) (by decide +kernel), List.mem_of_getElem? (i := 880) (by decide +kernel), List.mem_of_getElem? (i := 881) (by decide +kernel)⟩
theorem lw_p25 : lw_okq (⟨"GossipGatesModel", "flowsOn", "()V"⟩, 30) := ⟨⟨by decide +kernel, by decide +kernel⟩, List.mem_of_getElem? (i := 614) (by decide +kernel), List.mem_of_getElem? (i := 884) (by decide +kernel), List.mem_of_getElem? (i := 885) (by decide +kernel)⟩
theorem lw_p26 : lw_okq (⟨"GossipGatesModel", "spills", "()I"⟩, 30) := ⟨⟨by decide +kernel, by decide +kernel⟩, List.mem_of_getElem? (i := 614) (by decide +kernel), List.mem_of_getElem? (i := 888) (by decide +kernel), List.mem_of_getElem? (i := 889) (by decide +kernel)⟩
theorem lw_p27 : lw_okq (⟨"GossipGatesModel", "measures", "()V"⟩, 30) := ⟨⟨by decide +kernel, by decide +kernel⟩, List.mem_of_getElem? (i := 614) (by decide +kernel), List.mem_of_getElem? (i := 892) (by decide +kernel), List.mem_of_getElem? (i := 893) (by decide +kernel)⟩
theorem lw_p28 : lw_okq (⟨"GossipGatesModel", "calls", "()V"⟩, 30) := ⟨⟨by decide +kernel, by decide +kernel⟩, List.mem_of_getElem? (i := 614) (by decide +kernel), List.mem_of_getElem? (i := 896) (by decide +kernel), List.mem_of_getElem? (i := 897) (by decide +kernel)⟩
theorem lw_p29 : lw_okq (⟨"GossipGatesModel", "takes", "(II)V"⟩, 30) := ⟨⟨by decide +kernel, by decide +kernel⟩, List.mem_of_getElem? (i := 614) (by decide +kernel), List.mem_of_getElem? (i := 900) (by decide +kernel), List.mem_of_getElem? (i := 901) (by decide +kernel)⟩
theorem lw_p30 : lw_okq (⟨"GossipGatesModel", "looks", "()V"⟩, 30) := ⟨⟨by decide +kernel, by decide +kernel⟩, List.mem_of_getElem? (i := 614) (by decide +kernel), List.mem_of_getElem? (i := 904) (by decide +kernel), List.mem_of_getElem? (i := 905) (by decide +kernel)⟩
theorem lw_p31 : lw_okq (⟨"GossipGatesModel", "rules", "(I)V"⟩, 30) := ⟨⟨by decide +kernel, by decide +kernel⟩, List.mem_of_getElem? (i := 614) (by decide +kernel), List.mem_of_getElem? (i := 908) (by decide +kernel), List.mem_of_getElem? (i := 909) (by decide +kernel)⟩
def lw_privs_2 : List (MethodName × Nat) := [(⟨"GossipGatesModel", "asks", "(I)Z"⟩, 30), (⟨"GossipGatesModel", "levelOf", "(I)I"⟩, 30), (⟨"GossipGatesModel", "ask", "(II)Z"⟩, 30), (⟨"GossipGatesModel", "hasNews", "(II)Z"⟩, 30), (⟨"GossipGatesModel", "ageOf", "(II)I"⟩, 30), (⟨"GossipGatesModel", "called", "(II)I"⟩, 30), (⟨"GossipGatesModel", "isCallable", "(III)Z"⟩, 30), (⟨"GossipGatesModel", "ticks", "()I"⟩, 30), (⟨"GossipGatesModel", "falls", "()V"⟩, 30), (⟨"GossipGatesModel", "flowsOn", "()V"⟩, 30), (⟨"GossipGatesModel", "spills", "()I"⟩, 30), (⟨"GossipGatesModel", "measures", "()V"⟩, 30), (⟨"GossipGatesModel", "calls", "()V"⟩, 30), (⟨"GossipGatesModel", "takes", "(II)V"⟩, 30), (⟨"GossipGatesModel", "looks", "()V"⟩, 30), (⟨"GossipGatesModel", "rules", "(I)V"⟩, 30)]
theorem lw_r2 : ∀ q ∈ lw_privs_2, lw_okq q := List.forall_mem_cons.mpr ⟨lw_p16, List.forall_mem_cons.mpr ⟨lw_p17, List.forall_mem_cons.mpr ⟨lw_p18, List.forall_mem_cons.mpr ⟨lw_p19, List.forall_mem_cons.mpr ⟨lw_p20, List.forall_mem_cons.mpr ⟨lw_p21, List.forall_mem_cons.mpr ⟨lw_p22, List.forall_mem_cons.mpr ⟨lw_p23, List.forall_mem_cons.mpr ⟨lw_p24, List.forall_mem_cons.mpr ⟨lw_p25, List.forall_mem_cons.mpr ⟨lw_p26, List.forall_mem_cons.mpr ⟨lw_p27, List.forall_mem_cons.mpr ⟨lw_p28, List.forall_mem_cons.mpr ⟨lw_p29, List.forall_mem_cons.mpr ⟨lw_p30, List.forall_mem_cons.mpr ⟨lw_p31, fun _ h => absurd h List.not_mem_nil⟩⟩⟩⟩⟩⟩⟩⟩⟩⟩⟩⟩⟩⟩⟩⟩
def lw_privs : List (MethodName × Nat) := lw_privs_1 ++ (lw_privs_2)
def lw_tbl : List Cond := k2_sels lw_privs ++ tables_1
theorem lw_privs_ok : ∀ q ∈ lw_privs, lw_okq q := by
  show ∀ q ∈ lw_privs_1 ++ (lw_privs_2), lw_okq q
  exact List.forall_mem_append.mpr ⟨lw_r1, lw_r2⟩
-- ===== end of PART A; then your names; then what follows =====
end
section
/-! ===== BEGIN words of one list among another's, by their places ===== -/
theorem goodIn_r {big : List Cond} (ws : List Cond) (ps : List Nat) (hp : ws = ps.filterMap (fun i => big[i]?)) (h : ws.all goodWord = true) : GoodIn big ws := by
  intro w hw
  have h1 := List.all_eq_true.mp h w hw
  rw [hp] at hw
  obtain ⟨i, -, hi⟩ := List.mem_filterMap.mp hw
  have hm : w ∈ big := by first | exact List.mem_of_getElem? hi | exact List.getElem?_mem hi
  exact ⟨hm, good_of_word h1⟩
theorem goodIn_app {big a b : List Cond} (ha : GoodIn big a) (hb : GoodIn big b) : GoodIn big (a ++ b) := fun w h => (List.mem_append.mp h).elim (ha w) (hb w)
theorem goodIn_ca {big a b : List Cond} {c : Cond} (ha : GoodIn big (c :: a)) (hb : GoodIn big b) : GoodIn big (c :: (a ++ b)) := fun w h => (List.mem_cons.mp h).elim (fun e => ha w (List.mem_cons.mpr (Or.inl e))) (fun h => (List.mem_append.mp h).elim (fun h => ha w (List.mem_cons.mpr (Or.inr h))) (hb w))
theorem goodIn_sub {big ws : List Cond} (hm : ∀ w ∈ ws, w ∈ big) (h : ws.all goodWord = true) : GoodIn big ws := fun w hw => ⟨hm w hw, good_of_word (List.all_eq_true.mp h w hw)⟩
/-! ===== END ===== -/

/-! ===== BEGIN new T[n][m]: the outer array a place, the inner ones among the pooled ===== -/
/-- f, but v at every address of l -/
def vr_up {α : Type} (f : Nat → α) (l : List Nat) (v : α) : Nat → α := fun a => if a ∈ l then v else f a
theorem vr_up_in {α : Type} {f : Nat → α} {l : List Nat} {v : α} {a : Nat} (h : a ∈ l) : vr_up f l v a = v := if_pos h
theorem vr_up_ne {α : Type} {f : Nat → α} {l : List Nat} {v : α} {a : Nat} (h : a ∉ l) : vr_up f l v a = f a := if_neg h
theorem vr_rows {L l : List Nat} {f : Nat → va_E} {e : va_E} (h : ∀ a, a ∈ l → a ∉ L) : va_pl L f ++ l.map (fun a => (a, e)) = va_pl (L ++ l) (vr_up f l e) := by
  unfold va_pl
  rw [List.map_append]
  congr 1
  · apply List.map_congr_left
    intro a ha
    rw [vr_up_ne (fun q => h a q ha)]
  · apply List.map_congr_left
    intro a ha
    rw [vr_up_in ha]
theorem vr_lay {X rows : va_W} {x : Nat × va_E} {pl : va_W} {D : va_G} {cl : List vw_C} {H : Heap} (hP : va_P D cl (((X ++ pl) ++ [x]) ++ rows) H) : va_P D cl ((X ++ [x]) ++ (pl ++ rows)) H := by
  rw [List.append_assoc (X ++ pl)] at hP
  have h := va_P.swap hP
  rw [← List.append_assoc X] at h
  have h2 := va_P.swap h
  rw [List.append_assoc (X ++ [x])] at h2
  exact h2
theorem vr_layD {X rows : va_W} {x : Nat × va_E} {pl : va_W} {A : Nat → Prop} (hD : va_D A (((X ++ pl) ++ [x]) ++ rows)) : va_D A ((X ++ [x]) ++ (pl ++ rows)) := by
  rw [List.append_assoc (X ++ pl)] at hD
  have h := va_D.swap hD
  rw [← List.append_assoc X] at h
  have h2 := va_D.swap h
  rw [List.append_assoc (X ++ [x])] at h2
  exact h2
theorem vr_outer (c : ClassId) (N h0 : Nat) : ∀ i : Nat, Jvm.Free.Multi.outerC c N h0 i = arrV c N (fun j => va_rf (if j < i then some (h0 + 1 + j) else none))
  | 0 => by
    show ({ cls := c, slots := Array.replicate N .null, vm := .none } : Cell) = _
    rw [arrV_new]
    refine congrArg (arrV c N) (funext fun j => ?_)
    simp [va_rf]
  | i + 1 => by
    show (Jvm.Free.Multi.outerC c N h0 i).setSlot i (.ref (h0 + 1 + i)) = _
    rw [vr_outer c N h0 i, arrV_store]
    refine congrArg (arrV c N) (funext fun j => ?_)
    by_cases e : j = i
    · subst e
      simp [updV, va_rf]
    · by_cases h : j < i
      · simp [updV, e, h, Nat.lt_succ_of_lt h]
      · simp [updV, e, h, show ¬ j < i + 1 by omega]
/-- the class of arrays over arrays of ty is known (the printed names speak of it; the kit has it not) -/
def va_AOA (ty : FieldType) (U : State) : Prop := (Cond.arrayOver (.array ty)).before #[] U = true
theorem va_AOA.of {ty : FieldType} {A : Array Value} {U : State} (h : (Cond.arrayOver (.array ty)).before A U = true) : va_AOA ty U := h
theorem va_AOA.use {ty : FieldType} {A : Array Value} {U : State} (h : va_AOA ty U) : (Cond.arrayOver (.array ty)).before A U = true := h
section VGM
variable {p : Program} {l : Launch} {e : Env} {R : Room} {s : State} {m : MethodId} {args : Array Value} {below : List Frame} {meth : Method} {c : Code} {H : Heap} {locs : List Loc} {cells slots : Nat} {Q : State → Prop}
variable {cc : ByteArray} {pc : Nat} {ls : Array Slot} {rest : List Value} {D : va_G} {cl : List vw_C} {A : Nat → Prop} {a : Nat} {tys : List (ClassId × FieldType)} {ws : va_W} {H0 : Heap}
theorem va_mna {X : va_W} {L : List Nat} {f : Nat → va_E} {cc : ByteArray} (hexec : p.tables.exec = Jvm.exec) (hb : c.code = cc) {own : String} {index : Nat} {ty : FieldType} {cy : ClassId} (hown : s.vm.findClass own = some m.cls) (hclink : (Cond.classLink own index ("[" ++ (FieldType.array ty).toString)).before args s = true) (hover : va_AOA ty s) (harr : (Cond.arrayClass ty).before args s = true) (hcy : s.vm.findClass (FieldType.array ty).toString = some cy)
    (hK : va_K D cl tys s) (hP : va_P D cl (X ++ va_pl L f) H) (hD : va_D A (X ++ va_pl L f)) (hS : va_S A H0 H locs) (hA : ∀ q, H0.size ≤ q → A q) {n k : Int32} {N' K' : Nat} {z : vp_A} (hn : ¬ n < 0) (hk : ¬ k < 0) (hN : n.toNatClampNeg = N') (hM : k.toNatClampNeg = K')
    (hb1 : N' * 4 ≤ 536870912) (hb2 : K' * componentBytes ty ≤ 536870912) (hb3 : K' ≤ 536870912) (hdf : fits ty (defaultValue ty) = true) (hdd : (defaultValue ty).isDefault = true) (hcells : cells + (1 + N') ≤ R.cells) (hslots : slots + (N' + N' * K') ≤ R.slots) (hz : ∀ c : ClassId, Jvm.Free.Multi.innerC c K' (defaultValue ty) = vp_cell c z) (hdg : decode cc pc = .ok (.multianewarray index 2, 4))
    (kk : ∀ (q : Nat) (r : Nat → Nat) (cA : ClassId) (H1 : Heap), (∀ i j : Nat, i < N' → j < N' → r i = r j → i = j) → (∀ i : Nat, i < N' → r i ∉ L) → va_K D cl (tys ++ [(cA, .array ty)]) s →
      va_P D cl ((X ++ [(q, .inl (cA, N', .inr (.inr (.inr (.inr (fun i => if i < N' then some (r i) else none))))))]) ++ va_pl (L ++ (List.range N').map r) (vr_up f ((List.range N').map r) (.inl (cy, z)))) H1 → va_D A ((X ++ [(q, .inl (cA, N', .inr (.inr (.inr (.inr (fun i => if i < N' then some (r i) else none))))))]) ++ va_pl (L ++ (List.range N').map r) (vr_up f ((List.range N').map r) (.inl (cy, z)))) → va_S A H0 H1 locs →
      W p l e R s m args below meth c H1 locs (cells + 1 + N') (slots + N' + N' * K') Q (F0 m (pc + 4) ls (.ref q :: rest))) : W p l e R s m args below meth c H locs cells slots Q (F0 m pc ls (.int k :: .int n :: rest)) := by
  subst hN
  subst hM
  intro T hT Xs
  obtain ⟨vm₁, cA, comp, -, fA, fC, hO, -, X', step⟩ := Xs.multianewarray2F hexec hown hclink (va_AOA.use hover) harr (g := F0 m pc ls (.int k :: .int n :: rest)) rfl (by rw [hb]; exact hdg) rfl hn hk hb1 hb2 hb3 hdf hdd hcells hslots
  have ec : some cy = some comp := hcy.symm.trans fC
  cases ec
  generalize hF : Jvm.Free.Multi.fill (T.setVm vm₁) cA cy n.toNatClampNeg k.toNatClampNeg (defaultValue ty) n.toNatClampNeg = F at X' step
  have hTh : (T.setVm vm₁).heap = H := hT
  obtain ⟨f1, f2, -, -⟩ := Jvm.Free.Multi.fill_facts (T.setVm vm₁) cA cy n.toNatClampNeg k.toNatClampNeg (defaultValue ty) n.toNatClampNeg
  rw [hF, hTh] at f1 f2
  have hold : ∀ x : Nat, x < H.size → F.heap[x]? = H[x]? := fun x hx => by
    have := Jvm.Free.Multi.fill_old (T.setVm vm₁) cA cy n.toNatClampNeg k.toNatClampNeg (defaultValue ty) (a := x) (by rw [hTh]; exact hx) n.toNatClampNeg
    rw [hF, hTh] at this
    exact this
  have hrow : ∀ j : Nat, j < n.toNatClampNeg → F.heap[H.size + 1 + j]? = some (vp_cell cy z) := fun j hj => by
    have := Jvm.Free.Multi.fill_inner (T.setVm vm₁) cA cy n.toNatClampNeg k.toNatClampNeg (defaultValue ty) n.toNatClampNeg j hj
    rw [hF, hTh, hz] at this
    exact this
  have hout : Jvm.Free.Multi.outerC cA n.toNatClampNeg H.size n.toNatClampNeg = vp_cell cA (n.toNatClampNeg, .inr (.inr (.inr (.inr (fun i => if i < n.toNatClampNeg then some (H.size + 1 + i) else none))))) := by
    rw [vp_cell_q]
    exact vr_outer cA n.toNatClampNeg H.size n.toNatClampNeg
  rw [hout] at f2
  have hlt : ∀ a, a ∈ L → a < H.size := fun a ha => by
    obtain ⟨k9, hk9⟩ := va_pl_get (X := X) (f := f) ha
    exact (hP k9 _ hk9).lt
  have hnl : ∀ i : Nat, i < n.toNatClampNeg → H.size + 1 + i ∉ L := fun i _ h => by
    have := hlt _ h
    omega
  have hnm : ∀ a, a ∈ (List.range n.toNatClampNeg).map (fun i => H.size + 1 + i) → a ∉ L := fun a ha h => by
    obtain ⟨i, -, rfl⟩ := List.mem_map.mp ha
    have := hlt _ h
    omega
  have hP0 : va_P D cl (X ++ va_pl L f) F.heap := hP.kept (fun k9 x hx => hold x.1 ((hP k9 x hx).lt))
  have hP1 : va_P D cl ((X ++ va_pl L f) ++ [(H.size, .inl (cA, n.toNatClampNeg, .inr (.inr (.inr (.inr (fun i => if i < n.toNatClampNeg then some (H.size + 1 + i) else none))))))]) F.heap := hP0.app (fun k9 x hx => by
    have h0 : k9 < 1 := (List.getElem?_eq_some_iff.mp hx).1
    rw [show k9 = 0 by omega] at hx
    cases hx
    exact f2)
  have hP2 : va_P D cl (((X ++ va_pl L f) ++ [(H.size, .inl (cA, n.toNatClampNeg, .inr (.inr (.inr (.inr (fun i => if i < n.toNatClampNeg then some (H.size + 1 + i) else none))))))]) ++ ((List.range n.toNatClampNeg).map (fun i => H.size + 1 + i)).map (fun a => (a, .inl (cy, z)))) F.heap := hP1.app (fun k9 x hx => by
    obtain ⟨a, ha, rfl⟩ := List.mem_map.mp (List.mem_of_getElem? hx)
    obtain ⟨i, hi, rfl⟩ := List.mem_map.mp ha
    exact hrow i (List.mem_range.mp hi))
  have hD2 : va_D A (((X ++ va_pl L f) ++ [(H.size, .inl (cA, n.toNatClampNeg, .inr (.inr (.inr (.inr (fun i => if i < n.toNatClampNeg then some (H.size + 1 + i) else none))))))]) ++ ((List.range n.toNatClampNeg).map (fun i => H.size + 1 + i)).map (fun a => (a, .inl (cy, z)))) := by
    have hD1 := hD.push (e := .inl (cA, n.toNatClampNeg, .inr (.inr (.inr (.inr (fun i => if i < n.toNatClampNeg then some (H.size + 1 + i) else none)))))) hP rfl (hA _ hS.1)
    generalize hW1 : (X ++ va_pl L f) ++ [(H.size, .inl (cA, n.toNatClampNeg, .inr (.inr (.inr (.inr (fun i => if i < n.toNatClampNeg then some (H.size + 1 + i) else none))))))] = W1 at hD1 hP1 ⊢
    have hle : ∀ (k9 : Nat) (x : Nat × va_E), W1[k9]? = some x → x.1 ≤ H.size := fun k9 x hx => by
      rw [← hW1] at hx
      by_cases hl : k9 < (X ++ va_pl L f).length
      · rw [List.getElem?_append_left hl] at hx
        exact Nat.le_of_lt ((hP k9 x hx).lt)
      · rw [List.getElem?_append_right (by omega)] at hx
        have h0 : k9 - (X ++ va_pl L f).length < 1 := (List.getElem?_eq_some_iff.mp hx).1
        rw [show k9 - (X ++ va_pl L f).length = 0 by omega] at hx
        cases hx
        exact Nat.le_refl _
    have hr : ∀ (k9 : Nat) (x : Nat × va_E), (((List.range n.toNatClampNeg).map (fun i => H.size + 1 + i)).map (fun a => ((a, .inl (cy, z)) : Nat × va_E)))[k9]? = some x → x.1 = H.size + 1 + k9 := fun k9 x hx => by
      rw [List.getElem?_map, List.getElem?_map] at hx
      by_cases h9 : k9 < n.toNatClampNeg
      · rw [List.getElem?_range h9] at hx
        cases hx
        rfl
      · have hn0 : (List.range n.toNatClampNeg)[k9]? = none := List.getElem?_eq_none (by rw [List.length_range]; omega)
        rw [hn0] at hx
        cases hx
    refine ⟨fun i j x y hi hj hxy => ?_, fun k9 x hx => ?_⟩
    · by_cases h1 : i < W1.length <;> by_cases h2 : j < W1.length
      · rw [List.getElem?_append_left h1] at hi
        rw [List.getElem?_append_left h2] at hj
        exact hD1.1 i j x y hi hj hxy
      · rw [List.getElem?_append_left h1] at hi
        rw [List.getElem?_append_right (by omega)] at hj
        have := hle _ _ hi
        have := hr _ _ hj
        omega
      · rw [List.getElem?_append_right (by omega)] at hi
        rw [List.getElem?_append_left h2] at hj
        have := hle _ _ hj
        have := hr _ _ hi
        omega
      · rw [List.getElem?_append_right (by omega)] at hi hj
        have := hr _ _ hi
        have := hr _ _ hj
        omega
    · by_cases h1 : k9 < W1.length
      · rw [List.getElem?_append_left h1] at hx
        exact hD1.2 k9 x hx
      · rw [List.getElem?_append_right (by omega)] at hx
        have := hr _ _ hx
        exact hA _ (by have := hS.1; omega)
  have hAr : ArrOfT s cA (.array ty) := fun N9 z9 => by
    obtain ⟨-, k9, hk9, cm9, hkk9⟩ := (hO 0 0 0).1
    exact ⟨(fun q hq => by cases hq), k9, hk9, cm9, hkk9⟩
  have hK2 : va_K D cl (tys ++ [(cA, .array ty)]) s := ⟨hK.1, fun k9 x hx => by
    by_cases hl : k9 < tys.length
    · rw [List.getElem?_append_left hl] at hx
      exact hK.2 k9 x hx
    · rw [List.getElem?_append_right (by omega)] at hx
      have h0 : k9 - tys.length < 1 := (List.getElem?_eq_some_iff.mp hx).1
      rw [show k9 - tys.length = 0 by omega] at hx
      cases hx
      exact ⟨hAr, fA⟩⟩
  obtain ⟨t, a1, b1⟩ := kk H.size (fun i => H.size + 1 + i) cA F.heap (fun i j _ _ h => by have h9 : H.size + 1 + i = H.size + 1 + j := h; omega) hnl hK2 (by rw [← vr_rows hnm]; exact vr_lay hP2) (by rw [← vr_rows hnm]; exact vr_layD hD2) ⟨by rw [f1]; have := hS.1; omega, fun x h1 h2 => (hold x (Nat.lt_of_lt_of_le h1 hS.1)).trans (hS.2.1 x h1 h2), hS.2.2⟩ F rfl X'
  refine ⟨t, step t ?_, b1⟩
  have e : T.heap.size = H.size := by rw [hT]
  rw [e]
  exact a1
end VGM
/-! ===== END ===== -/

/-! ===== BEGIN exceptions that leave a method, and their catching by the caller (launches without stack traces) ===== -/
section VXA
/-! The laws vx_back, vx_callV, vx_callS, vx_callSW, vx_throw0, vx_throwS follow proofs of the library, with one case more: JvmDerived/Free/Laws.lean (Back.of_free), Shelf42/LK1.lean (callV, callS), Shelf/KitTraced.lean (throwNew0V, throwNewS). -/
/-- where a method has thrown q: the class by its name, the cell, what was written, the world -/
def vx_T (XC : String → State → State → Prop) (st : State) (q : Addr) (t : State) (mc ms : Nat) (free : Addr → Prop) : Prop :=
  ∃ (E : String) (ce : Cell) (L : List Loc), XC E st t ∧ t.heap[q]? = some ce ∧ ce.vm = .none ∧ st.vm.findClass E = some ce.cls ∧ st.WarmedH t.vm ∧ st.sameButNew ({ t with vm := st.vm } : State) L mc ms ∧ ∀ z ∈ L, free z.base
def vx_Q (Qc : Array Value → State → Outcome → State → Prop) (XC : String → State → State → Prop) (mc ms : Nat) (free : Addr → Prop) : Array Value → State → Outcome → State → Prop := fun a st o t =>
  (Qc a st o t ∧ ∃ L, FrameEnd st o t L mc ms ∧ ∀ q ∈ L, free q.base) ∨ ∃ q, o = .threw q ∧ vx_T XC st q t mc ms free
/-- a callee that returns or throws -/
def vx_Met (l : Launch) (y : MethodName) (ws : List Cond) (rm : Room) (Pc : Array Value → State → Prop) (Qc : Array Value → State → Outcome → State → Prop) (XC : String → State → State → Prop) (mc ms : Nat) (free : Addr → Prop) : Prop :=
  MetFree l y (headSpec ws rm) Pc (fun _ _ _ _ _ => True) (vx_Q Qc XC mc ms free)
def vx_Post (XC : String → State → State → Prop) (mc ms : Nat) (free : Addr → Prop) : Pt → Array Value → Addr → Pt → Prop := fun A a q B =>
  ∃ (g : JFrame) (mk : MethodId) (t : State) (L : List Loc) (E : String) (ce : Cell), B.U.heap = t.heap ∧ B.U.vm = t.vm ∧ XC E (A.U.calling g mk a) t ∧ t.heap[q]? = some ce ∧ ce.vm = .none ∧ A.U.vm.findClass E = some ce.cls ∧ B.locs = A.locs ++ L ∧ (∀ z ∈ L, free z.base) ∧ B.cells = A.cells + mc ∧ B.slots = A.slots + ms
def vx_Back (l : Launch) (R : Room) (p : Program) (e : Env) (below : List Frame) (s : State) (sargs : Array Value) (y : MethodName) (len W9 : Nat)
    (Pre : Pt → Array Value → Prop) (Post : Pt → Array Value → Option Value → Pt → Prop) (PostX : Pt → Array Value → Addr → Pt → Prop) : Prop :=
  ∀ (m : MethodId) (meth : Method) (c : Code) (A : Pt) (g : JFrame) (ig : Instr) (mk : MethodId) (a : Array Value),
    Stand p l e R s m sargs below meth c A.U A.locs A.cells A.slots → g.method = m → g.locals.size = c.maxLocals → decode c.code g.pc = .ok (ig, len) →
    2 * g.monitorRoom + (g.stack.map fun v => v.category).sum ≤ W9 → A.U.methodNamed? y = some mk → Pre A a →
    (∃ (v : Option Value) (B : Pt), Stand p l e R s m sargs below meth c B.U B.locs B.cells B.slots ∧ Post A a v B ∧
      Steps p.tables e below (doInvoke e (A.U.setTop g) [] mk a).1 (B.U.setTop { g with pc := g.pc + len, stack := v.toList ++ g.stack })) ∨
    (∃ (q : Addr) (B : Pt), Stand p l e R s m sargs below meth c B.U B.locs B.cells B.slots ∧ PostX A a q B ∧
      Steps p.tables e below (doInvoke e (A.U.setTop g) [] mk a).1 ((B.U.setTop g).pushFrame (.throwing q)))
section Payer
variable {l : Launch} {R : Room} {p : Program} {e : Env} {below : List Frame} {s : State} {sargs : Array Value} {y : MethodName} {len W9 : Nat}
theorem vx_back {ws : List Cond} {rm : Room} {Pc : Array Value → State → Prop} {Qc : Array Value → State → Outcome → State → Prop} {XC : String → State → State → Prop} {mc ms : Nat} {free : Addr → Prop} {bytes : ByteArray} {maxL : Nat} {ret : Option FieldType}
    (hM : vx_Met l y ws rm Pc Qc XC mc ms free) (hblind : FrameBlind Pc) (hrc : rm.cells = mc) (hrs : rm.slots = ms)
    (hframes : rm.frames + 1 ≤ R.frames) (hlocals : W9 + (maxL + 11) + rm.locals ≤ R.locals)
    (hws : ∀ w ∈ ws, ∀ a' U, s.WarmedH U.vm → w.before a' U = true) (hcode : Cond.code y bytes maxL ret ∈ ws) (hinit : ∀ a' U, s.WarmedH U.vm → (Cond.initialized y.cls).before a' U = true) :
    vx_Back l R p e below s sargs y len W9 (PreOf R mc ms Pc) (PostOf Qc mc ms free) (vx_Post XC mc ms free) := by
  intro m meth c A g ig mk a X hg hsize hdg hW hn hp
  have h1 : (headSpec ws rm).pre.before a A.U = true := atoms_intro fun w hw => hws w hw _ _ X.warmed
  have h2 : (Cond.code y bytes maxL ret).before a A.U = true := hws _ hcode _ _ X.warmed
  have h3 : (Cond.initialized y.cls).before a A.U = true := hinit _ _ X.warmed
  have h4 : A.cells + (headSpec ws rm).room.cells ≤ R.cells := by rw [show (headSpec ws rm).room.cells = mc from hrc]; exact hp.1
  have h5 : A.slots + (headSpec ws rm).room.slots ≤ R.slots := by rw [show (headSpec ws rm).room.slots = ms from hrs]; exact hp.2.1
  have hPc : Pc a (A.U.calling g mk a) := hblind _ _ _ _ hp.2.2
  obtain ⟨U, Ls, c0, s0⟩ := A
  dsimp only [Pt.U, Pt.locs, Pt.cells, Pt.slots] at h1 h2 h3 h4 h5 X hn hPc ⊢
  obtain ⟨methY, cY, hmY, hcY, -, hlY, -, -, -, -⟩ := Cond.code_spec hn h2
  obtain ⟨kY, hkY, -⟩ := className_of_methodNamed hn
  have hinitY : kY.init = .initialized := Cond.initialized_spec (findClass_of_methodNamed hn) hkY h3
  have h : At U g.method c below := by rw [hg]; exact X.here
  have hlocals9 : W9 + (maxL + 11) + (headSpec ws rm).room.locals ≤ R.locals := hlocals
  have happ : (headSpec ws rm).appliesLoose y e.platform (U.calling g mk a) = true :=
    Spec.appliesLoose_calling (g := g) h hdg hn hkY hinitY
      (X.room_calling (g := g) (R' := (headSpec ws rm).room) hsize hmY hcY hframes (by rw [hlY]; omega) h4 h5) h1
  obtain ⟨mid, hmid⟩ := h.above
  have hfr : (U.setTop g).frames = (.java g :: mid) ++ below := by rw [State.frames_setTop' g h.top, hmid]; rfl
  obtain ⟨o, s₂, hsteps, -, hend, hq⟩ := Steps.callFree hM p X.admits X.cas X.clock (acts := []) hfr happ hPc trivial
  have hq' : vx_Q Qc XC mc ms free a (U.calling g mk a) o s₂ := hq
  rw [State.frames_setTop' g h.top] at hend
  obtain ⟨g₀, hg0⟩ := Option.isSome_iff_exists.mp h.top
  obtain ⟨r, hr⟩ := State.topJava?_eq_some.mp hg0
  have hr' : (({ U with heap := s₂.heap, slotsUsed := s₂.slotsUsed } : State).setVm s₂.vm).frames = .java g₀ :: r := hr
  rcases hq' with ⟨hqc, L, hfe, hL⟩ | ⟨q, rfl, E, ce, L, hx, hce, hcv, hcl, hW₂, hsm, hL⟩
  · obtain ⟨⟨v, rfl⟩, hW₂, e2, q2, q3, q4, q5, q6⟩ := id hfe
    have e3 : s₂ = ({ (U.calling g mk a).setFrames s₂.frames with heap := s₂.heap, slotsUsed := s₂.slotsUsed } : State).setVm s₂.vm := by
      have : s₂ = ({ s₂ with vm := (U.calling g mk a).vm } : State).setVm s₂.vm := rfl
      rw [e2] at this
      exact this
    obtain ⟨c₂, i₂, len₂, hc₂, hd₂, hf₂⟩ := hend
    have hW' : U.WarmedH s₂.vm := hW₂
    have hcc : c₂ = c := by
      have h1 : s₂.code? g.method = U.code? g.method := by
        rw [State.code?_eq, State.code?_eq, hW'.alike.method?]
      exact Option.some.inj (hc₂.symm.trans (h1.trans h.code))
    subst hcc
    have hlen : len₂ = len := by rw [hdg] at hd₂; cases hd₂; rfl
    subst hlen
    have hs₂ : s₂ = (({ U with heap := s₂.heap, slotsUsed := s₂.slotsUsed } : State).setVm s₂.vm).setTop { g with pc := g.pc + len₂, stack := v.toList ++ g.stack } := by
      refine e3.trans ?_
      rw [hf₂, State.calling_eq h.top, State.setFrames_setFrames, State.setTop_of_frames _ hr', hr]
      rfl
    have hsame : U.sameButNew ({ U with heap := s₂.heap, slotsUsed := s₂.slotsUsed } : State) L mc ms := by
      refine ⟨?_, q2, q3, q4, q5, q6⟩
      obtain ⟨t, ht, -⟩ := State.frames_cons hr
      show ({ U with heap := s₂.heap, slotsUsed := s₂.slotsUsed } : State) = { U.setFrames U.frames with heap := s₂.heap, slotsUsed := s₂.slotsUsed }
      rw [State.setFrames_self ht]
    subst hg
    refine Or.inl ⟨v, ⟨(({ U with heap := s₂.heap, slotsUsed := s₂.slotsUsed } : State).setVm s₂.vm), Ls ++ L, c0 + mc, s0 + ms⟩,
      ⟨X.admits, X.cas, X.clock, X.frames, X.room, X.hears, X.method, X.code, (X.here.setHeapUsed s₂.heap s₂.slotsUsed).setVm hW'.alike, X.tail, State.WarmedH.trans X.warmed hW', X.limits, X.bytes, X.same.trans (hsame.setVm s.vm)⟩,
      ⟨g, mk, s₂, L, rfl, rfl, hqc, rfl, hL, rfl, rfl⟩, ?_⟩
    show Steps p.tables e below _ ((({ U with heap := s₂.heap, slotsUsed := s₂.slotsUsed } : State).setVm s₂.vm).setTop { g with pc := g.pc + len₂, stack := v.toList ++ g.stack })
    rw [← hs₂]
    exact hsteps
  · obtain ⟨e2, q2, q3, q4, q5, q6⟩ := id hsm
    have e3 : s₂ = ({ (U.calling g mk a).setFrames s₂.frames with heap := s₂.heap, slotsUsed := s₂.slotsUsed } : State).setVm s₂.vm := by
      have : s₂ = ({ s₂ with vm := (U.calling g mk a).vm } : State).setVm s₂.vm := rfl
      rw [e2] at this
      exact this
    have hf₂ : s₂.frames = .throwing q :: .java g :: U.frames.tail := hend
    have hW' : U.WarmedH s₂.vm := hW₂
    have hs₂ : s₂ = ((({ U with heap := s₂.heap, slotsUsed := s₂.slotsUsed } : State).setVm s₂.vm).setTop g).pushFrame (.throwing q) := by
      refine e3.trans ?_
      rw [hf₂, State.calling_eq h.top, State.setFrames_setFrames, State.pushFrame, State.frames_setTop _ hr', State.setTop_of_frames _ hr', State.setFrames_setFrames, hr]
      rfl
    have hsame : U.sameButNew ({ U with heap := s₂.heap, slotsUsed := s₂.slotsUsed } : State) L mc ms := by
      refine ⟨?_, q2, q3, q4, q5, q6⟩
      obtain ⟨t, ht, -⟩ := State.frames_cons hr
      show ({ U with heap := s₂.heap, slotsUsed := s₂.slotsUsed } : State) = { U.setFrames U.frames with heap := s₂.heap, slotsUsed := s₂.slotsUsed }
      rw [State.setFrames_self ht]
    subst hg
    refine Or.inr ⟨q, ⟨(({ U with heap := s₂.heap, slotsUsed := s₂.slotsUsed } : State).setVm s₂.vm), Ls ++ L, c0 + mc, s0 + ms⟩,
      ⟨X.admits, X.cas, X.clock, X.frames, X.room, X.hears, X.method, X.code, (X.here.setHeapUsed s₂.heap s₂.slotsUsed).setVm hW'.alike, X.tail, State.WarmedH.trans X.warmed hW', X.limits, X.bytes, X.same.trans (hsame.setVm s.vm)⟩,
      ⟨g, mk, s₂, L, E, ce, rfl, rfl, hx, hce, hcv, hcl, rfl, hL, rfl, rfl⟩, ?_⟩
    show Steps p.tables e below _ (((({ U with heap := s₂.heap, slotsUsed := s₂.slotsUsed } : State).setVm s₂.vm).setTop g).pushFrame (.throwing q))
    rw [← hs₂]
    exact hsteps
end Payer
section Calls
variable {p : Program} {l : Launch} {e : Env} {R : Room} {s : State} {m : MethodId} {args : Array Value} {below : List Frame} {meth : Method} {c : Code} {T : State} {locs : List Loc} {cells slots : Nat}
theorem vx_callV (X : Stand p l e R s m args below meth c T locs cells slots) (hexec : p.tables.exec = Jvm.exec) {own C : String} {index : Nat} {y : MethodName} {bytes : ByteArray} {maxL : Nat} {ret : Option FieldType}
    (hown : s.vm.findClass own = some m.cls) (hlink : (Cond.methodLink own index y).before args s = true) (hinst : (Cond.instanceMethod y).before args s = true) (hsel : (Cond.selects C y y).before args s = true)
    (hcode : (Cond.code y bytes maxL ret).before args s = true) (hy : y.cls ≠ "java/lang/invoke/MethodHandle" ∧ y.cls ≠ "java/lang/invoke/VarHandle")
    {W9 : Nat} {Pre : Pt → Array Value → Prop} {Post : Pt → Array Value → Option Value → Pt → Prop} {PostX : Pt → Array Value → Addr → Pt → Prop} (hK : vx_Back l R p e below s args y 3 W9 Pre Post PostX)
    {b : Addr} {cellB : Cell} (hcell : T.heap[b]? = some cellB) (hobj : cellB.vm.isStatics = false) (hcls : s.vm.findClass C = some cellB.cls)
    {g : JFrame} (hg : g.method = m) (hsize : g.locals.size = c.maxLocals) {argsL rest : List Value} (hlen : ∀ sig, parseMethodDescriptor y.desc = some sig → argsL.length = sig.parameters.length)
    (hstack : g.stack = argsL.reverse ++ .ref b :: rest) (hW : 2 * g.monitorRoom + (rest.map fun v => v.category).sum ≤ W9) (hdg : decode c.code g.pc = .ok (.invokevirtual index, 3))
    (hpre : ∀ vm₁, s.WarmedH vm₁ → Pre ⟨T.setVm vm₁, locs, cells, slots⟩ (Value.ref b :: argsL).toArray) :
    (∃ (v : Option Value) (vm₁ : Vm) (B : Pt), s.WarmedH vm₁ ∧ Stand p l e R s m args below meth c B.U B.locs B.cells B.slots ∧ Post ⟨T.setVm vm₁, locs, cells, slots⟩ (Value.ref b :: argsL).toArray v B ∧
      ∀ target, Steps p.tables e below (B.U.setTop { g with pc := g.pc + 3, stack := v.toList ++ rest }) target → Steps p.tables e below (T.setTop g) target) ∨
    (∃ (q : Addr) (vm₁ : Vm) (B : Pt), s.WarmedH vm₁ ∧ Stand p l e R s m args below meth c B.U B.locs B.cells B.slots ∧ PostX ⟨T.setVm vm₁, locs, cells, slots⟩ (Value.ref b :: argsL).toArray q B ∧
      Steps p.tables e below (T.setTop g) ((B.U.setTop { g with stack := rest }).pushFrame (.throwing q))) := by
  obtain ⟨mk, methM, hnamed, hmethM, hstM, habM⟩ := Cond.instanceMethod_spec hinst
  obtain ⟨methM', cM, hmethM', -, -, -, -, -, -, hsigM⟩ := Cond.code_spec hnamed hcode
  cases hmethM.symm.trans hmethM'
  obtain ⟨c2, r2, m2, q1, q2, q3, q4, kP, hkP, hkPi⟩ := Cond.selects_spec hsel
  cases hcls.symm.trans q1
  cases (State.methodFound?_of_named hnamed hy).symm.trans q2
  cases hnamed.symm.trans q3
  have hselP : selectMethod e.platform s.vm cellB.cls mk = .method mk := by rw [Launch.admits_selectMethod X.admits]; exact q4
  obtain ⟨vm₁, X₁, hstep₁⟩ := X.invokevirtual hexec hown hlink hnamed hmethM hstM hkP hkPi hy (a := b) (cell := cellB) hcell
    (fun z h => by rw [h] at hobj; cases hobj) hselP hmethM habM hkP hkPi (g := g) hg (argsL := argsL) (rest := rest) (hlen _ hsigM) hstack hdg
  rcases hK m meth c ⟨T.setVm vm₁, locs, cells, slots⟩ { g with stack := rest } (.invokevirtual index) mk (Value.ref b :: argsL).toArray X₁ hg hsize hdg hW (X₁.named hnamed) (hpre vm₁ X₁.warmed) with ⟨v, B, X', hpost, hsteps⟩ | ⟨q, B, X', hpost, hsteps⟩
  · exact Or.inl ⟨v, vm₁, B, X₁.warmed, X', hpost, fun target h => hstep₁ _ fun acts => by rw [doInvoke_state]; exact hsteps.trans h⟩
  · exact Or.inr ⟨q, vm₁, B, X₁.warmed, X', hpost, hstep₁ _ fun acts => by rw [doInvoke_state]; exact hsteps⟩
theorem vx_callS (X : Stand p l e R s m args below meth c T locs cells slots) (hexec : p.tables.exec = Jvm.exec) {own : String} {index : Nat} {y : MethodName} {bytes : ByteArray} {maxL : Nat} {ret : Option FieldType}
    (hown : s.vm.findClass own = some m.cls) (hlink : (Cond.methodLink own index y).before args s = true) (hstat : (Cond.static y).before args s = true) (hinit : (Cond.initialized y.cls).before args s = true)
    (hcode : (Cond.code y bytes maxL ret).before args s = true) (hy : y.cls ≠ "java/lang/invoke/MethodHandle" ∧ y.cls ≠ "java/lang/invoke/VarHandle")
    {W9 : Nat} {Pre : Pt → Array Value → Prop} {Post : Pt → Array Value → Option Value → Pt → Prop} {PostX : Pt → Array Value → Addr → Pt → Prop} (hK : vx_Back l R p e below s args y 3 W9 Pre Post PostX)
    {g : JFrame} (hg : g.method = m) (hsize : g.locals.size = c.maxLocals) {argsL rest : List Value} (hlen : ∀ sig, parseMethodDescriptor y.desc = some sig → argsL.length = sig.parameters.length)
    (hstack : g.stack = argsL.reverse ++ rest) (hW : 2 * g.monitorRoom + (rest.map fun v => v.category).sum ≤ W9) (hdg : decode c.code g.pc = .ok (.invokestatic index, 3))
    (hpre : ∀ vm₁, s.WarmedH vm₁ → Pre ⟨T.setVm vm₁, locs, cells, slots⟩ argsL.toArray) :
    (∃ (v : Option Value) (vm₁ : Vm) (B : Pt), s.WarmedH vm₁ ∧ Stand p l e R s m args below meth c B.U B.locs B.cells B.slots ∧ Post ⟨T.setVm vm₁, locs, cells, slots⟩ argsL.toArray v B ∧
      ∀ target, Steps p.tables e below (B.U.setTop { g with pc := g.pc + 3, stack := v.toList ++ rest }) target → Steps p.tables e below (T.setTop g) target) ∨
    (∃ (q : Addr) (vm₁ : Vm) (B : Pt), s.WarmedH vm₁ ∧ Stand p l e R s m args below meth c B.U B.locs B.cells B.slots ∧ PostX ⟨T.setVm vm₁, locs, cells, slots⟩ argsL.toArray q B ∧
      Steps p.tables e below (T.setTop g) ((B.U.setTop { g with stack := rest }).pushFrame (.throwing q))) := by
  obtain ⟨mk, hnamed⟩ := Cond.code_named hcode
  obtain ⟨methM, cM, hmethM, -, -, -, -, -, -, hsigM⟩ := Cond.code_spec hnamed hcode
  have hstatic : methM.isStatic = true := Cond.static_spec hnamed hmethM hstat
  obtain ⟨kP, hkP, -⟩ := className_of_methodNamed hnamed
  have hinitP : kP.init = .initialized := Cond.initialized_spec (findClass_of_methodNamed hnamed) hkP hinit
  obtain ⟨vm₁, X₁, hstep₁⟩ := X.invokestatic hexec hown hlink hnamed hmethM hstatic hkP hinitP hy (g := g) hg (argsL := argsL) (rest := rest) (hlen _ hsigM) hstack hdg
  rcases hK m meth c ⟨T.setVm vm₁, locs, cells, slots⟩ { g with stack := rest } (.invokestatic index) mk argsL.toArray X₁ hg hsize hdg hW (X₁.named hnamed) (hpre vm₁ X₁.warmed) with ⟨v, B, X', hpost, hsteps⟩ | ⟨q, B, X', hpost, hsteps⟩
  · exact Or.inl ⟨v, vm₁, B, X₁.warmed, X', hpost, fun target h => hstep₁ _ fun acts => by rw [doInvoke_state]; exact hsteps.trans h⟩
  · exact Or.inr ⟨q, vm₁, B, X₁.warmed, X', hpost, hstep₁ _ fun acts => by rw [doInvoke_state]; exact hsteps⟩
end Calls
theorem vx_cls {s : State} {T : State} {vm₁ : Vm} {E : String} {k : ClassId} (hW : s.WarmedH vm₁) (h : (T.setVm vm₁).vm.findClass E = some k) : s.vm.findClass E = some k := by
  have h1 : vm₁.findClass E = some k := h
  rw [hW.alike.findClass] at h1
  exact h1
/-- the method's frame g, with q thrown over it -/
def vx_W (p : Program) (l : Launch) (e : Env) (R : Room) (s : State) (m : MethodId) (args : Array Value) (below : List Frame) (meth : Method) (c : Code) (H : Heap) (locs : List Loc) (cells slots : Nat) (Q : State → Prop) (g : JFrame) (q : Addr) : Prop :=
  ∀ T : State, T.heap = H → Stand p l e R s m args below meth c T locs cells slots → ∃ t, Steps p.tables e below ((T.setTop g).pushFrame (.throwing q)) t ∧ Q t
def vx_Run (p : Program) (l : Launch) (e : Env) (R : Room) (s : State) (m : MethodId) (args : Array Value) (below : List Frame) (meth : Method) (c : Code) (H : Heap) (locs : List Loc) (cells slots mc ms : Nat) (g : JFrame) (rest : List Value) (Qa : State → Outcome → State → Prop) (XC : String → State → State → Prop) (free : Addr → Prop) : Prop :=
  ∀ T : State, T.heap = H → Stand p l e R s m args below meth c T locs cells slots →
    (∃ (v : Option Value) (st₀ t T' : State) (L : List Loc), st₀.heap = H ∧ Stand p l e R s m args below meth c T' (locs ++ L) (cells + mc) (slots + ms) ∧ (∀ q ∈ L, free q.base) ∧ T'.heap = t.heap ∧ T'.vm = t.vm ∧ Qa st₀ (.returned v) t ∧
      Goes p e below T g T' { g with pc := g.pc + 3, stack := v.toList ++ rest }) ∨
    (∃ (q : Addr) (st₀ t T' : State) (L : List Loc) (E : String) (ce : Cell), st₀.heap = H ∧ Stand p l e R s m args below meth c T' (locs ++ L) (cells + mc) (slots + ms) ∧ (∀ z ∈ L, free z.base) ∧ T'.heap = t.heap ∧ T'.vm = t.vm ∧ XC E st₀ t ∧ t.heap[q]? = some ce ∧ ce.vm = .none ∧ s.vm.findClass E = some ce.cls ∧
      Steps p.tables e below (T.setTop g) ((T'.setTop { g with stack := rest }).pushFrame (.throwing q)))
def vx_X {S : Type} (px : S → Prop) (B : String → S → State → Prop) (A : Nat → Prop) : String → State → State → Prop := fun E st t => ∃ u : S, px u ∧ B E u t ∧ va_F A st t
section Runs
variable {p : Program} {l : Launch} {e : Env} {R : Room} {s : State} {m : MethodId} {args : Array Value} {below : List Frame} {meth : Method} {c : Code} {H : Heap} {locs : List Loc} {cells slots : Nat}
variable {y : MethodName} {bytes cc : ByteArray} {maxL nL mc ms n index : Nat} {ret : Option FieldType} {ws : List Cond} {rm : Room} {Pc : Array Value → State → Prop} {Qc : Array Value → State → Outcome → State → Prop} {XC : String → State → State → Prop} {free : Addr → Prop} {Ts : List Cond} {own C : String} {b : Addr} {As rest : List Value} {g : JFrame}
theorem vx_callBack (cb : CallB R s args own index y bytes maxL ret ws rm mc ms n) (hM : vx_Met l y ws rm Pc Qc XC mc ms free) (hbl : FrameBlind Pc) : vx_Back l R p e below s args y 3 8 (PreOf R mc ms Pc) (PostOf Qc mc ms free) (vx_Post XC mc ms free) := by
  obtain ⟨hrc, hrs, hfr, hlo, hws, hcw, -, hini, -⟩ := cb
  exact vx_back (bytes := bytes) (maxL := maxL) (ret := ret) hM hbl hrc hrs hfr hlo hws hcw (fun a' U hW => word_at hW (Or.inl (by first | rfl | simp [Cond.onTables, Cond.keeps, Cond.steady])) hini)
theorem vx_runV (S : CallFix p m c cc nL s args Ts own) (hM : vx_Met l y ws rm Pc Qc XC mc ms free) (cw : CallW R s args own C index y bytes maxL ret ws rm mc ms n) (hp : PreV s H C b Pc As)
    (hg : g.method = m) (hn : As.length = n) (hsize : g.locals.size = nL) (hstack : g.stack = As.reverse ++ .ref b :: rest) (hW : 2 * g.monitorRoom + (rest.map fun v => v.category).sum ≤ 8) (hdg : decode cc g.pc = .ok (.invokevirtual index, 3)) (hf : cells + mc ≤ R.cells ∧ slots + ms ≤ R.slots) :
    vx_Run p l e R s m args below meth c H locs cells slots mc ms g rest (Qc (Value.ref b :: As).toArray) XC free := by
  have hK : vx_Back l R p e below s args y 3 8 (PreOf R mc ms Pc) (PostOf Qc mc ms free) (vx_Post XC mc ms free) := vx_callBack cw.1 hM hp.1
  obtain ⟨⟨-, -, -, -, -, -, hcode, -, hy, hlen, hl⟩, hin, hse⟩ := cw
  obtain ⟨hx, hb, hml, ho, -⟩ := S
  obtain ⟨-, ⟨cellB, hcB, hoB, hclB⟩, hPc⟩ := hp
  intro T hT X
  rcases vx_callV X hx (C := C) (bytes := bytes) (maxL := maxL) (ret := ret) ho hl hin hse hcode hy hK (by rw [hT]; exact hcB) hoB hclB hg (hsize.trans hml.symm) (argsL := As) (rest := rest) (fun sig h => hn.trans (hlen sig h)) hstack hW (by rw [hb]; exact hdg)
    (fun vm₁ hW₁ => ⟨hf.1, hf.2, hPc (T.setVm vm₁) hT hW₁⟩) with ⟨v, vm₁, ⟨U', l2, c2, s2⟩, hW₁, X', ⟨g', mk, t, L, e1, e2, hq, h1, hL, h2, h3⟩, st⟩ | ⟨q, vm₁, ⟨U', l2, c2, s2⟩, hW₁, X', ⟨g', mk, t, L, E, ce, e1, e2, hq, hce, hcv, hcl, h1, hL, h2, h3⟩, st⟩
  · dsimp only [Pt.U, Pt.locs, Pt.cells, Pt.slots] at X' e1 e2 h1 h2 h3 st
    subst h1; subst h2; subst h3
    exact Or.inl ⟨v, (T.setVm vm₁).calling g' mk (Value.ref b :: As).toArray, t, U', L, hT, X', hL, e1, e2, hq, st⟩
  · dsimp only [Pt.U, Pt.locs, Pt.cells, Pt.slots] at X' e1 e2 h1 h2 h3 st hcl
    subst h1; subst h2; subst h3
    exact Or.inr ⟨q, (T.setVm vm₁).calling g' mk (Value.ref b :: As).toArray, t, U', L, E, ce, hT, X', hL, e1, e2, hq, hce, hcv, vx_cls hW₁ hcl, st⟩
theorem vx_runS (S : CallFix p m c cc nL s args Ts own) (hM : vx_Met l y ws rm Pc Qc XC mc ms free) (cw : CallB R s args own index y bytes maxL ret ws rm mc ms n ∧ (Cond.static y).before args s = true) (hp : PreS s H Pc As)
    (hg : g.method = m) (hn : As.length = n) (hsize : g.locals.size = nL) (hstack : g.stack = As.reverse ++ rest) (hW : 2 * g.monitorRoom + (rest.map fun v => v.category).sum ≤ 8) (hdg : decode cc g.pc = .ok (.invokestatic index, 3)) (hf : cells + mc ≤ R.cells ∧ slots + ms ≤ R.slots) :
    vx_Run p l e R s m args below meth c H locs cells slots mc ms g rest (Qc As.toArray) XC free := by
  have hK : vx_Back l R p e below s args y 3 8 (PreOf R mc ms Pc) (PostOf Qc mc ms free) (vx_Post XC mc ms free) := vx_callBack cw.1 hM hp.1
  obtain ⟨⟨-, -, -, -, -, -, hcode, hini, hy, hlen, hl⟩, hstt⟩ := cw
  obtain ⟨hx, hb, hml, ho, -⟩ := S
  intro T hT X
  rcases vx_callS X hx (bytes := bytes) (maxL := maxL) (ret := ret) ho hl hstt hini hcode hy hK hg (hsize.trans hml.symm) (argsL := As) (rest := rest) (fun sig h => hn.trans (hlen sig h)) hstack hW (by rw [hb]; exact hdg)
    (fun vm₁ hW₁ => ⟨hf.1, hf.2, hp.2 (T.setVm vm₁) hT hW₁⟩) with ⟨v, vm₁, ⟨U', l2, c2, s2⟩, hW₁, X', ⟨g', mk, t, L, e1, e2, hq, h1, hL, h2, h3⟩, st⟩ | ⟨q, vm₁, ⟨U', l2, c2, s2⟩, hW₁, X', ⟨g', mk, t, L, E, ce, e1, e2, hq, hce, hcv, hcl, h1, hL, h2, h3⟩, st⟩
  · dsimp only [Pt.U, Pt.locs, Pt.cells, Pt.slots] at X' e1 e2 h1 h2 h3 st
    subst h1; subst h2; subst h3
    exact Or.inl ⟨v, (T.setVm vm₁).calling g' mk As.toArray, t, U', L, hT, X', hL, e1, e2, hq, st⟩
  · dsimp only [Pt.U, Pt.locs, Pt.cells, Pt.slots] at X' e1 e2 h1 h2 h3 st hcl
    subst h1; subst h2; subst h3
    exact Or.inr ⟨q, (T.setVm vm₁).calling g' mk As.toArray, t, U', L, E, ce, hT, X', hL, e1, e2, hq, hce, hcv, vx_cls hW₁ hcl, st⟩
end Runs
section Rows
variable {p : Program} {l : Launch} {e : Env} {R : Room} {s : State} {m : MethodId} {args : Array Value} {below : List Frame} {meth : Method} {c : Code} {H : Heap} {locs : List Loc} {cells slots : Nat} {Q : State → Prop}
variable {mc ms : Nat} {free : Addr → Prop} {A0 A1 : Nat → Prop} {H0 : Heap} {a : Array Value} {pc : Nat} {ls : Array Slot} {st0 rest : List Value}
theorem vx_keep {st₀ t T' : State} {L : List Loc} (h0 : st₀.heap = H) (e1 : T'.heap = t.heap) (hS : va_S A0 H0 H locs) (hA : ∀ q, q < H.size → A1 q → A0 q) (hf : ∀ q, free q → A0 q) (hL : ∀ q ∈ L, free q.base) (hF : va_F A1 st₀ t) :
    H.size ≤ T'.heap.size ∧ (∀ q : Nat, q < H.size → ¬ A1 q → T'.heap[q]? = H[q]?) ∧ va_S A0 H0 T'.heap (locs ++ L) := by
  obtain ⟨hz, hk⟩ := hF
  rw [h0] at hz hk
  exact ⟨by rw [e1]; exact hz, fun q h1 h2 => by rw [e1]; exact hk q h1 h2,
    ⟨Nat.le_trans hS.1 (by rw [e1]; exact hz), fun q h1 h2 => by rw [e1, hk q (Nat.lt_of_lt_of_le h1 hS.1) (fun z => h2 (hA q (Nat.lt_of_lt_of_le h1 hS.1) z))]; exact hS.2.1 q h1 h2, fun q hq => by
      rcases List.mem_append.mp hq with h | h
      · exact hS.2.2 q h
      · exact hf _ (hL q h)⟩⟩
theorem vx_calli {S SX : Type} {post : Int32 → S → Prop} {px : SX → Prop} {B : S → State → Prop} {BX : String → SX → State → Prop} {AX : Nat → Prop} (hr : vx_Run p l e R s m args below meth c H locs cells slots mc ms (F0 m pc ls st0) rest (va_Qi post B A1 a) (vx_X px BX AX) free) (hS : va_S A0 H0 H locs) (hA : ∀ q, q < H.size → A1 q → A0 q) (hf : ∀ q, free q → A0 q) (hAX : ∀ q, q < H.size → AX q → A0 q)
    (kx : ∀ (E : String) (ce : Cell) (q9 : Addr) (u : SX) (t : State) (H1 : Heap) (locs1 : List Loc), t.heap = H1 → s.vm.Alike t.vm → px u → BX E u t → H.size ≤ H1.size → (∀ q : Nat, q < H.size → ¬ AX q → H1[q]? = H[q]?) → va_S A0 H0 H1 locs1 → H1[q9]? = some ce → ce.vm = .none → s.vm.findClass E = some ce.cls → vx_W p l e R s m args below meth c H1 locs1 (cells + mc) (slots + ms) Q (F0 m pc ls rest) q9)
    (kk : ∀ (r : Int32) (u : S) (t : State) (H1 : Heap) (locs1 : List Loc), t.heap = H1 → s.vm.Alike t.vm → post r u → B u t → H.size ≤ H1.size → (∀ q : Nat, q < H.size → ¬ A1 q → H1[q]? = H[q]?) → va_S A0 H0 H1 locs1 → W p l e R s m args below meth c H1 locs1 (cells + mc) (slots + ms) Q (F0 m (pc + 3) ls (.int r :: rest))) : W p l e R s m args below meth c H locs cells slots Q (F0 m pc ls st0) := by
  intro T hT X
  rcases hr T hT X with ⟨v, st₀, t, T', L, h0, X', hL, e1, e2, ⟨⟨r, u, hv, hp, hb⟩, hF⟩, st⟩ | ⟨q, st₀, t, T', L, E, ce, h0, X', hL, e1, e2, ⟨u, hp, hb, hF⟩, hce, hcv, hcl, st⟩
  · cases hv
    obtain ⟨k1, k2, k3⟩ := vx_keep h0 e1 hS hA hf hL hF
    obtain ⟨t2, a1, b1⟩ := kk r u t T'.heap (locs ++ L) e1.symm (by rw [← e2]; exact X'.warmed.alike) hp hb k1 k2 k3 T' rfl X'
    exact ⟨t2, st t2 a1, b1⟩
  · obtain ⟨k1, k2, k3⟩ := vx_keep h0 e1 hS hAX hf hL hF
    obtain ⟨t2, a1, b1⟩ := kx E ce q u t T'.heap (locs ++ L) e1.symm (by rw [← e2]; exact X'.warmed.alike) hp hb k1 k2 k3 (by rw [e1]; exact hce) hcv hcl T' rfl X'
    exact ⟨t2, st.trans a1, b1⟩
theorem vx_calll {S SX : Type} {post : Int64 → S → Prop} {px : SX → Prop} {B : S → State → Prop} {BX : String → SX → State → Prop} {AX : Nat → Prop} (hr : vx_Run p l e R s m args below meth c H locs cells slots mc ms (F0 m pc ls st0) rest (va_Ql post B A1 a) (vx_X px BX AX) free) (hS : va_S A0 H0 H locs) (hA : ∀ q, q < H.size → A1 q → A0 q) (hf : ∀ q, free q → A0 q) (hAX : ∀ q, q < H.size → AX q → A0 q)
    (kx : ∀ (E : String) (ce : Cell) (q9 : Addr) (u : SX) (t : State) (H1 : Heap) (locs1 : List Loc), t.heap = H1 → s.vm.Alike t.vm → px u → BX E u t → H.size ≤ H1.size → (∀ q : Nat, q < H.size → ¬ AX q → H1[q]? = H[q]?) → va_S A0 H0 H1 locs1 → H1[q9]? = some ce → ce.vm = .none → s.vm.findClass E = some ce.cls → vx_W p l e R s m args below meth c H1 locs1 (cells + mc) (slots + ms) Q (F0 m pc ls rest) q9)
    (kk : ∀ (r : Int64) (u : S) (t : State) (H1 : Heap) (locs1 : List Loc), t.heap = H1 → s.vm.Alike t.vm → post r u → B u t → H.size ≤ H1.size → (∀ q : Nat, q < H.size → ¬ A1 q → H1[q]? = H[q]?) → va_S A0 H0 H1 locs1 → W p l e R s m args below meth c H1 locs1 (cells + mc) (slots + ms) Q (F0 m (pc + 3) ls (.long r :: rest))) : W p l e R s m args below meth c H locs cells slots Q (F0 m pc ls st0) := by
  intro T hT X
  rcases hr T hT X with ⟨v, st₀, t, T', L, h0, X', hL, e1, e2, ⟨⟨r, u, hv, hp, hb⟩, hF⟩, st⟩ | ⟨q, st₀, t, T', L, E, ce, h0, X', hL, e1, e2, ⟨u, hp, hb, hF⟩, hce, hcv, hcl, st⟩
  · cases hv
    obtain ⟨k1, k2, k3⟩ := vx_keep h0 e1 hS hA hf hL hF
    obtain ⟨t2, a1, b1⟩ := kk r u t T'.heap (locs ++ L) e1.symm (by rw [← e2]; exact X'.warmed.alike) hp hb k1 k2 k3 T' rfl X'
    exact ⟨t2, st t2 a1, b1⟩
  · obtain ⟨k1, k2, k3⟩ := vx_keep h0 e1 hS hAX hf hL hF
    obtain ⟨t2, a1, b1⟩ := kx E ce q u t T'.heap (locs ++ L) e1.symm (by rw [← e2]; exact X'.warmed.alike) hp hb k1 k2 k3 (by rw [e1]; exact hce) hcv hcl T' rfl X'
    exact ⟨t2, st.trans a1, b1⟩
theorem vx_callf {S SX : Type} {post : UInt32 → S → Prop} {px : SX → Prop} {B : S → State → Prop} {BX : String → SX → State → Prop} {AX : Nat → Prop} (hr : vx_Run p l e R s m args below meth c H locs cells slots mc ms (F0 m pc ls st0) rest (va_Qf post B A1 a) (vx_X px BX AX) free) (hS : va_S A0 H0 H locs) (hA : ∀ q, q < H.size → A1 q → A0 q) (hf : ∀ q, free q → A0 q) (hAX : ∀ q, q < H.size → AX q → A0 q)
    (kx : ∀ (E : String) (ce : Cell) (q9 : Addr) (u : SX) (t : State) (H1 : Heap) (locs1 : List Loc), t.heap = H1 → s.vm.Alike t.vm → px u → BX E u t → H.size ≤ H1.size → (∀ q : Nat, q < H.size → ¬ AX q → H1[q]? = H[q]?) → va_S A0 H0 H1 locs1 → H1[q9]? = some ce → ce.vm = .none → s.vm.findClass E = some ce.cls → vx_W p l e R s m args below meth c H1 locs1 (cells + mc) (slots + ms) Q (F0 m pc ls rest) q9)
    (kk : ∀ (r : UInt32) (u : S) (t : State) (H1 : Heap) (locs1 : List Loc), t.heap = H1 → s.vm.Alike t.vm → post r u → B u t → H.size ≤ H1.size → (∀ q : Nat, q < H.size → ¬ A1 q → H1[q]? = H[q]?) → va_S A0 H0 H1 locs1 → W p l e R s m args below meth c H1 locs1 (cells + mc) (slots + ms) Q (F0 m (pc + 3) ls (.float r :: rest))) : W p l e R s m args below meth c H locs cells slots Q (F0 m pc ls st0) := by
  intro T hT X
  rcases hr T hT X with ⟨v, st₀, t, T', L, h0, X', hL, e1, e2, ⟨⟨r, u, hv, hp, hb⟩, hF⟩, st⟩ | ⟨q, st₀, t, T', L, E, ce, h0, X', hL, e1, e2, ⟨u, hp, hb, hF⟩, hce, hcv, hcl, st⟩
  · cases hv
    obtain ⟨k1, k2, k3⟩ := vx_keep h0 e1 hS hA hf hL hF
    obtain ⟨t2, a1, b1⟩ := kk r u t T'.heap (locs ++ L) e1.symm (by rw [← e2]; exact X'.warmed.alike) hp hb k1 k2 k3 T' rfl X'
    exact ⟨t2, st t2 a1, b1⟩
  · obtain ⟨k1, k2, k3⟩ := vx_keep h0 e1 hS hAX hf hL hF
    obtain ⟨t2, a1, b1⟩ := kx E ce q u t T'.heap (locs ++ L) e1.symm (by rw [← e2]; exact X'.warmed.alike) hp hb k1 k2 k3 (by rw [e1]; exact hce) hcv hcl T' rfl X'
    exact ⟨t2, st.trans a1, b1⟩
theorem vx_calld {S SX : Type} {post : UInt64 → S → Prop} {px : SX → Prop} {B : S → State → Prop} {BX : String → SX → State → Prop} {AX : Nat → Prop} (hr : vx_Run p l e R s m args below meth c H locs cells slots mc ms (F0 m pc ls st0) rest (va_Qd post B A1 a) (vx_X px BX AX) free) (hS : va_S A0 H0 H locs) (hA : ∀ q, q < H.size → A1 q → A0 q) (hf : ∀ q, free q → A0 q) (hAX : ∀ q, q < H.size → AX q → A0 q)
    (kx : ∀ (E : String) (ce : Cell) (q9 : Addr) (u : SX) (t : State) (H1 : Heap) (locs1 : List Loc), t.heap = H1 → s.vm.Alike t.vm → px u → BX E u t → H.size ≤ H1.size → (∀ q : Nat, q < H.size → ¬ AX q → H1[q]? = H[q]?) → va_S A0 H0 H1 locs1 → H1[q9]? = some ce → ce.vm = .none → s.vm.findClass E = some ce.cls → vx_W p l e R s m args below meth c H1 locs1 (cells + mc) (slots + ms) Q (F0 m pc ls rest) q9)
    (kk : ∀ (r : UInt64) (u : S) (t : State) (H1 : Heap) (locs1 : List Loc), t.heap = H1 → s.vm.Alike t.vm → post r u → B u t → H.size ≤ H1.size → (∀ q : Nat, q < H.size → ¬ A1 q → H1[q]? = H[q]?) → va_S A0 H0 H1 locs1 → W p l e R s m args below meth c H1 locs1 (cells + mc) (slots + ms) Q (F0 m (pc + 3) ls (.double r :: rest))) : W p l e R s m args below meth c H locs cells slots Q (F0 m pc ls st0) := by
  intro T hT X
  rcases hr T hT X with ⟨v, st₀, t, T', L, h0, X', hL, e1, e2, ⟨⟨r, u, hv, hp, hb⟩, hF⟩, st⟩ | ⟨q, st₀, t, T', L, E, ce, h0, X', hL, e1, e2, ⟨u, hp, hb, hF⟩, hce, hcv, hcl, st⟩
  · cases hv
    obtain ⟨k1, k2, k3⟩ := vx_keep h0 e1 hS hA hf hL hF
    obtain ⟨t2, a1, b1⟩ := kk r u t T'.heap (locs ++ L) e1.symm (by rw [← e2]; exact X'.warmed.alike) hp hb k1 k2 k3 T' rfl X'
    exact ⟨t2, st t2 a1, b1⟩
  · obtain ⟨k1, k2, k3⟩ := vx_keep h0 e1 hS hAX hf hL hF
    obtain ⟨t2, a1, b1⟩ := kx E ce q u t T'.heap (locs ++ L) e1.symm (by rw [← e2]; exact X'.warmed.alike) hp hb k1 k2 k3 (by rw [e1]; exact hce) hcv hcl T' rfl X'
    exact ⟨t2, st.trans a1, b1⟩
theorem vx_callv {S SX : Type} {post : S → Prop} {px : SX → Prop} {B : S → State → Prop} {BX : String → SX → State → Prop} {AX : Nat → Prop} (hr : vx_Run p l e R s m args below meth c H locs cells slots mc ms (F0 m pc ls st0) rest (va_Qv post B A1 a) (vx_X px BX AX) free) (hS : va_S A0 H0 H locs) (hA : ∀ q, q < H.size → A1 q → A0 q) (hf : ∀ q, free q → A0 q) (hAX : ∀ q, q < H.size → AX q → A0 q)
    (kx : ∀ (E : String) (ce : Cell) (q9 : Addr) (u : SX) (t : State) (H1 : Heap) (locs1 : List Loc), t.heap = H1 → s.vm.Alike t.vm → px u → BX E u t → H.size ≤ H1.size → (∀ q : Nat, q < H.size → ¬ AX q → H1[q]? = H[q]?) → va_S A0 H0 H1 locs1 → H1[q9]? = some ce → ce.vm = .none → s.vm.findClass E = some ce.cls → vx_W p l e R s m args below meth c H1 locs1 (cells + mc) (slots + ms) Q (F0 m pc ls rest) q9)
    (kk : ∀ (u : S) (t : State) (H1 : Heap) (locs1 : List Loc), t.heap = H1 → s.vm.Alike t.vm → post u → B u t → H.size ≤ H1.size → (∀ q : Nat, q < H.size → ¬ A1 q → H1[q]? = H[q]?) → va_S A0 H0 H1 locs1 → W p l e R s m args below meth c H1 locs1 (cells + mc) (slots + ms) Q (F0 m (pc + 3) ls (rest))) : W p l e R s m args below meth c H locs cells slots Q (F0 m pc ls st0) := by
  intro T hT X
  rcases hr T hT X with ⟨v, st₀, t, T', L, h0, X', hL, e1, e2, ⟨⟨u, hv, hp, hb⟩, hF⟩, st⟩ | ⟨q, st₀, t, T', L, E, ce, h0, X', hL, e1, e2, ⟨u, hp, hb, hF⟩, hce, hcv, hcl, st⟩
  · cases hv
    obtain ⟨k1, k2, k3⟩ := vx_keep h0 e1 hS hA hf hL hF
    obtain ⟨t2, a1, b1⟩ := kk u t T'.heap (locs ++ L) e1.symm (by rw [← e2]; exact X'.warmed.alike) hp hb k1 k2 k3 T' rfl X'
    exact ⟨t2, st t2 a1, b1⟩
  · obtain ⟨k1, k2, k3⟩ := vx_keep h0 e1 hS hAX hf hL hF
    obtain ⟨t2, a1, b1⟩ := kx E ce q u t T'.heap (locs ++ L) e1.symm (by rw [← e2]; exact X'.warmed.alike) hp hb k1 k2 k3 (by rw [e1]; exact hce) hcv hcl T' rfl X'
    exact ⟨t2, st.trans a1, b1⟩
/-- caught by the row x of this method's table; the rows ahead don't take it -/
theorem vx_catch {own name : String} {E : String} {ce : Cell} {q : Addr} (hown : s.vm.findClass own = some m.cls) (pre : List ExceptionTableEntry) (x : ExceptionTableEntry) (suf : List ExceptionTableEntry) (hsplit : c.exceptionTable.toList = pre ++ x :: suf)
    (hpass : ∀ z ∈ pre, covers z pc = false ∨ (z.catchType ≠ 0 ∧ ∃ nm : String, (Cond.classLink own z.catchType nm).before args s = true ∧ va_Nc E nm s)) (hx : covers x pc = true) (h0 : x.catchType ≠ 0)
    (hlink : (Cond.classLink own x.catchType name).before args s = true) (hcast : (Cond.castable E name).before args s = true) (hcell : H[q]? = some ce) (hv : ce.vm = .none) (hcl : s.vm.findClass E = some ce.cls)
    (kk : W p l e R s m args below meth c H locs cells slots Q (F0 m x.handlerPc ls [.ref q])) : vx_W p l e R s m args below meth c H locs cells slots Q (F0 m pc ls rest) q := by
  intro T hT X
  have hpl : e.platform.magicAccessors = ({} : Platform).magicAccessors := by rw [X.admits.platform]
  obtain ⟨c3, c4, hc3, hc4, hasg⟩ := Cond.castable_spec hcast
  cases Option.some.inj (hc3.symm.trans hcl)
  obtain ⟨c5, hc5, hcl5⟩ := Cond.classLink_spec hown hlink e.platform hpl
  cases Option.some.inj (hc4.symm.trans hc5)
  obtain ⟨vm', X', st⟩ := X.thenCaughtThrough q (g := F0 m pc ls rest) rfl (Steps.refl _) (by rw [hT]; exact hcell) (by rw [hv]; rfl) (by obtain ⟨k9, h9, -⟩ := Vm.findClass_spec hcl; exact ⟨k9, h9⟩) pre x suf hsplit
    (fun z hz => by
      rcases hpass z hz with h | ⟨hz0, nm, hl1, hn1⟩
      · exact Or.inl h
      · obtain ⟨c6, hc6, hcl6⟩ := Cond.classLink_spec hown hl1 e.platform hpl
        obtain ⟨a8, b8, h1, h2, h3⟩ := hn1
        cases Option.some.inj (h1.symm.trans hcl)
        cases Option.some.inj (h2.symm.trans hc6)
        exact Or.inr ⟨hz0, _, hcl6, h3⟩) hx (Or.inr ⟨h0, c4, hcl5, hasg⟩)
  obtain ⟨t, a1, b1⟩ := kk (T.setVm vm') hT X'
  exact ⟨t, st.trans a1, b1⟩
end Rows
section Ends
variable {p : Program} {l : Launch} {e : Env} {R : Room} {s : State} {m : MethodId} {args : Array Value} {below : List Frame} {meth : Method} {c : Code} {H : Heap} {locs : List Loc} {cells slots : Nat} {Q : State → Prop}
variable {mc ms : Nat} {free : Addr → Prop} {A0 A1 : Nat → Prop} {H0 : Heap} {a : Array Value} {ls : Array Slot} {st0 rest : List Value}
variable {Qc : Array Value → State → Outcome → State → Prop} {XC : String → State → State → Prop}
/-- what a body that may throw owes at its end -/
def vx_MQ (below : List Frame) (Qc : Array Value → State → Outcome → State → Prop) (XC : String → State → State → Prop) (a : Array Value) (s : State) (mc ms : Nat) (free : Addr → Prop) : State → Prop := fun t =>
  ∃ o, t.status = .running ∧ Ended t below o ∧ vx_Q Qc XC mc ms free a s o t
theorem vx_ret {g : JFrame} {mc ms : Nat} (k : W p l e R s m args below meth c H locs cells slots (MQ below Qc args s mc ms free) g) : W p l e R s m args below meth c H locs cells slots (vx_MQ below Qc XC args s mc ms free) g := by
  intro T hT X
  obtain ⟨t, a1, o, b1, b2, b3, b4⟩ := k T hT X
  exact ⟨t, a1, o, b1, b2, Or.inl ⟨b3, b4⟩⟩
/-- not caught here: it goes on to the caller -/
theorem vx_widen {g : JFrame} {q : Addr} {k n : Nat} (h1 : cells ≤ k) (h2 : slots ≤ n) (kk : vx_W p l e R s m args below meth c H locs k n Q g q) : vx_W p l e R s m args below meth c H locs cells slots Q g q := fun T hT X => kk T hT (stand_widen X h1 h2)
theorem vx_out {pc : Nat} {E : String} {ce : Cell} {q : Addr} {mc ms : Nat} (hout : ∀ x ∈ c.exceptionTable.toList, covers x pc = false) (hlocks : meth.locks = false) (hcell : H[q]? = some ce) (hv : ce.vm = .none) (hcl : s.vm.findClass E = some ce.cls)
    (hx : ∀ t : State, t.heap = H → s.vm.Alike t.vm → XC E s t) (hf : ∀ z ∈ locs, free z.base) (hc : cells ≤ mc) (hs : slots ≤ ms) :
    vx_W p l e R s m args below meth c H locs cells slots (vx_MQ below Qc XC args s mc ms free) (F0 m pc ls rest) q := by
  intro T hT X
  obtain ⟨st1, hrun, hend, hW, hsm⟩ := X.leaveThrown q (g := F0 m pc ls rest) rfl rfl rfl hout hlocks
  have hcell9 : (T.setFrames (.throwing q :: below)).heap[q]? = some ce := by
    show T.heap[q]? = some ce
    rw [hT]; exact hcell
  exact ⟨_, st1, .threw q, hrun, hend, Or.inr ⟨q, rfl, E, ce, locs, hx _ hT hW.alike, hcell9, hv, hcl, hW, hsm.mono hc hs, hf⟩⟩
theorem vx_frame {U : State} {k n : Nat} (h : s.sameButNew ({ U with vm := s.vm } : State) locs k n) : s.heap.size ≤ U.heap.size ∧ ∀ q : Nat, q < s.heap.size → (∀ z ∈ locs, z.base ≠ q) → U.heap[q]? = s.heap[q]? := by
  obtain ⟨-, h2, -, -, -, h6⟩ := h
  refine ⟨h2, fun q hq hz => ?_⟩
  obtain ⟨c9, e1, e2, e3, e4⟩ := h6 q _ (Array.getElem?_eq_getElem hq)
  have hs : c9.slots = (s.heap[q]).slots := Array.ext_getElem? fun i => e4 i fun hm => hz _ hm rfl
  have h9 : c9 = s.heap[q] := by
    rw [hs] at e2
    exact e2
  have e5 : U.heap[q]? = some c9 := e1
  rw [e5, h9, Array.getElem?_eq_getElem hq]
/-- the words of a throw but the four that speak of the heap -/
def vx_no (w : Cond) : Bool := decide (w ≠ .isRef (.static Bundle.tN "UNASSIGNED_STACK" Bundle.steD)) && decide (w ≠ .isRef (.static Bundle.tN "SUPPRESSED_SENTINEL" Bundle.listD)) && decide (w ≠ .laysStatic Bundle.tN "UNASSIGNED_STACK" Bundle.steD) && decide (w ≠ .laysStatic Bundle.tN "SUPPRESSED_SENTINEL" Bundle.listD)
def vx_at0 (own : String) (ic : Nat) (X : String) (names : List String) : List Cond := (Bundle.ownAtoms0 own ic X names).filter vx_no
def vx_atS (own : String) (ic : Nat) (X : String) (names : List String) : List Cond := (Bundle.ownAtoms own ic X names).filter vx_no
/-- a word that the tables alone decide, or a good one -/
def vx_ot (w : Cond) : Bool := w.onTables || goodWord w
theorem vx_ot_at {args a' : Array Value} {s U : State} {w : Cond} (hW : s.WarmedH U.vm) (hvm : s.vm = U.vm) (hg : vx_ot w = true) (h : w.before args s = true) : w.before a' U = true := by
  simp only [vx_ot, Bool.or_eq_true] at hg
  rcases hg with hg | hg
  · exact va_tabs hg hvm h
  · exact word_at hW (good_of_word hg) h
/-- a list's words: the good ones out of the method's own list, the others by premises of their own -/
theorem vx_hat {args : Array Value} {s : State} {L B : List Cond} (h1 : ∀ w ∈ L.filter goodWord, w.before args s = true) (h2 : ∀ w ∈ L.filter (fun w => !goodWord w), w ∈ B) (h3 : ∀ w ∈ B, w.before args s = true) : ∀ w ∈ L, w.before args s = true := by
  intro w hw
  by_cases g : goodWord w = true
  · exact h1 w (List.mem_filter.mpr ⟨hw, g⟩)
  · refine h3 w (h2 w (List.mem_filter.mpr ⟨hw, ?_⟩))
    show (!goodWord w) = true
    cases hgw : goodWord w
    · rfl
    · exact absurd hgw g
theorem vx_c {args : Array Value} {s : State} {w : Cond} {B : List Cond} (h : w.before args s = true) (t : ∀ w ∈ B, w.before args s = true) : ∀ w' ∈ w :: B, w'.before args s = true := fun w' h' => (List.mem_cons.mp h').elim (fun e => by rw [e]; exact h) (t w')
theorem vx_n {args : Array Value} {s : State} : ∀ w ∈ ([] : List Cond), w.before args s = true := fun _ h => nomatch h
theorem vx_own {args : Array Value} {s : State} {L : List Cond} (h1 : ∀ w ∈ L.filter vx_no, w.before args s = true)
    (hU : (Cond.isRef (.static Bundle.tN "UNASSIGNED_STACK" Bundle.steD)).before args s = true) (hN : (Cond.isRef (.static Bundle.tN "SUPPRESSED_SENTINEL" Bundle.listD)).before args s = true)
    (lU : (Cond.laysStatic Bundle.tN "UNASSIGNED_STACK" Bundle.steD).before args s = true) (lN : (Cond.laysStatic Bundle.tN "SUPPRESSED_SENTINEL" Bundle.listD).before args s = true) : ∀ w ∈ L, w.before args s = true := by
  intro w hw
  by_cases e1 : w = .isRef (.static Bundle.tN "UNASSIGNED_STACK" Bundle.steD)
  · rw [e1]; exact hU
  · by_cases e2 : w = .isRef (.static Bundle.tN "SUPPRESSED_SENTINEL" Bundle.listD)
    · rw [e2]; exact hN
    · by_cases e3 : w = .laysStatic Bundle.tN "UNASSIGNED_STACK" Bundle.steD
      · rw [e3]; exact lU
      · by_cases e4 : w = .laysStatic Bundle.tN "SUPPRESSED_SENTINEL" Bundle.listD
        · rw [e4]; exact lN
        · exact h1 w (List.mem_filter.mpr ⟨hw, by unfold vx_no; rw [decide_eq_true e1, decide_eq_true e2, decide_eq_true e3, decide_eq_true e4]; rfl⟩)
/-- where a static field lies, its class's statics cell in H -/
def vx_L (C n d : String) (A : Nat → Prop) (U : State) (H : Heap) : Prop := ∃ (c : ClassId) (k : Class) (i : Nat) (f : Field) (a : Nat) (cell : Cell), U.vm.findClass C = some c ∧ U.fieldFound? C n d = some (c, k, i, f) ∧ f.isStatic = true ∧ k.statics = some a ∧ H[a]? = some cell ∧ cell.vm.isStatics = true ∧ cell.cls = c ∧ f.slot < cell.slots.size ∧ k.staticTypes[f.slot]? = some f.type ∧ ¬ A a
theorem vx_L.moved {C n d : String} {A : Nat → Prop} {u U : State} {H : Heap} (hvm : u.vm.Alike U.vm) (h : vx_L C n d A u H) : vx_L C n d A U H := by
  obtain ⟨c, k, i, f, a, cell, h1, h2, h3, h4, h5, h6, h7, h8, h9, h10⟩ := h
  obtain ⟨k', hi', he⟩ := State.fieldFound?_setVm hvm h2
  exact ⟨c, k', i, f, a, cell, by rw [hvm.findClass]; exact h1, hi', h3, by rw [he]; exact h4, h5, h6, h7, h8, by rw [he]; exact h9, h10⟩
theorem vx_L.kept {C n d : String} {A : Nat → Prop} {U : State} {H H1 : Heap} (h : vx_L C n d A U H) (hq : ∀ a : Nat, a < H.size → ¬ A a → H1[a]? = H[a]?) : vx_L C n d A U H1 := by
  obtain ⟨c, k, i, f, a, cell, h1, h2, h3, h4, h5, h6, h7, h8, h9, h10⟩ := h
  exact ⟨c, k, i, f, a, cell, h1, h2, h3, h4, by rw [hq a (Array.getElem?_eq_some_iff.mp h5).1 h10]; exact h5, h6, h7, h8, h9, h10⟩
theorem vx_L.narrow {C n d : String} {A B : Nat → Prop} {U : State} {H : Heap} (h : vx_L C n d A U H) (hAB : ∀ q, B q → A q) : vx_L C n d B U H := by
  obtain ⟨c, k, i, f, a, cell, h1, h2, h3, h4, h5, h6, h7, h8, h9, h10⟩ := h
  exact ⟨c, k, i, f, a, cell, h1, h2, h3, h4, h5, h6, h7, h8, h9, fun z => h10 (hAB _ z)⟩
theorem vx_L.word {C n d : String} {A : Nat → Prop} {s : State} {args : Array Value} (h : vx_L C n d A s s.heap) : (Cond.laysStatic C n d).before args s = true := by
  obtain ⟨c, k, i, f, a, cell, h1, h2, h3, h4, h5, h6, h7, h8, h9, -⟩ := h
  show (Cond.laysStatic C n d).holds args s none s [] = true
  exact Cond.laysStatic_of h1 h2 h3 h4 h5 h6 h7 h8 h9
/-- .. and what it holds: null or some reference -/
def vx_Zq (C n d : String) (A : Nat → Prop) (U : State) (H : Heap) : Prop := va_Zq C n d A U H ∧ vx_L C n d A U H
theorem vx_Zq.moved {C n d : String} {A : Nat → Prop} {u U : State} {H : Heap} (hvm : u.vm.Alike U.vm) (h : vx_Zq C n d A u H) : vx_Zq C n d A U H := ⟨va_Zq.moved hvm h.1, vx_L.moved hvm h.2⟩
theorem vx_Zq.kept {C n d : String} {A : Nat → Prop} {U : State} {H H1 : Heap} (h : vx_Zq C n d A U H) (hq : ∀ a : Nat, a < H.size → ¬ A a → H1[a]? = H[a]?) : vx_Zq C n d A U H1 := ⟨va_Zq.kept h.1 hq, vx_L.kept h.2 hq⟩
theorem vx_Zq.narrow {C n d : String} {A B : Nat → Prop} {U : State} {H : Heap} (h : vx_Zq C n d A U H) (hAB : ∀ q, B q → A q) : vx_Zq C n d B U H := ⟨va_Zq.narrow h.1 hAB, vx_L.narrow h.2 hAB⟩
theorem vx_Zqof {args : Array Value} {s : State} {C n d : String} {A : Nat → Prop} (hl : (Cond.laysStatic C n d).before args s = true) (hini : (Cond.initialized C).before args s = true) (h : (Cond.isRef (.static C n d)).before args s = true) (hA : ∀ a : Nat, a < s.heap.size → ¬ A a) : vx_Zq C n d A s s.heap := by
  refine ⟨va_Zqof hl hini h hA, ?_⟩
  obtain ⟨c, k, i, f, a, cell, h1, h2, h3, h4, h5, h6, h7, h8, h9⟩ := Cond.laysStatic_spec hl
  exact ⟨c, k, i, f, a, cell, h1, h2, h3, h4, h5, h6, h7, h8, h9, hA a (Array.getElem?_eq_some_iff.mp h5).1⟩
theorem vx_isRef {C n d : String} {v : Value} {A : Nat → Prop} {s : State} {args : Array Value} (h : va_Z C n d v A s s.heap) (hv : v.isRef = true) : (Cond.isRef (.static C n d)).before args s = true := by
  obtain ⟨cf, kf, fi, f, a, cell, h1, h2, h3, h4, h5, h6, h7, -⟩ := h
  have he : (Term.static C n d).eval args s none [] s = some v := by
    simp [Term.eval, State.fieldNamed?, h1, h2, h4, h5, h6, h7]
  simp only [Cond.before, Cond.holds, Cond.value, he]
  cases v <;> simp_all [Value.isRef]
theorem vx_isRefq {C n d : String} {A : Nat → Prop} {s : State} {args : Array Value} (h : va_Zq C n d A s s.heap) : (Cond.isRef (.static C n d)).before args s = true := by
  rcases h with h | ⟨t, h⟩
  · exact vx_isRef h rfl
  · exact vx_isRef h rfl
/-- the same frame, seen from here: as if the method were called anew in this heap -/
theorem vx_rebase {T : State} (X : Stand p l e R s m args below meth c T locs cells slots) {R' : Room} (hf : R'.frames ≤ R.frames) (hl : R'.locals ≤ R.locals) (hc : cells + R'.cells ≤ R.cells) (hs : slots + R'.slots ≤ R.slots) :
    Stand p l e R' ((T.setVm s.vm).setFrames (.invoking m args :: below)) m args below meth c T [] 0 0 := by
  have htop : (T.setVm s.vm).topJava?.isSome := X.here.top
  have hF : ((T.setVm s.vm).setFrames (.invoking m args :: below)).frames = .invoking m args :: below := State.frames_setFrames _ (State.cur_lt_of_top htop)
  obtain ⟨g₀, hg0⟩ := Option.isSome_iff_exists.mp htop
  obtain ⟨r, hr⟩ := State.topJava?_eq_some.mp hg0
  have hl9 : e.platform.stackLimits (T.setVm s.vm).me = e.platform.stackLimits s.me := X.limits
  have hb9 : (T.setVm s.vm).me.stackBytes = s.me.stackBytes := X.bytes
  refine ⟨X.admits, X.cas, X.clock, hF, ?_, X.hears, X.method, X.code, X.here, X.tail, X.warmed, ?_, ?_, ?_⟩
  · have h := X.room
    have hU : ((T.setVm s.vm).setFrames (.invoking m args :: below)).localsInUse = s.localsInUse := by
      rw [State.localsInUse_invoking hF (meth := meth) (c := c) X.method X.code, State.localsInUse_invoking X.frames X.method X.code]
    simp only [State.hasRoom, Bool.and_eq_true, decide_eq_true_eq] at h ⊢
    obtain ⟨⟨⟨⟨h1, h2, h3, h4, h5, h6⟩, h7⟩, h8⟩, h9⟩ := h
    rw [X.frames, List.length_cons] at h2 h3
    have q1 := X.heapSize
    have q2 := X.used
    simp only [hF, hU, List.length_cons, State.stackLimits_setFrames, State.stackBytes_setFrames, hl9, hb9]
    refine ⟨⟨⟨⟨by omega, by omega, by omega, by omega, by omega, h6⟩, ?_⟩, ?_⟩, X.book⟩
    · show T.heap.size + R'.cells ≤ e.platform.maxCells
      omega
    · show T.slotsUsed + R'.slots ≤ e.platform.maxSlots
      omega
  · rw [State.stackLimits_setFrames]; rfl
  · rw [State.stackBytes_setFrames]; rfl
  · refine ⟨?_, Nat.le_refl _, Nat.le_refl _, ?_, ?_, fun a c9 h9 => ⟨c9, h9, rfl, rfl, fun _ _ => rfl⟩⟩
    · obtain ⟨t, ht, -⟩ := State.frames_cons hr
      show T.setVm s.vm = { ((T.setVm s.vm).setFrames (.invoking m args :: below)).setFrames (T.setVm s.vm).frames with heap := T.heap, slotsUsed := T.slotsUsed }
      rw [State.setFrames_setFrames, State.setFrames_self ht]
      rfl
    · show T.slotsUsed = T.slotsUsed + ((T.heap.toList.drop T.heap.size).map (·.slots.size)).sum
      rw [List.drop_eq_nil_of_le (Nat.le_of_eq Array.length_toList)]
      rfl
    · show ((T.heap.toList.drop T.heap.size).map (·.slots.size)).sum ≤ 0
      rw [List.drop_eq_nil_of_le (Nat.le_of_eq Array.length_toList)]
      exact Nat.le_refl _
/-- 'throw new E()': new; dup; invokespecial; athrow -/
theorem vx_throw0 {cc : ByteArray} {pc : Nat} (hexec : p.tables.exec = Jvm.exec) (hb : c.code = cc) (hl : l.stackTraces = false) {own cls : String} {names : List String} {ik ic mc ms : Nat} {A : Nat → Prop}
    (hown : s.vm.findClass own = some m.cls) (hcls : Bundle.fit cls = true) (hnames : ∀ n ∈ names, Bundle.fit n = true)
    (hk : (Cond.classLink own ik cls).before args s = true) (hini : (Cond.initialized cls).before args s = true) (hat : ∀ w ∈ vx_at0 own ic cls names, w.before args s = true)
    (hgood : ∀ w ∈ Cond.classLink own ik cls :: Cond.initialized cls :: vx_at0 own ic cls names, vx_ot w = true)
    (hU : vx_Zq Bundle.tN "UNASSIGNED_STACK" Bundle.steD A s s.heap) (hN : vx_Zq Bundle.tN "SUPPRESSED_SENTINEL" Bundle.listD A s s.heap) (hS : va_S A s.heap H locs) (hsize : ls.size = c.maxLocals)
    (d0 : decode cc pc = .ok (.new ik, 3)) (d3 : decode cc (pc + 3) = .ok (.dup, 1)) (d4 : decode cc (pc + 4) = .ok (.invokespecial ic, 3)) (d7 : decode cc (pc + 7) = .ok (.athrow, 1))
    (hout : ∀ x ∈ c.exceptionTable.toList, covers x (pc + 7) = false)
    (hRframes : names.length + 3 < R.frames) (hRlocals : (rest.map fun v => v.category).sum + (13 * (names.length + 1) + 42) ≤ R.locals) (hRcells : cells + 1 ≤ R.cells) (hRslots : slots + 6 ≤ R.slots) (hlocks : meth.locks = false)
    (hx : ∀ t : State, s.vm.Alike t.vm → H.size ≤ t.heap.size → (∀ q : Nat, q < H.size → t.heap[q]? = H[q]?) → XC cls s t)
    (hf : ∀ z ∈ locs, free z.base) (hc : cells + 1 ≤ mc) (hs : slots + 6 ≤ ms) :
    W p l e R s m args below meth c H locs cells slots (vx_MQ below Qc XC args s mc ms free) (F0 m pc ls rest) := by
  intro T hT X
  have htr : e.platform.stackTraces = false := (show e.platform.stackTraces = l.stackTraces by rw [X.admits.platform]).trans hl
  have Y := vx_rebase X (R' := { frames := R.frames, locals := R.locals, cells := 1, slots := 6 }) (Nat.le_refl _) (Nat.le_refl _) hRcells hRslots
  obtain ⟨s', hA⟩ : ∃ z, z = (T.setVm s.vm).setFrames (.invoking m args :: below) := ⟨_, rfl⟩
  rw [← hA] at Y
  have hvm : s'.vm = s.vm := by rw [hA]; rfl
  have hhp : s'.heap = H := by rw [hA]; exact hT
  have hW0 : s.WarmedH s'.vm := by rw [hvm]; exact State.WarmedH.refl s
  have hat' : ∀ w ∈ vx_at0 own ic cls names, w.before args s' = true := fun w hw => vx_ot_at hW0 hvm.symm (hgood w (List.mem_cons_of_mem _ (List.mem_cons_of_mem _ hw))) (hat w hw)
  have hk' : (Cond.classLink own ik cls).before args s' = true := vx_ot_at hW0 hvm.symm (hgood _ List.mem_cons_self) hk
  have hini' : (Cond.initialized cls).before args s' = true := vx_ot_at hW0 hvm.symm (hgood _ (List.mem_cons_of_mem _ List.mem_cons_self)) hini
  have hU' : vx_Zq Bundle.tN "UNASSIGNED_STACK" Bundle.steD A s' s'.heap := by rw [hhp]; exact vx_Zq.moved hW0.alike (hU.kept hS.2.1)
  have hN' : vx_Zq Bundle.tN "SUPPRESSED_SENTINEL" Bundle.listD A s' s'.heap := by rw [hhp]; exact vx_Zq.moved hW0.alike (hN.kept hS.2.1)
  have h : ∀ w ∈ Bundle.ownAtoms0 own ic cls names, w.before args s' = true := vx_own hat' (vx_isRefq hU'.1) (vx_isRefq hN'.1) hU'.2.word hN'.2.word
  have hown' : s'.vm.findClass own = some m.cls := by rw [hvm]; exact hown
  have hins : (Cond.instantiable cls 6).before args s' = true := h _ (by simp [Bundle.ownAtoms0])
  obtain ⟨vm₁, cX, kX, hfX, hkX, -, -, X₁, st1⟩ := Y.newCold hexec (own := own) (C := cls) (index := ik) (n := 6) hown' hk' hins hini'
    (g := F0 m pc ls rest) rfl (by rw [hb]; exact d0) (Nat.le_refl _) (Nat.le_refl _)
  generalize hT1 : (T.setVm vm₁).pushCell { cls := cX, slots := kX.instanceTypes.map defaultValue, vm := .none } = T1 at X₁ st1
  have hcat : (Value.ref T.heap.size).category = 1 := rfl
  have hcellA : T1.heap[T.heap.size]? = some (freshCell cX kX) := by rw [← hT1]; exact State.heap_pushCell_size _ _
  have d3' : decode c.code (pc + 3) = .ok (.dup, 1) := by rw [hb]; exact d3
  obtain ⟨U, hsteps, hrun, hend, hW, hsame, ce, hce, hO⟩ := X₁.ctorThrow0 hexec htr (own := own) (cls := cls) (names := names) (ic := ic) hown' hcls hnames h (fun x hx => nomatch hx) hfX hkX hcellA (by rw [hhp, hT]; exact Nat.le_refl _)
    (g := { method := m, pc := pc + 4, locals := ls, stack := .ref T.heap.size :: .ref T.heap.size :: rest, locked := none }) rfl hsize rfl rfl (rest := rest) rfl
    (by rw [hb]; exact d4) (by rw [hb]; exact d7) hout hRframes (by simp only [List.map_cons, List.sum_cons, hcat]; omega) hlocks
  obtain ⟨f1, f2⟩ := vx_frame hsame
  rw [hhp] at f1 f2
  have hWs : s.WarmedH U.vm := State.WarmedH.trans hW0 hW
  have hcl : s.vm.findClass cls = some ce.cls := by
    have h9 := hO.cls
    rw [hvm] at h9
    exact h9
  have hall : s.sameButNew ({ U with vm := s.vm } : State) locs mc ms := by
    subst hA
    obtain ⟨e1, e2⟩ := hsame
    rw [State.setFrames_setFrames] at e1
    have h2 : (T.setVm s.vm).sameButNew ({ U with vm := s.vm } : State) [] (0 + 1) (0 + 6) := ⟨e1, e2⟩
    have h3 := X.same.trans h2
    rw [List.append_nil] at h3
    exact h3.mono hc hs
  refine ⟨U, ?_, .threw T.heap.size, hrun, hend, Or.inr ⟨T.heap.size, rfl, cls, ce, locs, hx U hWs.alike f1 (fun q hq => f2 q hq (fun z hz => nomatch hz)), hce, hO.vm, hcl, hWs, hall, hf⟩⟩
  refine st1 _ ?_
  show Steps p.tables e below (T1.setTop { method := m, pc := pc + 3, locals := ls, stack := .ref T.heap.size :: rest, locked := none }) _
  jvm_step X₁.here [X₁.here.top, hexec, d3', Value.category]
  exact hsteps
/-- 'throw new E("text")': new; dup; ldc; invokespecial; athrow -/
theorem vx_throwS {cc : ByteArray} {pc : Nat} (hexec : p.tables.exec = Jvm.exec) (hb : c.code = cc) (hl : l.stackTraces = false) {own cls text : String} {names : List String} {ik is ic mc ms sa : Nat} {A : Nat → Prop}
    (hown : s.vm.findClass own = some m.cls) (hcls : Bundle.fit cls = true) (hnames : ∀ n ∈ names, Bundle.fit n = true)
    (hk : (Cond.classLink own ik cls).before args s = true) (hini : (Cond.initialized cls).before args s = true) (hstr : vk_R own is text sa s) (hat : ∀ w ∈ vx_atS own ic cls names, w.before args s = true)
    (hgood : ∀ w ∈ Cond.classLink own ik cls :: Cond.initialized cls :: vx_atS own ic cls names, vx_ot w = true)
    (hU : vx_Zq Bundle.tN "UNASSIGNED_STACK" Bundle.steD A s s.heap) (hN : vx_Zq Bundle.tN "SUPPRESSED_SENTINEL" Bundle.listD A s s.heap) (hS : va_S A s.heap H locs) (hsize : ls.size = c.maxLocals)
    (d0 : decode cc pc = .ok (.new ik, 3)) (d3 : decode cc (pc + 3) = .ok (.dup, 1)) (d4 : decode cc (pc + 4) = .ok (.ldc is, 2)) (d6 : decode cc (pc + 6) = .ok (.invokespecial ic, 3)) (d9 : decode cc (pc + 9) = .ok (.athrow, 1))
    (hout : ∀ x ∈ c.exceptionTable.toList, covers x (pc + 9) = false)
    (hRframes : names.length + 3 < R.frames) (hRlocals : (rest.map fun v => v.category).sum + (13 * (names.length + 1) + 43) ≤ R.locals) (hRcells : cells + 1 ≤ R.cells) (hRslots : slots + 6 ≤ R.slots) (hlocks : meth.locks = false)
    (hx : ∀ t : State, s.vm.Alike t.vm → H.size ≤ t.heap.size → (∀ q : Nat, q < H.size → t.heap[q]? = H[q]?) → XC cls s t)
    (hf : ∀ z ∈ locs, free z.base) (hc : cells + 1 ≤ mc) (hs : slots + 6 ≤ ms) :
    W p l e R s m args below meth c H locs cells slots (vx_MQ below Qc XC args s mc ms free) (F0 m pc ls rest) := by
  intro T hT X
  have htr : e.platform.stackTraces = false := (show e.platform.stackTraces = l.stackTraces by rw [X.admits.platform]).trans hl
  have Y := vx_rebase X (R' := { frames := R.frames, locals := R.locals, cells := 1, slots := 6 }) (Nat.le_refl _) (Nat.le_refl _) hRcells hRslots
  obtain ⟨s', hA⟩ : ∃ z, z = (T.setVm s.vm).setFrames (.invoking m args :: below) := ⟨_, rfl⟩
  rw [← hA] at Y
  have hvm : s'.vm = s.vm := by rw [hA]; rfl
  have hhp : s'.heap = H := by rw [hA]; exact hT
  have hW0 : s.WarmedH s'.vm := by rw [hvm]; exact State.WarmedH.refl s
  have hat' : ∀ w ∈ vx_atS own ic cls names, w.before args s' = true := fun w hw => vx_ot_at hW0 hvm.symm (hgood w (List.mem_cons_of_mem _ (List.mem_cons_of_mem _ hw))) (hat w hw)
  have hk' : (Cond.classLink own ik cls).before args s' = true := vx_ot_at hW0 hvm.symm (hgood _ List.mem_cons_self) hk
  have hini' : (Cond.initialized cls).before args s' = true := vx_ot_at hW0 hvm.symm (hgood _ (List.mem_cons_of_mem _ List.mem_cons_self)) hini
  have hU' : vx_Zq Bundle.tN "UNASSIGNED_STACK" Bundle.steD A s' s'.heap := by rw [hhp]; exact vx_Zq.moved hW0.alike (hU.kept hS.2.1)
  have hN' : vx_Zq Bundle.tN "SUPPRESSED_SENTINEL" Bundle.listD A s' s'.heap := by rw [hhp]; exact vx_Zq.moved hW0.alike (hN.kept hS.2.1)
  have h : ∀ w ∈ Bundle.ownAtoms own ic cls names, w.before args s' = true := vx_own hat' (vx_isRefq hU'.1) (vx_isRefq hN'.1) hU'.2.word hN'.2.word
  have hown' : s'.vm.findClass own = some m.cls := by rw [hvm]; exact hown
  have hins : (Cond.instantiable cls 6).before args s' = true := h _ (by simp [Bundle.ownAtoms])
  obtain ⟨vm₁, cX, kX, hfX, hkX, -, -, X₁, st1⟩ := Y.newCold hexec (own := own) (C := cls) (index := ik) (n := 6) hown' hk' hins hini'
    (g := F0 m pc ls rest) rfl (by rw [hb]; exact d0) (Nat.le_refl _) (Nat.le_refl _)
  generalize hT1 : (T.setVm vm₁).pushCell { cls := cX, slots := kX.instanceTypes.map defaultValue, vm := .none } = T1 at X₁ st1
  have hcat : (Value.ref T.heap.size).category = 1 := rfl
  have hcellA : T1.heap[T.heap.size]? = some (freshCell cX kX) := by rw [← hT1]; exact State.heap_pushCell_size _ _
  have d3' : decode c.code (pc + 3) = .ok (.dup, 1) := by rw [hb]; exact d3
  have d4' : decode c.code (pc + 4) = .ok (.ldc is, 2) := by rw [hb]; exact d4
  have hstr' : vk_R own is text sa s' := vk_R.warm hW0 hstr
  obtain ⟨U, hsteps, hrun, hend, hW, hsame, ce, hce, hO⟩ := X₁.ctorThrowS hexec htr (own := own) (cls := cls) (names := names) (ic := ic) hown' hcls hnames h (fun x hx => nomatch hx) hfX hkX hcellA (by rw [hhp, hT]; exact Nat.le_refl _) (msg := .ref sa) rfl
    (g := { method := m, pc := pc + 6, locals := ls, stack := .ref sa :: .ref T.heap.size :: .ref T.heap.size :: rest, locked := none }) rfl hsize rfl rfl (rest := rest) rfl
    (by rw [hb]; exact d6) (by rw [hb]; exact d9) hout hRframes (by simp only [List.map_cons, List.sum_cons, hcat]; omega) hlocks
  obtain ⟨f1, f2⟩ := vx_frame hsame
  rw [hhp] at f1 f2
  have hWs : s.WarmedH U.vm := State.WarmedH.trans hW0 hW
  have hcl : s.vm.findClass cls = some ce.cls := by
    have h9 := hO.cls
    rw [hvm] at h9
    exact h9
  have hall : s.sameButNew ({ U with vm := s.vm } : State) locs mc ms := by
    subst hA
    obtain ⟨e1, e2⟩ := hsame
    rw [State.setFrames_setFrames] at e1
    have h2 : (T.setVm s.vm).sameButNew ({ U with vm := s.vm } : State) [] (0 + 1) (0 + 6) := ⟨e1, e2⟩
    have h3 := X.same.trans h2
    rw [List.append_nil] at h3
    exact h3.mono hc hs
  refine ⟨U, ?_, .threw T.heap.size, hrun, hend, Or.inr ⟨T.heap.size, rfl, cls, ce, locs, hx U hWs.alike f1 (fun q hq => f2 q hq (fun z hz => nomatch hz)), hce, hO.vm, hcl, hWs, hall, hf⟩⟩
  refine st1 _ ?_
  show Steps p.tables e below (T1.setTop { method := m, pc := pc + 3, locals := ls, stack := .ref T.heap.size :: rest, locked := none }) _
  jvm_step X₁.here [X₁.here.top, hexec, d3', Value.category]
  exact X₁.ldcString hexec (own := own) (text := text) (index := is) (a := sa) hown' hstr'.1 hstr'.2
    (g := { method := m, pc := pc + 4, locals := ls, stack := .ref T.heap.size :: .ref T.heap.size :: rest, locked := none }) rfl d4' _ hsteps
/-- 'throw new E("text")', the text by a wide index -/
theorem vx_throwSW {cc : ByteArray} {pc : Nat} (hexec : p.tables.exec = Jvm.exec) (hb : c.code = cc) (hl : l.stackTraces = false) {own cls text : String} {names : List String} {ik is ic mc ms sa : Nat} {A : Nat → Prop}
    (hown : s.vm.findClass own = some m.cls) (hcls : Bundle.fit cls = true) (hnames : ∀ n ∈ names, Bundle.fit n = true)
    (hk : (Cond.classLink own ik cls).before args s = true) (hini : (Cond.initialized cls).before args s = true) (hstr : vk_R own is text sa s) (hat : ∀ w ∈ vx_atS own ic cls names, w.before args s = true)
    (hgood : ∀ w ∈ Cond.classLink own ik cls :: Cond.initialized cls :: vx_atS own ic cls names, vx_ot w = true)
    (hU : vx_Zq Bundle.tN "UNASSIGNED_STACK" Bundle.steD A s s.heap) (hN : vx_Zq Bundle.tN "SUPPRESSED_SENTINEL" Bundle.listD A s s.heap) (hS : va_S A s.heap H locs) (hsize : ls.size = c.maxLocals)
    (d0 : decode cc pc = .ok (.new ik, 3)) (d3 : decode cc (pc + 3) = .ok (.dup, 1)) (d4 : decode cc (pc + 4) = .ok (.ldc_w is, 3)) (d7 : decode cc (pc + 7) = .ok (.invokespecial ic, 3)) (d10 : decode cc (pc + 10) = .ok (.athrow, 1))
    (hout : ∀ x ∈ c.exceptionTable.toList, covers x (pc + 10) = false)
    (hRframes : names.length + 3 < R.frames) (hRlocals : (rest.map fun v => v.category).sum + (13 * (names.length + 1) + 43) ≤ R.locals) (hRcells : cells + 1 ≤ R.cells) (hRslots : slots + 6 ≤ R.slots) (hlocks : meth.locks = false)
    (hx : ∀ t : State, s.vm.Alike t.vm → H.size ≤ t.heap.size → (∀ q : Nat, q < H.size → t.heap[q]? = H[q]?) → XC cls s t)
    (hf : ∀ z ∈ locs, free z.base) (hc : cells + 1 ≤ mc) (hs : slots + 6 ≤ ms) :
    W p l e R s m args below meth c H locs cells slots (vx_MQ below Qc XC args s mc ms free) (F0 m pc ls rest) := by
  intro T hT X
  have htr : e.platform.stackTraces = false := (show e.platform.stackTraces = l.stackTraces by rw [X.admits.platform]).trans hl
  have Y := vx_rebase X (R' := { frames := R.frames, locals := R.locals, cells := 1, slots := 6 }) (Nat.le_refl _) (Nat.le_refl _) hRcells hRslots
  obtain ⟨s', hA⟩ : ∃ z, z = (T.setVm s.vm).setFrames (.invoking m args :: below) := ⟨_, rfl⟩
  rw [← hA] at Y
  have hvm : s'.vm = s.vm := by rw [hA]; rfl
  have hhp : s'.heap = H := by rw [hA]; exact hT
  have hW0 : s.WarmedH s'.vm := by rw [hvm]; exact State.WarmedH.refl s
  have hat' : ∀ w ∈ vx_atS own ic cls names, w.before args s' = true := fun w hw => vx_ot_at hW0 hvm.symm (hgood w (List.mem_cons_of_mem _ (List.mem_cons_of_mem _ hw))) (hat w hw)
  have hk' : (Cond.classLink own ik cls).before args s' = true := vx_ot_at hW0 hvm.symm (hgood _ List.mem_cons_self) hk
  have hini' : (Cond.initialized cls).before args s' = true := vx_ot_at hW0 hvm.symm (hgood _ (List.mem_cons_of_mem _ List.mem_cons_self)) hini
  have hU' : vx_Zq Bundle.tN "UNASSIGNED_STACK" Bundle.steD A s' s'.heap := by rw [hhp]; exact vx_Zq.moved hW0.alike (hU.kept hS.2.1)
  have hN' : vx_Zq Bundle.tN "SUPPRESSED_SENTINEL" Bundle.listD A s' s'.heap := by rw [hhp]; exact vx_Zq.moved hW0.alike (hN.kept hS.2.1)
  have h : ∀ w ∈ Bundle.ownAtoms own ic cls names, w.before args s' = true := vx_own hat' (vx_isRefq hU'.1) (vx_isRefq hN'.1) hU'.2.word hN'.2.word
  have hown' : s'.vm.findClass own = some m.cls := by rw [hvm]; exact hown
  have hins : (Cond.instantiable cls 6).before args s' = true := h _ (by simp [Bundle.ownAtoms])
  obtain ⟨vm₁, cX, kX, hfX, hkX, -, -, X₁, st1⟩ := Y.newCold hexec (own := own) (C := cls) (index := ik) (n := 6) hown' hk' hins hini'
    (g := F0 m pc ls rest) rfl (by rw [hb]; exact d0) (Nat.le_refl _) (Nat.le_refl _)
  generalize hT1 : (T.setVm vm₁).pushCell { cls := cX, slots := kX.instanceTypes.map defaultValue, vm := .none } = T1 at X₁ st1
  have hcat : (Value.ref T.heap.size).category = 1 := rfl
  have hcellA : T1.heap[T.heap.size]? = some (freshCell cX kX) := by rw [← hT1]; exact State.heap_pushCell_size _ _
  have d3' : decode c.code (pc + 3) = .ok (.dup, 1) := by rw [hb]; exact d3
  have d4' : decode c.code (pc + 4) = .ok (.ldc_w is, 3) := by rw [hb]; exact d4
  have hstr' : vk_R own is text sa s' := vk_R.warm hW0 hstr
  obtain ⟨U, hsteps, hrun, hend, hW, hsame, ce, hce, hO⟩ := X₁.ctorThrowS hexec htr (own := own) (cls := cls) (names := names) (ic := ic) hown' hcls hnames h (fun x hx => nomatch hx) hfX hkX hcellA (by rw [hhp, hT]; exact Nat.le_refl _) (msg := .ref sa) rfl
    (g := { method := m, pc := pc + 7, locals := ls, stack := .ref sa :: .ref T.heap.size :: .ref T.heap.size :: rest, locked := none }) rfl hsize rfl rfl (rest := rest) rfl
    (by rw [hb]; exact d7) (by rw [hb]; exact d10) hout hRframes (by simp only [List.map_cons, List.sum_cons, hcat]; omega) hlocks
  obtain ⟨f1, f2⟩ := vx_frame hsame
  rw [hhp] at f1 f2
  have hWs : s.WarmedH U.vm := State.WarmedH.trans hW0 hW
  have hcl : s.vm.findClass cls = some ce.cls := by
    have h9 := hO.cls
    rw [hvm] at h9
    exact h9
  have hall : s.sameButNew ({ U with vm := s.vm } : State) locs mc ms := by
    subst hA
    obtain ⟨e1, e2⟩ := hsame
    rw [State.setFrames_setFrames] at e1
    have h2 : (T.setVm s.vm).sameButNew ({ U with vm := s.vm } : State) [] (0 + 1) (0 + 6) := ⟨e1, e2⟩
    have h3 := X.same.trans h2
    rw [List.append_nil] at h3
    exact h3.mono hc hs
  refine ⟨U, ?_, .threw T.heap.size, hrun, hend, Or.inr ⟨T.heap.size, rfl, cls, ce, locs, hx U hWs.alike f1 (fun q hq => f2 q hq (fun z hz => nomatch hz)), hce, hO.vm, hcl, hWs, hall, hf⟩⟩
  refine st1 _ ?_
  show Steps p.tables e below (T1.setTop { method := m, pc := pc + 3, locals := ls, stack := .ref T.heap.size :: rest, locked := none }) _
  jvm_step X₁.here [X₁.here.top, hexec, d3', Value.category]
  exact X₁.ldcStringW hexec (own := own) (text := text) (index := is) (a := sa) hown' hstr'.1 hstr'.2
    (g := { method := m, pc := pc + 4, locals := ls, stack := .ref T.heap.size :: .ref T.heap.size :: rest, locked := none }) rfl d4' _ hsteps
end Ends
section Bodies
variable {l : Launch}
theorem vx_ofW {y : MethodName} {ws ws' : List Cond} {rm : Room} {Pc : Array Value → State → Prop} {Qc : Array Value → State → Outcome → State → Prop} {XC : String → State → State → Prop} {mc ms : Nat} {free : Addr → Prop} {cc : ByteArray} {maxL : Nat} {ret : Option FieldType}
    (hy : plainName y.cls = true) (hw : ws = Cond.code y cc maxL ret :: ws')
    (body : ∀ p e s m args below meth c s₁, BodyLoose p l y (headSpec ws rm) cc maxL ret e s m args below meth c s₁ → c.maxLocals = maxL → (∀ x ∈ c.exceptionTable.toList, False) → Pc args s →
      W p l e (headSpec ws rm).room s m args below meth c s.heap [] 0 0 (vx_MQ below Qc XC args s mc ms free) (entryFrame m args maxL)) : vx_Met l y ws rm Pc Qc XC mc ms free := by
  refine MetFree.of_bodyS (code := cc) (maxLocals := maxL) (ret := ret) hy ?_ ?_
  · intro args s m h hn
    obtain ⟨meth, c, h1, h2, h3, h4, h5, h6, -, -⟩ := Cond.code_spec hn (atoms_spec (ws := ws) h _ (by rw [hw]; exact List.mem_cons_self))
    exact ⟨meth, c, h1, h2, h3, h4, h5, h6⟩
  · intro p e s m args below meth c s₁ B hml hP _
    have hh0 : s₁.heap = s.heap := by rw [B.state]; rfl
    have ht : ∀ x ∈ c.exceptionTable.toList, False := by
      obtain ⟨meth9, c9, h1, h2, -, -, -, -, h7, -⟩ := Cond.code_spec B.named (atoms_spec (ws := ws) B.pre _ (by rw [hw]; exact List.mem_cons_self))
      cases Option.some.inj (h1.symm.trans B.method)
      cases Option.some.inj (h2.symm.trans (Stand.of_body B).code)
      intro x hx
      rw [Array.isEmpty_iff.mp h7] at hx
      cases hx
    obtain ⟨t, a1, o, b1, b2, b3⟩ := body p e s m args below meth c s₁ B hml ht hP s₁ hh0 (Stand.of_body B)
    exact ⟨t, o, a1, b1, b2, b3⟩
/-- the table of a body with handlers -/
theorem vx_table {p : Program} {x y : MethodName} {S : Spec} {cc bytes : ByteArray} {maxL maxL' : Nat} {ret ret' : Option FieldType} {e : Env} {s s₁ : State} {m : MethodId} {args : Array Value} {below : List Frame} {meth : Method} {c : Code} {hh : List (Nat × Nat × Nat × Nat)}
    (B : BodyLoose p l y S cc maxL ret e s m args below meth c s₁) (h : (Cond.codeWith y bytes maxL' ret' hh).before args s = true) : c.exceptionTable.toList = tableOf hh := by
  obtain ⟨m9, meth9, c9, hn9, h1, h2, -, -, h6, -⟩ := Cond.codeWith_spec h
  cases Option.some.inj (hn9.symm.trans B.named)
  cases Option.some.inj (h1.symm.trans B.method)
  cases Option.some.inj (h2.symm.trans (Stand.of_body B).code)
  rw [← h6, table_eq]
end Bodies
end VXA
/-! ===== END ===== -/
/-! ===== BEGIN a static call of a method with an exception table ===== -/
section VXS
variable {p : Program} {l : Launch} {e : Env} {R : Room} {s : State} {m : MethodId} {args : Array Value} {below : List Frame} {meth : Method} {c : Code} {T : State} {H : Heap} {locs : List Loc} {cells slots : Nat}
abbrev vx_CSW (R : Room) (s : State) (args : Array Value) (own : String) (index : Nat) (y : MethodName) (bytes : ByteArray) (maxL : Nat) (ret : Option FieldType) (hh : List (Nat × Nat × Nat × Nat)) (ws : List Cond) (rm : Room) (mc ms n : Nat) : Prop :=
  (rm.cells = mc ∧ rm.slots = ms ∧ rm.frames + 1 ≤ R.frames ∧ 8 + (maxL + 11) + rm.locals ≤ R.locals ∧ (∀ w ∈ ws, ∀ (a' : Array Value) (U : State), s.WarmedH U.vm → w.before a' U = true) ∧ Cond.codeWith y bytes maxL ret hh ∈ ws) ∧
  (Cond.codeWith y bytes maxL ret hh).before args s = true ∧ (Cond.initialized y.cls).before args s = true ∧ (y.cls ≠ "java/lang/invoke/MethodHandle" ∧ y.cls ≠ "java/lang/invoke/VarHandle") ∧
  (∀ sig, parseMethodDescriptor y.desc = some sig → n = sig.parameters.length) ∧ (Cond.methodLink own index y).before args s = true ∧ (Cond.static y).before args s = true
theorem vx_cwSW {own : String} {index maxL mc ms : Nat} {y : MethodName} {bytes : ByteArray} {ret : Option FieldType} {hh : List (Nat × Nat × Nat × Nat)} {Ts ws ws' : List Cond} {rm : Room} (n : Nat) (ht : ∀ w ∈ Ts, w.before args s = true) (hT : GoodIn Ts (va_wsS own index y ws)) (hw : ws = Cond.codeWith y bytes maxL ret hh :: ws') (hrc : rm.cells = mc) (hrs : rm.slots = ms)
    (hd : y.cls ≠ "java/lang/invoke/MethodHandle" ∧ y.cls ≠ "java/lang/invoke/VarHandle" ∧ (parseMethodDescriptor y.desc).map (fun d => d.parameters.length) = some n) (hR : rm.frames + 1 ≤ R.frames ∧ 8 + (maxL + 11) + rm.locals ≤ R.locals) :
    vx_CSW R s args own index y bytes maxL ret hh ws rm mc ms n := by
  have ok : ∀ w ∈ va_wsS own index y ws, w.before args s = true := fun w h => ht w (hT w h).1
  have hG : GoodIn Ts ws := fun w h => hT w (by unfold va_wsS; exact List.mem_append_right _ h)
  have hc : Cond.codeWith y bytes maxL ret hh ∈ ws := by rw [hw]; exact List.mem_cons_self
  refine ⟨⟨hrc, hrs, hR.1, hR.2, pay_in ht hG, hc⟩, ht _ (hG _ hc).1, ok _ (by simp [va_wsS]), ⟨hd.1, hd.2.1⟩, fun sig h => ?_, ok _ (by simp [va_wsS]), ok _ (by simp [va_wsS])⟩
  have h2 := hd.2.2
  rw [h] at h2
  exact (Option.some.inj h2).symm
theorem vx_callSW (X : Stand p l e R s m args below meth c T locs cells slots) (hexec : p.tables.exec = Jvm.exec) {own : String} {index : Nat} {y : MethodName} {bytes : ByteArray} {maxL : Nat} {ret : Option FieldType} {hh : List (Nat × Nat × Nat × Nat)}
    (hown : s.vm.findClass own = some m.cls) (hlink : (Cond.methodLink own index y).before args s = true) (hstat : (Cond.static y).before args s = true) (hinit : (Cond.initialized y.cls).before args s = true)
    (hcode : (Cond.codeWith y bytes maxL ret hh).before args s = true) (hy : y.cls ≠ "java/lang/invoke/MethodHandle" ∧ y.cls ≠ "java/lang/invoke/VarHandle")
    {W9 : Nat} {Pre : Pt → Array Value → Prop} {Post : Pt → Array Value → Option Value → Pt → Prop} (hK : Back l R p e below s args y 3 W9 Pre Post)
    {g : JFrame} (hg : g.method = m) (hsize : g.locals.size = c.maxLocals) {argsL rest : List Value} (hlen : ∀ sig, parseMethodDescriptor y.desc = some sig → argsL.length = sig.parameters.length)
    (hstack : g.stack = argsL.reverse ++ rest) (hW : 2 * g.monitorRoom + (rest.map fun v => v.category).sum ≤ W9) (hdg : decode c.code g.pc = .ok (.invokestatic index, 3))
    (hpre : ∀ vm₁, s.WarmedH vm₁ → Pre ⟨T.setVm vm₁, locs, cells, slots⟩ argsL.toArray) :
    ∃ (v : Option Value) (vm₁ : Vm) (B : Pt), s.WarmedH vm₁ ∧ Stand p l e R s m args below meth c B.U B.locs B.cells B.slots ∧ Post ⟨T.setVm vm₁, locs, cells, slots⟩ argsL.toArray v B ∧
      ∀ target, Steps p.tables e below (B.U.setTop { g with pc := g.pc + 3, stack := v.toList ++ rest }) target → Steps p.tables e below (T.setTop g) target := by
  obtain ⟨mk, methM, cM, hnamed, hmethM, -, -, -, -, -, -, hsigM⟩ := Cond.codeWith_spec hcode
  have hstatic : methM.isStatic = true := Cond.static_spec hnamed hmethM hstat
  obtain ⟨kP, hkP, -⟩ := className_of_methodNamed hnamed
  have hinitP : kP.init = .initialized := Cond.initialized_spec (findClass_of_methodNamed hnamed) hkP hinit
  obtain ⟨vm₁, X₁, hstep₁⟩ := X.invokestatic hexec hown hlink hnamed hmethM hstatic hkP hinitP hy (g := g) hg (argsL := argsL) (rest := rest) (hlen _ hsigM) hstack hdg
  obtain ⟨v, B, X', hpost, hsteps⟩ := hK m meth c ⟨T.setVm vm₁, locs, cells, slots⟩ { g with stack := rest } (.invokestatic index) mk argsL.toArray X₁ hg hsize hdg hW (X₁.named hnamed) (hpre vm₁ X₁.warmed)
  exact ⟨v, vm₁, B, X₁.warmed, X', hpost, fun target h => hstep₁ _ fun acts => by rw [doInvoke_state]; exact hsteps.trans h⟩
theorem vx_runSW {y : MethodName} {bytes cc : ByteArray} {maxL nL mc ms n index : Nat} {ret : Option FieldType} {hh : List (Nat × Nat × Nat × Nat)} {ws : List Cond} {rm : Room} {Pc : Array Value → State → Prop} {Qc : Array Value → State → Outcome → State → Prop} {free : Addr → Prop} {Ts : List Cond} {own : String} {As rest : List Value} {g : JFrame}
    (S : CallFix p m c cc nL s args Ts own) (hM : Met l y ws rm Pc Qc mc ms free) (cw : vx_CSW R s args own index y bytes maxL ret hh ws rm mc ms n) (hp : PreS s H Pc As)
    (hg : g.method = m) (hn : As.length = n) (hsize : g.locals.size = nL) (hstack : g.stack = As.reverse ++ rest) (hW : 2 * g.monitorRoom + (rest.map fun v => v.category).sum ≤ 8) (hdg : decode cc g.pc = .ok (.invokestatic index, 3)) (hf : cells + mc ≤ R.cells ∧ slots + ms ≤ R.slots) :
    va_Run p l e R s m args below meth c H locs cells slots mc ms g rest (Qc As.toArray) (free) := by
  obtain ⟨⟨hrc, hrs, hfr, hlo, hws, hcw⟩, hcode, hini, hy, hlen, hl, hstt⟩ := cw
  have hK : Back l R p e below s args y 3 8 (PreOf R mc ms Pc) (PostOf Qc mc ms free) := va_backW (hh := hh) (bytes := bytes) (maxL := maxL) (ret := ret) hM hp.1 hrc hrs hfr hlo hws hcw (fun a' U hW => word_at hW (Or.inl (by first | rfl | simp [Cond.onTables, Cond.keeps, Cond.steady])) hini)
  obtain ⟨hx, hb, hml, ho, -⟩ := S
  intro T hT X
  obtain ⟨v, vm₁, ⟨U', l2, c2, s2⟩, hW₁, X', ⟨g', mk, t, L, e1, e2, hq, h1, hL, h2, h3⟩, st⟩ := vx_callSW X hx (hh := hh) (bytes := bytes) (maxL := maxL) (ret := ret) ho hl hstt hini hcode hy hK hg (hsize.trans hml.symm) (argsL := As) (rest := rest) (fun sig h => hn.trans (hlen sig h)) hstack hW (by rw [hb]; exact hdg)
    (fun vm₁ hW₁ => ⟨hf.1, hf.2, hp.2 (T.setVm vm₁) hT hW₁⟩)
  dsimp only [Pt.U, Pt.locs, Pt.cells, Pt.slots] at X' e1 e2 h1 h2 h3 st
  subst h1; subst h2; subst h3
  exact ⟨v, (T.setVm vm₁).calling g' mk As.toArray, t, U', L, hT, X', hL, e1, e2, hq, st⟩
/-- not caught here, past rows that name other classes: it goes on to the caller -/
theorem vx_outP {p : Program} {l : Launch} {e : Env} {R : Room} {s : State} {m : MethodId} {args : Array Value} {below : List Frame} {meth : Method} {c : Code} {H : Heap} {locs : List Loc} {cells slots : Nat} {free : Addr → Prop} {ls : Array Slot} {rest : List Value} {Qc : Array Value → State → Outcome → State → Prop} {XC : String → State → State → Prop}
    {pc : Nat} {own E : String} {ce : Cell} {q : Addr} {mc ms : Nat} (hown : s.vm.findClass own = some m.cls) (hlocks : meth.locks = false)
    (hpass : ∀ z ∈ c.exceptionTable.toList, covers z pc = false ∨ (z.catchType ≠ 0 ∧ ∃ nm : String, (Cond.classLink own z.catchType nm).before args s = true ∧ va_Nc E nm s)) (hcell : H[q]? = some ce) (hv : ce.vm = .none) (hcl : s.vm.findClass E = some ce.cls)
    (hx : ∀ t : State, t.heap = H → s.vm.Alike t.vm → XC E s t) (hf : ∀ z ∈ locs, free z.base) (hc : cells ≤ mc) (hs : slots ≤ ms) :
    vx_W p l e R s m args below meth c H locs cells slots (vx_MQ below Qc XC args s mc ms free) (F0 m pc ls rest) q := by
  intro T hT X
  have hpl : e.platform.magicAccessors = ({} : Platform).magicAccessors := by rw [X.admits.platform]
  obtain ⟨vm', hW', X', st⟩ := X.outThrough hlocks q (g := F0 m pc ls rest) rfl rfl rfl (cell := ce) (by rw [hT]; exact hcell) (by rw [hv]; rfl)
    (by obtain ⟨k9, h9, -⟩ := Vm.findClass_spec hcl; exact ⟨k9, h9⟩) (fun z hz => by
      rcases hpass z hz with h | ⟨hz0, nm, hl1, hn1⟩
      · exact Or.inl h
      · obtain ⟨c6, hc6, hcl6⟩ := Cond.classLink_spec hown hl1 e.platform hpl
        obtain ⟨a8, b8, h1, h2, h3⟩ := hn1
        cases Option.some.inj (h1.symm.trans hcl)
        cases Option.some.inj (h2.symm.trans hc6)
        exact Or.inr ⟨hz0, _, hcl6, h3⟩)
  obtain ⟨g₀, hfr⟩ := X'.frames_eq
  have hcell9 : ((T.setVm vm').setFrames (.throwing q :: below)).heap[q]? = some ce := by
    show T.heap[q]? = some ce
    rw [hT]; exact hcell
  have hend : Ended ((T.setVm vm').setFrames (.throwing q :: below)) below (.threw q) := State.frames_setFrames _ (State.cur_lt_of_frames hfr)
  refine ⟨(T.setVm vm').setFrames (.throwing q :: below), ?_, .threw q, X'.here.running, hend, Or.inr ⟨q, rfl, E, ce, locs, hx _ hT (X'.ends _).1.alike, hcell9, hv, hcl, (X'.ends _).1, (X'.ends _).2.mono hc hs, hf⟩⟩
  rw [X.pushThrowing_eq]
  exact st
/-- a thing of a world lies in the heap -/
theorem vx_lt {D : va_G} {cl : List vw_C} {ws : va_W} {H1 : Heap} (h : va_P D cl ws H1) {k : Nat} {q : Nat × va_E} (hk : ws[k]? = some q) : q.1 < H1.size := (h k q hk).lt
end VXS
/-! ===== END ===== -/
/-! ===== BEGIN methods with a table of their own: called by a name, returning or throwing ===== -/
section VXH
/-! vx_backW, vx_callVX, vx_callSX, vx_callVW, vx_runVW, vx_runVX, vx_runSX, vx_ofWH follow the same proofs as their sisters above (Free/Laws.lean, Shelf42/LK1.lean); vx_outP calls Shelf42/NT130.lean (outThrough). -/
section
variable {l : Launch} {R : Room} {p : Program} {e : Env} {below : List Frame} {s : State} {sargs : Array Value} {y : MethodName} {len W9 : Nat}
theorem vx_backW {ws : List Cond} {rm : Room} {Pc : Array Value → State → Prop} {Qc : Array Value → State → Outcome → State → Prop} {XC : String → State → State → Prop} {mc ms : Nat} {free : Addr → Prop} {bytes : ByteArray} {maxL : Nat} {ret : Option FieldType} {hh : List (Nat × Nat × Nat × Nat)}
    (hM : vx_Met l y ws rm Pc Qc XC mc ms free) (hblind : FrameBlind Pc) (hrc : rm.cells = mc) (hrs : rm.slots = ms)
    (hframes : rm.frames + 1 ≤ R.frames) (hlocals : W9 + (maxL + 11) + rm.locals ≤ R.locals)
    (hws : ∀ w ∈ ws, ∀ a' U, s.WarmedH U.vm → w.before a' U = true) (hcode : Cond.codeWith y bytes maxL ret hh ∈ ws) (hinit : ∀ a' U, s.WarmedH U.vm → (Cond.initialized y.cls).before a' U = true) :
    vx_Back l R p e below s sargs y len W9 (PreOf R mc ms Pc) (PostOf Qc mc ms free) (vx_Post XC mc ms free) := by
  intro m meth c A g ig mk a X hg hsize hdg hW hn hp
  have h1 : (headSpec ws rm).pre.before a A.U = true := atoms_intro fun w hw => hws w hw _ _ X.warmed
  have h2 : (Cond.codeWith y bytes maxL ret hh).before a A.U = true := hws _ hcode _ _ X.warmed
  have h3 : (Cond.initialized y.cls).before a A.U = true := hinit _ _ X.warmed
  have h4 : A.cells + (headSpec ws rm).room.cells ≤ R.cells := by rw [show (headSpec ws rm).room.cells = mc from hrc]; exact hp.1
  have h5 : A.slots + (headSpec ws rm).room.slots ≤ R.slots := by rw [show (headSpec ws rm).room.slots = ms from hrs]; exact hp.2.1
  have hPc : Pc a (A.U.calling g mk a) := hblind _ _ _ _ hp.2.2
  obtain ⟨U, Ls, c0, s0⟩ := A
  dsimp only [Pt.U, Pt.locs, Pt.cells, Pt.slots] at h1 h2 h3 h4 h5 X hn hPc ⊢
  obtain ⟨m9, methY, cY, hn9, hmY, hcY, -, hlY, -⟩ := Cond.codeWith_spec h2
  cases Option.some.inj (hn9.symm.trans hn)
  obtain ⟨kY, hkY, -⟩ := className_of_methodNamed hn
  have hinitY : kY.init = .initialized := Cond.initialized_spec (findClass_of_methodNamed hn) hkY h3
  have h : At U g.method c below := by rw [hg]; exact X.here
  have hlocals9 : W9 + (maxL + 11) + (headSpec ws rm).room.locals ≤ R.locals := hlocals
  have happ : (headSpec ws rm).appliesLoose y e.platform (U.calling g mk a) = true :=
    Spec.appliesLoose_calling (g := g) h hdg hn hkY hinitY
      (X.room_calling (g := g) (R' := (headSpec ws rm).room) hsize hmY hcY hframes (by rw [hlY]; omega) h4 h5) h1
  obtain ⟨mid, hmid⟩ := h.above
  have hfr : (U.setTop g).frames = (.java g :: mid) ++ below := by rw [State.frames_setTop' g h.top, hmid]; rfl
  obtain ⟨o, s₂, hsteps, -, hend, hq⟩ := Steps.callFree hM p X.admits X.cas X.clock (acts := []) hfr happ hPc trivial
  have hq' : vx_Q Qc XC mc ms free a (U.calling g mk a) o s₂ := hq
  rw [State.frames_setTop' g h.top] at hend
  obtain ⟨g₀, hg0⟩ := Option.isSome_iff_exists.mp h.top
  obtain ⟨r, hr⟩ := State.topJava?_eq_some.mp hg0
  have hr' : (({ U with heap := s₂.heap, slotsUsed := s₂.slotsUsed } : State).setVm s₂.vm).frames = .java g₀ :: r := hr
  rcases hq' with ⟨hqc, L, hfe, hL⟩ | ⟨q, rfl, E, ce, L, hx, hce, hcv, hcl, hW₂, hsm, hL⟩
  · obtain ⟨⟨v, rfl⟩, hW₂, e2, q2, q3, q4, q5, q6⟩ := id hfe
    have e3 : s₂ = ({ (U.calling g mk a).setFrames s₂.frames with heap := s₂.heap, slotsUsed := s₂.slotsUsed } : State).setVm s₂.vm := by
      have : s₂ = ({ s₂ with vm := (U.calling g mk a).vm } : State).setVm s₂.vm := rfl
      rw [e2] at this
      exact this
    obtain ⟨c₂, i₂, len₂, hc₂, hd₂, hf₂⟩ := hend
    have hW' : U.WarmedH s₂.vm := hW₂
    have hcc : c₂ = c := by
      have h1 : s₂.code? g.method = U.code? g.method := by
        rw [State.code?_eq, State.code?_eq, hW'.alike.method?]
      exact Option.some.inj (hc₂.symm.trans (h1.trans h.code))
    subst hcc
    have hlen : len₂ = len := by rw [hdg] at hd₂; cases hd₂; rfl
    subst hlen
    have hs₂ : s₂ = (({ U with heap := s₂.heap, slotsUsed := s₂.slotsUsed } : State).setVm s₂.vm).setTop { g with pc := g.pc + len₂, stack := v.toList ++ g.stack } := by
      refine e3.trans ?_
      rw [hf₂, State.calling_eq h.top, State.setFrames_setFrames, State.setTop_of_frames _ hr', hr]
      rfl
    have hsame : U.sameButNew ({ U with heap := s₂.heap, slotsUsed := s₂.slotsUsed } : State) L mc ms := by
      refine ⟨?_, q2, q3, q4, q5, q6⟩
      obtain ⟨t, ht, -⟩ := State.frames_cons hr
      show ({ U with heap := s₂.heap, slotsUsed := s₂.slotsUsed } : State) = { U.setFrames U.frames with heap := s₂.heap, slotsUsed := s₂.slotsUsed }
      rw [State.setFrames_self ht]
    subst hg
    refine Or.inl ⟨v, ⟨(({ U with heap := s₂.heap, slotsUsed := s₂.slotsUsed } : State).setVm s₂.vm), Ls ++ L, c0 + mc, s0 + ms⟩,
      ⟨X.admits, X.cas, X.clock, X.frames, X.room, X.hears, X.method, X.code, (X.here.setHeapUsed s₂.heap s₂.slotsUsed).setVm hW'.alike, X.tail, State.WarmedH.trans X.warmed hW', X.limits, X.bytes, X.same.trans (hsame.setVm s.vm)⟩,
      ⟨g, mk, s₂, L, rfl, rfl, hqc, rfl, hL, rfl, rfl⟩, ?_⟩
    show Steps p.tables e below _ ((({ U with heap := s₂.heap, slotsUsed := s₂.slotsUsed } : State).setVm s₂.vm).setTop { g with pc := g.pc + len₂, stack := v.toList ++ g.stack })
    rw [← hs₂]
    exact hsteps
  · obtain ⟨e2, q2, q3, q4, q5, q6⟩ := id hsm
    have e3 : s₂ = ({ (U.calling g mk a).setFrames s₂.frames with heap := s₂.heap, slotsUsed := s₂.slotsUsed } : State).setVm s₂.vm := by
      have : s₂ = ({ s₂ with vm := (U.calling g mk a).vm } : State).setVm s₂.vm := rfl
      rw [e2] at this
      exact this
    have hf₂ : s₂.frames = .throwing q :: .java g :: U.frames.tail := hend
    have hW' : U.WarmedH s₂.vm := hW₂
    have hs₂ : s₂ = ((({ U with heap := s₂.heap, slotsUsed := s₂.slotsUsed } : State).setVm s₂.vm).setTop g).pushFrame (.throwing q) := by
      refine e3.trans ?_
      rw [hf₂, State.calling_eq h.top, State.setFrames_setFrames, State.pushFrame, State.frames_setTop _ hr', State.setTop_of_frames _ hr', State.setFrames_setFrames, hr]
      rfl
    have hsame : U.sameButNew ({ U with heap := s₂.heap, slotsUsed := s₂.slotsUsed } : State) L mc ms := by
      refine ⟨?_, q2, q3, q4, q5, q6⟩
      obtain ⟨t, ht, -⟩ := State.frames_cons hr
      show ({ U with heap := s₂.heap, slotsUsed := s₂.slotsUsed } : State) = { U.setFrames U.frames with heap := s₂.heap, slotsUsed := s₂.slotsUsed }
      rw [State.setFrames_self ht]
    subst hg
    refine Or.inr ⟨q, ⟨(({ U with heap := s₂.heap, slotsUsed := s₂.slotsUsed } : State).setVm s₂.vm), Ls ++ L, c0 + mc, s0 + ms⟩,
      ⟨X.admits, X.cas, X.clock, X.frames, X.room, X.hears, X.method, X.code, (X.here.setHeapUsed s₂.heap s₂.slotsUsed).setVm hW'.alike, X.tail, State.WarmedH.trans X.warmed hW', X.limits, X.bytes, X.same.trans (hsame.setVm s.vm)⟩,
      ⟨g, mk, s₂, L, E, ce, rfl, rfl, hx, hce, hcv, hcl, rfl, hL, rfl, rfl⟩, ?_⟩
    show Steps p.tables e below _ (((({ U with heap := s₂.heap, slotsUsed := s₂.slotsUsed } : State).setVm s₂.vm).setTop g).pushFrame (.throwing q))
    rw [← hs₂]
    exact hsteps
end
variable {p : Program} {l : Launch} {e : Env} {R : Room} {s : State} {m : MethodId} {args : Array Value} {below : List Frame} {meth : Method} {c : Code} {T : State} {H : Heap} {locs : List Loc} {cells slots : Nat}
theorem vx_callVX (X : Stand p l e R s m args below meth c T locs cells slots) (hexec : p.tables.exec = Jvm.exec) {own C : String} {index : Nat} {y : MethodName} {bytes : ByteArray} {maxL : Nat} {ret : Option FieldType} {hh : List (Nat × Nat × Nat × Nat)}
    (hown : s.vm.findClass own = some m.cls) (hlink : (Cond.methodLink own index y).before args s = true) (hinst : (Cond.instanceMethod y).before args s = true) (hsel : (Cond.selects C y y).before args s = true)
    (hcode : (Cond.codeWith y bytes maxL ret hh).before args s = true) (hy : y.cls ≠ "java/lang/invoke/MethodHandle" ∧ y.cls ≠ "java/lang/invoke/VarHandle")
    {W9 : Nat} {Pre : Pt → Array Value → Prop} {Post : Pt → Array Value → Option Value → Pt → Prop} {PostX : Pt → Array Value → Addr → Pt → Prop} (hK : vx_Back l R p e below s args y 3 W9 Pre Post PostX)
    {b : Addr} {cellB : Cell} (hcell : T.heap[b]? = some cellB) (hobj : cellB.vm.isStatics = false) (hcls : s.vm.findClass C = some cellB.cls)
    {g : JFrame} (hg : g.method = m) (hsize : g.locals.size = c.maxLocals) {argsL rest : List Value} (hlen : ∀ sig, parseMethodDescriptor y.desc = some sig → argsL.length = sig.parameters.length)
    (hstack : g.stack = argsL.reverse ++ .ref b :: rest) (hW : 2 * g.monitorRoom + (rest.map fun v => v.category).sum ≤ W9) (hdg : decode c.code g.pc = .ok (.invokevirtual index, 3))
    (hpre : ∀ vm₁, s.WarmedH vm₁ → Pre ⟨T.setVm vm₁, locs, cells, slots⟩ (Value.ref b :: argsL).toArray) :
    (∃ (v : Option Value) (vm₁ : Vm) (B : Pt), s.WarmedH vm₁ ∧ Stand p l e R s m args below meth c B.U B.locs B.cells B.slots ∧ Post ⟨T.setVm vm₁, locs, cells, slots⟩ (Value.ref b :: argsL).toArray v B ∧
      ∀ target, Steps p.tables e below (B.U.setTop { g with pc := g.pc + 3, stack := v.toList ++ rest }) target → Steps p.tables e below (T.setTop g) target) ∨
    (∃ (q : Addr) (vm₁ : Vm) (B : Pt), s.WarmedH vm₁ ∧ Stand p l e R s m args below meth c B.U B.locs B.cells B.slots ∧ PostX ⟨T.setVm vm₁, locs, cells, slots⟩ (Value.ref b :: argsL).toArray q B ∧
      Steps p.tables e below (T.setTop g) ((B.U.setTop { g with stack := rest }).pushFrame (.throwing q))) := by
  obtain ⟨mk, methM, hnamed, hmethM, hstM, habM⟩ := Cond.instanceMethod_spec hinst
  obtain ⟨m8, methM', cM, hn8, hmethM', -, -, -, -, -, -, hsigM⟩ := Cond.codeWith_spec hcode
  cases Option.some.inj (hn8.symm.trans hnamed)
  cases hmethM.symm.trans hmethM'
  obtain ⟨c2, r2, m2, q1, q2, q3, q4, kP, hkP, hkPi⟩ := Cond.selects_spec hsel
  cases hcls.symm.trans q1
  cases (State.methodFound?_of_named hnamed hy).symm.trans q2
  cases hnamed.symm.trans q3
  have hselP : selectMethod e.platform s.vm cellB.cls mk = .method mk := by rw [Launch.admits_selectMethod X.admits]; exact q4
  obtain ⟨vm₁, X₁, hstep₁⟩ := X.invokevirtual hexec hown hlink hnamed hmethM hstM hkP hkPi hy (a := b) (cell := cellB) hcell
    (fun z h => by rw [h] at hobj; cases hobj) hselP hmethM habM hkP hkPi (g := g) hg (argsL := argsL) (rest := rest) (hlen _ hsigM) hstack hdg
  rcases hK m meth c ⟨T.setVm vm₁, locs, cells, slots⟩ { g with stack := rest } (.invokevirtual index) mk (Value.ref b :: argsL).toArray X₁ hg hsize hdg hW (X₁.named hnamed) (hpre vm₁ X₁.warmed) with ⟨v, B, X', hpost, hsteps⟩ | ⟨q, B, X', hpost, hsteps⟩
  · exact Or.inl ⟨v, vm₁, B, X₁.warmed, X', hpost, fun target h => hstep₁ _ fun acts => by rw [doInvoke_state]; exact hsteps.trans h⟩
  · exact Or.inr ⟨q, vm₁, B, X₁.warmed, X', hpost, hstep₁ _ fun acts => by rw [doInvoke_state]; exact hsteps⟩
theorem vx_callSX (X : Stand p l e R s m args below meth c T locs cells slots) (hexec : p.tables.exec = Jvm.exec) {own : String} {index : Nat} {y : MethodName} {bytes : ByteArray} {maxL : Nat} {ret : Option FieldType} {hh : List (Nat × Nat × Nat × Nat)}
    (hown : s.vm.findClass own = some m.cls) (hlink : (Cond.methodLink own index y).before args s = true) (hstat : (Cond.static y).before args s = true) (hinit : (Cond.initialized y.cls).before args s = true)
    (hcode : (Cond.codeWith y bytes maxL ret hh).before args s = true) (hy : y.cls ≠ "java/lang/invoke/MethodHandle" ∧ y.cls ≠ "java/lang/invoke/VarHandle")
    {W9 : Nat} {Pre : Pt → Array Value → Prop} {Post : Pt → Array Value → Option Value → Pt → Prop} {PostX : Pt → Array Value → Addr → Pt → Prop} (hK : vx_Back l R p e below s args y 3 W9 Pre Post PostX)
    {g : JFrame} (hg : g.method = m) (hsize : g.locals.size = c.maxLocals) {argsL rest : List Value} (hlen : ∀ sig, parseMethodDescriptor y.desc = some sig → argsL.length = sig.parameters.length)
    (hstack : g.stack = argsL.reverse ++ rest) (hW : 2 * g.monitorRoom + (rest.map fun v => v.category).sum ≤ W9) (hdg : decode c.code g.pc = .ok (.invokestatic index, 3))
    (hpre : ∀ vm₁, s.WarmedH vm₁ → Pre ⟨T.setVm vm₁, locs, cells, slots⟩ argsL.toArray) :
    (∃ (v : Option Value) (vm₁ : Vm) (B : Pt), s.WarmedH vm₁ ∧ Stand p l e R s m args below meth c B.U B.locs B.cells B.slots ∧ Post ⟨T.setVm vm₁, locs, cells, slots⟩ argsL.toArray v B ∧
      ∀ target, Steps p.tables e below (B.U.setTop { g with pc := g.pc + 3, stack := v.toList ++ rest }) target → Steps p.tables e below (T.setTop g) target) ∨
    (∃ (q : Addr) (vm₁ : Vm) (B : Pt), s.WarmedH vm₁ ∧ Stand p l e R s m args below meth c B.U B.locs B.cells B.slots ∧ PostX ⟨T.setVm vm₁, locs, cells, slots⟩ argsL.toArray q B ∧
      Steps p.tables e below (T.setTop g) ((B.U.setTop { g with stack := rest }).pushFrame (.throwing q))) := by
  obtain ⟨mk, methM, cM, hnamed, hmethM, -, -, -, -, -, -, hsigM⟩ := Cond.codeWith_spec hcode
  have hstatic : methM.isStatic = true := Cond.static_spec hnamed hmethM hstat
  obtain ⟨kP, hkP, -⟩ := className_of_methodNamed hnamed
  have hinitP : kP.init = .initialized := Cond.initialized_spec (findClass_of_methodNamed hnamed) hkP hinit
  obtain ⟨vm₁, X₁, hstep₁⟩ := X.invokestatic hexec hown hlink hnamed hmethM hstatic hkP hinitP hy (g := g) hg (argsL := argsL) (rest := rest) (hlen _ hsigM) hstack hdg
  rcases hK m meth c ⟨T.setVm vm₁, locs, cells, slots⟩ { g with stack := rest } (.invokestatic index) mk argsL.toArray X₁ hg hsize hdg hW (X₁.named hnamed) (hpre vm₁ X₁.warmed) with ⟨v, B, X', hpost, hsteps⟩ | ⟨q, B, X', hpost, hsteps⟩
  · exact Or.inl ⟨v, vm₁, B, X₁.warmed, X', hpost, fun target h => hstep₁ _ fun acts => by rw [doInvoke_state]; exact hsteps.trans h⟩
  · exact Or.inr ⟨q, vm₁, B, X₁.warmed, X', hpost, hstep₁ _ fun acts => by rw [doInvoke_state]; exact hsteps⟩
theorem vx_callVW (X : Stand p l e R s m args below meth c T locs cells slots) (hexec : p.tables.exec = Jvm.exec) {own C : String} {index : Nat} {y : MethodName} {bytes : ByteArray} {maxL : Nat} {ret : Option FieldType} {hh : List (Nat × Nat × Nat × Nat)}
    (hown : s.vm.findClass own = some m.cls) (hlink : (Cond.methodLink own index y).before args s = true) (hinst : (Cond.instanceMethod y).before args s = true) (hsel : (Cond.selects C y y).before args s = true)
    (hcode : (Cond.codeWith y bytes maxL ret hh).before args s = true) (hy : y.cls ≠ "java/lang/invoke/MethodHandle" ∧ y.cls ≠ "java/lang/invoke/VarHandle")
    {W9 : Nat} {Pre : Pt → Array Value → Prop} {Post : Pt → Array Value → Option Value → Pt → Prop} (hK : Back l R p e below s args y 3 W9 Pre Post)
    {b : Addr} {cellB : Cell} (hcell : T.heap[b]? = some cellB) (hobj : cellB.vm.isStatics = false) (hcls : s.vm.findClass C = some cellB.cls)
    {g : JFrame} (hg : g.method = m) (hsize : g.locals.size = c.maxLocals) {argsL rest : List Value} (hlen : ∀ sig, parseMethodDescriptor y.desc = some sig → argsL.length = sig.parameters.length)
    (hstack : g.stack = argsL.reverse ++ .ref b :: rest) (hW : 2 * g.monitorRoom + (rest.map fun v => v.category).sum ≤ W9) (hdg : decode c.code g.pc = .ok (.invokevirtual index, 3))
    (hpre : ∀ vm₁, s.WarmedH vm₁ → Pre ⟨T.setVm vm₁, locs, cells, slots⟩ (Value.ref b :: argsL).toArray) :
    ∃ (v : Option Value) (vm₁ : Vm) (B : Pt), s.WarmedH vm₁ ∧ Stand p l e R s m args below meth c B.U B.locs B.cells B.slots ∧ Post ⟨T.setVm vm₁, locs, cells, slots⟩ (Value.ref b :: argsL).toArray v B ∧
      ∀ target, Steps p.tables e below (B.U.setTop { g with pc := g.pc + 3, stack := v.toList ++ rest }) target → Steps p.tables e below (T.setTop g) target := by
  obtain ⟨mk, methM, hnamed, hmethM, hstM, habM⟩ := Cond.instanceMethod_spec hinst
  obtain ⟨m8, methM', cM, hn8, hmethM', -, -, -, -, -, -, hsigM⟩ := Cond.codeWith_spec hcode
  cases Option.some.inj (hn8.symm.trans hnamed)
  cases hmethM.symm.trans hmethM'
  obtain ⟨c2, r2, m2, q1, q2, q3, q4, kP, hkP, hkPi⟩ := Cond.selects_spec hsel
  cases hcls.symm.trans q1
  cases (State.methodFound?_of_named hnamed hy).symm.trans q2
  cases hnamed.symm.trans q3
  have hselP : selectMethod e.platform s.vm cellB.cls mk = .method mk := by rw [Launch.admits_selectMethod X.admits]; exact q4
  obtain ⟨vm₁, X₁, hstep₁⟩ := X.invokevirtual hexec hown hlink hnamed hmethM hstM hkP hkPi hy (a := b) (cell := cellB) hcell
    (fun z h => by rw [h] at hobj; cases hobj) hselP hmethM habM hkP hkPi (g := g) hg (argsL := argsL) (rest := rest) (hlen _ hsigM) hstack hdg
  obtain ⟨v, B, X', hpost, hsteps⟩ := hK m meth c ⟨T.setVm vm₁, locs, cells, slots⟩ { g with stack := rest } (.invokevirtual index) mk (Value.ref b :: argsL).toArray X₁ hg hsize hdg hW (X₁.named hnamed) (hpre vm₁ X₁.warmed)
  exact ⟨v, vm₁, B, X₁.warmed, X', hpost, fun target h => hstep₁ _ fun acts => by rw [doInvoke_state]; exact hsteps.trans h⟩
abbrev vx_CVW (R : Room) (s : State) (args : Array Value) (own C : String) (index : Nat) (y : MethodName) (bytes : ByteArray) (maxL : Nat) (ret : Option FieldType) (hh : List (Nat × Nat × Nat × Nat)) (ws : List Cond) (rm : Room) (mc ms n : Nat) : Prop :=
  (rm.cells = mc ∧ rm.slots = ms ∧ rm.frames + 1 ≤ R.frames ∧ 8 + (maxL + 11) + rm.locals ≤ R.locals ∧ (∀ w ∈ ws, ∀ (a' : Array Value) (U : State), s.WarmedH U.vm → w.before a' U = true) ∧ Cond.codeWith y bytes maxL ret hh ∈ ws) ∧
  (Cond.codeWith y bytes maxL ret hh).before args s = true ∧ (Cond.initialized y.cls).before args s = true ∧ (y.cls ≠ "java/lang/invoke/MethodHandle" ∧ y.cls ≠ "java/lang/invoke/VarHandle") ∧
  (∀ sig, parseMethodDescriptor y.desc = some sig → n = sig.parameters.length) ∧ (Cond.methodLink own index y).before args s = true ∧ (Cond.instanceMethod y).before args s = true ∧ (Cond.selects C y y).before args s = true
theorem vx_cwVW {own C : String} {index maxL mc ms : Nat} {y : MethodName} {bytes : ByteArray} {ret : Option FieldType} {hh : List (Nat × Nat × Nat × Nat)} {Ts ws ws' : List Cond} {rm : Room} (n : Nat) (ht : ∀ w ∈ Ts, w.before args s = true) (hT : GoodIn Ts (wsV own index C y ws)) (hw : ws = Cond.codeWith y bytes maxL ret hh :: ws') (hrc : rm.cells = mc) (hrs : rm.slots = ms)
    (hd : y.cls = C ∧ y.cls ≠ "java/lang/invoke/MethodHandle" ∧ y.cls ≠ "java/lang/invoke/VarHandle" ∧ (parseMethodDescriptor y.desc).map (fun d => d.parameters.length) = some n) (hR : rm.frames + 1 ≤ R.frames ∧ 8 + (maxL + 11) + rm.locals ≤ R.locals) :
    vx_CVW R s args own C index y bytes maxL ret hh ws rm mc ms n := by
  obtain ⟨hC, hd⟩ := hd
  subst hC
  have ok : ∀ w ∈ wsV own index y.cls y ws, w.before args s = true := fun w h => ht w (hT w h).1
  have hG : GoodIn Ts ws := fun w h => hT w (by unfold wsV; exact List.mem_append_right _ h)
  have hc : Cond.codeWith y bytes maxL ret hh ∈ ws := by rw [hw]; exact List.mem_cons_self
  refine ⟨⟨hrc, hrs, hR.1, hR.2, pay_in ht hG, hc⟩, ht _ (hG _ hc).1, ok _ (by simp [wsV]), ⟨hd.1, hd.2.1⟩, fun sig h => ?_, ok _ (by simp [wsV]), ok _ (by simp [wsV]), ok _ (by simp [wsV])⟩
  have h2 := hd.2.2
  rw [h] at h2
  exact (Option.some.inj h2).symm
theorem vx_runVW {y : MethodName} {bytes cc : ByteArray} {maxL nL mc ms n index : Nat} {ret : Option FieldType} {hh : List (Nat × Nat × Nat × Nat)} {ws : List Cond} {rm : Room} {Pc : Array Value → State → Prop} {Qc : Array Value → State → Outcome → State → Prop} {free : Addr → Prop} {Ts : List Cond} {own C : String} {b : Addr} {As rest : List Value} {g : JFrame}
    (S : CallFix p m c cc nL s args Ts own) (hM : Met l y ws rm Pc Qc mc ms free) (cw : vx_CVW R s args own C index y bytes maxL ret hh ws rm mc ms n) (hp : PreV s H C b Pc As)
    (hg : g.method = m) (hn : As.length = n) (hsize : g.locals.size = nL) (hstack : g.stack = As.reverse ++ .ref b :: rest) (hW : 2 * g.monitorRoom + (rest.map fun v => v.category).sum ≤ 8) (hdg : decode cc g.pc = .ok (.invokevirtual index, 3)) (hf : cells + mc ≤ R.cells ∧ slots + ms ≤ R.slots) :
    va_Run p l e R s m args below meth c H locs cells slots mc ms g rest (Qc (Value.ref b :: As).toArray) free := by
  obtain ⟨⟨hrc, hrs, hfr, hlo, hws, hcw⟩, hcode, hini, hy, hlen, hl, hin, hse⟩ := cw
  have hK : Back l R p e below s args y 3 8 (PreOf R mc ms Pc) (PostOf Qc mc ms free) := va_backW (hh := hh) (bytes := bytes) (maxL := maxL) (ret := ret) hM hp.1 hrc hrs hfr hlo hws hcw (fun a' U hW => word_at hW (Or.inl (by first | rfl | simp [Cond.onTables, Cond.keeps, Cond.steady])) hini)
  obtain ⟨hx, hb, hml, ho, -⟩ := S
  obtain ⟨-, ⟨cellB, hcB, hoB, hclB⟩, hPc⟩ := hp
  intro T hT X
  obtain ⟨v, vm₁, ⟨U', l2, c2, s2⟩, hW₁, X', ⟨g', mk, t, L, e1, e2, hq, h1, hL, h2, h3⟩, st⟩ := vx_callVW X hx (C := C) (hh := hh) (bytes := bytes) (maxL := maxL) (ret := ret) ho hl hin hse hcode hy hK (by rw [hT]; exact hcB) hoB hclB hg (hsize.trans hml.symm) (argsL := As) (rest := rest) (fun sig h => hn.trans (hlen sig h)) hstack hW (by rw [hb]; exact hdg)
    (fun vm₁ hW₁ => ⟨hf.1, hf.2, hPc (T.setVm vm₁) hT hW₁⟩)
  dsimp only [Pt.U, Pt.locs, Pt.cells, Pt.slots] at X' e1 e2 h1 h2 h3 st
  subst h1; subst h2; subst h3
  exact ⟨v, (T.setVm vm₁).calling g' mk (Value.ref b :: As).toArray, t, U', L, hT, X', hL, e1, e2, hq, st⟩
section
variable {y : MethodName} {bytes cc : ByteArray} {maxL nL mc ms n index : Nat} {ret : Option FieldType} {ws : List Cond} {rm : Room} {Pc : Array Value → State → Prop} {Qc : Array Value → State → Outcome → State → Prop} {XC : String → State → State → Prop} {free : Addr → Prop} {Ts : List Cond} {own C : String} {b : Addr} {As rest : List Value} {g : JFrame}
theorem vx_runVX {hh : List (Nat × Nat × Nat × Nat)} (S : CallFix p m c cc nL s args Ts own) (hM : vx_Met l y ws rm Pc Qc XC mc ms free) (cw : vx_CVW R s args own C index y bytes maxL ret hh ws rm mc ms n) (hp : PreV s H C b Pc As)
    (hg : g.method = m) (hn : As.length = n) (hsize : g.locals.size = nL) (hstack : g.stack = As.reverse ++ .ref b :: rest) (hW : 2 * g.monitorRoom + (rest.map fun v => v.category).sum ≤ 8) (hdg : decode cc g.pc = .ok (.invokevirtual index, 3)) (hf : cells + mc ≤ R.cells ∧ slots + ms ≤ R.slots) :
    vx_Run p l e R s m args below meth c H locs cells slots mc ms g rest (Qc (Value.ref b :: As).toArray) XC free := by
  obtain ⟨⟨hrc, hrs, hfr, hlo, hws, hcw⟩, hcode, hini, hy, hlen, hl, hin, hse⟩ := cw
  have hK : vx_Back l R p e below s args y 3 8 (PreOf R mc ms Pc) (PostOf Qc mc ms free) (vx_Post XC mc ms free) := vx_backW (hh := hh) (bytes := bytes) (maxL := maxL) (ret := ret) hM hp.1 hrc hrs hfr hlo hws hcw (fun a' U hW => word_at hW (Or.inl (by first | rfl | simp [Cond.onTables, Cond.keeps, Cond.steady])) hini)
  obtain ⟨hx, hb, hml, ho, -⟩ := S
  obtain ⟨-, ⟨cellB, hcB, hoB, hclB⟩, hPc⟩ := hp
  intro T hT X
  rcases vx_callVX X hx (C := C) (hh := hh) (bytes := bytes) (maxL := maxL) (ret := ret) ho hl hin hse hcode hy hK (by rw [hT]; exact hcB) hoB hclB hg (hsize.trans hml.symm) (argsL := As) (rest := rest) (fun sig h => hn.trans (hlen sig h)) hstack hW (by rw [hb]; exact hdg)
    (fun vm₁ hW₁ => ⟨hf.1, hf.2, hPc (T.setVm vm₁) hT hW₁⟩) with ⟨v, vm₁, ⟨U', l2, c2, s2⟩, hW₁, X', ⟨g', mk, t, L, e1, e2, hq, h1, hL, h2, h3⟩, st⟩ | ⟨q, vm₁, ⟨U', l2, c2, s2⟩, hW₁, X', ⟨g', mk, t, L, E, ce, e1, e2, hq, hce, hcv, hcl, h1, hL, h2, h3⟩, st⟩
  · dsimp only [Pt.U, Pt.locs, Pt.cells, Pt.slots] at X' e1 e2 h1 h2 h3 st
    subst h1; subst h2; subst h3
    exact Or.inl ⟨v, (T.setVm vm₁).calling g' mk (Value.ref b :: As).toArray, t, U', L, hT, X', hL, e1, e2, hq, st⟩
  · dsimp only [Pt.U, Pt.locs, Pt.cells, Pt.slots] at X' e1 e2 h1 h2 h3 st hcl
    subst h1; subst h2; subst h3
    exact Or.inr ⟨q, (T.setVm vm₁).calling g' mk (Value.ref b :: As).toArray, t, U', L, E, ce, hT, X', hL, e1, e2, hq, hce, hcv, vx_cls hW₁ hcl, st⟩
theorem vx_runSX {hh : List (Nat × Nat × Nat × Nat)} (S : CallFix p m c cc nL s args Ts own) (hM : vx_Met l y ws rm Pc Qc XC mc ms free) (cw : vx_CSW R s args own index y bytes maxL ret hh ws rm mc ms n) (hp : PreS s H Pc As)
    (hg : g.method = m) (hn : As.length = n) (hsize : g.locals.size = nL) (hstack : g.stack = As.reverse ++ rest) (hW : 2 * g.monitorRoom + (rest.map fun v => v.category).sum ≤ 8) (hdg : decode cc g.pc = .ok (.invokestatic index, 3)) (hf : cells + mc ≤ R.cells ∧ slots + ms ≤ R.slots) :
    vx_Run p l e R s m args below meth c H locs cells slots mc ms g rest (Qc As.toArray) XC free := by
  obtain ⟨⟨hrc, hrs, hfr, hlo, hws, hcw⟩, hcode, hini, hy, hlen, hl, hstt⟩ := cw
  have hK : vx_Back l R p e below s args y 3 8 (PreOf R mc ms Pc) (PostOf Qc mc ms free) (vx_Post XC mc ms free) := vx_backW (hh := hh) (bytes := bytes) (maxL := maxL) (ret := ret) hM hp.1 hrc hrs hfr hlo hws hcw (fun a' U hW => word_at hW (Or.inl (by first | rfl | simp [Cond.onTables, Cond.keeps, Cond.steady])) hini)
  obtain ⟨hx, hb, hml, ho, -⟩ := S
  intro T hT X
  rcases vx_callSX X hx (hh := hh) (bytes := bytes) (maxL := maxL) (ret := ret) ho hl hstt hini hcode hy hK hg (hsize.trans hml.symm) (argsL := As) (rest := rest) (fun sig h => hn.trans (hlen sig h)) hstack hW (by rw [hb]; exact hdg)
    (fun vm₁ hW₁ => ⟨hf.1, hf.2, hp.2 (T.setVm vm₁) hT hW₁⟩) with ⟨v, vm₁, ⟨U', l2, c2, s2⟩, hW₁, X', ⟨g', mk, t, L, e1, e2, hq, h1, hL, h2, h3⟩, st⟩ | ⟨q, vm₁, ⟨U', l2, c2, s2⟩, hW₁, X', ⟨g', mk, t, L, E, ce, e1, e2, hq, hce, hcv, hcl, h1, hL, h2, h3⟩, st⟩
  · dsimp only [Pt.U, Pt.locs, Pt.cells, Pt.slots] at X' e1 e2 h1 h2 h3 st
    subst h1; subst h2; subst h3
    exact Or.inl ⟨v, (T.setVm vm₁).calling g' mk As.toArray, t, U', L, hT, X', hL, e1, e2, hq, st⟩
  · dsimp only [Pt.U, Pt.locs, Pt.cells, Pt.slots] at X' e1 e2 h1 h2 h3 st hcl
    subst h1; subst h2; subst h3
    exact Or.inr ⟨q, (T.setVm vm₁).calling g' mk As.toArray, t, U', L, E, ce, hT, X', hL, e1, e2, hq, hce, hcv, vx_cls hW₁ hcl, st⟩
end
end VXH
theorem vx_ofWH {l : Launch} {y : MethodName} {ws ws' : List Cond} {rm : Room} {Pc : Array Value → State → Prop} {Qc : Array Value → State → Outcome → State → Prop} {XC : String → State → State → Prop} {mc ms : Nat} {free : Addr → Prop} {cc : ByteArray} {maxL : Nat} {ret : Option FieldType} {hh : List (Nat × Nat × Nat × Nat)}
    (hy : plainName y.cls = true) (hw : ws = Cond.codeWith y cc maxL ret hh :: ws')
    (body : ∀ p e s m args below meth c s₁, BodyLoose p l y (headSpec ws rm) cc maxL ret e s m args below meth c s₁ → c.maxLocals = maxL → Pc args s →
      W p l e (headSpec ws rm).room s m args below meth c s.heap [] 0 0 (vx_MQ below Qc XC args s mc ms free) (entryFrame m args maxL)) : vx_Met l y ws rm Pc Qc XC mc ms free := by
  refine MetFree.of_bodyS (code := cc) (maxLocals := maxL) (ret := ret) hy ?_ ?_
  · intro args s m h hn
    obtain ⟨m9, meth, c, hn9, h1, h2, h3, h4, -, h5, h6, -⟩ := Cond.codeWith_spec (atoms_spec (ws := ws) h _ (by rw [hw]; exact List.mem_cons_self))
    cases hn.symm.trans hn9
    exact ⟨meth, c, h1, h2, h3, h4, h5, h6⟩
  · intro p e s m args below meth c s₁ B hml hP _
    have hh0 : s₁.heap = s.heap := by rw [B.state]; rfl
    obtain ⟨t, a1, o, b1, b2, b3⟩ := body p e s m args below meth c s₁ B hml hP s₁ hh0 (Stand.of_body B)
    exact ⟨t, o, a1, b1, b2, b3⟩
/-! ===== END ===== -/
end
section
/-! ===== BEGIN printed: names, fields, word lists, decode rows ===== -/
def RX0 : String := "GossipGates$Gates"
def TX0 : u_T := fun k => match k with
  | 0 => ("GossipGates$Gates", "gauges", "[I", true)
  | 1 => ("GossipGates$Gates", "openings", "[I", true)
  | 2 => ("GossipGates$Gates", "lows", "[I", true)
  | 3 => ("GossipGates$Gates", "highs", "[I", true)
  | 4 => ("GossipGates$Gates", "bounds", "[I", true)
  | 5 => ("GossipGates$Gates", "ages", "[I", true)
  | 6 => ("GossipGates$Gates", "safeties", "[I", true)
  | _ => ("GossipGates$Gates", "inHand", "[Z", true)
def tyX0 : Nat → FieldType := fun k => match k with
  | 0 => .array .int
  | 1 => .array .int
  | 2 => .array .int
  | 3 => .array .int
  | 4 => .array .int
  | 5 => .array .int
  | 6 => .array .int
  | _ => .array .boolean
abbrev wsX00 : List Cond := u_ws RX0 TX0 8
theorem nmX0 : ∀ a, a < 8 → ∀ b, b < 8 → a ≠ b → (TX0 a).2.1 ≠ (TX0 b).2.1 := by decide +kernel
theorem tyX0_ok : ∀ k, k < 8 → parseFieldDescriptor (TX0 k).2.2.1 = some (tyX0 k) := by decide +kernel
abbrev cX0_init : ByteArray := prog_2_method_1_code
def yX0_init : MethodName := ⟨RX0, "<init>", "()V"⟩
abbrev cX0_mostThrough : ByteArray := prog_2_method_2_code
def yX0_mostThrough : MethodName := ⟨RX0, "mostThrough", "(I)I"⟩
abbrev cX0_openForSafety : ByteArray := prog_2_method_3_code
def yX0_openForSafety : MethodName := ⟨RX0, "openForSafety", "(I)V"⟩
abbrev cX0_follow : ByteArray := prog_2_method_4_code
def yX0_follow : MethodName := ⟨RX0, "follow", "(IIZ)V"⟩
def RX1 : String := "GossipGates$Net"
def TX1 : u_T := fun k => match k with
  | 0 => ("GossipGates$Net", "isDown", "[Z", true)
  | 1 => ("GossipGates$Net", "isStuck", "[Z", true)
  | 2 => ("GossipGates$Net", "groups", "[I", true)
  | 3 => ("GossipGates$Net", "versions", "[[I", true)
  | 4 => ("GossipGates$Net", "levels", "[[I", true)
  | 5 => ("GossipGates$Net", "measured", "[[I", true)
  | 6 => ("GossipGates$Net", "beats", "[[I", true)
  | 7 => ("GossipGates$Net", "growths", "[[I", true)
  | 8 => ("GossipGates$Net", "statuses", "[[I", true)
  | 9 => ("GossipGates$Net", "suspicionTime", "I", false)
  | 10 => ("GossipGates$Net", "deathTime", "I", false)
  | _ => ("GossipGates$Net", "vainCalls", "I", false)
def tyX1 : Nat → FieldType := fun k => match k with
  | 0 => .array .boolean
  | 1 => .array .boolean
  | 2 => .array .int
  | 3 => .array (.array .int)
  | 4 => .array (.array .int)
  | 5 => .array (.array .int)
  | 6 => .array (.array .int)
  | 7 => .array (.array .int)
  | 8 => .array (.array .int)
  | 9 => .int
  | 10 => .int
  | _ => .int
abbrev wsX10 : List Cond := u_ws RX1 TX1 12
theorem nmX1 : ∀ a, a < 12 → ∀ b, b < 12 → a ≠ b → (TX1 a).2.1 ≠ (TX1 b).2.1 := by decide +kernel
theorem tyX1_ok : ∀ k, k < 12 → parseFieldDescriptor (TX1 k).2.2.1 = some (tyX1 k) := by decide +kernel
abbrev cX1_init : ByteArray := prog_3_method_1_code
def yX1_init : MethodName := ⟨RX1, "<init>", "()V"⟩
abbrev cX1_hasNews : ByteArray := prog_3_method_2_code
def yX1_hasNews : MethodName := ⟨RX1, "hasNews", "(II)Z"⟩
abbrev cX1_isOld : ByteArray := prog_3_method_3_code
def yX1_isOld : MethodName := ⟨RX1, "isOld", "(IIII)Z"⟩
abbrev cX1_measureAll : ByteArray := prog_3_method_4_code
def yX1_measureAll : MethodName := ⟨RX1, "measureAll", "(LGossipGates$River;I)V"⟩
abbrev cX1_measure : ByteArray := prog_3_method_5_code
def yX1_measure : MethodName := ⟨RX1, "measure", "(III)V"⟩
abbrev cX1_callAll : ByteArray := prog_3_method_6_code
def yX1_callAll : MethodName := ⟨RX1, "callAll", "(I)V"⟩
abbrev cX1_call : ByteArray := prog_3_method_7_code
def yX1_call : MethodName := ⟨RX1, "call", "(II)V"⟩
abbrev cX1_calledBy : ByteArray := prog_3_method_8_code
def yX1_calledBy : MethodName := ⟨RX1, "calledBy", "(II)I"⟩
abbrev cX1_isCallable : ByteArray := prog_3_method_9_code
def yX1_isCallable : MethodName := ⟨RX1, "isCallable", "(IIZ)Z"⟩
abbrev cX1_tellOneAnother : ByteArray := prog_3_method_10_code
def yX1_tellOneAnother : MethodName := ⟨RX1, "tellOneAnother", "(III)V"⟩
abbrev cX1_takeNews : ByteArray := prog_3_method_11_code
def yX1_takeNews : MethodName := ⟨RX1, "takeNews", "(III)V"⟩
abbrev cX1_takeBeat : ByteArray := prog_3_method_12_code
def yX1_takeBeat : MethodName := ⟨RX1, "takeBeat", "(IIII)V"⟩
abbrev cX1_lookAll : ByteArray := prog_3_method_13_code
def yX1_lookAll : MethodName := ⟨RX1, "lookAll", "(I)V"⟩
abbrev cX1_lookAtOthers : ByteArray := prog_3_method_14_code
def yX1_lookAtOthers : MethodName := ⟨RX1, "lookAtOthers", "(II)V"⟩
abbrev cX1_statusAfter : ByteArray := prog_3_method_15_code
def yX1_statusAfter : MethodName := ⟨RX1, "statusAfter", "(I)I"⟩
abbrev cX1_freshestOf : ByteArray := prog_3_method_16_code
def yX1_freshestOf : MethodName := ⟨RX1, "freshestOf", "(I)I"⟩
abbrev cX1_believersOf : ByteArray := prog_3_method_17_code
def yX1_believersOf : MethodName := ⟨RX1, "believersOf", "(II)I"⟩
abbrev cX1_countUnnoticed : ByteArray := prog_3_method_18_code
def yX1_countUnnoticed : MethodName := ⟨RX1, "countUnnoticed", "()I"⟩
abbrev cX1_countMistaken : ByteArray := prog_3_method_19_code
def yX1_countMistaken : MethodName := ⟨RX1, "countMistaken", "()I"⟩
abbrev cX1_countHolders : ByteArray := prog_3_method_20_code
def yX1_countHolders : MethodName := ⟨RX1, "countHolders", "(II)I"⟩
def RX2 : String := "GossipGates$River"
def TX2 : u_T := fun k => match k with
  | 0 => ("GossipGates$River", "areas", "[I", true)
  | 1 => ("GossipGates$River", "depths", "[I", true)
  | 2 => ("GossipGates$River", "volumes", "[I", true)
  | 3 => ("GossipGates$River", "clouds", "[I", true)
  | 4 => ("GossipGates$River", "fallen", "[I", true)
  | 5 => ("GossipGates$River", "through", "[I", true)
  | 6 => ("GossipGates$River", "over", "[I", true)
  | _ => ("GossipGates$River", "source", "I", false)
def tyX2 : Nat → FieldType := fun k => match k with
  | 0 => .array .int
  | 1 => .array .int
  | 2 => .array .int
  | 3 => .array .int
  | 4 => .array .int
  | 5 => .array .int
  | 6 => .array .int
  | _ => .int
abbrev wsX20 : List Cond := u_ws RX2 TX2 8
theorem nmX2 : ∀ a, a < 8 → ∀ b, b < 8 → a ≠ b → (TX2 a).2.1 ≠ (TX2 b).2.1 := by decide +kernel
theorem tyX2_ok : ∀ k, k < 8 → parseFieldDescriptor (TX2 k).2.2.1 = some (tyX2 k) := by decide +kernel
abbrev cX2_init : ByteArray := prog_4_method_1_code
def yX2_init : MethodName := ⟨RX2, "<init>", "()V"⟩
abbrev cX2_levelOf : ByteArray := prog_4_method_2_code
def yX2_levelOf : MethodName := ⟨RX2, "levelOf", "(I)I"⟩
abbrev cX2_balanceOf : ByteArray := prog_4_method_3_code
def yX2_balanceOf : MethodName := ⟨RX2, "balanceOf", "(I)I"⟩
abbrev cX2_takeIn : ByteArray := prog_4_method_4_code
def yX2_takeIn : MethodName := ⟨RX2, "takeIn", "()V"⟩
abbrev cX2_receive : ByteArray := prog_4_method_5_code
def yX2_receive : MethodName := ⟨RX2, "receive", "(II)V"⟩
abbrev cX2_letThrough : ByteArray := prog_4_method_6_code
def yX2_letThrough : MethodName := ⟨RX2, "letThrough", "(LGossipGates$Gates;)V"⟩
abbrev cX2_spillOver : ByteArray := prog_4_method_7_code
def yX2_spillOver : MethodName := ⟨RX2, "spillOver", "()I"⟩
abbrev cX2_moveOn : ByteArray := prog_4_method_8_code
def yX2_moveOn : MethodName := ⟨RX2, "moveOn", "(II)V"⟩
def RX3 : String := "GossipGates"
def TX3 : u_T := fun k => match k with
  | 0 => ("GossipGates", "river", "LGossipGates$River;", true)
  | 1 => ("GossipGates", "gates", "LGossipGates$Gates;", true)
  | 2 => ("GossipGates", "net", "LGossipGates$Net;", true)
  | _ => ("GossipGates", "now", "I", false)
def tyX3 : Nat → FieldType := fun k => match k with
  | 0 => .object "GossipGates$River"
  | 1 => .object "GossipGates$Gates"
  | 2 => .object "GossipGates$Net"
  | _ => .int
abbrev wsX30 : List Cond := u_ws RX3 TX3 4
theorem nmX3 : ∀ a, a < 4 → ∀ b, b < 4 → a ≠ b → (TX3 a).2.1 ≠ (TX3 b).2.1 := by decide +kernel
theorem tyX3_ok : ∀ k, k < 4 → parseFieldDescriptor (TX3 k).2.2.1 = some (tyX3 k) := by decide +kernel
abbrev cX3_init : ByteArray := prog_1_method_1_code
def yX3_init : MethodName := ⟨RX3, "<init>", "()V"⟩
abbrev cX3_shape : ByteArray := prog_1_method_2_code
def yX3_shape : MethodName := ⟨RX3, "shape", "(III)V"⟩
abbrev cX3_setGauge : ByteArray := prog_1_method_3_code
def yX3_setGauge : MethodName := ⟨RX3, "setGauge", "(II)I"⟩
abbrev cX3_setSource : ByteArray := prog_1_method_4_code
def yX3_setSource : MethodName := ⟨RX3, "setSource", "(I)I"⟩
abbrev cX3_rain : ByteArray := prog_1_method_5_code
def yX3_rain : MethodName := ⟨RX3, "rain", "(II)I"⟩
abbrev cX3_volume : ByteArray := prog_1_method_6_code
def yX3_volume : MethodName := ⟨RX3, "volume", "(I)I"⟩
abbrev cX3_volumeByBalance : ByteArray := prog_1_method_7_code
def yX3_volumeByBalance : MethodName := ⟨RX3, "volumeByBalance", "(I)I"⟩
abbrev cX3_level : ByteArray := prog_1_method_8_code
def yX3_level : MethodName := ⟨RX3, "level", "(I)I"⟩
abbrev cX3_flowed : ByteArray := prog_1_method_9_code
def yX3_flowed : MethodName := ⟨RX3, "flowed", "(I)I"⟩
abbrev cX3_spilled : ByteArray := prog_1_method_10_code
def yX3_spilled : MethodName := ⟨RX3, "spilled", "(I)I"⟩
abbrev cX3_setRule : ByteArray := prog_1_method_11_code
def yX3_setRule : MethodName := ⟨RX3, "setRule", "(IIIII)V"⟩
abbrev cX3_byHand : ByteArray := prog_1_method_12_code
def yX3_byHand : MethodName := ⟨RX3, "byHand", "(II)I"⟩
abbrev cX3_opening : ByteArray := prog_1_method_13_code
def yX3_opening : MethodName := ⟨RX3, "opening", "(I)I"⟩
abbrev cX3_safety : ByteArray := prog_1_method_14_code
def yX3_safety : MethodName := ⟨RX3, "safety", "(I)I"⟩
abbrev cX3_fall : ByteArray := prog_1_method_15_code
def yX3_fall : MethodName := ⟨RX3, "fall", "(I)V"⟩
abbrev cX3_comeUp : ByteArray := prog_1_method_16_code
def yX3_comeUp : MethodName := ⟨RX3, "comeUp", "(I)V"⟩
abbrev cX3_setGroup : ByteArray := prog_1_method_17_code
def yX3_setGroup : MethodName := ⟨RX3, "setGroup", "(II)I"⟩
abbrev cX3_setStuck : ByteArray := prog_1_method_18_code
def yX3_setStuck : MethodName := ⟨RX3, "setStuck", "(IZ)Z"⟩
abbrev cX3_setTimes : ByteArray := prog_1_method_19_code
def yX3_setTimes : MethodName := ⟨RX3, "setTimes", "(II)V"⟩
abbrev cX3_believed : ByteArray := prog_1_method_20_code
def yX3_believed : MethodName := ⟨RX3, "believed", "(II)I"⟩
abbrev cX3_version : ByteArray := prog_1_method_21_code
def yX3_version : MethodName := ⟨RX3, "version", "(II)I"⟩
abbrev cX3_age : ByteArray := prog_1_method_22_code
def yX3_age : MethodName := ⟨RX3, "age", "(II)I"⟩
abbrev cX3_beat : ByteArray := prog_1_method_23_code
def yX3_beat : MethodName := ⟨RX3, "beat", "(II)I"⟩
abbrev cX3_status : ByteArray := prog_1_method_24_code
def yX3_status : MethodName := ⟨RX3, "status", "(II)I"⟩
abbrev cX3_partner : ByteArray := prog_1_method_25_code
def yX3_partner : MethodName := ⟨RX3, "partner", "(I)I"⟩
abbrev cX3_freshest : ByteArray := prog_1_method_26_code
def yX3_freshest : MethodName := ⟨RX3, "freshest", "(I)I"⟩
abbrev cX3_agree : ByteArray := prog_1_method_27_code
def yX3_agree : MethodName := ⟨RX3, "agree", "(I)I"⟩
abbrev cX3_unnoticed : ByteArray := prog_1_method_28_code
def yX3_unnoticed : MethodName := ⟨RX3, "unnoticed", "()I"⟩
abbrev cX3_mistaken : ByteArray := prog_1_method_29_code
def yX3_mistaken : MethodName := ⟨RX3, "mistaken", "()I"⟩
abbrev cX3_vain : ByteArray := prog_1_method_30_code
def yX3_vain : MethodName := ⟨RX3, "vain", "()I"⟩
abbrev cX3_tick : ByteArray := prog_1_method_31_code
def yX3_tick : MethodName := ⟨RX3, "tick", "(I)I"⟩
abbrev cX3_time : ByteArray := prog_1_method_32_code
def yX3_time : MethodName := ⟨RX3, "time", "()I"⟩
abbrev cX3_passOneTick : ByteArray := prog_1_method_33_code
def yX3_passOneTick : MethodName := ⟨RX3, "passOneTick", "()I"⟩
abbrev cX3_ruleGates : ByteArray := prog_1_method_34_code
def yX3_ruleGates : MethodName := ⟨RX3, "ruleGates", "()V"⟩
abbrev cX3_ruleGate : ByteArray := prog_1_method_35_code
def yX3_ruleGate : MethodName := ⟨RX3, "ruleGate", "(I)V"⟩
abbrev cX3_requireNumber : ByteArray := prog_1_method_36_code
def yX3_requireNumber : MethodName := ⟨RX3, "requireNumber", "(I)V"⟩
abbrev cX3_requireWithin : ByteArray := prog_1_method_37_code
def yX3_requireWithin : MethodName := ⟨RX3, "requireWithin", "(III)V"⟩
def RX4 : String := "GossipGatesModel"
def TX4 : u_T := fun k => match k with
  | 0 => ("GossipGatesModel", "areas", "[I", true)
  | 1 => ("GossipGatesModel", "depths", "[I", true)
  | 2 => ("GossipGatesModel", "volumes", "[I", true)
  | 3 => ("GossipGatesModel", "openings", "[I", true)
  | 4 => ("GossipGatesModel", "gauges", "[I", true)
  | 5 => ("GossipGatesModel", "rains", "[I", true)
  | 6 => ("GossipGatesModel", "flows", "[I", true)
  | 7 => ("GossipGatesModel", "flowed", "[I", true)
  | 8 => ("GossipGatesModel", "spilled", "[I", true)
  | 9 => ("GossipGatesModel", "source", "I", false)
  | 10 => ("GossipGatesModel", "lows", "[I", true)
  | 11 => ("GossipGatesModel", "highs", "[I", true)
  | 12 => ("GossipGatesModel", "bounds", "[I", true)
  | 13 => ("GossipGatesModel", "ages", "[I", true)
  | 14 => ("GossipGatesModel", "isHeld", "[Z", true)
  | 15 => ("GossipGatesModel", "safeties", "[I", true)
  | 16 => ("GossipGatesModel", "isDown", "[Z", true)
  | 17 => ("GossipGatesModel", "groups", "[I", true)
  | 18 => ("GossipGatesModel", "isStuck", "[Z", true)
  | 19 => ("GossipGatesModel", "versions", "[I", true)
  | 20 => ("GossipGatesModel", "levels", "[I", true)
  | 21 => ("GossipGatesModel", "measured", "[I", true)
  | 22 => ("GossipGatesModel", "beats", "[I", true)
  | 23 => ("GossipGatesModel", "grown", "[I", true)
  | 24 => ("GossipGatesModel", "statuses", "[I", true)
  | 25 => ("GossipGatesModel", "suspicion", "I", false)
  | 26 => ("GossipGatesModel", "death", "I", false)
  | 27 => ("GossipGatesModel", "vain", "I", false)
  | 28 => ("GossipGatesModel", "time", "I", false)
  | _ => ("GossipGatesModel", "thrown", "I", false)
def tyX4 : Nat → FieldType := fun k => match k with
  | 0 => .array .int
  | 1 => .array .int
  | 2 => .array .int
  | 3 => .array .int
  | 4 => .array .int
  | 5 => .array .int
  | 6 => .array .int
  | 7 => .array .int
  | 8 => .array .int
  | 9 => .int
  | 10 => .array .int
  | 11 => .array .int
  | 12 => .array .int
  | 13 => .array .int
  | 14 => .array .boolean
  | 15 => .array .int
  | 16 => .array .boolean
  | 17 => .array .int
  | 18 => .array .boolean
  | 19 => .array .int
  | 20 => .array .int
  | 21 => .array .int
  | 22 => .array .int
  | 23 => .array .int
  | 24 => .array .int
  | 25 => .int
  | 26 => .int
  | 27 => .int
  | 28 => .int
  | _ => .int
abbrev wsX40 : List Cond := u_ws RX4 TX4 30
theorem nmX4 : ∀ a, a < 30 → ∀ b, b < 30 → a ≠ b → (TX4 a).2.1 ≠ (TX4 b).2.1 := by decide +kernel
theorem tyX4_ok : ∀ k, k < 30 → parseFieldDescriptor (TX4 k).2.2.1 = some (tyX4 k) := by decide +kernel
abbrev cX4_init : ByteArray := prog_6_method_1_code
def yX4_init : MethodName := ⟨RX4, "<init>", "()V"⟩
abbrev cX4_thrown : ByteArray := prog_6_method_2_code
def yX4_thrown : MethodName := ⟨RX4, "thrown", "()I"⟩
abbrev cX4_goes : ByteArray := prog_6_method_3_code
def yX4_goes : MethodName := ⟨RX4, "goes", "(I)Z"⟩
abbrev cX4_isIn : ByteArray := prog_6_method_4_code
def yX4_isIn : MethodName := ⟨RX4, "isIn", "(III)Z"⟩
abbrev cX4_isOne : ByteArray := prog_6_method_5_code
def yX4_isOne : MethodName := ⟨RX4, "isOne", "(I)Z"⟩
abbrev cX4_asks : ByteArray := prog_6_method_6_code
def yX4_asks : MethodName := ⟨RX4, "asks", "(I)Z"⟩
abbrev cX4_ask : ByteArray := prog_6_method_7_code
def yX4_ask : MethodName := ⟨RX4, "ask", "(II)Z"⟩
abbrev cX4_at : ByteArray := prog_6_method_8_code
def yX4_at : MethodName := ⟨RX4, "at", "(II)I"⟩
abbrev cX4_shape : ByteArray := prog_6_method_9_code
def yX4_shape : MethodName := ⟨RX4, "shape", "(III)V"⟩
abbrev cX4_setGauge : ByteArray := prog_6_method_10_code
def yX4_setGauge : MethodName := ⟨RX4, "setGauge", "(II)I"⟩
abbrev cX4_setSource : ByteArray := prog_6_method_11_code
def yX4_setSource : MethodName := ⟨RX4, "setSource", "(I)I"⟩
abbrev cX4_rain : ByteArray := prog_6_method_12_code
def yX4_rain : MethodName := ⟨RX4, "rain", "(II)I"⟩
abbrev cX4_volume : ByteArray := prog_6_method_13_code
def yX4_volume : MethodName := ⟨RX4, "volume", "(I)I"⟩
abbrev cX4_volumeByBalance : ByteArray := prog_6_method_14_code
def yX4_volumeByBalance : MethodName := ⟨RX4, "volumeByBalance", "(I)I"⟩
abbrev cX4_levelOf : ByteArray := prog_6_method_15_code
def yX4_levelOf : MethodName := ⟨RX4, "levelOf", "(I)I"⟩
abbrev cX4_level : ByteArray := prog_6_method_16_code
def yX4_level : MethodName := ⟨RX4, "level", "(I)I"⟩
abbrev cX4_flowed : ByteArray := prog_6_method_17_code
def yX4_flowed : MethodName := ⟨RX4, "flowed", "(I)I"⟩
abbrev cX4_spilled : ByteArray := prog_6_method_18_code
def yX4_spilled : MethodName := ⟨RX4, "spilled", "(I)I"⟩
abbrev cX4_setRule : ByteArray := prog_6_method_19_code
def yX4_setRule : MethodName := ⟨RX4, "setRule", "(IIIII)V"⟩
abbrev cX4_byHand : ByteArray := prog_6_method_20_code
def yX4_byHand : MethodName := ⟨RX4, "byHand", "(II)I"⟩
abbrev cX4_opening : ByteArray := prog_6_method_21_code
def yX4_opening : MethodName := ⟨RX4, "opening", "(I)I"⟩
abbrev cX4_safety : ByteArray := prog_6_method_22_code
def yX4_safety : MethodName := ⟨RX4, "safety", "(I)I"⟩
abbrev cX4_fall : ByteArray := prog_6_method_23_code
def yX4_fall : MethodName := ⟨RX4, "fall", "(I)V"⟩
abbrev cX4_comeUp : ByteArray := prog_6_method_24_code
def yX4_comeUp : MethodName := ⟨RX4, "comeUp", "(I)V"⟩
abbrev cX4_setGroup : ByteArray := prog_6_method_25_code
def yX4_setGroup : MethodName := ⟨RX4, "setGroup", "(II)I"⟩
abbrev cX4_setStuck : ByteArray := prog_6_method_26_code
def yX4_setStuck : MethodName := ⟨RX4, "setStuck", "(IZ)Z"⟩
abbrev cX4_setTimes : ByteArray := prog_6_method_27_code
def yX4_setTimes : MethodName := ⟨RX4, "setTimes", "(II)V"⟩
abbrev cX4_hasNews : ByteArray := prog_6_method_28_code
def yX4_hasNews : MethodName := ⟨RX4, "hasNews", "(II)Z"⟩
abbrev cX4_believed : ByteArray := prog_6_method_29_code
def yX4_believed : MethodName := ⟨RX4, "believed", "(II)I"⟩
abbrev cX4_version : ByteArray := prog_6_method_30_code
def yX4_version : MethodName := ⟨RX4, "version", "(II)I"⟩
abbrev cX4_ageOf : ByteArray := prog_6_method_31_code
def yX4_ageOf : MethodName := ⟨RX4, "ageOf", "(II)I"⟩
abbrev cX4_age : ByteArray := prog_6_method_32_code
def yX4_age : MethodName := ⟨RX4, "age", "(II)I"⟩
abbrev cX4_beat : ByteArray := prog_6_method_33_code
def yX4_beat : MethodName := ⟨RX4, "beat", "(II)I"⟩
abbrev cX4_status : ByteArray := prog_6_method_34_code
def yX4_status : MethodName := ⟨RX4, "status", "(II)I"⟩
abbrev cX4_isCallable : ByteArray := prog_6_method_35_code
def yX4_isCallable : MethodName := ⟨RX4, "isCallable", "(III)Z"⟩
abbrev cX4_called : ByteArray := prog_6_method_36_code
def yX4_called : MethodName := ⟨RX4, "called", "(II)I"⟩
abbrev cX4_partner : ByteArray := prog_6_method_37_code
def yX4_partner : MethodName := ⟨RX4, "partner", "(I)I"⟩
abbrev cX4_freshest : ByteArray := prog_6_method_38_code
def yX4_freshest : MethodName := ⟨RX4, "freshest", "(I)I"⟩
abbrev cX4_agree : ByteArray := prog_6_method_39_code
def yX4_agree : MethodName := ⟨RX4, "agree", "(I)I"⟩
abbrev cX4_unnoticed : ByteArray := prog_6_method_40_code
def yX4_unnoticed : MethodName := ⟨RX4, "unnoticed", "()I"⟩
abbrev cX4_mistaken : ByteArray := prog_6_method_41_code
def yX4_mistaken : MethodName := ⟨RX4, "mistaken", "()I"⟩
abbrev cX4_vain : ByteArray := prog_6_method_42_code
def yX4_vain : MethodName := ⟨RX4, "vain", "()I"⟩
abbrev cX4_falls : ByteArray := prog_6_method_43_code
def yX4_falls : MethodName := ⟨RX4, "falls", "()V"⟩
abbrev cX4_flowsOn : ByteArray := prog_6_method_44_code
def yX4_flowsOn : MethodName := ⟨RX4, "flowsOn", "()V"⟩
abbrev cX4_spills : ByteArray := prog_6_method_45_code
def yX4_spills : MethodName := ⟨RX4, "spills", "()I"⟩
abbrev cX4_measures : ByteArray := prog_6_method_46_code
def yX4_measures : MethodName := ⟨RX4, "measures", "()V"⟩
abbrev cX4_takes : ByteArray := prog_6_method_47_code
def yX4_takes : MethodName := ⟨RX4, "takes", "(II)V"⟩
abbrev cX4_calls : ByteArray := prog_6_method_48_code
def yX4_calls : MethodName := ⟨RX4, "calls", "()V"⟩
abbrev cX4_looks : ByteArray := prog_6_method_49_code
def yX4_looks : MethodName := ⟨RX4, "looks", "()V"⟩
abbrev cX4_rules : ByteArray := prog_6_method_50_code
def yX4_rules : MethodName := ⟨RX4, "rules", "(I)V"⟩
abbrev cX4_ticks : ByteArray := prog_6_method_51_code
def yX4_ticks : MethodName := ⟨RX4, "ticks", "()I"⟩
abbrev cX4_tick : ByteArray := prog_6_method_52_code
def yX4_tick : MethodName := ⟨RX4, "tick", "(I)I"⟩
abbrev cX4_time : ByteArray := prog_6_method_53_code
def yX4_time : MethodName := ⟨RX4, "time", "()I"⟩
def RJx145de : String := "java/io/Serializable"
def TJx145de : u_T := fun k => match k with
  | _ => ("", "", "", false)
def tyJx145de : Nat → FieldType := fun k => match k with
  | _ => .int
abbrev wsJx145de0 : List Cond := u_ws RJx145de TJx145de 0
theorem nmJx145de : ∀ a, a < 0 → ∀ b, b < 0 → a ≠ b → (TJx145de a).2.1 ≠ (TJx145de b).2.1 := by decide +kernel
theorem tyJx145de_ok : ∀ k, k < 0 → parseFieldDescriptor (TJx145de k).2.2.1 = some (tyJx145de k) := by decide +kernel
def RJ9 : String := "java/lang/Math"
def TJ9 : u_T := fun k => match k with
  | _ => ("", "", "", false)
def tyJ9 : Nat → FieldType := fun k => match k with
  | _ => .int
abbrev wsJ90 : List Cond := u_ws RJ9 TJ9 0
theorem nmJ9 : ∀ a, a < 0 → ∀ b, b < 0 → a ≠ b → (TJ9 a).2.1 ≠ (TJ9 b).2.1 := by decide +kernel
theorem tyJ9_ok : ∀ k, k < 0 → parseFieldDescriptor (TJ9 k).2.2.1 = some (tyJ9 k) := by decide +kernel
abbrev cJ9_max_7cf53 : ByteArray := prog_10_method_65_code
def yJ9_max_7cf53 : MethodName := ⟨RJ9, "max", "(II)I"⟩
abbrev cJ9_min_7cf53 : ByteArray := prog_10_method_69_code
def yJ9_min_7cf53 : MethodName := ⟨RJ9, "min", "(II)I"⟩
def RJ0 : String := "java/lang/String"
def TJ0 : u_T := fun k => match k with
  | _ => ("", "", "", false)
def tyJ0 : Nat → FieldType := fun k => match k with
  | _ => .int
abbrev wsJ00 : List Cond := u_ws RJ0 TJ0 0
theorem nmJ0 : ∀ a, a < 0 → ∀ b, b < 0 → a ≠ b → (TJ0 a).2.1 ≠ (TJ0 b).2.1 := by decide +kernel
theorem tyJ0_ok : ∀ k, k < 0 → parseFieldDescriptor (TJ0 k).2.2.1 = some (tyJ0 k) := by decide +kernel
def RJ7 : String := "java/util/Arrays"
def TJ7 : u_T := fun k => match k with
  | _ => ("", "", "", false)
def tyJ7 : Nat → FieldType := fun k => match k with
  | _ => .int
abbrev wsJ70 : List Cond := u_ws RJ7 TJ7 0
theorem nmJ7 : ∀ a, a < 0 → ∀ b, b < 0 → a ≠ b → (TJ7 a).2.1 ≠ (TJ7 b).2.1 := by decide +kernel
theorem tyJ7_ok : ∀ k, k < 0 → parseFieldDescriptor (TJ7 k).2.2.1 = some (tyJ7 k) := by decide +kernel
abbrev cJ7_fill_53178 : ByteArray := prog_14_method_103_code
def yJ7_fill_53178 : MethodName := ⟨RJ7, "fill", "([II)V"⟩
def RL : String := "GossipGatesLaw"
abbrev cL_shape : ByteArray := method_3_code
def yL_shape : MethodName := ⟨RL, "shape", "(LGossipGates;III)I"⟩
abbrev cL_setGauge : ByteArray := method_4_code
def yL_setGauge : MethodName := ⟨RL, "setGauge", "(LGossipGates;II[J)I"⟩
abbrev cL_setSource : ByteArray := method_5_code
def yL_setSource : MethodName := ⟨RL, "setSource", "(LGossipGates;I[J)I"⟩
abbrev cL_rain : ByteArray := method_6_code
def yL_rain : MethodName := ⟨RL, "rain", "(LGossipGates;II[J)I"⟩
abbrev cL_volume : ByteArray := method_7_code
def yL_volume : MethodName := ⟨RL, "volume", "(LGossipGates;I[J)I"⟩
abbrev cL_volumeByBalance : ByteArray := method_8_code
def yL_volumeByBalance : MethodName := ⟨RL, "volumeByBalance", "(LGossipGates;I[J)I"⟩
abbrev cL_level : ByteArray := method_9_code
def yL_level : MethodName := ⟨RL, "level", "(LGossipGates;I[J)I"⟩
abbrev cL_flowed : ByteArray := method_10_code
def yL_flowed : MethodName := ⟨RL, "flowed", "(LGossipGates;I[J)I"⟩
abbrev cL_spilled : ByteArray := method_11_code
def yL_spilled : MethodName := ⟨RL, "spilled", "(LGossipGates;I[J)I"⟩
abbrev cL_setRule : ByteArray := method_12_code
def yL_setRule : MethodName := ⟨RL, "setRule", "(LGossipGates;IIIII)I"⟩
abbrev cL_byHand : ByteArray := method_13_code
def yL_byHand : MethodName := ⟨RL, "byHand", "(LGossipGates;II[J)I"⟩
abbrev cL_opening : ByteArray := method_14_code
def yL_opening : MethodName := ⟨RL, "opening", "(LGossipGates;I[J)I"⟩
abbrev cL_safety : ByteArray := method_15_code
def yL_safety : MethodName := ⟨RL, "safety", "(LGossipGates;I[J)I"⟩
abbrev cL_fall : ByteArray := method_16_code
def yL_fall : MethodName := ⟨RL, "fall", "(LGossipGates;I)I"⟩
abbrev cL_comeUp : ByteArray := method_17_code
def yL_comeUp : MethodName := ⟨RL, "comeUp", "(LGossipGates;I)I"⟩
abbrev cL_setGroup : ByteArray := method_18_code
def yL_setGroup : MethodName := ⟨RL, "setGroup", "(LGossipGates;II[J)I"⟩
abbrev cL_setStuck : ByteArray := method_19_code
def yL_setStuck : MethodName := ⟨RL, "setStuck", "(LGossipGates;IZ[J)I"⟩
abbrev cL_setTimes : ByteArray := method_20_code
def yL_setTimes : MethodName := ⟨RL, "setTimes", "(LGossipGates;II)I"⟩
abbrev cL_believed : ByteArray := method_21_code
def yL_believed : MethodName := ⟨RL, "believed", "(LGossipGates;II[J)I"⟩
abbrev cL_version : ByteArray := method_22_code
def yL_version : MethodName := ⟨RL, "version", "(LGossipGates;II[J)I"⟩
abbrev cL_age : ByteArray := method_23_code
def yL_age : MethodName := ⟨RL, "age", "(LGossipGates;II[J)I"⟩
abbrev cL_beat : ByteArray := method_24_code
def yL_beat : MethodName := ⟨RL, "beat", "(LGossipGates;II[J)I"⟩
abbrev cL_status : ByteArray := method_25_code
def yL_status : MethodName := ⟨RL, "status", "(LGossipGates;II[J)I"⟩
abbrev cL_partner : ByteArray := method_26_code
def yL_partner : MethodName := ⟨RL, "partner", "(LGossipGates;I[J)I"⟩
abbrev cL_freshest : ByteArray := method_27_code
def yL_freshest : MethodName := ⟨RL, "freshest", "(LGossipGates;I[J)I"⟩
abbrev cL_agree : ByteArray := method_28_code
def yL_agree : MethodName := ⟨RL, "agree", "(LGossipGates;I[J)I"⟩
abbrev cL_tick : ByteArray := method_29_code
def yL_tick : MethodName := ⟨RL, "tick", "(LGossipGates;I[J)I"⟩
abbrev cL_law : ByteArray := code
def yL_law : MethodName := ⟨RL, "law", "([I)Z"⟩
def wsJ7_fill_53178 : List Cond := .code yJ7_fill_53178 cJ7_fill_53178 4 none :: ([])
def wsX0_init : List Cond := .code yX0_init cX0_init 1 none :: ([.methodLink RX0 3 objectInit, .instanceMethod objectInit, .code objectInit ⟨#[0xb1]⟩ 1 none, .arrayClass .int, .fieldLink RX0 9 "GossipGates$Gates" "gauges" "[I", .fieldLink RX0 15 "GossipGates$Gates" "openings" "[I", .fieldLink RX0 18 "GossipGates$Gates" "lows" "[I", .fieldLink RX0 21 "GossipGates$Gates" "highs" "[I", .fieldLink RX0 24 "GossipGates$Gates" "bounds" "[I", .fieldLink RX0 27 "GossipGates$Gates" "ages" "[I", .fieldLink RX0 30 "GossipGates$Gates" "safeties" "[I", .arrayClass .boolean, .fieldLink RX0 33 "GossipGates$Gates" "inHand" "[Z", .methodLink RX0 37 yJ7_fill_53178, .static yJ7_fill_53178, .initialized RJ7, .code yJ7_fill_53178 cJ7_fill_53178 4 none] ++ wsX00)
def wsX0_mostThrough : List Cond := .code yX0_mostThrough cX0_mostThrough 2 (some .int) :: ([.fieldLink RX0 15 "GossipGates$Gates" "openings" "[I", .fieldLink RX0 9 "GossipGates$Gates" "gauges" "[I"] ++ wsX00)
def wsX0_openForSafety : List Cond := .code yX0_openForSafety cX0_openForSafety 2 none :: ([.fieldLink RX0 15 "GossipGates$Gates" "openings" "[I", .methodLink RX0 43 Lib.Math.min.name, .static Lib.Math.min.name, .initialized "java/lang/Math", .code Lib.Math.min.name Lib.Math.min.code 2 (some .int), .fieldLink RX0 30 "GossipGates$Gates" "safeties" "[I"] ++ wsX00)
def wsX0_follow : List Cond := .code yX0_follow cX0_follow 4 none :: ([.fieldLink RX0 21 "GossipGates$Gates" "highs" "[I", .fieldLink RX0 15 "GossipGates$Gates" "openings" "[I", .methodLink RX0 43 Lib.Math.min.name, .static Lib.Math.min.name, .initialized "java/lang/Math", .code Lib.Math.min.name Lib.Math.min.code 2 (some .int), .fieldLink RX0 18 "GossipGates$Gates" "lows" "[I", .methodLink RX0 49 Lib.Math.max.name, .static Lib.Math.max.name, .code Lib.Math.max.name Lib.Math.max.code 2 (some .int)] ++ wsX00)
def wsX1_init : List Cond := .code yX1_init cX1_init 1 none :: ([.methodLink RX1 3 objectInit, .instanceMethod objectInit, .code objectInit ⟨#[0xb1]⟩ 1 none, .arrayClass .boolean, .fieldLink RX1 9 "GossipGates$Net" "isDown" "[Z", .fieldLink RX1 15 "GossipGates$Net" "isStuck" "[Z", .arrayClass .int, .fieldLink RX1 18 "GossipGates$Net" "groups" "[I", .classLink RX1 22 "[[I", .fieldLink RX1 24 "GossipGates$Net" "versions" "[[I", .fieldLink RX1 27 "GossipGates$Net" "levels" "[[I", .fieldLink RX1 30 "GossipGates$Net" "measured" "[[I", .fieldLink RX1 33 "GossipGates$Net" "beats" "[[I", .fieldLink RX1 36 "GossipGates$Net" "growths" "[[I", .fieldLink RX1 39 "GossipGates$Net" "statuses" "[[I", .fieldLink RX1 42 "GossipGates$Net" "suspicionTime" "I", .fieldLink RX1 46 "GossipGates$Net" "deathTime" "I", .fieldLink RX1 49 "GossipGates$Net" "vainCalls" "I"] ++ wsX10)
def wsX1_hasNews : List Cond := .code yX1_hasNews cX1_hasNews 3 (some .boolean) :: ([.fieldLink RX1 24 "GossipGates$Net" "versions" "[[I"] ++ wsX10)
def wsX1_isOld : List Cond := .code yX1_isOld cX1_isOld 5 (some .boolean) :: ([.fieldLink RX1 30 "GossipGates$Net" "measured" "[[I", .methodLink RX1 52 yX1_hasNews, .instanceMethod yX1_hasNews, .selects RX1 yX1_hasNews yX1_hasNews, .initialized RX1, .code yX1_hasNews cX1_hasNews 3 (some .boolean), .fieldLink RX1 24 "GossipGates$Net" "versions" "[[I"] ++ wsX10)
def wsX2_levelOf : List Cond := .code yX2_levelOf cX2_levelOf 3 (some .int) :: ([.fieldLink RX2 9 "GossipGates$River" "areas" "[I", .fieldLink RX2 18 "GossipGates$River" "volumes" "[I"] ++ wsX20)
def wsX1_measure : List Cond := .code yX1_measure cX1_measure 4 none :: ([.fieldLink RX1 15 "GossipGates$Net" "isStuck" "[Z", .fieldLink RX1 27 "GossipGates$Net" "levels" "[[I", .fieldLink RX1 30 "GossipGates$Net" "measured" "[[I", .fieldLink RX1 24 "GossipGates$Net" "versions" "[[I", .fieldLink RX1 33 "GossipGates$Net" "beats" "[[I", .fieldLink RX1 36 "GossipGates$Net" "growths" "[[I"] ++ wsX10)
def wsX1_measureAll : List Cond := .code yX1_measureAll cX1_measureAll 4 none :: ([.fieldLink RX1 9 "GossipGates$Net" "isDown" "[Z", .methodLink RX1 56 yX2_levelOf, .instanceMethod yX2_levelOf, .selects RX2 yX2_levelOf yX2_levelOf, .initialized RX2, .code yX2_levelOf cX2_levelOf 3 (some .int), .fieldLink RX2 9 "GossipGates$River" "areas" "[I", .fieldLink RX2 18 "GossipGates$River" "volumes" "[I", .methodLink RX1 62 yX1_measure, .instanceMethod yX1_measure, .selects RX1 yX1_measure yX1_measure, .initialized RX1, .code yX1_measure cX1_measure 4 none, .fieldLink RX1 15 "GossipGates$Net" "isStuck" "[Z", .fieldLink RX1 27 "GossipGates$Net" "levels" "[[I", .fieldLink RX1 30 "GossipGates$Net" "measured" "[[I", .fieldLink RX1 24 "GossipGates$Net" "versions" "[[I", .fieldLink RX1 33 "GossipGates$Net" "beats" "[[I", .fieldLink RX1 36 "GossipGates$Net" "growths" "[[I"] ++ wsX10 ++ wsX20)
def wsX1_isCallable : List Cond := .code yX1_isCallable cX1_isCallable 4 (some .boolean) :: ([.fieldLink RX1 39 "GossipGates$Net" "statuses" "[[I"] ++ wsX10)
def wsX1_calledBy : List Cond := .code yX1_calledBy cX1_calledBy 7 (some .int) :: ([.methodLink RX1 77 yX1_isCallable, .instanceMethod yX1_isCallable, .selects RX1 yX1_isCallable yX1_isCallable, .initialized RX1, .code yX1_isCallable cX1_isCallable 4 (some .boolean), .fieldLink RX1 39 "GossipGates$Net" "statuses" "[[I"] ++ wsX10)
def wsX1_takeNews : List Cond := .code yX1_takeNews cX1_takeNews 4 none :: ([.fieldLink RX1 24 "GossipGates$Net" "versions" "[[I", .fieldLink RX1 27 "GossipGates$Net" "levels" "[[I", .fieldLink RX1 30 "GossipGates$Net" "measured" "[[I"] ++ wsX10)
def wsX1_takeBeat : List Cond := .code yX1_takeBeat cX1_takeBeat 5 none :: ([.fieldLink RX1 33 "GossipGates$Net" "beats" "[[I", .fieldLink RX1 36 "GossipGates$Net" "growths" "[[I", .fieldLink RX1 39 "GossipGates$Net" "statuses" "[[I"] ++ wsX10)
def wsX1_tellOneAnother : List Cond := .code yX1_tellOneAnother cX1_tellOneAnother 5 none :: ([.methodLink RX1 81 yX1_takeNews, .instanceMethod yX1_takeNews, .selects RX1 yX1_takeNews yX1_takeNews, .initialized RX1, .code yX1_takeNews cX1_takeNews 4 none, .fieldLink RX1 24 "GossipGates$Net" "versions" "[[I", .fieldLink RX1 27 "GossipGates$Net" "levels" "[[I", .fieldLink RX1 30 "GossipGates$Net" "measured" "[[I", .methodLink RX1 84 yX1_takeBeat, .instanceMethod yX1_takeBeat, .selects RX1 yX1_takeBeat yX1_takeBeat, .code yX1_takeBeat cX1_takeBeat 5 none, .fieldLink RX1 33 "GossipGates$Net" "beats" "[[I", .fieldLink RX1 36 "GossipGates$Net" "growths" "[[I", .fieldLink RX1 39 "GossipGates$Net" "statuses" "[[I"] ++ wsX10)
def wsX1_call_r1 : List Cond := [Cond.fieldLink RX1 9 "GossipGates$Net" "isDown" "[Z", Cond.fieldLink RX1 18 "GossipGates$Net" "groups" "[I", Cond.fieldLink RX1 49 "GossipGates$Net" "vainCalls" "I", Cond.methodLink RX1 70 yX1_calledBy, Cond.instanceMethod yX1_calledBy, Cond.selects RX1 yX1_calledBy yX1_calledBy, Cond.initialized RX1, Cond.code yX1_calledBy cX1_calledBy 7 (some .int), Cond.methodLink RX1 77 yX1_isCallable, Cond.instanceMethod yX1_isCallable, Cond.selects RX1 yX1_isCallable yX1_isCallable, Cond.code yX1_isCallable cX1_isCallable 4 (some .boolean), Cond.fieldLink RX1 39 "GossipGates$Net" "statuses" "[[I", Cond.methodLink RX1 74 yX1_tellOneAnother, Cond.instanceMethod yX1_tellOneAnother, Cond.selects RX1 yX1_tellOneAnother yX1_tellOneAnother, Cond.code yX1_tellOneAnother cX1_tellOneAnother 5 none, Cond.methodLink RX1 81 yX1_takeNews, Cond.instanceMethod yX1_takeNews, Cond.selects RX1 yX1_takeNews yX1_takeNews, Cond.code yX1_takeNews cX1_takeNews 4 none, Cond.fieldLink RX1 24 "GossipGates$Net" "versions" "[[I", Cond.fieldLink RX1 27 "GossipGates$Net" "levels" "[[I", Cond.fieldLink RX1 30 "GossipGates$Net" "measured" "[[I"]
def wsX1_call_r2 : List Cond := [Cond.methodLink RX1 84 yX1_takeBeat, Cond.instanceMethod yX1_takeBeat, Cond.selects RX1 yX1_takeBeat yX1_takeBeat, Cond.code yX1_takeBeat cX1_takeBeat 5 none, Cond.fieldLink RX1 33 "GossipGates$Net" "beats" "[[I", Cond.fieldLink RX1 36 "GossipGates$Net" "growths" "[[I"]
def wsX1_call : List Cond := .code yX1_call cX1_call 4 none :: ((wsX1_call_r1 ++ wsX1_call_r2) ++ wsX10)
def wsX1_callAll_r1 : List Cond := [Cond.fieldLink RX1 9 "GossipGates$Net" "isDown" "[Z", Cond.methodLink RX1 66 yX1_call, Cond.instanceMethod yX1_call, Cond.selects RX1 yX1_call yX1_call, Cond.initialized RX1, Cond.code yX1_call cX1_call 4 none, Cond.fieldLink RX1 18 "GossipGates$Net" "groups" "[I", Cond.fieldLink RX1 49 "GossipGates$Net" "vainCalls" "I", Cond.methodLink RX1 70 yX1_calledBy, Cond.instanceMethod yX1_calledBy, Cond.selects RX1 yX1_calledBy yX1_calledBy, Cond.code yX1_calledBy cX1_calledBy 7 (some .int), Cond.methodLink RX1 77 yX1_isCallable, Cond.instanceMethod yX1_isCallable, Cond.selects RX1 yX1_isCallable yX1_isCallable, Cond.code yX1_isCallable cX1_isCallable 4 (some .boolean), Cond.fieldLink RX1 39 "GossipGates$Net" "statuses" "[[I", Cond.methodLink RX1 74 yX1_tellOneAnother, Cond.instanceMethod yX1_tellOneAnother, Cond.selects RX1 yX1_tellOneAnother yX1_tellOneAnother, Cond.code yX1_tellOneAnother cX1_tellOneAnother 5 none, Cond.methodLink RX1 81 yX1_takeNews, Cond.instanceMethod yX1_takeNews, Cond.selects RX1 yX1_takeNews yX1_takeNews]
def wsX1_callAll_r2 : List Cond := [Cond.code yX1_takeNews cX1_takeNews 4 none, Cond.fieldLink RX1 24 "GossipGates$Net" "versions" "[[I", Cond.fieldLink RX1 27 "GossipGates$Net" "levels" "[[I", Cond.fieldLink RX1 30 "GossipGates$Net" "measured" "[[I", Cond.methodLink RX1 84 yX1_takeBeat, Cond.instanceMethod yX1_takeBeat, Cond.selects RX1 yX1_takeBeat yX1_takeBeat, Cond.code yX1_takeBeat cX1_takeBeat 5 none, Cond.fieldLink RX1 33 "GossipGates$Net" "beats" "[[I", Cond.fieldLink RX1 36 "GossipGates$Net" "growths" "[[I"]
def wsX1_callAll : List Cond := .code yX1_callAll cX1_callAll 3 none :: ((wsX1_callAll_r1 ++ wsX1_callAll_r2) ++ wsX10)
def wsX1_statusAfter : List Cond := .code yX1_statusAfter cX1_statusAfter 2 (some .int) :: ([.fieldLink RX1 46 "GossipGates$Net" "deathTime" "I", .fieldLink RX1 42 "GossipGates$Net" "suspicionTime" "I"] ++ wsX10)
def wsX1_lookAtOthers : List Cond := .code yX1_lookAtOthers cX1_lookAtOthers 4 none :: ([.fieldLink RX1 39 "GossipGates$Net" "statuses" "[[I", .fieldLink RX1 36 "GossipGates$Net" "growths" "[[I", .methodLink RX1 91 yX1_statusAfter, .instanceMethod yX1_statusAfter, .selects RX1 yX1_statusAfter yX1_statusAfter, .initialized RX1, .code yX1_statusAfter cX1_statusAfter 2 (some .int), .fieldLink RX1 46 "GossipGates$Net" "deathTime" "I", .fieldLink RX1 42 "GossipGates$Net" "suspicionTime" "I"] ++ wsX10)
def wsX1_lookAll : List Cond := .code yX1_lookAll cX1_lookAll 3 none :: ([.fieldLink RX1 9 "GossipGates$Net" "isDown" "[Z", .methodLink RX1 88 yX1_lookAtOthers, .instanceMethod yX1_lookAtOthers, .selects RX1 yX1_lookAtOthers yX1_lookAtOthers, .initialized RX1, .code yX1_lookAtOthers cX1_lookAtOthers 4 none, .fieldLink RX1 39 "GossipGates$Net" "statuses" "[[I", .fieldLink RX1 36 "GossipGates$Net" "growths" "[[I", .methodLink RX1 91 yX1_statusAfter, .instanceMethod yX1_statusAfter, .selects RX1 yX1_statusAfter yX1_statusAfter, .code yX1_statusAfter cX1_statusAfter 2 (some .int), .fieldLink RX1 46 "GossipGates$Net" "deathTime" "I", .fieldLink RX1 42 "GossipGates$Net" "suspicionTime" "I"] ++ wsX10)
def wsX1_freshestOf : List Cond := .code yX1_freshestOf cX1_freshestOf 5 (some .int) :: ([.fieldLink RX1 24 "GossipGates$Net" "versions" "[[I"] ++ wsX10)
def wsX1_believersOf : List Cond := .code yX1_believersOf cX1_believersOf 6 (some .int) :: ([.fieldLink RX1 9 "GossipGates$Net" "isDown" "[Z", .fieldLink RX1 27 "GossipGates$Net" "levels" "[[I", .methodLink RX1 52 yX1_hasNews, .instanceMethod yX1_hasNews, .selects RX1 yX1_hasNews yX1_hasNews, .initialized RX1, .code yX1_hasNews cX1_hasNews 3 (some .boolean), .fieldLink RX1 24 "GossipGates$Net" "versions" "[[I"] ++ wsX10)
def wsX1_countHolders : List Cond := .code yX1_countHolders cX1_countHolders 5 (some .int) :: ([.fieldLink RX1 9 "GossipGates$Net" "isDown" "[Z", .fieldLink RX1 39 "GossipGates$Net" "statuses" "[[I"] ++ wsX10)
def wsX1_countUnnoticed : List Cond := .code yX1_countUnnoticed cX1_countUnnoticed 3 (some .int) :: ([.fieldLink RX1 9 "GossipGates$Net" "isDown" "[Z", .methodLink RX1 94 yX1_countHolders, .instanceMethod yX1_countHolders, .selects RX1 yX1_countHolders yX1_countHolders, .initialized RX1, .code yX1_countHolders cX1_countHolders 5 (some .int), .fieldLink RX1 39 "GossipGates$Net" "statuses" "[[I"] ++ wsX10)
def wsX1_countMistaken : List Cond := .code yX1_countMistaken cX1_countMistaken 3 (some .int) :: ([.fieldLink RX1 9 "GossipGates$Net" "isDown" "[Z", .methodLink RX1 94 yX1_countHolders, .instanceMethod yX1_countHolders, .selects RX1 yX1_countHolders yX1_countHolders, .initialized RX1, .code yX1_countHolders cX1_countHolders 5 (some .int), .fieldLink RX1 39 "GossipGates$Net" "statuses" "[[I"] ++ wsX10)
def wsX2_init : List Cond := .code yX2_init cX2_init 1 none :: ([.methodLink RX2 3 objectInit, .instanceMethod objectInit, .code objectInit ⟨#[0xb1]⟩ 1 none, .arrayClass .int, .fieldLink RX2 9 "GossipGates$River" "areas" "[I", .fieldLink RX2 15 "GossipGates$River" "depths" "[I", .fieldLink RX2 18 "GossipGates$River" "volumes" "[I", .fieldLink RX2 21 "GossipGates$River" "clouds" "[I", .fieldLink RX2 24 "GossipGates$River" "fallen" "[I", .fieldLink RX2 27 "GossipGates$River" "through" "[I", .fieldLink RX2 30 "GossipGates$River" "over" "[I", .fieldLink RX2 33 "GossipGates$River" "source" "I", .methodLink RX2 37 yJ7_fill_53178, .static yJ7_fill_53178, .initialized RJ7, .code yJ7_fill_53178 cJ7_fill_53178 4 none] ++ wsX20)
def wsX2_balanceOf : List Cond := .code yX2_balanceOf cX2_balanceOf 3 (some .int) :: ([.fieldLink RX2 24 "GossipGates$River" "fallen" "[I", .fieldLink RX2 27 "GossipGates$River" "through" "[I", .fieldLink RX2 30 "GossipGates$River" "over" "[I"] ++ wsX20)
def wsX2_receive : List Cond := .code yX2_receive cX2_receive 3 none :: ([.fieldLink RX2 18 "GossipGates$River" "volumes" "[I", .fieldLink RX2 24 "GossipGates$River" "fallen" "[I"] ++ wsX20)
def wsX2_takeIn : List Cond := .code yX2_takeIn cX2_takeIn 2 none :: ([.fieldLink RX2 33 "GossipGates$River" "source" "I", .fieldLink RX2 21 "GossipGates$River" "clouds" "[I", .methodLink RX2 43 yX2_receive, .instanceMethod yX2_receive, .selects RX2 yX2_receive yX2_receive, .initialized RX2, .code yX2_receive cX2_receive 3 none, .fieldLink RX2 18 "GossipGates$River" "volumes" "[I", .fieldLink RX2 24 "GossipGates$River" "fallen" "[I"] ++ wsX20)
def wsX2_moveOn : List Cond := .code yX2_moveOn cX2_moveOn 4 none :: ([.fieldLink RX2 18 "GossipGates$River" "volumes" "[I"] ++ wsX20)
def wsX2_letThrough : List Cond := .code yX2_letThrough cX2_letThrough 4 none :: ([.fieldLink RX2 18 "GossipGates$River" "volumes" "[I", .methodLink RX2 53 Lib.Math.min.name, .static Lib.Math.min.name, .initialized "java/lang/Math", .code Lib.Math.min.name Lib.Math.min.code 2 (some .int), .fieldLink RX2 27 "GossipGates$River" "through" "[I", .methodLink RX2 47 yX0_mostThrough, .instanceMethod yX0_mostThrough, .selects RX0 yX0_mostThrough yX0_mostThrough, .initialized RX0, .code yX0_mostThrough cX0_mostThrough 2 (some .int), .fieldLink RX0 15 "GossipGates$Gates" "openings" "[I", .fieldLink RX0 9 "GossipGates$Gates" "gauges" "[I", .methodLink RX2 59 yX2_moveOn, .instanceMethod yX2_moveOn, .selects RX2 yX2_moveOn yX2_moveOn, .initialized RX2, .code yX2_moveOn cX2_moveOn 4 none] ++ wsX20 ++ wsX00)
def wsX2_spillOver : List Cond := .code yX2_spillOver cX2_spillOver 4 (some .int) :: ([.fieldLink RX2 18 "GossipGates$River" "volumes" "[I", .fieldLink RX2 9 "GossipGates$River" "areas" "[I", .fieldLink RX2 15 "GossipGates$River" "depths" "[I", .methodLink RX2 62 Lib.Math.max.name, .static Lib.Math.max.name, .initialized "java/lang/Math", .code Lib.Math.max.name Lib.Math.max.code 2 (some .int), .fieldLink RX2 30 "GossipGates$River" "over" "[I", .methodLink RX2 59 yX2_moveOn, .instanceMethod yX2_moveOn, .selects RX2 yX2_moveOn yX2_moveOn, .initialized RX2, .code yX2_moveOn cX2_moveOn 4 none] ++ wsX20)
def wsX3_init_r1 : List Cond := [Cond.methodLink RX3 1 objectInit, Cond.instanceMethod objectInit, Cond.code objectInit ⟨#[0xb1]⟩ 1 none, Cond.classLink RX3 7 RX2, Cond.instantiable RX2 8, Cond.initialized RX2, Cond.fieldLink RX3 10 "GossipGates" "river" "LGossipGates$River;", Cond.classLink RX3 16 RX0, Cond.instantiable RX0 8, Cond.initialized RX0, Cond.fieldLink RX3 19 "GossipGates" "gates" "LGossipGates$Gates;", Cond.classLink RX3 23 RX1, Cond.instantiable RX1 12, Cond.initialized RX1, Cond.fieldLink RX3 26 "GossipGates" "net" "LGossipGates$Net;", Cond.fieldLink RX3 30 "GossipGates" "now" "I", Cond.methodLink RX3 9 yX2_init, Cond.instanceMethod yX2_init, Cond.code yX2_init cX2_init 1 none, Cond.methodLink RX2 3 objectInit, Cond.arrayClass .int, Cond.fieldLink RX2 9 "GossipGates$River" "areas" "[I", Cond.fieldLink RX2 15 "GossipGates$River" "depths" "[I", Cond.fieldLink RX2 18 "GossipGates$River" "volumes" "[I"]
def wsX3_init_r2 : List Cond := [Cond.fieldLink RX2 21 "GossipGates$River" "clouds" "[I", Cond.fieldLink RX2 24 "GossipGates$River" "fallen" "[I", Cond.fieldLink RX2 27 "GossipGates$River" "through" "[I", Cond.fieldLink RX2 30 "GossipGates$River" "over" "[I", Cond.fieldLink RX2 33 "GossipGates$River" "source" "I", Cond.methodLink RX2 37 yJ7_fill_53178, Cond.static yJ7_fill_53178, Cond.initialized RJ7, Cond.code yJ7_fill_53178 cJ7_fill_53178 4 none, Cond.methodLink RX3 18 yX0_init, Cond.instanceMethod yX0_init, Cond.code yX0_init cX0_init 1 none, Cond.methodLink RX0 3 objectInit, Cond.fieldLink RX0 9 "GossipGates$Gates" "gauges" "[I", Cond.fieldLink RX0 15 "GossipGates$Gates" "openings" "[I", Cond.fieldLink RX0 18 "GossipGates$Gates" "lows" "[I", Cond.fieldLink RX0 21 "GossipGates$Gates" "highs" "[I", Cond.fieldLink RX0 24 "GossipGates$Gates" "bounds" "[I", Cond.fieldLink RX0 27 "GossipGates$Gates" "ages" "[I", Cond.fieldLink RX0 30 "GossipGates$Gates" "safeties" "[I", Cond.arrayClass .boolean, Cond.fieldLink RX0 33 "GossipGates$Gates" "inHand" "[Z", Cond.methodLink RX0 37 yJ7_fill_53178, Cond.instanceMethod yX1_init]
def wsX3_init_r3 : List Cond := [Cond.code yX1_init cX1_init 1 none, Cond.methodLink RX1 3 objectInit, Cond.fieldLink RX1 9 "GossipGates$Net" "isDown" "[Z", Cond.fieldLink RX1 15 "GossipGates$Net" "isStuck" "[Z", Cond.fieldLink RX1 18 "GossipGates$Net" "groups" "[I", Cond.classLink RX1 22 "[[I", Cond.fieldLink RX1 24 "GossipGates$Net" "versions" "[[I", Cond.fieldLink RX1 27 "GossipGates$Net" "levels" "[[I", Cond.fieldLink RX1 30 "GossipGates$Net" "measured" "[[I", Cond.fieldLink RX1 33 "GossipGates$Net" "beats" "[[I", Cond.fieldLink RX1 36 "GossipGates$Net" "growths" "[[I", Cond.fieldLink RX1 39 "GossipGates$Net" "statuses" "[[I", Cond.fieldLink RX1 42 "GossipGates$Net" "suspicionTime" "I", Cond.fieldLink RX1 46 "GossipGates$Net" "deathTime" "I", Cond.fieldLink RX1 49 "GossipGates$Net" "vainCalls" "I"]
def wsX3_init : List Cond := .code yX3_init cX3_init 1 none :: ((wsX3_init_r1 ++ (wsX3_init_r2 ++ wsX3_init_r3)) ++ wsX20 ++ wsX30 ++ wsX00 ++ wsX10)
def wsX3_requireWithin : List Cond := .code yX3_requireWithin cX3_requireWithin 3 none :: ([.classLink RX3 213 "java/lang/IllegalArgumentException", .initialized "java/lang/IllegalArgumentException"] ++ (vx_atS RX3 217 "java/lang/IllegalArgumentException" ["java/lang/RuntimeException", "java/lang/Exception"]).filter goodWord)
def wsX3_requireNumber : List Cond := .code yX3_requireNumber cX3_requireNumber 1 none :: ([.methodLink RX3 38 yX3_requireWithin, .static yX3_requireWithin, .initialized RX3, .code yX3_requireWithin cX3_requireWithin 3 none, .classLink RX3 213 "java/lang/IllegalArgumentException", .initialized "java/lang/IllegalArgumentException"] ++ (vx_atS RX3 217 "java/lang/IllegalArgumentException" ["java/lang/RuntimeException", "java/lang/Exception"]).filter goodWord)
def wsX3_shape : List Cond := .code yX3_shape cX3_shape 4 none :: ([.fieldLink RX3 10 "GossipGates" "river" "LGossipGates$River;", .fieldLink RX3 42 "GossipGates$River" "areas" "[I", .fieldLink RX3 46 "GossipGates$River" "depths" "[I", .methodLink RX3 34 yX3_requireNumber, .static yX3_requireNumber, .initialized RX3, .code yX3_requireNumber cX3_requireNumber 1 none, .methodLink RX3 38 yX3_requireWithin, .static yX3_requireWithin, .code yX3_requireWithin cX3_requireWithin 3 none, .classLink RX3 213 "java/lang/IllegalArgumentException", .initialized "java/lang/IllegalArgumentException"] ++ wsX30 ++ wsX20 ++ (vx_atS RX3 217 "java/lang/IllegalArgumentException" ["java/lang/RuntimeException", "java/lang/Exception"]).filter goodWord)
def wsX3_setGauge : List Cond := .code yX3_setGauge cX3_setGauge 4 (some .int) :: ([.fieldLink RX3 19 "GossipGates" "gates" "LGossipGates$Gates;", .fieldLink RX3 49 "GossipGates$Gates" "gauges" "[I", .methodLink RX3 34 yX3_requireNumber, .static yX3_requireNumber, .initialized RX3, .code yX3_requireNumber cX3_requireNumber 1 none, .methodLink RX3 38 yX3_requireWithin, .static yX3_requireWithin, .code yX3_requireWithin cX3_requireWithin 3 none, .classLink RX3 213 "java/lang/IllegalArgumentException", .initialized "java/lang/IllegalArgumentException"] ++ wsX30 ++ wsX00 ++ (vx_atS RX3 217 "java/lang/IllegalArgumentException" ["java/lang/RuntimeException", "java/lang/Exception"]).filter goodWord)
def wsX3_setSource : List Cond := .code yX3_setSource cX3_setSource 3 (some .int) :: ([.fieldLink RX3 10 "GossipGates" "river" "LGossipGates$River;", .fieldLink RX3 52 "GossipGates$River" "source" "I", .methodLink RX3 38 yX3_requireWithin, .static yX3_requireWithin, .initialized RX3, .code yX3_requireWithin cX3_requireWithin 3 none, .classLink RX3 213 "java/lang/IllegalArgumentException", .initialized "java/lang/IllegalArgumentException"] ++ wsX30 ++ wsX20 ++ (vx_atS RX3 217 "java/lang/IllegalArgumentException" ["java/lang/RuntimeException", "java/lang/Exception"]).filter goodWord)
def wsX3_rain : List Cond := .code yX3_rain cX3_rain 3 (some .int) :: ([.fieldLink RX3 10 "GossipGates" "river" "LGossipGates$River;", .fieldLink RX3 55 "GossipGates$River" "clouds" "[I", .methodLink RX3 34 yX3_requireNumber, .static yX3_requireNumber, .initialized RX3, .code yX3_requireNumber cX3_requireNumber 1 none, .methodLink RX3 38 yX3_requireWithin, .static yX3_requireWithin, .code yX3_requireWithin cX3_requireWithin 3 none, .classLink RX3 213 "java/lang/IllegalArgumentException", .initialized "java/lang/IllegalArgumentException"] ++ wsX30 ++ wsX20 ++ (vx_atS RX3 217 "java/lang/IllegalArgumentException" ["java/lang/RuntimeException", "java/lang/Exception"]).filter goodWord)
def wsX3_volume : List Cond := .code yX3_volume cX3_volume 2 (some .int) :: ([.fieldLink RX3 10 "GossipGates" "river" "LGossipGates$River;", .fieldLink RX3 58 "GossipGates$River" "volumes" "[I", .methodLink RX3 34 yX3_requireNumber, .static yX3_requireNumber, .initialized RX3, .code yX3_requireNumber cX3_requireNumber 1 none, .methodLink RX3 38 yX3_requireWithin, .static yX3_requireWithin, .code yX3_requireWithin cX3_requireWithin 3 none, .classLink RX3 213 "java/lang/IllegalArgumentException", .initialized "java/lang/IllegalArgumentException"] ++ wsX30 ++ wsX20 ++ (vx_atS RX3 217 "java/lang/IllegalArgumentException" ["java/lang/RuntimeException", "java/lang/Exception"]).filter goodWord)
def wsX3_volumeByBalance : List Cond := .code yX3_volumeByBalance cX3_volumeByBalance 2 (some .int) :: ([.fieldLink RX3 10 "GossipGates" "river" "LGossipGates$River;", .methodLink RX3 34 yX3_requireNumber, .static yX3_requireNumber, .initialized RX3, .code yX3_requireNumber cX3_requireNumber 1 none, .methodLink RX3 38 yX3_requireWithin, .static yX3_requireWithin, .code yX3_requireWithin cX3_requireWithin 3 none, .classLink RX3 213 "java/lang/IllegalArgumentException", .initialized "java/lang/IllegalArgumentException", .methodLink RX3 61 yX2_balanceOf, .instanceMethod yX2_balanceOf, .selects RX2 yX2_balanceOf yX2_balanceOf, .initialized RX2, .code yX2_balanceOf cX2_balanceOf 3 (some .int), .fieldLink RX2 24 "GossipGates$River" "fallen" "[I", .fieldLink RX2 27 "GossipGates$River" "through" "[I", .fieldLink RX2 30 "GossipGates$River" "over" "[I"] ++ wsX30 ++ wsX20 ++ (vx_atS RX3 217 "java/lang/IllegalArgumentException" ["java/lang/RuntimeException", "java/lang/Exception"]).filter goodWord)
def wsX3_level : List Cond := .code yX3_level cX3_level 2 (some .int) :: ([.fieldLink RX3 10 "GossipGates" "river" "LGossipGates$River;", .methodLink RX3 34 yX3_requireNumber, .static yX3_requireNumber, .initialized RX3, .code yX3_requireNumber cX3_requireNumber 1 none, .methodLink RX3 38 yX3_requireWithin, .static yX3_requireWithin, .code yX3_requireWithin cX3_requireWithin 3 none, .classLink RX3 213 "java/lang/IllegalArgumentException", .initialized "java/lang/IllegalArgumentException", .methodLink RX3 65 yX2_levelOf, .instanceMethod yX2_levelOf, .selects RX2 yX2_levelOf yX2_levelOf, .initialized RX2, .code yX2_levelOf cX2_levelOf 3 (some .int), .fieldLink RX2 9 "GossipGates$River" "areas" "[I", .fieldLink RX2 18 "GossipGates$River" "volumes" "[I"] ++ wsX30 ++ wsX20 ++ (vx_atS RX3 217 "java/lang/IllegalArgumentException" ["java/lang/RuntimeException", "java/lang/Exception"]).filter goodWord)
def wsX3_flowed : List Cond := .code yX3_flowed cX3_flowed 2 (some .int) :: ([.fieldLink RX3 10 "GossipGates" "river" "LGossipGates$River;", .fieldLink RX3 68 "GossipGates$River" "through" "[I", .methodLink RX3 34 yX3_requireNumber, .static yX3_requireNumber, .initialized RX3, .code yX3_requireNumber cX3_requireNumber 1 none, .methodLink RX3 38 yX3_requireWithin, .static yX3_requireWithin, .code yX3_requireWithin cX3_requireWithin 3 none, .classLink RX3 213 "java/lang/IllegalArgumentException", .initialized "java/lang/IllegalArgumentException"] ++ wsX30 ++ wsX20 ++ (vx_atS RX3 217 "java/lang/IllegalArgumentException" ["java/lang/RuntimeException", "java/lang/Exception"]).filter goodWord)
def wsX3_spilled : List Cond := .code yX3_spilled cX3_spilled 2 (some .int) :: ([.fieldLink RX3 10 "GossipGates" "river" "LGossipGates$River;", .fieldLink RX3 71 "GossipGates$River" "over" "[I", .methodLink RX3 34 yX3_requireNumber, .static yX3_requireNumber, .initialized RX3, .code yX3_requireNumber cX3_requireNumber 1 none, .methodLink RX3 38 yX3_requireWithin, .static yX3_requireWithin, .code yX3_requireWithin cX3_requireWithin 3 none, .classLink RX3 213 "java/lang/IllegalArgumentException", .initialized "java/lang/IllegalArgumentException"] ++ wsX30 ++ wsX20 ++ (vx_atS RX3 217 "java/lang/IllegalArgumentException" ["java/lang/RuntimeException", "java/lang/Exception"]).filter goodWord)
def wsX3_setRule : List Cond := .code yX3_setRule cX3_setRule 6 none :: ([.fieldLink RX3 19 "GossipGates" "gates" "LGossipGates$Gates;", .fieldLink RX3 74 "GossipGates$Gates" "lows" "[I", .fieldLink RX3 77 "GossipGates$Gates" "highs" "[I", .fieldLink RX3 80 "GossipGates$Gates" "bounds" "[I", .fieldLink RX3 83 "GossipGates$Gates" "ages" "[I", .methodLink RX3 34 yX3_requireNumber, .static yX3_requireNumber, .initialized RX3, .code yX3_requireNumber cX3_requireNumber 1 none, .methodLink RX3 38 yX3_requireWithin, .static yX3_requireWithin, .code yX3_requireWithin cX3_requireWithin 3 none, .classLink RX3 213 "java/lang/IllegalArgumentException", .initialized "java/lang/IllegalArgumentException"] ++ wsX30 ++ wsX00 ++ (vx_atS RX3 217 "java/lang/IllegalArgumentException" ["java/lang/RuntimeException", "java/lang/Exception"]).filter goodWord)
def wsX3_byHand : List Cond := .code yX3_byHand cX3_byHand 4 (some .int) :: ([.classLink RX3 90 "java/lang/IllegalStateException", .initialized "java/lang/IllegalStateException", .fieldLink RX3 19 "GossipGates" "gates" "LGossipGates$Gates;", .fieldLink RX3 86 "GossipGates$Gates" "inHand" "[Z", .fieldLink RX3 97 "GossipGates$Gates" "openings" "[I", .methodLink RX3 34 yX3_requireNumber, .static yX3_requireNumber, .initialized RX3, .code yX3_requireNumber cX3_requireNumber 1 none, .methodLink RX3 38 yX3_requireWithin, .static yX3_requireWithin, .code yX3_requireWithin cX3_requireWithin 3 none, .classLink RX3 213 "java/lang/IllegalArgumentException", .initialized "java/lang/IllegalArgumentException"] ++ wsX30 ++ wsX00 ++ (vx_atS RX3 94 "java/lang/IllegalStateException" ["java/lang/RuntimeException", "java/lang/Exception"]).filter goodWord ++ (vx_atS RX3 217 "java/lang/IllegalArgumentException" ["java/lang/RuntimeException", "java/lang/Exception"]).filter goodWord)
def wsX3_opening : List Cond := .code yX3_opening cX3_opening 2 (some .int) :: ([.fieldLink RX3 19 "GossipGates" "gates" "LGossipGates$Gates;", .fieldLink RX3 97 "GossipGates$Gates" "openings" "[I", .methodLink RX3 34 yX3_requireNumber, .static yX3_requireNumber, .initialized RX3, .code yX3_requireNumber cX3_requireNumber 1 none, .methodLink RX3 38 yX3_requireWithin, .static yX3_requireWithin, .code yX3_requireWithin cX3_requireWithin 3 none, .classLink RX3 213 "java/lang/IllegalArgumentException", .initialized "java/lang/IllegalArgumentException"] ++ wsX30 ++ wsX00 ++ (vx_atS RX3 217 "java/lang/IllegalArgumentException" ["java/lang/RuntimeException", "java/lang/Exception"]).filter goodWord)
def wsX3_safety : List Cond := .code yX3_safety cX3_safety 2 (some .int) :: ([.fieldLink RX3 19 "GossipGates" "gates" "LGossipGates$Gates;", .fieldLink RX3 100 "GossipGates$Gates" "safeties" "[I", .methodLink RX3 34 yX3_requireNumber, .static yX3_requireNumber, .initialized RX3, .code yX3_requireNumber cX3_requireNumber 1 none, .methodLink RX3 38 yX3_requireWithin, .static yX3_requireWithin, .code yX3_requireWithin cX3_requireWithin 3 none, .classLink RX3 213 "java/lang/IllegalArgumentException", .initialized "java/lang/IllegalArgumentException"] ++ wsX30 ++ wsX00 ++ (vx_atS RX3 217 "java/lang/IllegalArgumentException" ["java/lang/RuntimeException", "java/lang/Exception"]).filter goodWord)
def wsX3_fall : List Cond := .code yX3_fall cX3_fall 2 none :: ([.classLink RX3 90 "java/lang/IllegalStateException", .initialized "java/lang/IllegalStateException", .fieldLink RX3 26 "GossipGates" "net" "LGossipGates$Net;", .fieldLink RX3 103 "GossipGates$Net" "isDown" "[Z", .methodLink RX3 34 yX3_requireNumber, .static yX3_requireNumber, .initialized RX3, .code yX3_requireNumber cX3_requireNumber 1 none, .methodLink RX3 38 yX3_requireWithin, .static yX3_requireWithin, .code yX3_requireWithin cX3_requireWithin 3 none, .classLink RX3 213 "java/lang/IllegalArgumentException", .initialized "java/lang/IllegalArgumentException"] ++ wsX30 ++ wsX10 ++ (vx_atS RX3 94 "java/lang/IllegalStateException" ["java/lang/RuntimeException", "java/lang/Exception"]).filter goodWord ++ (vx_atS RX3 217 "java/lang/IllegalArgumentException" ["java/lang/RuntimeException", "java/lang/Exception"]).filter goodWord)
def wsX3_comeUp : List Cond := .code yX3_comeUp cX3_comeUp 2 none :: ([.classLink RX3 90 "java/lang/IllegalStateException", .initialized "java/lang/IllegalStateException", .fieldLink RX3 26 "GossipGates" "net" "LGossipGates$Net;", .fieldLink RX3 103 "GossipGates$Net" "isDown" "[Z", .fieldLink RX3 110 "GossipGates$Net" "growths" "[[I", .fieldLink RX3 30 "GossipGates" "now" "I", .methodLink RX3 34 yX3_requireNumber, .static yX3_requireNumber, .initialized RX3, .code yX3_requireNumber cX3_requireNumber 1 none, .methodLink RX3 38 yX3_requireWithin, .static yX3_requireWithin, .code yX3_requireWithin cX3_requireWithin 3 none, .classLink RX3 213 "java/lang/IllegalArgumentException", .initialized "java/lang/IllegalArgumentException", .methodLink RX3 114 yJ7_fill_53178, .static yJ7_fill_53178, .initialized RJ7, .code yJ7_fill_53178 cJ7_fill_53178 4 none] ++ wsX30 ++ wsX10 ++ (vx_atS RX3 94 "java/lang/IllegalStateException" ["java/lang/RuntimeException", "java/lang/Exception"]).filter goodWord ++ (vx_atS RX3 217 "java/lang/IllegalArgumentException" ["java/lang/RuntimeException", "java/lang/Exception"]).filter goodWord)
def wsX3_setGroup : List Cond := .code yX3_setGroup cX3_setGroup 4 (some .int) :: ([.fieldLink RX3 26 "GossipGates" "net" "LGossipGates$Net;", .fieldLink RX3 120 "GossipGates$Net" "groups" "[I", .methodLink RX3 34 yX3_requireNumber, .static yX3_requireNumber, .initialized RX3, .code yX3_requireNumber cX3_requireNumber 1 none, .methodLink RX3 38 yX3_requireWithin, .static yX3_requireWithin, .code yX3_requireWithin cX3_requireWithin 3 none, .classLink RX3 213 "java/lang/IllegalArgumentException", .initialized "java/lang/IllegalArgumentException"] ++ wsX30 ++ wsX10 ++ (vx_atS RX3 217 "java/lang/IllegalArgumentException" ["java/lang/RuntimeException", "java/lang/Exception"]).filter goodWord)
def wsX3_setStuck : List Cond := .code yX3_setStuck cX3_setStuck 4 (some .boolean) :: ([.fieldLink RX3 26 "GossipGates" "net" "LGossipGates$Net;", .fieldLink RX3 123 "GossipGates$Net" "isStuck" "[Z", .methodLink RX3 34 yX3_requireNumber, .static yX3_requireNumber, .initialized RX3, .code yX3_requireNumber cX3_requireNumber 1 none, .methodLink RX3 38 yX3_requireWithin, .static yX3_requireWithin, .code yX3_requireWithin cX3_requireWithin 3 none, .classLink RX3 213 "java/lang/IllegalArgumentException", .initialized "java/lang/IllegalArgumentException"] ++ wsX30 ++ wsX10 ++ (vx_atS RX3 217 "java/lang/IllegalArgumentException" ["java/lang/RuntimeException", "java/lang/Exception"]).filter goodWord)
def wsX3_setTimes : List Cond := .code yX3_setTimes cX3_setTimes 3 none :: ([.fieldLink RX3 26 "GossipGates" "net" "LGossipGates$Net;", .fieldLink RX3 126 "GossipGates$Net" "suspicionTime" "I", .fieldLink RX3 129 "GossipGates$Net" "deathTime" "I", .methodLink RX3 38 yX3_requireWithin, .static yX3_requireWithin, .initialized RX3, .code yX3_requireWithin cX3_requireWithin 3 none, .classLink RX3 213 "java/lang/IllegalArgumentException", .initialized "java/lang/IllegalArgumentException"] ++ wsX30 ++ wsX10 ++ (vx_atS RX3 217 "java/lang/IllegalArgumentException" ["java/lang/RuntimeException", "java/lang/Exception"]).filter goodWord)
def wsX3_believed : List Cond := .code yX3_believed cX3_believed 3 (some .int) :: ([.fieldLink RX3 26 "GossipGates" "net" "LGossipGates$Net;", .fieldLink RX3 136 "GossipGates$Net" "levels" "[[I", .methodLink RX3 34 yX3_requireNumber, .static yX3_requireNumber, .initialized RX3, .code yX3_requireNumber cX3_requireNumber 1 none, .methodLink RX3 38 yX3_requireWithin, .static yX3_requireWithin, .code yX3_requireWithin cX3_requireWithin 3 none, .classLink RX3 213 "java/lang/IllegalArgumentException", .initialized "java/lang/IllegalArgumentException", .methodLink RX3 132 yX1_hasNews, .instanceMethod yX1_hasNews, .selects RX1 yX1_hasNews yX1_hasNews, .initialized RX1, .code yX1_hasNews cX1_hasNews 3 (some .boolean), .fieldLink RX1 24 "GossipGates$Net" "versions" "[[I"] ++ wsX30 ++ wsX10 ++ (vx_atS RX3 217 "java/lang/IllegalArgumentException" ["java/lang/RuntimeException", "java/lang/Exception"]).filter goodWord)
def wsX3_version : List Cond := .code yX3_version cX3_version 3 (some .int) :: ([.fieldLink RX3 26 "GossipGates" "net" "LGossipGates$Net;", .fieldLink RX3 139 "GossipGates$Net" "versions" "[[I", .methodLink RX3 34 yX3_requireNumber, .static yX3_requireNumber, .initialized RX3, .code yX3_requireNumber cX3_requireNumber 1 none, .methodLink RX3 38 yX3_requireWithin, .static yX3_requireWithin, .code yX3_requireWithin cX3_requireWithin 3 none, .classLink RX3 213 "java/lang/IllegalArgumentException", .initialized "java/lang/IllegalArgumentException"] ++ wsX30 ++ wsX10 ++ (vx_atS RX3 217 "java/lang/IllegalArgumentException" ["java/lang/RuntimeException", "java/lang/Exception"]).filter goodWord)
def wsX3_age : List Cond := .code yX3_age cX3_age 3 (some .int) :: ([.fieldLink RX3 26 "GossipGates" "net" "LGossipGates$Net;", .fieldLink RX3 30 "GossipGates" "now" "I", .fieldLink RX3 142 "GossipGates$Net" "measured" "[[I", .methodLink RX3 34 yX3_requireNumber, .static yX3_requireNumber, .initialized RX3, .code yX3_requireNumber cX3_requireNumber 1 none, .methodLink RX3 38 yX3_requireWithin, .static yX3_requireWithin, .code yX3_requireWithin cX3_requireWithin 3 none, .classLink RX3 213 "java/lang/IllegalArgumentException", .initialized "java/lang/IllegalArgumentException", .methodLink RX3 132 yX1_hasNews, .instanceMethod yX1_hasNews, .selects RX1 yX1_hasNews yX1_hasNews, .initialized RX1, .code yX1_hasNews cX1_hasNews 3 (some .boolean), .fieldLink RX1 24 "GossipGates$Net" "versions" "[[I"] ++ wsX30 ++ wsX10 ++ (vx_atS RX3 217 "java/lang/IllegalArgumentException" ["java/lang/RuntimeException", "java/lang/Exception"]).filter goodWord)
def wsX3_beat : List Cond := .code yX3_beat cX3_beat 3 (some .int) :: ([.fieldLink RX3 26 "GossipGates" "net" "LGossipGates$Net;", .fieldLink RX3 145 "GossipGates$Net" "beats" "[[I", .methodLink RX3 34 yX3_requireNumber, .static yX3_requireNumber, .initialized RX3, .code yX3_requireNumber cX3_requireNumber 1 none, .methodLink RX3 38 yX3_requireWithin, .static yX3_requireWithin, .code yX3_requireWithin cX3_requireWithin 3 none, .classLink RX3 213 "java/lang/IllegalArgumentException", .initialized "java/lang/IllegalArgumentException"] ++ wsX30 ++ wsX10 ++ (vx_atS RX3 217 "java/lang/IllegalArgumentException" ["java/lang/RuntimeException", "java/lang/Exception"]).filter goodWord)
def wsX3_status : List Cond := .code yX3_status cX3_status 3 (some .int) :: ([.fieldLink RX3 26 "GossipGates" "net" "LGossipGates$Net;", .fieldLink RX3 148 "GossipGates$Net" "statuses" "[[I", .methodLink RX3 34 yX3_requireNumber, .static yX3_requireNumber, .initialized RX3, .code yX3_requireNumber cX3_requireNumber 1 none, .methodLink RX3 38 yX3_requireWithin, .static yX3_requireWithin, .code yX3_requireWithin cX3_requireWithin 3 none, .classLink RX3 213 "java/lang/IllegalArgumentException", .initialized "java/lang/IllegalArgumentException"] ++ wsX30 ++ wsX10 ++ (vx_atS RX3 217 "java/lang/IllegalArgumentException" ["java/lang/RuntimeException", "java/lang/Exception"]).filter goodWord)
def wsX3_partner : List Cond := .code yX3_partner cX3_partner 2 (some .int) :: ([.fieldLink RX3 26 "GossipGates" "net" "LGossipGates$Net;", .fieldLink RX3 103 "GossipGates$Net" "isDown" "[Z", .fieldLink RX3 30 "GossipGates" "now" "I", .methodLink RX3 34 yX3_requireNumber, .static yX3_requireNumber, .initialized RX3, .code yX3_requireNumber cX3_requireNumber 1 none, .methodLink RX3 38 yX3_requireWithin, .static yX3_requireWithin, .code yX3_requireWithin cX3_requireWithin 3 none, .classLink RX3 213 "java/lang/IllegalArgumentException", .initialized "java/lang/IllegalArgumentException", .methodLink RX3 151 yX1_calledBy, .instanceMethod yX1_calledBy, .selects RX1 yX1_calledBy yX1_calledBy, .initialized RX1, .code yX1_calledBy cX1_calledBy 7 (some .int), .methodLink RX1 77 yX1_isCallable, .instanceMethod yX1_isCallable, .selects RX1 yX1_isCallable yX1_isCallable, .code yX1_isCallable cX1_isCallable 4 (some .boolean), .fieldLink RX1 39 "GossipGates$Net" "statuses" "[[I"] ++ wsX30 ++ wsX10 ++ (vx_atS RX3 217 "java/lang/IllegalArgumentException" ["java/lang/RuntimeException", "java/lang/Exception"]).filter goodWord)
def wsX3_freshest : List Cond := .code yX3_freshest cX3_freshest 2 (some .int) :: ([.fieldLink RX3 26 "GossipGates" "net" "LGossipGates$Net;", .methodLink RX3 34 yX3_requireNumber, .static yX3_requireNumber, .initialized RX3, .code yX3_requireNumber cX3_requireNumber 1 none, .methodLink RX3 38 yX3_requireWithin, .static yX3_requireWithin, .code yX3_requireWithin cX3_requireWithin 3 none, .classLink RX3 213 "java/lang/IllegalArgumentException", .initialized "java/lang/IllegalArgumentException", .methodLink RX3 155 yX1_freshestOf, .instanceMethod yX1_freshestOf, .selects RX1 yX1_freshestOf yX1_freshestOf, .initialized RX1, .code yX1_freshestOf cX1_freshestOf 5 (some .int), .fieldLink RX1 24 "GossipGates$Net" "versions" "[[I"] ++ wsX30 ++ wsX10 ++ (vx_atS RX3 217 "java/lang/IllegalArgumentException" ["java/lang/RuntimeException", "java/lang/Exception"]).filter goodWord)
def wsX3_agree_r1 : List Cond := [Cond.fieldLink RX3 26 "GossipGates" "net" "LGossipGates$Net;", Cond.fieldLink RX3 10 "GossipGates" "river" "LGossipGates$River;", Cond.methodLink RX3 34 yX3_requireNumber, Cond.static yX3_requireNumber, Cond.initialized RX3, Cond.code yX3_requireNumber cX3_requireNumber 1 none, Cond.methodLink RX3 38 yX3_requireWithin, Cond.static yX3_requireWithin, Cond.code yX3_requireWithin cX3_requireWithin 3 none, Cond.classLink RX3 213 "java/lang/IllegalArgumentException", Cond.initialized "java/lang/IllegalArgumentException", Cond.methodLink RX3 65 yX2_levelOf, Cond.instanceMethod yX2_levelOf, Cond.selects RX2 yX2_levelOf yX2_levelOf, Cond.initialized RX2, Cond.code yX2_levelOf cX2_levelOf 3 (some .int), Cond.fieldLink RX2 9 "GossipGates$River" "areas" "[I", Cond.fieldLink RX2 18 "GossipGates$River" "volumes" "[I", Cond.methodLink RX3 158 yX1_believersOf, Cond.instanceMethod yX1_believersOf, Cond.selects RX1 yX1_believersOf yX1_believersOf, Cond.initialized RX1, Cond.code yX1_believersOf cX1_believersOf 6 (some .int), Cond.fieldLink RX1 9 "GossipGates$Net" "isDown" "[Z"]
def wsX3_agree_r2 : List Cond := [Cond.fieldLink RX1 27 "GossipGates$Net" "levels" "[[I", Cond.methodLink RX1 52 yX1_hasNews, Cond.instanceMethod yX1_hasNews, Cond.selects RX1 yX1_hasNews yX1_hasNews, Cond.code yX1_hasNews cX1_hasNews 3 (some .boolean), Cond.fieldLink RX1 24 "GossipGates$Net" "versions" "[[I"]
def wsX3_agree : List Cond := .code yX3_agree cX3_agree 2 (some .int) :: ((wsX3_agree_r1 ++ wsX3_agree_r2) ++ wsX30 ++ wsX20 ++ wsX10 ++ (vx_atS RX3 217 "java/lang/IllegalArgumentException" ["java/lang/RuntimeException", "java/lang/Exception"]).filter goodWord)
def wsX3_unnoticed : List Cond := .code yX3_unnoticed cX3_unnoticed 1 (some .int) :: ([.fieldLink RX3 26 "GossipGates" "net" "LGossipGates$Net;", .methodLink RX3 161 yX1_countUnnoticed, .instanceMethod yX1_countUnnoticed, .selects RX1 yX1_countUnnoticed yX1_countUnnoticed, .initialized RX1, .code yX1_countUnnoticed cX1_countUnnoticed 3 (some .int), .fieldLink RX1 9 "GossipGates$Net" "isDown" "[Z", .methodLink RX1 94 yX1_countHolders, .instanceMethod yX1_countHolders, .selects RX1 yX1_countHolders yX1_countHolders, .code yX1_countHolders cX1_countHolders 5 (some .int), .fieldLink RX1 39 "GossipGates$Net" "statuses" "[[I"] ++ wsX30 ++ wsX10)
def wsX3_mistaken : List Cond := .code yX3_mistaken cX3_mistaken 1 (some .int) :: ([.fieldLink RX3 26 "GossipGates" "net" "LGossipGates$Net;", .methodLink RX3 165 yX1_countMistaken, .instanceMethod yX1_countMistaken, .selects RX1 yX1_countMistaken yX1_countMistaken, .initialized RX1, .code yX1_countMistaken cX1_countMistaken 3 (some .int), .fieldLink RX1 9 "GossipGates$Net" "isDown" "[Z", .methodLink RX1 94 yX1_countHolders, .instanceMethod yX1_countHolders, .selects RX1 yX1_countHolders yX1_countHolders, .code yX1_countHolders cX1_countHolders 5 (some .int), .fieldLink RX1 39 "GossipGates$Net" "statuses" "[[I"] ++ wsX30 ++ wsX10)
def wsX3_vain : List Cond := .code yX3_vain cX3_vain 1 (some .int) :: ([.fieldLink RX3 26 "GossipGates" "net" "LGossipGates$Net;", .fieldLink RX3 168 "GossipGates$Net" "vainCalls" "I"] ++ wsX30 ++ wsX10)
def wsX3_ruleGate_r1 : List Cond := [Cond.fieldLink RX3 26 "GossipGates" "net" "LGossipGates$Net;", Cond.fieldLink RX3 30 "GossipGates" "now" "I", Cond.fieldLink RX3 19 "GossipGates" "gates" "LGossipGates$Gates;", Cond.fieldLink RX3 83 "GossipGates$Gates" "ages" "[I", Cond.fieldLink RX3 136 "GossipGates$Net" "levels" "[[I", Cond.fieldLink RX3 80 "GossipGates$Gates" "bounds" "[I", Cond.methodLink RX3 202 yX1_isOld, Cond.instanceMethod yX1_isOld, Cond.selects RX1 yX1_isOld yX1_isOld, Cond.initialized RX1, Cond.code yX1_isOld cX1_isOld 5 (some .boolean), Cond.fieldLink RX1 30 "GossipGates$Net" "measured" "[[I", Cond.methodLink RX1 52 yX1_hasNews, Cond.instanceMethod yX1_hasNews, Cond.selects RX1 yX1_hasNews yX1_hasNews, Cond.code yX1_hasNews cX1_hasNews 3 (some .boolean), Cond.fieldLink RX1 24 "GossipGates$Net" "versions" "[[I", Cond.methodLink RX3 206 yX0_openForSafety, Cond.instanceMethod yX0_openForSafety, Cond.selects RX0 yX0_openForSafety yX0_openForSafety, Cond.initialized RX0, Cond.code yX0_openForSafety cX0_openForSafety 2 none, Cond.fieldLink RX0 15 "GossipGates$Gates" "openings" "[I", Cond.methodLink RX0 43 Lib.Math.min.name]
def wsX3_ruleGate_r2 : List Cond := [Cond.static Lib.Math.min.name, Cond.initialized "java/lang/Math", Cond.code Lib.Math.min.name Lib.Math.min.code 2 (some .int), Cond.fieldLink RX0 30 "GossipGates$Gates" "safeties" "[I", Cond.methodLink RX3 209 yX0_follow, Cond.instanceMethod yX0_follow, Cond.selects RX0 yX0_follow yX0_follow, Cond.code yX0_follow cX0_follow 4 none, Cond.fieldLink RX0 21 "GossipGates$Gates" "highs" "[I", Cond.fieldLink RX0 18 "GossipGates$Gates" "lows" "[I", Cond.methodLink RX0 49 Lib.Math.max.name, Cond.static Lib.Math.max.name, Cond.code Lib.Math.max.name Lib.Math.max.code 2 (some .int)]
def wsX3_ruleGate : List Cond := .code yX3_ruleGate cX3_ruleGate 5 none :: ((wsX3_ruleGate_r1 ++ wsX3_ruleGate_r2) ++ wsX30 ++ wsX00 ++ wsX10)
def wsX3_ruleGates_r1 : List Cond := [Cond.fieldLink RX3 26 "GossipGates" "net" "LGossipGates$Net;", Cond.fieldLink RX3 103 "GossipGates$Net" "isDown" "[Z", Cond.fieldLink RX3 19 "GossipGates" "gates" "LGossipGates$Gates;", Cond.fieldLink RX3 86 "GossipGates$Gates" "inHand" "[Z", Cond.methodLink RX3 199 yX3_ruleGate, Cond.instanceMethod yX3_ruleGate, Cond.selects RX3 yX3_ruleGate yX3_ruleGate, Cond.initialized RX3, Cond.code yX3_ruleGate cX3_ruleGate 5 none, Cond.fieldLink RX3 30 "GossipGates" "now" "I", Cond.fieldLink RX3 83 "GossipGates$Gates" "ages" "[I", Cond.fieldLink RX3 136 "GossipGates$Net" "levels" "[[I", Cond.fieldLink RX3 80 "GossipGates$Gates" "bounds" "[I", Cond.methodLink RX3 202 yX1_isOld, Cond.instanceMethod yX1_isOld, Cond.selects RX1 yX1_isOld yX1_isOld, Cond.initialized RX1, Cond.code yX1_isOld cX1_isOld 5 (some .boolean), Cond.fieldLink RX1 30 "GossipGates$Net" "measured" "[[I", Cond.methodLink RX1 52 yX1_hasNews, Cond.instanceMethod yX1_hasNews, Cond.selects RX1 yX1_hasNews yX1_hasNews, Cond.code yX1_hasNews cX1_hasNews 3 (some .boolean), Cond.fieldLink RX1 24 "GossipGates$Net" "versions" "[[I"]
def wsX3_ruleGates_r2 : List Cond := [Cond.methodLink RX3 206 yX0_openForSafety, Cond.instanceMethod yX0_openForSafety, Cond.selects RX0 yX0_openForSafety yX0_openForSafety, Cond.initialized RX0, Cond.code yX0_openForSafety cX0_openForSafety 2 none, Cond.fieldLink RX0 15 "GossipGates$Gates" "openings" "[I", Cond.methodLink RX0 43 Lib.Math.min.name, Cond.static Lib.Math.min.name, Cond.initialized "java/lang/Math", Cond.code Lib.Math.min.name Lib.Math.min.code 2 (some .int), Cond.fieldLink RX0 30 "GossipGates$Gates" "safeties" "[I", Cond.methodLink RX3 209 yX0_follow, Cond.instanceMethod yX0_follow, Cond.selects RX0 yX0_follow yX0_follow, Cond.code yX0_follow cX0_follow 4 none, Cond.fieldLink RX0 21 "GossipGates$Gates" "highs" "[I", Cond.fieldLink RX0 18 "GossipGates$Gates" "lows" "[I", Cond.methodLink RX0 49 Lib.Math.max.name, Cond.static Lib.Math.max.name, Cond.code Lib.Math.max.name Lib.Math.max.code 2 (some .int)]
def wsX3_ruleGates : List Cond := .code yX3_ruleGates cX3_ruleGates 2 none :: ((wsX3_ruleGates_r1 ++ wsX3_ruleGates_r2) ++ wsX30 ++ wsX10 ++ wsX00)
def wsX3_passOneTick_r1 : List Cond := [Cond.fieldLink RX3 30 "GossipGates" "now" "I", Cond.fieldLink RX3 10 "GossipGates" "river" "LGossipGates$River;", Cond.fieldLink RX3 19 "GossipGates" "gates" "LGossipGates$Gates;", Cond.fieldLink RX3 26 "GossipGates" "net" "LGossipGates$Net;", Cond.methodLink RX3 176 yX2_takeIn, Cond.instanceMethod yX2_takeIn, Cond.selects RX2 yX2_takeIn yX2_takeIn, Cond.initialized RX2, Cond.code yX2_takeIn cX2_takeIn 2 none, Cond.fieldLink RX2 33 "GossipGates$River" "source" "I", Cond.fieldLink RX2 21 "GossipGates$River" "clouds" "[I", Cond.methodLink RX2 43 yX2_receive, Cond.instanceMethod yX2_receive, Cond.selects RX2 yX2_receive yX2_receive, Cond.code yX2_receive cX2_receive 3 none, Cond.fieldLink RX2 18 "GossipGates$River" "volumes" "[I", Cond.fieldLink RX2 24 "GossipGates$River" "fallen" "[I", Cond.methodLink RX3 179 yX2_letThrough, Cond.instanceMethod yX2_letThrough, Cond.selects RX2 yX2_letThrough yX2_letThrough, Cond.code yX2_letThrough cX2_letThrough 4 none, Cond.methodLink RX2 53 Lib.Math.min.name, Cond.static Lib.Math.min.name, Cond.initialized "java/lang/Math"]
def wsX3_passOneTick_r2 : List Cond := [Cond.code Lib.Math.min.name Lib.Math.min.code 2 (some .int), Cond.fieldLink RX2 27 "GossipGates$River" "through" "[I", Cond.methodLink RX2 47 yX0_mostThrough, Cond.instanceMethod yX0_mostThrough, Cond.selects RX0 yX0_mostThrough yX0_mostThrough, Cond.initialized RX0, Cond.code yX0_mostThrough cX0_mostThrough 2 (some .int), Cond.fieldLink RX0 15 "GossipGates$Gates" "openings" "[I", Cond.fieldLink RX0 9 "GossipGates$Gates" "gauges" "[I", Cond.methodLink RX2 59 yX2_moveOn, Cond.instanceMethod yX2_moveOn, Cond.selects RX2 yX2_moveOn yX2_moveOn, Cond.code yX2_moveOn cX2_moveOn 4 none, Cond.methodLink RX3 183 yX2_spillOver, Cond.instanceMethod yX2_spillOver, Cond.selects RX2 yX2_spillOver yX2_spillOver, Cond.code yX2_spillOver cX2_spillOver 4 (some .int), Cond.fieldLink RX2 9 "GossipGates$River" "areas" "[I", Cond.fieldLink RX2 15 "GossipGates$River" "depths" "[I", Cond.methodLink RX2 62 Lib.Math.max.name, Cond.static Lib.Math.max.name, Cond.code Lib.Math.max.name Lib.Math.max.code 2 (some .int), Cond.fieldLink RX2 30 "GossipGates$River" "over" "[I", Cond.methodLink RX3 186 yX1_measureAll]
def wsX3_passOneTick_r3 : List Cond := [Cond.instanceMethod yX1_measureAll, Cond.selects RX1 yX1_measureAll yX1_measureAll, Cond.initialized RX1, Cond.code yX1_measureAll cX1_measureAll 4 none, Cond.fieldLink RX1 9 "GossipGates$Net" "isDown" "[Z", Cond.methodLink RX1 56 yX2_levelOf, Cond.instanceMethod yX2_levelOf, Cond.selects RX2 yX2_levelOf yX2_levelOf, Cond.code yX2_levelOf cX2_levelOf 3 (some .int), Cond.methodLink RX1 62 yX1_measure, Cond.instanceMethod yX1_measure, Cond.selects RX1 yX1_measure yX1_measure, Cond.code yX1_measure cX1_measure 4 none, Cond.fieldLink RX1 15 "GossipGates$Net" "isStuck" "[Z", Cond.fieldLink RX1 27 "GossipGates$Net" "levels" "[[I", Cond.fieldLink RX1 30 "GossipGates$Net" "measured" "[[I", Cond.fieldLink RX1 24 "GossipGates$Net" "versions" "[[I", Cond.fieldLink RX1 33 "GossipGates$Net" "beats" "[[I", Cond.fieldLink RX1 36 "GossipGates$Net" "growths" "[[I", Cond.methodLink RX3 190 yX1_callAll, Cond.instanceMethod yX1_callAll, Cond.selects RX1 yX1_callAll yX1_callAll, Cond.code yX1_callAll cX1_callAll 3 none, Cond.methodLink RX1 66 yX1_call]
def wsX3_passOneTick_r4 : List Cond := [Cond.instanceMethod yX1_call, Cond.selects RX1 yX1_call yX1_call, Cond.code yX1_call cX1_call 4 none, Cond.fieldLink RX1 18 "GossipGates$Net" "groups" "[I", Cond.fieldLink RX1 49 "GossipGates$Net" "vainCalls" "I", Cond.methodLink RX1 70 yX1_calledBy, Cond.instanceMethod yX1_calledBy, Cond.selects RX1 yX1_calledBy yX1_calledBy, Cond.code yX1_calledBy cX1_calledBy 7 (some .int), Cond.methodLink RX1 77 yX1_isCallable, Cond.instanceMethod yX1_isCallable, Cond.selects RX1 yX1_isCallable yX1_isCallable, Cond.code yX1_isCallable cX1_isCallable 4 (some .boolean), Cond.fieldLink RX1 39 "GossipGates$Net" "statuses" "[[I", Cond.methodLink RX1 74 yX1_tellOneAnother, Cond.instanceMethod yX1_tellOneAnother, Cond.selects RX1 yX1_tellOneAnother yX1_tellOneAnother, Cond.code yX1_tellOneAnother cX1_tellOneAnother 5 none, Cond.methodLink RX1 81 yX1_takeNews, Cond.instanceMethod yX1_takeNews, Cond.selects RX1 yX1_takeNews yX1_takeNews, Cond.code yX1_takeNews cX1_takeNews 4 none, Cond.methodLink RX1 84 yX1_takeBeat, Cond.instanceMethod yX1_takeBeat]
def wsX3_passOneTick_r5 : List Cond := [Cond.selects RX1 yX1_takeBeat yX1_takeBeat, Cond.code yX1_takeBeat cX1_takeBeat 5 none, Cond.methodLink RX3 193 yX1_lookAll, Cond.instanceMethod yX1_lookAll, Cond.selects RX1 yX1_lookAll yX1_lookAll, Cond.code yX1_lookAll cX1_lookAll 3 none, Cond.methodLink RX1 88 yX1_lookAtOthers, Cond.instanceMethod yX1_lookAtOthers, Cond.selects RX1 yX1_lookAtOthers yX1_lookAtOthers, Cond.code yX1_lookAtOthers cX1_lookAtOthers 4 none, Cond.methodLink RX1 91 yX1_statusAfter, Cond.instanceMethod yX1_statusAfter, Cond.selects RX1 yX1_statusAfter yX1_statusAfter, Cond.code yX1_statusAfter cX1_statusAfter 2 (some .int), Cond.fieldLink RX1 46 "GossipGates$Net" "deathTime" "I", Cond.fieldLink RX1 42 "GossipGates$Net" "suspicionTime" "I", Cond.methodLink RX3 196 yX3_ruleGates, Cond.instanceMethod yX3_ruleGates, Cond.selects RX3 yX3_ruleGates yX3_ruleGates, Cond.initialized RX3, Cond.code yX3_ruleGates cX3_ruleGates 2 none, Cond.fieldLink RX3 103 "GossipGates$Net" "isDown" "[Z", Cond.fieldLink RX3 86 "GossipGates$Gates" "inHand" "[Z", Cond.methodLink RX3 199 yX3_ruleGate]
def wsX3_passOneTick_r6 : List Cond := [Cond.instanceMethod yX3_ruleGate, Cond.selects RX3 yX3_ruleGate yX3_ruleGate, Cond.code yX3_ruleGate cX3_ruleGate 5 none, Cond.fieldLink RX3 83 "GossipGates$Gates" "ages" "[I", Cond.fieldLink RX3 136 "GossipGates$Net" "levels" "[[I", Cond.fieldLink RX3 80 "GossipGates$Gates" "bounds" "[I", Cond.methodLink RX3 202 yX1_isOld, Cond.instanceMethod yX1_isOld, Cond.selects RX1 yX1_isOld yX1_isOld, Cond.code yX1_isOld cX1_isOld 5 (some .boolean), Cond.methodLink RX1 52 yX1_hasNews, Cond.instanceMethod yX1_hasNews, Cond.selects RX1 yX1_hasNews yX1_hasNews, Cond.code yX1_hasNews cX1_hasNews 3 (some .boolean), Cond.methodLink RX3 206 yX0_openForSafety, Cond.instanceMethod yX0_openForSafety, Cond.selects RX0 yX0_openForSafety yX0_openForSafety, Cond.code yX0_openForSafety cX0_openForSafety 2 none, Cond.methodLink RX0 43 Lib.Math.min.name, Cond.fieldLink RX0 30 "GossipGates$Gates" "safeties" "[I", Cond.methodLink RX3 209 yX0_follow, Cond.instanceMethod yX0_follow, Cond.selects RX0 yX0_follow yX0_follow, Cond.code yX0_follow cX0_follow 4 none]
def wsX3_passOneTick_r7 : List Cond := [Cond.fieldLink RX0 21 "GossipGates$Gates" "highs" "[I", Cond.fieldLink RX0 18 "GossipGates$Gates" "lows" "[I", Cond.methodLink RX0 49 Lib.Math.max.name]
def wsX3_passOneTick : List Cond := .code yX3_passOneTick cX3_passOneTick 2 (some .int) :: ((wsX3_passOneTick_r1 ++ (wsX3_passOneTick_r2 ++ (wsX3_passOneTick_r3 ++ (wsX3_passOneTick_r4 ++ (wsX3_passOneTick_r5 ++ (wsX3_passOneTick_r6 ++ wsX3_passOneTick_r7)))))) ++ wsX30 ++ wsX20 ++ wsX00 ++ wsX10)
def wsX3_tick_r1 : List Cond := [Cond.classLink RX3 90 "java/lang/IllegalStateException", Cond.initialized "java/lang/IllegalStateException", Cond.fieldLink RX3 30 "GossipGates" "now" "I", Cond.methodLink RX3 38 yX3_requireWithin, Cond.static yX3_requireWithin, Cond.initialized RX3, Cond.code yX3_requireWithin cX3_requireWithin 3 none, Cond.classLink RX3 213 "java/lang/IllegalArgumentException", Cond.initialized "java/lang/IllegalArgumentException", Cond.methodLink RX3 173 yX3_passOneTick, Cond.instanceMethod yX3_passOneTick, Cond.selects RX3 yX3_passOneTick yX3_passOneTick, Cond.code yX3_passOneTick cX3_passOneTick 2 (some .int), Cond.fieldLink RX3 10 "GossipGates" "river" "LGossipGates$River;", Cond.fieldLink RX3 19 "GossipGates" "gates" "LGossipGates$Gates;", Cond.fieldLink RX3 26 "GossipGates" "net" "LGossipGates$Net;", Cond.methodLink RX3 176 yX2_takeIn, Cond.instanceMethod yX2_takeIn, Cond.selects RX2 yX2_takeIn yX2_takeIn, Cond.initialized RX2, Cond.code yX2_takeIn cX2_takeIn 2 none, Cond.fieldLink RX2 33 "GossipGates$River" "source" "I", Cond.fieldLink RX2 21 "GossipGates$River" "clouds" "[I", Cond.methodLink RX2 43 yX2_receive]
def wsX3_tick_r2 : List Cond := [Cond.instanceMethod yX2_receive, Cond.selects RX2 yX2_receive yX2_receive, Cond.code yX2_receive cX2_receive 3 none, Cond.fieldLink RX2 18 "GossipGates$River" "volumes" "[I", Cond.fieldLink RX2 24 "GossipGates$River" "fallen" "[I", Cond.methodLink RX3 179 yX2_letThrough, Cond.instanceMethod yX2_letThrough, Cond.selects RX2 yX2_letThrough yX2_letThrough, Cond.code yX2_letThrough cX2_letThrough 4 none, Cond.methodLink RX2 53 Lib.Math.min.name, Cond.static Lib.Math.min.name, Cond.initialized "java/lang/Math", Cond.code Lib.Math.min.name Lib.Math.min.code 2 (some .int), Cond.fieldLink RX2 27 "GossipGates$River" "through" "[I", Cond.methodLink RX2 47 yX0_mostThrough, Cond.instanceMethod yX0_mostThrough, Cond.selects RX0 yX0_mostThrough yX0_mostThrough, Cond.initialized RX0, Cond.code yX0_mostThrough cX0_mostThrough 2 (some .int), Cond.fieldLink RX0 15 "GossipGates$Gates" "openings" "[I", Cond.fieldLink RX0 9 "GossipGates$Gates" "gauges" "[I", Cond.methodLink RX2 59 yX2_moveOn, Cond.instanceMethod yX2_moveOn, Cond.selects RX2 yX2_moveOn yX2_moveOn]
def wsX3_tick_r3 : List Cond := [Cond.code yX2_moveOn cX2_moveOn 4 none, Cond.methodLink RX3 183 yX2_spillOver, Cond.instanceMethod yX2_spillOver, Cond.selects RX2 yX2_spillOver yX2_spillOver, Cond.code yX2_spillOver cX2_spillOver 4 (some .int), Cond.fieldLink RX2 9 "GossipGates$River" "areas" "[I", Cond.fieldLink RX2 15 "GossipGates$River" "depths" "[I", Cond.methodLink RX2 62 Lib.Math.max.name, Cond.static Lib.Math.max.name, Cond.code Lib.Math.max.name Lib.Math.max.code 2 (some .int), Cond.fieldLink RX2 30 "GossipGates$River" "over" "[I", Cond.methodLink RX3 186 yX1_measureAll, Cond.instanceMethod yX1_measureAll, Cond.selects RX1 yX1_measureAll yX1_measureAll, Cond.initialized RX1, Cond.code yX1_measureAll cX1_measureAll 4 none, Cond.fieldLink RX1 9 "GossipGates$Net" "isDown" "[Z", Cond.methodLink RX1 56 yX2_levelOf, Cond.instanceMethod yX2_levelOf, Cond.selects RX2 yX2_levelOf yX2_levelOf, Cond.code yX2_levelOf cX2_levelOf 3 (some .int), Cond.methodLink RX1 62 yX1_measure, Cond.instanceMethod yX1_measure, Cond.selects RX1 yX1_measure yX1_measure]
def wsX3_tick_r4 : List Cond := [Cond.code yX1_measure cX1_measure 4 none, Cond.fieldLink RX1 15 "GossipGates$Net" "isStuck" "[Z", Cond.fieldLink RX1 27 "GossipGates$Net" "levels" "[[I", Cond.fieldLink RX1 30 "GossipGates$Net" "measured" "[[I", Cond.fieldLink RX1 24 "GossipGates$Net" "versions" "[[I", Cond.fieldLink RX1 33 "GossipGates$Net" "beats" "[[I", Cond.fieldLink RX1 36 "GossipGates$Net" "growths" "[[I", Cond.methodLink RX3 190 yX1_callAll, Cond.instanceMethod yX1_callAll, Cond.selects RX1 yX1_callAll yX1_callAll, Cond.code yX1_callAll cX1_callAll 3 none, Cond.methodLink RX1 66 yX1_call, Cond.instanceMethod yX1_call, Cond.selects RX1 yX1_call yX1_call, Cond.code yX1_call cX1_call 4 none, Cond.fieldLink RX1 18 "GossipGates$Net" "groups" "[I", Cond.fieldLink RX1 49 "GossipGates$Net" "vainCalls" "I", Cond.methodLink RX1 70 yX1_calledBy, Cond.instanceMethod yX1_calledBy, Cond.selects RX1 yX1_calledBy yX1_calledBy, Cond.code yX1_calledBy cX1_calledBy 7 (some .int), Cond.methodLink RX1 77 yX1_isCallable, Cond.instanceMethod yX1_isCallable, Cond.selects RX1 yX1_isCallable yX1_isCallable]
def wsX3_tick_r5 : List Cond := [Cond.code yX1_isCallable cX1_isCallable 4 (some .boolean), Cond.fieldLink RX1 39 "GossipGates$Net" "statuses" "[[I", Cond.methodLink RX1 74 yX1_tellOneAnother, Cond.instanceMethod yX1_tellOneAnother, Cond.selects RX1 yX1_tellOneAnother yX1_tellOneAnother, Cond.code yX1_tellOneAnother cX1_tellOneAnother 5 none, Cond.methodLink RX1 81 yX1_takeNews, Cond.instanceMethod yX1_takeNews, Cond.selects RX1 yX1_takeNews yX1_takeNews, Cond.code yX1_takeNews cX1_takeNews 4 none, Cond.methodLink RX1 84 yX1_takeBeat, Cond.instanceMethod yX1_takeBeat, Cond.selects RX1 yX1_takeBeat yX1_takeBeat, Cond.code yX1_takeBeat cX1_takeBeat 5 none, Cond.methodLink RX3 193 yX1_lookAll, Cond.instanceMethod yX1_lookAll, Cond.selects RX1 yX1_lookAll yX1_lookAll, Cond.code yX1_lookAll cX1_lookAll 3 none, Cond.methodLink RX1 88 yX1_lookAtOthers, Cond.instanceMethod yX1_lookAtOthers, Cond.selects RX1 yX1_lookAtOthers yX1_lookAtOthers, Cond.code yX1_lookAtOthers cX1_lookAtOthers 4 none, Cond.methodLink RX1 91 yX1_statusAfter, Cond.instanceMethod yX1_statusAfter]
def wsX3_tick_r6 : List Cond := [Cond.selects RX1 yX1_statusAfter yX1_statusAfter, Cond.code yX1_statusAfter cX1_statusAfter 2 (some .int), Cond.fieldLink RX1 46 "GossipGates$Net" "deathTime" "I", Cond.fieldLink RX1 42 "GossipGates$Net" "suspicionTime" "I", Cond.methodLink RX3 196 yX3_ruleGates, Cond.instanceMethod yX3_ruleGates, Cond.selects RX3 yX3_ruleGates yX3_ruleGates, Cond.code yX3_ruleGates cX3_ruleGates 2 none, Cond.fieldLink RX3 103 "GossipGates$Net" "isDown" "[Z", Cond.fieldLink RX3 86 "GossipGates$Gates" "inHand" "[Z", Cond.methodLink RX3 199 yX3_ruleGate, Cond.instanceMethod yX3_ruleGate, Cond.selects RX3 yX3_ruleGate yX3_ruleGate, Cond.code yX3_ruleGate cX3_ruleGate 5 none, Cond.fieldLink RX3 83 "GossipGates$Gates" "ages" "[I", Cond.fieldLink RX3 136 "GossipGates$Net" "levels" "[[I", Cond.fieldLink RX3 80 "GossipGates$Gates" "bounds" "[I", Cond.methodLink RX3 202 yX1_isOld, Cond.instanceMethod yX1_isOld, Cond.selects RX1 yX1_isOld yX1_isOld, Cond.code yX1_isOld cX1_isOld 5 (some .boolean), Cond.methodLink RX1 52 yX1_hasNews, Cond.instanceMethod yX1_hasNews, Cond.selects RX1 yX1_hasNews yX1_hasNews]
def wsX3_tick_r7 : List Cond := [Cond.code yX1_hasNews cX1_hasNews 3 (some .boolean), Cond.methodLink RX3 206 yX0_openForSafety, Cond.instanceMethod yX0_openForSafety, Cond.selects RX0 yX0_openForSafety yX0_openForSafety, Cond.code yX0_openForSafety cX0_openForSafety 2 none, Cond.methodLink RX0 43 Lib.Math.min.name, Cond.fieldLink RX0 30 "GossipGates$Gates" "safeties" "[I", Cond.methodLink RX3 209 yX0_follow, Cond.instanceMethod yX0_follow, Cond.selects RX0 yX0_follow yX0_follow, Cond.code yX0_follow cX0_follow 4 none, Cond.fieldLink RX0 21 "GossipGates$Gates" "highs" "[I", Cond.fieldLink RX0 18 "GossipGates$Gates" "lows" "[I", Cond.methodLink RX0 49 Lib.Math.max.name]
def wsX3_tick : List Cond := .code yX3_tick cX3_tick 4 (some .int) :: ((wsX3_tick_r1 ++ (wsX3_tick_r2 ++ (wsX3_tick_r3 ++ (wsX3_tick_r4 ++ (wsX3_tick_r5 ++ (wsX3_tick_r6 ++ wsX3_tick_r7)))))) ++ wsX30 ++ wsX20 ++ wsX00 ++ wsX10 ++ (vx_atS RX3 94 "java/lang/IllegalStateException" ["java/lang/RuntimeException", "java/lang/Exception"]).filter goodWord ++ (vx_atS RX3 217 "java/lang/IllegalArgumentException" ["java/lang/RuntimeException", "java/lang/Exception"]).filter goodWord)
def wsX3_time : List Cond := .code yX3_time cX3_time 1 (some .int) :: ([.fieldLink RX3 30 "GossipGates" "now" "I"] ++ wsX30)
def wsX4_init_r1 : List Cond := [Cond.methodLink RX4 1 objectInit, Cond.instanceMethod objectInit, Cond.code objectInit ⟨#[0xb1]⟩ 1 none, Cond.arrayClass .int, Cond.fieldLink RX4 7 "GossipGatesModel" "areas" "[I", Cond.fieldLink RX4 13 "GossipGatesModel" "depths" "[I", Cond.fieldLink RX4 16 "GossipGatesModel" "volumes" "[I", Cond.fieldLink RX4 19 "GossipGatesModel" "openings" "[I", Cond.fieldLink RX4 22 "GossipGatesModel" "gauges" "[I", Cond.fieldLink RX4 25 "GossipGatesModel" "rains" "[I", Cond.fieldLink RX4 28 "GossipGatesModel" "flows" "[I", Cond.fieldLink RX4 31 "GossipGatesModel" "flowed" "[I", Cond.fieldLink RX4 34 "GossipGatesModel" "spilled" "[I", Cond.fieldLink RX4 37 "GossipGatesModel" "lows" "[I", Cond.fieldLink RX4 40 "GossipGatesModel" "highs" "[I", Cond.fieldLink RX4 43 "GossipGatesModel" "bounds" "[I", Cond.fieldLink RX4 46 "GossipGatesModel" "ages" "[I", Cond.arrayClass .boolean, Cond.fieldLink RX4 49 "GossipGatesModel" "isHeld" "[Z", Cond.fieldLink RX4 53 "GossipGatesModel" "safeties" "[I", Cond.fieldLink RX4 56 "GossipGatesModel" "isDown" "[Z", Cond.fieldLink RX4 59 "GossipGatesModel" "groups" "[I", Cond.fieldLink RX4 62 "GossipGatesModel" "isStuck" "[Z", Cond.fieldLink RX4 65 "GossipGatesModel" "versions" "[I"]
def wsX4_init_r2 : List Cond := [Cond.fieldLink RX4 68 "GossipGatesModel" "levels" "[I", Cond.fieldLink RX4 71 "GossipGatesModel" "measured" "[I", Cond.fieldLink RX4 74 "GossipGatesModel" "beats" "[I", Cond.fieldLink RX4 77 "GossipGatesModel" "grown" "[I", Cond.fieldLink RX4 80 "GossipGatesModel" "statuses" "[I", Cond.fieldLink RX4 83 "GossipGatesModel" "suspicion" "I", Cond.fieldLink RX4 87 "GossipGatesModel" "death" "I"]
def wsX4_init : List Cond := .code yX4_init cX4_init 2 none :: ((wsX4_init_r1 ++ wsX4_init_r2) ++ wsX40)
def wsX4_thrown : List Cond := .code yX4_thrown cX4_thrown 1 (some .int) :: ([.fieldLink RX4 90 "GossipGatesModel" "thrown" "I"] ++ wsX40)
def wsX4_goes : List Cond := .code yX4_goes cX4_goes 2 (some .boolean) :: ([.fieldLink RX4 90 "GossipGatesModel" "thrown" "I"] ++ wsX40)
def wsX4_isIn : List Cond := .code yX4_isIn cX4_isIn 3 (some .boolean) :: ([])
def wsX4_isOne : List Cond := .code yX4_isOne cX4_isOne 1 (some .boolean) :: ([.methodLink RX4 93 yX4_isIn, .static yX4_isIn, .initialized RX4, .code yX4_isIn cX4_isIn 3 (some .boolean)])
def wsX4_asks : List Cond := .code yX4_asks cX4_asks 2 (some .boolean) :: ([.methodLink RX4 97 yX4_isOne, .static yX4_isOne, .initialized RX4, .code yX4_isOne cX4_isOne 1 (some .boolean), .methodLink RX4 93 yX4_isIn, .static yX4_isIn, .code yX4_isIn cX4_isIn 3 (some .boolean), .methodLink RX4 101 yX4_goes, .instanceMethod yX4_goes, .selects RX4 yX4_goes yX4_goes, .code yX4_goes cX4_goes 2 (some .boolean), .fieldLink RX4 90 "GossipGatesModel" "thrown" "I"] ++ wsX40)
def wsX4_ask : List Cond := .code yX4_ask cX4_ask 3 (some .boolean) :: ([.methodLink RX4 97 yX4_isOne, .static yX4_isOne, .initialized RX4, .code yX4_isOne cX4_isOne 1 (some .boolean), .methodLink RX4 93 yX4_isIn, .static yX4_isIn, .code yX4_isIn cX4_isIn 3 (some .boolean), .methodLink RX4 101 yX4_goes, .instanceMethod yX4_goes, .selects RX4 yX4_goes yX4_goes, .code yX4_goes cX4_goes 2 (some .boolean), .fieldLink RX4 90 "GossipGatesModel" "thrown" "I"] ++ wsX40)
def wsX4_at : List Cond := .code yX4_at cX4_at 2 (some .int) :: ([])
def wsX4_shape : List Cond := .code yX4_shape cX4_shape 4 none :: ([.fieldLink RX4 7 "GossipGatesModel" "areas" "[I", .fieldLink RX4 13 "GossipGatesModel" "depths" "[I", .methodLink RX4 97 yX4_isOne, .static yX4_isOne, .initialized RX4, .code yX4_isOne cX4_isOne 1 (some .boolean), .methodLink RX4 93 yX4_isIn, .static yX4_isIn, .code yX4_isIn cX4_isIn 3 (some .boolean), .methodLink RX4 101 yX4_goes, .instanceMethod yX4_goes, .selects RX4 yX4_goes yX4_goes, .code yX4_goes cX4_goes 2 (some .boolean), .fieldLink RX4 90 "GossipGatesModel" "thrown" "I"] ++ wsX40)
def wsX4_setGauge : List Cond := .code yX4_setGauge cX4_setGauge 4 (some .int) :: ([.fieldLink RX4 22 "GossipGatesModel" "gauges" "[I", .methodLink RX4 97 yX4_isOne, .static yX4_isOne, .initialized RX4, .code yX4_isOne cX4_isOne 1 (some .boolean), .methodLink RX4 93 yX4_isIn, .static yX4_isIn, .code yX4_isIn cX4_isIn 3 (some .boolean), .methodLink RX4 101 yX4_goes, .instanceMethod yX4_goes, .selects RX4 yX4_goes yX4_goes, .code yX4_goes cX4_goes 2 (some .boolean), .fieldLink RX4 90 "GossipGatesModel" "thrown" "I"] ++ wsX40)
def wsX4_setSource : List Cond := .code yX4_setSource cX4_setSource 3 (some .int) :: ([.fieldLink RX4 104 "GossipGatesModel" "source" "I", .methodLink RX4 93 yX4_isIn, .static yX4_isIn, .initialized RX4, .code yX4_isIn cX4_isIn 3 (some .boolean), .methodLink RX4 101 yX4_goes, .instanceMethod yX4_goes, .selects RX4 yX4_goes yX4_goes, .code yX4_goes cX4_goes 2 (some .boolean), .fieldLink RX4 90 "GossipGatesModel" "thrown" "I"] ++ wsX40)
def wsX4_rain : List Cond := .code yX4_rain cX4_rain 3 (some .int) :: ([.fieldLink RX4 25 "GossipGatesModel" "rains" "[I", .methodLink RX4 97 yX4_isOne, .static yX4_isOne, .initialized RX4, .code yX4_isOne cX4_isOne 1 (some .boolean), .methodLink RX4 93 yX4_isIn, .static yX4_isIn, .code yX4_isIn cX4_isIn 3 (some .boolean), .methodLink RX4 101 yX4_goes, .instanceMethod yX4_goes, .selects RX4 yX4_goes yX4_goes, .code yX4_goes cX4_goes 2 (some .boolean), .fieldLink RX4 90 "GossipGatesModel" "thrown" "I"] ++ wsX40)
def wsX4_volume : List Cond := .code yX4_volume cX4_volume 2 (some .int) :: ([.fieldLink RX4 16 "GossipGatesModel" "volumes" "[I", .methodLink RX4 107 yX4_asks, .instanceMethod yX4_asks, .selects RX4 yX4_asks yX4_asks, .initialized RX4, .code yX4_asks cX4_asks 2 (some .boolean), .methodLink RX4 97 yX4_isOne, .static yX4_isOne, .code yX4_isOne cX4_isOne 1 (some .boolean), .methodLink RX4 93 yX4_isIn, .static yX4_isIn, .code yX4_isIn cX4_isIn 3 (some .boolean), .methodLink RX4 101 yX4_goes, .instanceMethod yX4_goes, .selects RX4 yX4_goes yX4_goes, .code yX4_goes cX4_goes 2 (some .boolean), .fieldLink RX4 90 "GossipGatesModel" "thrown" "I"] ++ wsX40)
def wsX4_volumeByBalance : List Cond := .code yX4_volumeByBalance cX4_volumeByBalance 2 (some .int) :: ([.fieldLink RX4 16 "GossipGatesModel" "volumes" "[I", .methodLink RX4 107 yX4_asks, .instanceMethod yX4_asks, .selects RX4 yX4_asks yX4_asks, .initialized RX4, .code yX4_asks cX4_asks 2 (some .boolean), .methodLink RX4 97 yX4_isOne, .static yX4_isOne, .code yX4_isOne cX4_isOne 1 (some .boolean), .methodLink RX4 93 yX4_isIn, .static yX4_isIn, .code yX4_isIn cX4_isIn 3 (some .boolean), .methodLink RX4 101 yX4_goes, .instanceMethod yX4_goes, .selects RX4 yX4_goes yX4_goes, .code yX4_goes cX4_goes 2 (some .boolean), .fieldLink RX4 90 "GossipGatesModel" "thrown" "I"] ++ wsX40)
def wsX4_levelOf : List Cond := .code yX4_levelOf cX4_levelOf 2 (some .int) :: ([.fieldLink RX4 16 "GossipGatesModel" "volumes" "[I", .fieldLink RX4 7 "GossipGatesModel" "areas" "[I"] ++ wsX40)
def wsX4_level : List Cond := .code yX4_level cX4_level 2 (some .int) :: ([.methodLink RX4 107 yX4_asks, .instanceMethod yX4_asks, .selects RX4 yX4_asks yX4_asks, .initialized RX4, .code yX4_asks cX4_asks 2 (some .boolean), .methodLink RX4 97 yX4_isOne, .static yX4_isOne, .code yX4_isOne cX4_isOne 1 (some .boolean), .methodLink RX4 93 yX4_isIn, .static yX4_isIn, .code yX4_isIn cX4_isIn 3 (some .boolean), .methodLink RX4 101 yX4_goes, .instanceMethod yX4_goes, .selects RX4 yX4_goes yX4_goes, .code yX4_goes cX4_goes 2 (some .boolean), .fieldLink RX4 90 "GossipGatesModel" "thrown" "I", .methodLink RX4 110 yX4_levelOf, .instanceMethod yX4_levelOf, .selects RX4 yX4_levelOf yX4_levelOf, .code yX4_levelOf cX4_levelOf 2 (some .int), .fieldLink RX4 16 "GossipGatesModel" "volumes" "[I", .fieldLink RX4 7 "GossipGatesModel" "areas" "[I"] ++ wsX40)
def wsX4_flowed : List Cond := .code yX4_flowed cX4_flowed 2 (some .int) :: ([.fieldLink RX4 31 "GossipGatesModel" "flowed" "[I", .methodLink RX4 107 yX4_asks, .instanceMethod yX4_asks, .selects RX4 yX4_asks yX4_asks, .initialized RX4, .code yX4_asks cX4_asks 2 (some .boolean), .methodLink RX4 97 yX4_isOne, .static yX4_isOne, .code yX4_isOne cX4_isOne 1 (some .boolean), .methodLink RX4 93 yX4_isIn, .static yX4_isIn, .code yX4_isIn cX4_isIn 3 (some .boolean), .methodLink RX4 101 yX4_goes, .instanceMethod yX4_goes, .selects RX4 yX4_goes yX4_goes, .code yX4_goes cX4_goes 2 (some .boolean), .fieldLink RX4 90 "GossipGatesModel" "thrown" "I"] ++ wsX40)
def wsX4_spilled : List Cond := .code yX4_spilled cX4_spilled 2 (some .int) :: ([.fieldLink RX4 34 "GossipGatesModel" "spilled" "[I", .methodLink RX4 107 yX4_asks, .instanceMethod yX4_asks, .selects RX4 yX4_asks yX4_asks, .initialized RX4, .code yX4_asks cX4_asks 2 (some .boolean), .methodLink RX4 97 yX4_isOne, .static yX4_isOne, .code yX4_isOne cX4_isOne 1 (some .boolean), .methodLink RX4 93 yX4_isIn, .static yX4_isIn, .code yX4_isIn cX4_isIn 3 (some .boolean), .methodLink RX4 101 yX4_goes, .instanceMethod yX4_goes, .selects RX4 yX4_goes yX4_goes, .code yX4_goes cX4_goes 2 (some .boolean), .fieldLink RX4 90 "GossipGatesModel" "thrown" "I"] ++ wsX40)
def wsX4_setRule : List Cond := .code yX4_setRule cX4_setRule 7 none :: ([.fieldLink RX4 37 "GossipGatesModel" "lows" "[I", .fieldLink RX4 40 "GossipGatesModel" "highs" "[I", .fieldLink RX4 43 "GossipGatesModel" "bounds" "[I", .fieldLink RX4 46 "GossipGatesModel" "ages" "[I", .methodLink RX4 97 yX4_isOne, .static yX4_isOne, .initialized RX4, .code yX4_isOne cX4_isOne 1 (some .boolean), .methodLink RX4 93 yX4_isIn, .static yX4_isIn, .code yX4_isIn cX4_isIn 3 (some .boolean), .methodLink RX4 101 yX4_goes, .instanceMethod yX4_goes, .selects RX4 yX4_goes yX4_goes, .code yX4_goes cX4_goes 2 (some .boolean), .fieldLink RX4 90 "GossipGatesModel" "thrown" "I"] ++ wsX40)
def wsX4_byHand : List Cond := .code yX4_byHand cX4_byHand 4 (some .int) :: ([.fieldLink RX4 49 "GossipGatesModel" "isHeld" "[Z", .fieldLink RX4 19 "GossipGatesModel" "openings" "[I", .methodLink RX4 97 yX4_isOne, .static yX4_isOne, .initialized RX4, .code yX4_isOne cX4_isOne 1 (some .boolean), .methodLink RX4 93 yX4_isIn, .static yX4_isIn, .code yX4_isIn cX4_isIn 3 (some .boolean), .methodLink RX4 101 yX4_goes, .instanceMethod yX4_goes, .selects RX4 yX4_goes yX4_goes, .code yX4_goes cX4_goes 2 (some .boolean), .fieldLink RX4 90 "GossipGatesModel" "thrown" "I"] ++ wsX40)
def wsX4_opening : List Cond := .code yX4_opening cX4_opening 2 (some .int) :: ([.fieldLink RX4 19 "GossipGatesModel" "openings" "[I", .methodLink RX4 107 yX4_asks, .instanceMethod yX4_asks, .selects RX4 yX4_asks yX4_asks, .initialized RX4, .code yX4_asks cX4_asks 2 (some .boolean), .methodLink RX4 97 yX4_isOne, .static yX4_isOne, .code yX4_isOne cX4_isOne 1 (some .boolean), .methodLink RX4 93 yX4_isIn, .static yX4_isIn, .code yX4_isIn cX4_isIn 3 (some .boolean), .methodLink RX4 101 yX4_goes, .instanceMethod yX4_goes, .selects RX4 yX4_goes yX4_goes, .code yX4_goes cX4_goes 2 (some .boolean), .fieldLink RX4 90 "GossipGatesModel" "thrown" "I"] ++ wsX40)
def wsX4_safety : List Cond := .code yX4_safety cX4_safety 2 (some .int) :: ([.fieldLink RX4 53 "GossipGatesModel" "safeties" "[I", .methodLink RX4 107 yX4_asks, .instanceMethod yX4_asks, .selects RX4 yX4_asks yX4_asks, .initialized RX4, .code yX4_asks cX4_asks 2 (some .boolean), .methodLink RX4 97 yX4_isOne, .static yX4_isOne, .code yX4_isOne cX4_isOne 1 (some .boolean), .methodLink RX4 93 yX4_isIn, .static yX4_isIn, .code yX4_isIn cX4_isIn 3 (some .boolean), .methodLink RX4 101 yX4_goes, .instanceMethod yX4_goes, .selects RX4 yX4_goes yX4_goes, .code yX4_goes cX4_goes 2 (some .boolean), .fieldLink RX4 90 "GossipGatesModel" "thrown" "I"] ++ wsX40)
def wsX4_fall : List Cond := .code yX4_fall cX4_fall 2 none :: ([.fieldLink RX4 56 "GossipGatesModel" "isDown" "[Z", .methodLink RX4 97 yX4_isOne, .static yX4_isOne, .initialized RX4, .code yX4_isOne cX4_isOne 1 (some .boolean), .methodLink RX4 93 yX4_isIn, .static yX4_isIn, .code yX4_isIn cX4_isIn 3 (some .boolean), .methodLink RX4 101 yX4_goes, .instanceMethod yX4_goes, .selects RX4 yX4_goes yX4_goes, .code yX4_goes cX4_goes 2 (some .boolean), .fieldLink RX4 90 "GossipGatesModel" "thrown" "I"] ++ wsX40)
def wsX4_comeUp : List Cond := .code yX4_comeUp cX4_comeUp 3 none :: ([.fieldLink RX4 56 "GossipGatesModel" "isDown" "[Z", .fieldLink RX4 77 "GossipGatesModel" "grown" "[I", .fieldLink RX4 118 "GossipGatesModel" "time" "I", .methodLink RX4 97 yX4_isOne, .static yX4_isOne, .initialized RX4, .code yX4_isOne cX4_isOne 1 (some .boolean), .methodLink RX4 93 yX4_isIn, .static yX4_isIn, .code yX4_isIn cX4_isIn 3 (some .boolean), .methodLink RX4 101 yX4_goes, .instanceMethod yX4_goes, .selects RX4 yX4_goes yX4_goes, .code yX4_goes cX4_goes 2 (some .boolean), .fieldLink RX4 90 "GossipGatesModel" "thrown" "I", .methodLink RX4 114 yX4_at, .static yX4_at, .code yX4_at cX4_at 2 (some .int)] ++ wsX40)
def wsX4_setGroup : List Cond := .code yX4_setGroup cX4_setGroup 4 (some .int) :: ([.fieldLink RX4 59 "GossipGatesModel" "groups" "[I", .methodLink RX4 97 yX4_isOne, .static yX4_isOne, .initialized RX4, .code yX4_isOne cX4_isOne 1 (some .boolean), .methodLink RX4 93 yX4_isIn, .static yX4_isIn, .code yX4_isIn cX4_isIn 3 (some .boolean), .methodLink RX4 101 yX4_goes, .instanceMethod yX4_goes, .selects RX4 yX4_goes yX4_goes, .code yX4_goes cX4_goes 2 (some .boolean), .fieldLink RX4 90 "GossipGatesModel" "thrown" "I"] ++ wsX40)
def wsX4_setStuck : List Cond := .code yX4_setStuck cX4_setStuck 4 (some .boolean) :: ([.fieldLink RX4 62 "GossipGatesModel" "isStuck" "[Z", .methodLink RX4 107 yX4_asks, .instanceMethod yX4_asks, .selects RX4 yX4_asks yX4_asks, .initialized RX4, .code yX4_asks cX4_asks 2 (some .boolean), .methodLink RX4 97 yX4_isOne, .static yX4_isOne, .code yX4_isOne cX4_isOne 1 (some .boolean), .methodLink RX4 93 yX4_isIn, .static yX4_isIn, .code yX4_isIn cX4_isIn 3 (some .boolean), .methodLink RX4 101 yX4_goes, .instanceMethod yX4_goes, .selects RX4 yX4_goes yX4_goes, .code yX4_goes cX4_goes 2 (some .boolean), .fieldLink RX4 90 "GossipGatesModel" "thrown" "I"] ++ wsX40)
def wsX4_setTimes : List Cond := .code yX4_setTimes cX4_setTimes 3 none :: ([.fieldLink RX4 83 "GossipGatesModel" "suspicion" "I", .fieldLink RX4 87 "GossipGatesModel" "death" "I", .methodLink RX4 93 yX4_isIn, .static yX4_isIn, .initialized RX4, .code yX4_isIn cX4_isIn 3 (some .boolean), .methodLink RX4 101 yX4_goes, .instanceMethod yX4_goes, .selects RX4 yX4_goes yX4_goes, .code yX4_goes cX4_goes 2 (some .boolean), .fieldLink RX4 90 "GossipGatesModel" "thrown" "I"] ++ wsX40)
def wsX4_hasNews : List Cond := .code yX4_hasNews cX4_hasNews 3 (some .boolean) :: ([.fieldLink RX4 65 "GossipGatesModel" "versions" "[I", .methodLink RX4 114 yX4_at, .static yX4_at, .initialized RX4, .code yX4_at cX4_at 2 (some .int)] ++ wsX40)
def wsX4_believed_r1 : List Cond := [Cond.fieldLink RX4 68 "GossipGatesModel" "levels" "[I", Cond.methodLink RX4 121 yX4_ask, Cond.instanceMethod yX4_ask, Cond.selects RX4 yX4_ask yX4_ask, Cond.initialized RX4, Cond.code yX4_ask cX4_ask 3 (some .boolean), Cond.methodLink RX4 97 yX4_isOne, Cond.static yX4_isOne, Cond.code yX4_isOne cX4_isOne 1 (some .boolean), Cond.methodLink RX4 93 yX4_isIn, Cond.static yX4_isIn, Cond.code yX4_isIn cX4_isIn 3 (some .boolean), Cond.methodLink RX4 101 yX4_goes, Cond.instanceMethod yX4_goes, Cond.selects RX4 yX4_goes yX4_goes, Cond.code yX4_goes cX4_goes 2 (some .boolean), Cond.fieldLink RX4 90 "GossipGatesModel" "thrown" "I", Cond.methodLink RX4 125 yX4_hasNews, Cond.instanceMethod yX4_hasNews, Cond.selects RX4 yX4_hasNews yX4_hasNews, Cond.code yX4_hasNews cX4_hasNews 3 (some .boolean), Cond.fieldLink RX4 65 "GossipGatesModel" "versions" "[I", Cond.methodLink RX4 114 yX4_at, Cond.static yX4_at]
def wsX4_believed_r2 : List Cond := [Cond.code yX4_at cX4_at 2 (some .int)]
def wsX4_believed : List Cond := .code yX4_believed cX4_believed 3 (some .int) :: ((wsX4_believed_r1 ++ wsX4_believed_r2) ++ wsX40)
def wsX4_version : List Cond := .code yX4_version cX4_version 3 (some .int) :: ([.fieldLink RX4 65 "GossipGatesModel" "versions" "[I", .methodLink RX4 121 yX4_ask, .instanceMethod yX4_ask, .selects RX4 yX4_ask yX4_ask, .initialized RX4, .code yX4_ask cX4_ask 3 (some .boolean), .methodLink RX4 97 yX4_isOne, .static yX4_isOne, .code yX4_isOne cX4_isOne 1 (some .boolean), .methodLink RX4 93 yX4_isIn, .static yX4_isIn, .code yX4_isIn cX4_isIn 3 (some .boolean), .methodLink RX4 101 yX4_goes, .instanceMethod yX4_goes, .selects RX4 yX4_goes yX4_goes, .code yX4_goes cX4_goes 2 (some .boolean), .fieldLink RX4 90 "GossipGatesModel" "thrown" "I", .methodLink RX4 114 yX4_at, .static yX4_at, .code yX4_at cX4_at 2 (some .int)] ++ wsX40)
def wsX4_ageOf : List Cond := .code yX4_ageOf cX4_ageOf 3 (some .int) :: ([.fieldLink RX4 118 "GossipGatesModel" "time" "I", .fieldLink RX4 71 "GossipGatesModel" "measured" "[I", .methodLink RX4 125 yX4_hasNews, .instanceMethod yX4_hasNews, .selects RX4 yX4_hasNews yX4_hasNews, .initialized RX4, .code yX4_hasNews cX4_hasNews 3 (some .boolean), .fieldLink RX4 65 "GossipGatesModel" "versions" "[I", .methodLink RX4 114 yX4_at, .static yX4_at, .code yX4_at cX4_at 2 (some .int)] ++ wsX40)
def wsX4_age_r1 : List Cond := [Cond.methodLink RX4 121 yX4_ask, Cond.instanceMethod yX4_ask, Cond.selects RX4 yX4_ask yX4_ask, Cond.initialized RX4, Cond.code yX4_ask cX4_ask 3 (some .boolean), Cond.methodLink RX4 97 yX4_isOne, Cond.static yX4_isOne, Cond.code yX4_isOne cX4_isOne 1 (some .boolean), Cond.methodLink RX4 93 yX4_isIn, Cond.static yX4_isIn, Cond.code yX4_isIn cX4_isIn 3 (some .boolean), Cond.methodLink RX4 101 yX4_goes, Cond.instanceMethod yX4_goes, Cond.selects RX4 yX4_goes yX4_goes, Cond.code yX4_goes cX4_goes 2 (some .boolean), Cond.fieldLink RX4 90 "GossipGatesModel" "thrown" "I", Cond.methodLink RX4 128 yX4_ageOf, Cond.instanceMethod yX4_ageOf, Cond.selects RX4 yX4_ageOf yX4_ageOf, Cond.code yX4_ageOf cX4_ageOf 3 (some .int), Cond.fieldLink RX4 118 "GossipGatesModel" "time" "I", Cond.fieldLink RX4 71 "GossipGatesModel" "measured" "[I", Cond.methodLink RX4 125 yX4_hasNews, Cond.instanceMethod yX4_hasNews]
def wsX4_age_r2 : List Cond := [Cond.selects RX4 yX4_hasNews yX4_hasNews, Cond.code yX4_hasNews cX4_hasNews 3 (some .boolean), Cond.fieldLink RX4 65 "GossipGatesModel" "versions" "[I", Cond.methodLink RX4 114 yX4_at, Cond.static yX4_at, Cond.code yX4_at cX4_at 2 (some .int)]
def wsX4_age : List Cond := .code yX4_age cX4_age 3 (some .int) :: ((wsX4_age_r1 ++ wsX4_age_r2) ++ wsX40)
def wsX4_beat : List Cond := .code yX4_beat cX4_beat 3 (some .int) :: ([.fieldLink RX4 74 "GossipGatesModel" "beats" "[I", .methodLink RX4 121 yX4_ask, .instanceMethod yX4_ask, .selects RX4 yX4_ask yX4_ask, .initialized RX4, .code yX4_ask cX4_ask 3 (some .boolean), .methodLink RX4 97 yX4_isOne, .static yX4_isOne, .code yX4_isOne cX4_isOne 1 (some .boolean), .methodLink RX4 93 yX4_isIn, .static yX4_isIn, .code yX4_isIn cX4_isIn 3 (some .boolean), .methodLink RX4 101 yX4_goes, .instanceMethod yX4_goes, .selects RX4 yX4_goes yX4_goes, .code yX4_goes cX4_goes 2 (some .boolean), .fieldLink RX4 90 "GossipGatesModel" "thrown" "I", .methodLink RX4 114 yX4_at, .static yX4_at, .code yX4_at cX4_at 2 (some .int)] ++ wsX40)
def wsX4_status : List Cond := .code yX4_status cX4_status 3 (some .int) :: ([.fieldLink RX4 80 "GossipGatesModel" "statuses" "[I", .methodLink RX4 121 yX4_ask, .instanceMethod yX4_ask, .selects RX4 yX4_ask yX4_ask, .initialized RX4, .code yX4_ask cX4_ask 3 (some .boolean), .methodLink RX4 97 yX4_isOne, .static yX4_isOne, .code yX4_isOne cX4_isOne 1 (some .boolean), .methodLink RX4 93 yX4_isIn, .static yX4_isIn, .code yX4_isIn cX4_isIn 3 (some .boolean), .methodLink RX4 101 yX4_goes, .instanceMethod yX4_goes, .selects RX4 yX4_goes yX4_goes, .code yX4_goes cX4_goes 2 (some .boolean), .fieldLink RX4 90 "GossipGatesModel" "thrown" "I", .methodLink RX4 114 yX4_at, .static yX4_at, .code yX4_at cX4_at 2 (some .int)] ++ wsX40)
def wsX4_isCallable : List Cond := .code yX4_isCallable cX4_isCallable 4 (some .boolean) :: ([.fieldLink RX4 80 "GossipGatesModel" "statuses" "[I", .methodLink RX4 114 yX4_at, .static yX4_at, .initialized RX4, .code yX4_at cX4_at 2 (some .int)] ++ wsX40)
def wsX4_called : List Cond := .code yX4_called cX4_called 8 (some .int) :: ([.methodLink RX4 131 yX4_isCallable, .instanceMethod yX4_isCallable, .selects RX4 yX4_isCallable yX4_isCallable, .initialized RX4, .code yX4_isCallable cX4_isCallable 4 (some .boolean), .fieldLink RX4 80 "GossipGatesModel" "statuses" "[I", .methodLink RX4 114 yX4_at, .static yX4_at, .code yX4_at cX4_at 2 (some .int)] ++ wsX40)
def wsX4_partner_r1 : List Cond := [Cond.fieldLink RX4 56 "GossipGatesModel" "isDown" "[Z", Cond.fieldLink RX4 118 "GossipGatesModel" "time" "I", Cond.methodLink RX4 107 yX4_asks, Cond.instanceMethod yX4_asks, Cond.selects RX4 yX4_asks yX4_asks, Cond.initialized RX4, Cond.code yX4_asks cX4_asks 2 (some .boolean), Cond.methodLink RX4 97 yX4_isOne, Cond.static yX4_isOne, Cond.code yX4_isOne cX4_isOne 1 (some .boolean), Cond.methodLink RX4 93 yX4_isIn, Cond.static yX4_isIn, Cond.code yX4_isIn cX4_isIn 3 (some .boolean), Cond.methodLink RX4 101 yX4_goes, Cond.instanceMethod yX4_goes, Cond.selects RX4 yX4_goes yX4_goes, Cond.code yX4_goes cX4_goes 2 (some .boolean), Cond.fieldLink RX4 90 "GossipGatesModel" "thrown" "I", Cond.methodLink RX4 134 yX4_called, Cond.instanceMethod yX4_called, Cond.selects RX4 yX4_called yX4_called, Cond.code yX4_called cX4_called 8 (some .int), Cond.methodLink RX4 131 yX4_isCallable, Cond.instanceMethod yX4_isCallable]
def wsX4_partner_r2 : List Cond := [Cond.selects RX4 yX4_isCallable yX4_isCallable, Cond.code yX4_isCallable cX4_isCallable 4 (some .boolean), Cond.fieldLink RX4 80 "GossipGatesModel" "statuses" "[I", Cond.methodLink RX4 114 yX4_at, Cond.static yX4_at, Cond.code yX4_at cX4_at 2 (some .int)]
def wsX4_partner : List Cond := .code yX4_partner cX4_partner 2 (some .int) :: ((wsX4_partner_r1 ++ wsX4_partner_r2) ++ wsX40)
def wsX4_freshest : List Cond := .code yX4_freshest cX4_freshest 4 (some .int) :: ([.fieldLink RX4 65 "GossipGatesModel" "versions" "[I", .methodLink RX4 107 yX4_asks, .instanceMethod yX4_asks, .selects RX4 yX4_asks yX4_asks, .initialized RX4, .code yX4_asks cX4_asks 2 (some .boolean), .methodLink RX4 97 yX4_isOne, .static yX4_isOne, .code yX4_isOne cX4_isOne 1 (some .boolean), .methodLink RX4 93 yX4_isIn, .static yX4_isIn, .code yX4_isIn cX4_isIn 3 (some .boolean), .methodLink RX4 101 yX4_goes, .instanceMethod yX4_goes, .selects RX4 yX4_goes yX4_goes, .code yX4_goes cX4_goes 2 (some .boolean), .fieldLink RX4 90 "GossipGatesModel" "thrown" "I", .methodLink RX4 114 yX4_at, .static yX4_at, .code yX4_at cX4_at 2 (some .int), .methodLink RX4 125 yX4_hasNews, .instanceMethod yX4_hasNews, .selects RX4 yX4_hasNews yX4_hasNews, .code yX4_hasNews cX4_hasNews 3 (some .boolean)] ++ wsX40)
def wsX4_agree_r1 : List Cond := [Cond.fieldLink RX4 56 "GossipGatesModel" "isDown" "[Z", Cond.fieldLink RX4 68 "GossipGatesModel" "levels" "[I", Cond.methodLink RX4 107 yX4_asks, Cond.instanceMethod yX4_asks, Cond.selects RX4 yX4_asks yX4_asks, Cond.initialized RX4, Cond.code yX4_asks cX4_asks 2 (some .boolean), Cond.methodLink RX4 97 yX4_isOne, Cond.static yX4_isOne, Cond.code yX4_isOne cX4_isOne 1 (some .boolean), Cond.methodLink RX4 93 yX4_isIn, Cond.static yX4_isIn, Cond.code yX4_isIn cX4_isIn 3 (some .boolean), Cond.methodLink RX4 101 yX4_goes, Cond.instanceMethod yX4_goes, Cond.selects RX4 yX4_goes yX4_goes, Cond.code yX4_goes cX4_goes 2 (some .boolean), Cond.fieldLink RX4 90 "GossipGatesModel" "thrown" "I", Cond.methodLink RX4 125 yX4_hasNews, Cond.instanceMethod yX4_hasNews, Cond.selects RX4 yX4_hasNews yX4_hasNews, Cond.code yX4_hasNews cX4_hasNews 3 (some .boolean), Cond.fieldLink RX4 65 "GossipGatesModel" "versions" "[I", Cond.methodLink RX4 114 yX4_at]
def wsX4_agree_r2 : List Cond := [Cond.static yX4_at, Cond.code yX4_at cX4_at 2 (some .int), Cond.methodLink RX4 110 yX4_levelOf, Cond.instanceMethod yX4_levelOf, Cond.selects RX4 yX4_levelOf yX4_levelOf, Cond.code yX4_levelOf cX4_levelOf 2 (some .int), Cond.fieldLink RX4 16 "GossipGatesModel" "volumes" "[I", Cond.fieldLink RX4 7 "GossipGatesModel" "areas" "[I"]
def wsX4_agree : List Cond := .code yX4_agree cX4_agree 4 (some .int) :: ((wsX4_agree_r1 ++ wsX4_agree_r2) ++ wsX40)
def wsX4_unnoticed : List Cond := .code yX4_unnoticed cX4_unnoticed 5 (some .int) :: ([.fieldLink RX4 90 "GossipGatesModel" "thrown" "I", .fieldLink RX4 56 "GossipGatesModel" "isDown" "[Z", .fieldLink RX4 80 "GossipGatesModel" "statuses" "[I", .methodLink RX4 114 yX4_at, .static yX4_at, .initialized RX4, .code yX4_at cX4_at 2 (some .int)] ++ wsX40)
def wsX4_mistaken : List Cond := .code yX4_mistaken cX4_mistaken 3 (some .int) :: ([.fieldLink RX4 90 "GossipGatesModel" "thrown" "I", .fieldLink RX4 56 "GossipGatesModel" "isDown" "[Z", .fieldLink RX4 80 "GossipGatesModel" "statuses" "[I"] ++ wsX40)
def wsX4_vain : List Cond := .code yX4_vain cX4_vain 1 (some .int) :: ([.fieldLink RX4 90 "GossipGatesModel" "thrown" "I", .fieldLink RX4 137 "GossipGatesModel" "vain" "I"] ++ wsX40)
def wsX4_falls : List Cond := .code yX4_falls cX4_falls 2 none :: ([.fieldLink RX4 16 "GossipGatesModel" "volumes" "[I", .fieldLink RX4 104 "GossipGatesModel" "source" "I", .fieldLink RX4 25 "GossipGatesModel" "rains" "[I"] ++ wsX40)
def wsX4_flowsOn : List Cond := .code yX4_flowsOn cX4_flowsOn 3 none :: ([.fieldLink RX4 19 "GossipGatesModel" "openings" "[I", .fieldLink RX4 22 "GossipGatesModel" "gauges" "[I", .fieldLink RX4 28 "GossipGatesModel" "flows" "[I", .fieldLink RX4 16 "GossipGatesModel" "volumes" "[I", .fieldLink RX4 31 "GossipGatesModel" "flowed" "[I"] ++ wsX40)
def wsX4_spills : List Cond := .code yX4_spills cX4_spills 5 (some .int) :: ([.fieldLink RX4 7 "GossipGatesModel" "areas" "[I", .fieldLink RX4 13 "GossipGatesModel" "depths" "[I", .fieldLink RX4 16 "GossipGatesModel" "volumes" "[I", .fieldLink RX4 34 "GossipGatesModel" "spilled" "[I"] ++ wsX40)
def wsX4_measures : List Cond := .code yX4_measures cX4_measures 3 none :: ([.fieldLink RX4 56 "GossipGatesModel" "isDown" "[Z", .fieldLink RX4 68 "GossipGatesModel" "levels" "[I", .fieldLink RX4 62 "GossipGatesModel" "isStuck" "[Z", .fieldLink RX4 65 "GossipGatesModel" "versions" "[I", .fieldLink RX4 71 "GossipGatesModel" "measured" "[I", .fieldLink RX4 118 "GossipGatesModel" "time" "I", .fieldLink RX4 74 "GossipGatesModel" "beats" "[I", .fieldLink RX4 77 "GossipGatesModel" "grown" "[I", .methodLink RX4 114 yX4_at, .static yX4_at, .initialized RX4, .code yX4_at cX4_at 2 (some .int), .methodLink RX4 110 yX4_levelOf, .instanceMethod yX4_levelOf, .selects RX4 yX4_levelOf yX4_levelOf, .code yX4_levelOf cX4_levelOf 2 (some .int), .fieldLink RX4 16 "GossipGatesModel" "volumes" "[I", .fieldLink RX4 7 "GossipGatesModel" "areas" "[I"] ++ wsX40)
def wsX4_takes : List Cond := .code yX4_takes cX4_takes 6 none :: ([.fieldLink RX4 65 "GossipGatesModel" "versions" "[I", .fieldLink RX4 68 "GossipGatesModel" "levels" "[I", .fieldLink RX4 71 "GossipGatesModel" "measured" "[I", .fieldLink RX4 74 "GossipGatesModel" "beats" "[I", .fieldLink RX4 77 "GossipGatesModel" "grown" "[I", .fieldLink RX4 118 "GossipGatesModel" "time" "I", .fieldLink RX4 80 "GossipGatesModel" "statuses" "[I", .methodLink RX4 114 yX4_at, .static yX4_at, .initialized RX4, .code yX4_at cX4_at 2 (some .int)] ++ wsX40)
def wsX4_calls_r1 : List Cond := [Cond.fieldLink RX4 56 "GossipGatesModel" "isDown" "[Z", Cond.fieldLink RX4 118 "GossipGatesModel" "time" "I", Cond.fieldLink RX4 59 "GossipGatesModel" "groups" "[I", Cond.fieldLink RX4 137 "GossipGatesModel" "vain" "I", Cond.methodLink RX4 134 yX4_called, Cond.instanceMethod yX4_called, Cond.selects RX4 yX4_called yX4_called, Cond.initialized RX4, Cond.code yX4_called cX4_called 8 (some .int), Cond.methodLink RX4 131 yX4_isCallable, Cond.instanceMethod yX4_isCallable, Cond.selects RX4 yX4_isCallable yX4_isCallable, Cond.code yX4_isCallable cX4_isCallable 4 (some .boolean), Cond.fieldLink RX4 80 "GossipGatesModel" "statuses" "[I", Cond.methodLink RX4 114 yX4_at, Cond.static yX4_at, Cond.code yX4_at cX4_at 2 (some .int), Cond.methodLink RX4 140 yX4_takes, Cond.instanceMethod yX4_takes, Cond.selects RX4 yX4_takes yX4_takes, Cond.code yX4_takes cX4_takes 6 none, Cond.fieldLink RX4 65 "GossipGatesModel" "versions" "[I", Cond.fieldLink RX4 68 "GossipGatesModel" "levels" "[I", Cond.fieldLink RX4 71 "GossipGatesModel" "measured" "[I"]
def wsX4_calls_r2 : List Cond := [Cond.fieldLink RX4 74 "GossipGatesModel" "beats" "[I", Cond.fieldLink RX4 77 "GossipGatesModel" "grown" "[I"]
def wsX4_calls : List Cond := .code yX4_calls cX4_calls 4 none :: ((wsX4_calls_r1 ++ wsX4_calls_r2) ++ wsX40)
def wsX4_looks : List Cond := .code yX4_looks cX4_looks 4 none :: ([.fieldLink RX4 118 "GossipGatesModel" "time" "I", .fieldLink RX4 77 "GossipGatesModel" "grown" "[I", .fieldLink RX4 87 "GossipGatesModel" "death" "I", .fieldLink RX4 83 "GossipGatesModel" "suspicion" "I", .fieldLink RX4 80 "GossipGatesModel" "statuses" "[I", .fieldLink RX4 56 "GossipGatesModel" "isDown" "[Z"] ++ wsX40)
def wsX4_rules : List Cond := .code yX4_rules cX4_rules 6 none :: ([.fieldLink RX4 68 "GossipGatesModel" "levels" "[I", .fieldLink RX4 46 "GossipGatesModel" "ages" "[I", .fieldLink RX4 19 "GossipGatesModel" "openings" "[I", .fieldLink RX4 53 "GossipGatesModel" "safeties" "[I", .fieldLink RX4 40 "GossipGatesModel" "highs" "[I", .fieldLink RX4 43 "GossipGatesModel" "bounds" "[I", .fieldLink RX4 37 "GossipGatesModel" "lows" "[I", .methodLink RX4 114 yX4_at, .static yX4_at, .initialized RX4, .code yX4_at cX4_at 2 (some .int), .methodLink RX4 125 yX4_hasNews, .instanceMethod yX4_hasNews, .selects RX4 yX4_hasNews yX4_hasNews, .code yX4_hasNews cX4_hasNews 3 (some .boolean), .fieldLink RX4 65 "GossipGatesModel" "versions" "[I", .methodLink RX4 128 yX4_ageOf, .instanceMethod yX4_ageOf, .selects RX4 yX4_ageOf yX4_ageOf, .code yX4_ageOf cX4_ageOf 3 (some .int), .fieldLink RX4 118 "GossipGatesModel" "time" "I", .fieldLink RX4 71 "GossipGatesModel" "measured" "[I"] ++ wsX40)
def wsX4_ticks_r1 : List Cond := [Cond.fieldLink RX4 118 "GossipGatesModel" "time" "I", Cond.fieldLink RX4 56 "GossipGatesModel" "isDown" "[Z", Cond.fieldLink RX4 49 "GossipGatesModel" "isHeld" "[Z", Cond.methodLink RX4 144 yX4_falls, Cond.instanceMethod yX4_falls, Cond.selects RX4 yX4_falls yX4_falls, Cond.initialized RX4, Cond.code yX4_falls cX4_falls 2 none, Cond.fieldLink RX4 16 "GossipGatesModel" "volumes" "[I", Cond.fieldLink RX4 104 "GossipGatesModel" "source" "I", Cond.fieldLink RX4 25 "GossipGatesModel" "rains" "[I", Cond.methodLink RX4 147 yX4_flowsOn, Cond.instanceMethod yX4_flowsOn, Cond.selects RX4 yX4_flowsOn yX4_flowsOn, Cond.code yX4_flowsOn cX4_flowsOn 3 none, Cond.fieldLink RX4 19 "GossipGatesModel" "openings" "[I", Cond.fieldLink RX4 22 "GossipGatesModel" "gauges" "[I", Cond.fieldLink RX4 28 "GossipGatesModel" "flows" "[I", Cond.fieldLink RX4 31 "GossipGatesModel" "flowed" "[I", Cond.methodLink RX4 150 yX4_spills, Cond.instanceMethod yX4_spills, Cond.selects RX4 yX4_spills yX4_spills, Cond.code yX4_spills cX4_spills 5 (some .int), Cond.fieldLink RX4 7 "GossipGatesModel" "areas" "[I"]
def wsX4_ticks_r2 : List Cond := [Cond.fieldLink RX4 13 "GossipGatesModel" "depths" "[I", Cond.fieldLink RX4 34 "GossipGatesModel" "spilled" "[I", Cond.methodLink RX4 154 yX4_measures, Cond.instanceMethod yX4_measures, Cond.selects RX4 yX4_measures yX4_measures, Cond.code yX4_measures cX4_measures 3 none, Cond.fieldLink RX4 68 "GossipGatesModel" "levels" "[I", Cond.fieldLink RX4 62 "GossipGatesModel" "isStuck" "[Z", Cond.fieldLink RX4 65 "GossipGatesModel" "versions" "[I", Cond.fieldLink RX4 71 "GossipGatesModel" "measured" "[I", Cond.fieldLink RX4 74 "GossipGatesModel" "beats" "[I", Cond.fieldLink RX4 77 "GossipGatesModel" "grown" "[I", Cond.methodLink RX4 114 yX4_at, Cond.static yX4_at, Cond.code yX4_at cX4_at 2 (some .int), Cond.methodLink RX4 110 yX4_levelOf, Cond.instanceMethod yX4_levelOf, Cond.selects RX4 yX4_levelOf yX4_levelOf, Cond.code yX4_levelOf cX4_levelOf 2 (some .int), Cond.methodLink RX4 157 yX4_calls, Cond.instanceMethod yX4_calls, Cond.selects RX4 yX4_calls yX4_calls, Cond.code yX4_calls cX4_calls 4 none, Cond.fieldLink RX4 59 "GossipGatesModel" "groups" "[I"]
def wsX4_ticks_r3 : List Cond := [Cond.fieldLink RX4 137 "GossipGatesModel" "vain" "I", Cond.methodLink RX4 134 yX4_called, Cond.instanceMethod yX4_called, Cond.selects RX4 yX4_called yX4_called, Cond.code yX4_called cX4_called 8 (some .int), Cond.methodLink RX4 131 yX4_isCallable, Cond.instanceMethod yX4_isCallable, Cond.selects RX4 yX4_isCallable yX4_isCallable, Cond.code yX4_isCallable cX4_isCallable 4 (some .boolean), Cond.fieldLink RX4 80 "GossipGatesModel" "statuses" "[I", Cond.methodLink RX4 140 yX4_takes, Cond.instanceMethod yX4_takes, Cond.selects RX4 yX4_takes yX4_takes, Cond.code yX4_takes cX4_takes 6 none, Cond.methodLink RX4 160 yX4_looks, Cond.instanceMethod yX4_looks, Cond.selects RX4 yX4_looks yX4_looks, Cond.code yX4_looks cX4_looks 4 none, Cond.fieldLink RX4 87 "GossipGatesModel" "death" "I", Cond.fieldLink RX4 83 "GossipGatesModel" "suspicion" "I", Cond.methodLink RX4 163 yX4_rules, Cond.instanceMethod yX4_rules, Cond.selects RX4 yX4_rules yX4_rules, Cond.code yX4_rules cX4_rules 6 none]
def wsX4_ticks_r4 : List Cond := [Cond.fieldLink RX4 46 "GossipGatesModel" "ages" "[I", Cond.fieldLink RX4 53 "GossipGatesModel" "safeties" "[I", Cond.fieldLink RX4 40 "GossipGatesModel" "highs" "[I", Cond.fieldLink RX4 43 "GossipGatesModel" "bounds" "[I", Cond.fieldLink RX4 37 "GossipGatesModel" "lows" "[I", Cond.methodLink RX4 125 yX4_hasNews, Cond.instanceMethod yX4_hasNews, Cond.selects RX4 yX4_hasNews yX4_hasNews, Cond.code yX4_hasNews cX4_hasNews 3 (some .boolean), Cond.methodLink RX4 128 yX4_ageOf, Cond.instanceMethod yX4_ageOf, Cond.selects RX4 yX4_ageOf yX4_ageOf, Cond.code yX4_ageOf cX4_ageOf 3 (some .int)]
def wsX4_ticks : List Cond := .code yX4_ticks cX4_ticks 3 (some .int) :: ((wsX4_ticks_r1 ++ (wsX4_ticks_r2 ++ (wsX4_ticks_r3 ++ wsX4_ticks_r4))) ++ wsX40)
def wsX4_tick_r1 : List Cond := [Cond.fieldLink RX4 118 "GossipGatesModel" "time" "I", Cond.methodLink RX4 93 yX4_isIn, Cond.static yX4_isIn, Cond.initialized RX4, Cond.code yX4_isIn cX4_isIn 3 (some .boolean), Cond.methodLink RX4 101 yX4_goes, Cond.instanceMethod yX4_goes, Cond.selects RX4 yX4_goes yX4_goes, Cond.code yX4_goes cX4_goes 2 (some .boolean), Cond.fieldLink RX4 90 "GossipGatesModel" "thrown" "I", Cond.methodLink RX4 167 yX4_ticks, Cond.instanceMethod yX4_ticks, Cond.selects RX4 yX4_ticks yX4_ticks, Cond.code yX4_ticks cX4_ticks 3 (some .int), Cond.fieldLink RX4 56 "GossipGatesModel" "isDown" "[Z", Cond.fieldLink RX4 49 "GossipGatesModel" "isHeld" "[Z", Cond.methodLink RX4 144 yX4_falls, Cond.instanceMethod yX4_falls, Cond.selects RX4 yX4_falls yX4_falls, Cond.code yX4_falls cX4_falls 2 none, Cond.fieldLink RX4 16 "GossipGatesModel" "volumes" "[I", Cond.fieldLink RX4 104 "GossipGatesModel" "source" "I", Cond.fieldLink RX4 25 "GossipGatesModel" "rains" "[I", Cond.methodLink RX4 147 yX4_flowsOn]
def wsX4_tick_r2 : List Cond := [Cond.instanceMethod yX4_flowsOn, Cond.selects RX4 yX4_flowsOn yX4_flowsOn, Cond.code yX4_flowsOn cX4_flowsOn 3 none, Cond.fieldLink RX4 19 "GossipGatesModel" "openings" "[I", Cond.fieldLink RX4 22 "GossipGatesModel" "gauges" "[I", Cond.fieldLink RX4 28 "GossipGatesModel" "flows" "[I", Cond.fieldLink RX4 31 "GossipGatesModel" "flowed" "[I", Cond.methodLink RX4 150 yX4_spills, Cond.instanceMethod yX4_spills, Cond.selects RX4 yX4_spills yX4_spills, Cond.code yX4_spills cX4_spills 5 (some .int), Cond.fieldLink RX4 7 "GossipGatesModel" "areas" "[I", Cond.fieldLink RX4 13 "GossipGatesModel" "depths" "[I", Cond.fieldLink RX4 34 "GossipGatesModel" "spilled" "[I", Cond.methodLink RX4 154 yX4_measures, Cond.instanceMethod yX4_measures, Cond.selects RX4 yX4_measures yX4_measures, Cond.code yX4_measures cX4_measures 3 none, Cond.fieldLink RX4 68 "GossipGatesModel" "levels" "[I", Cond.fieldLink RX4 62 "GossipGatesModel" "isStuck" "[Z", Cond.fieldLink RX4 65 "GossipGatesModel" "versions" "[I", Cond.fieldLink RX4 71 "GossipGatesModel" "measured" "[I", Cond.fieldLink RX4 74 "GossipGatesModel" "beats" "[I", Cond.fieldLink RX4 77 "GossipGatesModel" "grown" "[I"]
def wsX4_tick_r3 : List Cond := [Cond.methodLink RX4 114 yX4_at, Cond.static yX4_at, Cond.code yX4_at cX4_at 2 (some .int), Cond.methodLink RX4 110 yX4_levelOf, Cond.instanceMethod yX4_levelOf, Cond.selects RX4 yX4_levelOf yX4_levelOf, Cond.code yX4_levelOf cX4_levelOf 2 (some .int), Cond.methodLink RX4 157 yX4_calls, Cond.instanceMethod yX4_calls, Cond.selects RX4 yX4_calls yX4_calls, Cond.code yX4_calls cX4_calls 4 none, Cond.fieldLink RX4 59 "GossipGatesModel" "groups" "[I", Cond.fieldLink RX4 137 "GossipGatesModel" "vain" "I", Cond.methodLink RX4 134 yX4_called, Cond.instanceMethod yX4_called, Cond.selects RX4 yX4_called yX4_called, Cond.code yX4_called cX4_called 8 (some .int), Cond.methodLink RX4 131 yX4_isCallable, Cond.instanceMethod yX4_isCallable, Cond.selects RX4 yX4_isCallable yX4_isCallable, Cond.code yX4_isCallable cX4_isCallable 4 (some .boolean), Cond.fieldLink RX4 80 "GossipGatesModel" "statuses" "[I", Cond.methodLink RX4 140 yX4_takes, Cond.instanceMethod yX4_takes]
def wsX4_tick_r4 : List Cond := [Cond.selects RX4 yX4_takes yX4_takes, Cond.code yX4_takes cX4_takes 6 none, Cond.methodLink RX4 160 yX4_looks, Cond.instanceMethod yX4_looks, Cond.selects RX4 yX4_looks yX4_looks, Cond.code yX4_looks cX4_looks 4 none, Cond.fieldLink RX4 87 "GossipGatesModel" "death" "I", Cond.fieldLink RX4 83 "GossipGatesModel" "suspicion" "I", Cond.methodLink RX4 163 yX4_rules, Cond.instanceMethod yX4_rules, Cond.selects RX4 yX4_rules yX4_rules, Cond.code yX4_rules cX4_rules 6 none, Cond.fieldLink RX4 46 "GossipGatesModel" "ages" "[I", Cond.fieldLink RX4 53 "GossipGatesModel" "safeties" "[I", Cond.fieldLink RX4 40 "GossipGatesModel" "highs" "[I", Cond.fieldLink RX4 43 "GossipGatesModel" "bounds" "[I", Cond.fieldLink RX4 37 "GossipGatesModel" "lows" "[I", Cond.methodLink RX4 125 yX4_hasNews, Cond.instanceMethod yX4_hasNews, Cond.selects RX4 yX4_hasNews yX4_hasNews, Cond.code yX4_hasNews cX4_hasNews 3 (some .boolean), Cond.methodLink RX4 128 yX4_ageOf, Cond.instanceMethod yX4_ageOf, Cond.selects RX4 yX4_ageOf yX4_ageOf]
def wsX4_tick_r5 : List Cond := [Cond.code yX4_ageOf cX4_ageOf 3 (some .int)]
def wsX4_tick : List Cond := .code yX4_tick cX4_tick 4 (some .int) :: ((wsX4_tick_r1 ++ (wsX4_tick_r2 ++ (wsX4_tick_r3 ++ (wsX4_tick_r4 ++ wsX4_tick_r5)))) ++ wsX40)
def wsX4_time : List Cond := .code yX4_time cX4_time 1 (some .int) :: ([.fieldLink RX4 90 "GossipGatesModel" "thrown" "I", .fieldLink RX4 118 "GossipGatesModel" "time" "I"] ++ wsX40)
def wsJ9_max_7cf53 : List Cond := .code yJ9_max_7cf53 cJ9_max_7cf53 2 (some .int) :: ([])
def wsJ9_min_7cf53 : List Cond := .code yJ9_min_7cf53 cJ9_min_7cf53 2 (some .int) :: ([])
def wsL_shape : List Cond := .codeWith yL_shape cL_shape 5 (some .int) [(0, 7, 10, 13)] :: ([.classLink RL 13 "java/lang/IllegalArgumentException", .methodLink RL 7 yX3_shape, .instanceMethod yX3_shape, .selects RX3 yX3_shape yX3_shape, .initialized RX3, .code yX3_shape cX3_shape 4 none, .fieldLink RX3 10 "GossipGates" "river" "LGossipGates$River;", .fieldLink RX3 42 "GossipGates$River" "areas" "[I", .fieldLink RX3 46 "GossipGates$River" "depths" "[I", .methodLink RX3 34 yX3_requireNumber, .static yX3_requireNumber, .code yX3_requireNumber cX3_requireNumber 1 none, .methodLink RX3 38 yX3_requireWithin, .static yX3_requireWithin, .code yX3_requireWithin cX3_requireWithin 3 none, .classLink RX3 213 "java/lang/IllegalArgumentException", .initialized "java/lang/IllegalArgumentException"] ++ wsX30 ++ wsX20 ++ (vx_atS RX3 217 "java/lang/IllegalArgumentException" ["java/lang/RuntimeException", "java/lang/Exception"]).filter goodWord)
def wsL_setGauge : List Cond := .codeWith yL_setGauge cL_setGauge 5 (some .int) [(0, 10, 13, 13)] :: ([.classLink RL 13 "java/lang/IllegalArgumentException", .methodLink RL 15 yX3_setGauge, .instanceMethod yX3_setGauge, .selects RX3 yX3_setGauge yX3_setGauge, .initialized RX3, .code yX3_setGauge cX3_setGauge 4 (some .int), .fieldLink RX3 19 "GossipGates" "gates" "LGossipGates$Gates;", .fieldLink RX3 49 "GossipGates$Gates" "gauges" "[I", .methodLink RX3 34 yX3_requireNumber, .static yX3_requireNumber, .code yX3_requireNumber cX3_requireNumber 1 none, .methodLink RX3 38 yX3_requireWithin, .static yX3_requireWithin, .code yX3_requireWithin cX3_requireWithin 3 none, .classLink RX3 213 "java/lang/IllegalArgumentException", .initialized "java/lang/IllegalArgumentException"] ++ wsX30 ++ wsX00 ++ (vx_atS RX3 217 "java/lang/IllegalArgumentException" ["java/lang/RuntimeException", "java/lang/Exception"]).filter goodWord)
def wsL_setSource : List Cond := .codeWith yL_setSource cL_setSource 4 (some .int) [(0, 9, 12, 13)] :: ([.classLink RL 13 "java/lang/IllegalArgumentException", .methodLink RL 19 yX3_setSource, .instanceMethod yX3_setSource, .selects RX3 yX3_setSource yX3_setSource, .initialized RX3, .code yX3_setSource cX3_setSource 3 (some .int), .fieldLink RX3 10 "GossipGates" "river" "LGossipGates$River;", .fieldLink RX3 52 "GossipGates$River" "source" "I", .methodLink RX3 38 yX3_requireWithin, .static yX3_requireWithin, .code yX3_requireWithin cX3_requireWithin 3 none, .classLink RX3 213 "java/lang/IllegalArgumentException", .initialized "java/lang/IllegalArgumentException"] ++ wsX30 ++ wsX20 ++ (vx_atS RX3 217 "java/lang/IllegalArgumentException" ["java/lang/RuntimeException", "java/lang/Exception"]).filter goodWord)
def wsL_rain : List Cond := .codeWith yL_rain cL_rain 5 (some .int) [(0, 10, 13, 13)] :: ([.classLink RL 13 "java/lang/IllegalArgumentException", .methodLink RL 23 yX3_rain, .instanceMethod yX3_rain, .selects RX3 yX3_rain yX3_rain, .initialized RX3, .code yX3_rain cX3_rain 3 (some .int), .fieldLink RX3 10 "GossipGates" "river" "LGossipGates$River;", .fieldLink RX3 55 "GossipGates$River" "clouds" "[I", .methodLink RX3 34 yX3_requireNumber, .static yX3_requireNumber, .code yX3_requireNumber cX3_requireNumber 1 none, .methodLink RX3 38 yX3_requireWithin, .static yX3_requireWithin, .code yX3_requireWithin cX3_requireWithin 3 none, .classLink RX3 213 "java/lang/IllegalArgumentException", .initialized "java/lang/IllegalArgumentException"] ++ wsX30 ++ wsX20 ++ (vx_atS RX3 217 "java/lang/IllegalArgumentException" ["java/lang/RuntimeException", "java/lang/Exception"]).filter goodWord)
def wsL_volume : List Cond := .codeWith yL_volume cL_volume 4 (some .int) [(0, 9, 12, 13)] :: ([.classLink RL 13 "java/lang/IllegalArgumentException", .methodLink RL 26 yX3_volume, .instanceMethod yX3_volume, .selects RX3 yX3_volume yX3_volume, .initialized RX3, .code yX3_volume cX3_volume 2 (some .int), .fieldLink RX3 10 "GossipGates" "river" "LGossipGates$River;", .fieldLink RX3 58 "GossipGates$River" "volumes" "[I", .methodLink RX3 34 yX3_requireNumber, .static yX3_requireNumber, .code yX3_requireNumber cX3_requireNumber 1 none, .methodLink RX3 38 yX3_requireWithin, .static yX3_requireWithin, .code yX3_requireWithin cX3_requireWithin 3 none, .classLink RX3 213 "java/lang/IllegalArgumentException", .initialized "java/lang/IllegalArgumentException"] ++ wsX30 ++ wsX20 ++ (vx_atS RX3 217 "java/lang/IllegalArgumentException" ["java/lang/RuntimeException", "java/lang/Exception"]).filter goodWord)
def wsL_volumeByBalance : List Cond := .codeWith yL_volumeByBalance cL_volumeByBalance 4 (some .int) [(0, 9, 12, 13)] :: ([.classLink RL 13 "java/lang/IllegalArgumentException", .methodLink RL 29 yX3_volumeByBalance, .instanceMethod yX3_volumeByBalance, .selects RX3 yX3_volumeByBalance yX3_volumeByBalance, .initialized RX3, .code yX3_volumeByBalance cX3_volumeByBalance 2 (some .int), .fieldLink RX3 10 "GossipGates" "river" "LGossipGates$River;", .methodLink RX3 34 yX3_requireNumber, .static yX3_requireNumber, .code yX3_requireNumber cX3_requireNumber 1 none, .methodLink RX3 38 yX3_requireWithin, .static yX3_requireWithin, .code yX3_requireWithin cX3_requireWithin 3 none, .classLink RX3 213 "java/lang/IllegalArgumentException", .initialized "java/lang/IllegalArgumentException", .methodLink RX3 61 yX2_balanceOf, .instanceMethod yX2_balanceOf, .selects RX2 yX2_balanceOf yX2_balanceOf, .initialized RX2, .code yX2_balanceOf cX2_balanceOf 3 (some .int), .fieldLink RX2 24 "GossipGates$River" "fallen" "[I", .fieldLink RX2 27 "GossipGates$River" "through" "[I", .fieldLink RX2 30 "GossipGates$River" "over" "[I"] ++ wsX30 ++ wsX20 ++ (vx_atS RX3 217 "java/lang/IllegalArgumentException" ["java/lang/RuntimeException", "java/lang/Exception"]).filter goodWord)
def wsL_level : List Cond := .codeWith yL_level cL_level 4 (some .int) [(0, 9, 12, 13)] :: ([.classLink RL 13 "java/lang/IllegalArgumentException", .methodLink RL 32 yX3_level, .instanceMethod yX3_level, .selects RX3 yX3_level yX3_level, .initialized RX3, .code yX3_level cX3_level 2 (some .int), .fieldLink RX3 10 "GossipGates" "river" "LGossipGates$River;", .methodLink RX3 34 yX3_requireNumber, .static yX3_requireNumber, .code yX3_requireNumber cX3_requireNumber 1 none, .methodLink RX3 38 yX3_requireWithin, .static yX3_requireWithin, .code yX3_requireWithin cX3_requireWithin 3 none, .classLink RX3 213 "java/lang/IllegalArgumentException", .initialized "java/lang/IllegalArgumentException", .methodLink RX3 65 yX2_levelOf, .instanceMethod yX2_levelOf, .selects RX2 yX2_levelOf yX2_levelOf, .initialized RX2, .code yX2_levelOf cX2_levelOf 3 (some .int), .fieldLink RX2 9 "GossipGates$River" "areas" "[I", .fieldLink RX2 18 "GossipGates$River" "volumes" "[I"] ++ wsX30 ++ wsX20 ++ (vx_atS RX3 217 "java/lang/IllegalArgumentException" ["java/lang/RuntimeException", "java/lang/Exception"]).filter goodWord)
def wsL_flowed : List Cond := .codeWith yL_flowed cL_flowed 4 (some .int) [(0, 9, 12, 13)] :: ([.classLink RL 13 "java/lang/IllegalArgumentException", .methodLink RL 35 yX3_flowed, .instanceMethod yX3_flowed, .selects RX3 yX3_flowed yX3_flowed, .initialized RX3, .code yX3_flowed cX3_flowed 2 (some .int), .fieldLink RX3 10 "GossipGates" "river" "LGossipGates$River;", .fieldLink RX3 68 "GossipGates$River" "through" "[I", .methodLink RX3 34 yX3_requireNumber, .static yX3_requireNumber, .code yX3_requireNumber cX3_requireNumber 1 none, .methodLink RX3 38 yX3_requireWithin, .static yX3_requireWithin, .code yX3_requireWithin cX3_requireWithin 3 none, .classLink RX3 213 "java/lang/IllegalArgumentException", .initialized "java/lang/IllegalArgumentException"] ++ wsX30 ++ wsX20 ++ (vx_atS RX3 217 "java/lang/IllegalArgumentException" ["java/lang/RuntimeException", "java/lang/Exception"]).filter goodWord)
def wsL_spilled : List Cond := .codeWith yL_spilled cL_spilled 4 (some .int) [(0, 9, 12, 13)] :: ([.classLink RL 13 "java/lang/IllegalArgumentException", .methodLink RL 38 yX3_spilled, .instanceMethod yX3_spilled, .selects RX3 yX3_spilled yX3_spilled, .initialized RX3, .code yX3_spilled cX3_spilled 2 (some .int), .fieldLink RX3 10 "GossipGates" "river" "LGossipGates$River;", .fieldLink RX3 71 "GossipGates$River" "over" "[I", .methodLink RX3 34 yX3_requireNumber, .static yX3_requireNumber, .code yX3_requireNumber cX3_requireNumber 1 none, .methodLink RX3 38 yX3_requireWithin, .static yX3_requireWithin, .code yX3_requireWithin cX3_requireWithin 3 none, .classLink RX3 213 "java/lang/IllegalArgumentException", .initialized "java/lang/IllegalArgumentException"] ++ wsX30 ++ wsX20 ++ (vx_atS RX3 217 "java/lang/IllegalArgumentException" ["java/lang/RuntimeException", "java/lang/Exception"]).filter goodWord)
def wsL_setRule : List Cond := .codeWith yL_setRule cL_setRule 7 (some .int) [(0, 11, 14, 13)] :: ([.classLink RL 13 "java/lang/IllegalArgumentException", .methodLink RL 41 yX3_setRule, .instanceMethod yX3_setRule, .selects RX3 yX3_setRule yX3_setRule, .initialized RX3, .code yX3_setRule cX3_setRule 6 none, .fieldLink RX3 19 "GossipGates" "gates" "LGossipGates$Gates;", .fieldLink RX3 74 "GossipGates$Gates" "lows" "[I", .fieldLink RX3 77 "GossipGates$Gates" "highs" "[I", .fieldLink RX3 80 "GossipGates$Gates" "bounds" "[I", .fieldLink RX3 83 "GossipGates$Gates" "ages" "[I", .methodLink RX3 34 yX3_requireNumber, .static yX3_requireNumber, .code yX3_requireNumber cX3_requireNumber 1 none, .methodLink RX3 38 yX3_requireWithin, .static yX3_requireWithin, .code yX3_requireWithin cX3_requireWithin 3 none, .classLink RX3 213 "java/lang/IllegalArgumentException", .initialized "java/lang/IllegalArgumentException"] ++ wsX30 ++ wsX00 ++ (vx_atS RX3 217 "java/lang/IllegalArgumentException" ["java/lang/RuntimeException", "java/lang/Exception"]).filter goodWord)
def wsL_byHand : List Cond := .codeWith yL_byHand cL_byHand 5 (some .int) [(0, 10, 13, 13), (0, 10, 17, 48)] :: ([.classLink RL 13 "java/lang/IllegalArgumentException", .classLink RL 48 "java/lang/IllegalStateException", .methodLink RL 45 yX3_byHand, .instanceMethod yX3_byHand, .selects RX3 yX3_byHand yX3_byHand, .initialized RX3, .code yX3_byHand cX3_byHand 4 (some .int), .classLink RX3 90 "java/lang/IllegalStateException", .initialized "java/lang/IllegalStateException", .fieldLink RX3 19 "GossipGates" "gates" "LGossipGates$Gates;", .fieldLink RX3 86 "GossipGates$Gates" "inHand" "[Z", .fieldLink RX3 97 "GossipGates$Gates" "openings" "[I", .methodLink RX3 34 yX3_requireNumber, .static yX3_requireNumber, .code yX3_requireNumber cX3_requireNumber 1 none, .methodLink RX3 38 yX3_requireWithin, .static yX3_requireWithin, .code yX3_requireWithin cX3_requireWithin 3 none, .classLink RX3 213 "java/lang/IllegalArgumentException", .initialized "java/lang/IllegalArgumentException"] ++ wsX30 ++ wsX00 ++ (vx_atS RX3 94 "java/lang/IllegalStateException" ["java/lang/RuntimeException", "java/lang/Exception"]).filter goodWord ++ (vx_atS RX3 217 "java/lang/IllegalArgumentException" ["java/lang/RuntimeException", "java/lang/Exception"]).filter goodWord)
def wsL_opening : List Cond := .codeWith yL_opening cL_opening 4 (some .int) [(0, 9, 12, 13)] :: ([.classLink RL 13 "java/lang/IllegalArgumentException", .methodLink RL 50 yX3_opening, .instanceMethod yX3_opening, .selects RX3 yX3_opening yX3_opening, .initialized RX3, .code yX3_opening cX3_opening 2 (some .int), .fieldLink RX3 19 "GossipGates" "gates" "LGossipGates$Gates;", .fieldLink RX3 97 "GossipGates$Gates" "openings" "[I", .methodLink RX3 34 yX3_requireNumber, .static yX3_requireNumber, .code yX3_requireNumber cX3_requireNumber 1 none, .methodLink RX3 38 yX3_requireWithin, .static yX3_requireWithin, .code yX3_requireWithin cX3_requireWithin 3 none, .classLink RX3 213 "java/lang/IllegalArgumentException", .initialized "java/lang/IllegalArgumentException"] ++ wsX30 ++ wsX00 ++ (vx_atS RX3 217 "java/lang/IllegalArgumentException" ["java/lang/RuntimeException", "java/lang/Exception"]).filter goodWord)
def wsL_safety : List Cond := .codeWith yL_safety cL_safety 4 (some .int) [(0, 9, 12, 13)] :: ([.classLink RL 13 "java/lang/IllegalArgumentException", .methodLink RL 53 yX3_safety, .instanceMethod yX3_safety, .selects RX3 yX3_safety yX3_safety, .initialized RX3, .code yX3_safety cX3_safety 2 (some .int), .fieldLink RX3 19 "GossipGates" "gates" "LGossipGates$Gates;", .fieldLink RX3 100 "GossipGates$Gates" "safeties" "[I", .methodLink RX3 34 yX3_requireNumber, .static yX3_requireNumber, .code yX3_requireNumber cX3_requireNumber 1 none, .methodLink RX3 38 yX3_requireWithin, .static yX3_requireWithin, .code yX3_requireWithin cX3_requireWithin 3 none, .classLink RX3 213 "java/lang/IllegalArgumentException", .initialized "java/lang/IllegalArgumentException"] ++ wsX30 ++ wsX00 ++ (vx_atS RX3 217 "java/lang/IllegalArgumentException" ["java/lang/RuntimeException", "java/lang/Exception"]).filter goodWord)
def wsL_fall : List Cond := .codeWith yL_fall cL_fall 3 (some .int) [(0, 5, 8, 13), (0, 5, 11, 48)] :: ([.classLink RL 13 "java/lang/IllegalArgumentException", .classLink RL 48 "java/lang/IllegalStateException", .methodLink RL 56 yX3_fall, .instanceMethod yX3_fall, .selects RX3 yX3_fall yX3_fall, .initialized RX3, .code yX3_fall cX3_fall 2 none, .classLink RX3 90 "java/lang/IllegalStateException", .initialized "java/lang/IllegalStateException", .fieldLink RX3 26 "GossipGates" "net" "LGossipGates$Net;", .fieldLink RX3 103 "GossipGates$Net" "isDown" "[Z", .methodLink RX3 34 yX3_requireNumber, .static yX3_requireNumber, .code yX3_requireNumber cX3_requireNumber 1 none, .methodLink RX3 38 yX3_requireWithin, .static yX3_requireWithin, .code yX3_requireWithin cX3_requireWithin 3 none, .classLink RX3 213 "java/lang/IllegalArgumentException", .initialized "java/lang/IllegalArgumentException"] ++ wsX30 ++ wsX10 ++ (vx_atS RX3 94 "java/lang/IllegalStateException" ["java/lang/RuntimeException", "java/lang/Exception"]).filter goodWord ++ (vx_atS RX3 217 "java/lang/IllegalArgumentException" ["java/lang/RuntimeException", "java/lang/Exception"]).filter goodWord)
def wsL_comeUp_r1 : List Cond := [Cond.classLink RL 13 "java/lang/IllegalArgumentException", Cond.classLink RL 48 "java/lang/IllegalStateException", Cond.methodLink RL 60 yX3_comeUp, Cond.instanceMethod yX3_comeUp, Cond.selects RX3 yX3_comeUp yX3_comeUp, Cond.initialized RX3, Cond.code yX3_comeUp cX3_comeUp 2 none, Cond.classLink RX3 90 "java/lang/IllegalStateException", Cond.initialized "java/lang/IllegalStateException", Cond.fieldLink RX3 26 "GossipGates" "net" "LGossipGates$Net;", Cond.fieldLink RX3 103 "GossipGates$Net" "isDown" "[Z", Cond.fieldLink RX3 110 "GossipGates$Net" "growths" "[[I", Cond.fieldLink RX3 30 "GossipGates" "now" "I", Cond.methodLink RX3 34 yX3_requireNumber, Cond.static yX3_requireNumber, Cond.code yX3_requireNumber cX3_requireNumber 1 none, Cond.methodLink RX3 38 yX3_requireWithin, Cond.static yX3_requireWithin, Cond.code yX3_requireWithin cX3_requireWithin 3 none, Cond.classLink RX3 213 "java/lang/IllegalArgumentException", Cond.initialized "java/lang/IllegalArgumentException", Cond.methodLink RX3 114 yJ7_fill_53178, Cond.static yJ7_fill_53178, Cond.initialized RJ7]
def wsL_comeUp_r2 : List Cond := [Cond.code yJ7_fill_53178 cJ7_fill_53178 4 none]
def wsL_comeUp : List Cond := .codeWith yL_comeUp cL_comeUp 3 (some .int) [(0, 5, 8, 13), (0, 5, 11, 48)] :: ((wsL_comeUp_r1 ++ wsL_comeUp_r2) ++ wsX30 ++ wsX10 ++ (vx_atS RX3 94 "java/lang/IllegalStateException" ["java/lang/RuntimeException", "java/lang/Exception"]).filter goodWord ++ (vx_atS RX3 217 "java/lang/IllegalArgumentException" ["java/lang/RuntimeException", "java/lang/Exception"]).filter goodWord)
def wsL_setGroup : List Cond := .codeWith yL_setGroup cL_setGroup 5 (some .int) [(0, 10, 13, 13)] :: ([.classLink RL 13 "java/lang/IllegalArgumentException", .methodLink RL 63 yX3_setGroup, .instanceMethod yX3_setGroup, .selects RX3 yX3_setGroup yX3_setGroup, .initialized RX3, .code yX3_setGroup cX3_setGroup 4 (some .int), .fieldLink RX3 26 "GossipGates" "net" "LGossipGates$Net;", .fieldLink RX3 120 "GossipGates$Net" "groups" "[I", .methodLink RX3 34 yX3_requireNumber, .static yX3_requireNumber, .code yX3_requireNumber cX3_requireNumber 1 none, .methodLink RX3 38 yX3_requireWithin, .static yX3_requireWithin, .code yX3_requireWithin cX3_requireWithin 3 none, .classLink RX3 213 "java/lang/IllegalArgumentException", .initialized "java/lang/IllegalArgumentException"] ++ wsX30 ++ wsX10 ++ (vx_atS RX3 217 "java/lang/IllegalArgumentException" ["java/lang/RuntimeException", "java/lang/Exception"]).filter goodWord)
def wsL_setStuck : List Cond := .codeWith yL_setStuck cL_setStuck 5 (some .int) [(0, 17, 20, 13)] :: ([.classLink RL 13 "java/lang/IllegalArgumentException", .methodLink RL 66 yX3_setStuck, .instanceMethod yX3_setStuck, .selects RX3 yX3_setStuck yX3_setStuck, .initialized RX3, .code yX3_setStuck cX3_setStuck 4 (some .boolean), .fieldLink RX3 26 "GossipGates" "net" "LGossipGates$Net;", .fieldLink RX3 123 "GossipGates$Net" "isStuck" "[Z", .methodLink RX3 34 yX3_requireNumber, .static yX3_requireNumber, .code yX3_requireNumber cX3_requireNumber 1 none, .methodLink RX3 38 yX3_requireWithin, .static yX3_requireWithin, .code yX3_requireWithin cX3_requireWithin 3 none, .classLink RX3 213 "java/lang/IllegalArgumentException", .initialized "java/lang/IllegalArgumentException"] ++ wsX30 ++ wsX10 ++ (vx_atS RX3 217 "java/lang/IllegalArgumentException" ["java/lang/RuntimeException", "java/lang/Exception"]).filter goodWord)
def wsL_setTimes : List Cond := .codeWith yL_setTimes cL_setTimes 4 (some .int) [(0, 6, 9, 13)] :: ([.classLink RL 13 "java/lang/IllegalArgumentException", .methodLink RL 70 yX3_setTimes, .instanceMethod yX3_setTimes, .selects RX3 yX3_setTimes yX3_setTimes, .initialized RX3, .code yX3_setTimes cX3_setTimes 3 none, .fieldLink RX3 26 "GossipGates" "net" "LGossipGates$Net;", .fieldLink RX3 126 "GossipGates$Net" "suspicionTime" "I", .fieldLink RX3 129 "GossipGates$Net" "deathTime" "I", .methodLink RX3 38 yX3_requireWithin, .static yX3_requireWithin, .code yX3_requireWithin cX3_requireWithin 3 none, .classLink RX3 213 "java/lang/IllegalArgumentException", .initialized "java/lang/IllegalArgumentException"] ++ wsX30 ++ wsX10 ++ (vx_atS RX3 217 "java/lang/IllegalArgumentException" ["java/lang/RuntimeException", "java/lang/Exception"]).filter goodWord)
def wsL_believed : List Cond := .codeWith yL_believed cL_believed 5 (some .int) [(0, 10, 13, 13)] :: ([.classLink RL 13 "java/lang/IllegalArgumentException", .methodLink RL 74 yX3_believed, .instanceMethod yX3_believed, .selects RX3 yX3_believed yX3_believed, .initialized RX3, .code yX3_believed cX3_believed 3 (some .int), .fieldLink RX3 26 "GossipGates" "net" "LGossipGates$Net;", .fieldLink RX3 136 "GossipGates$Net" "levels" "[[I", .methodLink RX3 34 yX3_requireNumber, .static yX3_requireNumber, .code yX3_requireNumber cX3_requireNumber 1 none, .methodLink RX3 38 yX3_requireWithin, .static yX3_requireWithin, .code yX3_requireWithin cX3_requireWithin 3 none, .classLink RX3 213 "java/lang/IllegalArgumentException", .initialized "java/lang/IllegalArgumentException", .methodLink RX3 132 yX1_hasNews, .instanceMethod yX1_hasNews, .selects RX1 yX1_hasNews yX1_hasNews, .initialized RX1, .code yX1_hasNews cX1_hasNews 3 (some .boolean), .fieldLink RX1 24 "GossipGates$Net" "versions" "[[I"] ++ wsX30 ++ wsX10 ++ (vx_atS RX3 217 "java/lang/IllegalArgumentException" ["java/lang/RuntimeException", "java/lang/Exception"]).filter goodWord)
def wsL_version : List Cond := .codeWith yL_version cL_version 5 (some .int) [(0, 10, 13, 13)] :: ([.classLink RL 13 "java/lang/IllegalArgumentException", .methodLink RL 77 yX3_version, .instanceMethod yX3_version, .selects RX3 yX3_version yX3_version, .initialized RX3, .code yX3_version cX3_version 3 (some .int), .fieldLink RX3 26 "GossipGates" "net" "LGossipGates$Net;", .fieldLink RX3 139 "GossipGates$Net" "versions" "[[I", .methodLink RX3 34 yX3_requireNumber, .static yX3_requireNumber, .code yX3_requireNumber cX3_requireNumber 1 none, .methodLink RX3 38 yX3_requireWithin, .static yX3_requireWithin, .code yX3_requireWithin cX3_requireWithin 3 none, .classLink RX3 213 "java/lang/IllegalArgumentException", .initialized "java/lang/IllegalArgumentException"] ++ wsX30 ++ wsX10 ++ (vx_atS RX3 217 "java/lang/IllegalArgumentException" ["java/lang/RuntimeException", "java/lang/Exception"]).filter goodWord)
def wsL_age : List Cond := .codeWith yL_age cL_age 5 (some .int) [(0, 10, 13, 13)] :: ([.classLink RL 13 "java/lang/IllegalArgumentException", .methodLink RL 80 yX3_age, .instanceMethod yX3_age, .selects RX3 yX3_age yX3_age, .initialized RX3, .code yX3_age cX3_age 3 (some .int), .fieldLink RX3 26 "GossipGates" "net" "LGossipGates$Net;", .fieldLink RX3 30 "GossipGates" "now" "I", .fieldLink RX3 142 "GossipGates$Net" "measured" "[[I", .methodLink RX3 34 yX3_requireNumber, .static yX3_requireNumber, .code yX3_requireNumber cX3_requireNumber 1 none, .methodLink RX3 38 yX3_requireWithin, .static yX3_requireWithin, .code yX3_requireWithin cX3_requireWithin 3 none, .classLink RX3 213 "java/lang/IllegalArgumentException", .initialized "java/lang/IllegalArgumentException", .methodLink RX3 132 yX1_hasNews, .instanceMethod yX1_hasNews, .selects RX1 yX1_hasNews yX1_hasNews, .initialized RX1, .code yX1_hasNews cX1_hasNews 3 (some .boolean), .fieldLink RX1 24 "GossipGates$Net" "versions" "[[I"] ++ wsX30 ++ wsX10 ++ (vx_atS RX3 217 "java/lang/IllegalArgumentException" ["java/lang/RuntimeException", "java/lang/Exception"]).filter goodWord)
def wsL_beat : List Cond := .codeWith yL_beat cL_beat 5 (some .int) [(0, 10, 13, 13)] :: ([.classLink RL 13 "java/lang/IllegalArgumentException", .methodLink RL 83 yX3_beat, .instanceMethod yX3_beat, .selects RX3 yX3_beat yX3_beat, .initialized RX3, .code yX3_beat cX3_beat 3 (some .int), .fieldLink RX3 26 "GossipGates" "net" "LGossipGates$Net;", .fieldLink RX3 145 "GossipGates$Net" "beats" "[[I", .methodLink RX3 34 yX3_requireNumber, .static yX3_requireNumber, .code yX3_requireNumber cX3_requireNumber 1 none, .methodLink RX3 38 yX3_requireWithin, .static yX3_requireWithin, .code yX3_requireWithin cX3_requireWithin 3 none, .classLink RX3 213 "java/lang/IllegalArgumentException", .initialized "java/lang/IllegalArgumentException"] ++ wsX30 ++ wsX10 ++ (vx_atS RX3 217 "java/lang/IllegalArgumentException" ["java/lang/RuntimeException", "java/lang/Exception"]).filter goodWord)
def wsL_status : List Cond := .codeWith yL_status cL_status 5 (some .int) [(0, 10, 13, 13)] :: ([.classLink RL 13 "java/lang/IllegalArgumentException", .methodLink RL 86 yX3_status, .instanceMethod yX3_status, .selects RX3 yX3_status yX3_status, .initialized RX3, .code yX3_status cX3_status 3 (some .int), .fieldLink RX3 26 "GossipGates" "net" "LGossipGates$Net;", .fieldLink RX3 148 "GossipGates$Net" "statuses" "[[I", .methodLink RX3 34 yX3_requireNumber, .static yX3_requireNumber, .code yX3_requireNumber cX3_requireNumber 1 none, .methodLink RX3 38 yX3_requireWithin, .static yX3_requireWithin, .code yX3_requireWithin cX3_requireWithin 3 none, .classLink RX3 213 "java/lang/IllegalArgumentException", .initialized "java/lang/IllegalArgumentException"] ++ wsX30 ++ wsX10 ++ (vx_atS RX3 217 "java/lang/IllegalArgumentException" ["java/lang/RuntimeException", "java/lang/Exception"]).filter goodWord)
def wsL_partner_r1 : List Cond := [Cond.classLink RL 13 "java/lang/IllegalArgumentException", Cond.methodLink RL 89 yX3_partner, Cond.instanceMethod yX3_partner, Cond.selects RX3 yX3_partner yX3_partner, Cond.initialized RX3, Cond.code yX3_partner cX3_partner 2 (some .int), Cond.fieldLink RX3 26 "GossipGates" "net" "LGossipGates$Net;", Cond.fieldLink RX3 103 "GossipGates$Net" "isDown" "[Z", Cond.fieldLink RX3 30 "GossipGates" "now" "I", Cond.methodLink RX3 34 yX3_requireNumber, Cond.static yX3_requireNumber, Cond.code yX3_requireNumber cX3_requireNumber 1 none, Cond.methodLink RX3 38 yX3_requireWithin, Cond.static yX3_requireWithin, Cond.code yX3_requireWithin cX3_requireWithin 3 none, Cond.classLink RX3 213 "java/lang/IllegalArgumentException", Cond.initialized "java/lang/IllegalArgumentException", Cond.methodLink RX3 151 yX1_calledBy, Cond.instanceMethod yX1_calledBy, Cond.selects RX1 yX1_calledBy yX1_calledBy, Cond.initialized RX1, Cond.code yX1_calledBy cX1_calledBy 7 (some .int), Cond.methodLink RX1 77 yX1_isCallable, Cond.instanceMethod yX1_isCallable]
def wsL_partner_r2 : List Cond := [Cond.selects RX1 yX1_isCallable yX1_isCallable, Cond.code yX1_isCallable cX1_isCallable 4 (some .boolean), Cond.fieldLink RX1 39 "GossipGates$Net" "statuses" "[[I"]
def wsL_partner : List Cond := .codeWith yL_partner cL_partner 4 (some .int) [(0, 9, 12, 13)] :: ((wsL_partner_r1 ++ wsL_partner_r2) ++ wsX30 ++ wsX10 ++ (vx_atS RX3 217 "java/lang/IllegalArgumentException" ["java/lang/RuntimeException", "java/lang/Exception"]).filter goodWord)
def wsL_freshest : List Cond := .codeWith yL_freshest cL_freshest 4 (some .int) [(0, 9, 12, 13)] :: ([.classLink RL 13 "java/lang/IllegalArgumentException", .methodLink RL 92 yX3_freshest, .instanceMethod yX3_freshest, .selects RX3 yX3_freshest yX3_freshest, .initialized RX3, .code yX3_freshest cX3_freshest 2 (some .int), .fieldLink RX3 26 "GossipGates" "net" "LGossipGates$Net;", .methodLink RX3 34 yX3_requireNumber, .static yX3_requireNumber, .code yX3_requireNumber cX3_requireNumber 1 none, .methodLink RX3 38 yX3_requireWithin, .static yX3_requireWithin, .code yX3_requireWithin cX3_requireWithin 3 none, .classLink RX3 213 "java/lang/IllegalArgumentException", .initialized "java/lang/IllegalArgumentException", .methodLink RX3 155 yX1_freshestOf, .instanceMethod yX1_freshestOf, .selects RX1 yX1_freshestOf yX1_freshestOf, .initialized RX1, .code yX1_freshestOf cX1_freshestOf 5 (some .int), .fieldLink RX1 24 "GossipGates$Net" "versions" "[[I"] ++ wsX30 ++ wsX10 ++ (vx_atS RX3 217 "java/lang/IllegalArgumentException" ["java/lang/RuntimeException", "java/lang/Exception"]).filter goodWord)
def wsL_agree_r1 : List Cond := [Cond.classLink RL 13 "java/lang/IllegalArgumentException", Cond.methodLink RL 95 yX3_agree, Cond.instanceMethod yX3_agree, Cond.selects RX3 yX3_agree yX3_agree, Cond.initialized RX3, Cond.code yX3_agree cX3_agree 2 (some .int), Cond.fieldLink RX3 26 "GossipGates" "net" "LGossipGates$Net;", Cond.fieldLink RX3 10 "GossipGates" "river" "LGossipGates$River;", Cond.methodLink RX3 34 yX3_requireNumber, Cond.static yX3_requireNumber, Cond.code yX3_requireNumber cX3_requireNumber 1 none, Cond.methodLink RX3 38 yX3_requireWithin, Cond.static yX3_requireWithin, Cond.code yX3_requireWithin cX3_requireWithin 3 none, Cond.classLink RX3 213 "java/lang/IllegalArgumentException", Cond.initialized "java/lang/IllegalArgumentException", Cond.methodLink RX3 65 yX2_levelOf, Cond.instanceMethod yX2_levelOf, Cond.selects RX2 yX2_levelOf yX2_levelOf, Cond.initialized RX2, Cond.code yX2_levelOf cX2_levelOf 3 (some .int), Cond.fieldLink RX2 9 "GossipGates$River" "areas" "[I", Cond.fieldLink RX2 18 "GossipGates$River" "volumes" "[I", Cond.methodLink RX3 158 yX1_believersOf]
def wsL_agree_r2 : List Cond := [Cond.instanceMethod yX1_believersOf, Cond.selects RX1 yX1_believersOf yX1_believersOf, Cond.initialized RX1, Cond.code yX1_believersOf cX1_believersOf 6 (some .int), Cond.fieldLink RX1 9 "GossipGates$Net" "isDown" "[Z", Cond.fieldLink RX1 27 "GossipGates$Net" "levels" "[[I", Cond.methodLink RX1 52 yX1_hasNews, Cond.instanceMethod yX1_hasNews, Cond.selects RX1 yX1_hasNews yX1_hasNews, Cond.code yX1_hasNews cX1_hasNews 3 (some .boolean), Cond.fieldLink RX1 24 "GossipGates$Net" "versions" "[[I"]
def wsL_agree : List Cond := .codeWith yL_agree cL_agree 4 (some .int) [(0, 9, 12, 13)] :: ((wsL_agree_r1 ++ wsL_agree_r2) ++ wsX30 ++ wsX20 ++ wsX10 ++ (vx_atS RX3 217 "java/lang/IllegalArgumentException" ["java/lang/RuntimeException", "java/lang/Exception"]).filter goodWord)
def wsL_tick_r1 : List Cond := [Cond.classLink RL 13 "java/lang/IllegalArgumentException", Cond.classLink RL 48 "java/lang/IllegalStateException", Cond.methodLink RL 98 yX3_tick, Cond.instanceMethod yX3_tick, Cond.selects RX3 yX3_tick yX3_tick, Cond.initialized RX3, Cond.code yX3_tick cX3_tick 4 (some .int), Cond.classLink RX3 90 "java/lang/IllegalStateException", Cond.initialized "java/lang/IllegalStateException", Cond.fieldLink RX3 30 "GossipGates" "now" "I", Cond.methodLink RX3 38 yX3_requireWithin, Cond.static yX3_requireWithin, Cond.code yX3_requireWithin cX3_requireWithin 3 none, Cond.classLink RX3 213 "java/lang/IllegalArgumentException", Cond.initialized "java/lang/IllegalArgumentException", Cond.methodLink RX3 173 yX3_passOneTick, Cond.instanceMethod yX3_passOneTick, Cond.selects RX3 yX3_passOneTick yX3_passOneTick, Cond.code yX3_passOneTick cX3_passOneTick 2 (some .int), Cond.fieldLink RX3 10 "GossipGates" "river" "LGossipGates$River;", Cond.fieldLink RX3 19 "GossipGates" "gates" "LGossipGates$Gates;", Cond.fieldLink RX3 26 "GossipGates" "net" "LGossipGates$Net;", Cond.methodLink RX3 176 yX2_takeIn, Cond.instanceMethod yX2_takeIn]
def wsL_tick_r2 : List Cond := [Cond.selects RX2 yX2_takeIn yX2_takeIn, Cond.initialized RX2, Cond.code yX2_takeIn cX2_takeIn 2 none, Cond.fieldLink RX2 33 "GossipGates$River" "source" "I", Cond.fieldLink RX2 21 "GossipGates$River" "clouds" "[I", Cond.methodLink RX2 43 yX2_receive, Cond.instanceMethod yX2_receive, Cond.selects RX2 yX2_receive yX2_receive, Cond.code yX2_receive cX2_receive 3 none, Cond.fieldLink RX2 18 "GossipGates$River" "volumes" "[I", Cond.fieldLink RX2 24 "GossipGates$River" "fallen" "[I", Cond.methodLink RX3 179 yX2_letThrough, Cond.instanceMethod yX2_letThrough, Cond.selects RX2 yX2_letThrough yX2_letThrough, Cond.code yX2_letThrough cX2_letThrough 4 none, Cond.methodLink RX2 53 Lib.Math.min.name, Cond.static Lib.Math.min.name, Cond.initialized "java/lang/Math", Cond.code Lib.Math.min.name Lib.Math.min.code 2 (some .int), Cond.fieldLink RX2 27 "GossipGates$River" "through" "[I", Cond.methodLink RX2 47 yX0_mostThrough, Cond.instanceMethod yX0_mostThrough, Cond.selects RX0 yX0_mostThrough yX0_mostThrough, Cond.initialized RX0]
def wsL_tick_r3 : List Cond := [Cond.code yX0_mostThrough cX0_mostThrough 2 (some .int), Cond.fieldLink RX0 15 "GossipGates$Gates" "openings" "[I", Cond.fieldLink RX0 9 "GossipGates$Gates" "gauges" "[I", Cond.methodLink RX2 59 yX2_moveOn, Cond.instanceMethod yX2_moveOn, Cond.selects RX2 yX2_moveOn yX2_moveOn, Cond.code yX2_moveOn cX2_moveOn 4 none, Cond.methodLink RX3 183 yX2_spillOver, Cond.instanceMethod yX2_spillOver, Cond.selects RX2 yX2_spillOver yX2_spillOver, Cond.code yX2_spillOver cX2_spillOver 4 (some .int), Cond.fieldLink RX2 9 "GossipGates$River" "areas" "[I", Cond.fieldLink RX2 15 "GossipGates$River" "depths" "[I", Cond.methodLink RX2 62 Lib.Math.max.name, Cond.static Lib.Math.max.name, Cond.code Lib.Math.max.name Lib.Math.max.code 2 (some .int), Cond.fieldLink RX2 30 "GossipGates$River" "over" "[I", Cond.methodLink RX3 186 yX1_measureAll, Cond.instanceMethod yX1_measureAll, Cond.selects RX1 yX1_measureAll yX1_measureAll, Cond.initialized RX1, Cond.code yX1_measureAll cX1_measureAll 4 none, Cond.fieldLink RX1 9 "GossipGates$Net" "isDown" "[Z", Cond.methodLink RX1 56 yX2_levelOf]
def wsL_tick_r4 : List Cond := [Cond.instanceMethod yX2_levelOf, Cond.selects RX2 yX2_levelOf yX2_levelOf, Cond.code yX2_levelOf cX2_levelOf 3 (some .int), Cond.methodLink RX1 62 yX1_measure, Cond.instanceMethod yX1_measure, Cond.selects RX1 yX1_measure yX1_measure, Cond.code yX1_measure cX1_measure 4 none, Cond.fieldLink RX1 15 "GossipGates$Net" "isStuck" "[Z", Cond.fieldLink RX1 27 "GossipGates$Net" "levels" "[[I", Cond.fieldLink RX1 30 "GossipGates$Net" "measured" "[[I", Cond.fieldLink RX1 24 "GossipGates$Net" "versions" "[[I", Cond.fieldLink RX1 33 "GossipGates$Net" "beats" "[[I", Cond.fieldLink RX1 36 "GossipGates$Net" "growths" "[[I", Cond.methodLink RX3 190 yX1_callAll, Cond.instanceMethod yX1_callAll, Cond.selects RX1 yX1_callAll yX1_callAll, Cond.code yX1_callAll cX1_callAll 3 none, Cond.methodLink RX1 66 yX1_call, Cond.instanceMethod yX1_call, Cond.selects RX1 yX1_call yX1_call, Cond.code yX1_call cX1_call 4 none, Cond.fieldLink RX1 18 "GossipGates$Net" "groups" "[I", Cond.fieldLink RX1 49 "GossipGates$Net" "vainCalls" "I", Cond.methodLink RX1 70 yX1_calledBy]
def wsL_tick_r5 : List Cond := [Cond.instanceMethod yX1_calledBy, Cond.selects RX1 yX1_calledBy yX1_calledBy, Cond.code yX1_calledBy cX1_calledBy 7 (some .int), Cond.methodLink RX1 77 yX1_isCallable, Cond.instanceMethod yX1_isCallable, Cond.selects RX1 yX1_isCallable yX1_isCallable, Cond.code yX1_isCallable cX1_isCallable 4 (some .boolean), Cond.fieldLink RX1 39 "GossipGates$Net" "statuses" "[[I", Cond.methodLink RX1 74 yX1_tellOneAnother, Cond.instanceMethod yX1_tellOneAnother, Cond.selects RX1 yX1_tellOneAnother yX1_tellOneAnother, Cond.code yX1_tellOneAnother cX1_tellOneAnother 5 none, Cond.methodLink RX1 81 yX1_takeNews, Cond.instanceMethod yX1_takeNews, Cond.selects RX1 yX1_takeNews yX1_takeNews, Cond.code yX1_takeNews cX1_takeNews 4 none, Cond.methodLink RX1 84 yX1_takeBeat, Cond.instanceMethod yX1_takeBeat, Cond.selects RX1 yX1_takeBeat yX1_takeBeat, Cond.code yX1_takeBeat cX1_takeBeat 5 none, Cond.methodLink RX3 193 yX1_lookAll, Cond.instanceMethod yX1_lookAll, Cond.selects RX1 yX1_lookAll yX1_lookAll, Cond.code yX1_lookAll cX1_lookAll 3 none]
def wsL_tick_r6 : List Cond := [Cond.methodLink RX1 88 yX1_lookAtOthers, Cond.instanceMethod yX1_lookAtOthers, Cond.selects RX1 yX1_lookAtOthers yX1_lookAtOthers, Cond.code yX1_lookAtOthers cX1_lookAtOthers 4 none, Cond.methodLink RX1 91 yX1_statusAfter, Cond.instanceMethod yX1_statusAfter, Cond.selects RX1 yX1_statusAfter yX1_statusAfter, Cond.code yX1_statusAfter cX1_statusAfter 2 (some .int), Cond.fieldLink RX1 46 "GossipGates$Net" "deathTime" "I", Cond.fieldLink RX1 42 "GossipGates$Net" "suspicionTime" "I", Cond.methodLink RX3 196 yX3_ruleGates, Cond.instanceMethod yX3_ruleGates, Cond.selects RX3 yX3_ruleGates yX3_ruleGates, Cond.code yX3_ruleGates cX3_ruleGates 2 none, Cond.fieldLink RX3 103 "GossipGates$Net" "isDown" "[Z", Cond.fieldLink RX3 86 "GossipGates$Gates" "inHand" "[Z", Cond.methodLink RX3 199 yX3_ruleGate, Cond.instanceMethod yX3_ruleGate, Cond.selects RX3 yX3_ruleGate yX3_ruleGate, Cond.code yX3_ruleGate cX3_ruleGate 5 none, Cond.fieldLink RX3 83 "GossipGates$Gates" "ages" "[I", Cond.fieldLink RX3 136 "GossipGates$Net" "levels" "[[I", Cond.fieldLink RX3 80 "GossipGates$Gates" "bounds" "[I", Cond.methodLink RX3 202 yX1_isOld]
def wsL_tick_r7 : List Cond := [Cond.instanceMethod yX1_isOld, Cond.selects RX1 yX1_isOld yX1_isOld, Cond.code yX1_isOld cX1_isOld 5 (some .boolean), Cond.methodLink RX1 52 yX1_hasNews, Cond.instanceMethod yX1_hasNews, Cond.selects RX1 yX1_hasNews yX1_hasNews, Cond.code yX1_hasNews cX1_hasNews 3 (some .boolean), Cond.methodLink RX3 206 yX0_openForSafety, Cond.instanceMethod yX0_openForSafety, Cond.selects RX0 yX0_openForSafety yX0_openForSafety, Cond.code yX0_openForSafety cX0_openForSafety 2 none, Cond.methodLink RX0 43 Lib.Math.min.name, Cond.fieldLink RX0 30 "GossipGates$Gates" "safeties" "[I", Cond.methodLink RX3 209 yX0_follow, Cond.instanceMethod yX0_follow, Cond.selects RX0 yX0_follow yX0_follow, Cond.code yX0_follow cX0_follow 4 none, Cond.fieldLink RX0 21 "GossipGates$Gates" "highs" "[I", Cond.fieldLink RX0 18 "GossipGates$Gates" "lows" "[I", Cond.methodLink RX0 49 Lib.Math.max.name]
def wsL_tick : List Cond := .codeWith yL_tick cL_tick 4 (some .int) [(0, 9, 12, 13), (0, 9, 15, 48)] :: ((wsL_tick_r1 ++ (wsL_tick_r2 ++ (wsL_tick_r3 ++ (wsL_tick_r4 ++ (wsL_tick_r5 ++ (wsL_tick_r6 ++ wsL_tick_r7)))))) ++ wsX30 ++ wsX20 ++ wsX00 ++ wsX10 ++ (vx_atS RX3 94 "java/lang/IllegalStateException" ["java/lang/RuntimeException", "java/lang/Exception"]).filter goodWord ++ (vx_atS RX3 217 "java/lang/IllegalArgumentException" ["java/lang/RuntimeException", "java/lang/Exception"]).filter goodWord)
def wsL_law0_r1 : List Cond := [Cond.classLink RL 8 RX3, Cond.instantiable RX3 4, Cond.initialized RX3, Cond.classLink RL 102 RX4, Cond.instantiable RX4 30, Cond.initialized RX4, Cond.arrayClass .long, Cond.methodLink RL 101 yX3_init, Cond.instanceMethod yX3_init, Cond.code yX3_init cX3_init 1 none, Cond.methodLink RX3 1 objectInit, Cond.instanceMethod objectInit, Cond.code objectInit ⟨#[0xb1]⟩ 1 none, Cond.classLink RX3 7 RX2, Cond.instantiable RX2 8, Cond.initialized RX2, Cond.fieldLink RX3 10 "GossipGates" "river" "LGossipGates$River;", Cond.classLink RX3 16 RX0, Cond.instantiable RX0 8, Cond.initialized RX0, Cond.fieldLink RX3 19 "GossipGates" "gates" "LGossipGates$Gates;", Cond.classLink RX3 23 RX1, Cond.instantiable RX1 12, Cond.initialized RX1]
def wsL_law0_r2 : List Cond := [Cond.fieldLink RX3 26 "GossipGates" "net" "LGossipGates$Net;", Cond.fieldLink RX3 30 "GossipGates" "now" "I", Cond.methodLink RX3 9 yX2_init, Cond.instanceMethod yX2_init, Cond.code yX2_init cX2_init 1 none, Cond.methodLink RX2 3 objectInit, Cond.arrayClass .int, Cond.fieldLink RX2 9 "GossipGates$River" "areas" "[I", Cond.fieldLink RX2 15 "GossipGates$River" "depths" "[I", Cond.fieldLink RX2 18 "GossipGates$River" "volumes" "[I", Cond.fieldLink RX2 21 "GossipGates$River" "clouds" "[I", Cond.fieldLink RX2 24 "GossipGates$River" "fallen" "[I", Cond.fieldLink RX2 27 "GossipGates$River" "through" "[I", Cond.fieldLink RX2 30 "GossipGates$River" "over" "[I", Cond.fieldLink RX2 33 "GossipGates$River" "source" "I", Cond.methodLink RX2 37 yJ7_fill_53178, Cond.static yJ7_fill_53178, Cond.initialized RJ7, Cond.code yJ7_fill_53178 cJ7_fill_53178 4 none, Cond.methodLink RX3 18 yX0_init, Cond.instanceMethod yX0_init, Cond.code yX0_init cX0_init 1 none, Cond.methodLink RX0 3 objectInit, Cond.fieldLink RX0 9 "GossipGates$Gates" "gauges" "[I"]
def wsL_law0_r3 : List Cond := [Cond.fieldLink RX0 15 "GossipGates$Gates" "openings" "[I", Cond.fieldLink RX0 18 "GossipGates$Gates" "lows" "[I", Cond.fieldLink RX0 21 "GossipGates$Gates" "highs" "[I", Cond.fieldLink RX0 24 "GossipGates$Gates" "bounds" "[I", Cond.fieldLink RX0 27 "GossipGates$Gates" "ages" "[I", Cond.fieldLink RX0 30 "GossipGates$Gates" "safeties" "[I", Cond.arrayClass .boolean, Cond.fieldLink RX0 33 "GossipGates$Gates" "inHand" "[Z", Cond.methodLink RX0 37 yJ7_fill_53178, Cond.instanceMethod yX1_init, Cond.code yX1_init cX1_init 1 none, Cond.methodLink RX1 3 objectInit, Cond.fieldLink RX1 9 "GossipGates$Net" "isDown" "[Z", Cond.fieldLink RX1 15 "GossipGates$Net" "isStuck" "[Z", Cond.fieldLink RX1 18 "GossipGates$Net" "groups" "[I", Cond.classLink RX1 22 "[[I", Cond.fieldLink RX1 24 "GossipGates$Net" "versions" "[[I", Cond.fieldLink RX1 27 "GossipGates$Net" "levels" "[[I", Cond.fieldLink RX1 30 "GossipGates$Net" "measured" "[[I", Cond.fieldLink RX1 33 "GossipGates$Net" "beats" "[[I", Cond.fieldLink RX1 36 "GossipGates$Net" "growths" "[[I", Cond.fieldLink RX1 39 "GossipGates$Net" "statuses" "[[I", Cond.fieldLink RX1 42 "GossipGates$Net" "suspicionTime" "I", Cond.fieldLink RX1 46 "GossipGates$Net" "deathTime" "I"]
def wsL_law0_r4 : List Cond := [Cond.fieldLink RX1 49 "GossipGates$Net" "vainCalls" "I", Cond.methodLink RL 104 yX4_init, Cond.instanceMethod yX4_init, Cond.code yX4_init cX4_init 2 none, Cond.methodLink RX4 1 objectInit, Cond.fieldLink RX4 7 "GossipGatesModel" "areas" "[I", Cond.fieldLink RX4 13 "GossipGatesModel" "depths" "[I", Cond.fieldLink RX4 16 "GossipGatesModel" "volumes" "[I", Cond.fieldLink RX4 19 "GossipGatesModel" "openings" "[I", Cond.fieldLink RX4 22 "GossipGatesModel" "gauges" "[I", Cond.fieldLink RX4 25 "GossipGatesModel" "rains" "[I", Cond.fieldLink RX4 28 "GossipGatesModel" "flows" "[I", Cond.fieldLink RX4 31 "GossipGatesModel" "flowed" "[I", Cond.fieldLink RX4 34 "GossipGatesModel" "spilled" "[I", Cond.fieldLink RX4 37 "GossipGatesModel" "lows" "[I", Cond.fieldLink RX4 40 "GossipGatesModel" "highs" "[I", Cond.fieldLink RX4 43 "GossipGatesModel" "bounds" "[I", Cond.fieldLink RX4 46 "GossipGatesModel" "ages" "[I", Cond.fieldLink RX4 49 "GossipGatesModel" "isHeld" "[Z", Cond.fieldLink RX4 53 "GossipGatesModel" "safeties" "[I", Cond.fieldLink RX4 56 "GossipGatesModel" "isDown" "[Z", Cond.fieldLink RX4 59 "GossipGatesModel" "groups" "[I", Cond.fieldLink RX4 62 "GossipGatesModel" "isStuck" "[Z", Cond.fieldLink RX4 65 "GossipGatesModel" "versions" "[I"]
def wsL_law0_r5 : List Cond := [Cond.fieldLink RX4 68 "GossipGatesModel" "levels" "[I", Cond.fieldLink RX4 71 "GossipGatesModel" "measured" "[I", Cond.fieldLink RX4 74 "GossipGatesModel" "beats" "[I", Cond.fieldLink RX4 77 "GossipGatesModel" "grown" "[I", Cond.fieldLink RX4 80 "GossipGatesModel" "statuses" "[I", Cond.fieldLink RX4 83 "GossipGatesModel" "suspicion" "I", Cond.fieldLink RX4 87 "GossipGatesModel" "death" "I", Cond.methodLink RL 105 yL_shape, Cond.static yL_shape, Cond.initialized RL, Cond.codeWith yL_shape cL_shape 5 (some .int) [(0, 7, 10, 13)], Cond.classLink RL 13 "java/lang/IllegalArgumentException", Cond.methodLink RL 7 yX3_shape, Cond.instanceMethod yX3_shape, Cond.selects RX3 yX3_shape yX3_shape, Cond.code yX3_shape cX3_shape 4 none, Cond.fieldLink RX3 42 "GossipGates$River" "areas" "[I", Cond.fieldLink RX3 46 "GossipGates$River" "depths" "[I", Cond.methodLink RX3 34 yX3_requireNumber, Cond.static yX3_requireNumber, Cond.code yX3_requireNumber cX3_requireNumber 1 none, Cond.methodLink RX3 38 yX3_requireWithin, Cond.static yX3_requireWithin, Cond.code yX3_requireWithin cX3_requireWithin 3 none]
def wsL_law0_r6 : List Cond := [Cond.classLink RX3 213 "java/lang/IllegalArgumentException", Cond.initialized "java/lang/IllegalArgumentException", Cond.methodLink RL 110 yX4_shape, Cond.instanceMethod yX4_shape, Cond.selects RX4 yX4_shape yX4_shape, Cond.code yX4_shape cX4_shape 4 none, Cond.methodLink RX4 97 yX4_isOne, Cond.static yX4_isOne, Cond.code yX4_isOne cX4_isOne 1 (some .boolean), Cond.methodLink RX4 93 yX4_isIn, Cond.static yX4_isIn, Cond.code yX4_isIn cX4_isIn 3 (some .boolean), Cond.methodLink RX4 101 yX4_goes, Cond.instanceMethod yX4_goes, Cond.selects RX4 yX4_goes yX4_goes, Cond.code yX4_goes cX4_goes 2 (some .boolean), Cond.fieldLink RX4 90 "GossipGatesModel" "thrown" "I", Cond.methodLink RL 111 yX4_thrown, Cond.instanceMethod yX4_thrown, Cond.selects RX4 yX4_thrown yX4_thrown, Cond.code yX4_thrown cX4_thrown 1 (some .int), Cond.methodLink RL 115 yL_setGauge, Cond.static yL_setGauge, Cond.codeWith yL_setGauge cL_setGauge 5 (some .int) [(0, 10, 13, 13)]]
def wsL_law0_r7 : List Cond := [Cond.methodLink RL 15 yX3_setGauge, Cond.instanceMethod yX3_setGauge, Cond.selects RX3 yX3_setGauge yX3_setGauge, Cond.code yX3_setGauge cX3_setGauge 4 (some .int), Cond.fieldLink RX3 49 "GossipGates$Gates" "gauges" "[I", Cond.methodLink RL 118 yX4_setGauge, Cond.instanceMethod yX4_setGauge, Cond.selects RX4 yX4_setGauge yX4_setGauge, Cond.code yX4_setGauge cX4_setGauge 4 (some .int), Cond.methodLink RL 119 yL_setSource, Cond.static yL_setSource, Cond.codeWith yL_setSource cL_setSource 4 (some .int) [(0, 9, 12, 13)], Cond.methodLink RL 19 yX3_setSource, Cond.instanceMethod yX3_setSource, Cond.selects RX3 yX3_setSource yX3_setSource, Cond.code yX3_setSource cX3_setSource 3 (some .int), Cond.fieldLink RX3 52 "GossipGates$River" "source" "I", Cond.methodLink RL 122 yX4_setSource, Cond.instanceMethod yX4_setSource, Cond.selects RX4 yX4_setSource yX4_setSource, Cond.code yX4_setSource cX4_setSource 3 (some .int), Cond.fieldLink RX4 104 "GossipGatesModel" "source" "I", Cond.methodLink RL 123 yL_rain, Cond.static yL_rain]
def wsL_law0_r8 : List Cond := [Cond.codeWith yL_rain cL_rain 5 (some .int) [(0, 10, 13, 13)], Cond.methodLink RL 23 yX3_rain, Cond.instanceMethod yX3_rain, Cond.selects RX3 yX3_rain yX3_rain, Cond.code yX3_rain cX3_rain 3 (some .int), Cond.fieldLink RX3 55 "GossipGates$River" "clouds" "[I", Cond.methodLink RL 125 yX4_rain, Cond.instanceMethod yX4_rain, Cond.selects RX4 yX4_rain yX4_rain, Cond.code yX4_rain cX4_rain 3 (some .int), Cond.methodLink RL 126 yL_volume, Cond.static yL_volume, Cond.codeWith yL_volume cL_volume 4 (some .int) [(0, 9, 12, 13)], Cond.methodLink RL 26 yX3_volume, Cond.instanceMethod yX3_volume, Cond.selects RX3 yX3_volume yX3_volume, Cond.code yX3_volume cX3_volume 2 (some .int), Cond.fieldLink RX3 58 "GossipGates$River" "volumes" "[I", Cond.methodLink RL 128 yX4_volume, Cond.instanceMethod yX4_volume, Cond.selects RX4 yX4_volume yX4_volume, Cond.code yX4_volume cX4_volume 2 (some .int), Cond.methodLink RX4 107 yX4_asks, Cond.instanceMethod yX4_asks]
def wsL_law0_r9 : List Cond := [Cond.selects RX4 yX4_asks yX4_asks, Cond.code yX4_asks cX4_asks 2 (some .boolean), Cond.methodLink RL 129 yL_volumeByBalance, Cond.static yL_volumeByBalance, Cond.codeWith yL_volumeByBalance cL_volumeByBalance 4 (some .int) [(0, 9, 12, 13)], Cond.methodLink RL 29 yX3_volumeByBalance, Cond.instanceMethod yX3_volumeByBalance, Cond.selects RX3 yX3_volumeByBalance yX3_volumeByBalance, Cond.code yX3_volumeByBalance cX3_volumeByBalance 2 (some .int), Cond.methodLink RX3 61 yX2_balanceOf, Cond.instanceMethod yX2_balanceOf, Cond.selects RX2 yX2_balanceOf yX2_balanceOf, Cond.code yX2_balanceOf cX2_balanceOf 3 (some .int), Cond.methodLink RL 131 yX4_volumeByBalance, Cond.instanceMethod yX4_volumeByBalance, Cond.selects RX4 yX4_volumeByBalance yX4_volumeByBalance, Cond.code yX4_volumeByBalance cX4_volumeByBalance 2 (some .int), Cond.methodLink RL 132 yL_level, Cond.static yL_level, Cond.codeWith yL_level cL_level 4 (some .int) [(0, 9, 12, 13)], Cond.methodLink RL 32 yX3_level, Cond.instanceMethod yX3_level, Cond.selects RX3 yX3_level yX3_level, Cond.code yX3_level cX3_level 2 (some .int)]
def wsL_law0_r10 : List Cond := [Cond.methodLink RX3 65 yX2_levelOf, Cond.instanceMethod yX2_levelOf, Cond.selects RX2 yX2_levelOf yX2_levelOf, Cond.code yX2_levelOf cX2_levelOf 3 (some .int), Cond.methodLink RL 134 yX4_level, Cond.instanceMethod yX4_level, Cond.selects RX4 yX4_level yX4_level, Cond.code yX4_level cX4_level 2 (some .int), Cond.methodLink RX4 110 yX4_levelOf, Cond.instanceMethod yX4_levelOf, Cond.selects RX4 yX4_levelOf yX4_levelOf, Cond.code yX4_levelOf cX4_levelOf 2 (some .int), Cond.methodLink RL 135 yL_flowed, Cond.static yL_flowed, Cond.codeWith yL_flowed cL_flowed 4 (some .int) [(0, 9, 12, 13)], Cond.methodLink RL 35 yX3_flowed, Cond.instanceMethod yX3_flowed, Cond.selects RX3 yX3_flowed yX3_flowed, Cond.code yX3_flowed cX3_flowed 2 (some .int), Cond.fieldLink RX3 68 "GossipGates$River" "through" "[I", Cond.methodLink RL 137 yX4_flowed, Cond.instanceMethod yX4_flowed, Cond.selects RX4 yX4_flowed yX4_flowed, Cond.code yX4_flowed cX4_flowed 2 (some .int)]
def wsL_law0_r11 : List Cond := [Cond.methodLink RL 138 yL_spilled, Cond.static yL_spilled, Cond.codeWith yL_spilled cL_spilled 4 (some .int) [(0, 9, 12, 13)], Cond.methodLink RL 38 yX3_spilled, Cond.instanceMethod yX3_spilled, Cond.selects RX3 yX3_spilled yX3_spilled, Cond.code yX3_spilled cX3_spilled 2 (some .int), Cond.fieldLink RX3 71 "GossipGates$River" "over" "[I", Cond.methodLink RL 140 yX4_spilled, Cond.instanceMethod yX4_spilled, Cond.selects RX4 yX4_spilled yX4_spilled, Cond.code yX4_spilled cX4_spilled 2 (some .int), Cond.methodLink RL 141 yL_setRule, Cond.static yL_setRule, Cond.codeWith yL_setRule cL_setRule 7 (some .int) [(0, 11, 14, 13)], Cond.methodLink RL 41 yX3_setRule, Cond.instanceMethod yX3_setRule, Cond.selects RX3 yX3_setRule yX3_setRule, Cond.code yX3_setRule cX3_setRule 6 none, Cond.fieldLink RX3 74 "GossipGates$Gates" "lows" "[I", Cond.fieldLink RX3 77 "GossipGates$Gates" "highs" "[I", Cond.fieldLink RX3 80 "GossipGates$Gates" "bounds" "[I", Cond.fieldLink RX3 83 "GossipGates$Gates" "ages" "[I", Cond.methodLink RL 144 yX4_setRule]
def wsL_law0_r12 : List Cond := [Cond.instanceMethod yX4_setRule, Cond.selects RX4 yX4_setRule yX4_setRule, Cond.code yX4_setRule cX4_setRule 7 none, Cond.methodLink RL 145 yL_byHand, Cond.static yL_byHand, Cond.codeWith yL_byHand cL_byHand 5 (some .int) [(0, 10, 13, 13), (0, 10, 17, 48)], Cond.classLink RL 48 "java/lang/IllegalStateException", Cond.methodLink RL 45 yX3_byHand, Cond.instanceMethod yX3_byHand, Cond.selects RX3 yX3_byHand yX3_byHand, Cond.code yX3_byHand cX3_byHand 4 (some .int), Cond.classLink RX3 90 "java/lang/IllegalStateException", Cond.initialized "java/lang/IllegalStateException", Cond.fieldLink RX3 86 "GossipGates$Gates" "inHand" "[Z", Cond.fieldLink RX3 97 "GossipGates$Gates" "openings" "[I", Cond.methodLink RL 147 yX4_byHand, Cond.instanceMethod yX4_byHand, Cond.selects RX4 yX4_byHand yX4_byHand, Cond.code yX4_byHand cX4_byHand 4 (some .int), Cond.methodLink RL 148 yL_opening, Cond.static yL_opening, Cond.codeWith yL_opening cL_opening 4 (some .int) [(0, 9, 12, 13)], Cond.methodLink RL 50 yX3_opening, Cond.instanceMethod yX3_opening]
def wsL_law0_r13 : List Cond := [Cond.selects RX3 yX3_opening yX3_opening, Cond.code yX3_opening cX3_opening 2 (some .int), Cond.methodLink RL 150 yX4_opening, Cond.instanceMethod yX4_opening, Cond.selects RX4 yX4_opening yX4_opening, Cond.code yX4_opening cX4_opening 2 (some .int), Cond.methodLink RL 151 yL_safety, Cond.static yL_safety, Cond.codeWith yL_safety cL_safety 4 (some .int) [(0, 9, 12, 13)], Cond.methodLink RL 53 yX3_safety, Cond.instanceMethod yX3_safety, Cond.selects RX3 yX3_safety yX3_safety, Cond.code yX3_safety cX3_safety 2 (some .int), Cond.fieldLink RX3 100 "GossipGates$Gates" "safeties" "[I", Cond.methodLink RL 153 yX4_safety, Cond.instanceMethod yX4_safety, Cond.selects RX4 yX4_safety yX4_safety, Cond.code yX4_safety cX4_safety 2 (some .int), Cond.methodLink RL 154 yL_fall, Cond.static yL_fall, Cond.codeWith yL_fall cL_fall 3 (some .int) [(0, 5, 8, 13), (0, 5, 11, 48)], Cond.methodLink RL 56 yX3_fall, Cond.instanceMethod yX3_fall, Cond.selects RX3 yX3_fall yX3_fall]
def wsL_law0_r14 : List Cond := [Cond.code yX3_fall cX3_fall 2 none, Cond.fieldLink RX3 103 "GossipGates$Net" "isDown" "[Z", Cond.methodLink RL 157 yX4_fall, Cond.instanceMethod yX4_fall, Cond.selects RX4 yX4_fall yX4_fall, Cond.code yX4_fall cX4_fall 2 none, Cond.methodLink RL 158 yL_comeUp, Cond.static yL_comeUp, Cond.codeWith yL_comeUp cL_comeUp 3 (some .int) [(0, 5, 8, 13), (0, 5, 11, 48)], Cond.methodLink RL 60 yX3_comeUp, Cond.instanceMethod yX3_comeUp, Cond.selects RX3 yX3_comeUp yX3_comeUp, Cond.code yX3_comeUp cX3_comeUp 2 none, Cond.fieldLink RX3 110 "GossipGates$Net" "growths" "[[I", Cond.methodLink RX3 114 yJ7_fill_53178, Cond.methodLink RL 160 yX4_comeUp, Cond.instanceMethod yX4_comeUp, Cond.selects RX4 yX4_comeUp yX4_comeUp, Cond.code yX4_comeUp cX4_comeUp 3 none, Cond.fieldLink RX4 118 "GossipGatesModel" "time" "I", Cond.methodLink RX4 114 yX4_at, Cond.static yX4_at, Cond.code yX4_at cX4_at 2 (some .int), Cond.methodLink RL 161 yL_setGroup]
def wsL_law0_r15 : List Cond := [Cond.static yL_setGroup, Cond.codeWith yL_setGroup cL_setGroup 5 (some .int) [(0, 10, 13, 13)], Cond.methodLink RL 63 yX3_setGroup, Cond.instanceMethod yX3_setGroup, Cond.selects RX3 yX3_setGroup yX3_setGroup, Cond.code yX3_setGroup cX3_setGroup 4 (some .int), Cond.fieldLink RX3 120 "GossipGates$Net" "groups" "[I", Cond.methodLink RL 163 yX4_setGroup, Cond.instanceMethod yX4_setGroup, Cond.selects RX4 yX4_setGroup yX4_setGroup, Cond.code yX4_setGroup cX4_setGroup 4 (some .int), Cond.methodLink RL 164 yL_setStuck, Cond.static yL_setStuck, Cond.codeWith yL_setStuck cL_setStuck 5 (some .int) [(0, 17, 20, 13)], Cond.methodLink RL 66 yX3_setStuck, Cond.instanceMethod yX3_setStuck, Cond.selects RX3 yX3_setStuck yX3_setStuck, Cond.code yX3_setStuck cX3_setStuck 4 (some .boolean), Cond.fieldLink RX3 123 "GossipGates$Net" "isStuck" "[Z", Cond.methodLink RL 167 yX4_setStuck, Cond.instanceMethod yX4_setStuck, Cond.selects RX4 yX4_setStuck yX4_setStuck, Cond.code yX4_setStuck cX4_setStuck 4 (some .boolean), Cond.methodLink RL 168 yL_setTimes]
def wsL_law0_r16 : List Cond := [Cond.static yL_setTimes, Cond.codeWith yL_setTimes cL_setTimes 4 (some .int) [(0, 6, 9, 13)], Cond.methodLink RL 70 yX3_setTimes, Cond.instanceMethod yX3_setTimes, Cond.selects RX3 yX3_setTimes yX3_setTimes, Cond.code yX3_setTimes cX3_setTimes 3 none, Cond.fieldLink RX3 126 "GossipGates$Net" "suspicionTime" "I", Cond.fieldLink RX3 129 "GossipGates$Net" "deathTime" "I", Cond.methodLink RL 171 yX4_setTimes, Cond.instanceMethod yX4_setTimes, Cond.selects RX4 yX4_setTimes yX4_setTimes, Cond.code yX4_setTimes cX4_setTimes 3 none, Cond.methodLink RL 172 yL_believed, Cond.static yL_believed, Cond.codeWith yL_believed cL_believed 5 (some .int) [(0, 10, 13, 13)], Cond.methodLink RL 74 yX3_believed, Cond.instanceMethod yX3_believed, Cond.selects RX3 yX3_believed yX3_believed, Cond.code yX3_believed cX3_believed 3 (some .int), Cond.fieldLink RX3 136 "GossipGates$Net" "levels" "[[I", Cond.methodLink RX3 132 yX1_hasNews, Cond.instanceMethod yX1_hasNews, Cond.selects RX1 yX1_hasNews yX1_hasNews, Cond.code yX1_hasNews cX1_hasNews 3 (some .boolean)]
def wsL_law0_r17 : List Cond := [Cond.methodLink RL 174 yX4_believed, Cond.instanceMethod yX4_believed, Cond.selects RX4 yX4_believed yX4_believed, Cond.code yX4_believed cX4_believed 3 (some .int), Cond.methodLink RX4 121 yX4_ask, Cond.instanceMethod yX4_ask, Cond.selects RX4 yX4_ask yX4_ask, Cond.code yX4_ask cX4_ask 3 (some .boolean), Cond.methodLink RX4 125 yX4_hasNews, Cond.instanceMethod yX4_hasNews, Cond.selects RX4 yX4_hasNews yX4_hasNews, Cond.code yX4_hasNews cX4_hasNews 3 (some .boolean), Cond.methodLink RL 175 yL_version, Cond.static yL_version, Cond.codeWith yL_version cL_version 5 (some .int) [(0, 10, 13, 13)], Cond.methodLink RL 77 yX3_version, Cond.instanceMethod yX3_version, Cond.selects RX3 yX3_version yX3_version, Cond.code yX3_version cX3_version 3 (some .int), Cond.fieldLink RX3 139 "GossipGates$Net" "versions" "[[I", Cond.methodLink RL 177 yX4_version, Cond.instanceMethod yX4_version, Cond.selects RX4 yX4_version yX4_version, Cond.code yX4_version cX4_version 3 (some .int)]
def wsL_law0_r18 : List Cond := [Cond.methodLink RL 178 yL_age, Cond.static yL_age, Cond.codeWith yL_age cL_age 5 (some .int) [(0, 10, 13, 13)], Cond.methodLink RL 80 yX3_age, Cond.instanceMethod yX3_age, Cond.selects RX3 yX3_age yX3_age, Cond.code yX3_age cX3_age 3 (some .int), Cond.fieldLink RX3 142 "GossipGates$Net" "measured" "[[I", Cond.methodLink RL 180 yX4_age, Cond.instanceMethod yX4_age, Cond.selects RX4 yX4_age yX4_age, Cond.code yX4_age cX4_age 3 (some .int), Cond.methodLink RX4 128 yX4_ageOf, Cond.instanceMethod yX4_ageOf, Cond.selects RX4 yX4_ageOf yX4_ageOf, Cond.code yX4_ageOf cX4_ageOf 3 (some .int), Cond.methodLink RL 181 yL_beat, Cond.static yL_beat, Cond.codeWith yL_beat cL_beat 5 (some .int) [(0, 10, 13, 13)], Cond.methodLink RL 83 yX3_beat, Cond.instanceMethod yX3_beat, Cond.selects RX3 yX3_beat yX3_beat, Cond.code yX3_beat cX3_beat 3 (some .int), Cond.fieldLink RX3 145 "GossipGates$Net" "beats" "[[I"]
def wsL_law0_r19 : List Cond := [Cond.methodLink RL 183 yX4_beat, Cond.instanceMethod yX4_beat, Cond.selects RX4 yX4_beat yX4_beat, Cond.code yX4_beat cX4_beat 3 (some .int), Cond.methodLink RL 184 yL_status, Cond.static yL_status, Cond.codeWith yL_status cL_status 5 (some .int) [(0, 10, 13, 13)], Cond.methodLink RL 86 yX3_status, Cond.instanceMethod yX3_status, Cond.selects RX3 yX3_status yX3_status, Cond.code yX3_status cX3_status 3 (some .int), Cond.fieldLink RX3 148 "GossipGates$Net" "statuses" "[[I", Cond.methodLink RL 186 yX4_status, Cond.instanceMethod yX4_status, Cond.selects RX4 yX4_status yX4_status, Cond.code yX4_status cX4_status 3 (some .int), Cond.methodLink RL 187 yL_partner, Cond.static yL_partner, Cond.codeWith yL_partner cL_partner 4 (some .int) [(0, 9, 12, 13)], Cond.methodLink RL 89 yX3_partner, Cond.instanceMethod yX3_partner, Cond.selects RX3 yX3_partner yX3_partner, Cond.code yX3_partner cX3_partner 2 (some .int), Cond.methodLink RX3 151 yX1_calledBy]
def wsL_law0_r20 : List Cond := [Cond.instanceMethod yX1_calledBy, Cond.selects RX1 yX1_calledBy yX1_calledBy, Cond.code yX1_calledBy cX1_calledBy 7 (some .int), Cond.methodLink RX1 77 yX1_isCallable, Cond.instanceMethod yX1_isCallable, Cond.selects RX1 yX1_isCallable yX1_isCallable, Cond.code yX1_isCallable cX1_isCallable 4 (some .boolean), Cond.methodLink RL 189 yX4_partner, Cond.instanceMethod yX4_partner, Cond.selects RX4 yX4_partner yX4_partner, Cond.code yX4_partner cX4_partner 2 (some .int), Cond.methodLink RX4 134 yX4_called, Cond.instanceMethod yX4_called, Cond.selects RX4 yX4_called yX4_called, Cond.code yX4_called cX4_called 8 (some .int), Cond.methodLink RX4 131 yX4_isCallable, Cond.instanceMethod yX4_isCallable, Cond.selects RX4 yX4_isCallable yX4_isCallable, Cond.code yX4_isCallable cX4_isCallable 4 (some .boolean), Cond.methodLink RL 190 yL_freshest, Cond.static yL_freshest, Cond.codeWith yL_freshest cL_freshest 4 (some .int) [(0, 9, 12, 13)], Cond.methodLink RL 92 yX3_freshest, Cond.instanceMethod yX3_freshest]
def wsL_law0_r21 : List Cond := [Cond.selects RX3 yX3_freshest yX3_freshest, Cond.code yX3_freshest cX3_freshest 2 (some .int), Cond.methodLink RX3 155 yX1_freshestOf, Cond.instanceMethod yX1_freshestOf, Cond.selects RX1 yX1_freshestOf yX1_freshestOf, Cond.code yX1_freshestOf cX1_freshestOf 5 (some .int), Cond.methodLink RL 192 yX4_freshest, Cond.instanceMethod yX4_freshest, Cond.selects RX4 yX4_freshest yX4_freshest, Cond.code yX4_freshest cX4_freshest 4 (some .int), Cond.methodLink RL 193 yL_agree, Cond.static yL_agree, Cond.codeWith yL_agree cL_agree 4 (some .int) [(0, 9, 12, 13)], Cond.methodLink RL 95 yX3_agree, Cond.instanceMethod yX3_agree, Cond.selects RX3 yX3_agree yX3_agree, Cond.code yX3_agree cX3_agree 2 (some .int), Cond.methodLink RX3 158 yX1_believersOf, Cond.instanceMethod yX1_believersOf, Cond.selects RX1 yX1_believersOf yX1_believersOf, Cond.code yX1_believersOf cX1_believersOf 6 (some .int), Cond.methodLink RX1 52 yX1_hasNews, Cond.methodLink RL 195 yX4_agree, Cond.instanceMethod yX4_agree]
def wsL_law0_r22 : List Cond := [Cond.selects RX4 yX4_agree yX4_agree, Cond.code yX4_agree cX4_agree 4 (some .int), Cond.methodLink RL 196 yX3_unnoticed, Cond.instanceMethod yX3_unnoticed, Cond.selects RX3 yX3_unnoticed yX3_unnoticed, Cond.code yX3_unnoticed cX3_unnoticed 1 (some .int), Cond.methodLink RX3 161 yX1_countUnnoticed, Cond.instanceMethod yX1_countUnnoticed, Cond.selects RX1 yX1_countUnnoticed yX1_countUnnoticed, Cond.code yX1_countUnnoticed cX1_countUnnoticed 3 (some .int), Cond.methodLink RX1 94 yX1_countHolders, Cond.instanceMethod yX1_countHolders, Cond.selects RX1 yX1_countHolders yX1_countHolders, Cond.code yX1_countHolders cX1_countHolders 5 (some .int), Cond.methodLink RL 199 yX4_unnoticed, Cond.instanceMethod yX4_unnoticed, Cond.selects RX4 yX4_unnoticed yX4_unnoticed, Cond.code yX4_unnoticed cX4_unnoticed 5 (some .int), Cond.methodLink RL 200 yX3_mistaken, Cond.instanceMethod yX3_mistaken, Cond.selects RX3 yX3_mistaken yX3_mistaken, Cond.code yX3_mistaken cX3_mistaken 1 (some .int), Cond.methodLink RX3 165 yX1_countMistaken, Cond.instanceMethod yX1_countMistaken]
def wsL_law0_r23 : List Cond := [Cond.selects RX1 yX1_countMistaken yX1_countMistaken, Cond.code yX1_countMistaken cX1_countMistaken 3 (some .int), Cond.methodLink RL 203 yX4_mistaken, Cond.instanceMethod yX4_mistaken, Cond.selects RX4 yX4_mistaken yX4_mistaken, Cond.code yX4_mistaken cX4_mistaken 3 (some .int), Cond.methodLink RL 204 yX3_vain, Cond.instanceMethod yX3_vain, Cond.selects RX3 yX3_vain yX3_vain, Cond.code yX3_vain cX3_vain 1 (some .int), Cond.fieldLink RX3 168 "GossipGates$Net" "vainCalls" "I", Cond.methodLink RL 207 yX4_vain, Cond.instanceMethod yX4_vain, Cond.selects RX4 yX4_vain yX4_vain, Cond.code yX4_vain cX4_vain 1 (some .int), Cond.fieldLink RX4 137 "GossipGatesModel" "vain" "I", Cond.methodLink RL 208 yL_tick, Cond.static yL_tick, Cond.codeWith yL_tick cL_tick 4 (some .int) [(0, 9, 12, 13), (0, 9, 15, 48)], Cond.methodLink RL 98 yX3_tick, Cond.instanceMethod yX3_tick, Cond.selects RX3 yX3_tick yX3_tick, Cond.code yX3_tick cX3_tick 4 (some .int), Cond.methodLink RX3 173 yX3_passOneTick]
def wsL_law0_r24 : List Cond := [Cond.instanceMethod yX3_passOneTick, Cond.selects RX3 yX3_passOneTick yX3_passOneTick, Cond.code yX3_passOneTick cX3_passOneTick 2 (some .int), Cond.methodLink RX3 176 yX2_takeIn, Cond.instanceMethod yX2_takeIn, Cond.selects RX2 yX2_takeIn yX2_takeIn, Cond.code yX2_takeIn cX2_takeIn 2 none, Cond.methodLink RX2 43 yX2_receive, Cond.instanceMethod yX2_receive, Cond.selects RX2 yX2_receive yX2_receive, Cond.code yX2_receive cX2_receive 3 none, Cond.methodLink RX3 179 yX2_letThrough, Cond.instanceMethod yX2_letThrough, Cond.selects RX2 yX2_letThrough yX2_letThrough, Cond.code yX2_letThrough cX2_letThrough 4 none, Cond.methodLink RX2 53 Lib.Math.min.name, Cond.static Lib.Math.min.name, Cond.initialized "java/lang/Math", Cond.code Lib.Math.min.name Lib.Math.min.code 2 (some .int), Cond.methodLink RX2 47 yX0_mostThrough, Cond.instanceMethod yX0_mostThrough, Cond.selects RX0 yX0_mostThrough yX0_mostThrough, Cond.code yX0_mostThrough cX0_mostThrough 2 (some .int), Cond.methodLink RX2 59 yX2_moveOn]
def wsL_law0_r25 : List Cond := [Cond.instanceMethod yX2_moveOn, Cond.selects RX2 yX2_moveOn yX2_moveOn, Cond.code yX2_moveOn cX2_moveOn 4 none, Cond.methodLink RX3 183 yX2_spillOver, Cond.instanceMethod yX2_spillOver, Cond.selects RX2 yX2_spillOver yX2_spillOver, Cond.code yX2_spillOver cX2_spillOver 4 (some .int), Cond.methodLink RX2 62 Lib.Math.max.name, Cond.static Lib.Math.max.name, Cond.code Lib.Math.max.name Lib.Math.max.code 2 (some .int), Cond.methodLink RX3 186 yX1_measureAll, Cond.instanceMethod yX1_measureAll, Cond.selects RX1 yX1_measureAll yX1_measureAll, Cond.code yX1_measureAll cX1_measureAll 4 none, Cond.methodLink RX1 56 yX2_levelOf, Cond.methodLink RX1 62 yX1_measure, Cond.instanceMethod yX1_measure, Cond.selects RX1 yX1_measure yX1_measure, Cond.code yX1_measure cX1_measure 4 none, Cond.methodLink RX3 190 yX1_callAll, Cond.instanceMethod yX1_callAll, Cond.selects RX1 yX1_callAll yX1_callAll, Cond.code yX1_callAll cX1_callAll 3 none, Cond.methodLink RX1 66 yX1_call]
def wsL_law0_r26 : List Cond := [Cond.instanceMethod yX1_call, Cond.selects RX1 yX1_call yX1_call, Cond.code yX1_call cX1_call 4 none, Cond.methodLink RX1 70 yX1_calledBy, Cond.methodLink RX1 74 yX1_tellOneAnother, Cond.instanceMethod yX1_tellOneAnother, Cond.selects RX1 yX1_tellOneAnother yX1_tellOneAnother, Cond.code yX1_tellOneAnother cX1_tellOneAnother 5 none, Cond.methodLink RX1 81 yX1_takeNews, Cond.instanceMethod yX1_takeNews, Cond.selects RX1 yX1_takeNews yX1_takeNews, Cond.code yX1_takeNews cX1_takeNews 4 none, Cond.methodLink RX1 84 yX1_takeBeat, Cond.instanceMethod yX1_takeBeat, Cond.selects RX1 yX1_takeBeat yX1_takeBeat, Cond.code yX1_takeBeat cX1_takeBeat 5 none, Cond.methodLink RX3 193 yX1_lookAll, Cond.instanceMethod yX1_lookAll, Cond.selects RX1 yX1_lookAll yX1_lookAll, Cond.code yX1_lookAll cX1_lookAll 3 none, Cond.methodLink RX1 88 yX1_lookAtOthers, Cond.instanceMethod yX1_lookAtOthers, Cond.selects RX1 yX1_lookAtOthers yX1_lookAtOthers, Cond.code yX1_lookAtOthers cX1_lookAtOthers 4 none]
def wsL_law0_r27 : List Cond := [Cond.methodLink RX1 91 yX1_statusAfter, Cond.instanceMethod yX1_statusAfter, Cond.selects RX1 yX1_statusAfter yX1_statusAfter, Cond.code yX1_statusAfter cX1_statusAfter 2 (some .int), Cond.methodLink RX3 196 yX3_ruleGates, Cond.instanceMethod yX3_ruleGates, Cond.selects RX3 yX3_ruleGates yX3_ruleGates, Cond.code yX3_ruleGates cX3_ruleGates 2 none, Cond.methodLink RX3 199 yX3_ruleGate, Cond.instanceMethod yX3_ruleGate, Cond.selects RX3 yX3_ruleGate yX3_ruleGate, Cond.code yX3_ruleGate cX3_ruleGate 5 none, Cond.methodLink RX3 202 yX1_isOld, Cond.instanceMethod yX1_isOld, Cond.selects RX1 yX1_isOld yX1_isOld, Cond.code yX1_isOld cX1_isOld 5 (some .boolean), Cond.methodLink RX3 206 yX0_openForSafety, Cond.instanceMethod yX0_openForSafety, Cond.selects RX0 yX0_openForSafety yX0_openForSafety, Cond.code yX0_openForSafety cX0_openForSafety 2 none, Cond.methodLink RX0 43 Lib.Math.min.name, Cond.methodLink RX3 209 yX0_follow, Cond.instanceMethod yX0_follow, Cond.selects RX0 yX0_follow yX0_follow]
def wsL_law0_r28 : List Cond := [Cond.code yX0_follow cX0_follow 4 none, Cond.methodLink RX0 49 Lib.Math.max.name, Cond.methodLink RL 210 yX4_tick, Cond.instanceMethod yX4_tick, Cond.selects RX4 yX4_tick yX4_tick, Cond.code yX4_tick cX4_tick 4 (some .int), Cond.methodLink RX4 167 yX4_ticks, Cond.instanceMethod yX4_ticks, Cond.selects RX4 yX4_ticks yX4_ticks, Cond.code yX4_ticks cX4_ticks 3 (some .int), Cond.methodLink RX4 144 yX4_falls, Cond.instanceMethod yX4_falls, Cond.selects RX4 yX4_falls yX4_falls, Cond.code yX4_falls cX4_falls 2 none, Cond.methodLink RX4 147 yX4_flowsOn, Cond.instanceMethod yX4_flowsOn, Cond.selects RX4 yX4_flowsOn yX4_flowsOn, Cond.code yX4_flowsOn cX4_flowsOn 3 none, Cond.methodLink RX4 150 yX4_spills, Cond.instanceMethod yX4_spills, Cond.selects RX4 yX4_spills yX4_spills, Cond.code yX4_spills cX4_spills 5 (some .int), Cond.methodLink RX4 154 yX4_measures, Cond.instanceMethod yX4_measures]
def wsL_law0_r29 : List Cond := [Cond.selects RX4 yX4_measures yX4_measures, Cond.code yX4_measures cX4_measures 3 none, Cond.methodLink RX4 157 yX4_calls, Cond.instanceMethod yX4_calls, Cond.selects RX4 yX4_calls yX4_calls, Cond.code yX4_calls cX4_calls 4 none, Cond.methodLink RX4 140 yX4_takes, Cond.instanceMethod yX4_takes, Cond.selects RX4 yX4_takes yX4_takes, Cond.code yX4_takes cX4_takes 6 none, Cond.methodLink RX4 160 yX4_looks, Cond.instanceMethod yX4_looks, Cond.selects RX4 yX4_looks yX4_looks, Cond.code yX4_looks cX4_looks 4 none, Cond.methodLink RX4 163 yX4_rules, Cond.instanceMethod yX4_rules, Cond.selects RX4 yX4_rules yX4_rules, Cond.code yX4_rules cX4_rules 6 none, Cond.methodLink RL 211 yX3_time, Cond.instanceMethod yX3_time, Cond.selects RX3 yX3_time yX3_time, Cond.code yX3_time cX3_time 1 (some .int), Cond.methodLink RL 214 yX4_time, Cond.instanceMethod yX4_time]
def wsL_law0_r30 : List Cond := [Cond.selects RX4 yX4_time yX4_time, Cond.code yX4_time cX4_time 1 (some .int)]
def wsL_law0 : List Cond := (wsL_law0_r1 ++ (wsL_law0_r2 ++ (wsL_law0_r3 ++ (wsL_law0_r4 ++ (wsL_law0_r5 ++ (wsL_law0_r6 ++ (wsL_law0_r7 ++ (wsL_law0_r8 ++ (wsL_law0_r9 ++ (wsL_law0_r10 ++ (wsL_law0_r11 ++ (wsL_law0_r12 ++ (wsL_law0_r13 ++ (wsL_law0_r14 ++ (wsL_law0_r15 ++ (wsL_law0_r16 ++ (wsL_law0_r17 ++ (wsL_law0_r18 ++ (wsL_law0_r19 ++ (wsL_law0_r20 ++ (wsL_law0_r21 ++ (wsL_law0_r22 ++ (wsL_law0_r23 ++ (wsL_law0_r24 ++ (wsL_law0_r25 ++ (wsL_law0_r26 ++ (wsL_law0_r27 ++ (wsL_law0_r28 ++ (wsL_law0_r29 ++ wsL_law0_r30))))))))))))))))))))))))))))) ++ wsX30 ++ wsX40 ++ wsX20 ++ wsX00 ++ wsX10 ++ ([] : List Cond)
def wsL_law : List Cond := wsL_law0 ++ (vx_atS RX3 217 "java/lang/IllegalArgumentException" ["java/lang/RuntimeException", "java/lang/Exception"]).filter goodWord ++ (vx_atS RX3 94 "java/lang/IllegalStateException" ["java/lang/RuntimeException", "java/lang/Exception"]).filter goodWord
abbrev vwCl : List vw_C := [(RX0, TX0, 8), (RX1, TX1, 12), (RX2, TX2, 8), (RX3, TX3, 4), (RX4, TX4, 30)]
end
section
/-! 03b: the words of the law are words of the tables, by their places -/
theorem xsub_ix {big : List Cond} (ws : List Cond) (ps : List Nat) (hp : ws = ps.filterMap (fun i => big[i]?)) : ∀ w ∈ ws, w ∈ big := by
  intro w hw
  rw [hp] at hw
  obtain ⟨i, -, hi⟩ := List.mem_filterMap.mp hw
  exact List.mem_of_getElem? hi
theorem xsub_ap {big a b : List Cond} (ha : ∀ w ∈ a, w ∈ big) (hb : ∀ w ∈ b, w ∈ big) : ∀ w ∈ a ++ b, w ∈ big := fun w h => (List.mem_append.mp h).elim (ha w) (hb w)
set_option maxRecDepth 20000 in
theorem in_wsL_law0_r1 : ∀ w ∈ wsL_law0_r1, w ∈ lw_tbl := xsub_ix _ [45, 46, 33, 645, 646, 38, 947, 47, 48, 49, 50, 51, 52, 53, 54, 34, 193, 95, 96, 36, 194, 136, 137, 37] (by decide +kernel)
set_option maxRecDepth 20000 in
theorem in_wsL_law0_r2 : ∀ w ∈ wsL_law0_r2, w ∈ lw_tbl := xsub_ix _ [195, 196, 55, 56, 57, 58, 94, 62, 64, 66, 68, 70, 71, 73, 75, 59, 60, 35, 61, 97, 98, 99, 100, 102] (by decide +kernel)
set_option maxRecDepth 20000 in
theorem in_wsL_law0_r3 : ∀ w ∈ wsL_law0_r3, w ∈ lw_tbl := xsub_ix _ [104, 106, 108, 110, 112, 114, 135, 116, 101, 139, 140, 141, 144, 146, 148, 142, 150, 152, 154, 156, 158, 160, 162, 164] (by decide +kernel)
set_option maxRecDepth 20000 in
theorem in_wsL_law0_r4 : ∀ w ∈ wsL_law0_r4, w ∈ lw_tbl := xsub_ix _ [166, 647, 648, 649, 650, 651, 652, 653, 654, 655, 656, 657, 658, 659, 661, 662, 663, 664, 665, 666, 667, 668, 669, 670] (by decide +kernel)
set_option maxRecDepth 20000 in
theorem in_wsL_law0_r5 : ∀ w ∈ wsL_law0_r5, w ∈ lw_tbl := xsub_ix _ [671, 672, 673, 674, 675, 676, 677, 234, 235, 32, 236, 237, 238, 239, 240, 241, 63, 65, 242, 243, 244, 245, 246, 247] (by decide +kernel)
set_option maxRecDepth 20000 in
theorem in_wsL_law0_r6 : ∀ w ∈ wsL_law0_r6, w ∈ lw_tbl := xsub_ix _ [248, 42, 746, 747, 748, 749, 750, 751, 752, 753, 754, 755, 756, 758, 15, 759, 680, 742, 743, 744, 745, 315, 316, 317] (by decide +kernel)
set_option maxRecDepth 20000 in
theorem in_wsL_law0_r7 : ∀ w ∈ wsL_law0_r7, w ∈ lw_tbl := xsub_ix _ [318, 319, 320, 321, 103, 760, 761, 762, 763, 322, 323, 324, 325, 326, 327, 328, 76, 764, 765, 766, 767, 660, 329, 330] (by decide +kernel)
set_option maxRecDepth 20000 in
theorem in_wsL_law0_r8 : ∀ w ∈ wsL_law0_r8, w ∈ lw_tbl := xsub_ix _ [331, 332, 333, 334, 335, 69, 768, 769, 770, 771, 336, 337, 338, 339, 340, 341, 342, 67, 772, 773, 774, 775, 776, 778] (by decide +kernel)
set_option maxRecDepth 20000 in
theorem in_wsL_law0_r9 : ∀ w ∈ wsL_law0_r9, w ∈ lw_tbl := xsub_ix _ [16, 779, 343, 344, 345, 346, 347, 348, 349, 350, 351, 352, 353, 780, 781, 782, 783, 354, 355, 356, 357, 358, 359, 360] (by decide +kernel)
set_option maxRecDepth 20000 in
theorem in_wsL_law0_r10 : ∀ w ∈ wsL_law0_r10, w ∈ lw_tbl := xsub_ix _ [361, 362, 363, 364, 784, 785, 786, 787, 788, 790, 17, 791, 365, 366, 367, 368, 369, 370, 371, 72, 792, 793, 794, 795] (by decide +kernel)
set_option maxRecDepth 20000 in
theorem in_wsL_law0_r11 : ∀ w ∈ wsL_law0_r11, w ∈ lw_tbl := xsub_ix _ [372, 373, 374, 375, 376, 377, 378, 74, 796, 797, 798, 799, 379, 380, 381, 382, 383, 384, 385, 107, 109, 111, 113, 800] (by decide +kernel)
set_option maxRecDepth 20000 in
theorem in_wsL_law0_r12 : ∀ w ∈ wsL_law0_r12, w ∈ lw_tbl := xsub_ix _ [801, 802, 803, 386, 387, 388, 389, 390, 391, 392, 393, 394, 43, 117, 105, 804, 805, 806, 807, 410, 411, 412, 413, 414] (by decide +kernel)
set_option maxRecDepth 20000 in
theorem in_wsL_law0_r13 : ∀ w ∈ wsL_law0_r13, w ∈ lw_tbl := xsub_ix _ [415, 416, 808, 809, 810, 811, 417, 418, 419, 420, 421, 422, 423, 115, 812, 813, 814, 815, 424, 425, 426, 427, 428, 429] (by decide +kernel)
set_option maxRecDepth 20000 in
theorem in_wsL_law0_r14 : ∀ w ∈ wsL_law0_r14, w ∈ lw_tbl := xsub_ix _ [430, 145, 816, 817, 818, 819, 432, 433, 434, 435, 436, 437, 438, 159, 440, 820, 821, 822, 823, 679, 824, 825, 826, 441] (by decide +kernel)
set_option maxRecDepth 20000 in
theorem in_wsL_law0_r15 : ∀ w ∈ wsL_law0_r15, w ∈ lw_tbl := xsub_ix _ [442, 443, 444, 445, 446, 447, 149, 827, 828, 829, 830, 448, 449, 450, 451, 452, 453, 454, 147, 831, 832, 833, 834, 455] (by decide +kernel)
set_option maxRecDepth 20000 in
theorem in_wsL_law0_r16 : ∀ w ∈ wsL_law0_r16, w ∈ lw_tbl := xsub_ix _ [456, 457, 458, 459, 460, 461, 163, 165, 835, 836, 837, 838, 462, 463, 464, 465, 466, 467, 468, 153, 469, 470, 471, 472] (by decide +kernel)
set_option maxRecDepth 20000 in
theorem in_wsL_law0_r17 : ∀ w ∈ wsL_law0_r17, w ∈ lw_tbl := xsub_ix _ [839, 840, 841, 842, 843, 845, 18, 846, 847, 849, 19, 850, 473, 474, 475, 476, 477, 478, 479, 151, 851, 852, 853, 854] (by decide +kernel)
set_option maxRecDepth 20000 in
theorem in_wsL_law0_r18 : ∀ w ∈ wsL_law0_r18, w ∈ lw_tbl := xsub_ix _ [480, 481, 482, 483, 484, 485, 486, 155, 855, 856, 857, 858, 859, 861, 20, 862, 487, 488, 489, 490, 491, 492, 493, 157] (by decide +kernel)
set_option maxRecDepth 20000 in
theorem in_wsL_law0_r19 : ∀ w ∈ wsL_law0_r19, w ∈ lw_tbl := xsub_ix _ [863, 864, 865, 866, 494, 495, 496, 497, 498, 499, 500, 161, 867, 868, 869, 870, 501, 502, 503, 504, 505, 506, 507, 508] (by decide +kernel)
set_option maxRecDepth 20000 in
theorem in_wsL_law0_r20 : ∀ w ∈ wsL_law0_r20, w ∈ lw_tbl := xsub_ix _ [509, 510, 511, 512, 514, 2, 515, 871, 872, 873, 874, 875, 877, 21, 878, 879, 881, 22, 882, 516, 517, 518, 519, 520] (by decide +kernel)
set_option maxRecDepth 20000 in
theorem in_wsL_law0_r21 : ∀ w ∈ wsL_law0_r21, w ∈ lw_tbl := xsub_ix _ [521, 522, 523, 524, 525, 526, 883, 884, 885, 886, 527, 528, 529, 530, 531, 532, 533, 534, 535, 536, 537, 538, 887, 888] (by decide +kernel)
set_option maxRecDepth 20000 in
theorem in_wsL_law0_r22 : ∀ w ∈ wsL_law0_r22, w ∈ lw_tbl := xsub_ix _ [889, 890, 206, 207, 208, 209, 210, 211, 212, 213, 214, 216, 0, 217, 891, 892, 893, 894, 218, 219, 220, 221, 222, 223] (by decide +kernel)
set_option maxRecDepth 20000 in
theorem in_wsL_law0_r23 : ∀ w ∈ wsL_law0_r23, w ∈ lw_tbl := xsub_ix _ [224, 225, 895, 896, 897, 898, 226, 227, 228, 229, 167, 899, 900, 901, 902, 678, 539, 540, 541, 542, 543, 544, 545, 547] (by decide +kernel)
set_option maxRecDepth 20000 in
theorem in_wsL_law0_r24 : ∀ w ∈ wsL_law0_r24, w ∈ lw_tbl := xsub_ix _ [549, 3, 550, 551, 552, 553, 554, 555, 557, 4, 558, 559, 560, 561, 562, 567, 568, 44, 569, 563, 564, 565, 566, 570] (by decide +kernel)
set_option maxRecDepth 20000 in
theorem in_wsL_law0_r25 : ∀ w ∈ wsL_law0_r25, w ∈ lw_tbl := xsub_ix _ [572, 5, 573, 574, 575, 576, 577, 578, 579, 580, 581, 582, 583, 584, 585, 586, 588, 6, 589, 590, 591, 592, 593, 594] (by decide +kernel)
set_option maxRecDepth 20000 in
theorem in_wsL_law0_r26 : ∀ w ∈ wsL_law0_r26, w ∈ lw_tbl := xsub_ix _ [596, 7, 597, 598, 599, 601, 8, 602, 603, 605, 9, 606, 607, 609, 10, 610, 611, 612, 613, 614, 615, 617, 11, 618] (by decide +kernel)
set_option maxRecDepth 20000 in
theorem in_wsL_law0_r27 : ∀ w ∈ wsL_law0_r27, w ∈ lw_tbl := xsub_ix _ [619, 621, 12, 622, 623, 625, 13, 626, 627, 629, 14, 630, 631, 632, 633, 634, 635, 636, 637, 638, 639, 640, 641, 642] (by decide +kernel)
set_option maxRecDepth 20000 in
theorem in_wsL_law0_r28 : ∀ w ∈ wsL_law0_r28, w ∈ lw_tbl := xsub_ix _ [643, 644, 903, 904, 905, 906, 907, 909, 23, 910, 911, 913, 24, 914, 915, 917, 25, 918, 919, 921, 26, 922, 923, 925] (by decide +kernel)
set_option maxRecDepth 20000 in
theorem in_wsL_law0_r29 : ∀ w ∈ wsL_law0_r29, w ∈ lw_tbl := xsub_ix _ [27, 926, 927, 929, 28, 930, 931, 933, 29, 934, 935, 937, 30, 938, 939, 941, 31, 942, 230, 231, 232, 233, 943, 944] (by decide +kernel)
set_option maxRecDepth 20000 in
theorem in_wsL_law0_r30 : ∀ w ∈ wsL_law0_r30, w ∈ lw_tbl := xsub_ix _ [945, 946] (by decide +kernel)
theorem wsL_law_in0 : ∀ w ∈ wsL_law0, w ∈ lw_tbl := (xsub_ap (xsub_ap (xsub_ap (xsub_ap (xsub_ap (xsub_ap (xsub_ap in_wsL_law0_r1 (xsub_ap in_wsL_law0_r2 (xsub_ap in_wsL_law0_r3 (xsub_ap in_wsL_law0_r4 (xsub_ap in_wsL_law0_r5 (xsub_ap in_wsL_law0_r6 (xsub_ap in_wsL_law0_r7 (xsub_ap in_wsL_law0_r8 (xsub_ap in_wsL_law0_r9 (xsub_ap in_wsL_law0_r10 (xsub_ap in_wsL_law0_r11 (xsub_ap in_wsL_law0_r12 (xsub_ap in_wsL_law0_r13 (xsub_ap in_wsL_law0_r14 (xsub_ap in_wsL_law0_r15 (xsub_ap in_wsL_law0_r16 (xsub_ap in_wsL_law0_r17 (xsub_ap in_wsL_law0_r18 (xsub_ap in_wsL_law0_r19 (xsub_ap in_wsL_law0_r20 (xsub_ap in_wsL_law0_r21 (xsub_ap in_wsL_law0_r22 (xsub_ap in_wsL_law0_r23 (xsub_ap in_wsL_law0_r24 (xsub_ap in_wsL_law0_r25 (xsub_ap in_wsL_law0_r26 (xsub_ap in_wsL_law0_r27 (xsub_ap in_wsL_law0_r28 (xsub_ap in_wsL_law0_r29 in_wsL_law0_r30))))))))))))))))))))))))))))) (by decide +kernel)) (by decide +kernel)) (by decide +kernel)) (by decide +kernel)) (by decide +kernel)) (fun _ h => nomatch h))
theorem wsL_law_x0 : ∀ w ∈ (vx_atS RX3 217 "java/lang/IllegalArgumentException" ["java/lang/RuntimeException", "java/lang/Exception"]).filter goodWord, w ∈ lw_tbl := by decide +kernel
theorem wsL_law_x1 : ∀ w ∈ (vx_atS RX3 94 "java/lang/IllegalStateException" ["java/lang/RuntimeException", "java/lang/Exception"]).filter goodWord, w ∈ lw_tbl := by decide +kernel
theorem wsL_law_in : ∀ w ∈ wsL_law, w ∈ lw_tbl := fun w h => (List.mem_append.mp h).elim (fun h => (List.mem_append.mp h).elim (fun h => wsL_law_in0 w h) (fun h => wsL_law_x0 w h)) (fun h => wsL_law_x1 w h)
theorem inlX0 : ∀ w ∈ wsX00, w ∈ wsL_law := fun _ h => List.mem_append_left _ (List.mem_append_left _ (List.mem_append_left _ (List.mem_append_left _ (List.mem_append_right _ h))))
theorem inX0 : ∀ w ∈ wsX00, w ∈ lw_tbl := fun w h => wsL_law_in w (inlX0 w h)
theorem inlX1 : ∀ w ∈ wsX10, w ∈ wsL_law := fun _ h => List.mem_append_left _ (List.mem_append_left _ (List.mem_append_left _ (List.mem_append_right _ h)))
theorem inX1 : ∀ w ∈ wsX10, w ∈ lw_tbl := fun w h => wsL_law_in w (inlX1 w h)
theorem inlX2 : ∀ w ∈ wsX20, w ∈ wsL_law := fun _ h => List.mem_append_left _ (List.mem_append_left _ (List.mem_append_left _ (List.mem_append_left _ (List.mem_append_left _ (List.mem_append_right _ h)))))
theorem inX2 : ∀ w ∈ wsX20, w ∈ lw_tbl := fun w h => wsL_law_in w (inlX2 w h)
theorem inlX3 : ∀ w ∈ wsX30, w ∈ wsL_law := fun _ h => List.mem_append_left _ (List.mem_append_left _ (List.mem_append_left _ (List.mem_append_left _ (List.mem_append_left _ (List.mem_append_left _ (List.mem_append_left _ (List.mem_append_right _ h)))))))
theorem inX3 : ∀ w ∈ wsX30, w ∈ lw_tbl := fun w h => wsL_law_in w (inlX3 w h)
theorem inlX4 : ∀ w ∈ wsX40, w ∈ wsL_law := fun _ h => List.mem_append_left _ (List.mem_append_left _ (List.mem_append_left _ (List.mem_append_left _ (List.mem_append_left _ (List.mem_append_left _ (List.mem_append_right _ h))))))
theorem inX4 : ∀ w ∈ wsX40, w ∈ lw_tbl := fun w h => wsL_law_in w (inlX4 w h)
theorem inJx145de : ∀ w ∈ wsJx145de0, w ∈ lw_tbl := by decide +kernel
theorem inJ9 : ∀ w ∈ wsJ90, w ∈ lw_tbl := by decide +kernel
theorem inJ0 : ∀ w ∈ wsJ00, w ∈ lw_tbl := by decide +kernel
theorem inJ7 : ∀ w ∈ wsJ70, w ∈ lw_tbl := by decide +kernel
end
section
set_option maxRecDepth 20000 in
theorem ggX0_init_J7_fill_53178 : GoodIn wsX0_init wsJ7_fill_53178 := goodIn_r _ [17] (by decide +kernel) (by decide +kernel)
set_option maxRecDepth 20000 in
theorem gX0_init_J7_fill_53178 : GoodIn wsX0_init (va_wsS RX0 37 yJ7_fill_53178 wsJ7_fill_53178) := goodIn_app (goodIn_of _ (by decide +kernel)) ggX0_init_J7_fill_53178
theorem dX0_init_0 : decode cX0_init 0 = .ok (.aload_n 0, 1) := by decide +kernel
theorem dX0_init_1 : decode cX0_init 1 = .ok (.invokespecial 3, 3) := by decide +kernel
theorem dX0_init_4 : decode cX0_init 4 = .ok (.aload_n 0, 1) := by decide +kernel
theorem dX0_init_5 : decode cX0_init 5 = .ok (.bipush 8, 2) := by decide +kernel
theorem dX0_init_7 : decode cX0_init 7 = .ok (.newarray .int, 2) := by decide +kernel
theorem dX0_init_9 : decode cX0_init 9 = .ok (.putfield 9, 3) := by decide +kernel
theorem dX0_init_12 : decode cX0_init 12 = .ok (.aload_n 0, 1) := by decide +kernel
theorem dX0_init_13 : decode cX0_init 13 = .ok (.bipush 8, 2) := by decide +kernel
theorem dX0_init_15 : decode cX0_init 15 = .ok (.newarray .int, 2) := by decide +kernel
theorem dX0_init_17 : decode cX0_init 17 = .ok (.putfield 15, 3) := by decide +kernel
theorem dX0_init_20 : decode cX0_init 20 = .ok (.aload_n 0, 1) := by decide +kernel
theorem dX0_init_21 : decode cX0_init 21 = .ok (.bipush 8, 2) := by decide +kernel
theorem dX0_init_23 : decode cX0_init 23 = .ok (.newarray .int, 2) := by decide +kernel
theorem dX0_init_25 : decode cX0_init 25 = .ok (.putfield 18, 3) := by decide +kernel
theorem dX0_init_28 : decode cX0_init 28 = .ok (.aload_n 0, 1) := by decide +kernel
theorem dX0_init_29 : decode cX0_init 29 = .ok (.bipush 8, 2) := by decide +kernel
theorem dX0_init_31 : decode cX0_init 31 = .ok (.newarray .int, 2) := by decide +kernel
theorem dX0_init_33 : decode cX0_init 33 = .ok (.putfield 21, 3) := by decide +kernel
theorem dX0_init_36 : decode cX0_init 36 = .ok (.aload_n 0, 1) := by decide +kernel
theorem dX0_init_37 : decode cX0_init 37 = .ok (.bipush 8, 2) := by decide +kernel
theorem dX0_init_39 : decode cX0_init 39 = .ok (.newarray .int, 2) := by decide +kernel
theorem dX0_init_41 : decode cX0_init 41 = .ok (.putfield 24, 3) := by decide +kernel
theorem dX0_init_44 : decode cX0_init 44 = .ok (.aload_n 0, 1) := by decide +kernel
theorem dX0_init_45 : decode cX0_init 45 = .ok (.bipush 8, 2) := by decide +kernel
theorem dX0_init_47 : decode cX0_init 47 = .ok (.newarray .int, 2) := by decide +kernel
theorem dX0_init_49 : decode cX0_init 49 = .ok (.putfield 27, 3) := by decide +kernel
theorem dX0_init_52 : decode cX0_init 52 = .ok (.aload_n 0, 1) := by decide +kernel
theorem dX0_init_53 : decode cX0_init 53 = .ok (.bipush 8, 2) := by decide +kernel
theorem dX0_init_55 : decode cX0_init 55 = .ok (.newarray .int, 2) := by decide +kernel
theorem dX0_init_57 : decode cX0_init 57 = .ok (.putfield 30, 3) := by decide +kernel
theorem dX0_init_60 : decode cX0_init 60 = .ok (.aload_n 0, 1) := by decide +kernel
theorem dX0_init_61 : decode cX0_init 61 = .ok (.bipush 8, 2) := by decide +kernel
theorem dX0_init_63 : decode cX0_init 63 = .ok (.newarray .boolean, 2) := by decide +kernel
theorem dX0_init_65 : decode cX0_init 65 = .ok (.putfield 33, 3) := by decide +kernel
theorem dX0_init_68 : decode cX0_init 68 = .ok (.aload_n 0, 1) := by decide +kernel
theorem dX0_init_69 : decode cX0_init 69 = .ok (.getfield 9, 3) := by decide +kernel
theorem dX0_init_72 : decode cX0_init 72 = .ok (.iconst 5, 1) := by decide +kernel
theorem dX0_init_73 : decode cX0_init 73 = .ok (.invokestatic 37, 3) := by decide +kernel
theorem dX0_init_76 : decode cX0_init 76 = .ok (.aload_n 0, 1) := by decide +kernel
theorem dX0_init_77 : decode cX0_init 77 = .ok (.getfield 18, 3) := by decide +kernel
theorem dX0_init_80 : decode cX0_init 80 = .ok (.bipush 20, 2) := by decide +kernel
theorem dX0_init_82 : decode cX0_init 82 = .ok (.invokestatic 37, 3) := by decide +kernel
theorem dX0_init_85 : decode cX0_init 85 = .ok (.aload_n 0, 1) := by decide +kernel
theorem dX0_init_86 : decode cX0_init 86 = .ok (.getfield 21, 3) := by decide +kernel
theorem dX0_init_89 : decode cX0_init 89 = .ok (.bipush 40, 2) := by decide +kernel
theorem dX0_init_91 : decode cX0_init 91 = .ok (.invokestatic 37, 3) := by decide +kernel
theorem dX0_init_94 : decode cX0_init 94 = .ok (.aload_n 0, 1) := by decide +kernel
theorem dX0_init_95 : decode cX0_init 95 = .ok (.getfield 24, 3) := by decide +kernel
theorem dX0_init_98 : decode cX0_init 98 = .ok (.bipush 80, 2) := by decide +kernel
theorem dX0_init_100 : decode cX0_init 100 = .ok (.invokestatic 37, 3) := by decide +kernel
theorem dX0_init_103 : decode cX0_init 103 = .ok (.aload_n 0, 1) := by decide +kernel
theorem dX0_init_104 : decode cX0_init 104 = .ok (.getfield 27, 3) := by decide +kernel
theorem dX0_init_107 : decode cX0_init 107 = .ok (.iconst 5, 1) := by decide +kernel
theorem dX0_init_108 : decode cX0_init 108 = .ok (.invokestatic 37, 3) := by decide +kernel
theorem dX0_init_111 : decode cX0_init 111 = .ok (.return_, 1) := by decide +kernel
theorem dX0_mostThrough_0 : decode cX0_mostThrough 0 = .ok (.aload_n 0, 1) := by decide +kernel
theorem dX0_mostThrough_1 : decode cX0_mostThrough 1 = .ok (.getfield 15, 3) := by decide +kernel
theorem dX0_mostThrough_4 : decode cX0_mostThrough 4 = .ok (.iload_n 1, 1) := by decide +kernel
theorem dX0_mostThrough_5 : decode cX0_mostThrough 5 = .ok (.iaload, 1) := by decide +kernel
theorem dX0_mostThrough_6 : decode cX0_mostThrough 6 = .ok (.aload_n 0, 1) := by decide +kernel
theorem dX0_mostThrough_7 : decode cX0_mostThrough 7 = .ok (.getfield 9, 3) := by decide +kernel
theorem dX0_mostThrough_10 : decode cX0_mostThrough 10 = .ok (.iload_n 1, 1) := by decide +kernel
theorem dX0_mostThrough_11 : decode cX0_mostThrough 11 = .ok (.iaload, 1) := by decide +kernel
theorem dX0_mostThrough_12 : decode cX0_mostThrough 12 = .ok (.imul, 1) := by decide +kernel
theorem dX0_mostThrough_13 : decode cX0_mostThrough 13 = .ok (.ireturn, 1) := by decide +kernel
theorem dX0_openForSafety_0 : decode cX0_openForSafety 0 = .ok (.aload_n 0, 1) := by decide +kernel
theorem dX0_openForSafety_1 : decode cX0_openForSafety 1 = .ok (.getfield 15, 3) := by decide +kernel
theorem dX0_openForSafety_4 : decode cX0_openForSafety 4 = .ok (.iload_n 1, 1) := by decide +kernel
theorem dX0_openForSafety_5 : decode cX0_openForSafety 5 = .ok (.aload_n 0, 1) := by decide +kernel
theorem dX0_openForSafety_6 : decode cX0_openForSafety 6 = .ok (.getfield 15, 3) := by decide +kernel
theorem dX0_openForSafety_9 : decode cX0_openForSafety 9 = .ok (.iload_n 1, 1) := by decide +kernel
theorem dX0_openForSafety_10 : decode cX0_openForSafety 10 = .ok (.iaload, 1) := by decide +kernel
theorem dX0_openForSafety_11 : decode cX0_openForSafety 11 = .ok (.iconst 2, 1) := by decide +kernel
theorem dX0_openForSafety_12 : decode cX0_openForSafety 12 = .ok (.iadd, 1) := by decide +kernel
theorem dX0_openForSafety_13 : decode cX0_openForSafety 13 = .ok (.bipush 10, 2) := by decide +kernel
theorem dX0_openForSafety_15 : decode cX0_openForSafety 15 = .ok (.invokestatic 43, 3) := by decide +kernel
theorem dX0_openForSafety_18 : decode cX0_openForSafety 18 = .ok (.iastore, 1) := by decide +kernel
theorem dX0_openForSafety_19 : decode cX0_openForSafety 19 = .ok (.aload_n 0, 1) := by decide +kernel
theorem dX0_openForSafety_20 : decode cX0_openForSafety 20 = .ok (.getfield 30, 3) := by decide +kernel
theorem dX0_openForSafety_23 : decode cX0_openForSafety 23 = .ok (.iload_n 1, 1) := by decide +kernel
theorem dX0_openForSafety_24 : decode cX0_openForSafety 24 = .ok (.dup2, 1) := by decide +kernel
theorem dX0_openForSafety_25 : decode cX0_openForSafety 25 = .ok (.iaload, 1) := by decide +kernel
theorem dX0_openForSafety_26 : decode cX0_openForSafety 26 = .ok (.iconst 1, 1) := by decide +kernel
theorem dX0_openForSafety_27 : decode cX0_openForSafety 27 = .ok (.iadd, 1) := by decide +kernel
theorem dX0_openForSafety_28 : decode cX0_openForSafety 28 = .ok (.iastore, 1) := by decide +kernel
theorem dX0_openForSafety_29 : decode cX0_openForSafety 29 = .ok (.return_, 1) := by decide +kernel
theorem dX0_follow_0 : decode cX0_follow 0 = .ok (.iload_n 2, 1) := by decide +kernel
theorem dX0_follow_1 : decode cX0_follow 1 = .ok (.aload_n 0, 1) := by decide +kernel
theorem dX0_follow_2 : decode cX0_follow 2 = .ok (.getfield 21, 3) := by decide +kernel
theorem dX0_follow_5 : decode cX0_follow 5 = .ok (.iload_n 1, 1) := by decide +kernel
theorem dX0_follow_6 : decode cX0_follow 6 = .ok (.iaload, 1) := by decide +kernel
theorem dX0_follow_7 : decode cX0_follow 7 = .ok (.if_icmp .le 29, 3) := by decide +kernel
theorem dX0_follow_10 : decode cX0_follow 10 = .ok (.iload_n 3, 1) := by decide +kernel
theorem dX0_follow_11 : decode cX0_follow 11 = .ok (.ifCond .eq 25, 3) := by decide +kernel
theorem dX0_follow_14 : decode cX0_follow 14 = .ok (.aload_n 0, 1) := by decide +kernel
theorem dX0_follow_15 : decode cX0_follow 15 = .ok (.getfield 15, 3) := by decide +kernel
theorem dX0_follow_18 : decode cX0_follow 18 = .ok (.iload_n 1, 1) := by decide +kernel
theorem dX0_follow_19 : decode cX0_follow 19 = .ok (.aload_n 0, 1) := by decide +kernel
theorem dX0_follow_20 : decode cX0_follow 20 = .ok (.getfield 15, 3) := by decide +kernel
theorem dX0_follow_23 : decode cX0_follow 23 = .ok (.iload_n 1, 1) := by decide +kernel
theorem dX0_follow_24 : decode cX0_follow 24 = .ok (.iaload, 1) := by decide +kernel
theorem dX0_follow_25 : decode cX0_follow 25 = .ok (.iconst 1, 1) := by decide +kernel
theorem dX0_follow_26 : decode cX0_follow 26 = .ok (.iadd, 1) := by decide +kernel
theorem dX0_follow_27 : decode cX0_follow 27 = .ok (.bipush 10, 2) := by decide +kernel
theorem dX0_follow_29 : decode cX0_follow 29 = .ok (.invokestatic 43, 3) := by decide +kernel
theorem dX0_follow_32 : decode cX0_follow 32 = .ok (.iastore, 1) := by decide +kernel
theorem dX0_follow_33 : decode cX0_follow 33 = .ok (.goto 31, 3) := by decide +kernel
theorem dX0_follow_36 : decode cX0_follow 36 = .ok (.iload_n 2, 1) := by decide +kernel
theorem dX0_follow_37 : decode cX0_follow 37 = .ok (.aload_n 0, 1) := by decide +kernel
theorem dX0_follow_38 : decode cX0_follow 38 = .ok (.getfield 18, 3) := by decide +kernel
theorem dX0_follow_41 : decode cX0_follow 41 = .ok (.iload_n 1, 1) := by decide +kernel
theorem dX0_follow_42 : decode cX0_follow 42 = .ok (.iaload, 1) := by decide +kernel
theorem dX0_follow_43 : decode cX0_follow 43 = .ok (.if_icmp .ge 21, 3) := by decide +kernel
theorem dX0_follow_46 : decode cX0_follow 46 = .ok (.aload_n 0, 1) := by decide +kernel
theorem dX0_follow_47 : decode cX0_follow 47 = .ok (.getfield 15, 3) := by decide +kernel
theorem dX0_follow_50 : decode cX0_follow 50 = .ok (.iload_n 1, 1) := by decide +kernel
theorem dX0_follow_51 : decode cX0_follow 51 = .ok (.aload_n 0, 1) := by decide +kernel
theorem dX0_follow_52 : decode cX0_follow 52 = .ok (.getfield 15, 3) := by decide +kernel
theorem dX0_follow_55 : decode cX0_follow 55 = .ok (.iload_n 1, 1) := by decide +kernel
theorem dX0_follow_56 : decode cX0_follow 56 = .ok (.iaload, 1) := by decide +kernel
theorem dX0_follow_57 : decode cX0_follow 57 = .ok (.iconst 1, 1) := by decide +kernel
theorem dX0_follow_58 : decode cX0_follow 58 = .ok (.isub, 1) := by decide +kernel
theorem dX0_follow_59 : decode cX0_follow 59 = .ok (.iconst 0, 1) := by decide +kernel
theorem dX0_follow_60 : decode cX0_follow 60 = .ok (.invokestatic 49, 3) := by decide +kernel
theorem dX0_follow_63 : decode cX0_follow 63 = .ok (.iastore, 1) := by decide +kernel
theorem dX0_follow_64 : decode cX0_follow 64 = .ok (.return_, 1) := by decide +kernel
theorem dX1_init_0 : decode cX1_init 0 = .ok (.aload_n 0, 1) := by decide +kernel
theorem dX1_init_1 : decode cX1_init 1 = .ok (.invokespecial 3, 3) := by decide +kernel
theorem dX1_init_4 : decode cX1_init 4 = .ok (.aload_n 0, 1) := by decide +kernel
theorem dX1_init_5 : decode cX1_init 5 = .ok (.bipush 8, 2) := by decide +kernel
theorem dX1_init_7 : decode cX1_init 7 = .ok (.newarray .boolean, 2) := by decide +kernel
theorem dX1_init_9 : decode cX1_init 9 = .ok (.putfield 9, 3) := by decide +kernel
theorem dX1_init_12 : decode cX1_init 12 = .ok (.aload_n 0, 1) := by decide +kernel
theorem dX1_init_13 : decode cX1_init 13 = .ok (.bipush 8, 2) := by decide +kernel
theorem dX1_init_15 : decode cX1_init 15 = .ok (.newarray .boolean, 2) := by decide +kernel
theorem dX1_init_17 : decode cX1_init 17 = .ok (.putfield 15, 3) := by decide +kernel
theorem dX1_init_20 : decode cX1_init 20 = .ok (.aload_n 0, 1) := by decide +kernel
theorem dX1_init_21 : decode cX1_init 21 = .ok (.bipush 8, 2) := by decide +kernel
theorem dX1_init_23 : decode cX1_init 23 = .ok (.newarray .int, 2) := by decide +kernel
theorem dX1_init_25 : decode cX1_init 25 = .ok (.putfield 18, 3) := by decide +kernel
theorem dX1_init_28 : decode cX1_init 28 = .ok (.aload_n 0, 1) := by decide +kernel
theorem dX1_init_29 : decode cX1_init 29 = .ok (.bipush 8, 2) := by decide +kernel
theorem dX1_init_31 : decode cX1_init 31 = .ok (.bipush 8, 2) := by decide +kernel
theorem dX1_init_33 : decode cX1_init 33 = .ok (.multianewarray 22 2, 4) := by decide +kernel
theorem dX1_init_37 : decode cX1_init 37 = .ok (.putfield 24, 3) := by decide +kernel
theorem dX1_init_40 : decode cX1_init 40 = .ok (.aload_n 0, 1) := by decide +kernel
theorem dX1_init_41 : decode cX1_init 41 = .ok (.bipush 8, 2) := by decide +kernel
theorem dX1_init_43 : decode cX1_init 43 = .ok (.bipush 8, 2) := by decide +kernel
theorem dX1_init_45 : decode cX1_init 45 = .ok (.multianewarray 22 2, 4) := by decide +kernel
theorem dX1_init_49 : decode cX1_init 49 = .ok (.putfield 27, 3) := by decide +kernel
theorem dX1_init_52 : decode cX1_init 52 = .ok (.aload_n 0, 1) := by decide +kernel
theorem dX1_init_53 : decode cX1_init 53 = .ok (.bipush 8, 2) := by decide +kernel
theorem dX1_init_55 : decode cX1_init 55 = .ok (.bipush 8, 2) := by decide +kernel
theorem dX1_init_57 : decode cX1_init 57 = .ok (.multianewarray 22 2, 4) := by decide +kernel
theorem dX1_init_61 : decode cX1_init 61 = .ok (.putfield 30, 3) := by decide +kernel
theorem dX1_init_64 : decode cX1_init 64 = .ok (.aload_n 0, 1) := by decide +kernel
theorem dX1_init_65 : decode cX1_init 65 = .ok (.bipush 8, 2) := by decide +kernel
theorem dX1_init_67 : decode cX1_init 67 = .ok (.bipush 8, 2) := by decide +kernel
theorem dX1_init_69 : decode cX1_init 69 = .ok (.multianewarray 22 2, 4) := by decide +kernel
theorem dX1_init_73 : decode cX1_init 73 = .ok (.putfield 33, 3) := by decide +kernel
theorem dX1_init_76 : decode cX1_init 76 = .ok (.aload_n 0, 1) := by decide +kernel
theorem dX1_init_77 : decode cX1_init 77 = .ok (.bipush 8, 2) := by decide +kernel
theorem dX1_init_79 : decode cX1_init 79 = .ok (.bipush 8, 2) := by decide +kernel
theorem dX1_init_81 : decode cX1_init 81 = .ok (.multianewarray 22 2, 4) := by decide +kernel
theorem dX1_init_85 : decode cX1_init 85 = .ok (.putfield 36, 3) := by decide +kernel
theorem dX1_init_88 : decode cX1_init 88 = .ok (.aload_n 0, 1) := by decide +kernel
theorem dX1_init_89 : decode cX1_init 89 = .ok (.bipush 8, 2) := by decide +kernel
theorem dX1_init_91 : decode cX1_init 91 = .ok (.bipush 8, 2) := by decide +kernel
theorem dX1_init_93 : decode cX1_init 93 = .ok (.multianewarray 22 2, 4) := by decide +kernel
theorem dX1_init_97 : decode cX1_init 97 = .ok (.putfield 39, 3) := by decide +kernel
theorem dX1_init_100 : decode cX1_init 100 = .ok (.aload_n 0, 1) := by decide +kernel
theorem dX1_init_101 : decode cX1_init 101 = .ok (.iconst 3, 1) := by decide +kernel
theorem dX1_init_102 : decode cX1_init 102 = .ok (.putfield 42, 3) := by decide +kernel
theorem dX1_init_105 : decode cX1_init 105 = .ok (.aload_n 0, 1) := by decide +kernel
theorem dX1_init_106 : decode cX1_init 106 = .ok (.bipush 6, 2) := by decide +kernel
theorem dX1_init_108 : decode cX1_init 108 = .ok (.putfield 46, 3) := by decide +kernel
theorem dX1_init_111 : decode cX1_init 111 = .ok (.aload_n 0, 1) := by decide +kernel
theorem dX1_init_112 : decode cX1_init 112 = .ok (.iconst 0, 1) := by decide +kernel
theorem dX1_init_113 : decode cX1_init 113 = .ok (.putfield 49, 3) := by decide +kernel
theorem dX1_init_116 : decode cX1_init 116 = .ok (.return_, 1) := by decide +kernel
theorem dX1_hasNews_0 : decode cX1_hasNews 0 = .ok (.aload_n 0, 1) := by decide +kernel
theorem dX1_hasNews_1 : decode cX1_hasNews 1 = .ok (.getfield 24, 3) := by decide +kernel
theorem dX1_hasNews_4 : decode cX1_hasNews 4 = .ok (.iload_n 1, 1) := by decide +kernel
theorem dX1_hasNews_5 : decode cX1_hasNews 5 = .ok (.aaload, 1) := by decide +kernel
theorem dX1_hasNews_6 : decode cX1_hasNews 6 = .ok (.iload_n 2, 1) := by decide +kernel
theorem dX1_hasNews_7 : decode cX1_hasNews 7 = .ok (.iaload, 1) := by decide +kernel
theorem dX1_hasNews_8 : decode cX1_hasNews 8 = .ok (.ifCond .le 7, 3) := by decide +kernel
theorem dX1_hasNews_11 : decode cX1_hasNews 11 = .ok (.iconst 1, 1) := by decide +kernel
theorem dX1_hasNews_12 : decode cX1_hasNews 12 = .ok (.goto 4, 3) := by decide +kernel
theorem dX1_hasNews_15 : decode cX1_hasNews 15 = .ok (.iconst 0, 1) := by decide +kernel
theorem dX1_hasNews_16 : decode cX1_hasNews 16 = .ok (.ireturn, 1) := by decide +kernel
set_option maxRecDepth 20000 in
theorem ggX1_isOld_X1_hasNews : GoodIn wsX1_isOld wsX1_hasNews := goodIn_r _ [6, 7, 8, 9, 10, 11, 12, 13, 14, 15, 16, 17, 18, 19] (by decide +kernel) (by decide +kernel)
set_option maxRecDepth 20000 in
theorem gX1_isOld_X1_hasNews : GoodIn wsX1_isOld (wsV RX1 52 RX1 yX1_hasNews wsX1_hasNews) := goodIn_app (goodIn_of _ (by decide +kernel)) ggX1_isOld_X1_hasNews
theorem dX1_isOld_0 : decode cX1_isOld 0 = .ok (.aload_n 0, 1) := by decide +kernel
theorem dX1_isOld_1 : decode cX1_isOld 1 = .ok (.iload_n 1, 1) := by decide +kernel
theorem dX1_isOld_2 : decode cX1_isOld 2 = .ok (.iload_n 2, 1) := by decide +kernel
theorem dX1_isOld_3 : decode cX1_isOld 3 = .ok (.invokevirtual 52, 3) := by decide +kernel
theorem dX1_isOld_6 : decode cX1_isOld 6 = .ok (.ifCond .eq 18, 3) := by decide +kernel
theorem dX1_isOld_9 : decode cX1_isOld 9 = .ok (.iload_n 3, 1) := by decide +kernel
theorem dX1_isOld_10 : decode cX1_isOld 10 = .ok (.aload_n 0, 1) := by decide +kernel
theorem dX1_isOld_11 : decode cX1_isOld 11 = .ok (.getfield 30, 3) := by decide +kernel
theorem dX1_isOld_14 : decode cX1_isOld 14 = .ok (.iload_n 1, 1) := by decide +kernel
theorem dX1_isOld_15 : decode cX1_isOld 15 = .ok (.aaload, 1) := by decide +kernel
theorem dX1_isOld_16 : decode cX1_isOld 16 = .ok (.iload_n 2, 1) := by decide +kernel
theorem dX1_isOld_17 : decode cX1_isOld 17 = .ok (.iaload, 1) := by decide +kernel
theorem dX1_isOld_18 : decode cX1_isOld 18 = .ok (.isub, 1) := by decide +kernel
theorem dX1_isOld_19 : decode cX1_isOld 19 = .ok (.iload 4, 2) := by decide +kernel
theorem dX1_isOld_21 : decode cX1_isOld 21 = .ok (.if_icmp .le 7, 3) := by decide +kernel
theorem dX1_isOld_24 : decode cX1_isOld 24 = .ok (.iconst 1, 1) := by decide +kernel
theorem dX1_isOld_25 : decode cX1_isOld 25 = .ok (.goto 4, 3) := by decide +kernel
theorem dX1_isOld_28 : decode cX1_isOld 28 = .ok (.iconst 0, 1) := by decide +kernel
theorem dX1_isOld_29 : decode cX1_isOld 29 = .ok (.ireturn, 1) := by decide +kernel
set_option maxRecDepth 20000 in
theorem ggX1_measureAll_X2_levelOf : GoodIn wsX1_measureAll wsX2_levelOf := goodIn_r _ [6, 7, 8, 32, 33, 34, 35, 36, 37, 38, 39] (by decide +kernel) (by decide +kernel)
set_option maxRecDepth 20000 in
theorem gX1_measureAll_X2_levelOf : GoodIn wsX1_measureAll (wsV RX1 56 RX2 yX2_levelOf wsX2_levelOf) := goodIn_app (goodIn_of _ (by decide +kernel)) ggX1_measureAll_X2_levelOf
set_option maxRecDepth 20000 in
theorem ggX1_measureAll_X1_measure : GoodIn wsX1_measureAll wsX1_measure := goodIn_r _ [13, 14, 15, 16, 17, 18, 19, 20, 21, 22, 23, 24, 25, 26, 27, 28, 29, 30, 31] (by decide +kernel) (by decide +kernel)
set_option maxRecDepth 20000 in
theorem gX1_measureAll_X1_measure : GoodIn wsX1_measureAll (wsV RX1 62 RX1 yX1_measure wsX1_measure) := goodIn_app (goodIn_of _ (by decide +kernel)) ggX1_measureAll_X1_measure
theorem dX1_measureAll_0 : decode cX1_measureAll 0 = .ok (.iconst 0, 1) := by decide +kernel
theorem dX1_measureAll_1 : decode cX1_measureAll 1 = .ok (.istore_n 3, 1) := by decide +kernel
theorem dX1_measureAll_2 : decode cX1_measureAll 2 = .ok (.iload_n 3, 1) := by decide +kernel
theorem dX1_measureAll_3 : decode cX1_measureAll 3 = .ok (.bipush 8, 2) := by decide +kernel
theorem dX1_measureAll_5 : decode cX1_measureAll 5 = .ok (.if_icmp .ge 29, 3) := by decide +kernel
theorem dX1_measureAll_8 : decode cX1_measureAll 8 = .ok (.aload_n 0, 1) := by decide +kernel
theorem dX1_measureAll_9 : decode cX1_measureAll 9 = .ok (.getfield 9, 3) := by decide +kernel
theorem dX1_measureAll_12 : decode cX1_measureAll 12 = .ok (.iload_n 3, 1) := by decide +kernel
theorem dX1_measureAll_13 : decode cX1_measureAll 13 = .ok (.baload, 1) := by decide +kernel
theorem dX1_measureAll_14 : decode cX1_measureAll 14 = .ok (.ifCond .ne 14, 3) := by decide +kernel
theorem dX1_measureAll_17 : decode cX1_measureAll 17 = .ok (.aload_n 0, 1) := by decide +kernel
theorem dX1_measureAll_18 : decode cX1_measureAll 18 = .ok (.iload_n 3, 1) := by decide +kernel
theorem dX1_measureAll_19 : decode cX1_measureAll 19 = .ok (.aload_n 1, 1) := by decide +kernel
theorem dX1_measureAll_20 : decode cX1_measureAll 20 = .ok (.iload_n 3, 1) := by decide +kernel
theorem dX1_measureAll_21 : decode cX1_measureAll 21 = .ok (.invokevirtual 56, 3) := by decide +kernel
theorem dX1_measureAll_24 : decode cX1_measureAll 24 = .ok (.iload_n 2, 1) := by decide +kernel
theorem dX1_measureAll_25 : decode cX1_measureAll 25 = .ok (.invokevirtual 62, 3) := by decide +kernel
theorem dX1_measureAll_28 : decode cX1_measureAll 28 = .ok (.iinc 3 1, 3) := by decide +kernel
theorem dX1_measureAll_31 : decode cX1_measureAll 31 = .ok (.goto (-29), 3) := by decide +kernel
theorem dX1_measureAll_34 : decode cX1_measureAll 34 = .ok (.return_, 1) := by decide +kernel
theorem dX1_measure_0 : decode cX1_measure 0 = .ok (.aload_n 0, 1) := by decide +kernel
theorem dX1_measure_1 : decode cX1_measure 1 = .ok (.getfield 15, 3) := by decide +kernel
theorem dX1_measure_4 : decode cX1_measure 4 = .ok (.iload_n 1, 1) := by decide +kernel
theorem dX1_measure_5 : decode cX1_measure 5 = .ok (.baload, 1) := by decide +kernel
theorem dX1_measure_6 : decode cX1_measure 6 = .ok (.ifCond .ne 12, 3) := by decide +kernel
theorem dX1_measure_9 : decode cX1_measure 9 = .ok (.aload_n 0, 1) := by decide +kernel
theorem dX1_measure_10 : decode cX1_measure 10 = .ok (.getfield 27, 3) := by decide +kernel
theorem dX1_measure_13 : decode cX1_measure 13 = .ok (.iload_n 1, 1) := by decide +kernel
theorem dX1_measure_14 : decode cX1_measure 14 = .ok (.aaload, 1) := by decide +kernel
theorem dX1_measure_15 : decode cX1_measure 15 = .ok (.iload_n 1, 1) := by decide +kernel
theorem dX1_measure_16 : decode cX1_measure 16 = .ok (.iload_n 2, 1) := by decide +kernel
theorem dX1_measure_17 : decode cX1_measure 17 = .ok (.iastore, 1) := by decide +kernel
theorem dX1_measure_18 : decode cX1_measure 18 = .ok (.aload_n 0, 1) := by decide +kernel
theorem dX1_measure_19 : decode cX1_measure 19 = .ok (.getfield 30, 3) := by decide +kernel
theorem dX1_measure_22 : decode cX1_measure 22 = .ok (.iload_n 1, 1) := by decide +kernel
theorem dX1_measure_23 : decode cX1_measure 23 = .ok (.aaload, 1) := by decide +kernel
theorem dX1_measure_24 : decode cX1_measure 24 = .ok (.iload_n 1, 1) := by decide +kernel
theorem dX1_measure_25 : decode cX1_measure 25 = .ok (.iload_n 3, 1) := by decide +kernel
theorem dX1_measure_26 : decode cX1_measure 26 = .ok (.iastore, 1) := by decide +kernel
theorem dX1_measure_27 : decode cX1_measure 27 = .ok (.aload_n 0, 1) := by decide +kernel
theorem dX1_measure_28 : decode cX1_measure 28 = .ok (.getfield 24, 3) := by decide +kernel
theorem dX1_measure_31 : decode cX1_measure 31 = .ok (.iload_n 1, 1) := by decide +kernel
theorem dX1_measure_32 : decode cX1_measure 32 = .ok (.aaload, 1) := by decide +kernel
theorem dX1_measure_33 : decode cX1_measure 33 = .ok (.iload_n 1, 1) := by decide +kernel
theorem dX1_measure_34 : decode cX1_measure 34 = .ok (.dup2, 1) := by decide +kernel
theorem dX1_measure_35 : decode cX1_measure 35 = .ok (.iaload, 1) := by decide +kernel
theorem dX1_measure_36 : decode cX1_measure 36 = .ok (.iconst 1, 1) := by decide +kernel
theorem dX1_measure_37 : decode cX1_measure 37 = .ok (.iadd, 1) := by decide +kernel
theorem dX1_measure_38 : decode cX1_measure 38 = .ok (.iastore, 1) := by decide +kernel
theorem dX1_measure_39 : decode cX1_measure 39 = .ok (.aload_n 0, 1) := by decide +kernel
theorem dX1_measure_40 : decode cX1_measure 40 = .ok (.getfield 33, 3) := by decide +kernel
theorem dX1_measure_43 : decode cX1_measure 43 = .ok (.iload_n 1, 1) := by decide +kernel
theorem dX1_measure_44 : decode cX1_measure 44 = .ok (.aaload, 1) := by decide +kernel
theorem dX1_measure_45 : decode cX1_measure 45 = .ok (.iload_n 1, 1) := by decide +kernel
theorem dX1_measure_46 : decode cX1_measure 46 = .ok (.dup2, 1) := by decide +kernel
theorem dX1_measure_47 : decode cX1_measure 47 = .ok (.iaload, 1) := by decide +kernel
theorem dX1_measure_48 : decode cX1_measure 48 = .ok (.iconst 1, 1) := by decide +kernel
theorem dX1_measure_49 : decode cX1_measure 49 = .ok (.iadd, 1) := by decide +kernel
theorem dX1_measure_50 : decode cX1_measure 50 = .ok (.iastore, 1) := by decide +kernel
theorem dX1_measure_51 : decode cX1_measure 51 = .ok (.aload_n 0, 1) := by decide +kernel
theorem dX1_measure_52 : decode cX1_measure 52 = .ok (.getfield 36, 3) := by decide +kernel
theorem dX1_measure_55 : decode cX1_measure 55 = .ok (.iload_n 1, 1) := by decide +kernel
theorem dX1_measure_56 : decode cX1_measure 56 = .ok (.aaload, 1) := by decide +kernel
theorem dX1_measure_57 : decode cX1_measure 57 = .ok (.iload_n 1, 1) := by decide +kernel
theorem dX1_measure_58 : decode cX1_measure 58 = .ok (.iload_n 3, 1) := by decide +kernel
theorem dX1_measure_59 : decode cX1_measure 59 = .ok (.iastore, 1) := by decide +kernel
theorem dX1_measure_60 : decode cX1_measure 60 = .ok (.return_, 1) := by decide +kernel
set_option maxRecDepth 20000 in
theorem ggX1_callAll_X1_call : GoodIn wsX1_callAll wsX1_call := goodIn_r _ [6, 1, 7, 8, 9, 10, 11, 5, 12, 13, 14, 15, 16, 17, 18, 19, 20, 21, 22, 23, 24, 25, 26, 27, 28, 29, 30, 31, 32, 33, 34, 35, 36, 37, 38, 39, 40, 41, 42, 43, 44, 45, 46] (by decide +kernel) (by decide +kernel)
set_option maxRecDepth 20000 in
theorem gX1_callAll_X1_call : GoodIn wsX1_callAll (wsV RX1 66 RX1 yX1_call wsX1_call) := goodIn_app (goodIn_of _ (by decide +kernel)) ggX1_callAll_X1_call
theorem dX1_callAll_0 : decode cX1_callAll 0 = .ok (.iconst 0, 1) := by decide +kernel
theorem dX1_callAll_1 : decode cX1_callAll 1 = .ok (.istore_n 2, 1) := by decide +kernel
theorem dX1_callAll_2 : decode cX1_callAll 2 = .ok (.iload_n 2, 1) := by decide +kernel
theorem dX1_callAll_3 : decode cX1_callAll 3 = .ok (.bipush 8, 2) := by decide +kernel
theorem dX1_callAll_5 : decode cX1_callAll 5 = .ok (.if_icmp .ge 24, 3) := by decide +kernel
theorem dX1_callAll_8 : decode cX1_callAll 8 = .ok (.aload_n 0, 1) := by decide +kernel
theorem dX1_callAll_9 : decode cX1_callAll 9 = .ok (.getfield 9, 3) := by decide +kernel
theorem dX1_callAll_12 : decode cX1_callAll 12 = .ok (.iload_n 2, 1) := by decide +kernel
theorem dX1_callAll_13 : decode cX1_callAll 13 = .ok (.baload, 1) := by decide +kernel
theorem dX1_callAll_14 : decode cX1_callAll 14 = .ok (.ifCond .ne 9, 3) := by decide +kernel
theorem dX1_callAll_17 : decode cX1_callAll 17 = .ok (.aload_n 0, 1) := by decide +kernel
theorem dX1_callAll_18 : decode cX1_callAll 18 = .ok (.iload_n 2, 1) := by decide +kernel
theorem dX1_callAll_19 : decode cX1_callAll 19 = .ok (.iload_n 1, 1) := by decide +kernel
theorem dX1_callAll_20 : decode cX1_callAll 20 = .ok (.invokevirtual 66, 3) := by decide +kernel
theorem dX1_callAll_23 : decode cX1_callAll 23 = .ok (.iinc 2 1, 3) := by decide +kernel
theorem dX1_callAll_26 : decode cX1_callAll 26 = .ok (.goto (-24), 3) := by decide +kernel
theorem dX1_callAll_29 : decode cX1_callAll 29 = .ok (.return_, 1) := by decide +kernel
set_option maxRecDepth 20000 in
theorem ggX1_call_X1_calledBy : GoodIn wsX1_call wsX1_calledBy := goodIn_r _ [8, 9, 10, 11, 7, 12, 13, 31, 32, 33, 34, 35, 36, 37, 38, 39, 40, 41, 42] (by decide +kernel) (by decide +kernel)
set_option maxRecDepth 20000 in
theorem gX1_call_X1_calledBy : GoodIn wsX1_call (wsV RX1 70 RX1 yX1_calledBy wsX1_calledBy) := goodIn_app (goodIn_of _ (by decide +kernel)) ggX1_call_X1_calledBy
set_option maxRecDepth 20000 in
theorem ggX1_call_X1_tellOneAnother : GoodIn wsX1_call wsX1_tellOneAnother := goodIn_r _ [17, 18, 19, 20, 7, 21, 22, 23, 24, 25, 26, 27, 28, 29, 30, 13, 31, 32, 33, 34, 35, 36, 37, 38, 39, 40, 41, 42] (by decide +kernel) (by decide +kernel)
set_option maxRecDepth 20000 in
theorem gX1_call_X1_tellOneAnother : GoodIn wsX1_call (wsV RX1 74 RX1 yX1_tellOneAnother wsX1_tellOneAnother) := goodIn_app (goodIn_of _ (by decide +kernel)) ggX1_call_X1_tellOneAnother
theorem dX1_call_0 : decode cX1_call 0 = .ok (.aload_n 0, 1) := by decide +kernel
theorem dX1_call_1 : decode cX1_call 1 = .ok (.iload_n 1, 1) := by decide +kernel
theorem dX1_call_2 : decode cX1_call 2 = .ok (.iload_n 2, 1) := by decide +kernel
theorem dX1_call_3 : decode cX1_call 3 = .ok (.invokevirtual 70, 3) := by decide +kernel
theorem dX1_call_6 : decode cX1_call 6 = .ok (.istore_n 3, 1) := by decide +kernel
theorem dX1_call_7 : decode cX1_call 7 = .ok (.iload_n 3, 1) := by decide +kernel
theorem dX1_call_8 : decode cX1_call 8 = .ok (.ifCond .ge 4, 3) := by decide +kernel
theorem dX1_call_11 : decode cX1_call 11 = .ok (.return_, 1) := by decide +kernel
theorem dX1_call_12 : decode cX1_call 12 = .ok (.aload_n 0, 1) := by decide +kernel
theorem dX1_call_13 : decode cX1_call 13 = .ok (.getfield 9, 3) := by decide +kernel
theorem dX1_call_16 : decode cX1_call 16 = .ok (.iload_n 3, 1) := by decide +kernel
theorem dX1_call_17 : decode cX1_call 17 = .ok (.baload, 1) := by decide +kernel
theorem dX1_call_18 : decode cX1_call 18 = .ok (.ifCond .ne 18, 3) := by decide +kernel
theorem dX1_call_21 : decode cX1_call 21 = .ok (.aload_n 0, 1) := by decide +kernel
theorem dX1_call_22 : decode cX1_call 22 = .ok (.getfield 18, 3) := by decide +kernel
theorem dX1_call_25 : decode cX1_call 25 = .ok (.iload_n 3, 1) := by decide +kernel
theorem dX1_call_26 : decode cX1_call 26 = .ok (.iaload, 1) := by decide +kernel
theorem dX1_call_27 : decode cX1_call 27 = .ok (.aload_n 0, 1) := by decide +kernel
theorem dX1_call_28 : decode cX1_call 28 = .ok (.getfield 18, 3) := by decide +kernel
theorem dX1_call_31 : decode cX1_call 31 = .ok (.iload_n 1, 1) := by decide +kernel
theorem dX1_call_32 : decode cX1_call 32 = .ok (.iaload, 1) := by decide +kernel
theorem dX1_call_33 : decode cX1_call 33 = .ok (.if_icmp .eq 16, 3) := by decide +kernel
theorem dX1_call_36 : decode cX1_call 36 = .ok (.aload_n 0, 1) := by decide +kernel
theorem dX1_call_37 : decode cX1_call 37 = .ok (.dup, 1) := by decide +kernel
theorem dX1_call_38 : decode cX1_call 38 = .ok (.getfield 49, 3) := by decide +kernel
theorem dX1_call_41 : decode cX1_call 41 = .ok (.iconst 1, 1) := by decide +kernel
theorem dX1_call_42 : decode cX1_call 42 = .ok (.iadd, 1) := by decide +kernel
theorem dX1_call_43 : decode cX1_call 43 = .ok (.putfield 49, 3) := by decide +kernel
theorem dX1_call_46 : decode cX1_call 46 = .ok (.goto 10, 3) := by decide +kernel
theorem dX1_call_49 : decode cX1_call 49 = .ok (.aload_n 0, 1) := by decide +kernel
theorem dX1_call_50 : decode cX1_call 50 = .ok (.iload_n 1, 1) := by decide +kernel
theorem dX1_call_51 : decode cX1_call 51 = .ok (.iload_n 3, 1) := by decide +kernel
theorem dX1_call_52 : decode cX1_call 52 = .ok (.iload_n 2, 1) := by decide +kernel
theorem dX1_call_53 : decode cX1_call 53 = .ok (.invokevirtual 74, 3) := by decide +kernel
theorem dX1_call_56 : decode cX1_call 56 = .ok (.return_, 1) := by decide +kernel
set_option maxRecDepth 20000 in
theorem ggX1_calledBy_X1_isCallable : GoodIn wsX1_calledBy wsX1_isCallable := goodIn_r _ [5, 6, 7, 8, 9, 10, 11, 12, 13, 14, 15, 16, 17, 18] (by decide +kernel) (by decide +kernel)
set_option maxRecDepth 20000 in
theorem gX1_calledBy_X1_isCallable : GoodIn wsX1_calledBy (wsV RX1 77 RX1 yX1_isCallable wsX1_isCallable) := goodIn_app (goodIn_of _ (by decide +kernel)) ggX1_calledBy_X1_isCallable
theorem dX1_calledBy_0 : decode cX1_calledBy 0 = .ok (.iload_n 2, 1) := by decide +kernel
theorem dX1_calledBy_1 : decode cX1_calledBy 1 = .ok (.iconst 4, 1) := by decide +kernel
theorem dX1_calledBy_2 : decode cX1_calledBy 2 = .ok (.irem, 1) := by decide +kernel
theorem dX1_calledBy_3 : decode cX1_calledBy 3 = .ok (.ifCond .ne 7, 3) := by decide +kernel
theorem dX1_calledBy_6 : decode cX1_calledBy 6 = .ok (.iconst 1, 1) := by decide +kernel
theorem dX1_calledBy_7 : decode cX1_calledBy 7 = .ok (.goto 4, 3) := by decide +kernel
theorem dX1_calledBy_10 : decode cX1_calledBy 10 = .ok (.iconst 0, 1) := by decide +kernel
theorem dX1_calledBy_11 : decode cX1_calledBy 11 = .ok (.istore_n 3, 1) := by decide +kernel
theorem dX1_calledBy_12 : decode cX1_calledBy 12 = .ok (.iconst 0, 1) := by decide +kernel
theorem dX1_calledBy_13 : decode cX1_calledBy 13 = .ok (.istore 4, 2) := by decide +kernel
theorem dX1_calledBy_15 : decode cX1_calledBy 15 = .ok (.iconst 0, 1) := by decide +kernel
theorem dX1_calledBy_16 : decode cX1_calledBy 16 = .ok (.istore 5, 2) := by decide +kernel
theorem dX1_calledBy_18 : decode cX1_calledBy 18 = .ok (.iload 5, 2) := by decide +kernel
theorem dX1_calledBy_20 : decode cX1_calledBy 20 = .ok (.bipush 8, 2) := by decide +kernel
theorem dX1_calledBy_22 : decode cX1_calledBy 22 = .ok (.if_icmp .ge 23, 3) := by decide +kernel
theorem dX1_calledBy_25 : decode cX1_calledBy 25 = .ok (.aload_n 0, 1) := by decide +kernel
theorem dX1_calledBy_26 : decode cX1_calledBy 26 = .ok (.iload_n 1, 1) := by decide +kernel
theorem dX1_calledBy_27 : decode cX1_calledBy 27 = .ok (.iload 5, 2) := by decide +kernel
theorem dX1_calledBy_29 : decode cX1_calledBy 29 = .ok (.iload_n 3, 1) := by decide +kernel
theorem dX1_calledBy_30 : decode cX1_calledBy 30 = .ok (.invokevirtual 77, 3) := by decide +kernel
theorem dX1_calledBy_33 : decode cX1_calledBy 33 = .ok (.ifCond .eq 6, 3) := by decide +kernel
theorem dX1_calledBy_36 : decode cX1_calledBy 36 = .ok (.iinc 4 1, 3) := by decide +kernel
theorem dX1_calledBy_39 : decode cX1_calledBy 39 = .ok (.iinc 5 1, 3) := by decide +kernel
theorem dX1_calledBy_42 : decode cX1_calledBy 42 = .ok (.goto (-24), 3) := by decide +kernel
theorem dX1_calledBy_45 : decode cX1_calledBy 45 = .ok (.iload 4, 2) := by decide +kernel
theorem dX1_calledBy_47 : decode cX1_calledBy 47 = .ok (.iconst 1, 1) := by decide +kernel
theorem dX1_calledBy_48 : decode cX1_calledBy 48 = .ok (.if_icmp .ge 5, 3) := by decide +kernel
theorem dX1_calledBy_51 : decode cX1_calledBy 51 = .ok (.iconst (-1), 1) := by decide +kernel
theorem dX1_calledBy_52 : decode cX1_calledBy 52 = .ok (.ireturn, 1) := by decide +kernel
theorem dX1_calledBy_53 : decode cX1_calledBy 53 = .ok (.iconst 5, 1) := by decide +kernel
theorem dX1_calledBy_54 : decode cX1_calledBy 54 = .ok (.iload_n 2, 1) := by decide +kernel
theorem dX1_calledBy_55 : decode cX1_calledBy 55 = .ok (.imul, 1) := by decide +kernel
theorem dX1_calledBy_56 : decode cX1_calledBy 56 = .ok (.iconst 3, 1) := by decide +kernel
theorem dX1_calledBy_57 : decode cX1_calledBy 57 = .ok (.iload_n 1, 1) := by decide +kernel
theorem dX1_calledBy_58 : decode cX1_calledBy 58 = .ok (.imul, 1) := by decide +kernel
theorem dX1_calledBy_59 : decode cX1_calledBy 59 = .ok (.iadd, 1) := by decide +kernel
theorem dX1_calledBy_60 : decode cX1_calledBy 60 = .ok (.iload 4, 2) := by decide +kernel
theorem dX1_calledBy_62 : decode cX1_calledBy 62 = .ok (.irem, 1) := by decide +kernel
theorem dX1_calledBy_63 : decode cX1_calledBy 63 = .ok (.istore 5, 2) := by decide +kernel
theorem dX1_calledBy_65 : decode cX1_calledBy 65 = .ok (.iconst 0, 1) := by decide +kernel
theorem dX1_calledBy_66 : decode cX1_calledBy 66 = .ok (.istore 6, 2) := by decide +kernel
theorem dX1_calledBy_68 : decode cX1_calledBy 68 = .ok (.iload 6, 2) := by decide +kernel
theorem dX1_calledBy_70 : decode cX1_calledBy 70 = .ok (.bipush 8, 2) := by decide +kernel
theorem dX1_calledBy_72 : decode cX1_calledBy 72 = .ok (.if_icmp .ge 31, 3) := by decide +kernel
theorem dX1_calledBy_75 : decode cX1_calledBy 75 = .ok (.aload_n 0, 1) := by decide +kernel
theorem dX1_calledBy_76 : decode cX1_calledBy 76 = .ok (.iload_n 1, 1) := by decide +kernel
theorem dX1_calledBy_77 : decode cX1_calledBy 77 = .ok (.iload 6, 2) := by decide +kernel
theorem dX1_calledBy_79 : decode cX1_calledBy 79 = .ok (.iload_n 3, 1) := by decide +kernel
theorem dX1_calledBy_80 : decode cX1_calledBy 80 = .ok (.invokevirtual 77, 3) := by decide +kernel
theorem dX1_calledBy_83 : decode cX1_calledBy 83 = .ok (.ifCond .eq 14, 3) := by decide +kernel
theorem dX1_calledBy_86 : decode cX1_calledBy 86 = .ok (.iload 5, 2) := by decide +kernel
theorem dX1_calledBy_88 : decode cX1_calledBy 88 = .ok (.ifCond .ne 6, 3) := by decide +kernel
theorem dX1_calledBy_91 : decode cX1_calledBy 91 = .ok (.iload 6, 2) := by decide +kernel
theorem dX1_calledBy_93 : decode cX1_calledBy 93 = .ok (.ireturn, 1) := by decide +kernel
theorem dX1_calledBy_94 : decode cX1_calledBy 94 = .ok (.iinc 5 (-1), 3) := by decide +kernel
theorem dX1_calledBy_97 : decode cX1_calledBy 97 = .ok (.iinc 6 1, 3) := by decide +kernel
theorem dX1_calledBy_100 : decode cX1_calledBy 100 = .ok (.goto (-32), 3) := by decide +kernel
theorem dX1_calledBy_103 : decode cX1_calledBy 103 = .ok (.iconst (-1), 1) := by decide +kernel
theorem dX1_calledBy_104 : decode cX1_calledBy 104 = .ok (.ireturn, 1) := by decide +kernel
theorem dX1_isCallable_0 : decode cX1_isCallable 0 = .ok (.iload_n 2, 1) := by decide +kernel
theorem dX1_isCallable_1 : decode cX1_isCallable 1 = .ok (.iload_n 1, 1) := by decide +kernel
theorem dX1_isCallable_2 : decode cX1_isCallable 2 = .ok (.if_icmp .eq 23, 3) := by decide +kernel
theorem dX1_isCallable_5 : decode cX1_isCallable 5 = .ok (.iload_n 3, 1) := by decide +kernel
theorem dX1_isCallable_6 : decode cX1_isCallable 6 = .ok (.ifCond .ne 15, 3) := by decide +kernel
theorem dX1_isCallable_9 : decode cX1_isCallable 9 = .ok (.aload_n 0, 1) := by decide +kernel
theorem dX1_isCallable_10 : decode cX1_isCallable 10 = .ok (.getfield 39, 3) := by decide +kernel
theorem dX1_isCallable_13 : decode cX1_isCallable 13 = .ok (.iload_n 1, 1) := by decide +kernel
theorem dX1_isCallable_14 : decode cX1_isCallable 14 = .ok (.aaload, 1) := by decide +kernel
theorem dX1_isCallable_15 : decode cX1_isCallable 15 = .ok (.iload_n 2, 1) := by decide +kernel
theorem dX1_isCallable_16 : decode cX1_isCallable 16 = .ok (.iaload, 1) := by decide +kernel
theorem dX1_isCallable_17 : decode cX1_isCallable 17 = .ok (.iconst 2, 1) := by decide +kernel
theorem dX1_isCallable_18 : decode cX1_isCallable 18 = .ok (.if_icmp .eq 7, 3) := by decide +kernel
theorem dX1_isCallable_21 : decode cX1_isCallable 21 = .ok (.iconst 1, 1) := by decide +kernel
theorem dX1_isCallable_22 : decode cX1_isCallable 22 = .ok (.goto 4, 3) := by decide +kernel
theorem dX1_isCallable_25 : decode cX1_isCallable 25 = .ok (.iconst 0, 1) := by decide +kernel
theorem dX1_isCallable_26 : decode cX1_isCallable 26 = .ok (.ireturn, 1) := by decide +kernel
set_option maxRecDepth 20000 in
theorem ggX1_tellOneAnother_X1_takeNews : GoodIn wsX1_tellOneAnother wsX1_takeNews := goodIn_r _ [5, 6, 7, 8, 16, 17, 18, 19, 20, 21, 22, 23, 24, 25, 26, 27] (by decide +kernel) (by decide +kernel)
set_option maxRecDepth 20000 in
theorem gX1_tellOneAnother_X1_takeNews : GoodIn wsX1_tellOneAnother (wsV RX1 81 RX1 yX1_takeNews wsX1_takeNews) := goodIn_app (goodIn_of _ (by decide +kernel)) ggX1_tellOneAnother_X1_takeNews
set_option maxRecDepth 20000 in
theorem ggX1_tellOneAnother_X1_takeBeat : GoodIn wsX1_tellOneAnother wsX1_takeBeat := goodIn_r _ [12, 13, 14, 15, 16, 17, 18, 19, 20, 21, 22, 23, 24, 25, 26, 27] (by decide +kernel) (by decide +kernel)
set_option maxRecDepth 20000 in
theorem gX1_tellOneAnother_X1_takeBeat : GoodIn wsX1_tellOneAnother (wsV RX1 84 RX1 yX1_takeBeat wsX1_takeBeat) := goodIn_app (goodIn_of _ (by decide +kernel)) ggX1_tellOneAnother_X1_takeBeat
theorem dX1_tellOneAnother_0 : decode cX1_tellOneAnother 0 = .ok (.iconst 0, 1) := by decide +kernel
theorem dX1_tellOneAnother_1 : decode cX1_tellOneAnother 1 = .ok (.istore 4, 2) := by decide +kernel
theorem dX1_tellOneAnother_3 : decode cX1_tellOneAnother 3 = .ok (.iload 4, 2) := by decide +kernel
theorem dX1_tellOneAnother_5 : decode cX1_tellOneAnother 5 = .ok (.bipush 8, 2) := by decide +kernel
theorem dX1_tellOneAnother_7 : decode cX1_tellOneAnother 7 = .ok (.if_icmp .ge 43, 3) := by decide +kernel
theorem dX1_tellOneAnother_10 : decode cX1_tellOneAnother 10 = .ok (.aload_n 0, 1) := by decide +kernel
theorem dX1_tellOneAnother_11 : decode cX1_tellOneAnother 11 = .ok (.iload_n 1, 1) := by decide +kernel
theorem dX1_tellOneAnother_12 : decode cX1_tellOneAnother 12 = .ok (.iload_n 2, 1) := by decide +kernel
theorem dX1_tellOneAnother_13 : decode cX1_tellOneAnother 13 = .ok (.iload 4, 2) := by decide +kernel
theorem dX1_tellOneAnother_15 : decode cX1_tellOneAnother 15 = .ok (.invokevirtual 81, 3) := by decide +kernel
theorem dX1_tellOneAnother_18 : decode cX1_tellOneAnother 18 = .ok (.aload_n 0, 1) := by decide +kernel
theorem dX1_tellOneAnother_19 : decode cX1_tellOneAnother 19 = .ok (.iload_n 2, 1) := by decide +kernel
theorem dX1_tellOneAnother_20 : decode cX1_tellOneAnother 20 = .ok (.iload_n 1, 1) := by decide +kernel
theorem dX1_tellOneAnother_21 : decode cX1_tellOneAnother 21 = .ok (.iload 4, 2) := by decide +kernel
theorem dX1_tellOneAnother_23 : decode cX1_tellOneAnother 23 = .ok (.invokevirtual 81, 3) := by decide +kernel
theorem dX1_tellOneAnother_26 : decode cX1_tellOneAnother 26 = .ok (.aload_n 0, 1) := by decide +kernel
theorem dX1_tellOneAnother_27 : decode cX1_tellOneAnother 27 = .ok (.iload_n 1, 1) := by decide +kernel
theorem dX1_tellOneAnother_28 : decode cX1_tellOneAnother 28 = .ok (.iload_n 2, 1) := by decide +kernel
theorem dX1_tellOneAnother_29 : decode cX1_tellOneAnother 29 = .ok (.iload 4, 2) := by decide +kernel
theorem dX1_tellOneAnother_31 : decode cX1_tellOneAnother 31 = .ok (.iload_n 3, 1) := by decide +kernel
theorem dX1_tellOneAnother_32 : decode cX1_tellOneAnother 32 = .ok (.invokevirtual 84, 3) := by decide +kernel
theorem dX1_tellOneAnother_35 : decode cX1_tellOneAnother 35 = .ok (.aload_n 0, 1) := by decide +kernel
theorem dX1_tellOneAnother_36 : decode cX1_tellOneAnother 36 = .ok (.iload_n 2, 1) := by decide +kernel
theorem dX1_tellOneAnother_37 : decode cX1_tellOneAnother 37 = .ok (.iload_n 1, 1) := by decide +kernel
theorem dX1_tellOneAnother_38 : decode cX1_tellOneAnother 38 = .ok (.iload 4, 2) := by decide +kernel
theorem dX1_tellOneAnother_40 : decode cX1_tellOneAnother 40 = .ok (.iload_n 3, 1) := by decide +kernel
theorem dX1_tellOneAnother_41 : decode cX1_tellOneAnother 41 = .ok (.invokevirtual 84, 3) := by decide +kernel
theorem dX1_tellOneAnother_44 : decode cX1_tellOneAnother 44 = .ok (.iinc 4 1, 3) := by decide +kernel
theorem dX1_tellOneAnother_47 : decode cX1_tellOneAnother 47 = .ok (.goto (-44), 3) := by decide +kernel
theorem dX1_tellOneAnother_50 : decode cX1_tellOneAnother 50 = .ok (.return_, 1) := by decide +kernel
theorem dX1_takeNews_0 : decode cX1_takeNews 0 = .ok (.aload_n 0, 1) := by decide +kernel
theorem dX1_takeNews_1 : decode cX1_takeNews 1 = .ok (.getfield 24, 3) := by decide +kernel
theorem dX1_takeNews_4 : decode cX1_takeNews 4 = .ok (.iload_n 1, 1) := by decide +kernel
theorem dX1_takeNews_5 : decode cX1_takeNews 5 = .ok (.aaload, 1) := by decide +kernel
theorem dX1_takeNews_6 : decode cX1_takeNews 6 = .ok (.iload_n 3, 1) := by decide +kernel
theorem dX1_takeNews_7 : decode cX1_takeNews 7 = .ok (.iaload, 1) := by decide +kernel
theorem dX1_takeNews_8 : decode cX1_takeNews 8 = .ok (.aload_n 0, 1) := by decide +kernel
theorem dX1_takeNews_9 : decode cX1_takeNews 9 = .ok (.getfield 24, 3) := by decide +kernel
theorem dX1_takeNews_12 : decode cX1_takeNews 12 = .ok (.iload_n 2, 1) := by decide +kernel
theorem dX1_takeNews_13 : decode cX1_takeNews 13 = .ok (.aaload, 1) := by decide +kernel
theorem dX1_takeNews_14 : decode cX1_takeNews 14 = .ok (.iload_n 3, 1) := by decide +kernel
theorem dX1_takeNews_15 : decode cX1_takeNews 15 = .ok (.iaload, 1) := by decide +kernel
theorem dX1_takeNews_16 : decode cX1_takeNews 16 = .ok (.if_icmp .ge 51, 3) := by decide +kernel
theorem dX1_takeNews_19 : decode cX1_takeNews 19 = .ok (.aload_n 0, 1) := by decide +kernel
theorem dX1_takeNews_20 : decode cX1_takeNews 20 = .ok (.getfield 24, 3) := by decide +kernel
theorem dX1_takeNews_23 : decode cX1_takeNews 23 = .ok (.iload_n 1, 1) := by decide +kernel
theorem dX1_takeNews_24 : decode cX1_takeNews 24 = .ok (.aaload, 1) := by decide +kernel
theorem dX1_takeNews_25 : decode cX1_takeNews 25 = .ok (.iload_n 3, 1) := by decide +kernel
theorem dX1_takeNews_26 : decode cX1_takeNews 26 = .ok (.aload_n 0, 1) := by decide +kernel
theorem dX1_takeNews_27 : decode cX1_takeNews 27 = .ok (.getfield 24, 3) := by decide +kernel
theorem dX1_takeNews_30 : decode cX1_takeNews 30 = .ok (.iload_n 2, 1) := by decide +kernel
theorem dX1_takeNews_31 : decode cX1_takeNews 31 = .ok (.aaload, 1) := by decide +kernel
theorem dX1_takeNews_32 : decode cX1_takeNews 32 = .ok (.iload_n 3, 1) := by decide +kernel
theorem dX1_takeNews_33 : decode cX1_takeNews 33 = .ok (.iaload, 1) := by decide +kernel
theorem dX1_takeNews_34 : decode cX1_takeNews 34 = .ok (.iastore, 1) := by decide +kernel
theorem dX1_takeNews_35 : decode cX1_takeNews 35 = .ok (.aload_n 0, 1) := by decide +kernel
theorem dX1_takeNews_36 : decode cX1_takeNews 36 = .ok (.getfield 27, 3) := by decide +kernel
theorem dX1_takeNews_39 : decode cX1_takeNews 39 = .ok (.iload_n 1, 1) := by decide +kernel
theorem dX1_takeNews_40 : decode cX1_takeNews 40 = .ok (.aaload, 1) := by decide +kernel
theorem dX1_takeNews_41 : decode cX1_takeNews 41 = .ok (.iload_n 3, 1) := by decide +kernel
theorem dX1_takeNews_42 : decode cX1_takeNews 42 = .ok (.aload_n 0, 1) := by decide +kernel
theorem dX1_takeNews_43 : decode cX1_takeNews 43 = .ok (.getfield 27, 3) := by decide +kernel
theorem dX1_takeNews_46 : decode cX1_takeNews 46 = .ok (.iload_n 2, 1) := by decide +kernel
theorem dX1_takeNews_47 : decode cX1_takeNews 47 = .ok (.aaload, 1) := by decide +kernel
theorem dX1_takeNews_48 : decode cX1_takeNews 48 = .ok (.iload_n 3, 1) := by decide +kernel
theorem dX1_takeNews_49 : decode cX1_takeNews 49 = .ok (.iaload, 1) := by decide +kernel
theorem dX1_takeNews_50 : decode cX1_takeNews 50 = .ok (.iastore, 1) := by decide +kernel
theorem dX1_takeNews_51 : decode cX1_takeNews 51 = .ok (.aload_n 0, 1) := by decide +kernel
theorem dX1_takeNews_52 : decode cX1_takeNews 52 = .ok (.getfield 30, 3) := by decide +kernel
theorem dX1_takeNews_55 : decode cX1_takeNews 55 = .ok (.iload_n 1, 1) := by decide +kernel
theorem dX1_takeNews_56 : decode cX1_takeNews 56 = .ok (.aaload, 1) := by decide +kernel
theorem dX1_takeNews_57 : decode cX1_takeNews 57 = .ok (.iload_n 3, 1) := by decide +kernel
theorem dX1_takeNews_58 : decode cX1_takeNews 58 = .ok (.aload_n 0, 1) := by decide +kernel
theorem dX1_takeNews_59 : decode cX1_takeNews 59 = .ok (.getfield 30, 3) := by decide +kernel
theorem dX1_takeNews_62 : decode cX1_takeNews 62 = .ok (.iload_n 2, 1) := by decide +kernel
theorem dX1_takeNews_63 : decode cX1_takeNews 63 = .ok (.aaload, 1) := by decide +kernel
theorem dX1_takeNews_64 : decode cX1_takeNews 64 = .ok (.iload_n 3, 1) := by decide +kernel
theorem dX1_takeNews_65 : decode cX1_takeNews 65 = .ok (.iaload, 1) := by decide +kernel
theorem dX1_takeNews_66 : decode cX1_takeNews 66 = .ok (.iastore, 1) := by decide +kernel
theorem dX1_takeNews_67 : decode cX1_takeNews 67 = .ok (.return_, 1) := by decide +kernel
theorem dX1_takeBeat_0 : decode cX1_takeBeat 0 = .ok (.aload_n 0, 1) := by decide +kernel
theorem dX1_takeBeat_1 : decode cX1_takeBeat 1 = .ok (.getfield 33, 3) := by decide +kernel
theorem dX1_takeBeat_4 : decode cX1_takeBeat 4 = .ok (.iload_n 1, 1) := by decide +kernel
theorem dX1_takeBeat_5 : decode cX1_takeBeat 5 = .ok (.aaload, 1) := by decide +kernel
theorem dX1_takeBeat_6 : decode cX1_takeBeat 6 = .ok (.iload_n 3, 1) := by decide +kernel
theorem dX1_takeBeat_7 : decode cX1_takeBeat 7 = .ok (.iaload, 1) := by decide +kernel
theorem dX1_takeBeat_8 : decode cX1_takeBeat 8 = .ok (.aload_n 0, 1) := by decide +kernel
theorem dX1_takeBeat_9 : decode cX1_takeBeat 9 = .ok (.getfield 33, 3) := by decide +kernel
theorem dX1_takeBeat_12 : decode cX1_takeBeat 12 = .ok (.iload_n 2, 1) := by decide +kernel
theorem dX1_takeBeat_13 : decode cX1_takeBeat 13 = .ok (.aaload, 1) := by decide +kernel
theorem dX1_takeBeat_14 : decode cX1_takeBeat 14 = .ok (.iload_n 3, 1) := by decide +kernel
theorem dX1_takeBeat_15 : decode cX1_takeBeat 15 = .ok (.iaload, 1) := by decide +kernel
theorem dX1_takeBeat_16 : decode cX1_takeBeat 16 = .ok (.if_icmp .ge 38, 3) := by decide +kernel
theorem dX1_takeBeat_19 : decode cX1_takeBeat 19 = .ok (.aload_n 0, 1) := by decide +kernel
theorem dX1_takeBeat_20 : decode cX1_takeBeat 20 = .ok (.getfield 33, 3) := by decide +kernel
theorem dX1_takeBeat_23 : decode cX1_takeBeat 23 = .ok (.iload_n 1, 1) := by decide +kernel
theorem dX1_takeBeat_24 : decode cX1_takeBeat 24 = .ok (.aaload, 1) := by decide +kernel
theorem dX1_takeBeat_25 : decode cX1_takeBeat 25 = .ok (.iload_n 3, 1) := by decide +kernel
theorem dX1_takeBeat_26 : decode cX1_takeBeat 26 = .ok (.aload_n 0, 1) := by decide +kernel
theorem dX1_takeBeat_27 : decode cX1_takeBeat 27 = .ok (.getfield 33, 3) := by decide +kernel
theorem dX1_takeBeat_30 : decode cX1_takeBeat 30 = .ok (.iload_n 2, 1) := by decide +kernel
theorem dX1_takeBeat_31 : decode cX1_takeBeat 31 = .ok (.aaload, 1) := by decide +kernel
theorem dX1_takeBeat_32 : decode cX1_takeBeat 32 = .ok (.iload_n 3, 1) := by decide +kernel
theorem dX1_takeBeat_33 : decode cX1_takeBeat 33 = .ok (.iaload, 1) := by decide +kernel
theorem dX1_takeBeat_34 : decode cX1_takeBeat 34 = .ok (.iastore, 1) := by decide +kernel
theorem dX1_takeBeat_35 : decode cX1_takeBeat 35 = .ok (.aload_n 0, 1) := by decide +kernel
theorem dX1_takeBeat_36 : decode cX1_takeBeat 36 = .ok (.getfield 36, 3) := by decide +kernel
theorem dX1_takeBeat_39 : decode cX1_takeBeat 39 = .ok (.iload_n 1, 1) := by decide +kernel
theorem dX1_takeBeat_40 : decode cX1_takeBeat 40 = .ok (.aaload, 1) := by decide +kernel
theorem dX1_takeBeat_41 : decode cX1_takeBeat 41 = .ok (.iload_n 3, 1) := by decide +kernel
theorem dX1_takeBeat_42 : decode cX1_takeBeat 42 = .ok (.iload 4, 2) := by decide +kernel
theorem dX1_takeBeat_44 : decode cX1_takeBeat 44 = .ok (.iastore, 1) := by decide +kernel
theorem dX1_takeBeat_45 : decode cX1_takeBeat 45 = .ok (.aload_n 0, 1) := by decide +kernel
theorem dX1_takeBeat_46 : decode cX1_takeBeat 46 = .ok (.getfield 39, 3) := by decide +kernel
theorem dX1_takeBeat_49 : decode cX1_takeBeat 49 = .ok (.iload_n 1, 1) := by decide +kernel
theorem dX1_takeBeat_50 : decode cX1_takeBeat 50 = .ok (.aaload, 1) := by decide +kernel
theorem dX1_takeBeat_51 : decode cX1_takeBeat 51 = .ok (.iload_n 3, 1) := by decide +kernel
theorem dX1_takeBeat_52 : decode cX1_takeBeat 52 = .ok (.iconst 0, 1) := by decide +kernel
theorem dX1_takeBeat_53 : decode cX1_takeBeat 53 = .ok (.iastore, 1) := by decide +kernel
theorem dX1_takeBeat_54 : decode cX1_takeBeat 54 = .ok (.return_, 1) := by decide +kernel
set_option maxRecDepth 20000 in
theorem ggX1_lookAll_X1_lookAtOthers : GoodIn wsX1_lookAll wsX1_lookAtOthers := goodIn_r _ [6, 7, 8, 9, 10, 11, 5, 12, 13, 14, 15, 16, 17, 18, 19, 20, 21, 22, 23, 24, 25, 26] (by decide +kernel) (by decide +kernel)
set_option maxRecDepth 20000 in
theorem gX1_lookAll_X1_lookAtOthers : GoodIn wsX1_lookAll (wsV RX1 88 RX1 yX1_lookAtOthers wsX1_lookAtOthers) := goodIn_app (goodIn_of _ (by decide +kernel)) ggX1_lookAll_X1_lookAtOthers
theorem dX1_lookAll_0 : decode cX1_lookAll 0 = .ok (.iconst 0, 1) := by decide +kernel
theorem dX1_lookAll_1 : decode cX1_lookAll 1 = .ok (.istore_n 2, 1) := by decide +kernel
theorem dX1_lookAll_2 : decode cX1_lookAll 2 = .ok (.iload_n 2, 1) := by decide +kernel
theorem dX1_lookAll_3 : decode cX1_lookAll 3 = .ok (.bipush 8, 2) := by decide +kernel
theorem dX1_lookAll_5 : decode cX1_lookAll 5 = .ok (.if_icmp .ge 24, 3) := by decide +kernel
theorem dX1_lookAll_8 : decode cX1_lookAll 8 = .ok (.aload_n 0, 1) := by decide +kernel
theorem dX1_lookAll_9 : decode cX1_lookAll 9 = .ok (.getfield 9, 3) := by decide +kernel
theorem dX1_lookAll_12 : decode cX1_lookAll 12 = .ok (.iload_n 2, 1) := by decide +kernel
theorem dX1_lookAll_13 : decode cX1_lookAll 13 = .ok (.baload, 1) := by decide +kernel
theorem dX1_lookAll_14 : decode cX1_lookAll 14 = .ok (.ifCond .ne 9, 3) := by decide +kernel
theorem dX1_lookAll_17 : decode cX1_lookAll 17 = .ok (.aload_n 0, 1) := by decide +kernel
theorem dX1_lookAll_18 : decode cX1_lookAll 18 = .ok (.iload_n 2, 1) := by decide +kernel
theorem dX1_lookAll_19 : decode cX1_lookAll 19 = .ok (.iload_n 1, 1) := by decide +kernel
theorem dX1_lookAll_20 : decode cX1_lookAll 20 = .ok (.invokevirtual 88, 3) := by decide +kernel
theorem dX1_lookAll_23 : decode cX1_lookAll 23 = .ok (.iinc 2 1, 3) := by decide +kernel
theorem dX1_lookAll_26 : decode cX1_lookAll 26 = .ok (.goto (-24), 3) := by decide +kernel
theorem dX1_lookAll_29 : decode cX1_lookAll 29 = .ok (.return_, 1) := by decide +kernel
set_option maxRecDepth 20000 in
theorem ggX1_lookAtOthers_X1_statusAfter : GoodIn wsX1_lookAtOthers wsX1_statusAfter := goodIn_r _ [7, 8, 9, 10, 11, 12, 13, 14, 15, 16, 17, 18, 19, 20, 21] (by decide +kernel) (by decide +kernel)
set_option maxRecDepth 20000 in
theorem gX1_lookAtOthers_X1_statusAfter : GoodIn wsX1_lookAtOthers (wsV RX1 91 RX1 yX1_statusAfter wsX1_statusAfter) := goodIn_app (goodIn_of _ (by decide +kernel)) ggX1_lookAtOthers_X1_statusAfter
theorem dX1_lookAtOthers_0 : decode cX1_lookAtOthers 0 = .ok (.iconst 0, 1) := by decide +kernel
theorem dX1_lookAtOthers_1 : decode cX1_lookAtOthers 1 = .ok (.istore_n 3, 1) := by decide +kernel
theorem dX1_lookAtOthers_2 : decode cX1_lookAtOthers 2 = .ok (.iload_n 3, 1) := by decide +kernel
theorem dX1_lookAtOthers_3 : decode cX1_lookAtOthers 3 = .ok (.bipush 8, 2) := by decide +kernel
theorem dX1_lookAtOthers_5 : decode cX1_lookAtOthers 5 = .ok (.if_icmp .ge 36, 3) := by decide +kernel
theorem dX1_lookAtOthers_8 : decode cX1_lookAtOthers 8 = .ok (.iload_n 3, 1) := by decide +kernel
theorem dX1_lookAtOthers_9 : decode cX1_lookAtOthers 9 = .ok (.iload_n 1, 1) := by decide +kernel
theorem dX1_lookAtOthers_10 : decode cX1_lookAtOthers 10 = .ok (.if_icmp .eq 25, 3) := by decide +kernel
theorem dX1_lookAtOthers_13 : decode cX1_lookAtOthers 13 = .ok (.aload_n 0, 1) := by decide +kernel
theorem dX1_lookAtOthers_14 : decode cX1_lookAtOthers 14 = .ok (.getfield 39, 3) := by decide +kernel
theorem dX1_lookAtOthers_17 : decode cX1_lookAtOthers 17 = .ok (.iload_n 1, 1) := by decide +kernel
theorem dX1_lookAtOthers_18 : decode cX1_lookAtOthers 18 = .ok (.aaload, 1) := by decide +kernel
theorem dX1_lookAtOthers_19 : decode cX1_lookAtOthers 19 = .ok (.iload_n 3, 1) := by decide +kernel
theorem dX1_lookAtOthers_20 : decode cX1_lookAtOthers 20 = .ok (.aload_n 0, 1) := by decide +kernel
theorem dX1_lookAtOthers_21 : decode cX1_lookAtOthers 21 = .ok (.iload_n 2, 1) := by decide +kernel
theorem dX1_lookAtOthers_22 : decode cX1_lookAtOthers 22 = .ok (.aload_n 0, 1) := by decide +kernel
theorem dX1_lookAtOthers_23 : decode cX1_lookAtOthers 23 = .ok (.getfield 36, 3) := by decide +kernel
theorem dX1_lookAtOthers_26 : decode cX1_lookAtOthers 26 = .ok (.iload_n 1, 1) := by decide +kernel
theorem dX1_lookAtOthers_27 : decode cX1_lookAtOthers 27 = .ok (.aaload, 1) := by decide +kernel
theorem dX1_lookAtOthers_28 : decode cX1_lookAtOthers 28 = .ok (.iload_n 3, 1) := by decide +kernel
theorem dX1_lookAtOthers_29 : decode cX1_lookAtOthers 29 = .ok (.iaload, 1) := by decide +kernel
theorem dX1_lookAtOthers_30 : decode cX1_lookAtOthers 30 = .ok (.isub, 1) := by decide +kernel
theorem dX1_lookAtOthers_31 : decode cX1_lookAtOthers 31 = .ok (.invokevirtual 91, 3) := by decide +kernel
theorem dX1_lookAtOthers_34 : decode cX1_lookAtOthers 34 = .ok (.iastore, 1) := by decide +kernel
theorem dX1_lookAtOthers_35 : decode cX1_lookAtOthers 35 = .ok (.iinc 3 1, 3) := by decide +kernel
theorem dX1_lookAtOthers_38 : decode cX1_lookAtOthers 38 = .ok (.goto (-36), 3) := by decide +kernel
theorem dX1_lookAtOthers_41 : decode cX1_lookAtOthers 41 = .ok (.return_, 1) := by decide +kernel
theorem dX1_statusAfter_0 : decode cX1_statusAfter 0 = .ok (.iload_n 1, 1) := by decide +kernel
theorem dX1_statusAfter_1 : decode cX1_statusAfter 1 = .ok (.aload_n 0, 1) := by decide +kernel
theorem dX1_statusAfter_2 : decode cX1_statusAfter 2 = .ok (.getfield 46, 3) := by decide +kernel
theorem dX1_statusAfter_5 : decode cX1_statusAfter 5 = .ok (.if_icmp .le 5, 3) := by decide +kernel
theorem dX1_statusAfter_8 : decode cX1_statusAfter 8 = .ok (.iconst 2, 1) := by decide +kernel
theorem dX1_statusAfter_9 : decode cX1_statusAfter 9 = .ok (.ireturn, 1) := by decide +kernel
theorem dX1_statusAfter_10 : decode cX1_statusAfter 10 = .ok (.iload_n 1, 1) := by decide +kernel
theorem dX1_statusAfter_11 : decode cX1_statusAfter 11 = .ok (.aload_n 0, 1) := by decide +kernel
theorem dX1_statusAfter_12 : decode cX1_statusAfter 12 = .ok (.getfield 42, 3) := by decide +kernel
theorem dX1_statusAfter_15 : decode cX1_statusAfter 15 = .ok (.if_icmp .le 7, 3) := by decide +kernel
theorem dX1_statusAfter_18 : decode cX1_statusAfter 18 = .ok (.iconst 1, 1) := by decide +kernel
theorem dX1_statusAfter_19 : decode cX1_statusAfter 19 = .ok (.goto 4, 3) := by decide +kernel
theorem dX1_statusAfter_22 : decode cX1_statusAfter 22 = .ok (.iconst 0, 1) := by decide +kernel
theorem dX1_statusAfter_23 : decode cX1_statusAfter 23 = .ok (.ireturn, 1) := by decide +kernel
theorem dX1_freshestOf_0 : decode cX1_freshestOf 0 = .ok (.iconst (-1), 1) := by decide +kernel
theorem dX1_freshestOf_1 : decode cX1_freshestOf 1 = .ok (.istore_n 2, 1) := by decide +kernel
theorem dX1_freshestOf_2 : decode cX1_freshestOf 2 = .ok (.iconst 0, 1) := by decide +kernel
theorem dX1_freshestOf_3 : decode cX1_freshestOf 3 = .ok (.istore_n 3, 1) := by decide +kernel
theorem dX1_freshestOf_4 : decode cX1_freshestOf 4 = .ok (.iconst 0, 1) := by decide +kernel
theorem dX1_freshestOf_5 : decode cX1_freshestOf 5 = .ok (.istore 4, 2) := by decide +kernel
theorem dX1_freshestOf_7 : decode cX1_freshestOf 7 = .ok (.iload 4, 2) := by decide +kernel
theorem dX1_freshestOf_9 : decode cX1_freshestOf 9 = .ok (.bipush 8, 2) := by decide +kernel
theorem dX1_freshestOf_11 : decode cX1_freshestOf 11 = .ok (.if_icmp .ge 35, 3) := by decide +kernel
theorem dX1_freshestOf_14 : decode cX1_freshestOf 14 = .ok (.aload_n 0, 1) := by decide +kernel
theorem dX1_freshestOf_15 : decode cX1_freshestOf 15 = .ok (.getfield 24, 3) := by decide +kernel
theorem dX1_freshestOf_18 : decode cX1_freshestOf 18 = .ok (.iload 4, 2) := by decide +kernel
theorem dX1_freshestOf_20 : decode cX1_freshestOf 20 = .ok (.aaload, 1) := by decide +kernel
theorem dX1_freshestOf_21 : decode cX1_freshestOf 21 = .ok (.iload_n 1, 1) := by decide +kernel
theorem dX1_freshestOf_22 : decode cX1_freshestOf 22 = .ok (.iaload, 1) := by decide +kernel
theorem dX1_freshestOf_23 : decode cX1_freshestOf 23 = .ok (.iload_n 3, 1) := by decide +kernel
theorem dX1_freshestOf_24 : decode cX1_freshestOf 24 = .ok (.if_icmp .le 16, 3) := by decide +kernel
theorem dX1_freshestOf_27 : decode cX1_freshestOf 27 = .ok (.aload_n 0, 1) := by decide +kernel
theorem dX1_freshestOf_28 : decode cX1_freshestOf 28 = .ok (.getfield 24, 3) := by decide +kernel
theorem dX1_freshestOf_31 : decode cX1_freshestOf 31 = .ok (.iload 4, 2) := by decide +kernel
theorem dX1_freshestOf_33 : decode cX1_freshestOf 33 = .ok (.aaload, 1) := by decide +kernel
theorem dX1_freshestOf_34 : decode cX1_freshestOf 34 = .ok (.iload_n 1, 1) := by decide +kernel
theorem dX1_freshestOf_35 : decode cX1_freshestOf 35 = .ok (.iaload, 1) := by decide +kernel
theorem dX1_freshestOf_36 : decode cX1_freshestOf 36 = .ok (.istore_n 3, 1) := by decide +kernel
theorem dX1_freshestOf_37 : decode cX1_freshestOf 37 = .ok (.iload 4, 2) := by decide +kernel
theorem dX1_freshestOf_39 : decode cX1_freshestOf 39 = .ok (.istore_n 2, 1) := by decide +kernel
theorem dX1_freshestOf_40 : decode cX1_freshestOf 40 = .ok (.iinc 4 1, 3) := by decide +kernel
theorem dX1_freshestOf_43 : decode cX1_freshestOf 43 = .ok (.goto (-36), 3) := by decide +kernel
theorem dX1_freshestOf_46 : decode cX1_freshestOf 46 = .ok (.iload_n 2, 1) := by decide +kernel
theorem dX1_freshestOf_47 : decode cX1_freshestOf 47 = .ok (.ireturn, 1) := by decide +kernel
set_option maxRecDepth 20000 in
theorem ggX1_believersOf_X1_hasNews : GoodIn wsX1_believersOf wsX1_hasNews := goodIn_r _ [7, 8, 9, 10, 11, 12, 13, 14, 15, 16, 17, 18, 19, 20] (by decide +kernel) (by decide +kernel)
set_option maxRecDepth 20000 in
theorem gX1_believersOf_X1_hasNews : GoodIn wsX1_believersOf (wsV RX1 52 RX1 yX1_hasNews wsX1_hasNews) := goodIn_app (goodIn_of _ (by decide +kernel)) ggX1_believersOf_X1_hasNews
theorem dX1_believersOf_0 : decode cX1_believersOf 0 = .ok (.iconst 0, 1) := by decide +kernel
theorem dX1_believersOf_1 : decode cX1_believersOf 1 = .ok (.istore_n 3, 1) := by decide +kernel
theorem dX1_believersOf_2 : decode cX1_believersOf 2 = .ok (.iconst 0, 1) := by decide +kernel
theorem dX1_believersOf_3 : decode cX1_believersOf 3 = .ok (.istore 4, 2) := by decide +kernel
theorem dX1_believersOf_5 : decode cX1_believersOf 5 = .ok (.iload 4, 2) := by decide +kernel
theorem dX1_believersOf_7 : decode cX1_believersOf 7 = .ok (.bipush 8, 2) := by decide +kernel
theorem dX1_believersOf_9 : decode cX1_believersOf 9 = .ok (.if_icmp .ge 57, 3) := by decide +kernel
theorem dX1_believersOf_12 : decode cX1_believersOf 12 = .ok (.aload_n 0, 1) := by decide +kernel
theorem dX1_believersOf_13 : decode cX1_believersOf 13 = .ok (.getfield 9, 3) := by decide +kernel
theorem dX1_believersOf_16 : decode cX1_believersOf 16 = .ok (.iload 4, 2) := by decide +kernel
theorem dX1_believersOf_18 : decode cX1_believersOf 18 = .ok (.baload, 1) := by decide +kernel
theorem dX1_believersOf_19 : decode cX1_believersOf 19 = .ok (.ifCond .ne 17, 3) := by decide +kernel
theorem dX1_believersOf_22 : decode cX1_believersOf 22 = .ok (.aload_n 0, 1) := by decide +kernel
theorem dX1_believersOf_23 : decode cX1_believersOf 23 = .ok (.iload 4, 2) := by decide +kernel
theorem dX1_believersOf_25 : decode cX1_believersOf 25 = .ok (.iload_n 1, 1) := by decide +kernel
theorem dX1_believersOf_26 : decode cX1_believersOf 26 = .ok (.invokevirtual 52, 3) := by decide +kernel
theorem dX1_believersOf_29 : decode cX1_believersOf 29 = .ok (.ifCond .eq 7, 3) := by decide +kernel
theorem dX1_believersOf_32 : decode cX1_believersOf 32 = .ok (.iconst 1, 1) := by decide +kernel
theorem dX1_believersOf_33 : decode cX1_believersOf 33 = .ok (.goto 4, 3) := by decide +kernel
theorem dX1_believersOf_36 : decode cX1_believersOf 36 = .ok (.iconst 0, 1) := by decide +kernel
theorem dX1_believersOf_37 : decode cX1_believersOf 37 = .ok (.istore 5, 2) := by decide +kernel
theorem dX1_believersOf_39 : decode cX1_believersOf 39 = .ok (.iload 5, 2) := by decide +kernel
theorem dX1_believersOf_41 : decode cX1_believersOf 41 = .ok (.ifCond .eq 19, 3) := by decide +kernel
theorem dX1_believersOf_44 : decode cX1_believersOf 44 = .ok (.aload_n 0, 1) := by decide +kernel
theorem dX1_believersOf_45 : decode cX1_believersOf 45 = .ok (.getfield 27, 3) := by decide +kernel
theorem dX1_believersOf_48 : decode cX1_believersOf 48 = .ok (.iload 4, 2) := by decide +kernel
theorem dX1_believersOf_50 : decode cX1_believersOf 50 = .ok (.aaload, 1) := by decide +kernel
theorem dX1_believersOf_51 : decode cX1_believersOf 51 = .ok (.iload_n 1, 1) := by decide +kernel
theorem dX1_believersOf_52 : decode cX1_believersOf 52 = .ok (.iaload, 1) := by decide +kernel
theorem dX1_believersOf_53 : decode cX1_believersOf 53 = .ok (.iload_n 2, 1) := by decide +kernel
theorem dX1_believersOf_54 : decode cX1_believersOf 54 = .ok (.if_icmp .ne 6, 3) := by decide +kernel
theorem dX1_believersOf_57 : decode cX1_believersOf 57 = .ok (.iinc 3 1, 3) := by decide +kernel
theorem dX1_believersOf_60 : decode cX1_believersOf 60 = .ok (.iinc 4 1, 3) := by decide +kernel
theorem dX1_believersOf_63 : decode cX1_believersOf 63 = .ok (.goto (-58), 3) := by decide +kernel
theorem dX1_believersOf_66 : decode cX1_believersOf 66 = .ok (.iload_n 3, 1) := by decide +kernel
theorem dX1_believersOf_67 : decode cX1_believersOf 67 = .ok (.ireturn, 1) := by decide +kernel
set_option maxRecDepth 20000 in
theorem ggX1_countUnnoticed_X1_countHolders : GoodIn wsX1_countUnnoticed wsX1_countHolders := goodIn_r _ [6, 1, 7, 8, 9, 10, 11, 12, 13, 14, 15, 16, 17, 18, 19] (by decide +kernel) (by decide +kernel)
set_option maxRecDepth 20000 in
theorem gX1_countUnnoticed_X1_countHolders : GoodIn wsX1_countUnnoticed (wsV RX1 94 RX1 yX1_countHolders wsX1_countHolders) := goodIn_app (goodIn_of _ (by decide +kernel)) ggX1_countUnnoticed_X1_countHolders
theorem dX1_countUnnoticed_0 : decode cX1_countUnnoticed 0 = .ok (.iconst 0, 1) := by decide +kernel
theorem dX1_countUnnoticed_1 : decode cX1_countUnnoticed 1 = .ok (.istore_n 1, 1) := by decide +kernel
theorem dX1_countUnnoticed_2 : decode cX1_countUnnoticed 2 = .ok (.iconst 0, 1) := by decide +kernel
theorem dX1_countUnnoticed_3 : decode cX1_countUnnoticed 3 = .ok (.istore_n 2, 1) := by decide +kernel
theorem dX1_countUnnoticed_4 : decode cX1_countUnnoticed 4 = .ok (.iload_n 2, 1) := by decide +kernel
theorem dX1_countUnnoticed_5 : decode cX1_countUnnoticed 5 = .ok (.bipush 8, 2) := by decide +kernel
theorem dX1_countUnnoticed_7 : decode cX1_countUnnoticed 7 = .ok (.if_icmp .ge 30, 3) := by decide +kernel
theorem dX1_countUnnoticed_10 : decode cX1_countUnnoticed 10 = .ok (.aload_n 0, 1) := by decide +kernel
theorem dX1_countUnnoticed_11 : decode cX1_countUnnoticed 11 = .ok (.getfield 9, 3) := by decide +kernel
theorem dX1_countUnnoticed_14 : decode cX1_countUnnoticed 14 = .ok (.iload_n 2, 1) := by decide +kernel
theorem dX1_countUnnoticed_15 : decode cX1_countUnnoticed 15 = .ok (.baload, 1) := by decide +kernel
theorem dX1_countUnnoticed_16 : decode cX1_countUnnoticed 16 = .ok (.ifCond .eq 15, 3) := by decide +kernel
theorem dX1_countUnnoticed_19 : decode cX1_countUnnoticed 19 = .ok (.aload_n 0, 1) := by decide +kernel
theorem dX1_countUnnoticed_20 : decode cX1_countUnnoticed 20 = .ok (.iload_n 2, 1) := by decide +kernel
theorem dX1_countUnnoticed_21 : decode cX1_countUnnoticed 21 = .ok (.iconst 0, 1) := by decide +kernel
theorem dX1_countUnnoticed_22 : decode cX1_countUnnoticed 22 = .ok (.invokevirtual 94, 3) := by decide +kernel
theorem dX1_countUnnoticed_25 : decode cX1_countUnnoticed 25 = .ok (.ifCond .le 6, 3) := by decide +kernel
theorem dX1_countUnnoticed_28 : decode cX1_countUnnoticed 28 = .ok (.iinc 1 1, 3) := by decide +kernel
theorem dX1_countUnnoticed_31 : decode cX1_countUnnoticed 31 = .ok (.iinc 2 1, 3) := by decide +kernel
theorem dX1_countUnnoticed_34 : decode cX1_countUnnoticed 34 = .ok (.goto (-30), 3) := by decide +kernel
theorem dX1_countUnnoticed_37 : decode cX1_countUnnoticed 37 = .ok (.iload_n 1, 1) := by decide +kernel
theorem dX1_countUnnoticed_38 : decode cX1_countUnnoticed 38 = .ok (.ireturn, 1) := by decide +kernel
set_option maxRecDepth 20000 in
theorem ggX1_countMistaken_X1_countHolders : GoodIn wsX1_countMistaken wsX1_countHolders := goodIn_r _ [6, 1, 7, 8, 9, 10, 11, 12, 13, 14, 15, 16, 17, 18, 19] (by decide +kernel) (by decide +kernel)
set_option maxRecDepth 20000 in
theorem gX1_countMistaken_X1_countHolders : GoodIn wsX1_countMistaken (wsV RX1 94 RX1 yX1_countHolders wsX1_countHolders) := goodIn_app (goodIn_of _ (by decide +kernel)) ggX1_countMistaken_X1_countHolders
theorem dX1_countMistaken_0 : decode cX1_countMistaken 0 = .ok (.iconst 0, 1) := by decide +kernel
theorem dX1_countMistaken_1 : decode cX1_countMistaken 1 = .ok (.istore_n 1, 1) := by decide +kernel
theorem dX1_countMistaken_2 : decode cX1_countMistaken 2 = .ok (.iconst 0, 1) := by decide +kernel
theorem dX1_countMistaken_3 : decode cX1_countMistaken 3 = .ok (.istore_n 2, 1) := by decide +kernel
theorem dX1_countMistaken_4 : decode cX1_countMistaken 4 = .ok (.iload_n 2, 1) := by decide +kernel
theorem dX1_countMistaken_5 : decode cX1_countMistaken 5 = .ok (.bipush 8, 2) := by decide +kernel
theorem dX1_countMistaken_7 : decode cX1_countMistaken 7 = .ok (.if_icmp .ge 27, 3) := by decide +kernel
theorem dX1_countMistaken_10 : decode cX1_countMistaken 10 = .ok (.aload_n 0, 1) := by decide +kernel
theorem dX1_countMistaken_11 : decode cX1_countMistaken 11 = .ok (.getfield 9, 3) := by decide +kernel
theorem dX1_countMistaken_14 : decode cX1_countMistaken 14 = .ok (.iload_n 2, 1) := by decide +kernel
theorem dX1_countMistaken_15 : decode cX1_countMistaken 15 = .ok (.baload, 1) := by decide +kernel
theorem dX1_countMistaken_16 : decode cX1_countMistaken 16 = .ok (.ifCond .ne 12, 3) := by decide +kernel
theorem dX1_countMistaken_19 : decode cX1_countMistaken 19 = .ok (.iload_n 1, 1) := by decide +kernel
theorem dX1_countMistaken_20 : decode cX1_countMistaken 20 = .ok (.aload_n 0, 1) := by decide +kernel
theorem dX1_countMistaken_21 : decode cX1_countMistaken 21 = .ok (.iload_n 2, 1) := by decide +kernel
theorem dX1_countMistaken_22 : decode cX1_countMistaken 22 = .ok (.iconst 2, 1) := by decide +kernel
theorem dX1_countMistaken_23 : decode cX1_countMistaken 23 = .ok (.invokevirtual 94, 3) := by decide +kernel
theorem dX1_countMistaken_26 : decode cX1_countMistaken 26 = .ok (.iadd, 1) := by decide +kernel
theorem dX1_countMistaken_27 : decode cX1_countMistaken 27 = .ok (.istore_n 1, 1) := by decide +kernel
theorem dX1_countMistaken_28 : decode cX1_countMistaken 28 = .ok (.iinc 2 1, 3) := by decide +kernel
theorem dX1_countMistaken_31 : decode cX1_countMistaken 31 = .ok (.goto (-27), 3) := by decide +kernel
theorem dX1_countMistaken_34 : decode cX1_countMistaken 34 = .ok (.iload_n 1, 1) := by decide +kernel
theorem dX1_countMistaken_35 : decode cX1_countMistaken 35 = .ok (.ireturn, 1) := by decide +kernel
theorem dX1_countHolders_0 : decode cX1_countHolders 0 = .ok (.iconst 0, 1) := by decide +kernel
theorem dX1_countHolders_1 : decode cX1_countHolders 1 = .ok (.istore_n 3, 1) := by decide +kernel
theorem dX1_countHolders_2 : decode cX1_countHolders 2 = .ok (.iconst 0, 1) := by decide +kernel
theorem dX1_countHolders_3 : decode cX1_countHolders 3 = .ok (.istore 4, 2) := by decide +kernel
theorem dX1_countHolders_5 : decode cX1_countHolders 5 = .ok (.iload 4, 2) := by decide +kernel
theorem dX1_countHolders_7 : decode cX1_countHolders 7 = .ok (.bipush 8, 2) := by decide +kernel
theorem dX1_countHolders_9 : decode cX1_countHolders 9 = .ok (.if_icmp .ge 35, 3) := by decide +kernel
theorem dX1_countHolders_12 : decode cX1_countHolders 12 = .ok (.aload_n 0, 1) := by decide +kernel
theorem dX1_countHolders_13 : decode cX1_countHolders 13 = .ok (.getfield 9, 3) := by decide +kernel
theorem dX1_countHolders_16 : decode cX1_countHolders 16 = .ok (.iload 4, 2) := by decide +kernel
theorem dX1_countHolders_18 : decode cX1_countHolders 18 = .ok (.baload, 1) := by decide +kernel
theorem dX1_countHolders_19 : decode cX1_countHolders 19 = .ok (.ifCond .ne 19, 3) := by decide +kernel
theorem dX1_countHolders_22 : decode cX1_countHolders 22 = .ok (.aload_n 0, 1) := by decide +kernel
theorem dX1_countHolders_23 : decode cX1_countHolders 23 = .ok (.getfield 39, 3) := by decide +kernel
theorem dX1_countHolders_26 : decode cX1_countHolders 26 = .ok (.iload 4, 2) := by decide +kernel
theorem dX1_countHolders_28 : decode cX1_countHolders 28 = .ok (.aaload, 1) := by decide +kernel
theorem dX1_countHolders_29 : decode cX1_countHolders 29 = .ok (.iload_n 1, 1) := by decide +kernel
theorem dX1_countHolders_30 : decode cX1_countHolders 30 = .ok (.iaload, 1) := by decide +kernel
theorem dX1_countHolders_31 : decode cX1_countHolders 31 = .ok (.iload_n 2, 1) := by decide +kernel
theorem dX1_countHolders_32 : decode cX1_countHolders 32 = .ok (.if_icmp .ne 6, 3) := by decide +kernel
theorem dX1_countHolders_35 : decode cX1_countHolders 35 = .ok (.iinc 3 1, 3) := by decide +kernel
theorem dX1_countHolders_38 : decode cX1_countHolders 38 = .ok (.iinc 4 1, 3) := by decide +kernel
theorem dX1_countHolders_41 : decode cX1_countHolders 41 = .ok (.goto (-36), 3) := by decide +kernel
theorem dX1_countHolders_44 : decode cX1_countHolders 44 = .ok (.iload_n 3, 1) := by decide +kernel
theorem dX1_countHolders_45 : decode cX1_countHolders 45 = .ok (.ireturn, 1) := by decide +kernel
set_option maxRecDepth 20000 in
theorem ggX2_init_J7_fill_53178 : GoodIn wsX2_init wsJ7_fill_53178 := goodIn_r _ [16] (by decide +kernel) (by decide +kernel)
set_option maxRecDepth 20000 in
theorem gX2_init_J7_fill_53178 : GoodIn wsX2_init (va_wsS RX2 37 yJ7_fill_53178 wsJ7_fill_53178) := goodIn_app (goodIn_of _ (by decide +kernel)) ggX2_init_J7_fill_53178
theorem dX2_init_0 : decode cX2_init 0 = .ok (.aload_n 0, 1) := by decide +kernel
theorem dX2_init_1 : decode cX2_init 1 = .ok (.invokespecial 3, 3) := by decide +kernel
theorem dX2_init_4 : decode cX2_init 4 = .ok (.aload_n 0, 1) := by decide +kernel
theorem dX2_init_5 : decode cX2_init 5 = .ok (.bipush 8, 2) := by decide +kernel
theorem dX2_init_7 : decode cX2_init 7 = .ok (.newarray .int, 2) := by decide +kernel
theorem dX2_init_9 : decode cX2_init 9 = .ok (.putfield 9, 3) := by decide +kernel
theorem dX2_init_12 : decode cX2_init 12 = .ok (.aload_n 0, 1) := by decide +kernel
theorem dX2_init_13 : decode cX2_init 13 = .ok (.bipush 8, 2) := by decide +kernel
theorem dX2_init_15 : decode cX2_init 15 = .ok (.newarray .int, 2) := by decide +kernel
theorem dX2_init_17 : decode cX2_init 17 = .ok (.putfield 15, 3) := by decide +kernel
theorem dX2_init_20 : decode cX2_init 20 = .ok (.aload_n 0, 1) := by decide +kernel
theorem dX2_init_21 : decode cX2_init 21 = .ok (.bipush 8, 2) := by decide +kernel
theorem dX2_init_23 : decode cX2_init 23 = .ok (.newarray .int, 2) := by decide +kernel
theorem dX2_init_25 : decode cX2_init 25 = .ok (.putfield 18, 3) := by decide +kernel
theorem dX2_init_28 : decode cX2_init 28 = .ok (.aload_n 0, 1) := by decide +kernel
theorem dX2_init_29 : decode cX2_init 29 = .ok (.bipush 8, 2) := by decide +kernel
theorem dX2_init_31 : decode cX2_init 31 = .ok (.newarray .int, 2) := by decide +kernel
theorem dX2_init_33 : decode cX2_init 33 = .ok (.putfield 21, 3) := by decide +kernel
theorem dX2_init_36 : decode cX2_init 36 = .ok (.aload_n 0, 1) := by decide +kernel
theorem dX2_init_37 : decode cX2_init 37 = .ok (.bipush 8, 2) := by decide +kernel
theorem dX2_init_39 : decode cX2_init 39 = .ok (.newarray .int, 2) := by decide +kernel
theorem dX2_init_41 : decode cX2_init 41 = .ok (.putfield 24, 3) := by decide +kernel
theorem dX2_init_44 : decode cX2_init 44 = .ok (.aload_n 0, 1) := by decide +kernel
theorem dX2_init_45 : decode cX2_init 45 = .ok (.bipush 8, 2) := by decide +kernel
theorem dX2_init_47 : decode cX2_init 47 = .ok (.newarray .int, 2) := by decide +kernel
theorem dX2_init_49 : decode cX2_init 49 = .ok (.putfield 27, 3) := by decide +kernel
theorem dX2_init_52 : decode cX2_init 52 = .ok (.aload_n 0, 1) := by decide +kernel
theorem dX2_init_53 : decode cX2_init 53 = .ok (.bipush 8, 2) := by decide +kernel
theorem dX2_init_55 : decode cX2_init 55 = .ok (.newarray .int, 2) := by decide +kernel
theorem dX2_init_57 : decode cX2_init 57 = .ok (.putfield 30, 3) := by decide +kernel
theorem dX2_init_60 : decode cX2_init 60 = .ok (.aload_n 0, 1) := by decide +kernel
theorem dX2_init_61 : decode cX2_init 61 = .ok (.iconst 0, 1) := by decide +kernel
theorem dX2_init_62 : decode cX2_init 62 = .ok (.putfield 33, 3) := by decide +kernel
theorem dX2_init_65 : decode cX2_init 65 = .ok (.aload_n 0, 1) := by decide +kernel
theorem dX2_init_66 : decode cX2_init 66 = .ok (.getfield 9, 3) := by decide +kernel
theorem dX2_init_69 : decode cX2_init 69 = .ok (.bipush 10, 2) := by decide +kernel
theorem dX2_init_71 : decode cX2_init 71 = .ok (.invokestatic 37, 3) := by decide +kernel
theorem dX2_init_74 : decode cX2_init 74 = .ok (.aload_n 0, 1) := by decide +kernel
theorem dX2_init_75 : decode cX2_init 75 = .ok (.getfield 15, 3) := by decide +kernel
theorem dX2_init_78 : decode cX2_init 78 = .ok (.bipush 100, 2) := by decide +kernel
theorem dX2_init_80 : decode cX2_init 80 = .ok (.invokestatic 37, 3) := by decide +kernel
theorem dX2_init_83 : decode cX2_init 83 = .ok (.return_, 1) := by decide +kernel
theorem dX2_levelOf_0 : decode cX2_levelOf 0 = .ok (.aload_n 0, 1) := by decide +kernel
theorem dX2_levelOf_1 : decode cX2_levelOf 1 = .ok (.getfield 9, 3) := by decide +kernel
theorem dX2_levelOf_4 : decode cX2_levelOf 4 = .ok (.iload_n 1, 1) := by decide +kernel
theorem dX2_levelOf_5 : decode cX2_levelOf 5 = .ok (.iaload, 1) := by decide +kernel
theorem dX2_levelOf_6 : decode cX2_levelOf 6 = .ok (.istore_n 2, 1) := by decide +kernel
theorem dX2_levelOf_7 : decode cX2_levelOf 7 = .ok (.iload_n 2, 1) := by decide +kernel
theorem dX2_levelOf_8 : decode cX2_levelOf 8 = .ok (.iconst 1, 1) := by decide +kernel
theorem dX2_levelOf_9 : decode cX2_levelOf 9 = .ok (.if_icmp .ge 7, 3) := by decide +kernel
theorem dX2_levelOf_12 : decode cX2_levelOf 12 = .ok (.iconst 0, 1) := by decide +kernel
theorem dX2_levelOf_13 : decode cX2_levelOf 13 = .ok (.goto 11, 3) := by decide +kernel
theorem dX2_levelOf_16 : decode cX2_levelOf 16 = .ok (.aload_n 0, 1) := by decide +kernel
theorem dX2_levelOf_17 : decode cX2_levelOf 17 = .ok (.getfield 18, 3) := by decide +kernel
theorem dX2_levelOf_20 : decode cX2_levelOf 20 = .ok (.iload_n 1, 1) := by decide +kernel
theorem dX2_levelOf_21 : decode cX2_levelOf 21 = .ok (.iaload, 1) := by decide +kernel
theorem dX2_levelOf_22 : decode cX2_levelOf 22 = .ok (.iload_n 2, 1) := by decide +kernel
theorem dX2_levelOf_23 : decode cX2_levelOf 23 = .ok (.idiv, 1) := by decide +kernel
theorem dX2_levelOf_24 : decode cX2_levelOf 24 = .ok (.ireturn, 1) := by decide +kernel
theorem dX2_balanceOf_0 : decode cX2_balanceOf 0 = .ok (.aload_n 0, 1) := by decide +kernel
theorem dX2_balanceOf_1 : decode cX2_balanceOf 1 = .ok (.getfield 24, 3) := by decide +kernel
theorem dX2_balanceOf_4 : decode cX2_balanceOf 4 = .ok (.iload_n 1, 1) := by decide +kernel
theorem dX2_balanceOf_5 : decode cX2_balanceOf 5 = .ok (.iaload, 1) := by decide +kernel
theorem dX2_balanceOf_6 : decode cX2_balanceOf 6 = .ok (.istore_n 2, 1) := by decide +kernel
theorem dX2_balanceOf_7 : decode cX2_balanceOf 7 = .ok (.iload_n 1, 1) := by decide +kernel
theorem dX2_balanceOf_8 : decode cX2_balanceOf 8 = .ok (.ifCond .le 23, 3) := by decide +kernel
theorem dX2_balanceOf_11 : decode cX2_balanceOf 11 = .ok (.iload_n 2, 1) := by decide +kernel
theorem dX2_balanceOf_12 : decode cX2_balanceOf 12 = .ok (.aload_n 0, 1) := by decide +kernel
theorem dX2_balanceOf_13 : decode cX2_balanceOf 13 = .ok (.getfield 27, 3) := by decide +kernel
theorem dX2_balanceOf_16 : decode cX2_balanceOf 16 = .ok (.iload_n 1, 1) := by decide +kernel
theorem dX2_balanceOf_17 : decode cX2_balanceOf 17 = .ok (.iconst 1, 1) := by decide +kernel
theorem dX2_balanceOf_18 : decode cX2_balanceOf 18 = .ok (.isub, 1) := by decide +kernel
theorem dX2_balanceOf_19 : decode cX2_balanceOf 19 = .ok (.iaload, 1) := by decide +kernel
theorem dX2_balanceOf_20 : decode cX2_balanceOf 20 = .ok (.aload_n 0, 1) := by decide +kernel
theorem dX2_balanceOf_21 : decode cX2_balanceOf 21 = .ok (.getfield 30, 3) := by decide +kernel
theorem dX2_balanceOf_24 : decode cX2_balanceOf 24 = .ok (.iload_n 1, 1) := by decide +kernel
theorem dX2_balanceOf_25 : decode cX2_balanceOf 25 = .ok (.iconst 1, 1) := by decide +kernel
theorem dX2_balanceOf_26 : decode cX2_balanceOf 26 = .ok (.isub, 1) := by decide +kernel
theorem dX2_balanceOf_27 : decode cX2_balanceOf 27 = .ok (.iaload, 1) := by decide +kernel
theorem dX2_balanceOf_28 : decode cX2_balanceOf 28 = .ok (.iadd, 1) := by decide +kernel
theorem dX2_balanceOf_29 : decode cX2_balanceOf 29 = .ok (.iadd, 1) := by decide +kernel
theorem dX2_balanceOf_30 : decode cX2_balanceOf 30 = .ok (.istore_n 2, 1) := by decide +kernel
theorem dX2_balanceOf_31 : decode cX2_balanceOf 31 = .ok (.iload_n 2, 1) := by decide +kernel
theorem dX2_balanceOf_32 : decode cX2_balanceOf 32 = .ok (.aload_n 0, 1) := by decide +kernel
theorem dX2_balanceOf_33 : decode cX2_balanceOf 33 = .ok (.getfield 27, 3) := by decide +kernel
theorem dX2_balanceOf_36 : decode cX2_balanceOf 36 = .ok (.iload_n 1, 1) := by decide +kernel
theorem dX2_balanceOf_37 : decode cX2_balanceOf 37 = .ok (.iaload, 1) := by decide +kernel
theorem dX2_balanceOf_38 : decode cX2_balanceOf 38 = .ok (.isub, 1) := by decide +kernel
theorem dX2_balanceOf_39 : decode cX2_balanceOf 39 = .ok (.aload_n 0, 1) := by decide +kernel
theorem dX2_balanceOf_40 : decode cX2_balanceOf 40 = .ok (.getfield 30, 3) := by decide +kernel
theorem dX2_balanceOf_43 : decode cX2_balanceOf 43 = .ok (.iload_n 1, 1) := by decide +kernel
theorem dX2_balanceOf_44 : decode cX2_balanceOf 44 = .ok (.iaload, 1) := by decide +kernel
theorem dX2_balanceOf_45 : decode cX2_balanceOf 45 = .ok (.isub, 1) := by decide +kernel
theorem dX2_balanceOf_46 : decode cX2_balanceOf 46 = .ok (.ireturn, 1) := by decide +kernel
set_option maxRecDepth 20000 in
theorem ggX2_takeIn_X2_receive : GoodIn wsX2_takeIn wsX2_receive := goodIn_r _ [7, 8, 9, 10, 11, 12, 13, 14, 15, 16, 17] (by decide +kernel) (by decide +kernel)
set_option maxRecDepth 20000 in
theorem gX2_takeIn_X2_receive : GoodIn wsX2_takeIn (wsV RX2 43 RX2 yX2_receive wsX2_receive) := goodIn_app (goodIn_of _ (by decide +kernel)) ggX2_takeIn_X2_receive
theorem dX2_takeIn_0 : decode cX2_takeIn 0 = .ok (.aload_n 0, 1) := by decide +kernel
theorem dX2_takeIn_1 : decode cX2_takeIn 1 = .ok (.iconst 0, 1) := by decide +kernel
theorem dX2_takeIn_2 : decode cX2_takeIn 2 = .ok (.aload_n 0, 1) := by decide +kernel
theorem dX2_takeIn_3 : decode cX2_takeIn 3 = .ok (.getfield 33, 3) := by decide +kernel
theorem dX2_takeIn_6 : decode cX2_takeIn 6 = .ok (.invokevirtual 43, 3) := by decide +kernel
theorem dX2_takeIn_9 : decode cX2_takeIn 9 = .ok (.iconst 0, 1) := by decide +kernel
theorem dX2_takeIn_10 : decode cX2_takeIn 10 = .ok (.istore_n 1, 1) := by decide +kernel
theorem dX2_takeIn_11 : decode cX2_takeIn 11 = .ok (.iload_n 1, 1) := by decide +kernel
theorem dX2_takeIn_12 : decode cX2_takeIn 12 = .ok (.bipush 8, 2) := by decide +kernel
theorem dX2_takeIn_14 : decode cX2_takeIn 14 = .ok (.if_icmp .ge 27, 3) := by decide +kernel
theorem dX2_takeIn_17 : decode cX2_takeIn 17 = .ok (.aload_n 0, 1) := by decide +kernel
theorem dX2_takeIn_18 : decode cX2_takeIn 18 = .ok (.iload_n 1, 1) := by decide +kernel
theorem dX2_takeIn_19 : decode cX2_takeIn 19 = .ok (.aload_n 0, 1) := by decide +kernel
theorem dX2_takeIn_20 : decode cX2_takeIn 20 = .ok (.getfield 21, 3) := by decide +kernel
theorem dX2_takeIn_23 : decode cX2_takeIn 23 = .ok (.iload_n 1, 1) := by decide +kernel
theorem dX2_takeIn_24 : decode cX2_takeIn 24 = .ok (.iaload, 1) := by decide +kernel
theorem dX2_takeIn_25 : decode cX2_takeIn 25 = .ok (.invokevirtual 43, 3) := by decide +kernel
theorem dX2_takeIn_28 : decode cX2_takeIn 28 = .ok (.aload_n 0, 1) := by decide +kernel
theorem dX2_takeIn_29 : decode cX2_takeIn 29 = .ok (.getfield 21, 3) := by decide +kernel
theorem dX2_takeIn_32 : decode cX2_takeIn 32 = .ok (.iload_n 1, 1) := by decide +kernel
theorem dX2_takeIn_33 : decode cX2_takeIn 33 = .ok (.iconst 0, 1) := by decide +kernel
theorem dX2_takeIn_34 : decode cX2_takeIn 34 = .ok (.iastore, 1) := by decide +kernel
theorem dX2_takeIn_35 : decode cX2_takeIn 35 = .ok (.iinc 1 1, 3) := by decide +kernel
theorem dX2_takeIn_38 : decode cX2_takeIn 38 = .ok (.goto (-27), 3) := by decide +kernel
theorem dX2_takeIn_41 : decode cX2_takeIn 41 = .ok (.return_, 1) := by decide +kernel
theorem dX2_receive_0 : decode cX2_receive 0 = .ok (.aload_n 0, 1) := by decide +kernel
theorem dX2_receive_1 : decode cX2_receive 1 = .ok (.getfield 18, 3) := by decide +kernel
theorem dX2_receive_4 : decode cX2_receive 4 = .ok (.iload_n 1, 1) := by decide +kernel
theorem dX2_receive_5 : decode cX2_receive 5 = .ok (.dup2, 1) := by decide +kernel
theorem dX2_receive_6 : decode cX2_receive 6 = .ok (.iaload, 1) := by decide +kernel
theorem dX2_receive_7 : decode cX2_receive 7 = .ok (.iload_n 2, 1) := by decide +kernel
theorem dX2_receive_8 : decode cX2_receive 8 = .ok (.iadd, 1) := by decide +kernel
theorem dX2_receive_9 : decode cX2_receive 9 = .ok (.iastore, 1) := by decide +kernel
theorem dX2_receive_10 : decode cX2_receive 10 = .ok (.aload_n 0, 1) := by decide +kernel
theorem dX2_receive_11 : decode cX2_receive 11 = .ok (.getfield 24, 3) := by decide +kernel
theorem dX2_receive_14 : decode cX2_receive 14 = .ok (.iload_n 1, 1) := by decide +kernel
theorem dX2_receive_15 : decode cX2_receive 15 = .ok (.dup2, 1) := by decide +kernel
theorem dX2_receive_16 : decode cX2_receive 16 = .ok (.iaload, 1) := by decide +kernel
theorem dX2_receive_17 : decode cX2_receive 17 = .ok (.iload_n 2, 1) := by decide +kernel
theorem dX2_receive_18 : decode cX2_receive 18 = .ok (.iadd, 1) := by decide +kernel
theorem dX2_receive_19 : decode cX2_receive 19 = .ok (.iastore, 1) := by decide +kernel
theorem dX2_receive_20 : decode cX2_receive 20 = .ok (.return_, 1) := by decide +kernel
set_option maxRecDepth 20000 in
theorem ggX2_letThrough_X0_mostThrough : GoodIn wsX2_letThrough wsX0_mostThrough := goodIn_r _ [11, 12, 13, 27, 28, 29, 30, 31, 32, 33, 34] (by decide +kernel) (by decide +kernel)
set_option maxRecDepth 20000 in
theorem gX2_letThrough_X0_mostThrough : GoodIn wsX2_letThrough (wsV RX2 47 RX0 yX0_mostThrough wsX0_mostThrough) := goodIn_app (goodIn_of _ (by decide +kernel)) ggX2_letThrough_X0_mostThrough
set_option maxRecDepth 20000 in
theorem ggX2_letThrough_X2_moveOn : GoodIn wsX2_letThrough wsX2_moveOn := goodIn_r _ [18, 1, 19, 20, 21, 22, 23, 24, 25, 26] (by decide +kernel) (by decide +kernel)
set_option maxRecDepth 20000 in
theorem gX2_letThrough_X2_moveOn : GoodIn wsX2_letThrough (wsV RX2 59 RX2 yX2_moveOn wsX2_moveOn) := goodIn_app (goodIn_of _ (by decide +kernel)) ggX2_letThrough_X2_moveOn
theorem dX2_letThrough_0 : decode cX2_letThrough 0 = .ok (.bipush 7, 2) := by decide +kernel
theorem dX2_letThrough_2 : decode cX2_letThrough 2 = .ok (.istore_n 2, 1) := by decide +kernel
theorem dX2_letThrough_3 : decode cX2_letThrough 3 = .ok (.iload_n 2, 1) := by decide +kernel
theorem dX2_letThrough_4 : decode cX2_letThrough 4 = .ok (.ifCond .lt 40, 3) := by decide +kernel
theorem dX2_letThrough_7 : decode cX2_letThrough 7 = .ok (.aload_n 1, 1) := by decide +kernel
theorem dX2_letThrough_8 : decode cX2_letThrough 8 = .ok (.iload_n 2, 1) := by decide +kernel
theorem dX2_letThrough_9 : decode cX2_letThrough 9 = .ok (.invokevirtual 47, 3) := by decide +kernel
theorem dX2_letThrough_12 : decode cX2_letThrough 12 = .ok (.aload_n 0, 1) := by decide +kernel
theorem dX2_letThrough_13 : decode cX2_letThrough 13 = .ok (.getfield 18, 3) := by decide +kernel
theorem dX2_letThrough_16 : decode cX2_letThrough 16 = .ok (.iload_n 2, 1) := by decide +kernel
theorem dX2_letThrough_17 : decode cX2_letThrough 17 = .ok (.iaload, 1) := by decide +kernel
theorem dX2_letThrough_18 : decode cX2_letThrough 18 = .ok (.invokestatic 53, 3) := by decide +kernel
theorem dX2_letThrough_21 : decode cX2_letThrough 21 = .ok (.istore_n 3, 1) := by decide +kernel
theorem dX2_letThrough_22 : decode cX2_letThrough 22 = .ok (.aload_n 0, 1) := by decide +kernel
theorem dX2_letThrough_23 : decode cX2_letThrough 23 = .ok (.getfield 27, 3) := by decide +kernel
theorem dX2_letThrough_26 : decode cX2_letThrough 26 = .ok (.iload_n 2, 1) := by decide +kernel
theorem dX2_letThrough_27 : decode cX2_letThrough 27 = .ok (.dup2, 1) := by decide +kernel
theorem dX2_letThrough_28 : decode cX2_letThrough 28 = .ok (.iaload, 1) := by decide +kernel
theorem dX2_letThrough_29 : decode cX2_letThrough 29 = .ok (.iload_n 3, 1) := by decide +kernel
theorem dX2_letThrough_30 : decode cX2_letThrough 30 = .ok (.iadd, 1) := by decide +kernel
theorem dX2_letThrough_31 : decode cX2_letThrough 31 = .ok (.iastore, 1) := by decide +kernel
theorem dX2_letThrough_32 : decode cX2_letThrough 32 = .ok (.aload_n 0, 1) := by decide +kernel
theorem dX2_letThrough_33 : decode cX2_letThrough 33 = .ok (.iload_n 2, 1) := by decide +kernel
theorem dX2_letThrough_34 : decode cX2_letThrough 34 = .ok (.iload_n 3, 1) := by decide +kernel
theorem dX2_letThrough_35 : decode cX2_letThrough 35 = .ok (.invokevirtual 59, 3) := by decide +kernel
theorem dX2_letThrough_38 : decode cX2_letThrough 38 = .ok (.iinc 2 (-1), 3) := by decide +kernel
theorem dX2_letThrough_41 : decode cX2_letThrough 41 = .ok (.goto (-38), 3) := by decide +kernel
theorem dX2_letThrough_44 : decode cX2_letThrough 44 = .ok (.return_, 1) := by decide +kernel
set_option maxRecDepth 20000 in
theorem ggX2_spillOver_X2_moveOn : GoodIn wsX2_spillOver wsX2_moveOn := goodIn_r _ [13, 1, 14, 15, 16, 17, 18, 19, 20, 21] (by decide +kernel) (by decide +kernel)
set_option maxRecDepth 20000 in
theorem gX2_spillOver_X2_moveOn : GoodIn wsX2_spillOver (wsV RX2 59 RX2 yX2_moveOn wsX2_moveOn) := goodIn_app (goodIn_of _ (by decide +kernel)) ggX2_spillOver_X2_moveOn
theorem dX2_spillOver_0 : decode cX2_spillOver 0 = .ok (.iconst 0, 1) := by decide +kernel
theorem dX2_spillOver_1 : decode cX2_spillOver 1 = .ok (.istore_n 1, 1) := by decide +kernel
theorem dX2_spillOver_2 : decode cX2_spillOver 2 = .ok (.iconst 0, 1) := by decide +kernel
theorem dX2_spillOver_3 : decode cX2_spillOver 3 = .ok (.istore_n 2, 1) := by decide +kernel
theorem dX2_spillOver_4 : decode cX2_spillOver 4 = .ok (.iload_n 2, 1) := by decide +kernel
theorem dX2_spillOver_5 : decode cX2_spillOver 5 = .ok (.bipush 8, 2) := by decide +kernel
theorem dX2_spillOver_7 : decode cX2_spillOver 7 = .ok (.if_icmp .ge 54, 3) := by decide +kernel
theorem dX2_spillOver_10 : decode cX2_spillOver 10 = .ok (.aload_n 0, 1) := by decide +kernel
theorem dX2_spillOver_11 : decode cX2_spillOver 11 = .ok (.getfield 18, 3) := by decide +kernel
theorem dX2_spillOver_14 : decode cX2_spillOver 14 = .ok (.iload_n 2, 1) := by decide +kernel
theorem dX2_spillOver_15 : decode cX2_spillOver 15 = .ok (.iaload, 1) := by decide +kernel
theorem dX2_spillOver_16 : decode cX2_spillOver 16 = .ok (.aload_n 0, 1) := by decide +kernel
theorem dX2_spillOver_17 : decode cX2_spillOver 17 = .ok (.getfield 9, 3) := by decide +kernel
theorem dX2_spillOver_20 : decode cX2_spillOver 20 = .ok (.iload_n 2, 1) := by decide +kernel
theorem dX2_spillOver_21 : decode cX2_spillOver 21 = .ok (.iaload, 1) := by decide +kernel
theorem dX2_spillOver_22 : decode cX2_spillOver 22 = .ok (.aload_n 0, 1) := by decide +kernel
theorem dX2_spillOver_23 : decode cX2_spillOver 23 = .ok (.getfield 15, 3) := by decide +kernel
theorem dX2_spillOver_26 : decode cX2_spillOver 26 = .ok (.iload_n 2, 1) := by decide +kernel
theorem dX2_spillOver_27 : decode cX2_spillOver 27 = .ok (.iaload, 1) := by decide +kernel
theorem dX2_spillOver_28 : decode cX2_spillOver 28 = .ok (.imul, 1) := by decide +kernel
theorem dX2_spillOver_29 : decode cX2_spillOver 29 = .ok (.isub, 1) := by decide +kernel
theorem dX2_spillOver_30 : decode cX2_spillOver 30 = .ok (.iconst 0, 1) := by decide +kernel
theorem dX2_spillOver_31 : decode cX2_spillOver 31 = .ok (.invokestatic 62, 3) := by decide +kernel
theorem dX2_spillOver_34 : decode cX2_spillOver 34 = .ok (.istore_n 3, 1) := by decide +kernel
theorem dX2_spillOver_35 : decode cX2_spillOver 35 = .ok (.aload_n 0, 1) := by decide +kernel
theorem dX2_spillOver_36 : decode cX2_spillOver 36 = .ok (.getfield 30, 3) := by decide +kernel
theorem dX2_spillOver_39 : decode cX2_spillOver 39 = .ok (.iload_n 2, 1) := by decide +kernel
theorem dX2_spillOver_40 : decode cX2_spillOver 40 = .ok (.dup2, 1) := by decide +kernel
theorem dX2_spillOver_41 : decode cX2_spillOver 41 = .ok (.iaload, 1) := by decide +kernel
theorem dX2_spillOver_42 : decode cX2_spillOver 42 = .ok (.iload_n 3, 1) := by decide +kernel
theorem dX2_spillOver_43 : decode cX2_spillOver 43 = .ok (.iadd, 1) := by decide +kernel
theorem dX2_spillOver_44 : decode cX2_spillOver 44 = .ok (.iastore, 1) := by decide +kernel
theorem dX2_spillOver_45 : decode cX2_spillOver 45 = .ok (.aload_n 0, 1) := by decide +kernel
theorem dX2_spillOver_46 : decode cX2_spillOver 46 = .ok (.iload_n 2, 1) := by decide +kernel
theorem dX2_spillOver_47 : decode cX2_spillOver 47 = .ok (.iload_n 3, 1) := by decide +kernel
theorem dX2_spillOver_48 : decode cX2_spillOver 48 = .ok (.invokevirtual 59, 3) := by decide +kernel
theorem dX2_spillOver_51 : decode cX2_spillOver 51 = .ok (.iload_n 1, 1) := by decide +kernel
theorem dX2_spillOver_52 : decode cX2_spillOver 52 = .ok (.iload_n 3, 1) := by decide +kernel
theorem dX2_spillOver_53 : decode cX2_spillOver 53 = .ok (.iadd, 1) := by decide +kernel
theorem dX2_spillOver_54 : decode cX2_spillOver 54 = .ok (.istore_n 1, 1) := by decide +kernel
theorem dX2_spillOver_55 : decode cX2_spillOver 55 = .ok (.iinc 2 1, 3) := by decide +kernel
theorem dX2_spillOver_58 : decode cX2_spillOver 58 = .ok (.goto (-54), 3) := by decide +kernel
theorem dX2_spillOver_61 : decode cX2_spillOver 61 = .ok (.iload_n 1, 1) := by decide +kernel
theorem dX2_spillOver_62 : decode cX2_spillOver 62 = .ok (.ireturn, 1) := by decide +kernel
theorem dX2_moveOn_0 : decode cX2_moveOn 0 = .ok (.aload_n 0, 1) := by decide +kernel
theorem dX2_moveOn_1 : decode cX2_moveOn 1 = .ok (.getfield 18, 3) := by decide +kernel
theorem dX2_moveOn_4 : decode cX2_moveOn 4 = .ok (.iload_n 1, 1) := by decide +kernel
theorem dX2_moveOn_5 : decode cX2_moveOn 5 = .ok (.dup2, 1) := by decide +kernel
theorem dX2_moveOn_6 : decode cX2_moveOn 6 = .ok (.iaload, 1) := by decide +kernel
theorem dX2_moveOn_7 : decode cX2_moveOn 7 = .ok (.iload_n 2, 1) := by decide +kernel
theorem dX2_moveOn_8 : decode cX2_moveOn 8 = .ok (.isub, 1) := by decide +kernel
theorem dX2_moveOn_9 : decode cX2_moveOn 9 = .ok (.iastore, 1) := by decide +kernel
theorem dX2_moveOn_10 : decode cX2_moveOn 10 = .ok (.iload_n 1, 1) := by decide +kernel
theorem dX2_moveOn_11 : decode cX2_moveOn 11 = .ok (.iconst 1, 1) := by decide +kernel
theorem dX2_moveOn_12 : decode cX2_moveOn 12 = .ok (.iadd, 1) := by decide +kernel
theorem dX2_moveOn_13 : decode cX2_moveOn 13 = .ok (.istore_n 3, 1) := by decide +kernel
theorem dX2_moveOn_14 : decode cX2_moveOn 14 = .ok (.iload_n 3, 1) := by decide +kernel
theorem dX2_moveOn_15 : decode cX2_moveOn 15 = .ok (.bipush 8, 2) := by decide +kernel
theorem dX2_moveOn_17 : decode cX2_moveOn 17 = .ok (.if_icmp .ge 13, 3) := by decide +kernel
theorem dX2_moveOn_20 : decode cX2_moveOn 20 = .ok (.aload_n 0, 1) := by decide +kernel
theorem dX2_moveOn_21 : decode cX2_moveOn 21 = .ok (.getfield 18, 3) := by decide +kernel
theorem dX2_moveOn_24 : decode cX2_moveOn 24 = .ok (.iload_n 3, 1) := by decide +kernel
theorem dX2_moveOn_25 : decode cX2_moveOn 25 = .ok (.dup2, 1) := by decide +kernel
theorem dX2_moveOn_26 : decode cX2_moveOn 26 = .ok (.iaload, 1) := by decide +kernel
theorem dX2_moveOn_27 : decode cX2_moveOn 27 = .ok (.iload_n 2, 1) := by decide +kernel
theorem dX2_moveOn_28 : decode cX2_moveOn 28 = .ok (.iadd, 1) := by decide +kernel
theorem dX2_moveOn_29 : decode cX2_moveOn 29 = .ok (.iastore, 1) := by decide +kernel
theorem dX2_moveOn_30 : decode cX2_moveOn 30 = .ok (.return_, 1) := by decide +kernel
theorem dJ7_fill_53178_0 : decode cJ7_fill_53178 0 = .ok (.iconst 0, 1) := by decide +kernel
theorem dJ7_fill_53178_1 : decode cJ7_fill_53178 1 = .ok (.istore_n 2, 1) := by decide +kernel
theorem dJ7_fill_53178_2 : decode cJ7_fill_53178 2 = .ok (.aload_n 0, 1) := by decide +kernel
theorem dJ7_fill_53178_3 : decode cJ7_fill_53178 3 = .ok (.arraylength, 1) := by decide +kernel
theorem dJ7_fill_53178_4 : decode cJ7_fill_53178 4 = .ok (.istore_n 3, 1) := by decide +kernel
theorem dJ7_fill_53178_5 : decode cJ7_fill_53178 5 = .ok (.iload_n 2, 1) := by decide +kernel
theorem dJ7_fill_53178_6 : decode cJ7_fill_53178 6 = .ok (.iload_n 3, 1) := by decide +kernel
theorem dJ7_fill_53178_7 : decode cJ7_fill_53178 7 = .ok (.if_icmp .ge 13, 3) := by decide +kernel
theorem dJ7_fill_53178_10 : decode cJ7_fill_53178 10 = .ok (.aload_n 0, 1) := by decide +kernel
theorem dJ7_fill_53178_11 : decode cJ7_fill_53178 11 = .ok (.iload_n 2, 1) := by decide +kernel
theorem dJ7_fill_53178_12 : decode cJ7_fill_53178 12 = .ok (.iload_n 1, 1) := by decide +kernel
theorem dJ7_fill_53178_13 : decode cJ7_fill_53178 13 = .ok (.iastore, 1) := by decide +kernel
theorem dJ7_fill_53178_14 : decode cJ7_fill_53178 14 = .ok (.iinc 2 1, 3) := by decide +kernel
theorem dJ7_fill_53178_17 : decode cJ7_fill_53178 17 = .ok (.goto (-12), 3) := by decide +kernel
theorem dJ7_fill_53178_20 : decode cJ7_fill_53178 20 = .ok (.return_, 1) := by decide +kernel
end
section
set_option maxRecDepth 20000 in
theorem ggX3_init_X2_init : GoodIn wsX3_init wsX2_init := goodIn_r _ [19, 20, 2, 3, 21, 22, 23, 24, 25, 26, 27, 28, 29, 30, 31, 32, 33, 64, 65, 66, 67, 68, 69, 70, 71] (by decide +kernel) (by decide +kernel)
set_option maxRecDepth 20000 in
theorem gX3_init_X2_init : GoodIn wsX3_init (wsX2_init) := ggX3_init_X2_init
set_option maxRecDepth 20000 in
theorem ggX3_init_X0_init : GoodIn wsX3_init wsX0_init := goodIn_r _ [36, 37, 2, 3, 21, 38, 39, 40, 41, 42, 43, 44, 45, 46, 47, 31, 32, 33, 76, 77, 78, 79, 80, 81, 82, 83] (by decide +kernel) (by decide +kernel)
set_option maxRecDepth 20000 in
theorem gX3_init_X0_init : GoodIn wsX3_init (wsX0_init) := ggX3_init_X0_init
set_option maxRecDepth 20000 in
theorem ggX3_init_X1_init : GoodIn wsX3_init wsX1_init := goodIn_r _ [49, 50, 2, 3, 45, 51, 52, 21, 53, 54, 55, 56, 57, 58, 59, 60, 61, 62, 63, 84, 85, 86, 87, 88, 89, 90, 91, 92, 93, 94, 95] (by decide +kernel) (by decide +kernel)
set_option maxRecDepth 20000 in
theorem gX3_init_X1_init_n25 : GoodIn wsX3_init (wsX1_init) := ggX3_init_X1_init
theorem dX3_init_0 : decode cX3_init 0 = .ok (.aload_n 0, 1) := by decide +kernel
theorem dX3_init_1 : decode cX3_init 1 = .ok (.invokespecial 1, 3) := by decide +kernel
theorem dX3_init_4 : decode cX3_init 4 = .ok (.aload_n 0, 1) := by decide +kernel
theorem dX3_init_5 : decode cX3_init 5 = .ok (.new 7, 3) := by decide +kernel
theorem dX3_init_8 : decode cX3_init 8 = .ok (.dup, 1) := by decide +kernel
theorem dX3_init_9 : decode cX3_init 9 = .ok (.invokespecial 9, 3) := by decide +kernel
theorem dX3_init_12 : decode cX3_init 12 = .ok (.putfield 10, 3) := by decide +kernel
theorem dX3_init_15 : decode cX3_init 15 = .ok (.aload_n 0, 1) := by decide +kernel
theorem dX3_init_16 : decode cX3_init 16 = .ok (.new 16, 3) := by decide +kernel
theorem dX3_init_19 : decode cX3_init 19 = .ok (.dup, 1) := by decide +kernel
theorem dX3_init_20 : decode cX3_init 20 = .ok (.invokespecial 18, 3) := by decide +kernel
theorem dX3_init_23 : decode cX3_init 23 = .ok (.putfield 19, 3) := by decide +kernel
theorem dX3_init_26 : decode cX3_init 26 = .ok (.aload_n 0, 1) := by decide +kernel
theorem dX3_init_27 : decode cX3_init 27 = .ok (.new 23, 3) := by decide +kernel
theorem dX3_init_30 : decode cX3_init 30 = .ok (.dup, 1) := by decide +kernel
theorem dX3_init_31 : decode cX3_init 31 = .ok (.invokespecial 25, 3) := by decide +kernel
theorem dX3_init_34 : decode cX3_init 34 = .ok (.putfield 26, 3) := by decide +kernel
theorem dX3_init_37 : decode cX3_init 37 = .ok (.aload_n 0, 1) := by decide +kernel
theorem dX3_init_38 : decode cX3_init 38 = .ok (.iconst 0, 1) := by decide +kernel
theorem dX3_init_39 : decode cX3_init 39 = .ok (.putfield 30, 3) := by decide +kernel
theorem dX3_init_42 : decode cX3_init 42 = .ok (.return_, 1) := by decide +kernel
set_option maxRecDepth 20000 in
theorem ggX3_shape_X3_requireNumber : GoodIn wsX3_shape wsX3_requireNumber := goodIn_ca (goodIn_r _ [7, 8, 9, 6, 10, 11, 12] (by decide +kernel) (by decide +kernel)) (goodIn_sub (fun _ h => List.mem_cons_of_mem _ (List.mem_append_right _ h)) (by decide +kernel))
set_option maxRecDepth 20000 in
theorem gX3_shape_X3_requireNumber : GoodIn wsX3_shape (va_wsS RX3 34 yX3_requireNumber wsX3_requireNumber) := goodIn_app (goodIn_of _ (by decide +kernel)) ggX3_shape_X3_requireNumber
set_option maxRecDepth 20000 in
theorem ggX3_shape_X3_requireWithin : GoodIn wsX3_shape wsX3_requireWithin := goodIn_ca (goodIn_r _ [10, 11, 12] (by decide +kernel) (by decide +kernel)) (goodIn_sub (fun _ h => List.mem_cons_of_mem _ (List.mem_append_right _ h)) (by decide +kernel))
set_option maxRecDepth 20000 in
theorem gX3_shape_X3_requireWithin : GoodIn wsX3_shape (va_wsS RX3 38 yX3_requireWithin wsX3_requireWithin) := goodIn_app (goodIn_of _ (by decide +kernel)) ggX3_shape_X3_requireWithin
theorem dX3_shape_0 : decode cX3_shape 0 = .ok (.iload_n 1, 1) := by decide +kernel
theorem dX3_shape_1 : decode cX3_shape 1 = .ok (.invokestatic 34, 3) := by decide +kernel
theorem dX3_shape_4 : decode cX3_shape 4 = .ok (.iload_n 2, 1) := by decide +kernel
theorem dX3_shape_5 : decode cX3_shape 5 = .ok (.iconst 1, 1) := by decide +kernel
theorem dX3_shape_6 : decode cX3_shape 6 = .ok (.bipush 100, 2) := by decide +kernel
theorem dX3_shape_8 : decode cX3_shape 8 = .ok (.invokestatic 38, 3) := by decide +kernel
theorem dX3_shape_11 : decode cX3_shape 11 = .ok (.iload_n 3, 1) := by decide +kernel
theorem dX3_shape_12 : decode cX3_shape 12 = .ok (.iconst 1, 1) := by decide +kernel
theorem dX3_shape_13 : decode cX3_shape 13 = .ok (.sipush 1000, 3) := by decide +kernel
theorem dX3_shape_16 : decode cX3_shape 16 = .ok (.invokestatic 38, 3) := by decide +kernel
theorem dX3_shape_19 : decode cX3_shape 19 = .ok (.aload_n 0, 1) := by decide +kernel
theorem dX3_shape_20 : decode cX3_shape 20 = .ok (.getfield 10, 3) := by decide +kernel
theorem dX3_shape_23 : decode cX3_shape 23 = .ok (.getfield 42, 3) := by decide +kernel
theorem dX3_shape_26 : decode cX3_shape 26 = .ok (.iload_n 1, 1) := by decide +kernel
theorem dX3_shape_27 : decode cX3_shape 27 = .ok (.iload_n 2, 1) := by decide +kernel
theorem dX3_shape_28 : decode cX3_shape 28 = .ok (.iastore, 1) := by decide +kernel
theorem dX3_shape_29 : decode cX3_shape 29 = .ok (.aload_n 0, 1) := by decide +kernel
theorem dX3_shape_30 : decode cX3_shape 30 = .ok (.getfield 10, 3) := by decide +kernel
theorem dX3_shape_33 : decode cX3_shape 33 = .ok (.getfield 46, 3) := by decide +kernel
theorem dX3_shape_36 : decode cX3_shape 36 = .ok (.iload_n 1, 1) := by decide +kernel
theorem dX3_shape_37 : decode cX3_shape 37 = .ok (.iload_n 3, 1) := by decide +kernel
theorem dX3_shape_38 : decode cX3_shape 38 = .ok (.iastore, 1) := by decide +kernel
theorem dX3_shape_39 : decode cX3_shape 39 = .ok (.return_, 1) := by decide +kernel
set_option maxRecDepth 20000 in
theorem ggX3_setGauge_X3_requireNumber : GoodIn wsX3_setGauge wsX3_requireNumber := goodIn_ca (goodIn_r _ [6, 7, 8, 5, 9, 10, 11] (by decide +kernel) (by decide +kernel)) (goodIn_sub (fun _ h => List.mem_cons_of_mem _ (List.mem_append_right _ h)) (by decide +kernel))
set_option maxRecDepth 20000 in
theorem gX3_setGauge_X3_requireNumber : GoodIn wsX3_setGauge (va_wsS RX3 34 yX3_requireNumber wsX3_requireNumber) := goodIn_app (goodIn_of _ (by decide +kernel)) ggX3_setGauge_X3_requireNumber
set_option maxRecDepth 20000 in
theorem ggX3_setGauge_X3_requireWithin : GoodIn wsX3_setGauge wsX3_requireWithin := goodIn_ca (goodIn_r _ [9, 10, 11] (by decide +kernel) (by decide +kernel)) (goodIn_sub (fun _ h => List.mem_cons_of_mem _ (List.mem_append_right _ h)) (by decide +kernel))
set_option maxRecDepth 20000 in
theorem gX3_setGauge_X3_requireWithin : GoodIn wsX3_setGauge (va_wsS RX3 38 yX3_requireWithin wsX3_requireWithin) := goodIn_app (goodIn_of _ (by decide +kernel)) ggX3_setGauge_X3_requireWithin
theorem dX3_setGauge_0 : decode cX3_setGauge 0 = .ok (.iload_n 1, 1) := by decide +kernel
theorem dX3_setGauge_1 : decode cX3_setGauge 1 = .ok (.invokestatic 34, 3) := by decide +kernel
theorem dX3_setGauge_4 : decode cX3_setGauge 4 = .ok (.iload_n 2, 1) := by decide +kernel
theorem dX3_setGauge_5 : decode cX3_setGauge 5 = .ok (.iconst 1, 1) := by decide +kernel
theorem dX3_setGauge_6 : decode cX3_setGauge 6 = .ok (.bipush 50, 2) := by decide +kernel
theorem dX3_setGauge_8 : decode cX3_setGauge 8 = .ok (.invokestatic 38, 3) := by decide +kernel
theorem dX3_setGauge_11 : decode cX3_setGauge 11 = .ok (.aload_n 0, 1) := by decide +kernel
theorem dX3_setGauge_12 : decode cX3_setGauge 12 = .ok (.getfield 19, 3) := by decide +kernel
theorem dX3_setGauge_15 : decode cX3_setGauge 15 = .ok (.getfield 49, 3) := by decide +kernel
theorem dX3_setGauge_18 : decode cX3_setGauge 18 = .ok (.iload_n 1, 1) := by decide +kernel
theorem dX3_setGauge_19 : decode cX3_setGauge 19 = .ok (.iaload, 1) := by decide +kernel
theorem dX3_setGauge_20 : decode cX3_setGauge 20 = .ok (.istore_n 3, 1) := by decide +kernel
theorem dX3_setGauge_21 : decode cX3_setGauge 21 = .ok (.aload_n 0, 1) := by decide +kernel
theorem dX3_setGauge_22 : decode cX3_setGauge 22 = .ok (.getfield 19, 3) := by decide +kernel
theorem dX3_setGauge_25 : decode cX3_setGauge 25 = .ok (.getfield 49, 3) := by decide +kernel
theorem dX3_setGauge_28 : decode cX3_setGauge 28 = .ok (.iload_n 1, 1) := by decide +kernel
theorem dX3_setGauge_29 : decode cX3_setGauge 29 = .ok (.iload_n 2, 1) := by decide +kernel
theorem dX3_setGauge_30 : decode cX3_setGauge 30 = .ok (.iastore, 1) := by decide +kernel
theorem dX3_setGauge_31 : decode cX3_setGauge 31 = .ok (.iload_n 3, 1) := by decide +kernel
theorem dX3_setGauge_32 : decode cX3_setGauge 32 = .ok (.ireturn, 1) := by decide +kernel
set_option maxRecDepth 20000 in
theorem ggX3_setSource_X3_requireWithin : GoodIn wsX3_setSource wsX3_requireWithin := goodIn_ca (goodIn_r _ [6, 7, 8] (by decide +kernel) (by decide +kernel)) (goodIn_sub (fun _ h => List.mem_cons_of_mem _ (List.mem_append_right _ h)) (by decide +kernel))
set_option maxRecDepth 20000 in
theorem gX3_setSource_X3_requireWithin : GoodIn wsX3_setSource (va_wsS RX3 38 yX3_requireWithin wsX3_requireWithin) := goodIn_app (goodIn_of _ (by decide +kernel)) ggX3_setSource_X3_requireWithin
theorem dX3_setSource_0 : decode cX3_setSource 0 = .ok (.iload_n 1, 1) := by decide +kernel
theorem dX3_setSource_1 : decode cX3_setSource 1 = .ok (.iconst 0, 1) := by decide +kernel
theorem dX3_setSource_2 : decode cX3_setSource 2 = .ok (.sipush 1000, 3) := by decide +kernel
theorem dX3_setSource_5 : decode cX3_setSource 5 = .ok (.invokestatic 38, 3) := by decide +kernel
theorem dX3_setSource_8 : decode cX3_setSource 8 = .ok (.aload_n 0, 1) := by decide +kernel
theorem dX3_setSource_9 : decode cX3_setSource 9 = .ok (.getfield 10, 3) := by decide +kernel
theorem dX3_setSource_12 : decode cX3_setSource 12 = .ok (.getfield 52, 3) := by decide +kernel
theorem dX3_setSource_15 : decode cX3_setSource 15 = .ok (.istore_n 2, 1) := by decide +kernel
theorem dX3_setSource_16 : decode cX3_setSource 16 = .ok (.aload_n 0, 1) := by decide +kernel
theorem dX3_setSource_17 : decode cX3_setSource 17 = .ok (.getfield 10, 3) := by decide +kernel
theorem dX3_setSource_20 : decode cX3_setSource 20 = .ok (.iload_n 1, 1) := by decide +kernel
theorem dX3_setSource_21 : decode cX3_setSource 21 = .ok (.putfield 52, 3) := by decide +kernel
theorem dX3_setSource_24 : decode cX3_setSource 24 = .ok (.iload_n 2, 1) := by decide +kernel
theorem dX3_setSource_25 : decode cX3_setSource 25 = .ok (.ireturn, 1) := by decide +kernel
set_option maxRecDepth 20000 in
theorem ggX3_rain_X3_requireNumber : GoodIn wsX3_rain wsX3_requireNumber := goodIn_ca (goodIn_r _ [6, 7, 8, 5, 9, 10, 11] (by decide +kernel) (by decide +kernel)) (goodIn_sub (fun _ h => List.mem_cons_of_mem _ (List.mem_append_right _ h)) (by decide +kernel))
set_option maxRecDepth 20000 in
theorem gX3_rain_X3_requireNumber : GoodIn wsX3_rain (va_wsS RX3 34 yX3_requireNumber wsX3_requireNumber) := goodIn_app (goodIn_of _ (by decide +kernel)) ggX3_rain_X3_requireNumber
set_option maxRecDepth 20000 in
theorem ggX3_rain_X3_requireWithin : GoodIn wsX3_rain wsX3_requireWithin := goodIn_ca (goodIn_r _ [9, 10, 11] (by decide +kernel) (by decide +kernel)) (goodIn_sub (fun _ h => List.mem_cons_of_mem _ (List.mem_append_right _ h)) (by decide +kernel))
set_option maxRecDepth 20000 in
theorem gX3_rain_X3_requireWithin : GoodIn wsX3_rain (va_wsS RX3 38 yX3_requireWithin wsX3_requireWithin) := goodIn_app (goodIn_of _ (by decide +kernel)) ggX3_rain_X3_requireWithin
theorem dX3_rain_0 : decode cX3_rain 0 = .ok (.iload_n 1, 1) := by decide +kernel
theorem dX3_rain_1 : decode cX3_rain 1 = .ok (.invokestatic 34, 3) := by decide +kernel
theorem dX3_rain_4 : decode cX3_rain 4 = .ok (.iload_n 2, 1) := by decide +kernel
theorem dX3_rain_5 : decode cX3_rain 5 = .ok (.iconst 1, 1) := by decide +kernel
theorem dX3_rain_6 : decode cX3_rain 6 = .ok (.sipush 10000, 3) := by decide +kernel
theorem dX3_rain_9 : decode cX3_rain 9 = .ok (.invokestatic 38, 3) := by decide +kernel
theorem dX3_rain_12 : decode cX3_rain 12 = .ok (.aload_n 0, 1) := by decide +kernel
theorem dX3_rain_13 : decode cX3_rain 13 = .ok (.getfield 10, 3) := by decide +kernel
theorem dX3_rain_16 : decode cX3_rain 16 = .ok (.getfield 55, 3) := by decide +kernel
theorem dX3_rain_19 : decode cX3_rain 19 = .ok (.iload_n 1, 1) := by decide +kernel
theorem dX3_rain_20 : decode cX3_rain 20 = .ok (.dup2, 1) := by decide +kernel
theorem dX3_rain_21 : decode cX3_rain 21 = .ok (.iaload, 1) := by decide +kernel
theorem dX3_rain_22 : decode cX3_rain 22 = .ok (.iload_n 2, 1) := by decide +kernel
theorem dX3_rain_23 : decode cX3_rain 23 = .ok (.iadd, 1) := by decide +kernel
theorem dX3_rain_24 : decode cX3_rain 24 = .ok (.iastore, 1) := by decide +kernel
theorem dX3_rain_25 : decode cX3_rain 25 = .ok (.aload_n 0, 1) := by decide +kernel
theorem dX3_rain_26 : decode cX3_rain 26 = .ok (.getfield 10, 3) := by decide +kernel
theorem dX3_rain_29 : decode cX3_rain 29 = .ok (.getfield 55, 3) := by decide +kernel
theorem dX3_rain_32 : decode cX3_rain 32 = .ok (.iload_n 1, 1) := by decide +kernel
theorem dX3_rain_33 : decode cX3_rain 33 = .ok (.iaload, 1) := by decide +kernel
theorem dX3_rain_34 : decode cX3_rain 34 = .ok (.ireturn, 1) := by decide +kernel
set_option maxRecDepth 20000 in
theorem ggX3_volume_X3_requireNumber : GoodIn wsX3_volume wsX3_requireNumber := goodIn_ca (goodIn_r _ [6, 7, 8, 5, 9, 10, 11] (by decide +kernel) (by decide +kernel)) (goodIn_sub (fun _ h => List.mem_cons_of_mem _ (List.mem_append_right _ h)) (by decide +kernel))
set_option maxRecDepth 20000 in
theorem gX3_volume_X3_requireNumber : GoodIn wsX3_volume (va_wsS RX3 34 yX3_requireNumber wsX3_requireNumber) := goodIn_app (goodIn_of _ (by decide +kernel)) ggX3_volume_X3_requireNumber
theorem dX3_volume_0 : decode cX3_volume 0 = .ok (.iload_n 1, 1) := by decide +kernel
theorem dX3_volume_1 : decode cX3_volume 1 = .ok (.invokestatic 34, 3) := by decide +kernel
theorem dX3_volume_4 : decode cX3_volume 4 = .ok (.aload_n 0, 1) := by decide +kernel
theorem dX3_volume_5 : decode cX3_volume 5 = .ok (.getfield 10, 3) := by decide +kernel
theorem dX3_volume_8 : decode cX3_volume 8 = .ok (.getfield 58, 3) := by decide +kernel
theorem dX3_volume_11 : decode cX3_volume 11 = .ok (.iload_n 1, 1) := by decide +kernel
theorem dX3_volume_12 : decode cX3_volume 12 = .ok (.iaload, 1) := by decide +kernel
theorem dX3_volume_13 : decode cX3_volume 13 = .ok (.ireturn, 1) := by decide +kernel
set_option maxRecDepth 20000 in
theorem ggX3_volumeByBalance_X3_requireNumber : GoodIn wsX3_volumeByBalance wsX3_requireNumber := goodIn_ca (goodIn_r _ [5, 6, 7, 4, 8, 9, 10] (by decide +kernel) (by decide +kernel)) (goodIn_sub (fun _ h => List.mem_cons_of_mem _ (List.mem_append_right _ h)) (by decide +kernel))
set_option maxRecDepth 20000 in
theorem gX3_volumeByBalance_X3_requireNumber : GoodIn wsX3_volumeByBalance (va_wsS RX3 34 yX3_requireNumber wsX3_requireNumber) := goodIn_app (goodIn_of _ (by decide +kernel)) ggX3_volumeByBalance_X3_requireNumber
set_option maxRecDepth 20000 in
theorem ggX3_volumeByBalance_X2_balanceOf : GoodIn wsX3_volumeByBalance wsX2_balanceOf := goodIn_r _ [15, 16, 17, 18, 23, 24, 25, 26, 27, 28, 29, 30] (by decide +kernel) (by decide +kernel)
set_option maxRecDepth 20000 in
theorem gX3_volumeByBalance_X2_balanceOf : GoodIn wsX3_volumeByBalance (wsV RX3 61 RX2 yX2_balanceOf wsX2_balanceOf) := goodIn_app (goodIn_of _ (by decide +kernel)) ggX3_volumeByBalance_X2_balanceOf
theorem dX3_volumeByBalance_0 : decode cX3_volumeByBalance 0 = .ok (.iload_n 1, 1) := by decide +kernel
theorem dX3_volumeByBalance_1 : decode cX3_volumeByBalance 1 = .ok (.invokestatic 34, 3) := by decide +kernel
theorem dX3_volumeByBalance_4 : decode cX3_volumeByBalance 4 = .ok (.aload_n 0, 1) := by decide +kernel
theorem dX3_volumeByBalance_5 : decode cX3_volumeByBalance 5 = .ok (.getfield 10, 3) := by decide +kernel
theorem dX3_volumeByBalance_8 : decode cX3_volumeByBalance 8 = .ok (.iload_n 1, 1) := by decide +kernel
theorem dX3_volumeByBalance_9 : decode cX3_volumeByBalance 9 = .ok (.invokevirtual 61, 3) := by decide +kernel
theorem dX3_volumeByBalance_12 : decode cX3_volumeByBalance 12 = .ok (.ireturn, 1) := by decide +kernel
set_option maxRecDepth 20000 in
theorem ggX3_level_X3_requireNumber : GoodIn wsX3_level wsX3_requireNumber := goodIn_ca (goodIn_r _ [5, 6, 7, 4, 8, 9, 10] (by decide +kernel) (by decide +kernel)) (goodIn_sub (fun _ h => List.mem_cons_of_mem _ (List.mem_append_right _ h)) (by decide +kernel))
set_option maxRecDepth 20000 in
theorem gX3_level_X3_requireNumber : GoodIn wsX3_level (va_wsS RX3 34 yX3_requireNumber wsX3_requireNumber) := goodIn_app (goodIn_of _ (by decide +kernel)) ggX3_level_X3_requireNumber
set_option maxRecDepth 20000 in
theorem ggX3_level_X2_levelOf : GoodIn wsX3_level wsX2_levelOf := goodIn_r _ [15, 16, 17, 22, 23, 24, 25, 26, 27, 28, 29] (by decide +kernel) (by decide +kernel)
set_option maxRecDepth 20000 in
theorem gX3_level_X2_levelOf : GoodIn wsX3_level (wsV RX3 65 RX2 yX2_levelOf wsX2_levelOf) := goodIn_app (goodIn_of _ (by decide +kernel)) ggX3_level_X2_levelOf
theorem dX3_level_0 : decode cX3_level 0 = .ok (.iload_n 1, 1) := by decide +kernel
theorem dX3_level_1 : decode cX3_level 1 = .ok (.invokestatic 34, 3) := by decide +kernel
theorem dX3_level_4 : decode cX3_level 4 = .ok (.aload_n 0, 1) := by decide +kernel
theorem dX3_level_5 : decode cX3_level 5 = .ok (.getfield 10, 3) := by decide +kernel
theorem dX3_level_8 : decode cX3_level 8 = .ok (.iload_n 1, 1) := by decide +kernel
theorem dX3_level_9 : decode cX3_level 9 = .ok (.invokevirtual 65, 3) := by decide +kernel
theorem dX3_level_12 : decode cX3_level 12 = .ok (.ireturn, 1) := by decide +kernel
set_option maxRecDepth 20000 in
theorem ggX3_flowed_X3_requireNumber : GoodIn wsX3_flowed wsX3_requireNumber := goodIn_ca (goodIn_r _ [6, 7, 8, 5, 9, 10, 11] (by decide +kernel) (by decide +kernel)) (goodIn_sub (fun _ h => List.mem_cons_of_mem _ (List.mem_append_right _ h)) (by decide +kernel))
set_option maxRecDepth 20000 in
theorem gX3_flowed_X3_requireNumber : GoodIn wsX3_flowed (va_wsS RX3 34 yX3_requireNumber wsX3_requireNumber) := goodIn_app (goodIn_of _ (by decide +kernel)) ggX3_flowed_X3_requireNumber
theorem dX3_flowed_0 : decode cX3_flowed 0 = .ok (.iload_n 1, 1) := by decide +kernel
theorem dX3_flowed_1 : decode cX3_flowed 1 = .ok (.invokestatic 34, 3) := by decide +kernel
theorem dX3_flowed_4 : decode cX3_flowed 4 = .ok (.aload_n 0, 1) := by decide +kernel
theorem dX3_flowed_5 : decode cX3_flowed 5 = .ok (.getfield 10, 3) := by decide +kernel
theorem dX3_flowed_8 : decode cX3_flowed 8 = .ok (.getfield 68, 3) := by decide +kernel
theorem dX3_flowed_11 : decode cX3_flowed 11 = .ok (.iload_n 1, 1) := by decide +kernel
theorem dX3_flowed_12 : decode cX3_flowed 12 = .ok (.iaload, 1) := by decide +kernel
theorem dX3_flowed_13 : decode cX3_flowed 13 = .ok (.ireturn, 1) := by decide +kernel
set_option maxRecDepth 20000 in
theorem ggX3_spilled_X3_requireNumber : GoodIn wsX3_spilled wsX3_requireNumber := goodIn_ca (goodIn_r _ [6, 7, 8, 5, 9, 10, 11] (by decide +kernel) (by decide +kernel)) (goodIn_sub (fun _ h => List.mem_cons_of_mem _ (List.mem_append_right _ h)) (by decide +kernel))
set_option maxRecDepth 20000 in
theorem gX3_spilled_X3_requireNumber : GoodIn wsX3_spilled (va_wsS RX3 34 yX3_requireNumber wsX3_requireNumber) := goodIn_app (goodIn_of _ (by decide +kernel)) ggX3_spilled_X3_requireNumber
theorem dX3_spilled_0 : decode cX3_spilled 0 = .ok (.iload_n 1, 1) := by decide +kernel
theorem dX3_spilled_1 : decode cX3_spilled 1 = .ok (.invokestatic 34, 3) := by decide +kernel
theorem dX3_spilled_4 : decode cX3_spilled 4 = .ok (.aload_n 0, 1) := by decide +kernel
theorem dX3_spilled_5 : decode cX3_spilled 5 = .ok (.getfield 10, 3) := by decide +kernel
theorem dX3_spilled_8 : decode cX3_spilled 8 = .ok (.getfield 71, 3) := by decide +kernel
theorem dX3_spilled_11 : decode cX3_spilled 11 = .ok (.iload_n 1, 1) := by decide +kernel
theorem dX3_spilled_12 : decode cX3_spilled 12 = .ok (.iaload, 1) := by decide +kernel
theorem dX3_spilled_13 : decode cX3_spilled 13 = .ok (.ireturn, 1) := by decide +kernel
set_option maxRecDepth 20000 in
theorem ggX3_setRule_X3_requireNumber : GoodIn wsX3_setRule wsX3_requireNumber := goodIn_ca (goodIn_r _ [9, 10, 11, 8, 12, 13, 14] (by decide +kernel) (by decide +kernel)) (goodIn_sub (fun _ h => List.mem_cons_of_mem _ (List.mem_append_right _ h)) (by decide +kernel))
set_option maxRecDepth 20000 in
theorem gX3_setRule_X3_requireNumber : GoodIn wsX3_setRule (va_wsS RX3 34 yX3_requireNumber wsX3_requireNumber) := goodIn_app (goodIn_of _ (by decide +kernel)) ggX3_setRule_X3_requireNumber
set_option maxRecDepth 20000 in
theorem ggX3_setRule_X3_requireWithin : GoodIn wsX3_setRule wsX3_requireWithin := goodIn_ca (goodIn_r _ [12, 13, 14] (by decide +kernel) (by decide +kernel)) (goodIn_sub (fun _ h => List.mem_cons_of_mem _ (List.mem_append_right _ h)) (by decide +kernel))
set_option maxRecDepth 20000 in
theorem gX3_setRule_X3_requireWithin : GoodIn wsX3_setRule (va_wsS RX3 38 yX3_requireWithin wsX3_requireWithin) := goodIn_app (goodIn_of _ (by decide +kernel)) ggX3_setRule_X3_requireWithin
theorem dX3_setRule_0 : decode cX3_setRule 0 = .ok (.iload_n 1, 1) := by decide +kernel
theorem dX3_setRule_1 : decode cX3_setRule 1 = .ok (.invokestatic 34, 3) := by decide +kernel
theorem dX3_setRule_4 : decode cX3_setRule 4 = .ok (.iload_n 2, 1) := by decide +kernel
theorem dX3_setRule_5 : decode cX3_setRule 5 = .ok (.iconst 0, 1) := by decide +kernel
theorem dX3_setRule_6 : decode cX3_setRule 6 = .ok (.sipush 1000, 3) := by decide +kernel
theorem dX3_setRule_9 : decode cX3_setRule 9 = .ok (.invokestatic 38, 3) := by decide +kernel
theorem dX3_setRule_12 : decode cX3_setRule 12 = .ok (.iload_n 3, 1) := by decide +kernel
theorem dX3_setRule_13 : decode cX3_setRule 13 = .ok (.iload_n 2, 1) := by decide +kernel
theorem dX3_setRule_14 : decode cX3_setRule 14 = .ok (.sipush 1000, 3) := by decide +kernel
theorem dX3_setRule_17 : decode cX3_setRule 17 = .ok (.invokestatic 38, 3) := by decide +kernel
theorem dX3_setRule_20 : decode cX3_setRule 20 = .ok (.iload 4, 2) := by decide +kernel
theorem dX3_setRule_22 : decode cX3_setRule 22 = .ok (.iconst 0, 1) := by decide +kernel
theorem dX3_setRule_23 : decode cX3_setRule 23 = .ok (.sipush 1000, 3) := by decide +kernel
theorem dX3_setRule_26 : decode cX3_setRule 26 = .ok (.invokestatic 38, 3) := by decide +kernel
theorem dX3_setRule_29 : decode cX3_setRule 29 = .ok (.iload 5, 2) := by decide +kernel
theorem dX3_setRule_31 : decode cX3_setRule 31 = .ok (.iconst 0, 1) := by decide +kernel
theorem dX3_setRule_32 : decode cX3_setRule 32 = .ok (.bipush 100, 2) := by decide +kernel
theorem dX3_setRule_34 : decode cX3_setRule 34 = .ok (.invokestatic 38, 3) := by decide +kernel
theorem dX3_setRule_37 : decode cX3_setRule 37 = .ok (.aload_n 0, 1) := by decide +kernel
theorem dX3_setRule_38 : decode cX3_setRule 38 = .ok (.getfield 19, 3) := by decide +kernel
theorem dX3_setRule_41 : decode cX3_setRule 41 = .ok (.getfield 74, 3) := by decide +kernel
theorem dX3_setRule_44 : decode cX3_setRule 44 = .ok (.iload_n 1, 1) := by decide +kernel
theorem dX3_setRule_45 : decode cX3_setRule 45 = .ok (.iload_n 2, 1) := by decide +kernel
theorem dX3_setRule_46 : decode cX3_setRule 46 = .ok (.iastore, 1) := by decide +kernel
theorem dX3_setRule_47 : decode cX3_setRule 47 = .ok (.aload_n 0, 1) := by decide +kernel
theorem dX3_setRule_48 : decode cX3_setRule 48 = .ok (.getfield 19, 3) := by decide +kernel
theorem dX3_setRule_51 : decode cX3_setRule 51 = .ok (.getfield 77, 3) := by decide +kernel
theorem dX3_setRule_54 : decode cX3_setRule 54 = .ok (.iload_n 1, 1) := by decide +kernel
theorem dX3_setRule_55 : decode cX3_setRule 55 = .ok (.iload_n 3, 1) := by decide +kernel
theorem dX3_setRule_56 : decode cX3_setRule 56 = .ok (.iastore, 1) := by decide +kernel
theorem dX3_setRule_57 : decode cX3_setRule 57 = .ok (.aload_n 0, 1) := by decide +kernel
theorem dX3_setRule_58 : decode cX3_setRule 58 = .ok (.getfield 19, 3) := by decide +kernel
theorem dX3_setRule_61 : decode cX3_setRule 61 = .ok (.getfield 80, 3) := by decide +kernel
theorem dX3_setRule_64 : decode cX3_setRule 64 = .ok (.iload_n 1, 1) := by decide +kernel
theorem dX3_setRule_65 : decode cX3_setRule 65 = .ok (.iload 4, 2) := by decide +kernel
theorem dX3_setRule_67 : decode cX3_setRule 67 = .ok (.iastore, 1) := by decide +kernel
theorem dX3_setRule_68 : decode cX3_setRule 68 = .ok (.aload_n 0, 1) := by decide +kernel
theorem dX3_setRule_69 : decode cX3_setRule 69 = .ok (.getfield 19, 3) := by decide +kernel
theorem dX3_setRule_72 : decode cX3_setRule 72 = .ok (.getfield 83, 3) := by decide +kernel
theorem dX3_setRule_75 : decode cX3_setRule 75 = .ok (.iload_n 1, 1) := by decide +kernel
theorem dX3_setRule_76 : decode cX3_setRule 76 = .ok (.iload 5, 2) := by decide +kernel
theorem dX3_setRule_78 : decode cX3_setRule 78 = .ok (.iastore, 1) := by decide +kernel
theorem dX3_setRule_79 : decode cX3_setRule 79 = .ok (.return_, 1) := by decide +kernel
set_option maxRecDepth 20000 in
theorem ggX3_byHand_X3_requireNumber : GoodIn wsX3_byHand wsX3_requireNumber := goodIn_ca (goodIn_r _ [9, 10, 11, 8, 12, 13, 14] (by decide +kernel) (by decide +kernel)) (goodIn_sub (fun _ h => List.mem_cons_of_mem _ (List.mem_append_right _ h)) (by decide +kernel))
set_option maxRecDepth 20000 in
theorem gX3_byHand_X3_requireNumber : GoodIn wsX3_byHand (va_wsS RX3 34 yX3_requireNumber wsX3_requireNumber) := goodIn_app (goodIn_of _ (by decide +kernel)) ggX3_byHand_X3_requireNumber
set_option maxRecDepth 20000 in
theorem ggX3_byHand_X3_requireWithin : GoodIn wsX3_byHand wsX3_requireWithin := goodIn_ca (goodIn_r _ [12, 13, 14] (by decide +kernel) (by decide +kernel)) (goodIn_sub (fun _ h => List.mem_cons_of_mem _ (List.mem_append_right _ h)) (by decide +kernel))
set_option maxRecDepth 20000 in
theorem gX3_byHand_X3_requireWithin : GoodIn wsX3_byHand (va_wsS RX3 38 yX3_requireWithin wsX3_requireWithin) := goodIn_app (goodIn_of _ (by decide +kernel)) ggX3_byHand_X3_requireWithin
theorem dX3_byHand_0 : decode cX3_byHand 0 = .ok (.iload_n 1, 1) := by decide +kernel
theorem dX3_byHand_1 : decode cX3_byHand 1 = .ok (.invokestatic 34, 3) := by decide +kernel
theorem dX3_byHand_4 : decode cX3_byHand 4 = .ok (.iload_n 2, 1) := by decide +kernel
theorem dX3_byHand_5 : decode cX3_byHand 5 = .ok (.iconst (-1), 1) := by decide +kernel
theorem dX3_byHand_6 : decode cX3_byHand 6 = .ok (.bipush 10, 2) := by decide +kernel
theorem dX3_byHand_8 : decode cX3_byHand 8 = .ok (.invokestatic 38, 3) := by decide +kernel
theorem dX3_byHand_11 : decode cX3_byHand 11 = .ok (.iload_n 2, 1) := by decide +kernel
theorem dX3_byHand_12 : decode cX3_byHand 12 = .ok (.iconst (-1), 1) := by decide +kernel
theorem dX3_byHand_13 : decode cX3_byHand 13 = .ok (.if_icmp .ne 25, 3) := by decide +kernel
theorem dX3_byHand_16 : decode cX3_byHand 16 = .ok (.aload_n 0, 1) := by decide +kernel
theorem dX3_byHand_17 : decode cX3_byHand 17 = .ok (.getfield 19, 3) := by decide +kernel
theorem dX3_byHand_20 : decode cX3_byHand 20 = .ok (.getfield 86, 3) := by decide +kernel
theorem dX3_byHand_23 : decode cX3_byHand 23 = .ok (.iload_n 1, 1) := by decide +kernel
theorem dX3_byHand_24 : decode cX3_byHand 24 = .ok (.baload, 1) := by decide +kernel
theorem dX3_byHand_25 : decode cX3_byHand 25 = .ok (.ifCond .ne 13, 3) := by decide +kernel
theorem dX3_byHand_28 : decode cX3_byHand 28 = .ok (.new 90, 3) := by decide +kernel
theorem dX3_byHand_31 : decode cX3_byHand 31 = .ok (.dup, 1) := by decide +kernel
theorem dX3_byHand_32 : decode cX3_byHand 32 = .ok (.ldc 92, 2) := by decide +kernel
theorem dX3_byHand_34 : decode cX3_byHand 34 = .ok (.invokespecial 94, 3) := by decide +kernel
theorem dX3_byHand_37 : decode cX3_byHand 37 = .ok (.athrow, 1) := by decide +kernel
theorem dX3_byHand_38 : decode cX3_byHand 38 = .ok (.aload_n 0, 1) := by decide +kernel
theorem dX3_byHand_39 : decode cX3_byHand 39 = .ok (.getfield 19, 3) := by decide +kernel
theorem dX3_byHand_42 : decode cX3_byHand 42 = .ok (.getfield 97, 3) := by decide +kernel
theorem dX3_byHand_45 : decode cX3_byHand 45 = .ok (.iload_n 1, 1) := by decide +kernel
theorem dX3_byHand_46 : decode cX3_byHand 46 = .ok (.iaload, 1) := by decide +kernel
theorem dX3_byHand_47 : decode cX3_byHand 47 = .ok (.istore_n 3, 1) := by decide +kernel
theorem dX3_byHand_48 : decode cX3_byHand 48 = .ok (.aload_n 0, 1) := by decide +kernel
theorem dX3_byHand_49 : decode cX3_byHand 49 = .ok (.getfield 19, 3) := by decide +kernel
theorem dX3_byHand_52 : decode cX3_byHand 52 = .ok (.getfield 86, 3) := by decide +kernel
theorem dX3_byHand_55 : decode cX3_byHand 55 = .ok (.iload_n 1, 1) := by decide +kernel
theorem dX3_byHand_56 : decode cX3_byHand 56 = .ok (.iload_n 2, 1) := by decide +kernel
theorem dX3_byHand_57 : decode cX3_byHand 57 = .ok (.iconst (-1), 1) := by decide +kernel
theorem dX3_byHand_58 : decode cX3_byHand 58 = .ok (.if_icmp .eq 7, 3) := by decide +kernel
theorem dX3_byHand_61 : decode cX3_byHand 61 = .ok (.iconst 1, 1) := by decide +kernel
theorem dX3_byHand_62 : decode cX3_byHand 62 = .ok (.goto 4, 3) := by decide +kernel
theorem dX3_byHand_65 : decode cX3_byHand 65 = .ok (.iconst 0, 1) := by decide +kernel
theorem dX3_byHand_66 : decode cX3_byHand 66 = .ok (.bastore, 1) := by decide +kernel
theorem dX3_byHand_67 : decode cX3_byHand 67 = .ok (.iload_n 2, 1) := by decide +kernel
theorem dX3_byHand_68 : decode cX3_byHand 68 = .ok (.iconst (-1), 1) := by decide +kernel
theorem dX3_byHand_69 : decode cX3_byHand 69 = .ok (.if_icmp .eq 13, 3) := by decide +kernel
theorem dX3_byHand_72 : decode cX3_byHand 72 = .ok (.aload_n 0, 1) := by decide +kernel
theorem dX3_byHand_73 : decode cX3_byHand 73 = .ok (.getfield 19, 3) := by decide +kernel
theorem dX3_byHand_76 : decode cX3_byHand 76 = .ok (.getfield 97, 3) := by decide +kernel
theorem dX3_byHand_79 : decode cX3_byHand 79 = .ok (.iload_n 1, 1) := by decide +kernel
theorem dX3_byHand_80 : decode cX3_byHand 80 = .ok (.iload_n 2, 1) := by decide +kernel
theorem dX3_byHand_81 : decode cX3_byHand 81 = .ok (.iastore, 1) := by decide +kernel
theorem dX3_byHand_82 : decode cX3_byHand 82 = .ok (.iload_n 3, 1) := by decide +kernel
theorem dX3_byHand_83 : decode cX3_byHand 83 = .ok (.ireturn, 1) := by decide +kernel
set_option maxRecDepth 20000 in
theorem ggX3_opening_X3_requireNumber : GoodIn wsX3_opening wsX3_requireNumber := goodIn_ca (goodIn_r _ [6, 7, 8, 5, 9, 10, 11] (by decide +kernel) (by decide +kernel)) (goodIn_sub (fun _ h => List.mem_cons_of_mem _ (List.mem_append_right _ h)) (by decide +kernel))
set_option maxRecDepth 20000 in
theorem gX3_opening_X3_requireNumber : GoodIn wsX3_opening (va_wsS RX3 34 yX3_requireNumber wsX3_requireNumber) := goodIn_app (goodIn_of _ (by decide +kernel)) ggX3_opening_X3_requireNumber
theorem dX3_opening_0 : decode cX3_opening 0 = .ok (.iload_n 1, 1) := by decide +kernel
theorem dX3_opening_1 : decode cX3_opening 1 = .ok (.invokestatic 34, 3) := by decide +kernel
theorem dX3_opening_4 : decode cX3_opening 4 = .ok (.aload_n 0, 1) := by decide +kernel
theorem dX3_opening_5 : decode cX3_opening 5 = .ok (.getfield 19, 3) := by decide +kernel
theorem dX3_opening_8 : decode cX3_opening 8 = .ok (.getfield 97, 3) := by decide +kernel
theorem dX3_opening_11 : decode cX3_opening 11 = .ok (.iload_n 1, 1) := by decide +kernel
theorem dX3_opening_12 : decode cX3_opening 12 = .ok (.iaload, 1) := by decide +kernel
theorem dX3_opening_13 : decode cX3_opening 13 = .ok (.ireturn, 1) := by decide +kernel
set_option maxRecDepth 20000 in
theorem ggX3_safety_X3_requireNumber : GoodIn wsX3_safety wsX3_requireNumber := goodIn_ca (goodIn_r _ [6, 7, 8, 5, 9, 10, 11] (by decide +kernel) (by decide +kernel)) (goodIn_sub (fun _ h => List.mem_cons_of_mem _ (List.mem_append_right _ h)) (by decide +kernel))
set_option maxRecDepth 20000 in
theorem gX3_safety_X3_requireNumber : GoodIn wsX3_safety (va_wsS RX3 34 yX3_requireNumber wsX3_requireNumber) := goodIn_app (goodIn_of _ (by decide +kernel)) ggX3_safety_X3_requireNumber
theorem dX3_safety_0 : decode cX3_safety 0 = .ok (.iload_n 1, 1) := by decide +kernel
theorem dX3_safety_1 : decode cX3_safety 1 = .ok (.invokestatic 34, 3) := by decide +kernel
theorem dX3_safety_4 : decode cX3_safety 4 = .ok (.aload_n 0, 1) := by decide +kernel
theorem dX3_safety_5 : decode cX3_safety 5 = .ok (.getfield 19, 3) := by decide +kernel
theorem dX3_safety_8 : decode cX3_safety 8 = .ok (.getfield 100, 3) := by decide +kernel
theorem dX3_safety_11 : decode cX3_safety 11 = .ok (.iload_n 1, 1) := by decide +kernel
theorem dX3_safety_12 : decode cX3_safety 12 = .ok (.iaload, 1) := by decide +kernel
theorem dX3_safety_13 : decode cX3_safety 13 = .ok (.ireturn, 1) := by decide +kernel
set_option maxRecDepth 20000 in
theorem ggX3_fall_X3_requireNumber : GoodIn wsX3_fall wsX3_requireNumber := goodIn_ca (goodIn_r _ [8, 9, 10, 7, 11, 12, 13] (by decide +kernel) (by decide +kernel)) (goodIn_sub (fun _ h => List.mem_cons_of_mem _ (List.mem_append_right _ h)) (by decide +kernel))
set_option maxRecDepth 20000 in
theorem gX3_fall_X3_requireNumber : GoodIn wsX3_fall (va_wsS RX3 34 yX3_requireNumber wsX3_requireNumber) := goodIn_app (goodIn_of _ (by decide +kernel)) ggX3_fall_X3_requireNumber
theorem dX3_fall_0 : decode cX3_fall 0 = .ok (.iload_n 1, 1) := by decide +kernel
theorem dX3_fall_1 : decode cX3_fall 1 = .ok (.invokestatic 34, 3) := by decide +kernel
theorem dX3_fall_4 : decode cX3_fall 4 = .ok (.aload_n 0, 1) := by decide +kernel
theorem dX3_fall_5 : decode cX3_fall 5 = .ok (.getfield 26, 3) := by decide +kernel
theorem dX3_fall_8 : decode cX3_fall 8 = .ok (.getfield 103, 3) := by decide +kernel
theorem dX3_fall_11 : decode cX3_fall 11 = .ok (.iload_n 1, 1) := by decide +kernel
theorem dX3_fall_12 : decode cX3_fall 12 = .ok (.baload, 1) := by decide +kernel
theorem dX3_fall_13 : decode cX3_fall 13 = .ok (.ifCond .eq 13, 3) := by decide +kernel
theorem dX3_fall_16 : decode cX3_fall 16 = .ok (.new 90, 3) := by decide +kernel
theorem dX3_fall_19 : decode cX3_fall 19 = .ok (.dup, 1) := by decide +kernel
theorem dX3_fall_20 : decode cX3_fall 20 = .ok (.ldc 106, 2) := by decide +kernel
theorem dX3_fall_22 : decode cX3_fall 22 = .ok (.invokespecial 94, 3) := by decide +kernel
theorem dX3_fall_25 : decode cX3_fall 25 = .ok (.athrow, 1) := by decide +kernel
theorem dX3_fall_26 : decode cX3_fall 26 = .ok (.aload_n 0, 1) := by decide +kernel
theorem dX3_fall_27 : decode cX3_fall 27 = .ok (.getfield 26, 3) := by decide +kernel
theorem dX3_fall_30 : decode cX3_fall 30 = .ok (.getfield 103, 3) := by decide +kernel
theorem dX3_fall_33 : decode cX3_fall 33 = .ok (.iload_n 1, 1) := by decide +kernel
theorem dX3_fall_34 : decode cX3_fall 34 = .ok (.iconst 1, 1) := by decide +kernel
theorem dX3_fall_35 : decode cX3_fall 35 = .ok (.bastore, 1) := by decide +kernel
theorem dX3_fall_36 : decode cX3_fall 36 = .ok (.return_, 1) := by decide +kernel
set_option maxRecDepth 20000 in
theorem ggX3_comeUp_X3_requireNumber : GoodIn wsX3_comeUp wsX3_requireNumber := goodIn_ca (goodIn_r _ [10, 11, 12, 9, 13, 14, 15] (by decide +kernel) (by decide +kernel)) (goodIn_sub (fun _ h => List.mem_cons_of_mem _ (List.mem_append_right _ h)) (by decide +kernel))
set_option maxRecDepth 20000 in
theorem gX3_comeUp_X3_requireNumber : GoodIn wsX3_comeUp (va_wsS RX3 34 yX3_requireNumber wsX3_requireNumber) := goodIn_app (goodIn_of _ (by decide +kernel)) ggX3_comeUp_X3_requireNumber
set_option maxRecDepth 20000 in
theorem ggX3_comeUp_J7_fill_53178 : GoodIn wsX3_comeUp wsJ7_fill_53178 := goodIn_r _ [19] (by decide +kernel) (by decide +kernel)
set_option maxRecDepth 20000 in
theorem gX3_comeUp_J7_fill_53178 : GoodIn wsX3_comeUp (va_wsS RX3 114 yJ7_fill_53178 wsJ7_fill_53178) := goodIn_app (goodIn_of _ (by decide +kernel)) ggX3_comeUp_J7_fill_53178
theorem dX3_comeUp_0 : decode cX3_comeUp 0 = .ok (.iload_n 1, 1) := by decide +kernel
theorem dX3_comeUp_1 : decode cX3_comeUp 1 = .ok (.invokestatic 34, 3) := by decide +kernel
theorem dX3_comeUp_4 : decode cX3_comeUp 4 = .ok (.aload_n 0, 1) := by decide +kernel
theorem dX3_comeUp_5 : decode cX3_comeUp 5 = .ok (.getfield 26, 3) := by decide +kernel
theorem dX3_comeUp_8 : decode cX3_comeUp 8 = .ok (.getfield 103, 3) := by decide +kernel
theorem dX3_comeUp_11 : decode cX3_comeUp 11 = .ok (.iload_n 1, 1) := by decide +kernel
theorem dX3_comeUp_12 : decode cX3_comeUp 12 = .ok (.baload, 1) := by decide +kernel
theorem dX3_comeUp_13 : decode cX3_comeUp 13 = .ok (.ifCond .ne 13, 3) := by decide +kernel
theorem dX3_comeUp_16 : decode cX3_comeUp 16 = .ok (.new 90, 3) := by decide +kernel
theorem dX3_comeUp_19 : decode cX3_comeUp 19 = .ok (.dup, 1) := by decide +kernel
theorem dX3_comeUp_20 : decode cX3_comeUp 20 = .ok (.ldc 108, 2) := by decide +kernel
theorem dX3_comeUp_22 : decode cX3_comeUp 22 = .ok (.invokespecial 94, 3) := by decide +kernel
theorem dX3_comeUp_25 : decode cX3_comeUp 25 = .ok (.athrow, 1) := by decide +kernel
theorem dX3_comeUp_26 : decode cX3_comeUp 26 = .ok (.aload_n 0, 1) := by decide +kernel
theorem dX3_comeUp_27 : decode cX3_comeUp 27 = .ok (.getfield 26, 3) := by decide +kernel
theorem dX3_comeUp_30 : decode cX3_comeUp 30 = .ok (.getfield 103, 3) := by decide +kernel
theorem dX3_comeUp_33 : decode cX3_comeUp 33 = .ok (.iload_n 1, 1) := by decide +kernel
theorem dX3_comeUp_34 : decode cX3_comeUp 34 = .ok (.iconst 0, 1) := by decide +kernel
theorem dX3_comeUp_35 : decode cX3_comeUp 35 = .ok (.bastore, 1) := by decide +kernel
theorem dX3_comeUp_36 : decode cX3_comeUp 36 = .ok (.aload_n 0, 1) := by decide +kernel
theorem dX3_comeUp_37 : decode cX3_comeUp 37 = .ok (.getfield 26, 3) := by decide +kernel
theorem dX3_comeUp_40 : decode cX3_comeUp 40 = .ok (.getfield 110, 3) := by decide +kernel
theorem dX3_comeUp_43 : decode cX3_comeUp 43 = .ok (.iload_n 1, 1) := by decide +kernel
theorem dX3_comeUp_44 : decode cX3_comeUp 44 = .ok (.aaload, 1) := by decide +kernel
theorem dX3_comeUp_45 : decode cX3_comeUp 45 = .ok (.aload_n 0, 1) := by decide +kernel
theorem dX3_comeUp_46 : decode cX3_comeUp 46 = .ok (.getfield 30, 3) := by decide +kernel
theorem dX3_comeUp_49 : decode cX3_comeUp 49 = .ok (.invokestatic 114, 3) := by decide +kernel
theorem dX3_comeUp_52 : decode cX3_comeUp 52 = .ok (.return_, 1) := by decide +kernel
set_option maxRecDepth 20000 in
theorem ggX3_setGroup_X3_requireNumber : GoodIn wsX3_setGroup wsX3_requireNumber := goodIn_ca (goodIn_r _ [6, 7, 8, 5, 9, 10, 11] (by decide +kernel) (by decide +kernel)) (goodIn_sub (fun _ h => List.mem_cons_of_mem _ (List.mem_append_right _ h)) (by decide +kernel))
set_option maxRecDepth 20000 in
theorem gX3_setGroup_X3_requireNumber : GoodIn wsX3_setGroup (va_wsS RX3 34 yX3_requireNumber wsX3_requireNumber) := goodIn_app (goodIn_of _ (by decide +kernel)) ggX3_setGroup_X3_requireNumber
set_option maxRecDepth 20000 in
theorem ggX3_setGroup_X3_requireWithin : GoodIn wsX3_setGroup wsX3_requireWithin := goodIn_ca (goodIn_r _ [9, 10, 11] (by decide +kernel) (by decide +kernel)) (goodIn_sub (fun _ h => List.mem_cons_of_mem _ (List.mem_append_right _ h)) (by decide +kernel))
set_option maxRecDepth 20000 in
theorem gX3_setGroup_X3_requireWithin : GoodIn wsX3_setGroup (va_wsS RX3 38 yX3_requireWithin wsX3_requireWithin) := goodIn_app (goodIn_of _ (by decide +kernel)) ggX3_setGroup_X3_requireWithin
theorem dX3_setGroup_0 : decode cX3_setGroup 0 = .ok (.iload_n 1, 1) := by decide +kernel
theorem dX3_setGroup_1 : decode cX3_setGroup 1 = .ok (.invokestatic 34, 3) := by decide +kernel
theorem dX3_setGroup_4 : decode cX3_setGroup 4 = .ok (.iload_n 2, 1) := by decide +kernel
theorem dX3_setGroup_5 : decode cX3_setGroup 5 = .ok (.iconst 0, 1) := by decide +kernel
theorem dX3_setGroup_6 : decode cX3_setGroup 6 = .ok (.iconst 3, 1) := by decide +kernel
theorem dX3_setGroup_7 : decode cX3_setGroup 7 = .ok (.invokestatic 38, 3) := by decide +kernel
theorem dX3_setGroup_10 : decode cX3_setGroup 10 = .ok (.aload_n 0, 1) := by decide +kernel
theorem dX3_setGroup_11 : decode cX3_setGroup 11 = .ok (.getfield 26, 3) := by decide +kernel
theorem dX3_setGroup_14 : decode cX3_setGroup 14 = .ok (.getfield 120, 3) := by decide +kernel
theorem dX3_setGroup_17 : decode cX3_setGroup 17 = .ok (.iload_n 1, 1) := by decide +kernel
theorem dX3_setGroup_18 : decode cX3_setGroup 18 = .ok (.iaload, 1) := by decide +kernel
theorem dX3_setGroup_19 : decode cX3_setGroup 19 = .ok (.istore_n 3, 1) := by decide +kernel
theorem dX3_setGroup_20 : decode cX3_setGroup 20 = .ok (.aload_n 0, 1) := by decide +kernel
theorem dX3_setGroup_21 : decode cX3_setGroup 21 = .ok (.getfield 26, 3) := by decide +kernel
theorem dX3_setGroup_24 : decode cX3_setGroup 24 = .ok (.getfield 120, 3) := by decide +kernel
theorem dX3_setGroup_27 : decode cX3_setGroup 27 = .ok (.iload_n 1, 1) := by decide +kernel
theorem dX3_setGroup_28 : decode cX3_setGroup 28 = .ok (.iload_n 2, 1) := by decide +kernel
theorem dX3_setGroup_29 : decode cX3_setGroup 29 = .ok (.iastore, 1) := by decide +kernel
theorem dX3_setGroup_30 : decode cX3_setGroup 30 = .ok (.iload_n 3, 1) := by decide +kernel
theorem dX3_setGroup_31 : decode cX3_setGroup 31 = .ok (.ireturn, 1) := by decide +kernel
set_option maxRecDepth 20000 in
theorem ggX3_setStuck_X3_requireNumber : GoodIn wsX3_setStuck wsX3_requireNumber := goodIn_ca (goodIn_r _ [6, 7, 8, 5, 9, 10, 11] (by decide +kernel) (by decide +kernel)) (goodIn_sub (fun _ h => List.mem_cons_of_mem _ (List.mem_append_right _ h)) (by decide +kernel))
set_option maxRecDepth 20000 in
theorem gX3_setStuck_X3_requireNumber : GoodIn wsX3_setStuck (va_wsS RX3 34 yX3_requireNumber wsX3_requireNumber) := goodIn_app (goodIn_of _ (by decide +kernel)) ggX3_setStuck_X3_requireNumber
theorem dX3_setStuck_0 : decode cX3_setStuck 0 = .ok (.iload_n 1, 1) := by decide +kernel
theorem dX3_setStuck_1 : decode cX3_setStuck 1 = .ok (.invokestatic 34, 3) := by decide +kernel
theorem dX3_setStuck_4 : decode cX3_setStuck 4 = .ok (.aload_n 0, 1) := by decide +kernel
theorem dX3_setStuck_5 : decode cX3_setStuck 5 = .ok (.getfield 26, 3) := by decide +kernel
theorem dX3_setStuck_8 : decode cX3_setStuck 8 = .ok (.getfield 123, 3) := by decide +kernel
theorem dX3_setStuck_11 : decode cX3_setStuck 11 = .ok (.iload_n 1, 1) := by decide +kernel
theorem dX3_setStuck_12 : decode cX3_setStuck 12 = .ok (.baload, 1) := by decide +kernel
theorem dX3_setStuck_13 : decode cX3_setStuck 13 = .ok (.istore_n 3, 1) := by decide +kernel
theorem dX3_setStuck_14 : decode cX3_setStuck 14 = .ok (.aload_n 0, 1) := by decide +kernel
theorem dX3_setStuck_15 : decode cX3_setStuck 15 = .ok (.getfield 26, 3) := by decide +kernel
theorem dX3_setStuck_18 : decode cX3_setStuck 18 = .ok (.getfield 123, 3) := by decide +kernel
theorem dX3_setStuck_21 : decode cX3_setStuck 21 = .ok (.iload_n 1, 1) := by decide +kernel
theorem dX3_setStuck_22 : decode cX3_setStuck 22 = .ok (.iload_n 2, 1) := by decide +kernel
theorem dX3_setStuck_23 : decode cX3_setStuck 23 = .ok (.bastore, 1) := by decide +kernel
theorem dX3_setStuck_24 : decode cX3_setStuck 24 = .ok (.iload_n 3, 1) := by decide +kernel
theorem dX3_setStuck_25 : decode cX3_setStuck 25 = .ok (.ireturn, 1) := by decide +kernel
set_option maxRecDepth 20000 in
theorem ggX3_setTimes_X3_requireWithin : GoodIn wsX3_setTimes wsX3_requireWithin := goodIn_ca (goodIn_r _ [7, 8, 9] (by decide +kernel) (by decide +kernel)) (goodIn_sub (fun _ h => List.mem_cons_of_mem _ (List.mem_append_right _ h)) (by decide +kernel))
set_option maxRecDepth 20000 in
theorem gX3_setTimes_X3_requireWithin : GoodIn wsX3_setTimes (va_wsS RX3 38 yX3_requireWithin wsX3_requireWithin) := goodIn_app (goodIn_of _ (by decide +kernel)) ggX3_setTimes_X3_requireWithin
theorem dX3_setTimes_0 : decode cX3_setTimes 0 = .ok (.iload_n 1, 1) := by decide +kernel
theorem dX3_setTimes_1 : decode cX3_setTimes 1 = .ok (.iconst 1, 1) := by decide +kernel
theorem dX3_setTimes_2 : decode cX3_setTimes 2 = .ok (.bipush 50, 2) := by decide +kernel
theorem dX3_setTimes_4 : decode cX3_setTimes 4 = .ok (.invokestatic 38, 3) := by decide +kernel
theorem dX3_setTimes_7 : decode cX3_setTimes 7 = .ok (.iload_n 2, 1) := by decide +kernel
theorem dX3_setTimes_8 : decode cX3_setTimes 8 = .ok (.iload_n 1, 1) := by decide +kernel
theorem dX3_setTimes_9 : decode cX3_setTimes 9 = .ok (.bipush 100, 2) := by decide +kernel
theorem dX3_setTimes_11 : decode cX3_setTimes 11 = .ok (.invokestatic 38, 3) := by decide +kernel
theorem dX3_setTimes_14 : decode cX3_setTimes 14 = .ok (.aload_n 0, 1) := by decide +kernel
theorem dX3_setTimes_15 : decode cX3_setTimes 15 = .ok (.getfield 26, 3) := by decide +kernel
theorem dX3_setTimes_18 : decode cX3_setTimes 18 = .ok (.iload_n 1, 1) := by decide +kernel
theorem dX3_setTimes_19 : decode cX3_setTimes 19 = .ok (.putfield 126, 3) := by decide +kernel
theorem dX3_setTimes_22 : decode cX3_setTimes 22 = .ok (.aload_n 0, 1) := by decide +kernel
theorem dX3_setTimes_23 : decode cX3_setTimes 23 = .ok (.getfield 26, 3) := by decide +kernel
theorem dX3_setTimes_26 : decode cX3_setTimes 26 = .ok (.iload_n 2, 1) := by decide +kernel
theorem dX3_setTimes_27 : decode cX3_setTimes 27 = .ok (.putfield 129, 3) := by decide +kernel
theorem dX3_setTimes_30 : decode cX3_setTimes 30 = .ok (.return_, 1) := by decide +kernel
set_option maxRecDepth 20000 in
theorem ggX3_believed_X3_requireNumber : GoodIn wsX3_believed wsX3_requireNumber := goodIn_ca (goodIn_r _ [6, 7, 8, 5, 9, 10, 11] (by decide +kernel) (by decide +kernel)) (goodIn_sub (fun _ h => List.mem_cons_of_mem _ (List.mem_append_right _ h)) (by decide +kernel))
set_option maxRecDepth 20000 in
theorem gX3_believed_X3_requireNumber : GoodIn wsX3_believed (va_wsS RX3 34 yX3_requireNumber wsX3_requireNumber) := goodIn_app (goodIn_of _ (by decide +kernel)) ggX3_believed_X3_requireNumber
set_option maxRecDepth 20000 in
theorem ggX3_believed_X1_hasNews : GoodIn wsX3_believed wsX1_hasNews := goodIn_r _ [16, 17, 22, 23, 24, 25, 26, 27, 28, 29, 30, 31, 32, 33] (by decide +kernel) (by decide +kernel)
set_option maxRecDepth 20000 in
theorem gX3_believed_X1_hasNews : GoodIn wsX3_believed (wsV RX3 132 RX1 yX1_hasNews wsX1_hasNews) := goodIn_app (goodIn_of _ (by decide +kernel)) ggX3_believed_X1_hasNews
theorem dX3_believed_0 : decode cX3_believed 0 = .ok (.iload_n 1, 1) := by decide +kernel
theorem dX3_believed_1 : decode cX3_believed 1 = .ok (.invokestatic 34, 3) := by decide +kernel
theorem dX3_believed_4 : decode cX3_believed 4 = .ok (.iload_n 2, 1) := by decide +kernel
theorem dX3_believed_5 : decode cX3_believed 5 = .ok (.invokestatic 34, 3) := by decide +kernel
theorem dX3_believed_8 : decode cX3_believed 8 = .ok (.aload_n 0, 1) := by decide +kernel
theorem dX3_believed_9 : decode cX3_believed 9 = .ok (.getfield 26, 3) := by decide +kernel
theorem dX3_believed_12 : decode cX3_believed 12 = .ok (.iload_n 1, 1) := by decide +kernel
theorem dX3_believed_13 : decode cX3_believed 13 = .ok (.iload_n 2, 1) := by decide +kernel
theorem dX3_believed_14 : decode cX3_believed 14 = .ok (.invokevirtual 132, 3) := by decide +kernel
theorem dX3_believed_17 : decode cX3_believed 17 = .ok (.ifCond .eq 17, 3) := by decide +kernel
theorem dX3_believed_20 : decode cX3_believed 20 = .ok (.aload_n 0, 1) := by decide +kernel
theorem dX3_believed_21 : decode cX3_believed 21 = .ok (.getfield 26, 3) := by decide +kernel
theorem dX3_believed_24 : decode cX3_believed 24 = .ok (.getfield 136, 3) := by decide +kernel
theorem dX3_believed_27 : decode cX3_believed 27 = .ok (.iload_n 1, 1) := by decide +kernel
theorem dX3_believed_28 : decode cX3_believed 28 = .ok (.aaload, 1) := by decide +kernel
theorem dX3_believed_29 : decode cX3_believed 29 = .ok (.iload_n 2, 1) := by decide +kernel
theorem dX3_believed_30 : decode cX3_believed 30 = .ok (.iaload, 1) := by decide +kernel
theorem dX3_believed_31 : decode cX3_believed 31 = .ok (.goto 4, 3) := by decide +kernel
theorem dX3_believed_34 : decode cX3_believed 34 = .ok (.iconst (-1), 1) := by decide +kernel
theorem dX3_believed_35 : decode cX3_believed 35 = .ok (.ireturn, 1) := by decide +kernel
set_option maxRecDepth 20000 in
theorem ggX3_version_X3_requireNumber : GoodIn wsX3_version wsX3_requireNumber := goodIn_ca (goodIn_r _ [6, 7, 8, 5, 9, 10, 11] (by decide +kernel) (by decide +kernel)) (goodIn_sub (fun _ h => List.mem_cons_of_mem _ (List.mem_append_right _ h)) (by decide +kernel))
set_option maxRecDepth 20000 in
theorem gX3_version_X3_requireNumber : GoodIn wsX3_version (va_wsS RX3 34 yX3_requireNumber wsX3_requireNumber) := goodIn_app (goodIn_of _ (by decide +kernel)) ggX3_version_X3_requireNumber
theorem dX3_version_0 : decode cX3_version 0 = .ok (.iload_n 1, 1) := by decide +kernel
theorem dX3_version_1 : decode cX3_version 1 = .ok (.invokestatic 34, 3) := by decide +kernel
theorem dX3_version_4 : decode cX3_version 4 = .ok (.iload_n 2, 1) := by decide +kernel
theorem dX3_version_5 : decode cX3_version 5 = .ok (.invokestatic 34, 3) := by decide +kernel
theorem dX3_version_8 : decode cX3_version 8 = .ok (.aload_n 0, 1) := by decide +kernel
theorem dX3_version_9 : decode cX3_version 9 = .ok (.getfield 26, 3) := by decide +kernel
theorem dX3_version_12 : decode cX3_version 12 = .ok (.getfield 139, 3) := by decide +kernel
theorem dX3_version_15 : decode cX3_version 15 = .ok (.iload_n 1, 1) := by decide +kernel
theorem dX3_version_16 : decode cX3_version 16 = .ok (.aaload, 1) := by decide +kernel
theorem dX3_version_17 : decode cX3_version 17 = .ok (.iload_n 2, 1) := by decide +kernel
theorem dX3_version_18 : decode cX3_version 18 = .ok (.iaload, 1) := by decide +kernel
theorem dX3_version_19 : decode cX3_version 19 = .ok (.ireturn, 1) := by decide +kernel
set_option maxRecDepth 20000 in
theorem ggX3_age_X3_requireNumber : GoodIn wsX3_age wsX3_requireNumber := goodIn_ca (goodIn_r _ [7, 8, 9, 6, 10, 11, 12] (by decide +kernel) (by decide +kernel)) (goodIn_sub (fun _ h => List.mem_cons_of_mem _ (List.mem_append_right _ h)) (by decide +kernel))
set_option maxRecDepth 20000 in
theorem gX3_age_X3_requireNumber : GoodIn wsX3_age (va_wsS RX3 34 yX3_requireNumber wsX3_requireNumber) := goodIn_app (goodIn_of _ (by decide +kernel)) ggX3_age_X3_requireNumber
set_option maxRecDepth 20000 in
theorem ggX3_age_X1_hasNews : GoodIn wsX3_age wsX1_hasNews := goodIn_r _ [17, 18, 23, 24, 25, 26, 27, 28, 29, 30, 31, 32, 33, 34] (by decide +kernel) (by decide +kernel)
set_option maxRecDepth 20000 in
theorem gX3_age_X1_hasNews : GoodIn wsX3_age (wsV RX3 132 RX1 yX1_hasNews wsX1_hasNews) := goodIn_app (goodIn_of _ (by decide +kernel)) ggX3_age_X1_hasNews
theorem dX3_age_0 : decode cX3_age 0 = .ok (.iload_n 1, 1) := by decide +kernel
theorem dX3_age_1 : decode cX3_age 1 = .ok (.invokestatic 34, 3) := by decide +kernel
theorem dX3_age_4 : decode cX3_age 4 = .ok (.iload_n 2, 1) := by decide +kernel
theorem dX3_age_5 : decode cX3_age 5 = .ok (.invokestatic 34, 3) := by decide +kernel
theorem dX3_age_8 : decode cX3_age 8 = .ok (.aload_n 0, 1) := by decide +kernel
theorem dX3_age_9 : decode cX3_age 9 = .ok (.getfield 26, 3) := by decide +kernel
theorem dX3_age_12 : decode cX3_age 12 = .ok (.iload_n 1, 1) := by decide +kernel
theorem dX3_age_13 : decode cX3_age 13 = .ok (.iload_n 2, 1) := by decide +kernel
theorem dX3_age_14 : decode cX3_age 14 = .ok (.invokevirtual 132, 3) := by decide +kernel
theorem dX3_age_17 : decode cX3_age 17 = .ok (.ifCond .eq 22, 3) := by decide +kernel
theorem dX3_age_20 : decode cX3_age 20 = .ok (.aload_n 0, 1) := by decide +kernel
theorem dX3_age_21 : decode cX3_age 21 = .ok (.getfield 30, 3) := by decide +kernel
theorem dX3_age_24 : decode cX3_age 24 = .ok (.aload_n 0, 1) := by decide +kernel
theorem dX3_age_25 : decode cX3_age 25 = .ok (.getfield 26, 3) := by decide +kernel
theorem dX3_age_28 : decode cX3_age 28 = .ok (.getfield 142, 3) := by decide +kernel
theorem dX3_age_31 : decode cX3_age 31 = .ok (.iload_n 1, 1) := by decide +kernel
theorem dX3_age_32 : decode cX3_age 32 = .ok (.aaload, 1) := by decide +kernel
theorem dX3_age_33 : decode cX3_age 33 = .ok (.iload_n 2, 1) := by decide +kernel
theorem dX3_age_34 : decode cX3_age 34 = .ok (.iaload, 1) := by decide +kernel
theorem dX3_age_35 : decode cX3_age 35 = .ok (.isub, 1) := by decide +kernel
theorem dX3_age_36 : decode cX3_age 36 = .ok (.goto 4, 3) := by decide +kernel
theorem dX3_age_39 : decode cX3_age 39 = .ok (.iconst (-1), 1) := by decide +kernel
theorem dX3_age_40 : decode cX3_age 40 = .ok (.ireturn, 1) := by decide +kernel
set_option maxRecDepth 20000 in
theorem ggX3_beat_X3_requireNumber : GoodIn wsX3_beat wsX3_requireNumber := goodIn_ca (goodIn_r _ [6, 7, 8, 5, 9, 10, 11] (by decide +kernel) (by decide +kernel)) (goodIn_sub (fun _ h => List.mem_cons_of_mem _ (List.mem_append_right _ h)) (by decide +kernel))
set_option maxRecDepth 20000 in
theorem gX3_beat_X3_requireNumber : GoodIn wsX3_beat (va_wsS RX3 34 yX3_requireNumber wsX3_requireNumber) := goodIn_app (goodIn_of _ (by decide +kernel)) ggX3_beat_X3_requireNumber
theorem dX3_beat_0 : decode cX3_beat 0 = .ok (.iload_n 1, 1) := by decide +kernel
theorem dX3_beat_1 : decode cX3_beat 1 = .ok (.invokestatic 34, 3) := by decide +kernel
theorem dX3_beat_4 : decode cX3_beat 4 = .ok (.iload_n 2, 1) := by decide +kernel
theorem dX3_beat_5 : decode cX3_beat 5 = .ok (.invokestatic 34, 3) := by decide +kernel
theorem dX3_beat_8 : decode cX3_beat 8 = .ok (.aload_n 0, 1) := by decide +kernel
theorem dX3_beat_9 : decode cX3_beat 9 = .ok (.getfield 26, 3) := by decide +kernel
theorem dX3_beat_12 : decode cX3_beat 12 = .ok (.getfield 145, 3) := by decide +kernel
theorem dX3_beat_15 : decode cX3_beat 15 = .ok (.iload_n 1, 1) := by decide +kernel
theorem dX3_beat_16 : decode cX3_beat 16 = .ok (.aaload, 1) := by decide +kernel
theorem dX3_beat_17 : decode cX3_beat 17 = .ok (.iload_n 2, 1) := by decide +kernel
theorem dX3_beat_18 : decode cX3_beat 18 = .ok (.iaload, 1) := by decide +kernel
theorem dX3_beat_19 : decode cX3_beat 19 = .ok (.ireturn, 1) := by decide +kernel
set_option maxRecDepth 20000 in
theorem ggX3_status_X3_requireNumber : GoodIn wsX3_status wsX3_requireNumber := goodIn_ca (goodIn_r _ [6, 7, 8, 5, 9, 10, 11] (by decide +kernel) (by decide +kernel)) (goodIn_sub (fun _ h => List.mem_cons_of_mem _ (List.mem_append_right _ h)) (by decide +kernel))
set_option maxRecDepth 20000 in
theorem gX3_status_X3_requireNumber : GoodIn wsX3_status (va_wsS RX3 34 yX3_requireNumber wsX3_requireNumber) := goodIn_app (goodIn_of _ (by decide +kernel)) ggX3_status_X3_requireNumber
theorem dX3_status_0 : decode cX3_status 0 = .ok (.iload_n 1, 1) := by decide +kernel
theorem dX3_status_1 : decode cX3_status 1 = .ok (.invokestatic 34, 3) := by decide +kernel
theorem dX3_status_4 : decode cX3_status 4 = .ok (.iload_n 2, 1) := by decide +kernel
theorem dX3_status_5 : decode cX3_status 5 = .ok (.invokestatic 34, 3) := by decide +kernel
theorem dX3_status_8 : decode cX3_status 8 = .ok (.aload_n 0, 1) := by decide +kernel
theorem dX3_status_9 : decode cX3_status 9 = .ok (.getfield 26, 3) := by decide +kernel
theorem dX3_status_12 : decode cX3_status 12 = .ok (.getfield 148, 3) := by decide +kernel
theorem dX3_status_15 : decode cX3_status 15 = .ok (.iload_n 1, 1) := by decide +kernel
theorem dX3_status_16 : decode cX3_status 16 = .ok (.aaload, 1) := by decide +kernel
theorem dX3_status_17 : decode cX3_status 17 = .ok (.iload_n 2, 1) := by decide +kernel
theorem dX3_status_18 : decode cX3_status 18 = .ok (.iaload, 1) := by decide +kernel
theorem dX3_status_19 : decode cX3_status 19 = .ok (.ireturn, 1) := by decide +kernel
set_option maxRecDepth 20000 in
theorem ggX3_partner_X3_requireNumber : GoodIn wsX3_partner wsX3_requireNumber := goodIn_ca (goodIn_r _ [7, 8, 9, 6, 10, 11, 12] (by decide +kernel) (by decide +kernel)) (goodIn_sub (fun _ h => List.mem_cons_of_mem _ (List.mem_append_right _ h)) (by decide +kernel))
set_option maxRecDepth 20000 in
theorem gX3_partner_X3_requireNumber : GoodIn wsX3_partner (va_wsS RX3 34 yX3_requireNumber wsX3_requireNumber) := goodIn_app (goodIn_of _ (by decide +kernel)) ggX3_partner_X3_requireNumber
set_option maxRecDepth 20000 in
theorem ggX3_partner_X1_calledBy : GoodIn wsX3_partner wsX1_calledBy := goodIn_r _ [17, 18, 19, 20, 16, 21, 22, 27, 28, 29, 30, 31, 32, 33, 34, 35, 36, 37, 38] (by decide +kernel) (by decide +kernel)
set_option maxRecDepth 20000 in
theorem gX3_partner_X1_calledBy : GoodIn wsX3_partner (wsV RX3 151 RX1 yX1_calledBy wsX1_calledBy) := goodIn_app (goodIn_of _ (by decide +kernel)) ggX3_partner_X1_calledBy
theorem dX3_partner_0 : decode cX3_partner 0 = .ok (.iload_n 1, 1) := by decide +kernel
theorem dX3_partner_1 : decode cX3_partner 1 = .ok (.invokestatic 34, 3) := by decide +kernel
theorem dX3_partner_4 : decode cX3_partner 4 = .ok (.aload_n 0, 1) := by decide +kernel
theorem dX3_partner_5 : decode cX3_partner 5 = .ok (.getfield 26, 3) := by decide +kernel
theorem dX3_partner_8 : decode cX3_partner 8 = .ok (.getfield 103, 3) := by decide +kernel
theorem dX3_partner_11 : decode cX3_partner 11 = .ok (.iload_n 1, 1) := by decide +kernel
theorem dX3_partner_12 : decode cX3_partner 12 = .ok (.baload, 1) := by decide +kernel
theorem dX3_partner_13 : decode cX3_partner 13 = .ok (.ifCond .eq 7, 3) := by decide +kernel
theorem dX3_partner_16 : decode cX3_partner 16 = .ok (.iconst (-1), 1) := by decide +kernel
theorem dX3_partner_17 : decode cX3_partner 17 = .ok (.goto 17, 3) := by decide +kernel
theorem dX3_partner_20 : decode cX3_partner 20 = .ok (.aload_n 0, 1) := by decide +kernel
theorem dX3_partner_21 : decode cX3_partner 21 = .ok (.getfield 26, 3) := by decide +kernel
theorem dX3_partner_24 : decode cX3_partner 24 = .ok (.iload_n 1, 1) := by decide +kernel
theorem dX3_partner_25 : decode cX3_partner 25 = .ok (.aload_n 0, 1) := by decide +kernel
theorem dX3_partner_26 : decode cX3_partner 26 = .ok (.getfield 30, 3) := by decide +kernel
theorem dX3_partner_29 : decode cX3_partner 29 = .ok (.iconst 1, 1) := by decide +kernel
theorem dX3_partner_30 : decode cX3_partner 30 = .ok (.iadd, 1) := by decide +kernel
theorem dX3_partner_31 : decode cX3_partner 31 = .ok (.invokevirtual 151, 3) := by decide +kernel
theorem dX3_partner_34 : decode cX3_partner 34 = .ok (.ireturn, 1) := by decide +kernel
set_option maxRecDepth 20000 in
theorem ggX3_freshest_X3_requireNumber : GoodIn wsX3_freshest wsX3_requireNumber := goodIn_ca (goodIn_r _ [5, 6, 7, 4, 8, 9, 10] (by decide +kernel) (by decide +kernel)) (goodIn_sub (fun _ h => List.mem_cons_of_mem _ (List.mem_append_right _ h)) (by decide +kernel))
set_option maxRecDepth 20000 in
theorem gX3_freshest_X3_requireNumber : GoodIn wsX3_freshest (va_wsS RX3 34 yX3_requireNumber wsX3_requireNumber) := goodIn_app (goodIn_of _ (by decide +kernel)) ggX3_freshest_X3_requireNumber
set_option maxRecDepth 20000 in
theorem ggX3_freshest_X1_freshestOf : GoodIn wsX3_freshest wsX1_freshestOf := goodIn_r _ [15, 16, 21, 22, 23, 24, 25, 26, 27, 28, 29, 30, 31, 32] (by decide +kernel) (by decide +kernel)
set_option maxRecDepth 20000 in
theorem gX3_freshest_X1_freshestOf : GoodIn wsX3_freshest (wsV RX3 155 RX1 yX1_freshestOf wsX1_freshestOf) := goodIn_app (goodIn_of _ (by decide +kernel)) ggX3_freshest_X1_freshestOf
theorem dX3_freshest_0 : decode cX3_freshest 0 = .ok (.iload_n 1, 1) := by decide +kernel
theorem dX3_freshest_1 : decode cX3_freshest 1 = .ok (.invokestatic 34, 3) := by decide +kernel
theorem dX3_freshest_4 : decode cX3_freshest 4 = .ok (.aload_n 0, 1) := by decide +kernel
theorem dX3_freshest_5 : decode cX3_freshest 5 = .ok (.getfield 26, 3) := by decide +kernel
theorem dX3_freshest_8 : decode cX3_freshest 8 = .ok (.iload_n 1, 1) := by decide +kernel
theorem dX3_freshest_9 : decode cX3_freshest 9 = .ok (.invokevirtual 155, 3) := by decide +kernel
theorem dX3_freshest_12 : decode cX3_freshest 12 = .ok (.ireturn, 1) := by decide +kernel
set_option maxRecDepth 20000 in
theorem ggX3_agree_X3_requireNumber : GoodIn wsX3_agree wsX3_requireNumber := goodIn_ca (goodIn_r _ [6, 7, 8, 5, 9, 10, 11] (by decide +kernel) (by decide +kernel)) (goodIn_sub (fun _ h => List.mem_cons_of_mem _ (List.mem_append_right _ h)) (by decide +kernel))
set_option maxRecDepth 20000 in
theorem gX3_agree_X3_requireNumber : GoodIn wsX3_agree (va_wsS RX3 34 yX3_requireNumber wsX3_requireNumber) := goodIn_app (goodIn_of _ (by decide +kernel)) ggX3_agree_X3_requireNumber
set_option maxRecDepth 20000 in
theorem ggX3_agree_X2_levelOf : GoodIn wsX3_agree wsX2_levelOf := goodIn_r _ [16, 17, 18, 35, 36, 37, 38, 39, 40, 41, 42] (by decide +kernel) (by decide +kernel)
set_option maxRecDepth 20000 in
theorem gX3_agree_X2_levelOf : GoodIn wsX3_agree (wsV RX3 65 RX2 yX2_levelOf wsX2_levelOf) := goodIn_app (goodIn_of _ (by decide +kernel)) ggX3_agree_X2_levelOf
set_option maxRecDepth 20000 in
theorem ggX3_agree_X1_believersOf : GoodIn wsX3_agree wsX1_believersOf := goodIn_r _ [23, 24, 25, 26, 27, 28, 22, 29, 30, 43, 44, 45, 46, 47, 48, 49, 50, 51, 52, 53, 54] (by decide +kernel) (by decide +kernel)
set_option maxRecDepth 20000 in
theorem gX3_agree_X1_believersOf : GoodIn wsX3_agree (wsV RX3 158 RX1 yX1_believersOf wsX1_believersOf) := goodIn_app (goodIn_of _ (by decide +kernel)) ggX3_agree_X1_believersOf
theorem dX3_agree_0 : decode cX3_agree 0 = .ok (.iload_n 1, 1) := by decide +kernel
theorem dX3_agree_1 : decode cX3_agree 1 = .ok (.invokestatic 34, 3) := by decide +kernel
theorem dX3_agree_4 : decode cX3_agree 4 = .ok (.aload_n 0, 1) := by decide +kernel
theorem dX3_agree_5 : decode cX3_agree 5 = .ok (.getfield 26, 3) := by decide +kernel
theorem dX3_agree_8 : decode cX3_agree 8 = .ok (.iload_n 1, 1) := by decide +kernel
theorem dX3_agree_9 : decode cX3_agree 9 = .ok (.aload_n 0, 1) := by decide +kernel
theorem dX3_agree_10 : decode cX3_agree 10 = .ok (.getfield 10, 3) := by decide +kernel
theorem dX3_agree_13 : decode cX3_agree 13 = .ok (.iload_n 1, 1) := by decide +kernel
theorem dX3_agree_14 : decode cX3_agree 14 = .ok (.invokevirtual 65, 3) := by decide +kernel
theorem dX3_agree_17 : decode cX3_agree 17 = .ok (.invokevirtual 158, 3) := by decide +kernel
theorem dX3_agree_20 : decode cX3_agree 20 = .ok (.ireturn, 1) := by decide +kernel
set_option maxRecDepth 20000 in
theorem ggX3_unnoticed_X1_countUnnoticed : GoodIn wsX3_unnoticed wsX1_countUnnoticed := goodIn_r _ [6, 7, 8, 9, 10, 5, 11, 12, 17, 18, 19, 20, 21, 22, 23, 24, 25, 26, 27, 28] (by decide +kernel) (by decide +kernel)
set_option maxRecDepth 20000 in
theorem gX3_unnoticed_X1_countUnnoticed : GoodIn wsX3_unnoticed (wsV RX3 161 RX1 yX1_countUnnoticed wsX1_countUnnoticed) := goodIn_app (goodIn_of _ (by decide +kernel)) ggX3_unnoticed_X1_countUnnoticed
theorem dX3_unnoticed_0 : decode cX3_unnoticed 0 = .ok (.aload_n 0, 1) := by decide +kernel
theorem dX3_unnoticed_1 : decode cX3_unnoticed 1 = .ok (.getfield 26, 3) := by decide +kernel
theorem dX3_unnoticed_4 : decode cX3_unnoticed 4 = .ok (.invokevirtual 161, 3) := by decide +kernel
theorem dX3_unnoticed_7 : decode cX3_unnoticed 7 = .ok (.ireturn, 1) := by decide +kernel
set_option maxRecDepth 20000 in
theorem ggX3_mistaken_X1_countMistaken : GoodIn wsX3_mistaken wsX1_countMistaken := goodIn_r _ [6, 7, 8, 9, 10, 5, 11, 12, 17, 18, 19, 20, 21, 22, 23, 24, 25, 26, 27, 28] (by decide +kernel) (by decide +kernel)
set_option maxRecDepth 20000 in
theorem gX3_mistaken_X1_countMistaken : GoodIn wsX3_mistaken (wsV RX3 165 RX1 yX1_countMistaken wsX1_countMistaken) := goodIn_app (goodIn_of _ (by decide +kernel)) ggX3_mistaken_X1_countMistaken
theorem dX3_mistaken_0 : decode cX3_mistaken 0 = .ok (.aload_n 0, 1) := by decide +kernel
theorem dX3_mistaken_1 : decode cX3_mistaken 1 = .ok (.getfield 26, 3) := by decide +kernel
theorem dX3_mistaken_4 : decode cX3_mistaken 4 = .ok (.invokevirtual 165, 3) := by decide +kernel
theorem dX3_mistaken_7 : decode cX3_mistaken 7 = .ok (.ireturn, 1) := by decide +kernel
theorem dX3_vain_0 : decode cX3_vain 0 = .ok (.aload_n 0, 1) := by decide +kernel
theorem dX3_vain_1 : decode cX3_vain 1 = .ok (.getfield 26, 3) := by decide +kernel
theorem dX3_vain_4 : decode cX3_vain 4 = .ok (.getfield 168, 3) := by decide +kernel
theorem dX3_vain_7 : decode cX3_vain 7 = .ok (.ireturn, 1) := by decide +kernel
set_option maxRecDepth 20000 in
theorem ggX3_tick_X3_requireWithin : GoodIn wsX3_tick wsX3_requireWithin := goodIn_ca (goodIn_r _ [7, 8, 9] (by decide +kernel) (by decide +kernel)) (goodIn_sub (fun _ h => List.mem_cons_of_mem _ (List.mem_append_right _ h)) (by decide +kernel))
set_option maxRecDepth 20000 in
theorem gX3_tick_X3_requireWithin : GoodIn wsX3_tick (va_wsS RX3 38 yX3_requireWithin wsX3_requireWithin) := goodIn_app (goodIn_of _ (by decide +kernel)) ggX3_tick_X3_requireWithin
set_option maxRecDepth 20000 in
theorem ggX3_tick_X3_passOneTick : GoodIn wsX3_tick wsX3_passOneTick := goodIn_r _ [13, 3, 14, 15, 16, 17, 18, 19, 20, 21, 22, 23, 24, 25, 26, 27, 28, 29, 30, 31, 32, 33, 34, 35, 36, 37, 38, 39, 40, 41, 42, 43, 44, 45, 46, 47, 48, 49, 50, 51, 52, 53, 54, 55, 56, 57, 58, 59, 60, 61, 62, 63, 64, 65, 66, 67, 68, 69, 70, 71, 72, 73, 74, 75, 76, 77, 78, 79, 80, 81, 82, 83, 84, 85, 86, 87, 88, 89, 90, 91, 92, 93, 94, 95, 96, 97, 98, 99, 100, 101, 102, 103, 104, 105, 106, 107, 108, 109, 110, 111, 112, 113, 114, 115, 116, 117, 118, 119, 120, 121, 122, 123, 124, 125, 126, 127, 6, 128, 129, 130, 131, 132, 133, 134, 135, 136, 137, 138, 139, 140, 141, 142, 143, 144, 145, 146, 147, 148, 149, 150, 151, 152, 153, 154, 155, 156, 157, 158, 159, 160, 161, 162, 163, 164, 165, 166, 167, 168, 169, 170, 171, 172, 173, 174, 175, 176, 177, 178, 179, 180, 181, 182, 183, 184, 185, 186, 187, 188, 189, 190] (by decide +kernel) (by decide +kernel)
set_option maxRecDepth 20000 in
theorem gX3_tick_X3_passOneTick : GoodIn wsX3_tick (wsV RX3 173 RX3 yX3_passOneTick wsX3_passOneTick) := goodIn_app (goodIn_of _ (by decide +kernel)) ggX3_tick_X3_passOneTick
theorem dX3_tick_0 : decode cX3_tick 0 = .ok (.iload_n 1, 1) := by decide +kernel
theorem dX3_tick_1 : decode cX3_tick 1 = .ok (.iconst 1, 1) := by decide +kernel
theorem dX3_tick_2 : decode cX3_tick 2 = .ok (.bipush 100, 2) := by decide +kernel
theorem dX3_tick_4 : decode cX3_tick 4 = .ok (.invokestatic 38, 3) := by decide +kernel
theorem dX3_tick_7 : decode cX3_tick 7 = .ok (.aload_n 0, 1) := by decide +kernel
theorem dX3_tick_8 : decode cX3_tick 8 = .ok (.getfield 30, 3) := by decide +kernel
theorem dX3_tick_11 : decode cX3_tick 11 = .ok (.iload_n 1, 1) := by decide +kernel
theorem dX3_tick_12 : decode cX3_tick 12 = .ok (.iadd, 1) := by decide +kernel
theorem dX3_tick_13 : decode cX3_tick 13 = .ok (.sipush 5000, 3) := by decide +kernel
theorem dX3_tick_16 : decode cX3_tick 16 = .ok (.if_icmp .le 13, 3) := by decide +kernel
theorem dX3_tick_19 : decode cX3_tick 19 = .ok (.new 90, 3) := by decide +kernel
theorem dX3_tick_22 : decode cX3_tick 22 = .ok (.dup, 1) := by decide +kernel
theorem dX3_tick_23 : decode cX3_tick 23 = .ok (.ldc 171, 2) := by decide +kernel
theorem dX3_tick_25 : decode cX3_tick 25 = .ok (.invokespecial 94, 3) := by decide +kernel
theorem dX3_tick_28 : decode cX3_tick 28 = .ok (.athrow, 1) := by decide +kernel
theorem dX3_tick_29 : decode cX3_tick 29 = .ok (.iconst 0, 1) := by decide +kernel
theorem dX3_tick_30 : decode cX3_tick 30 = .ok (.istore_n 2, 1) := by decide +kernel
theorem dX3_tick_31 : decode cX3_tick 31 = .ok (.iconst 0, 1) := by decide +kernel
theorem dX3_tick_32 : decode cX3_tick 32 = .ok (.istore_n 3, 1) := by decide +kernel
theorem dX3_tick_33 : decode cX3_tick 33 = .ok (.iload_n 3, 1) := by decide +kernel
theorem dX3_tick_34 : decode cX3_tick 34 = .ok (.iload_n 1, 1) := by decide +kernel
theorem dX3_tick_35 : decode cX3_tick 35 = .ok (.if_icmp .ge 16, 3) := by decide +kernel
theorem dX3_tick_38 : decode cX3_tick 38 = .ok (.iload_n 2, 1) := by decide +kernel
theorem dX3_tick_39 : decode cX3_tick 39 = .ok (.aload_n 0, 1) := by decide +kernel
theorem dX3_tick_40 : decode cX3_tick 40 = .ok (.invokevirtual 173, 3) := by decide +kernel
theorem dX3_tick_43 : decode cX3_tick 43 = .ok (.iadd, 1) := by decide +kernel
theorem dX3_tick_44 : decode cX3_tick 44 = .ok (.istore_n 2, 1) := by decide +kernel
theorem dX3_tick_45 : decode cX3_tick 45 = .ok (.iinc 3 1, 3) := by decide +kernel
theorem dX3_tick_48 : decode cX3_tick 48 = .ok (.goto (-15), 3) := by decide +kernel
theorem dX3_tick_51 : decode cX3_tick 51 = .ok (.iload_n 2, 1) := by decide +kernel
theorem dX3_tick_52 : decode cX3_tick 52 = .ok (.ireturn, 1) := by decide +kernel
theorem dX3_time_0 : decode cX3_time 0 = .ok (.aload_n 0, 1) := by decide +kernel
theorem dX3_time_1 : decode cX3_time 1 = .ok (.getfield 30, 3) := by decide +kernel
theorem dX3_time_4 : decode cX3_time 4 = .ok (.ireturn, 1) := by decide +kernel
set_option maxRecDepth 20000 in
theorem ggX3_passOneTick_X2_takeIn : GoodIn wsX3_passOneTick wsX2_takeIn := goodIn_r _ [9, 10, 11, 12, 13, 14, 8, 15, 16, 17, 152, 153, 154, 155, 156, 157, 158, 159] (by decide +kernel) (by decide +kernel)
set_option maxRecDepth 20000 in
theorem gX3_passOneTick_X2_takeIn : GoodIn wsX3_passOneTick (wsV RX3 176 RX2 yX2_takeIn wsX2_takeIn) := goodIn_app (goodIn_of _ (by decide +kernel)) ggX3_passOneTick_X2_takeIn
set_option maxRecDepth 20000 in
theorem ggX3_passOneTick_X2_letThrough : GoodIn wsX3_passOneTick wsX2_letThrough := goodIn_r _ [21, 16, 22, 23, 24, 25, 26, 27, 28, 29, 30, 31, 32, 33, 34, 35, 36, 8, 37, 152, 153, 154, 155, 156, 157, 158, 159, 160, 161, 162, 163, 164, 165, 166, 167] (by decide +kernel) (by decide +kernel)
set_option maxRecDepth 20000 in
theorem gX3_passOneTick_X2_letThrough : GoodIn wsX3_passOneTick (wsV RX3 179 RX2 yX2_letThrough wsX2_letThrough) := goodIn_app (goodIn_of _ (by decide +kernel)) ggX3_passOneTick_X2_letThrough
set_option maxRecDepth 20000 in
theorem ggX3_passOneTick_X2_spillOver : GoodIn wsX3_passOneTick wsX2_spillOver := goodIn_r _ [41, 16, 42, 43, 44, 45, 24, 46, 47, 34, 35, 36, 8, 37, 152, 153, 154, 155, 156, 157, 158, 159] (by decide +kernel) (by decide +kernel)
set_option maxRecDepth 20000 in
theorem gX3_passOneTick_X2_spillOver : GoodIn wsX3_passOneTick (wsV RX3 183 RX2 yX2_spillOver wsX2_spillOver) := goodIn_app (goodIn_of _ (by decide +kernel)) ggX3_passOneTick_X2_spillOver
set_option maxRecDepth 20000 in
theorem ggX3_passOneTick_X1_measureAll : GoodIn wsX3_passOneTick wsX1_measureAll := goodIn_r _ [52, 53, 54, 55, 56, 8, 57, 42, 16, 58, 59, 60, 51, 61, 62, 63, 64, 65, 66, 67, 168, 169, 170, 171, 172, 173, 174, 175, 176, 177, 178, 179, 152, 153, 154, 155, 156, 157, 158, 159] (by decide +kernel) (by decide +kernel)
set_option maxRecDepth 20000 in
theorem gX3_passOneTick_X1_measureAll : GoodIn wsX3_passOneTick (wsV RX3 186 RX1 yX1_measureAll wsX1_measureAll) := goodIn_app (goodIn_of _ (by decide +kernel)) ggX3_passOneTick_X1_measureAll
set_option maxRecDepth 20000 in
theorem ggX3_passOneTick_X1_callAll : GoodIn wsX3_passOneTick wsX1_callAll := goodIn_r _ [71, 53, 72, 73, 74, 51, 75, 76, 77, 78, 79, 80, 81, 82, 83, 84, 85, 86, 87, 88, 89, 90, 91, 92, 93, 94, 65, 63, 64, 95, 96, 97, 98, 66, 67, 168, 169, 170, 171, 172, 173, 174, 175, 176, 177, 178, 179] (by decide +kernel) (by decide +kernel)
set_option maxRecDepth 20000 in
theorem gX3_passOneTick_X1_callAll : GoodIn wsX3_passOneTick (wsV RX3 190 RX1 yX1_callAll wsX1_callAll) := goodIn_app (goodIn_of _ (by decide +kernel)) ggX3_passOneTick_X1_callAll
set_option maxRecDepth 20000 in
theorem ggX3_passOneTick_X1_lookAll : GoodIn wsX3_passOneTick wsX1_lookAll := goodIn_r _ [102, 53, 103, 104, 105, 51, 106, 86, 67, 107, 108, 109, 110, 111, 112, 168, 169, 170, 171, 172, 173, 174, 175, 176, 177, 178, 179] (by decide +kernel) (by decide +kernel)
set_option maxRecDepth 20000 in
theorem gX3_passOneTick_X1_lookAll : GoodIn wsX3_passOneTick (wsV RX3 193 RX1 yX1_lookAll wsX1_lookAll) := goodIn_app (goodIn_of _ (by decide +kernel)) ggX3_passOneTick_X1_lookAll
set_option maxRecDepth 20000 in
theorem ggX3_passOneTick_X3_ruleGates : GoodIn wsX3_passOneTick wsX3_ruleGates := goodIn_r _ [117, 4, 118, 3, 119, 120, 121, 122, 116, 123, 1, 124, 125, 126, 127, 128, 129, 51, 130, 64, 131, 132, 133, 134, 65, 135, 136, 137, 30, 138, 32, 139, 23, 24, 25, 140, 141, 142, 143, 144, 145, 146, 147, 45, 46, 148, 149, 150, 151, 168, 169, 170, 171, 172, 173, 174, 175, 176, 177, 178, 179, 160, 161, 162, 163, 164, 165, 166, 167] (by decide +kernel) (by decide +kernel)
set_option maxRecDepth 20000 in
theorem gX3_passOneTick_X3_ruleGates : GoodIn wsX3_passOneTick (wsV RX3 196 RX3 yX3_ruleGates wsX3_ruleGates) := goodIn_app (goodIn_of _ (by decide +kernel)) ggX3_passOneTick_X3_ruleGates
theorem dX3_passOneTick_0 : decode cX3_passOneTick 0 = .ok (.aload_n 0, 1) := by decide +kernel
theorem dX3_passOneTick_1 : decode cX3_passOneTick 1 = .ok (.dup, 1) := by decide +kernel
theorem dX3_passOneTick_2 : decode cX3_passOneTick 2 = .ok (.getfield 30, 3) := by decide +kernel
theorem dX3_passOneTick_5 : decode cX3_passOneTick 5 = .ok (.iconst 1, 1) := by decide +kernel
theorem dX3_passOneTick_6 : decode cX3_passOneTick 6 = .ok (.iadd, 1) := by decide +kernel
theorem dX3_passOneTick_7 : decode cX3_passOneTick 7 = .ok (.putfield 30, 3) := by decide +kernel
theorem dX3_passOneTick_10 : decode cX3_passOneTick 10 = .ok (.aload_n 0, 1) := by decide +kernel
theorem dX3_passOneTick_11 : decode cX3_passOneTick 11 = .ok (.getfield 10, 3) := by decide +kernel
theorem dX3_passOneTick_14 : decode cX3_passOneTick 14 = .ok (.invokevirtual 176, 3) := by decide +kernel
theorem dX3_passOneTick_17 : decode cX3_passOneTick 17 = .ok (.aload_n 0, 1) := by decide +kernel
theorem dX3_passOneTick_18 : decode cX3_passOneTick 18 = .ok (.getfield 10, 3) := by decide +kernel
theorem dX3_passOneTick_21 : decode cX3_passOneTick 21 = .ok (.aload_n 0, 1) := by decide +kernel
theorem dX3_passOneTick_22 : decode cX3_passOneTick 22 = .ok (.getfield 19, 3) := by decide +kernel
theorem dX3_passOneTick_25 : decode cX3_passOneTick 25 = .ok (.invokevirtual 179, 3) := by decide +kernel
theorem dX3_passOneTick_28 : decode cX3_passOneTick 28 = .ok (.aload_n 0, 1) := by decide +kernel
theorem dX3_passOneTick_29 : decode cX3_passOneTick 29 = .ok (.getfield 10, 3) := by decide +kernel
theorem dX3_passOneTick_32 : decode cX3_passOneTick 32 = .ok (.invokevirtual 183, 3) := by decide +kernel
theorem dX3_passOneTick_35 : decode cX3_passOneTick 35 = .ok (.istore_n 1, 1) := by decide +kernel
theorem dX3_passOneTick_36 : decode cX3_passOneTick 36 = .ok (.aload_n 0, 1) := by decide +kernel
theorem dX3_passOneTick_37 : decode cX3_passOneTick 37 = .ok (.getfield 26, 3) := by decide +kernel
theorem dX3_passOneTick_40 : decode cX3_passOneTick 40 = .ok (.aload_n 0, 1) := by decide +kernel
theorem dX3_passOneTick_41 : decode cX3_passOneTick 41 = .ok (.getfield 10, 3) := by decide +kernel
theorem dX3_passOneTick_44 : decode cX3_passOneTick 44 = .ok (.aload_n 0, 1) := by decide +kernel
theorem dX3_passOneTick_45 : decode cX3_passOneTick 45 = .ok (.getfield 30, 3) := by decide +kernel
theorem dX3_passOneTick_48 : decode cX3_passOneTick 48 = .ok (.invokevirtual 186, 3) := by decide +kernel
theorem dX3_passOneTick_51 : decode cX3_passOneTick 51 = .ok (.aload_n 0, 1) := by decide +kernel
theorem dX3_passOneTick_52 : decode cX3_passOneTick 52 = .ok (.getfield 26, 3) := by decide +kernel
theorem dX3_passOneTick_55 : decode cX3_passOneTick 55 = .ok (.aload_n 0, 1) := by decide +kernel
theorem dX3_passOneTick_56 : decode cX3_passOneTick 56 = .ok (.getfield 30, 3) := by decide +kernel
theorem dX3_passOneTick_59 : decode cX3_passOneTick 59 = .ok (.invokevirtual 190, 3) := by decide +kernel
theorem dX3_passOneTick_62 : decode cX3_passOneTick 62 = .ok (.aload_n 0, 1) := by decide +kernel
theorem dX3_passOneTick_63 : decode cX3_passOneTick 63 = .ok (.getfield 26, 3) := by decide +kernel
theorem dX3_passOneTick_66 : decode cX3_passOneTick 66 = .ok (.aload_n 0, 1) := by decide +kernel
theorem dX3_passOneTick_67 : decode cX3_passOneTick 67 = .ok (.getfield 30, 3) := by decide +kernel
theorem dX3_passOneTick_70 : decode cX3_passOneTick 70 = .ok (.invokevirtual 193, 3) := by decide +kernel
theorem dX3_passOneTick_73 : decode cX3_passOneTick 73 = .ok (.aload_n 0, 1) := by decide +kernel
theorem dX3_passOneTick_74 : decode cX3_passOneTick 74 = .ok (.invokevirtual 196, 3) := by decide +kernel
theorem dX3_passOneTick_77 : decode cX3_passOneTick 77 = .ok (.iload_n 1, 1) := by decide +kernel
theorem dX3_passOneTick_78 : decode cX3_passOneTick 78 = .ok (.ireturn, 1) := by decide +kernel
set_option maxRecDepth 20000 in
theorem ggX3_ruleGates_X3_ruleGate : GoodIn wsX3_ruleGates wsX3_ruleGate := goodIn_r _ [9, 1, 10, 3, 11, 12, 13, 14, 15, 16, 17, 18, 19, 20, 21, 22, 23, 24, 25, 26, 27, 28, 29, 30, 31, 32, 33, 34, 35, 36, 37, 38, 39, 40, 41, 42, 43, 44, 45, 46, 47, 48, 61, 62, 63, 64, 65, 66, 67, 68, 49, 50, 51, 52, 53, 54, 55, 56, 57, 58, 59, 60] (by decide +kernel) (by decide +kernel)
set_option maxRecDepth 20000 in
theorem gX3_ruleGates_X3_ruleGate : GoodIn wsX3_ruleGates (wsV RX3 199 RX3 yX3_ruleGate wsX3_ruleGate) := goodIn_app (goodIn_of _ (by decide +kernel)) ggX3_ruleGates_X3_ruleGate
theorem dX3_ruleGates_0 : decode cX3_ruleGates 0 = .ok (.iconst 0, 1) := by decide +kernel
theorem dX3_ruleGates_1 : decode cX3_ruleGates 1 = .ok (.istore_n 1, 1) := by decide +kernel
theorem dX3_ruleGates_2 : decode cX3_ruleGates 2 = .ok (.iload_n 1, 1) := by decide +kernel
theorem dX3_ruleGates_3 : decode cX3_ruleGates 3 = .ok (.bipush 8, 2) := by decide +kernel
theorem dX3_ruleGates_5 : decode cX3_ruleGates 5 = .ok (.if_icmp .ge 38, 3) := by decide +kernel
theorem dX3_ruleGates_8 : decode cX3_ruleGates 8 = .ok (.aload_n 0, 1) := by decide +kernel
theorem dX3_ruleGates_9 : decode cX3_ruleGates 9 = .ok (.getfield 26, 3) := by decide +kernel
theorem dX3_ruleGates_12 : decode cX3_ruleGates 12 = .ok (.getfield 103, 3) := by decide +kernel
theorem dX3_ruleGates_15 : decode cX3_ruleGates 15 = .ok (.iload_n 1, 1) := by decide +kernel
theorem dX3_ruleGates_16 : decode cX3_ruleGates 16 = .ok (.baload, 1) := by decide +kernel
theorem dX3_ruleGates_17 : decode cX3_ruleGates 17 = .ok (.ifCond .ne 20, 3) := by decide +kernel
theorem dX3_ruleGates_20 : decode cX3_ruleGates 20 = .ok (.aload_n 0, 1) := by decide +kernel
theorem dX3_ruleGates_21 : decode cX3_ruleGates 21 = .ok (.getfield 19, 3) := by decide +kernel
theorem dX3_ruleGates_24 : decode cX3_ruleGates 24 = .ok (.getfield 86, 3) := by decide +kernel
theorem dX3_ruleGates_27 : decode cX3_ruleGates 27 = .ok (.iload_n 1, 1) := by decide +kernel
theorem dX3_ruleGates_28 : decode cX3_ruleGates 28 = .ok (.baload, 1) := by decide +kernel
theorem dX3_ruleGates_29 : decode cX3_ruleGates 29 = .ok (.ifCond .ne 8, 3) := by decide +kernel
theorem dX3_ruleGates_32 : decode cX3_ruleGates 32 = .ok (.aload_n 0, 1) := by decide +kernel
theorem dX3_ruleGates_33 : decode cX3_ruleGates 33 = .ok (.iload_n 1, 1) := by decide +kernel
theorem dX3_ruleGates_34 : decode cX3_ruleGates 34 = .ok (.invokevirtual 199, 3) := by decide +kernel
theorem dX3_ruleGates_37 : decode cX3_ruleGates 37 = .ok (.iinc 1 1, 3) := by decide +kernel
theorem dX3_ruleGates_40 : decode cX3_ruleGates 40 = .ok (.goto (-38), 3) := by decide +kernel
theorem dX3_ruleGates_43 : decode cX3_ruleGates 43 = .ok (.return_, 1) := by decide +kernel
set_option maxRecDepth 20000 in
theorem ggX3_ruleGate_X1_isOld : GoodIn wsX3_ruleGate wsX1_isOld := goodIn_r _ [11, 12, 13, 14, 15, 10, 16, 17, 50, 51, 52, 53, 54, 55, 56, 57, 58, 59, 60, 61] (by decide +kernel) (by decide +kernel)
set_option maxRecDepth 20000 in
theorem gX3_ruleGate_X1_isOld : GoodIn wsX3_ruleGate (wsV RX3 202 RX1 yX1_isOld wsX1_isOld) := goodIn_app (goodIn_of _ (by decide +kernel)) ggX3_ruleGate_X1_isOld
set_option maxRecDepth 20000 in
theorem ggX3_ruleGate_X0_openForSafety : GoodIn wsX3_ruleGate wsX0_openForSafety := goodIn_r _ [22, 23, 24, 25, 26, 27, 28, 42, 43, 44, 45, 46, 47, 48, 49] (by decide +kernel) (by decide +kernel)
set_option maxRecDepth 20000 in
theorem gX3_ruleGate_X0_openForSafety : GoodIn wsX3_ruleGate (wsV RX3 206 RX0 yX0_openForSafety wsX0_openForSafety) := goodIn_app (goodIn_of _ (by decide +kernel)) ggX3_ruleGate_X0_openForSafety
set_option maxRecDepth 20000 in
theorem ggX3_ruleGate_X0_follow : GoodIn wsX3_ruleGate wsX0_follow := goodIn_r _ [32, 33, 23, 24, 25, 26, 27, 34, 35, 36, 37, 42, 43, 44, 45, 46, 47, 48, 49] (by decide +kernel) (by decide +kernel)
set_option maxRecDepth 20000 in
theorem gX3_ruleGate_X0_follow : GoodIn wsX3_ruleGate (wsV RX3 209 RX0 yX0_follow wsX0_follow) := goodIn_app (goodIn_of _ (by decide +kernel)) ggX3_ruleGate_X0_follow
theorem dX3_ruleGate_0 : decode cX3_ruleGate 0 = .ok (.iload_n 1, 1) := by decide +kernel
theorem dX3_ruleGate_1 : decode cX3_ruleGate 1 = .ok (.iconst 1, 1) := by decide +kernel
theorem dX3_ruleGate_2 : decode cX3_ruleGate 2 = .ok (.iadd, 1) := by decide +kernel
theorem dX3_ruleGate_3 : decode cX3_ruleGate 3 = .ok (.istore_n 2, 1) := by decide +kernel
theorem dX3_ruleGate_4 : decode cX3_ruleGate 4 = .ok (.iload_n 2, 1) := by decide +kernel
theorem dX3_ruleGate_5 : decode cX3_ruleGate 5 = .ok (.bipush 8, 2) := by decide +kernel
theorem dX3_ruleGate_7 : decode cX3_ruleGate 7 = .ok (.if_icmp .ge 7, 3) := by decide +kernel
theorem dX3_ruleGate_10 : decode cX3_ruleGate 10 = .ok (.iconst 1, 1) := by decide +kernel
theorem dX3_ruleGate_11 : decode cX3_ruleGate 11 = .ok (.goto 4, 3) := by decide +kernel
theorem dX3_ruleGate_14 : decode cX3_ruleGate 14 = .ok (.iconst 0, 1) := by decide +kernel
theorem dX3_ruleGate_15 : decode cX3_ruleGate 15 = .ok (.istore_n 3, 1) := by decide +kernel
theorem dX3_ruleGate_16 : decode cX3_ruleGate 16 = .ok (.iload_n 3, 1) := by decide +kernel
theorem dX3_ruleGate_17 : decode cX3_ruleGate 17 = .ok (.ifCond .eq 37, 3) := by decide +kernel
theorem dX3_ruleGate_20 : decode cX3_ruleGate 20 = .ok (.aload_n 0, 1) := by decide +kernel
theorem dX3_ruleGate_21 : decode cX3_ruleGate 21 = .ok (.getfield 26, 3) := by decide +kernel
theorem dX3_ruleGate_24 : decode cX3_ruleGate 24 = .ok (.iload_n 1, 1) := by decide +kernel
theorem dX3_ruleGate_25 : decode cX3_ruleGate 25 = .ok (.iload_n 2, 1) := by decide +kernel
theorem dX3_ruleGate_26 : decode cX3_ruleGate 26 = .ok (.aload_n 0, 1) := by decide +kernel
theorem dX3_ruleGate_27 : decode cX3_ruleGate 27 = .ok (.getfield 30, 3) := by decide +kernel
theorem dX3_ruleGate_30 : decode cX3_ruleGate 30 = .ok (.aload_n 0, 1) := by decide +kernel
theorem dX3_ruleGate_31 : decode cX3_ruleGate 31 = .ok (.getfield 19, 3) := by decide +kernel
theorem dX3_ruleGate_34 : decode cX3_ruleGate 34 = .ok (.getfield 83, 3) := by decide +kernel
theorem dX3_ruleGate_37 : decode cX3_ruleGate 37 = .ok (.iload_n 1, 1) := by decide +kernel
theorem dX3_ruleGate_38 : decode cX3_ruleGate 38 = .ok (.iaload, 1) := by decide +kernel
theorem dX3_ruleGate_39 : decode cX3_ruleGate 39 = .ok (.invokevirtual 202, 3) := by decide +kernel
theorem dX3_ruleGate_42 : decode cX3_ruleGate 42 = .ok (.ifCond .eq 12, 3) := by decide +kernel
theorem dX3_ruleGate_45 : decode cX3_ruleGate 45 = .ok (.aload_n 0, 1) := by decide +kernel
theorem dX3_ruleGate_46 : decode cX3_ruleGate 46 = .ok (.getfield 19, 3) := by decide +kernel
theorem dX3_ruleGate_49 : decode cX3_ruleGate 49 = .ok (.iload_n 1, 1) := by decide +kernel
theorem dX3_ruleGate_50 : decode cX3_ruleGate 50 = .ok (.invokevirtual 206, 3) := by decide +kernel
theorem dX3_ruleGate_53 : decode cX3_ruleGate 53 = .ok (.return_, 1) := by decide +kernel
theorem dX3_ruleGate_54 : decode cX3_ruleGate 54 = .ok (.iload_n 3, 1) := by decide +kernel
theorem dX3_ruleGate_55 : decode cX3_ruleGate 55 = .ok (.ifCond .eq 26, 3) := by decide +kernel
theorem dX3_ruleGate_58 : decode cX3_ruleGate 58 = .ok (.aload_n 0, 1) := by decide +kernel
theorem dX3_ruleGate_59 : decode cX3_ruleGate 59 = .ok (.getfield 26, 3) := by decide +kernel
theorem dX3_ruleGate_62 : decode cX3_ruleGate 62 = .ok (.getfield 136, 3) := by decide +kernel
theorem dX3_ruleGate_65 : decode cX3_ruleGate 65 = .ok (.iload_n 1, 1) := by decide +kernel
theorem dX3_ruleGate_66 : decode cX3_ruleGate 66 = .ok (.aaload, 1) := by decide +kernel
theorem dX3_ruleGate_67 : decode cX3_ruleGate 67 = .ok (.iload_n 2, 1) := by decide +kernel
theorem dX3_ruleGate_68 : decode cX3_ruleGate 68 = .ok (.iaload, 1) := by decide +kernel
theorem dX3_ruleGate_69 : decode cX3_ruleGate 69 = .ok (.aload_n 0, 1) := by decide +kernel
theorem dX3_ruleGate_70 : decode cX3_ruleGate 70 = .ok (.getfield 19, 3) := by decide +kernel
theorem dX3_ruleGate_73 : decode cX3_ruleGate 73 = .ok (.getfield 80, 3) := by decide +kernel
theorem dX3_ruleGate_76 : decode cX3_ruleGate 76 = .ok (.iload_n 1, 1) := by decide +kernel
theorem dX3_ruleGate_77 : decode cX3_ruleGate 77 = .ok (.iaload, 1) := by decide +kernel
theorem dX3_ruleGate_78 : decode cX3_ruleGate 78 = .ok (.if_icmp .ge 7, 3) := by decide +kernel
theorem dX3_ruleGate_81 : decode cX3_ruleGate 81 = .ok (.iconst 1, 1) := by decide +kernel
theorem dX3_ruleGate_82 : decode cX3_ruleGate 82 = .ok (.goto 4, 3) := by decide +kernel
theorem dX3_ruleGate_85 : decode cX3_ruleGate 85 = .ok (.iconst 0, 1) := by decide +kernel
theorem dX3_ruleGate_86 : decode cX3_ruleGate 86 = .ok (.istore 4, 2) := by decide +kernel
theorem dX3_ruleGate_88 : decode cX3_ruleGate 88 = .ok (.aload_n 0, 1) := by decide +kernel
theorem dX3_ruleGate_89 : decode cX3_ruleGate 89 = .ok (.getfield 19, 3) := by decide +kernel
theorem dX3_ruleGate_92 : decode cX3_ruleGate 92 = .ok (.iload_n 1, 1) := by decide +kernel
theorem dX3_ruleGate_93 : decode cX3_ruleGate 93 = .ok (.aload_n 0, 1) := by decide +kernel
theorem dX3_ruleGate_94 : decode cX3_ruleGate 94 = .ok (.getfield 26, 3) := by decide +kernel
theorem dX3_ruleGate_97 : decode cX3_ruleGate 97 = .ok (.getfield 136, 3) := by decide +kernel
theorem dX3_ruleGate_100 : decode cX3_ruleGate 100 = .ok (.iload_n 1, 1) := by decide +kernel
theorem dX3_ruleGate_101 : decode cX3_ruleGate 101 = .ok (.aaload, 1) := by decide +kernel
theorem dX3_ruleGate_102 : decode cX3_ruleGate 102 = .ok (.iload_n 1, 1) := by decide +kernel
theorem dX3_ruleGate_103 : decode cX3_ruleGate 103 = .ok (.iaload, 1) := by decide +kernel
theorem dX3_ruleGate_104 : decode cX3_ruleGate 104 = .ok (.iload 4, 2) := by decide +kernel
theorem dX3_ruleGate_106 : decode cX3_ruleGate 106 = .ok (.invokevirtual 209, 3) := by decide +kernel
theorem dX3_ruleGate_109 : decode cX3_ruleGate 109 = .ok (.return_, 1) := by decide +kernel
set_option maxRecDepth 20000 in
theorem ggX3_requireNumber_X3_requireWithin : GoodIn wsX3_requireNumber wsX3_requireWithin := goodIn_ca (goodIn_r _ [4, 5, 6] (by decide +kernel) (by decide +kernel)) (goodIn_sub (fun _ h => List.mem_cons_of_mem _ (List.mem_append_right _ h)) (by decide +kernel))
set_option maxRecDepth 20000 in
theorem gX3_requireNumber_X3_requireWithin : GoodIn wsX3_requireNumber (va_wsS RX3 38 yX3_requireWithin wsX3_requireWithin) := goodIn_app (goodIn_of _ (by decide +kernel)) ggX3_requireNumber_X3_requireWithin
theorem dX3_requireNumber_0 : decode cX3_requireNumber 0 = .ok (.iload_n 0, 1) := by decide +kernel
theorem dX3_requireNumber_1 : decode cX3_requireNumber 1 = .ok (.iconst 0, 1) := by decide +kernel
theorem dX3_requireNumber_2 : decode cX3_requireNumber 2 = .ok (.bipush 7, 2) := by decide +kernel
theorem dX3_requireNumber_4 : decode cX3_requireNumber 4 = .ok (.invokestatic 38, 3) := by decide +kernel
theorem dX3_requireNumber_7 : decode cX3_requireNumber 7 = .ok (.return_, 1) := by decide +kernel
theorem dX3_requireWithin_0 : decode cX3_requireWithin 0 = .ok (.iload_n 0, 1) := by decide +kernel
theorem dX3_requireWithin_1 : decode cX3_requireWithin 1 = .ok (.iload_n 1, 1) := by decide +kernel
theorem dX3_requireWithin_2 : decode cX3_requireWithin 2 = .ok (.if_icmp .lt 8, 3) := by decide +kernel
theorem dX3_requireWithin_5 : decode cX3_requireWithin 5 = .ok (.iload_n 0, 1) := by decide +kernel
theorem dX3_requireWithin_6 : decode cX3_requireWithin 6 = .ok (.iload_n 2, 1) := by decide +kernel
theorem dX3_requireWithin_7 : decode cX3_requireWithin 7 = .ok (.if_icmp .le 13, 3) := by decide +kernel
theorem dX3_requireWithin_10 : decode cX3_requireWithin 10 = .ok (.new 213, 3) := by decide +kernel
theorem dX3_requireWithin_13 : decode cX3_requireWithin 13 = .ok (.dup, 1) := by decide +kernel
theorem dX3_requireWithin_14 : decode cX3_requireWithin 14 = .ok (.ldc 215, 2) := by decide +kernel
theorem dX3_requireWithin_16 : decode cX3_requireWithin 16 = .ok (.invokespecial 217, 3) := by decide +kernel
theorem dX3_requireWithin_19 : decode cX3_requireWithin 19 = .ok (.athrow, 1) := by decide +kernel
theorem dX3_requireWithin_20 : decode cX3_requireWithin 20 = .ok (.return_, 1) := by decide +kernel
end
section
theorem dX4_init_0 : decode cX4_init 0 = .ok (.aload_n 0, 1) := by decide +kernel
theorem dX4_init_1 : decode cX4_init 1 = .ok (.invokespecial 1, 3) := by decide +kernel
theorem dX4_init_4 : decode cX4_init 4 = .ok (.aload_n 0, 1) := by decide +kernel
theorem dX4_init_5 : decode cX4_init 5 = .ok (.bipush 8, 2) := by decide +kernel
theorem dX4_init_7 : decode cX4_init 7 = .ok (.newarray .int, 2) := by decide +kernel
theorem dX4_init_9 : decode cX4_init 9 = .ok (.putfield 7, 3) := by decide +kernel
theorem dX4_init_12 : decode cX4_init 12 = .ok (.aload_n 0, 1) := by decide +kernel
theorem dX4_init_13 : decode cX4_init 13 = .ok (.bipush 8, 2) := by decide +kernel
theorem dX4_init_15 : decode cX4_init 15 = .ok (.newarray .int, 2) := by decide +kernel
theorem dX4_init_17 : decode cX4_init 17 = .ok (.putfield 13, 3) := by decide +kernel
theorem dX4_init_20 : decode cX4_init 20 = .ok (.aload_n 0, 1) := by decide +kernel
theorem dX4_init_21 : decode cX4_init 21 = .ok (.bipush 8, 2) := by decide +kernel
theorem dX4_init_23 : decode cX4_init 23 = .ok (.newarray .int, 2) := by decide +kernel
theorem dX4_init_25 : decode cX4_init 25 = .ok (.putfield 16, 3) := by decide +kernel
theorem dX4_init_28 : decode cX4_init 28 = .ok (.aload_n 0, 1) := by decide +kernel
theorem dX4_init_29 : decode cX4_init 29 = .ok (.bipush 8, 2) := by decide +kernel
theorem dX4_init_31 : decode cX4_init 31 = .ok (.newarray .int, 2) := by decide +kernel
theorem dX4_init_33 : decode cX4_init 33 = .ok (.putfield 19, 3) := by decide +kernel
theorem dX4_init_36 : decode cX4_init 36 = .ok (.aload_n 0, 1) := by decide +kernel
theorem dX4_init_37 : decode cX4_init 37 = .ok (.bipush 8, 2) := by decide +kernel
theorem dX4_init_39 : decode cX4_init 39 = .ok (.newarray .int, 2) := by decide +kernel
theorem dX4_init_41 : decode cX4_init 41 = .ok (.putfield 22, 3) := by decide +kernel
theorem dX4_init_44 : decode cX4_init 44 = .ok (.aload_n 0, 1) := by decide +kernel
theorem dX4_init_45 : decode cX4_init 45 = .ok (.bipush 8, 2) := by decide +kernel
theorem dX4_init_47 : decode cX4_init 47 = .ok (.newarray .int, 2) := by decide +kernel
theorem dX4_init_49 : decode cX4_init 49 = .ok (.putfield 25, 3) := by decide +kernel
theorem dX4_init_52 : decode cX4_init 52 = .ok (.aload_n 0, 1) := by decide +kernel
theorem dX4_init_53 : decode cX4_init 53 = .ok (.bipush 8, 2) := by decide +kernel
theorem dX4_init_55 : decode cX4_init 55 = .ok (.newarray .int, 2) := by decide +kernel
theorem dX4_init_57 : decode cX4_init 57 = .ok (.putfield 28, 3) := by decide +kernel
theorem dX4_init_60 : decode cX4_init 60 = .ok (.aload_n 0, 1) := by decide +kernel
theorem dX4_init_61 : decode cX4_init 61 = .ok (.bipush 8, 2) := by decide +kernel
theorem dX4_init_63 : decode cX4_init 63 = .ok (.newarray .int, 2) := by decide +kernel
theorem dX4_init_65 : decode cX4_init 65 = .ok (.putfield 31, 3) := by decide +kernel
theorem dX4_init_68 : decode cX4_init 68 = .ok (.aload_n 0, 1) := by decide +kernel
theorem dX4_init_69 : decode cX4_init 69 = .ok (.bipush 8, 2) := by decide +kernel
theorem dX4_init_71 : decode cX4_init 71 = .ok (.newarray .int, 2) := by decide +kernel
theorem dX4_init_73 : decode cX4_init 73 = .ok (.putfield 34, 3) := by decide +kernel
theorem dX4_init_76 : decode cX4_init 76 = .ok (.aload_n 0, 1) := by decide +kernel
theorem dX4_init_77 : decode cX4_init 77 = .ok (.bipush 8, 2) := by decide +kernel
theorem dX4_init_79 : decode cX4_init 79 = .ok (.newarray .int, 2) := by decide +kernel
theorem dX4_init_81 : decode cX4_init 81 = .ok (.putfield 37, 3) := by decide +kernel
theorem dX4_init_84 : decode cX4_init 84 = .ok (.aload_n 0, 1) := by decide +kernel
theorem dX4_init_85 : decode cX4_init 85 = .ok (.bipush 8, 2) := by decide +kernel
theorem dX4_init_87 : decode cX4_init 87 = .ok (.newarray .int, 2) := by decide +kernel
theorem dX4_init_89 : decode cX4_init 89 = .ok (.putfield 40, 3) := by decide +kernel
theorem dX4_init_92 : decode cX4_init 92 = .ok (.aload_n 0, 1) := by decide +kernel
theorem dX4_init_93 : decode cX4_init 93 = .ok (.bipush 8, 2) := by decide +kernel
theorem dX4_init_95 : decode cX4_init 95 = .ok (.newarray .int, 2) := by decide +kernel
theorem dX4_init_97 : decode cX4_init 97 = .ok (.putfield 43, 3) := by decide +kernel
theorem dX4_init_100 : decode cX4_init 100 = .ok (.aload_n 0, 1) := by decide +kernel
theorem dX4_init_101 : decode cX4_init 101 = .ok (.bipush 8, 2) := by decide +kernel
theorem dX4_init_103 : decode cX4_init 103 = .ok (.newarray .int, 2) := by decide +kernel
theorem dX4_init_105 : decode cX4_init 105 = .ok (.putfield 46, 3) := by decide +kernel
theorem dX4_init_108 : decode cX4_init 108 = .ok (.aload_n 0, 1) := by decide +kernel
theorem dX4_init_109 : decode cX4_init 109 = .ok (.bipush 8, 2) := by decide +kernel
theorem dX4_init_111 : decode cX4_init 111 = .ok (.newarray .boolean, 2) := by decide +kernel
theorem dX4_init_113 : decode cX4_init 113 = .ok (.putfield 49, 3) := by decide +kernel
theorem dX4_init_116 : decode cX4_init 116 = .ok (.aload_n 0, 1) := by decide +kernel
theorem dX4_init_117 : decode cX4_init 117 = .ok (.bipush 8, 2) := by decide +kernel
theorem dX4_init_119 : decode cX4_init 119 = .ok (.newarray .int, 2) := by decide +kernel
theorem dX4_init_121 : decode cX4_init 121 = .ok (.putfield 53, 3) := by decide +kernel
theorem dX4_init_124 : decode cX4_init 124 = .ok (.aload_n 0, 1) := by decide +kernel
theorem dX4_init_125 : decode cX4_init 125 = .ok (.bipush 8, 2) := by decide +kernel
theorem dX4_init_127 : decode cX4_init 127 = .ok (.newarray .boolean, 2) := by decide +kernel
theorem dX4_init_129 : decode cX4_init 129 = .ok (.putfield 56, 3) := by decide +kernel
theorem dX4_init_132 : decode cX4_init 132 = .ok (.aload_n 0, 1) := by decide +kernel
theorem dX4_init_133 : decode cX4_init 133 = .ok (.bipush 8, 2) := by decide +kernel
theorem dX4_init_135 : decode cX4_init 135 = .ok (.newarray .int, 2) := by decide +kernel
theorem dX4_init_137 : decode cX4_init 137 = .ok (.putfield 59, 3) := by decide +kernel
theorem dX4_init_140 : decode cX4_init 140 = .ok (.aload_n 0, 1) := by decide +kernel
theorem dX4_init_141 : decode cX4_init 141 = .ok (.bipush 8, 2) := by decide +kernel
theorem dX4_init_143 : decode cX4_init 143 = .ok (.newarray .boolean, 2) := by decide +kernel
theorem dX4_init_145 : decode cX4_init 145 = .ok (.putfield 62, 3) := by decide +kernel
theorem dX4_init_148 : decode cX4_init 148 = .ok (.aload_n 0, 1) := by decide +kernel
theorem dX4_init_149 : decode cX4_init 149 = .ok (.bipush 64, 2) := by decide +kernel
theorem dX4_init_151 : decode cX4_init 151 = .ok (.newarray .int, 2) := by decide +kernel
theorem dX4_init_153 : decode cX4_init 153 = .ok (.putfield 65, 3) := by decide +kernel
theorem dX4_init_156 : decode cX4_init 156 = .ok (.aload_n 0, 1) := by decide +kernel
theorem dX4_init_157 : decode cX4_init 157 = .ok (.bipush 64, 2) := by decide +kernel
theorem dX4_init_159 : decode cX4_init 159 = .ok (.newarray .int, 2) := by decide +kernel
theorem dX4_init_161 : decode cX4_init 161 = .ok (.putfield 68, 3) := by decide +kernel
theorem dX4_init_164 : decode cX4_init 164 = .ok (.aload_n 0, 1) := by decide +kernel
theorem dX4_init_165 : decode cX4_init 165 = .ok (.bipush 64, 2) := by decide +kernel
theorem dX4_init_167 : decode cX4_init 167 = .ok (.newarray .int, 2) := by decide +kernel
theorem dX4_init_169 : decode cX4_init 169 = .ok (.putfield 71, 3) := by decide +kernel
theorem dX4_init_172 : decode cX4_init 172 = .ok (.aload_n 0, 1) := by decide +kernel
theorem dX4_init_173 : decode cX4_init 173 = .ok (.bipush 64, 2) := by decide +kernel
theorem dX4_init_175 : decode cX4_init 175 = .ok (.newarray .int, 2) := by decide +kernel
theorem dX4_init_177 : decode cX4_init 177 = .ok (.putfield 74, 3) := by decide +kernel
theorem dX4_init_180 : decode cX4_init 180 = .ok (.aload_n 0, 1) := by decide +kernel
theorem dX4_init_181 : decode cX4_init 181 = .ok (.bipush 64, 2) := by decide +kernel
theorem dX4_init_183 : decode cX4_init 183 = .ok (.newarray .int, 2) := by decide +kernel
theorem dX4_init_185 : decode cX4_init 185 = .ok (.putfield 77, 3) := by decide +kernel
theorem dX4_init_188 : decode cX4_init 188 = .ok (.aload_n 0, 1) := by decide +kernel
theorem dX4_init_189 : decode cX4_init 189 = .ok (.bipush 64, 2) := by decide +kernel
theorem dX4_init_191 : decode cX4_init 191 = .ok (.newarray .int, 2) := by decide +kernel
theorem dX4_init_193 : decode cX4_init 193 = .ok (.putfield 80, 3) := by decide +kernel
theorem dX4_init_196 : decode cX4_init 196 = .ok (.aload_n 0, 1) := by decide +kernel
theorem dX4_init_197 : decode cX4_init 197 = .ok (.iconst 3, 1) := by decide +kernel
theorem dX4_init_198 : decode cX4_init 198 = .ok (.putfield 83, 3) := by decide +kernel
theorem dX4_init_201 : decode cX4_init 201 = .ok (.aload_n 0, 1) := by decide +kernel
theorem dX4_init_202 : decode cX4_init 202 = .ok (.bipush 6, 2) := by decide +kernel
theorem dX4_init_204 : decode cX4_init 204 = .ok (.putfield 87, 3) := by decide +kernel
theorem dX4_init_207 : decode cX4_init 207 = .ok (.iconst 0, 1) := by decide +kernel
theorem dX4_init_208 : decode cX4_init 208 = .ok (.istore_n 1, 1) := by decide +kernel
theorem dX4_init_209 : decode cX4_init 209 = .ok (.iload_n 1, 1) := by decide +kernel
theorem dX4_init_210 : decode cX4_init 210 = .ok (.bipush 8, 2) := by decide +kernel
theorem dX4_init_212 : decode cX4_init 212 = .ok (.if_icmp .ge 63, 3) := by decide +kernel
theorem dX4_init_215 : decode cX4_init 215 = .ok (.aload_n 0, 1) := by decide +kernel
theorem dX4_init_216 : decode cX4_init 216 = .ok (.getfield 7, 3) := by decide +kernel
theorem dX4_init_219 : decode cX4_init 219 = .ok (.iload_n 1, 1) := by decide +kernel
theorem dX4_init_220 : decode cX4_init 220 = .ok (.bipush 10, 2) := by decide +kernel
theorem dX4_init_222 : decode cX4_init 222 = .ok (.iastore, 1) := by decide +kernel
theorem dX4_init_223 : decode cX4_init 223 = .ok (.aload_n 0, 1) := by decide +kernel
theorem dX4_init_224 : decode cX4_init 224 = .ok (.getfield 13, 3) := by decide +kernel
theorem dX4_init_227 : decode cX4_init 227 = .ok (.iload_n 1, 1) := by decide +kernel
theorem dX4_init_228 : decode cX4_init 228 = .ok (.bipush 100, 2) := by decide +kernel
theorem dX4_init_230 : decode cX4_init 230 = .ok (.iastore, 1) := by decide +kernel
theorem dX4_init_231 : decode cX4_init 231 = .ok (.aload_n 0, 1) := by decide +kernel
theorem dX4_init_232 : decode cX4_init 232 = .ok (.getfield 22, 3) := by decide +kernel
theorem dX4_init_235 : decode cX4_init 235 = .ok (.iload_n 1, 1) := by decide +kernel
theorem dX4_init_236 : decode cX4_init 236 = .ok (.iconst 5, 1) := by decide +kernel
theorem dX4_init_237 : decode cX4_init 237 = .ok (.iastore, 1) := by decide +kernel
theorem dX4_init_238 : decode cX4_init 238 = .ok (.aload_n 0, 1) := by decide +kernel
theorem dX4_init_239 : decode cX4_init 239 = .ok (.getfield 37, 3) := by decide +kernel
theorem dX4_init_242 : decode cX4_init 242 = .ok (.iload_n 1, 1) := by decide +kernel
theorem dX4_init_243 : decode cX4_init 243 = .ok (.bipush 20, 2) := by decide +kernel
theorem dX4_init_245 : decode cX4_init 245 = .ok (.iastore, 1) := by decide +kernel
theorem dX4_init_246 : decode cX4_init 246 = .ok (.aload_n 0, 1) := by decide +kernel
theorem dX4_init_247 : decode cX4_init 247 = .ok (.getfield 40, 3) := by decide +kernel
theorem dX4_init_250 : decode cX4_init 250 = .ok (.iload_n 1, 1) := by decide +kernel
theorem dX4_init_251 : decode cX4_init 251 = .ok (.bipush 40, 2) := by decide +kernel
theorem dX4_init_253 : decode cX4_init 253 = .ok (.iastore, 1) := by decide +kernel
theorem dX4_init_254 : decode cX4_init 254 = .ok (.aload_n 0, 1) := by decide +kernel
theorem dX4_init_255 : decode cX4_init 255 = .ok (.getfield 43, 3) := by decide +kernel
theorem dX4_init_258 : decode cX4_init 258 = .ok (.iload_n 1, 1) := by decide +kernel
theorem dX4_init_259 : decode cX4_init 259 = .ok (.bipush 80, 2) := by decide +kernel
theorem dX4_init_261 : decode cX4_init 261 = .ok (.iastore, 1) := by decide +kernel
theorem dX4_init_262 : decode cX4_init 262 = .ok (.aload_n 0, 1) := by decide +kernel
theorem dX4_init_263 : decode cX4_init 263 = .ok (.getfield 46, 3) := by decide +kernel
theorem dX4_init_266 : decode cX4_init 266 = .ok (.iload_n 1, 1) := by decide +kernel
theorem dX4_init_267 : decode cX4_init 267 = .ok (.iconst 5, 1) := by decide +kernel
theorem dX4_init_268 : decode cX4_init 268 = .ok (.iastore, 1) := by decide +kernel
theorem dX4_init_269 : decode cX4_init 269 = .ok (.iinc 1 1, 3) := by decide +kernel
theorem dX4_init_272 : decode cX4_init 272 = .ok (.goto (-63), 3) := by decide +kernel
theorem dX4_init_275 : decode cX4_init 275 = .ok (.return_, 1) := by decide +kernel
theorem dX4_thrown_0 : decode cX4_thrown 0 = .ok (.aload_n 0, 1) := by decide +kernel
theorem dX4_thrown_1 : decode cX4_thrown 1 = .ok (.getfield 90, 3) := by decide +kernel
theorem dX4_thrown_4 : decode cX4_thrown 4 = .ok (.ireturn, 1) := by decide +kernel
theorem dX4_goes_0 : decode cX4_goes 0 = .ok (.aload_n 0, 1) := by decide +kernel
theorem dX4_goes_1 : decode cX4_goes 1 = .ok (.iload_n 1, 1) := by decide +kernel
theorem dX4_goes_2 : decode cX4_goes 2 = .ok (.putfield 90, 3) := by decide +kernel
theorem dX4_goes_5 : decode cX4_goes 5 = .ok (.iload_n 1, 1) := by decide +kernel
theorem dX4_goes_6 : decode cX4_goes 6 = .ok (.ifCond .ne 7, 3) := by decide +kernel
theorem dX4_goes_9 : decode cX4_goes 9 = .ok (.iconst 1, 1) := by decide +kernel
theorem dX4_goes_10 : decode cX4_goes 10 = .ok (.goto 4, 3) := by decide +kernel
theorem dX4_goes_13 : decode cX4_goes 13 = .ok (.iconst 0, 1) := by decide +kernel
theorem dX4_goes_14 : decode cX4_goes 14 = .ok (.ireturn, 1) := by decide +kernel
theorem dX4_isIn_0 : decode cX4_isIn 0 = .ok (.iload_n 0, 1) := by decide +kernel
theorem dX4_isIn_1 : decode cX4_isIn 1 = .ok (.iload_n 1, 1) := by decide +kernel
theorem dX4_isIn_2 : decode cX4_isIn 2 = .ok (.if_icmp .lt 12, 3) := by decide +kernel
theorem dX4_isIn_5 : decode cX4_isIn 5 = .ok (.iload_n 0, 1) := by decide +kernel
theorem dX4_isIn_6 : decode cX4_isIn 6 = .ok (.iload_n 2, 1) := by decide +kernel
theorem dX4_isIn_7 : decode cX4_isIn 7 = .ok (.if_icmp .gt 7, 3) := by decide +kernel
theorem dX4_isIn_10 : decode cX4_isIn 10 = .ok (.iconst 1, 1) := by decide +kernel
theorem dX4_isIn_11 : decode cX4_isIn 11 = .ok (.goto 4, 3) := by decide +kernel
theorem dX4_isIn_14 : decode cX4_isIn 14 = .ok (.iconst 0, 1) := by decide +kernel
theorem dX4_isIn_15 : decode cX4_isIn 15 = .ok (.ireturn, 1) := by decide +kernel
set_option maxRecDepth 20000 in
theorem ggX4_isOne_X4_isIn : GoodIn wsX4_isOne wsX4_isIn := goodIn_r _ [4] (by decide +kernel) (by decide +kernel)
set_option maxRecDepth 20000 in
theorem gX4_isOne_X4_isIn : GoodIn wsX4_isOne (va_wsS RX4 93 yX4_isIn wsX4_isIn) := goodIn_app (goodIn_of _ (by decide +kernel)) ggX4_isOne_X4_isIn
theorem dX4_isOne_0 : decode cX4_isOne 0 = .ok (.iload_n 0, 1) := by decide +kernel
theorem dX4_isOne_1 : decode cX4_isOne 1 = .ok (.iconst 0, 1) := by decide +kernel
theorem dX4_isOne_2 : decode cX4_isOne 2 = .ok (.bipush 7, 2) := by decide +kernel
theorem dX4_isOne_4 : decode cX4_isOne 4 = .ok (.invokestatic 93, 3) := by decide +kernel
theorem dX4_isOne_7 : decode cX4_isOne 7 = .ok (.ireturn, 1) := by decide +kernel
set_option maxRecDepth 20000 in
theorem ggX4_asks_X4_isOne : GoodIn wsX4_asks wsX4_isOne := goodIn_r _ [4, 5, 6, 3, 7] (by decide +kernel) (by decide +kernel)
set_option maxRecDepth 20000 in
theorem gX4_asks_X4_isOne : GoodIn wsX4_asks (va_wsS RX4 97 yX4_isOne wsX4_isOne) := goodIn_app (goodIn_of _ (by decide +kernel)) ggX4_asks_X4_isOne
set_option maxRecDepth 20000 in
theorem ggX4_asks_X4_goes : GoodIn wsX4_asks wsX4_goes := goodIn_r _ [11, 12, 13, 14, 15, 16, 17, 18, 19, 20, 21, 22, 23, 24, 25, 26, 27, 28, 29, 30, 31, 32, 33, 34, 35, 36, 37, 38, 39, 40, 41, 42] (by decide +kernel) (by decide +kernel)
set_option maxRecDepth 20000 in
theorem gX4_asks_X4_goes : GoodIn wsX4_asks (wsV RX4 101 RX4 yX4_goes wsX4_goes) := goodIn_app (goodIn_of _ (by decide +kernel)) ggX4_asks_X4_goes
theorem dX4_asks_0 : decode cX4_asks 0 = .ok (.aload_n 0, 1) := by decide +kernel
theorem dX4_asks_1 : decode cX4_asks 1 = .ok (.iload_n 1, 1) := by decide +kernel
theorem dX4_asks_2 : decode cX4_asks 2 = .ok (.invokestatic 97, 3) := by decide +kernel
theorem dX4_asks_5 : decode cX4_asks 5 = .ok (.ifCond .eq 7, 3) := by decide +kernel
theorem dX4_asks_8 : decode cX4_asks 8 = .ok (.iconst 0, 1) := by decide +kernel
theorem dX4_asks_9 : decode cX4_asks 9 = .ok (.goto 4, 3) := by decide +kernel
theorem dX4_asks_12 : decode cX4_asks 12 = .ok (.iconst 1, 1) := by decide +kernel
theorem dX4_asks_13 : decode cX4_asks 13 = .ok (.invokevirtual 101, 3) := by decide +kernel
theorem dX4_asks_16 : decode cX4_asks 16 = .ok (.ireturn, 1) := by decide +kernel
set_option maxRecDepth 20000 in
theorem ggX4_ask_X4_isOne : GoodIn wsX4_ask wsX4_isOne := goodIn_r _ [4, 5, 6, 3, 7] (by decide +kernel) (by decide +kernel)
set_option maxRecDepth 20000 in
theorem gX4_ask_X4_isOne : GoodIn wsX4_ask (va_wsS RX4 97 yX4_isOne wsX4_isOne) := goodIn_app (goodIn_of _ (by decide +kernel)) ggX4_ask_X4_isOne
set_option maxRecDepth 20000 in
theorem ggX4_ask_X4_goes : GoodIn wsX4_ask wsX4_goes := goodIn_r _ [11, 12, 13, 14, 15, 16, 17, 18, 19, 20, 21, 22, 23, 24, 25, 26, 27, 28, 29, 30, 31, 32, 33, 34, 35, 36, 37, 38, 39, 40, 41, 42] (by decide +kernel) (by decide +kernel)
set_option maxRecDepth 20000 in
theorem gX4_ask_X4_goes : GoodIn wsX4_ask (wsV RX4 101 RX4 yX4_goes wsX4_goes) := goodIn_app (goodIn_of _ (by decide +kernel)) ggX4_ask_X4_goes
theorem dX4_ask_0 : decode cX4_ask 0 = .ok (.aload_n 0, 1) := by decide +kernel
theorem dX4_ask_1 : decode cX4_ask 1 = .ok (.iload_n 1, 1) := by decide +kernel
theorem dX4_ask_2 : decode cX4_ask 2 = .ok (.invokestatic 97, 3) := by decide +kernel
theorem dX4_ask_5 : decode cX4_ask 5 = .ok (.ifCond .eq 14, 3) := by decide +kernel
theorem dX4_ask_8 : decode cX4_ask 8 = .ok (.iload_n 2, 1) := by decide +kernel
theorem dX4_ask_9 : decode cX4_ask 9 = .ok (.invokestatic 97, 3) := by decide +kernel
theorem dX4_ask_12 : decode cX4_ask 12 = .ok (.ifCond .eq 7, 3) := by decide +kernel
theorem dX4_ask_15 : decode cX4_ask 15 = .ok (.iconst 0, 1) := by decide +kernel
theorem dX4_ask_16 : decode cX4_ask 16 = .ok (.goto 4, 3) := by decide +kernel
theorem dX4_ask_19 : decode cX4_ask 19 = .ok (.iconst 1, 1) := by decide +kernel
theorem dX4_ask_20 : decode cX4_ask 20 = .ok (.invokevirtual 101, 3) := by decide +kernel
theorem dX4_ask_23 : decode cX4_ask 23 = .ok (.ireturn, 1) := by decide +kernel
theorem dX4_at_0 : decode cX4_at 0 = .ok (.bipush 8, 2) := by decide +kernel
theorem dX4_at_2 : decode cX4_at 2 = .ok (.iload_n 0, 1) := by decide +kernel
theorem dX4_at_3 : decode cX4_at 3 = .ok (.imul, 1) := by decide +kernel
theorem dX4_at_4 : decode cX4_at 4 = .ok (.iload_n 1, 1) := by decide +kernel
theorem dX4_at_5 : decode cX4_at 5 = .ok (.iadd, 1) := by decide +kernel
theorem dX4_at_6 : decode cX4_at 6 = .ok (.ireturn, 1) := by decide +kernel
set_option maxRecDepth 20000 in
theorem ggX4_shape_X4_isOne : GoodIn wsX4_shape wsX4_isOne := goodIn_r _ [6, 7, 8, 5, 9] (by decide +kernel) (by decide +kernel)
set_option maxRecDepth 20000 in
theorem gX4_shape_X4_isOne : GoodIn wsX4_shape (va_wsS RX4 97 yX4_isOne wsX4_isOne) := goodIn_app (goodIn_of _ (by decide +kernel)) ggX4_shape_X4_isOne
set_option maxRecDepth 20000 in
theorem ggX4_shape_X4_isIn : GoodIn wsX4_shape wsX4_isIn := goodIn_r _ [9] (by decide +kernel) (by decide +kernel)
set_option maxRecDepth 20000 in
theorem gX4_shape_X4_isIn : GoodIn wsX4_shape (va_wsS RX4 93 yX4_isIn wsX4_isIn) := goodIn_app (goodIn_of _ (by decide +kernel)) ggX4_shape_X4_isIn
set_option maxRecDepth 20000 in
theorem ggX4_shape_X4_goes : GoodIn wsX4_shape wsX4_goes := goodIn_r _ [13, 14, 15, 16, 17, 18, 19, 20, 21, 22, 23, 24, 25, 26, 27, 28, 29, 30, 31, 32, 33, 34, 35, 36, 37, 38, 39, 40, 41, 42, 43, 44] (by decide +kernel) (by decide +kernel)
set_option maxRecDepth 20000 in
theorem gX4_shape_X4_goes : GoodIn wsX4_shape (wsV RX4 101 RX4 yX4_goes wsX4_goes) := goodIn_app (goodIn_of _ (by decide +kernel)) ggX4_shape_X4_goes
theorem dX4_shape_0 : decode cX4_shape 0 = .ok (.aload_n 0, 1) := by decide +kernel
theorem dX4_shape_1 : decode cX4_shape 1 = .ok (.iload_n 1, 1) := by decide +kernel
theorem dX4_shape_2 : decode cX4_shape 2 = .ok (.invokestatic 97, 3) := by decide +kernel
theorem dX4_shape_5 : decode cX4_shape 5 = .ok (.ifCond .eq 28, 3) := by decide +kernel
theorem dX4_shape_8 : decode cX4_shape 8 = .ok (.iload_n 2, 1) := by decide +kernel
theorem dX4_shape_9 : decode cX4_shape 9 = .ok (.iconst 1, 1) := by decide +kernel
theorem dX4_shape_10 : decode cX4_shape 10 = .ok (.bipush 100, 2) := by decide +kernel
theorem dX4_shape_12 : decode cX4_shape 12 = .ok (.invokestatic 93, 3) := by decide +kernel
theorem dX4_shape_15 : decode cX4_shape 15 = .ok (.ifCond .eq 18, 3) := by decide +kernel
theorem dX4_shape_18 : decode cX4_shape 18 = .ok (.iload_n 3, 1) := by decide +kernel
theorem dX4_shape_19 : decode cX4_shape 19 = .ok (.iconst 1, 1) := by decide +kernel
theorem dX4_shape_20 : decode cX4_shape 20 = .ok (.sipush 1000, 3) := by decide +kernel
theorem dX4_shape_23 : decode cX4_shape 23 = .ok (.invokestatic 93, 3) := by decide +kernel
theorem dX4_shape_26 : decode cX4_shape 26 = .ok (.ifCond .eq 7, 3) := by decide +kernel
theorem dX4_shape_29 : decode cX4_shape 29 = .ok (.iconst 0, 1) := by decide +kernel
theorem dX4_shape_30 : decode cX4_shape 30 = .ok (.goto 4, 3) := by decide +kernel
theorem dX4_shape_33 : decode cX4_shape 33 = .ok (.iconst 1, 1) := by decide +kernel
theorem dX4_shape_34 : decode cX4_shape 34 = .ok (.invokevirtual 101, 3) := by decide +kernel
theorem dX4_shape_37 : decode cX4_shape 37 = .ok (.ifCond .eq 17, 3) := by decide +kernel
theorem dX4_shape_40 : decode cX4_shape 40 = .ok (.aload_n 0, 1) := by decide +kernel
theorem dX4_shape_41 : decode cX4_shape 41 = .ok (.getfield 7, 3) := by decide +kernel
theorem dX4_shape_44 : decode cX4_shape 44 = .ok (.iload_n 1, 1) := by decide +kernel
theorem dX4_shape_45 : decode cX4_shape 45 = .ok (.iload_n 2, 1) := by decide +kernel
theorem dX4_shape_46 : decode cX4_shape 46 = .ok (.iastore, 1) := by decide +kernel
theorem dX4_shape_47 : decode cX4_shape 47 = .ok (.aload_n 0, 1) := by decide +kernel
theorem dX4_shape_48 : decode cX4_shape 48 = .ok (.getfield 13, 3) := by decide +kernel
theorem dX4_shape_51 : decode cX4_shape 51 = .ok (.iload_n 1, 1) := by decide +kernel
theorem dX4_shape_52 : decode cX4_shape 52 = .ok (.iload_n 3, 1) := by decide +kernel
theorem dX4_shape_53 : decode cX4_shape 53 = .ok (.iastore, 1) := by decide +kernel
theorem dX4_shape_54 : decode cX4_shape 54 = .ok (.return_, 1) := by decide +kernel
set_option maxRecDepth 20000 in
theorem ggX4_setGauge_X4_isOne : GoodIn wsX4_setGauge wsX4_isOne := goodIn_r _ [5, 6, 7, 4, 8] (by decide +kernel) (by decide +kernel)
set_option maxRecDepth 20000 in
theorem gX4_setGauge_X4_isOne : GoodIn wsX4_setGauge (va_wsS RX4 97 yX4_isOne wsX4_isOne) := goodIn_app (goodIn_of _ (by decide +kernel)) ggX4_setGauge_X4_isOne
set_option maxRecDepth 20000 in
theorem ggX4_setGauge_X4_isIn : GoodIn wsX4_setGauge wsX4_isIn := goodIn_r _ [8] (by decide +kernel) (by decide +kernel)
set_option maxRecDepth 20000 in
theorem gX4_setGauge_X4_isIn : GoodIn wsX4_setGauge (va_wsS RX4 93 yX4_isIn wsX4_isIn) := goodIn_app (goodIn_of _ (by decide +kernel)) ggX4_setGauge_X4_isIn
set_option maxRecDepth 20000 in
theorem ggX4_setGauge_X4_goes : GoodIn wsX4_setGauge wsX4_goes := goodIn_r _ [12, 13, 14, 15, 16, 17, 18, 19, 20, 21, 22, 23, 24, 25, 26, 27, 28, 29, 30, 31, 32, 33, 34, 35, 36, 37, 38, 39, 40, 41, 42, 43] (by decide +kernel) (by decide +kernel)
set_option maxRecDepth 20000 in
theorem gX4_setGauge_X4_goes : GoodIn wsX4_setGauge (wsV RX4 101 RX4 yX4_goes wsX4_goes) := goodIn_app (goodIn_of _ (by decide +kernel)) ggX4_setGauge_X4_goes
theorem dX4_setGauge_0 : decode cX4_setGauge 0 = .ok (.aload_n 0, 1) := by decide +kernel
theorem dX4_setGauge_1 : decode cX4_setGauge 1 = .ok (.iload_n 1, 1) := by decide +kernel
theorem dX4_setGauge_2 : decode cX4_setGauge 2 = .ok (.invokestatic 97, 3) := by decide +kernel
theorem dX4_setGauge_5 : decode cX4_setGauge 5 = .ok (.ifCond .eq 17, 3) := by decide +kernel
theorem dX4_setGauge_8 : decode cX4_setGauge 8 = .ok (.iload_n 2, 1) := by decide +kernel
theorem dX4_setGauge_9 : decode cX4_setGauge 9 = .ok (.iconst 1, 1) := by decide +kernel
theorem dX4_setGauge_10 : decode cX4_setGauge 10 = .ok (.bipush 50, 2) := by decide +kernel
theorem dX4_setGauge_12 : decode cX4_setGauge 12 = .ok (.invokestatic 93, 3) := by decide +kernel
theorem dX4_setGauge_15 : decode cX4_setGauge 15 = .ok (.ifCond .eq 7, 3) := by decide +kernel
theorem dX4_setGauge_18 : decode cX4_setGauge 18 = .ok (.iconst 0, 1) := by decide +kernel
theorem dX4_setGauge_19 : decode cX4_setGauge 19 = .ok (.goto 4, 3) := by decide +kernel
theorem dX4_setGauge_22 : decode cX4_setGauge 22 = .ok (.iconst 1, 1) := by decide +kernel
theorem dX4_setGauge_23 : decode cX4_setGauge 23 = .ok (.invokevirtual 101, 3) := by decide +kernel
theorem dX4_setGauge_26 : decode cX4_setGauge 26 = .ok (.ifCond .ne 5, 3) := by decide +kernel
theorem dX4_setGauge_29 : decode cX4_setGauge 29 = .ok (.iconst 0, 1) := by decide +kernel
theorem dX4_setGauge_30 : decode cX4_setGauge 30 = .ok (.ireturn, 1) := by decide +kernel
theorem dX4_setGauge_31 : decode cX4_setGauge 31 = .ok (.aload_n 0, 1) := by decide +kernel
theorem dX4_setGauge_32 : decode cX4_setGauge 32 = .ok (.getfield 22, 3) := by decide +kernel
theorem dX4_setGauge_35 : decode cX4_setGauge 35 = .ok (.iload_n 1, 1) := by decide +kernel
theorem dX4_setGauge_36 : decode cX4_setGauge 36 = .ok (.iaload, 1) := by decide +kernel
theorem dX4_setGauge_37 : decode cX4_setGauge 37 = .ok (.istore_n 3, 1) := by decide +kernel
theorem dX4_setGauge_38 : decode cX4_setGauge 38 = .ok (.aload_n 0, 1) := by decide +kernel
theorem dX4_setGauge_39 : decode cX4_setGauge 39 = .ok (.getfield 22, 3) := by decide +kernel
theorem dX4_setGauge_42 : decode cX4_setGauge 42 = .ok (.iload_n 1, 1) := by decide +kernel
theorem dX4_setGauge_43 : decode cX4_setGauge 43 = .ok (.iload_n 2, 1) := by decide +kernel
theorem dX4_setGauge_44 : decode cX4_setGauge 44 = .ok (.iastore, 1) := by decide +kernel
theorem dX4_setGauge_45 : decode cX4_setGauge 45 = .ok (.iload_n 3, 1) := by decide +kernel
theorem dX4_setGauge_46 : decode cX4_setGauge 46 = .ok (.ireturn, 1) := by decide +kernel
set_option maxRecDepth 20000 in
theorem ggX4_setSource_X4_isIn : GoodIn wsX4_setSource wsX4_isIn := goodIn_r _ [5] (by decide +kernel) (by decide +kernel)
set_option maxRecDepth 20000 in
theorem gX4_setSource_X4_isIn : GoodIn wsX4_setSource (va_wsS RX4 93 yX4_isIn wsX4_isIn) := goodIn_app (goodIn_of _ (by decide +kernel)) ggX4_setSource_X4_isIn
set_option maxRecDepth 20000 in
theorem ggX4_setSource_X4_goes : GoodIn wsX4_setSource wsX4_goes := goodIn_r _ [9, 10, 11, 12, 13, 14, 15, 16, 17, 18, 19, 20, 21, 22, 23, 24, 25, 26, 27, 28, 29, 30, 31, 32, 33, 34, 35, 36, 37, 38, 39, 40] (by decide +kernel) (by decide +kernel)
set_option maxRecDepth 20000 in
theorem gX4_setSource_X4_goes : GoodIn wsX4_setSource (wsV RX4 101 RX4 yX4_goes wsX4_goes) := goodIn_app (goodIn_of _ (by decide +kernel)) ggX4_setSource_X4_goes
theorem dX4_setSource_0 : decode cX4_setSource 0 = .ok (.aload_n 0, 1) := by decide +kernel
theorem dX4_setSource_1 : decode cX4_setSource 1 = .ok (.iload_n 1, 1) := by decide +kernel
theorem dX4_setSource_2 : decode cX4_setSource 2 = .ok (.iconst 0, 1) := by decide +kernel
theorem dX4_setSource_3 : decode cX4_setSource 3 = .ok (.sipush 1000, 3) := by decide +kernel
theorem dX4_setSource_6 : decode cX4_setSource 6 = .ok (.invokestatic 93, 3) := by decide +kernel
theorem dX4_setSource_9 : decode cX4_setSource 9 = .ok (.ifCond .eq 7, 3) := by decide +kernel
theorem dX4_setSource_12 : decode cX4_setSource 12 = .ok (.iconst 0, 1) := by decide +kernel
theorem dX4_setSource_13 : decode cX4_setSource 13 = .ok (.goto 4, 3) := by decide +kernel
theorem dX4_setSource_16 : decode cX4_setSource 16 = .ok (.iconst 1, 1) := by decide +kernel
theorem dX4_setSource_17 : decode cX4_setSource 17 = .ok (.invokevirtual 101, 3) := by decide +kernel
theorem dX4_setSource_20 : decode cX4_setSource 20 = .ok (.ifCond .ne 5, 3) := by decide +kernel
theorem dX4_setSource_23 : decode cX4_setSource 23 = .ok (.iconst 0, 1) := by decide +kernel
theorem dX4_setSource_24 : decode cX4_setSource 24 = .ok (.ireturn, 1) := by decide +kernel
theorem dX4_setSource_25 : decode cX4_setSource 25 = .ok (.aload_n 0, 1) := by decide +kernel
theorem dX4_setSource_26 : decode cX4_setSource 26 = .ok (.getfield 104, 3) := by decide +kernel
theorem dX4_setSource_29 : decode cX4_setSource 29 = .ok (.istore_n 2, 1) := by decide +kernel
theorem dX4_setSource_30 : decode cX4_setSource 30 = .ok (.aload_n 0, 1) := by decide +kernel
theorem dX4_setSource_31 : decode cX4_setSource 31 = .ok (.iload_n 1, 1) := by decide +kernel
theorem dX4_setSource_32 : decode cX4_setSource 32 = .ok (.putfield 104, 3) := by decide +kernel
theorem dX4_setSource_35 : decode cX4_setSource 35 = .ok (.iload_n 2, 1) := by decide +kernel
theorem dX4_setSource_36 : decode cX4_setSource 36 = .ok (.ireturn, 1) := by decide +kernel
set_option maxRecDepth 20000 in
theorem ggX4_rain_X4_isOne : GoodIn wsX4_rain wsX4_isOne := goodIn_r _ [5, 6, 7, 4, 8] (by decide +kernel) (by decide +kernel)
set_option maxRecDepth 20000 in
theorem gX4_rain_X4_isOne : GoodIn wsX4_rain (va_wsS RX4 97 yX4_isOne wsX4_isOne) := goodIn_app (goodIn_of _ (by decide +kernel)) ggX4_rain_X4_isOne
set_option maxRecDepth 20000 in
theorem ggX4_rain_X4_isIn : GoodIn wsX4_rain wsX4_isIn := goodIn_r _ [8] (by decide +kernel) (by decide +kernel)
set_option maxRecDepth 20000 in
theorem gX4_rain_X4_isIn : GoodIn wsX4_rain (va_wsS RX4 93 yX4_isIn wsX4_isIn) := goodIn_app (goodIn_of _ (by decide +kernel)) ggX4_rain_X4_isIn
set_option maxRecDepth 20000 in
theorem ggX4_rain_X4_goes : GoodIn wsX4_rain wsX4_goes := goodIn_r _ [12, 13, 14, 15, 16, 17, 18, 19, 20, 21, 22, 23, 24, 25, 26, 27, 28, 29, 30, 31, 32, 33, 34, 35, 36, 37, 38, 39, 40, 41, 42, 43] (by decide +kernel) (by decide +kernel)
set_option maxRecDepth 20000 in
theorem gX4_rain_X4_goes : GoodIn wsX4_rain (wsV RX4 101 RX4 yX4_goes wsX4_goes) := goodIn_app (goodIn_of _ (by decide +kernel)) ggX4_rain_X4_goes
theorem dX4_rain_0 : decode cX4_rain 0 = .ok (.aload_n 0, 1) := by decide +kernel
theorem dX4_rain_1 : decode cX4_rain 1 = .ok (.iload_n 1, 1) := by decide +kernel
theorem dX4_rain_2 : decode cX4_rain 2 = .ok (.invokestatic 97, 3) := by decide +kernel
theorem dX4_rain_5 : decode cX4_rain 5 = .ok (.ifCond .eq 18, 3) := by decide +kernel
theorem dX4_rain_8 : decode cX4_rain 8 = .ok (.iload_n 2, 1) := by decide +kernel
theorem dX4_rain_9 : decode cX4_rain 9 = .ok (.iconst 1, 1) := by decide +kernel
theorem dX4_rain_10 : decode cX4_rain 10 = .ok (.sipush 10000, 3) := by decide +kernel
theorem dX4_rain_13 : decode cX4_rain 13 = .ok (.invokestatic 93, 3) := by decide +kernel
theorem dX4_rain_16 : decode cX4_rain 16 = .ok (.ifCond .eq 7, 3) := by decide +kernel
theorem dX4_rain_19 : decode cX4_rain 19 = .ok (.iconst 0, 1) := by decide +kernel
theorem dX4_rain_20 : decode cX4_rain 20 = .ok (.goto 4, 3) := by decide +kernel
theorem dX4_rain_23 : decode cX4_rain 23 = .ok (.iconst 1, 1) := by decide +kernel
theorem dX4_rain_24 : decode cX4_rain 24 = .ok (.invokevirtual 101, 3) := by decide +kernel
theorem dX4_rain_27 : decode cX4_rain 27 = .ok (.ifCond .ne 5, 3) := by decide +kernel
theorem dX4_rain_30 : decode cX4_rain 30 = .ok (.iconst 0, 1) := by decide +kernel
theorem dX4_rain_31 : decode cX4_rain 31 = .ok (.ireturn, 1) := by decide +kernel
theorem dX4_rain_32 : decode cX4_rain 32 = .ok (.aload_n 0, 1) := by decide +kernel
theorem dX4_rain_33 : decode cX4_rain 33 = .ok (.getfield 25, 3) := by decide +kernel
theorem dX4_rain_36 : decode cX4_rain 36 = .ok (.iload_n 1, 1) := by decide +kernel
theorem dX4_rain_37 : decode cX4_rain 37 = .ok (.dup2, 1) := by decide +kernel
theorem dX4_rain_38 : decode cX4_rain 38 = .ok (.iaload, 1) := by decide +kernel
theorem dX4_rain_39 : decode cX4_rain 39 = .ok (.iload_n 2, 1) := by decide +kernel
theorem dX4_rain_40 : decode cX4_rain 40 = .ok (.iadd, 1) := by decide +kernel
theorem dX4_rain_41 : decode cX4_rain 41 = .ok (.iastore, 1) := by decide +kernel
theorem dX4_rain_42 : decode cX4_rain 42 = .ok (.aload_n 0, 1) := by decide +kernel
theorem dX4_rain_43 : decode cX4_rain 43 = .ok (.getfield 25, 3) := by decide +kernel
theorem dX4_rain_46 : decode cX4_rain 46 = .ok (.iload_n 1, 1) := by decide +kernel
theorem dX4_rain_47 : decode cX4_rain 47 = .ok (.iaload, 1) := by decide +kernel
theorem dX4_rain_48 : decode cX4_rain 48 = .ok (.ireturn, 1) := by decide +kernel
set_option maxRecDepth 20000 in
theorem ggX4_volume_X4_asks : GoodIn wsX4_volume wsX4_asks := goodIn_r _ [6, 7, 8, 5, 9, 10, 11, 12, 13, 14, 15, 16, 17, 18, 19, 20, 21, 22, 23, 24, 25, 26, 27, 28, 29, 30, 31, 32, 33, 34, 35, 36, 37, 38, 39, 40, 41, 42, 43, 44, 45, 46, 47] (by decide +kernel) (by decide +kernel)
set_option maxRecDepth 20000 in
theorem gX4_volume_X4_asks : GoodIn wsX4_volume (wsV RX4 107 RX4 yX4_asks wsX4_asks) := goodIn_app (goodIn_of _ (by decide +kernel)) ggX4_volume_X4_asks
theorem dX4_volume_0 : decode cX4_volume 0 = .ok (.aload_n 0, 1) := by decide +kernel
theorem dX4_volume_1 : decode cX4_volume 1 = .ok (.iload_n 1, 1) := by decide +kernel
theorem dX4_volume_2 : decode cX4_volume 2 = .ok (.invokevirtual 107, 3) := by decide +kernel
theorem dX4_volume_5 : decode cX4_volume 5 = .ok (.ifCond .eq 12, 3) := by decide +kernel
theorem dX4_volume_8 : decode cX4_volume 8 = .ok (.aload_n 0, 1) := by decide +kernel
theorem dX4_volume_9 : decode cX4_volume 9 = .ok (.getfield 16, 3) := by decide +kernel
theorem dX4_volume_12 : decode cX4_volume 12 = .ok (.iload_n 1, 1) := by decide +kernel
theorem dX4_volume_13 : decode cX4_volume 13 = .ok (.iaload, 1) := by decide +kernel
theorem dX4_volume_14 : decode cX4_volume 14 = .ok (.goto 4, 3) := by decide +kernel
theorem dX4_volume_17 : decode cX4_volume 17 = .ok (.iconst 0, 1) := by decide +kernel
theorem dX4_volume_18 : decode cX4_volume 18 = .ok (.ireturn, 1) := by decide +kernel
set_option maxRecDepth 20000 in
theorem ggX4_volumeByBalance_X4_asks : GoodIn wsX4_volumeByBalance wsX4_asks := goodIn_r _ [6, 7, 8, 5, 9, 10, 11, 12, 13, 14, 15, 16, 17, 18, 19, 20, 21, 22, 23, 24, 25, 26, 27, 28, 29, 30, 31, 32, 33, 34, 35, 36, 37, 38, 39, 40, 41, 42, 43, 44, 45, 46, 47] (by decide +kernel) (by decide +kernel)
set_option maxRecDepth 20000 in
theorem gX4_volumeByBalance_X4_asks : GoodIn wsX4_volumeByBalance (wsV RX4 107 RX4 yX4_asks wsX4_asks) := goodIn_app (goodIn_of _ (by decide +kernel)) ggX4_volumeByBalance_X4_asks
theorem dX4_volumeByBalance_0 : decode cX4_volumeByBalance 0 = .ok (.aload_n 0, 1) := by decide +kernel
theorem dX4_volumeByBalance_1 : decode cX4_volumeByBalance 1 = .ok (.iload_n 1, 1) := by decide +kernel
theorem dX4_volumeByBalance_2 : decode cX4_volumeByBalance 2 = .ok (.invokevirtual 107, 3) := by decide +kernel
theorem dX4_volumeByBalance_5 : decode cX4_volumeByBalance 5 = .ok (.ifCond .eq 12, 3) := by decide +kernel
theorem dX4_volumeByBalance_8 : decode cX4_volumeByBalance 8 = .ok (.aload_n 0, 1) := by decide +kernel
theorem dX4_volumeByBalance_9 : decode cX4_volumeByBalance 9 = .ok (.getfield 16, 3) := by decide +kernel
theorem dX4_volumeByBalance_12 : decode cX4_volumeByBalance 12 = .ok (.iload_n 1, 1) := by decide +kernel
theorem dX4_volumeByBalance_13 : decode cX4_volumeByBalance 13 = .ok (.iaload, 1) := by decide +kernel
theorem dX4_volumeByBalance_14 : decode cX4_volumeByBalance 14 = .ok (.goto 4, 3) := by decide +kernel
theorem dX4_volumeByBalance_17 : decode cX4_volumeByBalance 17 = .ok (.iconst 0, 1) := by decide +kernel
theorem dX4_volumeByBalance_18 : decode cX4_volumeByBalance 18 = .ok (.ireturn, 1) := by decide +kernel
theorem dX4_levelOf_0 : decode cX4_levelOf 0 = .ok (.aload_n 0, 1) := by decide +kernel
theorem dX4_levelOf_1 : decode cX4_levelOf 1 = .ok (.getfield 16, 3) := by decide +kernel
theorem dX4_levelOf_4 : decode cX4_levelOf 4 = .ok (.iload_n 1, 1) := by decide +kernel
theorem dX4_levelOf_5 : decode cX4_levelOf 5 = .ok (.iaload, 1) := by decide +kernel
theorem dX4_levelOf_6 : decode cX4_levelOf 6 = .ok (.aload_n 0, 1) := by decide +kernel
theorem dX4_levelOf_7 : decode cX4_levelOf 7 = .ok (.getfield 7, 3) := by decide +kernel
theorem dX4_levelOf_10 : decode cX4_levelOf 10 = .ok (.iload_n 1, 1) := by decide +kernel
theorem dX4_levelOf_11 : decode cX4_levelOf 11 = .ok (.iaload, 1) := by decide +kernel
theorem dX4_levelOf_12 : decode cX4_levelOf 12 = .ok (.idiv, 1) := by decide +kernel
theorem dX4_levelOf_13 : decode cX4_levelOf 13 = .ok (.ireturn, 1) := by decide +kernel
set_option maxRecDepth 20000 in
theorem ggX4_level_X4_asks : GoodIn wsX4_level wsX4_asks := goodIn_r _ [5, 6, 7, 4, 8, 9, 10, 11, 12, 13, 14, 15, 16, 23, 24, 25, 26, 27, 28, 29, 30, 31, 32, 33, 34, 35, 36, 37, 38, 39, 40, 41, 42, 43, 44, 45, 46, 47, 48, 49, 50, 51, 52] (by decide +kernel) (by decide +kernel)
set_option maxRecDepth 20000 in
theorem gX4_level_X4_asks : GoodIn wsX4_level (wsV RX4 107 RX4 yX4_asks wsX4_asks) := goodIn_app (goodIn_of _ (by decide +kernel)) ggX4_level_X4_asks
set_option maxRecDepth 20000 in
theorem ggX4_level_X4_levelOf : GoodIn wsX4_level wsX4_levelOf := goodIn_r _ [20, 21, 22, 23, 24, 25, 26, 27, 28, 29, 30, 31, 32, 33, 34, 35, 36, 37, 38, 39, 40, 41, 42, 43, 44, 45, 46, 47, 48, 49, 50, 51, 52] (by decide +kernel) (by decide +kernel)
set_option maxRecDepth 20000 in
theorem gX4_level_X4_levelOf : GoodIn wsX4_level (wsV RX4 110 RX4 yX4_levelOf wsX4_levelOf) := goodIn_app (goodIn_of _ (by decide +kernel)) ggX4_level_X4_levelOf
theorem dX4_level_0 : decode cX4_level 0 = .ok (.aload_n 0, 1) := by decide +kernel
theorem dX4_level_1 : decode cX4_level 1 = .ok (.iload_n 1, 1) := by decide +kernel
theorem dX4_level_2 : decode cX4_level 2 = .ok (.invokevirtual 107, 3) := by decide +kernel
theorem dX4_level_5 : decode cX4_level 5 = .ok (.ifCond .eq 11, 3) := by decide +kernel
theorem dX4_level_8 : decode cX4_level 8 = .ok (.aload_n 0, 1) := by decide +kernel
theorem dX4_level_9 : decode cX4_level 9 = .ok (.iload_n 1, 1) := by decide +kernel
theorem dX4_level_10 : decode cX4_level 10 = .ok (.invokevirtual 110, 3) := by decide +kernel
theorem dX4_level_13 : decode cX4_level 13 = .ok (.goto 4, 3) := by decide +kernel
theorem dX4_level_16 : decode cX4_level 16 = .ok (.iconst 0, 1) := by decide +kernel
theorem dX4_level_17 : decode cX4_level 17 = .ok (.ireturn, 1) := by decide +kernel
set_option maxRecDepth 20000 in
theorem ggX4_flowed_X4_asks : GoodIn wsX4_flowed wsX4_asks := goodIn_r _ [6, 7, 8, 5, 9, 10, 11, 12, 13, 14, 15, 16, 17, 18, 19, 20, 21, 22, 23, 24, 25, 26, 27, 28, 29, 30, 31, 32, 33, 34, 35, 36, 37, 38, 39, 40, 41, 42, 43, 44, 45, 46, 47] (by decide +kernel) (by decide +kernel)
set_option maxRecDepth 20000 in
theorem gX4_flowed_X4_asks : GoodIn wsX4_flowed (wsV RX4 107 RX4 yX4_asks wsX4_asks) := goodIn_app (goodIn_of _ (by decide +kernel)) ggX4_flowed_X4_asks
theorem dX4_flowed_0 : decode cX4_flowed 0 = .ok (.aload_n 0, 1) := by decide +kernel
theorem dX4_flowed_1 : decode cX4_flowed 1 = .ok (.iload_n 1, 1) := by decide +kernel
theorem dX4_flowed_2 : decode cX4_flowed 2 = .ok (.invokevirtual 107, 3) := by decide +kernel
theorem dX4_flowed_5 : decode cX4_flowed 5 = .ok (.ifCond .eq 12, 3) := by decide +kernel
theorem dX4_flowed_8 : decode cX4_flowed 8 = .ok (.aload_n 0, 1) := by decide +kernel
theorem dX4_flowed_9 : decode cX4_flowed 9 = .ok (.getfield 31, 3) := by decide +kernel
theorem dX4_flowed_12 : decode cX4_flowed 12 = .ok (.iload_n 1, 1) := by decide +kernel
theorem dX4_flowed_13 : decode cX4_flowed 13 = .ok (.iaload, 1) := by decide +kernel
theorem dX4_flowed_14 : decode cX4_flowed 14 = .ok (.goto 4, 3) := by decide +kernel
theorem dX4_flowed_17 : decode cX4_flowed 17 = .ok (.iconst 0, 1) := by decide +kernel
theorem dX4_flowed_18 : decode cX4_flowed 18 = .ok (.ireturn, 1) := by decide +kernel
set_option maxRecDepth 20000 in
theorem ggX4_spilled_X4_asks : GoodIn wsX4_spilled wsX4_asks := goodIn_r _ [6, 7, 8, 5, 9, 10, 11, 12, 13, 14, 15, 16, 17, 18, 19, 20, 21, 22, 23, 24, 25, 26, 27, 28, 29, 30, 31, 32, 33, 34, 35, 36, 37, 38, 39, 40, 41, 42, 43, 44, 45, 46, 47] (by decide +kernel) (by decide +kernel)
set_option maxRecDepth 20000 in
theorem gX4_spilled_X4_asks : GoodIn wsX4_spilled (wsV RX4 107 RX4 yX4_asks wsX4_asks) := goodIn_app (goodIn_of _ (by decide +kernel)) ggX4_spilled_X4_asks
theorem dX4_spilled_0 : decode cX4_spilled 0 = .ok (.aload_n 0, 1) := by decide +kernel
theorem dX4_spilled_1 : decode cX4_spilled 1 = .ok (.iload_n 1, 1) := by decide +kernel
theorem dX4_spilled_2 : decode cX4_spilled 2 = .ok (.invokevirtual 107, 3) := by decide +kernel
theorem dX4_spilled_5 : decode cX4_spilled 5 = .ok (.ifCond .eq 12, 3) := by decide +kernel
theorem dX4_spilled_8 : decode cX4_spilled 8 = .ok (.aload_n 0, 1) := by decide +kernel
theorem dX4_spilled_9 : decode cX4_spilled 9 = .ok (.getfield 34, 3) := by decide +kernel
theorem dX4_spilled_12 : decode cX4_spilled 12 = .ok (.iload_n 1, 1) := by decide +kernel
theorem dX4_spilled_13 : decode cX4_spilled 13 = .ok (.iaload, 1) := by decide +kernel
theorem dX4_spilled_14 : decode cX4_spilled 14 = .ok (.goto 4, 3) := by decide +kernel
theorem dX4_spilled_17 : decode cX4_spilled 17 = .ok (.iconst 0, 1) := by decide +kernel
theorem dX4_spilled_18 : decode cX4_spilled 18 = .ok (.ireturn, 1) := by decide +kernel
set_option maxRecDepth 20000 in
theorem ggX4_setRule_X4_isOne : GoodIn wsX4_setRule wsX4_isOne := goodIn_r _ [8, 9, 10, 7, 11] (by decide +kernel) (by decide +kernel)
set_option maxRecDepth 20000 in
theorem gX4_setRule_X4_isOne : GoodIn wsX4_setRule (va_wsS RX4 97 yX4_isOne wsX4_isOne) := goodIn_app (goodIn_of _ (by decide +kernel)) ggX4_setRule_X4_isOne
set_option maxRecDepth 20000 in
theorem ggX4_setRule_X4_isIn : GoodIn wsX4_setRule wsX4_isIn := goodIn_r _ [11] (by decide +kernel) (by decide +kernel)
set_option maxRecDepth 20000 in
theorem gX4_setRule_X4_isIn : GoodIn wsX4_setRule (va_wsS RX4 93 yX4_isIn wsX4_isIn) := goodIn_app (goodIn_of _ (by decide +kernel)) ggX4_setRule_X4_isIn
set_option maxRecDepth 20000 in
theorem ggX4_setRule_X4_goes : GoodIn wsX4_setRule wsX4_goes := goodIn_r _ [15, 16, 17, 18, 19, 20, 21, 22, 23, 24, 25, 26, 27, 28, 29, 30, 31, 32, 33, 34, 35, 36, 37, 38, 39, 40, 41, 42, 43, 44, 45, 46] (by decide +kernel) (by decide +kernel)
set_option maxRecDepth 20000 in
theorem gX4_setRule_X4_goes : GoodIn wsX4_setRule (wsV RX4 101 RX4 yX4_goes wsX4_goes) := goodIn_app (goodIn_of _ (by decide +kernel)) ggX4_setRule_X4_goes
theorem dX4_setRule_0 : decode cX4_setRule 0 = .ok (.iload_n 1, 1) := by decide +kernel
theorem dX4_setRule_1 : decode cX4_setRule 1 = .ok (.invokestatic 97, 3) := by decide +kernel
theorem dX4_setRule_4 : decode cX4_setRule 4 = .ok (.ifCond .eq 52, 3) := by decide +kernel
theorem dX4_setRule_7 : decode cX4_setRule 7 = .ok (.iload_n 2, 1) := by decide +kernel
theorem dX4_setRule_8 : decode cX4_setRule 8 = .ok (.iconst 0, 1) := by decide +kernel
theorem dX4_setRule_9 : decode cX4_setRule 9 = .ok (.sipush 1000, 3) := by decide +kernel
theorem dX4_setRule_12 : decode cX4_setRule 12 = .ok (.invokestatic 93, 3) := by decide +kernel
theorem dX4_setRule_15 : decode cX4_setRule 15 = .ok (.ifCond .eq 41, 3) := by decide +kernel
theorem dX4_setRule_18 : decode cX4_setRule 18 = .ok (.iload_n 3, 1) := by decide +kernel
theorem dX4_setRule_19 : decode cX4_setRule 19 = .ok (.iload_n 2, 1) := by decide +kernel
theorem dX4_setRule_20 : decode cX4_setRule 20 = .ok (.sipush 1000, 3) := by decide +kernel
theorem dX4_setRule_23 : decode cX4_setRule 23 = .ok (.invokestatic 93, 3) := by decide +kernel
theorem dX4_setRule_26 : decode cX4_setRule 26 = .ok (.ifCond .eq 30, 3) := by decide +kernel
theorem dX4_setRule_29 : decode cX4_setRule 29 = .ok (.iload 4, 2) := by decide +kernel
theorem dX4_setRule_31 : decode cX4_setRule 31 = .ok (.iconst 0, 1) := by decide +kernel
theorem dX4_setRule_32 : decode cX4_setRule 32 = .ok (.sipush 1000, 3) := by decide +kernel
theorem dX4_setRule_35 : decode cX4_setRule 35 = .ok (.invokestatic 93, 3) := by decide +kernel
theorem dX4_setRule_38 : decode cX4_setRule 38 = .ok (.ifCond .eq 18, 3) := by decide +kernel
theorem dX4_setRule_41 : decode cX4_setRule 41 = .ok (.iload 5, 2) := by decide +kernel
theorem dX4_setRule_43 : decode cX4_setRule 43 = .ok (.iconst 0, 1) := by decide +kernel
theorem dX4_setRule_44 : decode cX4_setRule 44 = .ok (.bipush 100, 2) := by decide +kernel
theorem dX4_setRule_46 : decode cX4_setRule 46 = .ok (.invokestatic 93, 3) := by decide +kernel
theorem dX4_setRule_49 : decode cX4_setRule 49 = .ok (.ifCond .eq 7, 3) := by decide +kernel
theorem dX4_setRule_52 : decode cX4_setRule 52 = .ok (.iconst 1, 1) := by decide +kernel
theorem dX4_setRule_53 : decode cX4_setRule 53 = .ok (.goto 4, 3) := by decide +kernel
theorem dX4_setRule_56 : decode cX4_setRule 56 = .ok (.iconst 0, 1) := by decide +kernel
theorem dX4_setRule_57 : decode cX4_setRule 57 = .ok (.istore 6, 2) := by decide +kernel
theorem dX4_setRule_59 : decode cX4_setRule 59 = .ok (.aload_n 0, 1) := by decide +kernel
theorem dX4_setRule_60 : decode cX4_setRule 60 = .ok (.iload 6, 2) := by decide +kernel
theorem dX4_setRule_62 : decode cX4_setRule 62 = .ok (.ifCond .eq 7, 3) := by decide +kernel
theorem dX4_setRule_65 : decode cX4_setRule 65 = .ok (.iconst 0, 1) := by decide +kernel
theorem dX4_setRule_66 : decode cX4_setRule 66 = .ok (.goto 4, 3) := by decide +kernel
theorem dX4_setRule_69 : decode cX4_setRule 69 = .ok (.iconst 1, 1) := by decide +kernel
theorem dX4_setRule_70 : decode cX4_setRule 70 = .ok (.invokevirtual 101, 3) := by decide +kernel
theorem dX4_setRule_73 : decode cX4_setRule 73 = .ok (.ifCond .eq 33, 3) := by decide +kernel
theorem dX4_setRule_76 : decode cX4_setRule 76 = .ok (.aload_n 0, 1) := by decide +kernel
theorem dX4_setRule_77 : decode cX4_setRule 77 = .ok (.getfield 37, 3) := by decide +kernel
theorem dX4_setRule_80 : decode cX4_setRule 80 = .ok (.iload_n 1, 1) := by decide +kernel
theorem dX4_setRule_81 : decode cX4_setRule 81 = .ok (.iload_n 2, 1) := by decide +kernel
theorem dX4_setRule_82 : decode cX4_setRule 82 = .ok (.iastore, 1) := by decide +kernel
theorem dX4_setRule_83 : decode cX4_setRule 83 = .ok (.aload_n 0, 1) := by decide +kernel
theorem dX4_setRule_84 : decode cX4_setRule 84 = .ok (.getfield 40, 3) := by decide +kernel
theorem dX4_setRule_87 : decode cX4_setRule 87 = .ok (.iload_n 1, 1) := by decide +kernel
theorem dX4_setRule_88 : decode cX4_setRule 88 = .ok (.iload_n 3, 1) := by decide +kernel
theorem dX4_setRule_89 : decode cX4_setRule 89 = .ok (.iastore, 1) := by decide +kernel
theorem dX4_setRule_90 : decode cX4_setRule 90 = .ok (.aload_n 0, 1) := by decide +kernel
theorem dX4_setRule_91 : decode cX4_setRule 91 = .ok (.getfield 43, 3) := by decide +kernel
theorem dX4_setRule_94 : decode cX4_setRule 94 = .ok (.iload_n 1, 1) := by decide +kernel
theorem dX4_setRule_95 : decode cX4_setRule 95 = .ok (.iload 4, 2) := by decide +kernel
theorem dX4_setRule_97 : decode cX4_setRule 97 = .ok (.iastore, 1) := by decide +kernel
theorem dX4_setRule_98 : decode cX4_setRule 98 = .ok (.aload_n 0, 1) := by decide +kernel
theorem dX4_setRule_99 : decode cX4_setRule 99 = .ok (.getfield 46, 3) := by decide +kernel
theorem dX4_setRule_102 : decode cX4_setRule 102 = .ok (.iload_n 1, 1) := by decide +kernel
theorem dX4_setRule_103 : decode cX4_setRule 103 = .ok (.iload 5, 2) := by decide +kernel
theorem dX4_setRule_105 : decode cX4_setRule 105 = .ok (.iastore, 1) := by decide +kernel
theorem dX4_setRule_106 : decode cX4_setRule 106 = .ok (.return_, 1) := by decide +kernel
set_option maxRecDepth 20000 in
theorem ggX4_byHand_X4_isOne : GoodIn wsX4_byHand wsX4_isOne := goodIn_r _ [6, 7, 8, 5, 9] (by decide +kernel) (by decide +kernel)
set_option maxRecDepth 20000 in
theorem gX4_byHand_X4_isOne : GoodIn wsX4_byHand (va_wsS RX4 97 yX4_isOne wsX4_isOne) := goodIn_app (goodIn_of _ (by decide +kernel)) ggX4_byHand_X4_isOne
set_option maxRecDepth 20000 in
theorem ggX4_byHand_X4_isIn : GoodIn wsX4_byHand wsX4_isIn := goodIn_r _ [9] (by decide +kernel) (by decide +kernel)
set_option maxRecDepth 20000 in
theorem gX4_byHand_X4_isIn : GoodIn wsX4_byHand (va_wsS RX4 93 yX4_isIn wsX4_isIn) := goodIn_app (goodIn_of _ (by decide +kernel)) ggX4_byHand_X4_isIn
set_option maxRecDepth 20000 in
theorem ggX4_byHand_X4_goes : GoodIn wsX4_byHand wsX4_goes := goodIn_r _ [13, 14, 15, 16, 17, 18, 19, 20, 21, 22, 23, 24, 25, 26, 27, 28, 29, 30, 31, 32, 33, 34, 35, 36, 37, 38, 39, 40, 41, 42, 43, 44] (by decide +kernel) (by decide +kernel)
set_option maxRecDepth 20000 in
theorem gX4_byHand_X4_goes : GoodIn wsX4_byHand (wsV RX4 101 RX4 yX4_goes wsX4_goes) := goodIn_app (goodIn_of _ (by decide +kernel)) ggX4_byHand_X4_goes
theorem dX4_byHand_0 : decode cX4_byHand 0 = .ok (.aload_n 0, 1) := by decide +kernel
theorem dX4_byHand_1 : decode cX4_byHand 1 = .ok (.iload_n 1, 1) := by decide +kernel
theorem dX4_byHand_2 : decode cX4_byHand 2 = .ok (.invokestatic 97, 3) := by decide +kernel
theorem dX4_byHand_5 : decode cX4_byHand 5 = .ok (.ifCond .eq 13, 3) := by decide +kernel
theorem dX4_byHand_8 : decode cX4_byHand 8 = .ok (.iload_n 2, 1) := by decide +kernel
theorem dX4_byHand_9 : decode cX4_byHand 9 = .ok (.iconst (-1), 1) := by decide +kernel
theorem dX4_byHand_10 : decode cX4_byHand 10 = .ok (.bipush 10, 2) := by decide +kernel
theorem dX4_byHand_12 : decode cX4_byHand 12 = .ok (.invokestatic 93, 3) := by decide +kernel
theorem dX4_byHand_15 : decode cX4_byHand 15 = .ok (.ifCond .ne 7, 3) := by decide +kernel
theorem dX4_byHand_18 : decode cX4_byHand 18 = .ok (.iconst 1, 1) := by decide +kernel
theorem dX4_byHand_19 : decode cX4_byHand 19 = .ok (.goto 22, 3) := by decide +kernel
theorem dX4_byHand_22 : decode cX4_byHand 22 = .ok (.iload_n 2, 1) := by decide +kernel
theorem dX4_byHand_23 : decode cX4_byHand 23 = .ok (.iconst (-1), 1) := by decide +kernel
theorem dX4_byHand_24 : decode cX4_byHand 24 = .ok (.if_icmp .ne 16, 3) := by decide +kernel
theorem dX4_byHand_27 : decode cX4_byHand 27 = .ok (.aload_n 0, 1) := by decide +kernel
theorem dX4_byHand_28 : decode cX4_byHand 28 = .ok (.getfield 49, 3) := by decide +kernel
theorem dX4_byHand_31 : decode cX4_byHand 31 = .ok (.iload_n 1, 1) := by decide +kernel
theorem dX4_byHand_32 : decode cX4_byHand 32 = .ok (.baload, 1) := by decide +kernel
theorem dX4_byHand_33 : decode cX4_byHand 33 = .ok (.ifCond .ne 7, 3) := by decide +kernel
theorem dX4_byHand_36 : decode cX4_byHand 36 = .ok (.iconst 2, 1) := by decide +kernel
theorem dX4_byHand_37 : decode cX4_byHand 37 = .ok (.goto 4, 3) := by decide +kernel
theorem dX4_byHand_40 : decode cX4_byHand 40 = .ok (.iconst 0, 1) := by decide +kernel
theorem dX4_byHand_41 : decode cX4_byHand 41 = .ok (.invokevirtual 101, 3) := by decide +kernel
theorem dX4_byHand_44 : decode cX4_byHand 44 = .ok (.ifCond .ne 5, 3) := by decide +kernel
theorem dX4_byHand_47 : decode cX4_byHand 47 = .ok (.iconst 0, 1) := by decide +kernel
theorem dX4_byHand_48 : decode cX4_byHand 48 = .ok (.ireturn, 1) := by decide +kernel
theorem dX4_byHand_49 : decode cX4_byHand 49 = .ok (.aload_n 0, 1) := by decide +kernel
theorem dX4_byHand_50 : decode cX4_byHand 50 = .ok (.getfield 19, 3) := by decide +kernel
theorem dX4_byHand_53 : decode cX4_byHand 53 = .ok (.iload_n 1, 1) := by decide +kernel
theorem dX4_byHand_54 : decode cX4_byHand 54 = .ok (.iaload, 1) := by decide +kernel
theorem dX4_byHand_55 : decode cX4_byHand 55 = .ok (.istore_n 3, 1) := by decide +kernel
theorem dX4_byHand_56 : decode cX4_byHand 56 = .ok (.aload_n 0, 1) := by decide +kernel
theorem dX4_byHand_57 : decode cX4_byHand 57 = .ok (.getfield 49, 3) := by decide +kernel
theorem dX4_byHand_60 : decode cX4_byHand 60 = .ok (.iload_n 1, 1) := by decide +kernel
theorem dX4_byHand_61 : decode cX4_byHand 61 = .ok (.iload_n 2, 1) := by decide +kernel
theorem dX4_byHand_62 : decode cX4_byHand 62 = .ok (.iconst (-1), 1) := by decide +kernel
theorem dX4_byHand_63 : decode cX4_byHand 63 = .ok (.if_icmp .eq 7, 3) := by decide +kernel
theorem dX4_byHand_66 : decode cX4_byHand 66 = .ok (.iconst 1, 1) := by decide +kernel
theorem dX4_byHand_67 : decode cX4_byHand 67 = .ok (.goto 4, 3) := by decide +kernel
theorem dX4_byHand_70 : decode cX4_byHand 70 = .ok (.iconst 0, 1) := by decide +kernel
theorem dX4_byHand_71 : decode cX4_byHand 71 = .ok (.bastore, 1) := by decide +kernel
theorem dX4_byHand_72 : decode cX4_byHand 72 = .ok (.aload_n 0, 1) := by decide +kernel
theorem dX4_byHand_73 : decode cX4_byHand 73 = .ok (.getfield 19, 3) := by decide +kernel
theorem dX4_byHand_76 : decode cX4_byHand 76 = .ok (.iload_n 1, 1) := by decide +kernel
theorem dX4_byHand_77 : decode cX4_byHand 77 = .ok (.iload_n 2, 1) := by decide +kernel
theorem dX4_byHand_78 : decode cX4_byHand 78 = .ok (.iconst (-1), 1) := by decide +kernel
theorem dX4_byHand_79 : decode cX4_byHand 79 = .ok (.if_icmp .ne 7, 3) := by decide +kernel
theorem dX4_byHand_82 : decode cX4_byHand 82 = .ok (.iload_n 3, 1) := by decide +kernel
theorem dX4_byHand_83 : decode cX4_byHand 83 = .ok (.goto 4, 3) := by decide +kernel
theorem dX4_byHand_86 : decode cX4_byHand 86 = .ok (.iload_n 2, 1) := by decide +kernel
theorem dX4_byHand_87 : decode cX4_byHand 87 = .ok (.iastore, 1) := by decide +kernel
theorem dX4_byHand_88 : decode cX4_byHand 88 = .ok (.iload_n 3, 1) := by decide +kernel
theorem dX4_byHand_89 : decode cX4_byHand 89 = .ok (.ireturn, 1) := by decide +kernel
set_option maxRecDepth 20000 in
theorem ggX4_opening_X4_asks : GoodIn wsX4_opening wsX4_asks := goodIn_r _ [6, 7, 8, 5, 9, 10, 11, 12, 13, 14, 15, 16, 17, 18, 19, 20, 21, 22, 23, 24, 25, 26, 27, 28, 29, 30, 31, 32, 33, 34, 35, 36, 37, 38, 39, 40, 41, 42, 43, 44, 45, 46, 47] (by decide +kernel) (by decide +kernel)
set_option maxRecDepth 20000 in
theorem gX4_opening_X4_asks : GoodIn wsX4_opening (wsV RX4 107 RX4 yX4_asks wsX4_asks) := goodIn_app (goodIn_of _ (by decide +kernel)) ggX4_opening_X4_asks
theorem dX4_opening_0 : decode cX4_opening 0 = .ok (.aload_n 0, 1) := by decide +kernel
theorem dX4_opening_1 : decode cX4_opening 1 = .ok (.iload_n 1, 1) := by decide +kernel
theorem dX4_opening_2 : decode cX4_opening 2 = .ok (.invokevirtual 107, 3) := by decide +kernel
theorem dX4_opening_5 : decode cX4_opening 5 = .ok (.ifCond .eq 12, 3) := by decide +kernel
theorem dX4_opening_8 : decode cX4_opening 8 = .ok (.aload_n 0, 1) := by decide +kernel
theorem dX4_opening_9 : decode cX4_opening 9 = .ok (.getfield 19, 3) := by decide +kernel
theorem dX4_opening_12 : decode cX4_opening 12 = .ok (.iload_n 1, 1) := by decide +kernel
theorem dX4_opening_13 : decode cX4_opening 13 = .ok (.iaload, 1) := by decide +kernel
theorem dX4_opening_14 : decode cX4_opening 14 = .ok (.goto 4, 3) := by decide +kernel
theorem dX4_opening_17 : decode cX4_opening 17 = .ok (.iconst 0, 1) := by decide +kernel
theorem dX4_opening_18 : decode cX4_opening 18 = .ok (.ireturn, 1) := by decide +kernel
set_option maxRecDepth 20000 in
theorem ggX4_safety_X4_asks : GoodIn wsX4_safety wsX4_asks := goodIn_r _ [6, 7, 8, 5, 9, 10, 11, 12, 13, 14, 15, 16, 17, 18, 19, 20, 21, 22, 23, 24, 25, 26, 27, 28, 29, 30, 31, 32, 33, 34, 35, 36, 37, 38, 39, 40, 41, 42, 43, 44, 45, 46, 47] (by decide +kernel) (by decide +kernel)
set_option maxRecDepth 20000 in
theorem gX4_safety_X4_asks : GoodIn wsX4_safety (wsV RX4 107 RX4 yX4_asks wsX4_asks) := goodIn_app (goodIn_of _ (by decide +kernel)) ggX4_safety_X4_asks
theorem dX4_safety_0 : decode cX4_safety 0 = .ok (.aload_n 0, 1) := by decide +kernel
theorem dX4_safety_1 : decode cX4_safety 1 = .ok (.iload_n 1, 1) := by decide +kernel
theorem dX4_safety_2 : decode cX4_safety 2 = .ok (.invokevirtual 107, 3) := by decide +kernel
theorem dX4_safety_5 : decode cX4_safety 5 = .ok (.ifCond .eq 12, 3) := by decide +kernel
theorem dX4_safety_8 : decode cX4_safety 8 = .ok (.aload_n 0, 1) := by decide +kernel
theorem dX4_safety_9 : decode cX4_safety 9 = .ok (.getfield 53, 3) := by decide +kernel
theorem dX4_safety_12 : decode cX4_safety 12 = .ok (.iload_n 1, 1) := by decide +kernel
theorem dX4_safety_13 : decode cX4_safety 13 = .ok (.iaload, 1) := by decide +kernel
theorem dX4_safety_14 : decode cX4_safety 14 = .ok (.goto 4, 3) := by decide +kernel
theorem dX4_safety_17 : decode cX4_safety 17 = .ok (.iconst 0, 1) := by decide +kernel
theorem dX4_safety_18 : decode cX4_safety 18 = .ok (.ireturn, 1) := by decide +kernel
set_option maxRecDepth 20000 in
theorem ggX4_fall_X4_isOne : GoodIn wsX4_fall wsX4_isOne := goodIn_r _ [5, 6, 7, 4, 8] (by decide +kernel) (by decide +kernel)
set_option maxRecDepth 20000 in
theorem gX4_fall_X4_isOne : GoodIn wsX4_fall (va_wsS RX4 97 yX4_isOne wsX4_isOne) := goodIn_app (goodIn_of _ (by decide +kernel)) ggX4_fall_X4_isOne
set_option maxRecDepth 20000 in
theorem ggX4_fall_X4_goes : GoodIn wsX4_fall wsX4_goes := goodIn_r _ [12, 13, 14, 15, 16, 17, 18, 19, 20, 21, 22, 23, 24, 25, 26, 27, 28, 29, 30, 31, 32, 33, 34, 35, 36, 37, 38, 39, 40, 41, 42, 43] (by decide +kernel) (by decide +kernel)
set_option maxRecDepth 20000 in
theorem gX4_fall_X4_goes : GoodIn wsX4_fall (wsV RX4 101 RX4 yX4_goes wsX4_goes) := goodIn_app (goodIn_of _ (by decide +kernel)) ggX4_fall_X4_goes
theorem dX4_fall_0 : decode cX4_fall 0 = .ok (.aload_n 0, 1) := by decide +kernel
theorem dX4_fall_1 : decode cX4_fall 1 = .ok (.iload_n 1, 1) := by decide +kernel
theorem dX4_fall_2 : decode cX4_fall 2 = .ok (.invokestatic 97, 3) := by decide +kernel
theorem dX4_fall_5 : decode cX4_fall 5 = .ok (.ifCond .ne 7, 3) := by decide +kernel
theorem dX4_fall_8 : decode cX4_fall 8 = .ok (.iconst 1, 1) := by decide +kernel
theorem dX4_fall_9 : decode cX4_fall 9 = .ok (.goto 17, 3) := by decide +kernel
theorem dX4_fall_12 : decode cX4_fall 12 = .ok (.aload_n 0, 1) := by decide +kernel
theorem dX4_fall_13 : decode cX4_fall 13 = .ok (.getfield 56, 3) := by decide +kernel
theorem dX4_fall_16 : decode cX4_fall 16 = .ok (.iload_n 1, 1) := by decide +kernel
theorem dX4_fall_17 : decode cX4_fall 17 = .ok (.baload, 1) := by decide +kernel
theorem dX4_fall_18 : decode cX4_fall 18 = .ok (.ifCond .eq 7, 3) := by decide +kernel
theorem dX4_fall_21 : decode cX4_fall 21 = .ok (.iconst 2, 1) := by decide +kernel
theorem dX4_fall_22 : decode cX4_fall 22 = .ok (.goto 4, 3) := by decide +kernel
theorem dX4_fall_25 : decode cX4_fall 25 = .ok (.iconst 0, 1) := by decide +kernel
theorem dX4_fall_26 : decode cX4_fall 26 = .ok (.invokevirtual 101, 3) := by decide +kernel
theorem dX4_fall_29 : decode cX4_fall 29 = .ok (.ifCond .eq 10, 3) := by decide +kernel
theorem dX4_fall_32 : decode cX4_fall 32 = .ok (.aload_n 0, 1) := by decide +kernel
theorem dX4_fall_33 : decode cX4_fall 33 = .ok (.getfield 56, 3) := by decide +kernel
theorem dX4_fall_36 : decode cX4_fall 36 = .ok (.iload_n 1, 1) := by decide +kernel
theorem dX4_fall_37 : decode cX4_fall 37 = .ok (.iconst 1, 1) := by decide +kernel
theorem dX4_fall_38 : decode cX4_fall 38 = .ok (.bastore, 1) := by decide +kernel
theorem dX4_fall_39 : decode cX4_fall 39 = .ok (.return_, 1) := by decide +kernel
set_option maxRecDepth 20000 in
theorem ggX4_comeUp_X4_isOne : GoodIn wsX4_comeUp wsX4_isOne := goodIn_r _ [7, 8, 9, 6, 10] (by decide +kernel) (by decide +kernel)
set_option maxRecDepth 20000 in
theorem gX4_comeUp_X4_isOne : GoodIn wsX4_comeUp (va_wsS RX4 97 yX4_isOne wsX4_isOne) := goodIn_app (goodIn_of _ (by decide +kernel)) ggX4_comeUp_X4_isOne
set_option maxRecDepth 20000 in
theorem ggX4_comeUp_X4_goes : GoodIn wsX4_comeUp wsX4_goes := goodIn_r _ [14, 15, 19, 20, 21, 22, 23, 24, 25, 26, 27, 28, 29, 30, 31, 32, 33, 34, 35, 36, 37, 38, 39, 40, 41, 42, 43, 44, 45, 46, 47, 48] (by decide +kernel) (by decide +kernel)
set_option maxRecDepth 20000 in
theorem gX4_comeUp_X4_goes : GoodIn wsX4_comeUp (wsV RX4 101 RX4 yX4_goes wsX4_goes) := goodIn_app (goodIn_of _ (by decide +kernel)) ggX4_comeUp_X4_goes
set_option maxRecDepth 20000 in
theorem ggX4_comeUp_X4_at : GoodIn wsX4_comeUp wsX4_at := goodIn_r _ [18] (by decide +kernel) (by decide +kernel)
set_option maxRecDepth 20000 in
theorem gX4_comeUp_X4_at : GoodIn wsX4_comeUp (va_wsS RX4 114 yX4_at wsX4_at) := goodIn_app (goodIn_of _ (by decide +kernel)) ggX4_comeUp_X4_at
theorem dX4_comeUp_0 : decode cX4_comeUp 0 = .ok (.aload_n 0, 1) := by decide +kernel
theorem dX4_comeUp_1 : decode cX4_comeUp 1 = .ok (.iload_n 1, 1) := by decide +kernel
theorem dX4_comeUp_2 : decode cX4_comeUp 2 = .ok (.invokestatic 97, 3) := by decide +kernel
theorem dX4_comeUp_5 : decode cX4_comeUp 5 = .ok (.ifCond .ne 7, 3) := by decide +kernel
theorem dX4_comeUp_8 : decode cX4_comeUp 8 = .ok (.iconst 1, 1) := by decide +kernel
theorem dX4_comeUp_9 : decode cX4_comeUp 9 = .ok (.goto 17, 3) := by decide +kernel
theorem dX4_comeUp_12 : decode cX4_comeUp 12 = .ok (.aload_n 0, 1) := by decide +kernel
theorem dX4_comeUp_13 : decode cX4_comeUp 13 = .ok (.getfield 56, 3) := by decide +kernel
theorem dX4_comeUp_16 : decode cX4_comeUp 16 = .ok (.iload_n 1, 1) := by decide +kernel
theorem dX4_comeUp_17 : decode cX4_comeUp 17 = .ok (.baload, 1) := by decide +kernel
theorem dX4_comeUp_18 : decode cX4_comeUp 18 = .ok (.ifCond .eq 7, 3) := by decide +kernel
theorem dX4_comeUp_21 : decode cX4_comeUp 21 = .ok (.iconst 0, 1) := by decide +kernel
theorem dX4_comeUp_22 : decode cX4_comeUp 22 = .ok (.goto 4, 3) := by decide +kernel
theorem dX4_comeUp_25 : decode cX4_comeUp 25 = .ok (.iconst 2, 1) := by decide +kernel
theorem dX4_comeUp_26 : decode cX4_comeUp 26 = .ok (.invokevirtual 101, 3) := by decide +kernel
theorem dX4_comeUp_29 : decode cX4_comeUp 29 = .ok (.ifCond .eq 38, 3) := by decide +kernel
theorem dX4_comeUp_32 : decode cX4_comeUp 32 = .ok (.aload_n 0, 1) := by decide +kernel
theorem dX4_comeUp_33 : decode cX4_comeUp 33 = .ok (.getfield 56, 3) := by decide +kernel
theorem dX4_comeUp_36 : decode cX4_comeUp 36 = .ok (.iload_n 1, 1) := by decide +kernel
theorem dX4_comeUp_37 : decode cX4_comeUp 37 = .ok (.iconst 0, 1) := by decide +kernel
theorem dX4_comeUp_38 : decode cX4_comeUp 38 = .ok (.bastore, 1) := by decide +kernel
theorem dX4_comeUp_39 : decode cX4_comeUp 39 = .ok (.iconst 0, 1) := by decide +kernel
theorem dX4_comeUp_40 : decode cX4_comeUp 40 = .ok (.istore_n 2, 1) := by decide +kernel
theorem dX4_comeUp_41 : decode cX4_comeUp 41 = .ok (.iload_n 2, 1) := by decide +kernel
theorem dX4_comeUp_42 : decode cX4_comeUp 42 = .ok (.bipush 8, 2) := by decide +kernel
theorem dX4_comeUp_44 : decode cX4_comeUp 44 = .ok (.if_icmp .ge 23, 3) := by decide +kernel
theorem dX4_comeUp_47 : decode cX4_comeUp 47 = .ok (.aload_n 0, 1) := by decide +kernel
theorem dX4_comeUp_48 : decode cX4_comeUp 48 = .ok (.getfield 77, 3) := by decide +kernel
theorem dX4_comeUp_51 : decode cX4_comeUp 51 = .ok (.iload_n 1, 1) := by decide +kernel
theorem dX4_comeUp_52 : decode cX4_comeUp 52 = .ok (.iload_n 2, 1) := by decide +kernel
theorem dX4_comeUp_53 : decode cX4_comeUp 53 = .ok (.invokestatic 114, 3) := by decide +kernel
theorem dX4_comeUp_56 : decode cX4_comeUp 56 = .ok (.aload_n 0, 1) := by decide +kernel
theorem dX4_comeUp_57 : decode cX4_comeUp 57 = .ok (.getfield 118, 3) := by decide +kernel
theorem dX4_comeUp_60 : decode cX4_comeUp 60 = .ok (.iastore, 1) := by decide +kernel
theorem dX4_comeUp_61 : decode cX4_comeUp 61 = .ok (.iinc 2 1, 3) := by decide +kernel
theorem dX4_comeUp_64 : decode cX4_comeUp 64 = .ok (.goto (-23), 3) := by decide +kernel
theorem dX4_comeUp_67 : decode cX4_comeUp 67 = .ok (.return_, 1) := by decide +kernel
set_option maxRecDepth 20000 in
theorem ggX4_setGroup_X4_isOne : GoodIn wsX4_setGroup wsX4_isOne := goodIn_r _ [5, 6, 7, 4, 8] (by decide +kernel) (by decide +kernel)
set_option maxRecDepth 20000 in
theorem gX4_setGroup_X4_isOne : GoodIn wsX4_setGroup (va_wsS RX4 97 yX4_isOne wsX4_isOne) := goodIn_app (goodIn_of _ (by decide +kernel)) ggX4_setGroup_X4_isOne
set_option maxRecDepth 20000 in
theorem ggX4_setGroup_X4_isIn : GoodIn wsX4_setGroup wsX4_isIn := goodIn_r _ [8] (by decide +kernel) (by decide +kernel)
set_option maxRecDepth 20000 in
theorem gX4_setGroup_X4_isIn : GoodIn wsX4_setGroup (va_wsS RX4 93 yX4_isIn wsX4_isIn) := goodIn_app (goodIn_of _ (by decide +kernel)) ggX4_setGroup_X4_isIn
set_option maxRecDepth 20000 in
theorem ggX4_setGroup_X4_goes : GoodIn wsX4_setGroup wsX4_goes := goodIn_r _ [12, 13, 14, 15, 16, 17, 18, 19, 20, 21, 22, 23, 24, 25, 26, 27, 28, 29, 30, 31, 32, 33, 34, 35, 36, 37, 38, 39, 40, 41, 42, 43] (by decide +kernel) (by decide +kernel)
set_option maxRecDepth 20000 in
theorem gX4_setGroup_X4_goes : GoodIn wsX4_setGroup (wsV RX4 101 RX4 yX4_goes wsX4_goes) := goodIn_app (goodIn_of _ (by decide +kernel)) ggX4_setGroup_X4_goes
theorem dX4_setGroup_0 : decode cX4_setGroup 0 = .ok (.aload_n 0, 1) := by decide +kernel
theorem dX4_setGroup_1 : decode cX4_setGroup 1 = .ok (.iload_n 1, 1) := by decide +kernel
theorem dX4_setGroup_2 : decode cX4_setGroup 2 = .ok (.invokestatic 97, 3) := by decide +kernel
theorem dX4_setGroup_5 : decode cX4_setGroup 5 = .ok (.ifCond .eq 16, 3) := by decide +kernel
theorem dX4_setGroup_8 : decode cX4_setGroup 8 = .ok (.iload_n 2, 1) := by decide +kernel
theorem dX4_setGroup_9 : decode cX4_setGroup 9 = .ok (.iconst 0, 1) := by decide +kernel
theorem dX4_setGroup_10 : decode cX4_setGroup 10 = .ok (.iconst 3, 1) := by decide +kernel
theorem dX4_setGroup_11 : decode cX4_setGroup 11 = .ok (.invokestatic 93, 3) := by decide +kernel
theorem dX4_setGroup_14 : decode cX4_setGroup 14 = .ok (.ifCond .eq 7, 3) := by decide +kernel
theorem dX4_setGroup_17 : decode cX4_setGroup 17 = .ok (.iconst 0, 1) := by decide +kernel
theorem dX4_setGroup_18 : decode cX4_setGroup 18 = .ok (.goto 4, 3) := by decide +kernel
theorem dX4_setGroup_21 : decode cX4_setGroup 21 = .ok (.iconst 1, 1) := by decide +kernel
theorem dX4_setGroup_22 : decode cX4_setGroup 22 = .ok (.invokevirtual 101, 3) := by decide +kernel
theorem dX4_setGroup_25 : decode cX4_setGroup 25 = .ok (.ifCond .ne 5, 3) := by decide +kernel
theorem dX4_setGroup_28 : decode cX4_setGroup 28 = .ok (.iconst 0, 1) := by decide +kernel
theorem dX4_setGroup_29 : decode cX4_setGroup 29 = .ok (.ireturn, 1) := by decide +kernel
theorem dX4_setGroup_30 : decode cX4_setGroup 30 = .ok (.aload_n 0, 1) := by decide +kernel
theorem dX4_setGroup_31 : decode cX4_setGroup 31 = .ok (.getfield 59, 3) := by decide +kernel
theorem dX4_setGroup_34 : decode cX4_setGroup 34 = .ok (.iload_n 1, 1) := by decide +kernel
theorem dX4_setGroup_35 : decode cX4_setGroup 35 = .ok (.iaload, 1) := by decide +kernel
theorem dX4_setGroup_36 : decode cX4_setGroup 36 = .ok (.istore_n 3, 1) := by decide +kernel
theorem dX4_setGroup_37 : decode cX4_setGroup 37 = .ok (.aload_n 0, 1) := by decide +kernel
theorem dX4_setGroup_38 : decode cX4_setGroup 38 = .ok (.getfield 59, 3) := by decide +kernel
theorem dX4_setGroup_41 : decode cX4_setGroup 41 = .ok (.iload_n 1, 1) := by decide +kernel
theorem dX4_setGroup_42 : decode cX4_setGroup 42 = .ok (.iload_n 2, 1) := by decide +kernel
theorem dX4_setGroup_43 : decode cX4_setGroup 43 = .ok (.iastore, 1) := by decide +kernel
theorem dX4_setGroup_44 : decode cX4_setGroup 44 = .ok (.iload_n 3, 1) := by decide +kernel
theorem dX4_setGroup_45 : decode cX4_setGroup 45 = .ok (.ireturn, 1) := by decide +kernel
set_option maxRecDepth 20000 in
theorem ggX4_setStuck_X4_asks : GoodIn wsX4_setStuck wsX4_asks := goodIn_r _ [6, 7, 8, 5, 9, 10, 11, 12, 13, 14, 15, 16, 17, 18, 19, 20, 21, 22, 23, 24, 25, 26, 27, 28, 29, 30, 31, 32, 33, 34, 35, 36, 37, 38, 39, 40, 41, 42, 43, 44, 45, 46, 47] (by decide +kernel) (by decide +kernel)
set_option maxRecDepth 20000 in
theorem gX4_setStuck_X4_asks : GoodIn wsX4_setStuck (wsV RX4 107 RX4 yX4_asks wsX4_asks) := goodIn_app (goodIn_of _ (by decide +kernel)) ggX4_setStuck_X4_asks
theorem dX4_setStuck_0 : decode cX4_setStuck 0 = .ok (.aload_n 0, 1) := by decide +kernel
theorem dX4_setStuck_1 : decode cX4_setStuck 1 = .ok (.iload_n 1, 1) := by decide +kernel
theorem dX4_setStuck_2 : decode cX4_setStuck 2 = .ok (.invokevirtual 107, 3) := by decide +kernel
theorem dX4_setStuck_5 : decode cX4_setStuck 5 = .ok (.ifCond .ne 5, 3) := by decide +kernel
theorem dX4_setStuck_8 : decode cX4_setStuck 8 = .ok (.iconst 0, 1) := by decide +kernel
theorem dX4_setStuck_9 : decode cX4_setStuck 9 = .ok (.ireturn, 1) := by decide +kernel
theorem dX4_setStuck_10 : decode cX4_setStuck 10 = .ok (.aload_n 0, 1) := by decide +kernel
theorem dX4_setStuck_11 : decode cX4_setStuck 11 = .ok (.getfield 62, 3) := by decide +kernel
theorem dX4_setStuck_14 : decode cX4_setStuck 14 = .ok (.iload_n 1, 1) := by decide +kernel
theorem dX4_setStuck_15 : decode cX4_setStuck 15 = .ok (.baload, 1) := by decide +kernel
theorem dX4_setStuck_16 : decode cX4_setStuck 16 = .ok (.istore_n 3, 1) := by decide +kernel
theorem dX4_setStuck_17 : decode cX4_setStuck 17 = .ok (.aload_n 0, 1) := by decide +kernel
theorem dX4_setStuck_18 : decode cX4_setStuck 18 = .ok (.getfield 62, 3) := by decide +kernel
theorem dX4_setStuck_21 : decode cX4_setStuck 21 = .ok (.iload_n 1, 1) := by decide +kernel
theorem dX4_setStuck_22 : decode cX4_setStuck 22 = .ok (.iload_n 2, 1) := by decide +kernel
theorem dX4_setStuck_23 : decode cX4_setStuck 23 = .ok (.bastore, 1) := by decide +kernel
theorem dX4_setStuck_24 : decode cX4_setStuck 24 = .ok (.iload_n 3, 1) := by decide +kernel
theorem dX4_setStuck_25 : decode cX4_setStuck 25 = .ok (.ireturn, 1) := by decide +kernel
set_option maxRecDepth 20000 in
theorem ggX4_setTimes_X4_isIn : GoodIn wsX4_setTimes wsX4_isIn := goodIn_r _ [6] (by decide +kernel) (by decide +kernel)
set_option maxRecDepth 20000 in
theorem gX4_setTimes_X4_isIn : GoodIn wsX4_setTimes (va_wsS RX4 93 yX4_isIn wsX4_isIn) := goodIn_app (goodIn_of _ (by decide +kernel)) ggX4_setTimes_X4_isIn
set_option maxRecDepth 20000 in
theorem ggX4_setTimes_X4_goes : GoodIn wsX4_setTimes wsX4_goes := goodIn_r _ [10, 11, 12, 13, 14, 15, 16, 17, 18, 19, 20, 21, 22, 23, 24, 25, 26, 27, 28, 29, 30, 31, 32, 33, 34, 35, 36, 37, 38, 39, 40, 41] (by decide +kernel) (by decide +kernel)
set_option maxRecDepth 20000 in
theorem gX4_setTimes_X4_goes : GoodIn wsX4_setTimes (wsV RX4 101 RX4 yX4_goes wsX4_goes) := goodIn_app (goodIn_of _ (by decide +kernel)) ggX4_setTimes_X4_goes
theorem dX4_setTimes_0 : decode cX4_setTimes 0 = .ok (.aload_n 0, 1) := by decide +kernel
theorem dX4_setTimes_1 : decode cX4_setTimes 1 = .ok (.iload_n 1, 1) := by decide +kernel
theorem dX4_setTimes_2 : decode cX4_setTimes 2 = .ok (.iconst 1, 1) := by decide +kernel
theorem dX4_setTimes_3 : decode cX4_setTimes 3 = .ok (.bipush 50, 2) := by decide +kernel
theorem dX4_setTimes_5 : decode cX4_setTimes 5 = .ok (.invokestatic 93, 3) := by decide +kernel
theorem dX4_setTimes_8 : decode cX4_setTimes 8 = .ok (.ifCond .eq 17, 3) := by decide +kernel
theorem dX4_setTimes_11 : decode cX4_setTimes 11 = .ok (.iload_n 2, 1) := by decide +kernel
theorem dX4_setTimes_12 : decode cX4_setTimes 12 = .ok (.iload_n 1, 1) := by decide +kernel
theorem dX4_setTimes_13 : decode cX4_setTimes 13 = .ok (.bipush 100, 2) := by decide +kernel
theorem dX4_setTimes_15 : decode cX4_setTimes 15 = .ok (.invokestatic 93, 3) := by decide +kernel
theorem dX4_setTimes_18 : decode cX4_setTimes 18 = .ok (.ifCond .eq 7, 3) := by decide +kernel
theorem dX4_setTimes_21 : decode cX4_setTimes 21 = .ok (.iconst 0, 1) := by decide +kernel
theorem dX4_setTimes_22 : decode cX4_setTimes 22 = .ok (.goto 4, 3) := by decide +kernel
theorem dX4_setTimes_25 : decode cX4_setTimes 25 = .ok (.iconst 1, 1) := by decide +kernel
theorem dX4_setTimes_26 : decode cX4_setTimes 26 = .ok (.invokevirtual 101, 3) := by decide +kernel
theorem dX4_setTimes_29 : decode cX4_setTimes 29 = .ok (.ifCond .eq 13, 3) := by decide +kernel
theorem dX4_setTimes_32 : decode cX4_setTimes 32 = .ok (.aload_n 0, 1) := by decide +kernel
theorem dX4_setTimes_33 : decode cX4_setTimes 33 = .ok (.iload_n 1, 1) := by decide +kernel
theorem dX4_setTimes_34 : decode cX4_setTimes 34 = .ok (.putfield 83, 3) := by decide +kernel
theorem dX4_setTimes_37 : decode cX4_setTimes 37 = .ok (.aload_n 0, 1) := by decide +kernel
theorem dX4_setTimes_38 : decode cX4_setTimes 38 = .ok (.iload_n 2, 1) := by decide +kernel
theorem dX4_setTimes_39 : decode cX4_setTimes 39 = .ok (.putfield 87, 3) := by decide +kernel
theorem dX4_setTimes_42 : decode cX4_setTimes 42 = .ok (.return_, 1) := by decide +kernel
set_option maxRecDepth 20000 in
theorem ggX4_hasNews_X4_at : GoodIn wsX4_hasNews wsX4_at := goodIn_r _ [5] (by decide +kernel) (by decide +kernel)
set_option maxRecDepth 20000 in
theorem gX4_hasNews_X4_at : GoodIn wsX4_hasNews (va_wsS RX4 114 yX4_at wsX4_at) := goodIn_app (goodIn_of _ (by decide +kernel)) ggX4_hasNews_X4_at
theorem dX4_hasNews_0 : decode cX4_hasNews 0 = .ok (.aload_n 0, 1) := by decide +kernel
theorem dX4_hasNews_1 : decode cX4_hasNews 1 = .ok (.getfield 65, 3) := by decide +kernel
theorem dX4_hasNews_4 : decode cX4_hasNews 4 = .ok (.iload_n 1, 1) := by decide +kernel
theorem dX4_hasNews_5 : decode cX4_hasNews 5 = .ok (.iload_n 2, 1) := by decide +kernel
theorem dX4_hasNews_6 : decode cX4_hasNews 6 = .ok (.invokestatic 114, 3) := by decide +kernel
theorem dX4_hasNews_9 : decode cX4_hasNews 9 = .ok (.iaload, 1) := by decide +kernel
theorem dX4_hasNews_10 : decode cX4_hasNews 10 = .ok (.ifCond .le 7, 3) := by decide +kernel
theorem dX4_hasNews_13 : decode cX4_hasNews 13 = .ok (.iconst 1, 1) := by decide +kernel
theorem dX4_hasNews_14 : decode cX4_hasNews 14 = .ok (.goto 4, 3) := by decide +kernel
theorem dX4_hasNews_17 : decode cX4_hasNews 17 = .ok (.iconst 0, 1) := by decide +kernel
theorem dX4_hasNews_18 : decode cX4_hasNews 18 = .ok (.ireturn, 1) := by decide +kernel
set_option maxRecDepth 20000 in
theorem ggX4_believed_X4_ask : GoodIn wsX4_believed wsX4_ask := goodIn_r _ [6, 7, 8, 5, 9, 10, 11, 12, 13, 14, 15, 16, 17, 26, 27, 28, 29, 30, 31, 32, 33, 34, 35, 36, 37, 38, 39, 40, 41, 42, 43, 44, 45, 46, 47, 48, 49, 50, 51, 52, 53, 54, 55] (by decide +kernel) (by decide +kernel)
set_option maxRecDepth 20000 in
theorem gX4_believed_X4_ask : GoodIn wsX4_believed (wsV RX4 121 RX4 yX4_ask wsX4_ask) := goodIn_app (goodIn_of _ (by decide +kernel)) ggX4_believed_X4_ask
set_option maxRecDepth 20000 in
theorem ggX4_believed_X4_hasNews : GoodIn wsX4_believed wsX4_hasNews := goodIn_r _ [21, 22, 23, 24, 5, 25, 26, 27, 28, 29, 30, 31, 32, 33, 34, 35, 36, 37, 38, 39, 40, 41, 42, 43, 44, 45, 46, 47, 48, 49, 50, 51, 52, 53, 54, 55] (by decide +kernel) (by decide +kernel)
set_option maxRecDepth 20000 in
theorem gX4_believed_X4_hasNews : GoodIn wsX4_believed (wsV RX4 125 RX4 yX4_hasNews wsX4_hasNews) := goodIn_app (goodIn_of _ (by decide +kernel)) ggX4_believed_X4_hasNews
set_option maxRecDepth 20000 in
theorem ggX4_believed_X4_at : GoodIn wsX4_believed wsX4_at := goodIn_r _ [25] (by decide +kernel) (by decide +kernel)
set_option maxRecDepth 20000 in
theorem gX4_believed_X4_at : GoodIn wsX4_believed (va_wsS RX4 114 yX4_at wsX4_at) := goodIn_app (goodIn_of _ (by decide +kernel)) ggX4_believed_X4_at
theorem dX4_believed_0 : decode cX4_believed 0 = .ok (.aload_n 0, 1) := by decide +kernel
theorem dX4_believed_1 : decode cX4_believed 1 = .ok (.iload_n 1, 1) := by decide +kernel
theorem dX4_believed_2 : decode cX4_believed 2 = .ok (.iload_n 2, 1) := by decide +kernel
theorem dX4_believed_3 : decode cX4_believed 3 = .ok (.invokevirtual 121, 3) := by decide +kernel
theorem dX4_believed_6 : decode cX4_believed 6 = .ok (.ifCond .ne 7, 3) := by decide +kernel
theorem dX4_believed_9 : decode cX4_believed 9 = .ok (.iconst 0, 1) := by decide +kernel
theorem dX4_believed_10 : decode cX4_believed 10 = .ok (.goto 26, 3) := by decide +kernel
theorem dX4_believed_13 : decode cX4_believed 13 = .ok (.aload_n 0, 1) := by decide +kernel
theorem dX4_believed_14 : decode cX4_believed 14 = .ok (.iload_n 1, 1) := by decide +kernel
theorem dX4_believed_15 : decode cX4_believed 15 = .ok (.iload_n 2, 1) := by decide +kernel
theorem dX4_believed_16 : decode cX4_believed 16 = .ok (.invokevirtual 125, 3) := by decide +kernel
theorem dX4_believed_19 : decode cX4_believed 19 = .ok (.ifCond .eq 16, 3) := by decide +kernel
theorem dX4_believed_22 : decode cX4_believed 22 = .ok (.aload_n 0, 1) := by decide +kernel
theorem dX4_believed_23 : decode cX4_believed 23 = .ok (.getfield 68, 3) := by decide +kernel
theorem dX4_believed_26 : decode cX4_believed 26 = .ok (.iload_n 1, 1) := by decide +kernel
theorem dX4_believed_27 : decode cX4_believed 27 = .ok (.iload_n 2, 1) := by decide +kernel
theorem dX4_believed_28 : decode cX4_believed 28 = .ok (.invokestatic 114, 3) := by decide +kernel
theorem dX4_believed_31 : decode cX4_believed 31 = .ok (.iaload, 1) := by decide +kernel
theorem dX4_believed_32 : decode cX4_believed 32 = .ok (.goto 4, 3) := by decide +kernel
theorem dX4_believed_35 : decode cX4_believed 35 = .ok (.iconst (-1), 1) := by decide +kernel
theorem dX4_believed_36 : decode cX4_believed 36 = .ok (.ireturn, 1) := by decide +kernel
set_option maxRecDepth 20000 in
theorem ggX4_version_X4_ask : GoodIn wsX4_version wsX4_ask := goodIn_r _ [6, 7, 8, 5, 9, 10, 11, 12, 13, 14, 15, 16, 17, 21, 22, 23, 24, 25, 26, 27, 28, 29, 30, 31, 32, 33, 34, 35, 36, 37, 38, 39, 40, 41, 42, 43, 44, 45, 46, 47, 48, 49, 50] (by decide +kernel) (by decide +kernel)
set_option maxRecDepth 20000 in
theorem gX4_version_X4_ask : GoodIn wsX4_version (wsV RX4 121 RX4 yX4_ask wsX4_ask) := goodIn_app (goodIn_of _ (by decide +kernel)) ggX4_version_X4_ask
set_option maxRecDepth 20000 in
theorem ggX4_version_X4_at : GoodIn wsX4_version wsX4_at := goodIn_r _ [20] (by decide +kernel) (by decide +kernel)
set_option maxRecDepth 20000 in
theorem gX4_version_X4_at : GoodIn wsX4_version (va_wsS RX4 114 yX4_at wsX4_at) := goodIn_app (goodIn_of _ (by decide +kernel)) ggX4_version_X4_at
theorem dX4_version_0 : decode cX4_version 0 = .ok (.aload_n 0, 1) := by decide +kernel
theorem dX4_version_1 : decode cX4_version 1 = .ok (.iload_n 1, 1) := by decide +kernel
theorem dX4_version_2 : decode cX4_version 2 = .ok (.iload_n 2, 1) := by decide +kernel
theorem dX4_version_3 : decode cX4_version 3 = .ok (.invokevirtual 121, 3) := by decide +kernel
theorem dX4_version_6 : decode cX4_version 6 = .ok (.ifCond .eq 16, 3) := by decide +kernel
theorem dX4_version_9 : decode cX4_version 9 = .ok (.aload_n 0, 1) := by decide +kernel
theorem dX4_version_10 : decode cX4_version 10 = .ok (.getfield 65, 3) := by decide +kernel
theorem dX4_version_13 : decode cX4_version 13 = .ok (.iload_n 1, 1) := by decide +kernel
theorem dX4_version_14 : decode cX4_version 14 = .ok (.iload_n 2, 1) := by decide +kernel
theorem dX4_version_15 : decode cX4_version 15 = .ok (.invokestatic 114, 3) := by decide +kernel
theorem dX4_version_18 : decode cX4_version 18 = .ok (.iaload, 1) := by decide +kernel
theorem dX4_version_19 : decode cX4_version 19 = .ok (.goto 4, 3) := by decide +kernel
theorem dX4_version_22 : decode cX4_version 22 = .ok (.iconst 0, 1) := by decide +kernel
theorem dX4_version_23 : decode cX4_version 23 = .ok (.ireturn, 1) := by decide +kernel
set_option maxRecDepth 20000 in
theorem ggX4_ageOf_X4_hasNews : GoodIn wsX4_ageOf wsX4_hasNews := goodIn_r _ [7, 8, 9, 10, 6, 11, 12, 13, 14, 15, 16, 17, 18, 19, 20, 21, 22, 23, 24, 25, 26, 27, 28, 29, 30, 31, 32, 33, 34, 35, 36, 37, 38, 39, 40, 41] (by decide +kernel) (by decide +kernel)
set_option maxRecDepth 20000 in
theorem gX4_ageOf_X4_hasNews : GoodIn wsX4_ageOf (wsV RX4 125 RX4 yX4_hasNews wsX4_hasNews) := goodIn_app (goodIn_of _ (by decide +kernel)) ggX4_ageOf_X4_hasNews
set_option maxRecDepth 20000 in
theorem ggX4_ageOf_X4_at : GoodIn wsX4_ageOf wsX4_at := goodIn_r _ [11] (by decide +kernel) (by decide +kernel)
set_option maxRecDepth 20000 in
theorem gX4_ageOf_X4_at : GoodIn wsX4_ageOf (va_wsS RX4 114 yX4_at wsX4_at) := goodIn_app (goodIn_of _ (by decide +kernel)) ggX4_ageOf_X4_at
theorem dX4_ageOf_0 : decode cX4_ageOf 0 = .ok (.aload_n 0, 1) := by decide +kernel
theorem dX4_ageOf_1 : decode cX4_ageOf 1 = .ok (.iload_n 1, 1) := by decide +kernel
theorem dX4_ageOf_2 : decode cX4_ageOf 2 = .ok (.iload_n 2, 1) := by decide +kernel
theorem dX4_ageOf_3 : decode cX4_ageOf 3 = .ok (.invokevirtual 125, 3) := by decide +kernel
theorem dX4_ageOf_6 : decode cX4_ageOf 6 = .ok (.ifCond .eq 21, 3) := by decide +kernel
theorem dX4_ageOf_9 : decode cX4_ageOf 9 = .ok (.aload_n 0, 1) := by decide +kernel
theorem dX4_ageOf_10 : decode cX4_ageOf 10 = .ok (.getfield 118, 3) := by decide +kernel
theorem dX4_ageOf_13 : decode cX4_ageOf 13 = .ok (.aload_n 0, 1) := by decide +kernel
theorem dX4_ageOf_14 : decode cX4_ageOf 14 = .ok (.getfield 71, 3) := by decide +kernel
theorem dX4_ageOf_17 : decode cX4_ageOf 17 = .ok (.iload_n 1, 1) := by decide +kernel
theorem dX4_ageOf_18 : decode cX4_ageOf 18 = .ok (.iload_n 2, 1) := by decide +kernel
theorem dX4_ageOf_19 : decode cX4_ageOf 19 = .ok (.invokestatic 114, 3) := by decide +kernel
theorem dX4_ageOf_22 : decode cX4_ageOf 22 = .ok (.iaload, 1) := by decide +kernel
theorem dX4_ageOf_23 : decode cX4_ageOf 23 = .ok (.isub, 1) := by decide +kernel
theorem dX4_ageOf_24 : decode cX4_ageOf 24 = .ok (.goto 4, 3) := by decide +kernel
theorem dX4_ageOf_27 : decode cX4_ageOf 27 = .ok (.iconst (-1), 1) := by decide +kernel
theorem dX4_ageOf_28 : decode cX4_ageOf 28 = .ok (.ireturn, 1) := by decide +kernel
set_option maxRecDepth 20000 in
theorem ggX4_age_X4_ask : GoodIn wsX4_age wsX4_ask := goodIn_r _ [5, 6, 7, 4, 8, 9, 10, 11, 12, 13, 14, 15, 16, 31, 32, 33, 34, 35, 36, 37, 38, 39, 40, 41, 42, 43, 44, 45, 46, 47, 48, 49, 50, 51, 52, 53, 54, 55, 56, 57, 58, 59, 60] (by decide +kernel) (by decide +kernel)
set_option maxRecDepth 20000 in
theorem gX4_age_X4_ask : GoodIn wsX4_age (wsV RX4 121 RX4 yX4_ask wsX4_ask) := goodIn_app (goodIn_of _ (by decide +kernel)) ggX4_age_X4_ask
set_option maxRecDepth 20000 in
theorem ggX4_age_X4_ageOf : GoodIn wsX4_age wsX4_ageOf := goodIn_r _ [20, 21, 22, 23, 24, 25, 4, 26, 27, 28, 29, 30, 31, 32, 33, 34, 35, 36, 37, 38, 39, 40, 41, 42, 43, 44, 45, 46, 47, 48, 49, 50, 51, 52, 53, 54, 55, 56, 57, 58, 59, 60] (by decide +kernel) (by decide +kernel)
set_option maxRecDepth 20000 in
theorem gX4_age_X4_ageOf : GoodIn wsX4_age (wsV RX4 128 RX4 yX4_ageOf wsX4_ageOf) := goodIn_app (goodIn_of _ (by decide +kernel)) ggX4_age_X4_ageOf
theorem dX4_age_0 : decode cX4_age 0 = .ok (.aload_n 0, 1) := by decide +kernel
theorem dX4_age_1 : decode cX4_age 1 = .ok (.iload_n 1, 1) := by decide +kernel
theorem dX4_age_2 : decode cX4_age 2 = .ok (.iload_n 2, 1) := by decide +kernel
theorem dX4_age_3 : decode cX4_age 3 = .ok (.invokevirtual 121, 3) := by decide +kernel
theorem dX4_age_6 : decode cX4_age 6 = .ok (.ifCond .eq 12, 3) := by decide +kernel
theorem dX4_age_9 : decode cX4_age 9 = .ok (.aload_n 0, 1) := by decide +kernel
theorem dX4_age_10 : decode cX4_age 10 = .ok (.iload_n 1, 1) := by decide +kernel
theorem dX4_age_11 : decode cX4_age 11 = .ok (.iload_n 2, 1) := by decide +kernel
theorem dX4_age_12 : decode cX4_age 12 = .ok (.invokevirtual 128, 3) := by decide +kernel
theorem dX4_age_15 : decode cX4_age 15 = .ok (.goto 4, 3) := by decide +kernel
theorem dX4_age_18 : decode cX4_age 18 = .ok (.iconst 0, 1) := by decide +kernel
theorem dX4_age_19 : decode cX4_age 19 = .ok (.ireturn, 1) := by decide +kernel
set_option maxRecDepth 20000 in
theorem ggX4_beat_X4_ask : GoodIn wsX4_beat wsX4_ask := goodIn_r _ [6, 7, 8, 5, 9, 10, 11, 12, 13, 14, 15, 16, 17, 21, 22, 23, 24, 25, 26, 27, 28, 29, 30, 31, 32, 33, 34, 35, 36, 37, 38, 39, 40, 41, 42, 43, 44, 45, 46, 47, 48, 49, 50] (by decide +kernel) (by decide +kernel)
set_option maxRecDepth 20000 in
theorem gX4_beat_X4_ask : GoodIn wsX4_beat (wsV RX4 121 RX4 yX4_ask wsX4_ask) := goodIn_app (goodIn_of _ (by decide +kernel)) ggX4_beat_X4_ask
set_option maxRecDepth 20000 in
theorem ggX4_beat_X4_at : GoodIn wsX4_beat wsX4_at := goodIn_r _ [20] (by decide +kernel) (by decide +kernel)
set_option maxRecDepth 20000 in
theorem gX4_beat_X4_at : GoodIn wsX4_beat (va_wsS RX4 114 yX4_at wsX4_at) := goodIn_app (goodIn_of _ (by decide +kernel)) ggX4_beat_X4_at
theorem dX4_beat_0 : decode cX4_beat 0 = .ok (.aload_n 0, 1) := by decide +kernel
theorem dX4_beat_1 : decode cX4_beat 1 = .ok (.iload_n 1, 1) := by decide +kernel
theorem dX4_beat_2 : decode cX4_beat 2 = .ok (.iload_n 2, 1) := by decide +kernel
theorem dX4_beat_3 : decode cX4_beat 3 = .ok (.invokevirtual 121, 3) := by decide +kernel
theorem dX4_beat_6 : decode cX4_beat 6 = .ok (.ifCond .eq 16, 3) := by decide +kernel
theorem dX4_beat_9 : decode cX4_beat 9 = .ok (.aload_n 0, 1) := by decide +kernel
theorem dX4_beat_10 : decode cX4_beat 10 = .ok (.getfield 74, 3) := by decide +kernel
theorem dX4_beat_13 : decode cX4_beat 13 = .ok (.iload_n 1, 1) := by decide +kernel
theorem dX4_beat_14 : decode cX4_beat 14 = .ok (.iload_n 2, 1) := by decide +kernel
theorem dX4_beat_15 : decode cX4_beat 15 = .ok (.invokestatic 114, 3) := by decide +kernel
theorem dX4_beat_18 : decode cX4_beat 18 = .ok (.iaload, 1) := by decide +kernel
theorem dX4_beat_19 : decode cX4_beat 19 = .ok (.goto 4, 3) := by decide +kernel
theorem dX4_beat_22 : decode cX4_beat 22 = .ok (.iconst 0, 1) := by decide +kernel
theorem dX4_beat_23 : decode cX4_beat 23 = .ok (.ireturn, 1) := by decide +kernel
set_option maxRecDepth 20000 in
theorem ggX4_status_X4_ask : GoodIn wsX4_status wsX4_ask := goodIn_r _ [6, 7, 8, 5, 9, 10, 11, 12, 13, 14, 15, 16, 17, 21, 22, 23, 24, 25, 26, 27, 28, 29, 30, 31, 32, 33, 34, 35, 36, 37, 38, 39, 40, 41, 42, 43, 44, 45, 46, 47, 48, 49, 50] (by decide +kernel) (by decide +kernel)
set_option maxRecDepth 20000 in
theorem gX4_status_X4_ask : GoodIn wsX4_status (wsV RX4 121 RX4 yX4_ask wsX4_ask) := goodIn_app (goodIn_of _ (by decide +kernel)) ggX4_status_X4_ask
set_option maxRecDepth 20000 in
theorem ggX4_status_X4_at : GoodIn wsX4_status wsX4_at := goodIn_r _ [20] (by decide +kernel) (by decide +kernel)
set_option maxRecDepth 20000 in
theorem gX4_status_X4_at : GoodIn wsX4_status (va_wsS RX4 114 yX4_at wsX4_at) := goodIn_app (goodIn_of _ (by decide +kernel)) ggX4_status_X4_at
theorem dX4_status_0 : decode cX4_status 0 = .ok (.aload_n 0, 1) := by decide +kernel
theorem dX4_status_1 : decode cX4_status 1 = .ok (.iload_n 1, 1) := by decide +kernel
theorem dX4_status_2 : decode cX4_status 2 = .ok (.iload_n 2, 1) := by decide +kernel
theorem dX4_status_3 : decode cX4_status 3 = .ok (.invokevirtual 121, 3) := by decide +kernel
theorem dX4_status_6 : decode cX4_status 6 = .ok (.ifCond .eq 16, 3) := by decide +kernel
theorem dX4_status_9 : decode cX4_status 9 = .ok (.aload_n 0, 1) := by decide +kernel
theorem dX4_status_10 : decode cX4_status 10 = .ok (.getfield 80, 3) := by decide +kernel
theorem dX4_status_13 : decode cX4_status 13 = .ok (.iload_n 1, 1) := by decide +kernel
theorem dX4_status_14 : decode cX4_status 14 = .ok (.iload_n 2, 1) := by decide +kernel
theorem dX4_status_15 : decode cX4_status 15 = .ok (.invokestatic 114, 3) := by decide +kernel
theorem dX4_status_18 : decode cX4_status 18 = .ok (.iaload, 1) := by decide +kernel
theorem dX4_status_19 : decode cX4_status 19 = .ok (.goto 4, 3) := by decide +kernel
theorem dX4_status_22 : decode cX4_status 22 = .ok (.iconst 0, 1) := by decide +kernel
theorem dX4_status_23 : decode cX4_status 23 = .ok (.ireturn, 1) := by decide +kernel
set_option maxRecDepth 20000 in
theorem ggX4_isCallable_X4_at : GoodIn wsX4_isCallable wsX4_at := goodIn_r _ [5] (by decide +kernel) (by decide +kernel)
set_option maxRecDepth 20000 in
theorem gX4_isCallable_X4_at : GoodIn wsX4_isCallable (va_wsS RX4 114 yX4_at wsX4_at) := goodIn_app (goodIn_of _ (by decide +kernel)) ggX4_isCallable_X4_at
theorem dX4_isCallable_0 : decode cX4_isCallable 0 = .ok (.iload_n 2, 1) := by decide +kernel
theorem dX4_isCallable_1 : decode cX4_isCallable 1 = .ok (.iload_n 1, 1) := by decide +kernel
theorem dX4_isCallable_2 : decode cX4_isCallable 2 = .ok (.if_icmp .eq 27, 3) := by decide +kernel
theorem dX4_isCallable_5 : decode cX4_isCallable 5 = .ok (.iload_n 3, 1) := by decide +kernel
theorem dX4_isCallable_6 : decode cX4_isCallable 6 = .ok (.iconst 4, 1) := by decide +kernel
theorem dX4_isCallable_7 : decode cX4_isCallable 7 = .ok (.irem, 1) := by decide +kernel
theorem dX4_isCallable_8 : decode cX4_isCallable 8 = .ok (.ifCond .eq 17, 3) := by decide +kernel
theorem dX4_isCallable_11 : decode cX4_isCallable 11 = .ok (.aload_n 0, 1) := by decide +kernel
theorem dX4_isCallable_12 : decode cX4_isCallable 12 = .ok (.getfield 80, 3) := by decide +kernel
theorem dX4_isCallable_15 : decode cX4_isCallable 15 = .ok (.iload_n 1, 1) := by decide +kernel
theorem dX4_isCallable_16 : decode cX4_isCallable 16 = .ok (.iload_n 2, 1) := by decide +kernel
theorem dX4_isCallable_17 : decode cX4_isCallable 17 = .ok (.invokestatic 114, 3) := by decide +kernel
theorem dX4_isCallable_20 : decode cX4_isCallable 20 = .ok (.iaload, 1) := by decide +kernel
theorem dX4_isCallable_21 : decode cX4_isCallable 21 = .ok (.iconst 2, 1) := by decide +kernel
theorem dX4_isCallable_22 : decode cX4_isCallable 22 = .ok (.if_icmp .eq 7, 3) := by decide +kernel
theorem dX4_isCallable_25 : decode cX4_isCallable 25 = .ok (.iconst 1, 1) := by decide +kernel
theorem dX4_isCallable_26 : decode cX4_isCallable 26 = .ok (.goto 4, 3) := by decide +kernel
theorem dX4_isCallable_29 : decode cX4_isCallable 29 = .ok (.iconst 0, 1) := by decide +kernel
theorem dX4_isCallable_30 : decode cX4_isCallable 30 = .ok (.ireturn, 1) := by decide +kernel
set_option maxRecDepth 20000 in
theorem ggX4_called_X4_isCallable : GoodIn wsX4_called wsX4_isCallable := goodIn_r _ [5, 6, 7, 8, 4, 9, 10, 11, 12, 13, 14, 15, 16, 17, 18, 19, 20, 21, 22, 23, 24, 25, 26, 27, 28, 29, 30, 31, 32, 33, 34, 35, 36, 37, 38, 39] (by decide +kernel) (by decide +kernel)
set_option maxRecDepth 20000 in
theorem gX4_called_X4_isCallable : GoodIn wsX4_called (wsV RX4 131 RX4 yX4_isCallable wsX4_isCallable) := goodIn_app (goodIn_of _ (by decide +kernel)) ggX4_called_X4_isCallable
theorem dX4_called_0 : decode cX4_called 0 = .ok (.iconst 0, 1) := by decide +kernel
theorem dX4_called_1 : decode cX4_called 1 = .ok (.istore_n 3, 1) := by decide +kernel
theorem dX4_called_2 : decode cX4_called 2 = .ok (.iconst 0, 1) := by decide +kernel
theorem dX4_called_3 : decode cX4_called 3 = .ok (.istore 4, 2) := by decide +kernel
theorem dX4_called_5 : decode cX4_called 5 = .ok (.iload 4, 2) := by decide +kernel
theorem dX4_called_7 : decode cX4_called 7 = .ok (.bipush 8, 2) := by decide +kernel
theorem dX4_called_9 : decode cX4_called 9 = .ok (.if_icmp .ge 28, 3) := by decide +kernel
theorem dX4_called_12 : decode cX4_called 12 = .ok (.iload_n 3, 1) := by decide +kernel
theorem dX4_called_13 : decode cX4_called 13 = .ok (.aload_n 0, 1) := by decide +kernel
theorem dX4_called_14 : decode cX4_called 14 = .ok (.iload_n 1, 1) := by decide +kernel
theorem dX4_called_15 : decode cX4_called 15 = .ok (.iload 4, 2) := by decide +kernel
theorem dX4_called_17 : decode cX4_called 17 = .ok (.iload_n 2, 1) := by decide +kernel
theorem dX4_called_18 : decode cX4_called 18 = .ok (.invokevirtual 131, 3) := by decide +kernel
theorem dX4_called_21 : decode cX4_called 21 = .ok (.ifCond .eq 7, 3) := by decide +kernel
theorem dX4_called_24 : decode cX4_called 24 = .ok (.iconst 1, 1) := by decide +kernel
theorem dX4_called_25 : decode cX4_called 25 = .ok (.goto 4, 3) := by decide +kernel
theorem dX4_called_28 : decode cX4_called 28 = .ok (.iconst 0, 1) := by decide +kernel
theorem dX4_called_29 : decode cX4_called 29 = .ok (.iadd, 1) := by decide +kernel
theorem dX4_called_30 : decode cX4_called 30 = .ok (.istore_n 3, 1) := by decide +kernel
theorem dX4_called_31 : decode cX4_called 31 = .ok (.iinc 4 1, 3) := by decide +kernel
theorem dX4_called_34 : decode cX4_called 34 = .ok (.goto (-29), 3) := by decide +kernel
theorem dX4_called_37 : decode cX4_called 37 = .ok (.iload_n 3, 1) := by decide +kernel
theorem dX4_called_38 : decode cX4_called 38 = .ok (.ifCond .ne 7, 3) := by decide +kernel
theorem dX4_called_41 : decode cX4_called 41 = .ok (.iconst 0, 1) := by decide +kernel
theorem dX4_called_42 : decode cX4_called 42 = .ok (.goto 12, 3) := by decide +kernel
theorem dX4_called_45 : decode cX4_called 45 = .ok (.iconst 5, 1) := by decide +kernel
theorem dX4_called_46 : decode cX4_called 46 = .ok (.iload_n 2, 1) := by decide +kernel
theorem dX4_called_47 : decode cX4_called 47 = .ok (.imul, 1) := by decide +kernel
theorem dX4_called_48 : decode cX4_called 48 = .ok (.iconst 3, 1) := by decide +kernel
theorem dX4_called_49 : decode cX4_called 49 = .ok (.iload_n 1, 1) := by decide +kernel
theorem dX4_called_50 : decode cX4_called 50 = .ok (.imul, 1) := by decide +kernel
theorem dX4_called_51 : decode cX4_called 51 = .ok (.iadd, 1) := by decide +kernel
theorem dX4_called_52 : decode cX4_called 52 = .ok (.iload_n 3, 1) := by decide +kernel
theorem dX4_called_53 : decode cX4_called 53 = .ok (.irem, 1) := by decide +kernel
theorem dX4_called_54 : decode cX4_called 54 = .ok (.istore 4, 2) := by decide +kernel
theorem dX4_called_56 : decode cX4_called 56 = .ok (.iconst (-1), 1) := by decide +kernel
theorem dX4_called_57 : decode cX4_called 57 = .ok (.istore 5, 2) := by decide +kernel
theorem dX4_called_59 : decode cX4_called 59 = .ok (.bipush 7, 2) := by decide +kernel
theorem dX4_called_61 : decode cX4_called 61 = .ok (.istore 6, 2) := by decide +kernel
theorem dX4_called_63 : decode cX4_called 63 = .ok (.iload 6, 2) := by decide +kernel
theorem dX4_called_65 : decode cX4_called 65 = .ok (.ifCond .lt 52, 3) := by decide +kernel
theorem dX4_called_68 : decode cX4_called 68 = .ok (.aload_n 0, 1) := by decide +kernel
theorem dX4_called_69 : decode cX4_called 69 = .ok (.iload_n 1, 1) := by decide +kernel
theorem dX4_called_70 : decode cX4_called 70 = .ok (.iload 6, 2) := by decide +kernel
theorem dX4_called_72 : decode cX4_called 72 = .ok (.iload_n 2, 1) := by decide +kernel
theorem dX4_called_73 : decode cX4_called 73 = .ok (.invokevirtual 131, 3) := by decide +kernel
theorem dX4_called_76 : decode cX4_called 76 = .ok (.istore 7, 2) := by decide +kernel
theorem dX4_called_78 : decode cX4_called 78 = .ok (.iload_n 3, 1) := by decide +kernel
theorem dX4_called_79 : decode cX4_called 79 = .ok (.iload 7, 2) := by decide +kernel
theorem dX4_called_81 : decode cX4_called 81 = .ok (.ifCond .eq 7, 3) := by decide +kernel
theorem dX4_called_84 : decode cX4_called 84 = .ok (.iconst 1, 1) := by decide +kernel
theorem dX4_called_85 : decode cX4_called 85 = .ok (.goto 4, 3) := by decide +kernel
theorem dX4_called_88 : decode cX4_called 88 = .ok (.iconst 0, 1) := by decide +kernel
theorem dX4_called_89 : decode cX4_called 89 = .ok (.isub, 1) := by decide +kernel
theorem dX4_called_90 : decode cX4_called 90 = .ok (.istore_n 3, 1) := by decide +kernel
theorem dX4_called_91 : decode cX4_called 91 = .ok (.iload 7, 2) := by decide +kernel
theorem dX4_called_93 : decode cX4_called 93 = .ok (.ifCond .eq 14, 3) := by decide +kernel
theorem dX4_called_96 : decode cX4_called 96 = .ok (.iload_n 3, 1) := by decide +kernel
theorem dX4_called_97 : decode cX4_called 97 = .ok (.iload 4, 2) := by decide +kernel
theorem dX4_called_99 : decode cX4_called 99 = .ok (.if_icmp .ne 8, 3) := by decide +kernel
theorem dX4_called_102 : decode cX4_called 102 = .ok (.iload 6, 2) := by decide +kernel
theorem dX4_called_104 : decode cX4_called 104 = .ok (.goto 5, 3) := by decide +kernel
theorem dX4_called_107 : decode cX4_called 107 = .ok (.iload 5, 2) := by decide +kernel
theorem dX4_called_109 : decode cX4_called 109 = .ok (.istore 5, 2) := by decide +kernel
theorem dX4_called_111 : decode cX4_called 111 = .ok (.iinc 6 (-1), 3) := by decide +kernel
theorem dX4_called_114 : decode cX4_called 114 = .ok (.goto (-51), 3) := by decide +kernel
theorem dX4_called_117 : decode cX4_called 117 = .ok (.iload 5, 2) := by decide +kernel
theorem dX4_called_119 : decode cX4_called 119 = .ok (.ireturn, 1) := by decide +kernel
end
section
set_option maxRecDepth 20000 in
theorem ggX4_partner_X4_asks : GoodIn wsX4_partner wsX4_asks := goodIn_r _ [7, 8, 9, 6, 10, 11, 12, 13, 14, 15, 16, 17, 18, 31, 32, 33, 34, 35, 36, 37, 38, 39, 40, 41, 42, 43, 44, 45, 46, 47, 48, 49, 50, 51, 52, 53, 54, 55, 56, 57, 58, 59, 60] (by decide +kernel) (by decide +kernel)
set_option maxRecDepth 20000 in
theorem gX4_partner_X4_asks : GoodIn wsX4_partner (wsV RX4 107 RX4 yX4_asks wsX4_asks) := goodIn_app (goodIn_of _ (by decide +kernel)) ggX4_partner_X4_asks
set_option maxRecDepth 20000 in
theorem ggX4_partner_X4_called : GoodIn wsX4_partner wsX4_called := goodIn_r _ [22, 23, 24, 25, 6, 26, 27, 28, 29, 30, 31, 32, 33, 34, 35, 36, 37, 38, 39, 40, 41, 42, 43, 44, 45, 46, 47, 48, 49, 50, 51, 52, 53, 54, 55, 56, 57, 58, 59, 60] (by decide +kernel) (by decide +kernel)
set_option maxRecDepth 20000 in
theorem gX4_partner_X4_called : GoodIn wsX4_partner (wsV RX4 134 RX4 yX4_called wsX4_called) := goodIn_app (goodIn_of _ (by decide +kernel)) ggX4_partner_X4_called
theorem dX4_partner_0 : decode cX4_partner 0 = .ok (.aload_n 0, 1) := by decide +kernel
theorem dX4_partner_1 : decode cX4_partner 1 = .ok (.iload_n 1, 1) := by decide +kernel
theorem dX4_partner_2 : decode cX4_partner 2 = .ok (.invokevirtual 107, 3) := by decide +kernel
theorem dX4_partner_5 : decode cX4_partner 5 = .ok (.ifCond .ne 7, 3) := by decide +kernel
theorem dX4_partner_8 : decode cX4_partner 8 = .ok (.iconst 0, 1) := by decide +kernel
theorem dX4_partner_9 : decode cX4_partner 9 = .ok (.goto 27, 3) := by decide +kernel
theorem dX4_partner_12 : decode cX4_partner 12 = .ok (.aload_n 0, 1) := by decide +kernel
theorem dX4_partner_13 : decode cX4_partner 13 = .ok (.getfield 56, 3) := by decide +kernel
theorem dX4_partner_16 : decode cX4_partner 16 = .ok (.iload_n 1, 1) := by decide +kernel
theorem dX4_partner_17 : decode cX4_partner 17 = .ok (.baload, 1) := by decide +kernel
theorem dX4_partner_18 : decode cX4_partner 18 = .ok (.ifCond .eq 7, 3) := by decide +kernel
theorem dX4_partner_21 : decode cX4_partner 21 = .ok (.iconst (-1), 1) := by decide +kernel
theorem dX4_partner_22 : decode cX4_partner 22 = .ok (.goto 14, 3) := by decide +kernel
theorem dX4_partner_25 : decode cX4_partner 25 = .ok (.aload_n 0, 1) := by decide +kernel
theorem dX4_partner_26 : decode cX4_partner 26 = .ok (.iload_n 1, 1) := by decide +kernel
theorem dX4_partner_27 : decode cX4_partner 27 = .ok (.aload_n 0, 1) := by decide +kernel
theorem dX4_partner_28 : decode cX4_partner 28 = .ok (.getfield 118, 3) := by decide +kernel
theorem dX4_partner_31 : decode cX4_partner 31 = .ok (.iconst 1, 1) := by decide +kernel
theorem dX4_partner_32 : decode cX4_partner 32 = .ok (.iadd, 1) := by decide +kernel
theorem dX4_partner_33 : decode cX4_partner 33 = .ok (.invokevirtual 134, 3) := by decide +kernel
theorem dX4_partner_36 : decode cX4_partner 36 = .ok (.ireturn, 1) := by decide +kernel
set_option maxRecDepth 20000 in
theorem ggX4_freshest_X4_asks : GoodIn wsX4_freshest wsX4_asks := goodIn_r _ [6, 7, 8, 5, 9, 10, 11, 12, 13, 14, 15, 16, 17, 25, 26, 27, 28, 29, 30, 31, 32, 33, 34, 35, 36, 37, 38, 39, 40, 41, 42, 43, 44, 45, 46, 47, 48, 49, 50, 51, 52, 53, 54] (by decide +kernel) (by decide +kernel)
set_option maxRecDepth 20000 in
theorem gX4_freshest_X4_asks : GoodIn wsX4_freshest (wsV RX4 107 RX4 yX4_asks wsX4_asks) := goodIn_app (goodIn_of _ (by decide +kernel)) ggX4_freshest_X4_asks
set_option maxRecDepth 20000 in
theorem ggX4_freshest_X4_at : GoodIn wsX4_freshest wsX4_at := goodIn_r _ [20] (by decide +kernel) (by decide +kernel)
set_option maxRecDepth 20000 in
theorem gX4_freshest_X4_at : GoodIn wsX4_freshest (va_wsS RX4 114 yX4_at wsX4_at) := goodIn_app (goodIn_of _ (by decide +kernel)) ggX4_freshest_X4_at
set_option maxRecDepth 20000 in
theorem ggX4_freshest_X4_hasNews : GoodIn wsX4_freshest wsX4_hasNews := goodIn_r _ [24, 1, 18, 19, 5, 20, 25, 26, 27, 28, 29, 30, 31, 32, 33, 34, 35, 36, 37, 38, 39, 40, 41, 42, 43, 44, 45, 46, 47, 48, 49, 50, 51, 52, 53, 54] (by decide +kernel) (by decide +kernel)
set_option maxRecDepth 20000 in
theorem gX4_freshest_X4_hasNews : GoodIn wsX4_freshest (wsV RX4 125 RX4 yX4_hasNews wsX4_hasNews) := goodIn_app (goodIn_of _ (by decide +kernel)) ggX4_freshest_X4_hasNews
theorem dX4_freshest_0 : decode cX4_freshest 0 = .ok (.aload_n 0, 1) := by decide +kernel
theorem dX4_freshest_1 : decode cX4_freshest 1 = .ok (.iload_n 1, 1) := by decide +kernel
theorem dX4_freshest_2 : decode cX4_freshest 2 = .ok (.invokevirtual 107, 3) := by decide +kernel
theorem dX4_freshest_5 : decode cX4_freshest 5 = .ok (.ifCond .ne 5, 3) := by decide +kernel
theorem dX4_freshest_8 : decode cX4_freshest 8 = .ok (.iconst 0, 1) := by decide +kernel
theorem dX4_freshest_9 : decode cX4_freshest 9 = .ok (.ireturn, 1) := by decide +kernel
theorem dX4_freshest_10 : decode cX4_freshest 10 = .ok (.iconst 0, 1) := by decide +kernel
theorem dX4_freshest_11 : decode cX4_freshest 11 = .ok (.istore_n 2, 1) := by decide +kernel
theorem dX4_freshest_12 : decode cX4_freshest 12 = .ok (.iconst 1, 1) := by decide +kernel
theorem dX4_freshest_13 : decode cX4_freshest 13 = .ok (.istore_n 3, 1) := by decide +kernel
theorem dX4_freshest_14 : decode cX4_freshest 14 = .ok (.iload_n 3, 1) := by decide +kernel
theorem dX4_freshest_15 : decode cX4_freshest 15 = .ok (.bipush 8, 2) := by decide +kernel
theorem dX4_freshest_17 : decode cX4_freshest 17 = .ok (.if_icmp .ge 38, 3) := by decide +kernel
theorem dX4_freshest_20 : decode cX4_freshest 20 = .ok (.aload_n 0, 1) := by decide +kernel
theorem dX4_freshest_21 : decode cX4_freshest 21 = .ok (.getfield 65, 3) := by decide +kernel
theorem dX4_freshest_24 : decode cX4_freshest 24 = .ok (.iload_n 3, 1) := by decide +kernel
theorem dX4_freshest_25 : decode cX4_freshest 25 = .ok (.iload_n 1, 1) := by decide +kernel
theorem dX4_freshest_26 : decode cX4_freshest 26 = .ok (.invokestatic 114, 3) := by decide +kernel
theorem dX4_freshest_29 : decode cX4_freshest 29 = .ok (.iaload, 1) := by decide +kernel
theorem dX4_freshest_30 : decode cX4_freshest 30 = .ok (.aload_n 0, 1) := by decide +kernel
theorem dX4_freshest_31 : decode cX4_freshest 31 = .ok (.getfield 65, 3) := by decide +kernel
theorem dX4_freshest_34 : decode cX4_freshest 34 = .ok (.iload_n 2, 1) := by decide +kernel
theorem dX4_freshest_35 : decode cX4_freshest 35 = .ok (.iload_n 1, 1) := by decide +kernel
theorem dX4_freshest_36 : decode cX4_freshest 36 = .ok (.invokestatic 114, 3) := by decide +kernel
theorem dX4_freshest_39 : decode cX4_freshest 39 = .ok (.iaload, 1) := by decide +kernel
theorem dX4_freshest_40 : decode cX4_freshest 40 = .ok (.if_icmp .le 7, 3) := by decide +kernel
theorem dX4_freshest_43 : decode cX4_freshest 43 = .ok (.iload_n 3, 1) := by decide +kernel
theorem dX4_freshest_44 : decode cX4_freshest 44 = .ok (.goto 4, 3) := by decide +kernel
theorem dX4_freshest_47 : decode cX4_freshest 47 = .ok (.iload_n 2, 1) := by decide +kernel
theorem dX4_freshest_48 : decode cX4_freshest 48 = .ok (.istore_n 2, 1) := by decide +kernel
theorem dX4_freshest_49 : decode cX4_freshest 49 = .ok (.iinc 3 1, 3) := by decide +kernel
theorem dX4_freshest_52 : decode cX4_freshest 52 = .ok (.goto (-38), 3) := by decide +kernel
theorem dX4_freshest_55 : decode cX4_freshest 55 = .ok (.aload_n 0, 1) := by decide +kernel
theorem dX4_freshest_56 : decode cX4_freshest 56 = .ok (.iload_n 2, 1) := by decide +kernel
theorem dX4_freshest_57 : decode cX4_freshest 57 = .ok (.iload_n 1, 1) := by decide +kernel
theorem dX4_freshest_58 : decode cX4_freshest 58 = .ok (.invokevirtual 125, 3) := by decide +kernel
theorem dX4_freshest_61 : decode cX4_freshest 61 = .ok (.ifCond .eq 7, 3) := by decide +kernel
theorem dX4_freshest_64 : decode cX4_freshest 64 = .ok (.iload_n 2, 1) := by decide +kernel
theorem dX4_freshest_65 : decode cX4_freshest 65 = .ok (.goto 4, 3) := by decide +kernel
theorem dX4_freshest_68 : decode cX4_freshest 68 = .ok (.iconst (-1), 1) := by decide +kernel
theorem dX4_freshest_69 : decode cX4_freshest 69 = .ok (.ireturn, 1) := by decide +kernel
set_option maxRecDepth 20000 in
theorem ggX4_agree_X4_asks : GoodIn wsX4_agree wsX4_asks := goodIn_r _ [7, 8, 9, 6, 10, 11, 12, 13, 14, 15, 16, 17, 18, 33, 34, 35, 36, 37, 38, 39, 40, 41, 42, 43, 44, 45, 46, 47, 48, 49, 50, 51, 52, 53, 54, 55, 56, 57, 58, 59, 60, 61, 62] (by decide +kernel) (by decide +kernel)
set_option maxRecDepth 20000 in
theorem gX4_agree_X4_asks : GoodIn wsX4_agree (wsV RX4 107 RX4 yX4_asks wsX4_asks) := goodIn_app (goodIn_of _ (by decide +kernel)) ggX4_agree_X4_asks
set_option maxRecDepth 20000 in
theorem ggX4_agree_X4_hasNews : GoodIn wsX4_agree wsX4_hasNews := goodIn_r _ [22, 23, 24, 25, 6, 26, 33, 34, 35, 36, 37, 38, 39, 40, 41, 42, 43, 44, 45, 46, 47, 48, 49, 50, 51, 52, 53, 54, 55, 56, 57, 58, 59, 60, 61, 62] (by decide +kernel) (by decide +kernel)
set_option maxRecDepth 20000 in
theorem gX4_agree_X4_hasNews : GoodIn wsX4_agree (wsV RX4 125 RX4 yX4_hasNews wsX4_hasNews) := goodIn_app (goodIn_of _ (by decide +kernel)) ggX4_agree_X4_hasNews
set_option maxRecDepth 20000 in
theorem ggX4_agree_X4_at : GoodIn wsX4_agree wsX4_at := goodIn_r _ [26] (by decide +kernel) (by decide +kernel)
set_option maxRecDepth 20000 in
theorem gX4_agree_X4_at : GoodIn wsX4_agree (va_wsS RX4 114 yX4_at wsX4_at) := goodIn_app (goodIn_of _ (by decide +kernel)) ggX4_agree_X4_at
set_option maxRecDepth 20000 in
theorem ggX4_agree_X4_levelOf : GoodIn wsX4_agree wsX4_levelOf := goodIn_r _ [30, 31, 32, 33, 34, 35, 36, 37, 38, 39, 40, 41, 42, 43, 44, 45, 46, 47, 48, 49, 50, 51, 52, 53, 54, 55, 56, 57, 58, 59, 60, 61, 62] (by decide +kernel) (by decide +kernel)
set_option maxRecDepth 20000 in
theorem gX4_agree_X4_levelOf : GoodIn wsX4_agree (wsV RX4 110 RX4 yX4_levelOf wsX4_levelOf) := goodIn_app (goodIn_of _ (by decide +kernel)) ggX4_agree_X4_levelOf
theorem dX4_agree_0 : decode cX4_agree 0 = .ok (.aload_n 0, 1) := by decide +kernel
theorem dX4_agree_1 : decode cX4_agree 1 = .ok (.iload_n 1, 1) := by decide +kernel
theorem dX4_agree_2 : decode cX4_agree 2 = .ok (.invokevirtual 107, 3) := by decide +kernel
theorem dX4_agree_5 : decode cX4_agree 5 = .ok (.ifCond .ne 5, 3) := by decide +kernel
theorem dX4_agree_8 : decode cX4_agree 8 = .ok (.iconst 0, 1) := by decide +kernel
theorem dX4_agree_9 : decode cX4_agree 9 = .ok (.ireturn, 1) := by decide +kernel
theorem dX4_agree_10 : decode cX4_agree 10 = .ok (.iconst 0, 1) := by decide +kernel
theorem dX4_agree_11 : decode cX4_agree 11 = .ok (.istore_n 2, 1) := by decide +kernel
theorem dX4_agree_12 : decode cX4_agree 12 = .ok (.iconst 0, 1) := by decide +kernel
theorem dX4_agree_13 : decode cX4_agree 13 = .ok (.istore_n 3, 1) := by decide +kernel
theorem dX4_agree_14 : decode cX4_agree 14 = .ok (.iload_n 3, 1) := by decide +kernel
theorem dX4_agree_15 : decode cX4_agree 15 = .ok (.bipush 8, 2) := by decide +kernel
theorem dX4_agree_17 : decode cX4_agree 17 = .ok (.if_icmp .ge 53, 3) := by decide +kernel
theorem dX4_agree_20 : decode cX4_agree 20 = .ok (.iload_n 2, 1) := by decide +kernel
theorem dX4_agree_21 : decode cX4_agree 21 = .ok (.aload_n 0, 1) := by decide +kernel
theorem dX4_agree_22 : decode cX4_agree 22 = .ok (.getfield 56, 3) := by decide +kernel
theorem dX4_agree_25 : decode cX4_agree 25 = .ok (.iload_n 3, 1) := by decide +kernel
theorem dX4_agree_26 : decode cX4_agree 26 = .ok (.baload, 1) := by decide +kernel
theorem dX4_agree_27 : decode cX4_agree 27 = .ok (.ifCond .ne 34, 3) := by decide +kernel
theorem dX4_agree_30 : decode cX4_agree 30 = .ok (.aload_n 0, 1) := by decide +kernel
theorem dX4_agree_31 : decode cX4_agree 31 = .ok (.iload_n 3, 1) := by decide +kernel
theorem dX4_agree_32 : decode cX4_agree 32 = .ok (.iload_n 1, 1) := by decide +kernel
theorem dX4_agree_33 : decode cX4_agree 33 = .ok (.invokevirtual 125, 3) := by decide +kernel
theorem dX4_agree_36 : decode cX4_agree 36 = .ok (.ifCond .eq 25, 3) := by decide +kernel
theorem dX4_agree_39 : decode cX4_agree 39 = .ok (.aload_n 0, 1) := by decide +kernel
theorem dX4_agree_40 : decode cX4_agree 40 = .ok (.getfield 68, 3) := by decide +kernel
theorem dX4_agree_43 : decode cX4_agree 43 = .ok (.iload_n 3, 1) := by decide +kernel
theorem dX4_agree_44 : decode cX4_agree 44 = .ok (.iload_n 1, 1) := by decide +kernel
theorem dX4_agree_45 : decode cX4_agree 45 = .ok (.invokestatic 114, 3) := by decide +kernel
theorem dX4_agree_48 : decode cX4_agree 48 = .ok (.iaload, 1) := by decide +kernel
theorem dX4_agree_49 : decode cX4_agree 49 = .ok (.aload_n 0, 1) := by decide +kernel
theorem dX4_agree_50 : decode cX4_agree 50 = .ok (.iload_n 1, 1) := by decide +kernel
theorem dX4_agree_51 : decode cX4_agree 51 = .ok (.invokevirtual 110, 3) := by decide +kernel
theorem dX4_agree_54 : decode cX4_agree 54 = .ok (.if_icmp .ne 7, 3) := by decide +kernel
theorem dX4_agree_57 : decode cX4_agree 57 = .ok (.iconst 1, 1) := by decide +kernel
theorem dX4_agree_58 : decode cX4_agree 58 = .ok (.goto 4, 3) := by decide +kernel
theorem dX4_agree_61 : decode cX4_agree 61 = .ok (.iconst 0, 1) := by decide +kernel
theorem dX4_agree_62 : decode cX4_agree 62 = .ok (.iadd, 1) := by decide +kernel
theorem dX4_agree_63 : decode cX4_agree 63 = .ok (.istore_n 2, 1) := by decide +kernel
theorem dX4_agree_64 : decode cX4_agree 64 = .ok (.iinc 3 1, 3) := by decide +kernel
theorem dX4_agree_67 : decode cX4_agree 67 = .ok (.goto (-53), 3) := by decide +kernel
theorem dX4_agree_70 : decode cX4_agree 70 = .ok (.iload_n 2, 1) := by decide +kernel
theorem dX4_agree_71 : decode cX4_agree 71 = .ok (.ireturn, 1) := by decide +kernel
set_option maxRecDepth 20000 in
theorem ggX4_unnoticed_X4_at : GoodIn wsX4_unnoticed wsX4_at := goodIn_r _ [7] (by decide +kernel) (by decide +kernel)
set_option maxRecDepth 20000 in
theorem gX4_unnoticed_X4_at : GoodIn wsX4_unnoticed (va_wsS RX4 114 yX4_at wsX4_at) := goodIn_app (goodIn_of _ (by decide +kernel)) ggX4_unnoticed_X4_at
theorem dX4_unnoticed_0 : decode cX4_unnoticed 0 = .ok (.aload_n 0, 1) := by decide +kernel
theorem dX4_unnoticed_1 : decode cX4_unnoticed 1 = .ok (.iconst 0, 1) := by decide +kernel
theorem dX4_unnoticed_2 : decode cX4_unnoticed 2 = .ok (.putfield 90, 3) := by decide +kernel
theorem dX4_unnoticed_5 : decode cX4_unnoticed 5 = .ok (.iconst 0, 1) := by decide +kernel
theorem dX4_unnoticed_6 : decode cX4_unnoticed 6 = .ok (.istore_n 1, 1) := by decide +kernel
theorem dX4_unnoticed_7 : decode cX4_unnoticed 7 = .ok (.iconst 0, 1) := by decide +kernel
theorem dX4_unnoticed_8 : decode cX4_unnoticed 8 = .ok (.istore_n 2, 1) := by decide +kernel
theorem dX4_unnoticed_9 : decode cX4_unnoticed 9 = .ok (.iload_n 2, 1) := by decide +kernel
theorem dX4_unnoticed_10 : decode cX4_unnoticed 10 = .ok (.bipush 8, 2) := by decide +kernel
theorem dX4_unnoticed_12 : decode cX4_unnoticed 12 = .ok (.if_icmp .ge 82, 3) := by decide +kernel
theorem dX4_unnoticed_15 : decode cX4_unnoticed 15 = .ok (.iconst 0, 1) := by decide +kernel
theorem dX4_unnoticed_16 : decode cX4_unnoticed 16 = .ok (.istore_n 3, 1) := by decide +kernel
theorem dX4_unnoticed_17 : decode cX4_unnoticed 17 = .ok (.iconst 0, 1) := by decide +kernel
theorem dX4_unnoticed_18 : decode cX4_unnoticed 18 = .ok (.istore 4, 2) := by decide +kernel
theorem dX4_unnoticed_20 : decode cX4_unnoticed 20 = .ok (.iload 4, 2) := by decide +kernel
theorem dX4_unnoticed_22 : decode cX4_unnoticed 22 = .ok (.bipush 8, 2) := by decide +kernel
theorem dX4_unnoticed_24 : decode cX4_unnoticed 24 = .ok (.if_icmp .ge 43, 3) := by decide +kernel
theorem dX4_unnoticed_27 : decode cX4_unnoticed 27 = .ok (.iload_n 3, 1) := by decide +kernel
theorem dX4_unnoticed_28 : decode cX4_unnoticed 28 = .ok (.ifCond .ne 27, 3) := by decide +kernel
theorem dX4_unnoticed_31 : decode cX4_unnoticed 31 = .ok (.aload_n 0, 1) := by decide +kernel
theorem dX4_unnoticed_32 : decode cX4_unnoticed 32 = .ok (.getfield 56, 3) := by decide +kernel
theorem dX4_unnoticed_35 : decode cX4_unnoticed 35 = .ok (.iload 4, 2) := by decide +kernel
theorem dX4_unnoticed_37 : decode cX4_unnoticed 37 = .ok (.baload, 1) := by decide +kernel
theorem dX4_unnoticed_38 : decode cX4_unnoticed 38 = .ok (.ifCond .ne 21, 3) := by decide +kernel
theorem dX4_unnoticed_41 : decode cX4_unnoticed 41 = .ok (.aload_n 0, 1) := by decide +kernel
theorem dX4_unnoticed_42 : decode cX4_unnoticed 42 = .ok (.getfield 80, 3) := by decide +kernel
theorem dX4_unnoticed_45 : decode cX4_unnoticed 45 = .ok (.iload 4, 2) := by decide +kernel
theorem dX4_unnoticed_47 : decode cX4_unnoticed 47 = .ok (.iload_n 2, 1) := by decide +kernel
theorem dX4_unnoticed_48 : decode cX4_unnoticed 48 = .ok (.invokestatic 114, 3) := by decide +kernel
theorem dX4_unnoticed_51 : decode cX4_unnoticed 51 = .ok (.iaload, 1) := by decide +kernel
theorem dX4_unnoticed_52 : decode cX4_unnoticed 52 = .ok (.ifCond .ne 7, 3) := by decide +kernel
theorem dX4_unnoticed_55 : decode cX4_unnoticed 55 = .ok (.iconst 1, 1) := by decide +kernel
theorem dX4_unnoticed_56 : decode cX4_unnoticed 56 = .ok (.goto 4, 3) := by decide +kernel
theorem dX4_unnoticed_59 : decode cX4_unnoticed 59 = .ok (.iconst 0, 1) := by decide +kernel
theorem dX4_unnoticed_60 : decode cX4_unnoticed 60 = .ok (.istore_n 3, 1) := by decide +kernel
theorem dX4_unnoticed_61 : decode cX4_unnoticed 61 = .ok (.iinc 4 1, 3) := by decide +kernel
theorem dX4_unnoticed_64 : decode cX4_unnoticed 64 = .ok (.goto (-44), 3) := by decide +kernel
theorem dX4_unnoticed_67 : decode cX4_unnoticed 67 = .ok (.iload_n 1, 1) := by decide +kernel
theorem dX4_unnoticed_68 : decode cX4_unnoticed 68 = .ok (.iload_n 3, 1) := by decide +kernel
theorem dX4_unnoticed_69 : decode cX4_unnoticed 69 = .ok (.ifCond .eq 16, 3) := by decide +kernel
theorem dX4_unnoticed_72 : decode cX4_unnoticed 72 = .ok (.aload_n 0, 1) := by decide +kernel
theorem dX4_unnoticed_73 : decode cX4_unnoticed 73 = .ok (.getfield 56, 3) := by decide +kernel
theorem dX4_unnoticed_76 : decode cX4_unnoticed 76 = .ok (.iload_n 2, 1) := by decide +kernel
theorem dX4_unnoticed_77 : decode cX4_unnoticed 77 = .ok (.baload, 1) := by decide +kernel
theorem dX4_unnoticed_78 : decode cX4_unnoticed 78 = .ok (.ifCond .eq 7, 3) := by decide +kernel
theorem dX4_unnoticed_81 : decode cX4_unnoticed 81 = .ok (.iconst 1, 1) := by decide +kernel
theorem dX4_unnoticed_82 : decode cX4_unnoticed 82 = .ok (.goto 4, 3) := by decide +kernel
theorem dX4_unnoticed_85 : decode cX4_unnoticed 85 = .ok (.iconst 0, 1) := by decide +kernel
theorem dX4_unnoticed_86 : decode cX4_unnoticed 86 = .ok (.iadd, 1) := by decide +kernel
theorem dX4_unnoticed_87 : decode cX4_unnoticed 87 = .ok (.istore_n 1, 1) := by decide +kernel
theorem dX4_unnoticed_88 : decode cX4_unnoticed 88 = .ok (.iinc 2 1, 3) := by decide +kernel
theorem dX4_unnoticed_91 : decode cX4_unnoticed 91 = .ok (.goto (-82), 3) := by decide +kernel
theorem dX4_unnoticed_94 : decode cX4_unnoticed 94 = .ok (.iload_n 1, 1) := by decide +kernel
theorem dX4_unnoticed_95 : decode cX4_unnoticed 95 = .ok (.ireturn, 1) := by decide +kernel
theorem dX4_mistaken_0 : decode cX4_mistaken 0 = .ok (.aload_n 0, 1) := by decide +kernel
theorem dX4_mistaken_1 : decode cX4_mistaken 1 = .ok (.iconst 0, 1) := by decide +kernel
theorem dX4_mistaken_2 : decode cX4_mistaken 2 = .ok (.putfield 90, 3) := by decide +kernel
theorem dX4_mistaken_5 : decode cX4_mistaken 5 = .ok (.iconst 0, 1) := by decide +kernel
theorem dX4_mistaken_6 : decode cX4_mistaken 6 = .ok (.istore_n 1, 1) := by decide +kernel
theorem dX4_mistaken_7 : decode cX4_mistaken 7 = .ok (.iconst 0, 1) := by decide +kernel
theorem dX4_mistaken_8 : decode cX4_mistaken 8 = .ok (.istore_n 2, 1) := by decide +kernel
theorem dX4_mistaken_9 : decode cX4_mistaken 9 = .ok (.iload_n 2, 1) := by decide +kernel
theorem dX4_mistaken_10 : decode cX4_mistaken 10 = .ok (.bipush 64, 2) := by decide +kernel
theorem dX4_mistaken_12 : decode cX4_mistaken 12 = .ok (.if_icmp .ge 51, 3) := by decide +kernel
theorem dX4_mistaken_15 : decode cX4_mistaken 15 = .ok (.iload_n 1, 1) := by decide +kernel
theorem dX4_mistaken_16 : decode cX4_mistaken 16 = .ok (.aload_n 0, 1) := by decide +kernel
theorem dX4_mistaken_17 : decode cX4_mistaken 17 = .ok (.getfield 56, 3) := by decide +kernel
theorem dX4_mistaken_20 : decode cX4_mistaken 20 = .ok (.iload_n 2, 1) := by decide +kernel
theorem dX4_mistaken_21 : decode cX4_mistaken 21 = .ok (.bipush 8, 2) := by decide +kernel
theorem dX4_mistaken_23 : decode cX4_mistaken 23 = .ok (.idiv, 1) := by decide +kernel
theorem dX4_mistaken_24 : decode cX4_mistaken 24 = .ok (.baload, 1) := by decide +kernel
theorem dX4_mistaken_25 : decode cX4_mistaken 25 = .ok (.ifCond .ne 29, 3) := by decide +kernel
theorem dX4_mistaken_28 : decode cX4_mistaken 28 = .ok (.aload_n 0, 1) := by decide +kernel
theorem dX4_mistaken_29 : decode cX4_mistaken 29 = .ok (.getfield 56, 3) := by decide +kernel
theorem dX4_mistaken_32 : decode cX4_mistaken 32 = .ok (.iload_n 2, 1) := by decide +kernel
theorem dX4_mistaken_33 : decode cX4_mistaken 33 = .ok (.bipush 8, 2) := by decide +kernel
theorem dX4_mistaken_35 : decode cX4_mistaken 35 = .ok (.irem, 1) := by decide +kernel
theorem dX4_mistaken_36 : decode cX4_mistaken 36 = .ok (.baload, 1) := by decide +kernel
theorem dX4_mistaken_37 : decode cX4_mistaken 37 = .ok (.ifCond .ne 17, 3) := by decide +kernel
theorem dX4_mistaken_40 : decode cX4_mistaken 40 = .ok (.aload_n 0, 1) := by decide +kernel
theorem dX4_mistaken_41 : decode cX4_mistaken 41 = .ok (.getfield 80, 3) := by decide +kernel
theorem dX4_mistaken_44 : decode cX4_mistaken 44 = .ok (.iload_n 2, 1) := by decide +kernel
theorem dX4_mistaken_45 : decode cX4_mistaken 45 = .ok (.iaload, 1) := by decide +kernel
theorem dX4_mistaken_46 : decode cX4_mistaken 46 = .ok (.iconst 2, 1) := by decide +kernel
theorem dX4_mistaken_47 : decode cX4_mistaken 47 = .ok (.if_icmp .ne 7, 3) := by decide +kernel
theorem dX4_mistaken_50 : decode cX4_mistaken 50 = .ok (.iconst 1, 1) := by decide +kernel
theorem dX4_mistaken_51 : decode cX4_mistaken 51 = .ok (.goto 4, 3) := by decide +kernel
theorem dX4_mistaken_54 : decode cX4_mistaken 54 = .ok (.iconst 0, 1) := by decide +kernel
theorem dX4_mistaken_55 : decode cX4_mistaken 55 = .ok (.iadd, 1) := by decide +kernel
theorem dX4_mistaken_56 : decode cX4_mistaken 56 = .ok (.istore_n 1, 1) := by decide +kernel
theorem dX4_mistaken_57 : decode cX4_mistaken 57 = .ok (.iinc 2 1, 3) := by decide +kernel
theorem dX4_mistaken_60 : decode cX4_mistaken 60 = .ok (.goto (-51), 3) := by decide +kernel
theorem dX4_mistaken_63 : decode cX4_mistaken 63 = .ok (.iload_n 1, 1) := by decide +kernel
theorem dX4_mistaken_64 : decode cX4_mistaken 64 = .ok (.ireturn, 1) := by decide +kernel
theorem dX4_vain_0 : decode cX4_vain 0 = .ok (.aload_n 0, 1) := by decide +kernel
theorem dX4_vain_1 : decode cX4_vain 1 = .ok (.iconst 0, 1) := by decide +kernel
theorem dX4_vain_2 : decode cX4_vain 2 = .ok (.putfield 90, 3) := by decide +kernel
theorem dX4_vain_5 : decode cX4_vain 5 = .ok (.aload_n 0, 1) := by decide +kernel
theorem dX4_vain_6 : decode cX4_vain 6 = .ok (.getfield 137, 3) := by decide +kernel
theorem dX4_vain_9 : decode cX4_vain 9 = .ok (.ireturn, 1) := by decide +kernel
theorem dX4_falls_0 : decode cX4_falls 0 = .ok (.aload_n 0, 1) := by decide +kernel
theorem dX4_falls_1 : decode cX4_falls 1 = .ok (.getfield 16, 3) := by decide +kernel
theorem dX4_falls_4 : decode cX4_falls 4 = .ok (.iconst 0, 1) := by decide +kernel
theorem dX4_falls_5 : decode cX4_falls 5 = .ok (.dup2, 1) := by decide +kernel
theorem dX4_falls_6 : decode cX4_falls 6 = .ok (.iaload, 1) := by decide +kernel
theorem dX4_falls_7 : decode cX4_falls 7 = .ok (.aload_n 0, 1) := by decide +kernel
theorem dX4_falls_8 : decode cX4_falls 8 = .ok (.getfield 104, 3) := by decide +kernel
theorem dX4_falls_11 : decode cX4_falls 11 = .ok (.iadd, 1) := by decide +kernel
theorem dX4_falls_12 : decode cX4_falls 12 = .ok (.iastore, 1) := by decide +kernel
theorem dX4_falls_13 : decode cX4_falls 13 = .ok (.iconst 0, 1) := by decide +kernel
theorem dX4_falls_14 : decode cX4_falls 14 = .ok (.istore_n 1, 1) := by decide +kernel
theorem dX4_falls_15 : decode cX4_falls 15 = .ok (.iload_n 1, 1) := by decide +kernel
theorem dX4_falls_16 : decode cX4_falls 16 = .ok (.bipush 8, 2) := by decide +kernel
theorem dX4_falls_18 : decode cX4_falls 18 = .ok (.if_icmp .ge 31, 3) := by decide +kernel
theorem dX4_falls_21 : decode cX4_falls 21 = .ok (.aload_n 0, 1) := by decide +kernel
theorem dX4_falls_22 : decode cX4_falls 22 = .ok (.getfield 16, 3) := by decide +kernel
theorem dX4_falls_25 : decode cX4_falls 25 = .ok (.iload_n 1, 1) := by decide +kernel
theorem dX4_falls_26 : decode cX4_falls 26 = .ok (.dup2, 1) := by decide +kernel
theorem dX4_falls_27 : decode cX4_falls 27 = .ok (.iaload, 1) := by decide +kernel
theorem dX4_falls_28 : decode cX4_falls 28 = .ok (.aload_n 0, 1) := by decide +kernel
theorem dX4_falls_29 : decode cX4_falls 29 = .ok (.getfield 25, 3) := by decide +kernel
theorem dX4_falls_32 : decode cX4_falls 32 = .ok (.iload_n 1, 1) := by decide +kernel
theorem dX4_falls_33 : decode cX4_falls 33 = .ok (.iaload, 1) := by decide +kernel
theorem dX4_falls_34 : decode cX4_falls 34 = .ok (.iadd, 1) := by decide +kernel
theorem dX4_falls_35 : decode cX4_falls 35 = .ok (.iastore, 1) := by decide +kernel
theorem dX4_falls_36 : decode cX4_falls 36 = .ok (.aload_n 0, 1) := by decide +kernel
theorem dX4_falls_37 : decode cX4_falls 37 = .ok (.getfield 25, 3) := by decide +kernel
theorem dX4_falls_40 : decode cX4_falls 40 = .ok (.iload_n 1, 1) := by decide +kernel
theorem dX4_falls_41 : decode cX4_falls 41 = .ok (.iconst 0, 1) := by decide +kernel
theorem dX4_falls_42 : decode cX4_falls 42 = .ok (.iastore, 1) := by decide +kernel
theorem dX4_falls_43 : decode cX4_falls 43 = .ok (.iinc 1 1, 3) := by decide +kernel
theorem dX4_falls_46 : decode cX4_falls 46 = .ok (.goto (-31), 3) := by decide +kernel
theorem dX4_falls_49 : decode cX4_falls 49 = .ok (.return_, 1) := by decide +kernel
theorem dX4_flowsOn_0 : decode cX4_flowsOn 0 = .ok (.iconst 0, 1) := by decide +kernel
theorem dX4_flowsOn_1 : decode cX4_flowsOn 1 = .ok (.istore_n 1, 1) := by decide +kernel
theorem dX4_flowsOn_2 : decode cX4_flowsOn 2 = .ok (.iload_n 1, 1) := by decide +kernel
theorem dX4_flowsOn_3 : decode cX4_flowsOn 3 = .ok (.bipush 8, 2) := by decide +kernel
theorem dX4_flowsOn_5 : decode cX4_flowsOn 5 = .ok (.if_icmp .ge 49, 3) := by decide +kernel
theorem dX4_flowsOn_8 : decode cX4_flowsOn 8 = .ok (.aload_n 0, 1) := by decide +kernel
theorem dX4_flowsOn_9 : decode cX4_flowsOn 9 = .ok (.getfield 19, 3) := by decide +kernel
theorem dX4_flowsOn_12 : decode cX4_flowsOn 12 = .ok (.iload_n 1, 1) := by decide +kernel
theorem dX4_flowsOn_13 : decode cX4_flowsOn 13 = .ok (.iaload, 1) := by decide +kernel
theorem dX4_flowsOn_14 : decode cX4_flowsOn 14 = .ok (.aload_n 0, 1) := by decide +kernel
theorem dX4_flowsOn_15 : decode cX4_flowsOn 15 = .ok (.getfield 22, 3) := by decide +kernel
theorem dX4_flowsOn_18 : decode cX4_flowsOn 18 = .ok (.iload_n 1, 1) := by decide +kernel
theorem dX4_flowsOn_19 : decode cX4_flowsOn 19 = .ok (.iaload, 1) := by decide +kernel
theorem dX4_flowsOn_20 : decode cX4_flowsOn 20 = .ok (.imul, 1) := by decide +kernel
theorem dX4_flowsOn_21 : decode cX4_flowsOn 21 = .ok (.istore_n 2, 1) := by decide +kernel
theorem dX4_flowsOn_22 : decode cX4_flowsOn 22 = .ok (.aload_n 0, 1) := by decide +kernel
theorem dX4_flowsOn_23 : decode cX4_flowsOn 23 = .ok (.getfield 28, 3) := by decide +kernel
theorem dX4_flowsOn_26 : decode cX4_flowsOn 26 = .ok (.iload_n 1, 1) := by decide +kernel
theorem dX4_flowsOn_27 : decode cX4_flowsOn 27 = .ok (.iload_n 2, 1) := by decide +kernel
theorem dX4_flowsOn_28 : decode cX4_flowsOn 28 = .ok (.aload_n 0, 1) := by decide +kernel
theorem dX4_flowsOn_29 : decode cX4_flowsOn 29 = .ok (.getfield 16, 3) := by decide +kernel
theorem dX4_flowsOn_32 : decode cX4_flowsOn 32 = .ok (.iload_n 1, 1) := by decide +kernel
theorem dX4_flowsOn_33 : decode cX4_flowsOn 33 = .ok (.iaload, 1) := by decide +kernel
theorem dX4_flowsOn_34 : decode cX4_flowsOn 34 = .ok (.if_icmp .ge 7, 3) := by decide +kernel
theorem dX4_flowsOn_37 : decode cX4_flowsOn 37 = .ok (.iload_n 2, 1) := by decide +kernel
theorem dX4_flowsOn_38 : decode cX4_flowsOn 38 = .ok (.goto 9, 3) := by decide +kernel
theorem dX4_flowsOn_41 : decode cX4_flowsOn 41 = .ok (.aload_n 0, 1) := by decide +kernel
theorem dX4_flowsOn_42 : decode cX4_flowsOn 42 = .ok (.getfield 16, 3) := by decide +kernel
theorem dX4_flowsOn_45 : decode cX4_flowsOn 45 = .ok (.iload_n 1, 1) := by decide +kernel
theorem dX4_flowsOn_46 : decode cX4_flowsOn 46 = .ok (.iaload, 1) := by decide +kernel
theorem dX4_flowsOn_47 : decode cX4_flowsOn 47 = .ok (.iastore, 1) := by decide +kernel
theorem dX4_flowsOn_48 : decode cX4_flowsOn 48 = .ok (.iinc 1 1, 3) := by decide +kernel
theorem dX4_flowsOn_51 : decode cX4_flowsOn 51 = .ok (.goto (-49), 3) := by decide +kernel
theorem dX4_flowsOn_54 : decode cX4_flowsOn 54 = .ok (.iconst 0, 1) := by decide +kernel
theorem dX4_flowsOn_55 : decode cX4_flowsOn 55 = .ok (.istore_n 1, 1) := by decide +kernel
theorem dX4_flowsOn_56 : decode cX4_flowsOn 56 = .ok (.iload_n 1, 1) := by decide +kernel
theorem dX4_flowsOn_57 : decode cX4_flowsOn 57 = .ok (.bipush 8, 2) := by decide +kernel
theorem dX4_flowsOn_59 : decode cX4_flowsOn 59 = .ok (.if_icmp .ge 56, 3) := by decide +kernel
theorem dX4_flowsOn_62 : decode cX4_flowsOn 62 = .ok (.aload_n 0, 1) := by decide +kernel
theorem dX4_flowsOn_63 : decode cX4_flowsOn 63 = .ok (.getfield 16, 3) := by decide +kernel
theorem dX4_flowsOn_66 : decode cX4_flowsOn 66 = .ok (.iload_n 1, 1) := by decide +kernel
theorem dX4_flowsOn_67 : decode cX4_flowsOn 67 = .ok (.dup2, 1) := by decide +kernel
theorem dX4_flowsOn_68 : decode cX4_flowsOn 68 = .ok (.iaload, 1) := by decide +kernel
theorem dX4_flowsOn_69 : decode cX4_flowsOn 69 = .ok (.iload_n 1, 1) := by decide +kernel
theorem dX4_flowsOn_70 : decode cX4_flowsOn 70 = .ok (.ifCond .ne 7, 3) := by decide +kernel
theorem dX4_flowsOn_73 : decode cX4_flowsOn 73 = .ok (.iconst 0, 1) := by decide +kernel
theorem dX4_flowsOn_74 : decode cX4_flowsOn 74 = .ok (.goto 11, 3) := by decide +kernel
theorem dX4_flowsOn_77 : decode cX4_flowsOn 77 = .ok (.aload_n 0, 1) := by decide +kernel
theorem dX4_flowsOn_78 : decode cX4_flowsOn 78 = .ok (.getfield 28, 3) := by decide +kernel
theorem dX4_flowsOn_81 : decode cX4_flowsOn 81 = .ok (.iload_n 1, 1) := by decide +kernel
theorem dX4_flowsOn_82 : decode cX4_flowsOn 82 = .ok (.iconst 1, 1) := by decide +kernel
theorem dX4_flowsOn_83 : decode cX4_flowsOn 83 = .ok (.isub, 1) := by decide +kernel
theorem dX4_flowsOn_84 : decode cX4_flowsOn 84 = .ok (.iaload, 1) := by decide +kernel
theorem dX4_flowsOn_85 : decode cX4_flowsOn 85 = .ok (.aload_n 0, 1) := by decide +kernel
theorem dX4_flowsOn_86 : decode cX4_flowsOn 86 = .ok (.getfield 28, 3) := by decide +kernel
theorem dX4_flowsOn_89 : decode cX4_flowsOn 89 = .ok (.iload_n 1, 1) := by decide +kernel
theorem dX4_flowsOn_90 : decode cX4_flowsOn 90 = .ok (.iaload, 1) := by decide +kernel
theorem dX4_flowsOn_91 : decode cX4_flowsOn 91 = .ok (.isub, 1) := by decide +kernel
theorem dX4_flowsOn_92 : decode cX4_flowsOn 92 = .ok (.iadd, 1) := by decide +kernel
theorem dX4_flowsOn_93 : decode cX4_flowsOn 93 = .ok (.iastore, 1) := by decide +kernel
theorem dX4_flowsOn_94 : decode cX4_flowsOn 94 = .ok (.aload_n 0, 1) := by decide +kernel
theorem dX4_flowsOn_95 : decode cX4_flowsOn 95 = .ok (.getfield 31, 3) := by decide +kernel
theorem dX4_flowsOn_98 : decode cX4_flowsOn 98 = .ok (.iload_n 1, 1) := by decide +kernel
theorem dX4_flowsOn_99 : decode cX4_flowsOn 99 = .ok (.dup2, 1) := by decide +kernel
theorem dX4_flowsOn_100 : decode cX4_flowsOn 100 = .ok (.iaload, 1) := by decide +kernel
theorem dX4_flowsOn_101 : decode cX4_flowsOn 101 = .ok (.aload_n 0, 1) := by decide +kernel
theorem dX4_flowsOn_102 : decode cX4_flowsOn 102 = .ok (.getfield 28, 3) := by decide +kernel
theorem dX4_flowsOn_105 : decode cX4_flowsOn 105 = .ok (.iload_n 1, 1) := by decide +kernel
theorem dX4_flowsOn_106 : decode cX4_flowsOn 106 = .ok (.iaload, 1) := by decide +kernel
theorem dX4_flowsOn_107 : decode cX4_flowsOn 107 = .ok (.iadd, 1) := by decide +kernel
theorem dX4_flowsOn_108 : decode cX4_flowsOn 108 = .ok (.iastore, 1) := by decide +kernel
theorem dX4_flowsOn_109 : decode cX4_flowsOn 109 = .ok (.iinc 1 1, 3) := by decide +kernel
theorem dX4_flowsOn_112 : decode cX4_flowsOn 112 = .ok (.goto (-56), 3) := by decide +kernel
theorem dX4_flowsOn_115 : decode cX4_flowsOn 115 = .ok (.return_, 1) := by decide +kernel
theorem dX4_spills_0 : decode cX4_spills 0 = .ok (.iconst 0, 1) := by decide +kernel
theorem dX4_spills_1 : decode cX4_spills 1 = .ok (.istore_n 1, 1) := by decide +kernel
theorem dX4_spills_2 : decode cX4_spills 2 = .ok (.iconst 0, 1) := by decide +kernel
theorem dX4_spills_3 : decode cX4_spills 3 = .ok (.istore_n 2, 1) := by decide +kernel
theorem dX4_spills_4 : decode cX4_spills 4 = .ok (.iload_n 2, 1) := by decide +kernel
theorem dX4_spills_5 : decode cX4_spills 5 = .ok (.bipush 8, 2) := by decide +kernel
theorem dX4_spills_7 : decode cX4_spills 7 = .ok (.if_icmp .ge 93, 3) := by decide +kernel
theorem dX4_spills_10 : decode cX4_spills 10 = .ok (.aload_n 0, 1) := by decide +kernel
theorem dX4_spills_11 : decode cX4_spills 11 = .ok (.getfield 7, 3) := by decide +kernel
theorem dX4_spills_14 : decode cX4_spills 14 = .ok (.iload_n 2, 1) := by decide +kernel
theorem dX4_spills_15 : decode cX4_spills 15 = .ok (.iaload, 1) := by decide +kernel
theorem dX4_spills_16 : decode cX4_spills 16 = .ok (.aload_n 0, 1) := by decide +kernel
theorem dX4_spills_17 : decode cX4_spills 17 = .ok (.getfield 13, 3) := by decide +kernel
theorem dX4_spills_20 : decode cX4_spills 20 = .ok (.iload_n 2, 1) := by decide +kernel
theorem dX4_spills_21 : decode cX4_spills 21 = .ok (.iaload, 1) := by decide +kernel
theorem dX4_spills_22 : decode cX4_spills 22 = .ok (.imul, 1) := by decide +kernel
theorem dX4_spills_23 : decode cX4_spills 23 = .ok (.istore_n 3, 1) := by decide +kernel
theorem dX4_spills_24 : decode cX4_spills 24 = .ok (.aload_n 0, 1) := by decide +kernel
theorem dX4_spills_25 : decode cX4_spills 25 = .ok (.getfield 16, 3) := by decide +kernel
theorem dX4_spills_28 : decode cX4_spills 28 = .ok (.iload_n 2, 1) := by decide +kernel
theorem dX4_spills_29 : decode cX4_spills 29 = .ok (.iaload, 1) := by decide +kernel
theorem dX4_spills_30 : decode cX4_spills 30 = .ok (.iload_n 3, 1) := by decide +kernel
theorem dX4_spills_31 : decode cX4_spills 31 = .ok (.if_icmp .le 14, 3) := by decide +kernel
theorem dX4_spills_34 : decode cX4_spills 34 = .ok (.aload_n 0, 1) := by decide +kernel
theorem dX4_spills_35 : decode cX4_spills 35 = .ok (.getfield 16, 3) := by decide +kernel
theorem dX4_spills_38 : decode cX4_spills 38 = .ok (.iload_n 2, 1) := by decide +kernel
theorem dX4_spills_39 : decode cX4_spills 39 = .ok (.iaload, 1) := by decide +kernel
theorem dX4_spills_40 : decode cX4_spills 40 = .ok (.iload_n 3, 1) := by decide +kernel
theorem dX4_spills_41 : decode cX4_spills 41 = .ok (.isub, 1) := by decide +kernel
theorem dX4_spills_42 : decode cX4_spills 42 = .ok (.goto 4, 3) := by decide +kernel
theorem dX4_spills_45 : decode cX4_spills 45 = .ok (.iconst 0, 1) := by decide +kernel
theorem dX4_spills_46 : decode cX4_spills 46 = .ok (.istore 4, 2) := by decide +kernel
theorem dX4_spills_48 : decode cX4_spills 48 = .ok (.aload_n 0, 1) := by decide +kernel
theorem dX4_spills_49 : decode cX4_spills 49 = .ok (.getfield 16, 3) := by decide +kernel
theorem dX4_spills_52 : decode cX4_spills 52 = .ok (.iload_n 2, 1) := by decide +kernel
theorem dX4_spills_53 : decode cX4_spills 53 = .ok (.dup2, 1) := by decide +kernel
theorem dX4_spills_54 : decode cX4_spills 54 = .ok (.iaload, 1) := by decide +kernel
theorem dX4_spills_55 : decode cX4_spills 55 = .ok (.iload 4, 2) := by decide +kernel
theorem dX4_spills_57 : decode cX4_spills 57 = .ok (.isub, 1) := by decide +kernel
theorem dX4_spills_58 : decode cX4_spills 58 = .ok (.iastore, 1) := by decide +kernel
theorem dX4_spills_59 : decode cX4_spills 59 = .ok (.aload_n 0, 1) := by decide +kernel
theorem dX4_spills_60 : decode cX4_spills 60 = .ok (.getfield 34, 3) := by decide +kernel
theorem dX4_spills_63 : decode cX4_spills 63 = .ok (.iload_n 2, 1) := by decide +kernel
theorem dX4_spills_64 : decode cX4_spills 64 = .ok (.dup2, 1) := by decide +kernel
theorem dX4_spills_65 : decode cX4_spills 65 = .ok (.iaload, 1) := by decide +kernel
theorem dX4_spills_66 : decode cX4_spills 66 = .ok (.iload 4, 2) := by decide +kernel
theorem dX4_spills_68 : decode cX4_spills 68 = .ok (.iadd, 1) := by decide +kernel
theorem dX4_spills_69 : decode cX4_spills 69 = .ok (.iastore, 1) := by decide +kernel
theorem dX4_spills_70 : decode cX4_spills 70 = .ok (.iload_n 1, 1) := by decide +kernel
theorem dX4_spills_71 : decode cX4_spills 71 = .ok (.iload 4, 2) := by decide +kernel
theorem dX4_spills_73 : decode cX4_spills 73 = .ok (.iadd, 1) := by decide +kernel
theorem dX4_spills_74 : decode cX4_spills 74 = .ok (.istore_n 1, 1) := by decide +kernel
theorem dX4_spills_75 : decode cX4_spills 75 = .ok (.iload_n 2, 1) := by decide +kernel
theorem dX4_spills_76 : decode cX4_spills 76 = .ok (.bipush 7, 2) := by decide +kernel
theorem dX4_spills_78 : decode cX4_spills 78 = .ok (.if_icmp .ge 16, 3) := by decide +kernel
theorem dX4_spills_81 : decode cX4_spills 81 = .ok (.aload_n 0, 1) := by decide +kernel
theorem dX4_spills_82 : decode cX4_spills 82 = .ok (.getfield 16, 3) := by decide +kernel
theorem dX4_spills_85 : decode cX4_spills 85 = .ok (.iload_n 2, 1) := by decide +kernel
theorem dX4_spills_86 : decode cX4_spills 86 = .ok (.iconst 1, 1) := by decide +kernel
theorem dX4_spills_87 : decode cX4_spills 87 = .ok (.iadd, 1) := by decide +kernel
theorem dX4_spills_88 : decode cX4_spills 88 = .ok (.dup2, 1) := by decide +kernel
theorem dX4_spills_89 : decode cX4_spills 89 = .ok (.iaload, 1) := by decide +kernel
theorem dX4_spills_90 : decode cX4_spills 90 = .ok (.iload 4, 2) := by decide +kernel
theorem dX4_spills_92 : decode cX4_spills 92 = .ok (.iadd, 1) := by decide +kernel
theorem dX4_spills_93 : decode cX4_spills 93 = .ok (.iastore, 1) := by decide +kernel
theorem dX4_spills_94 : decode cX4_spills 94 = .ok (.iinc 2 1, 3) := by decide +kernel
theorem dX4_spills_97 : decode cX4_spills 97 = .ok (.goto (-93), 3) := by decide +kernel
theorem dX4_spills_100 : decode cX4_spills 100 = .ok (.iload_n 1, 1) := by decide +kernel
theorem dX4_spills_101 : decode cX4_spills 101 = .ok (.ireturn, 1) := by decide +kernel
set_option maxRecDepth 20000 in
theorem ggX4_measures_X4_at : GoodIn wsX4_measures wsX4_at := goodIn_r _ [12] (by decide +kernel) (by decide +kernel)
set_option maxRecDepth 20000 in
theorem gX4_measures_X4_at : GoodIn wsX4_measures (va_wsS RX4 114 yX4_at wsX4_at) := goodIn_app (goodIn_of _ (by decide +kernel)) ggX4_measures_X4_at
set_option maxRecDepth 20000 in
theorem ggX4_measures_X4_levelOf : GoodIn wsX4_measures wsX4_levelOf := goodIn_r _ [16, 17, 18, 19, 20, 21, 22, 23, 24, 25, 26, 27, 28, 29, 30, 31, 32, 33, 34, 35, 36, 37, 38, 39, 40, 41, 42, 43, 44, 45, 46, 47, 48] (by decide +kernel) (by decide +kernel)
set_option maxRecDepth 20000 in
theorem gX4_measures_X4_levelOf : GoodIn wsX4_measures (wsV RX4 110 RX4 yX4_levelOf wsX4_levelOf) := goodIn_app (goodIn_of _ (by decide +kernel)) ggX4_measures_X4_levelOf
theorem dX4_measures_0 : decode cX4_measures 0 = .ok (.iconst 0, 1) := by decide +kernel
theorem dX4_measures_1 : decode cX4_measures 1 = .ok (.istore_n 1, 1) := by decide +kernel
theorem dX4_measures_2 : decode cX4_measures 2 = .ok (.iload_n 1, 1) := by decide +kernel
theorem dX4_measures_3 : decode cX4_measures 3 = .ok (.bipush 8, 2) := by decide +kernel
theorem dX4_measures_5 : decode cX4_measures 5 = .ok (.if_icmp .ge 93, 3) := by decide +kernel
theorem dX4_measures_8 : decode cX4_measures 8 = .ok (.aload_n 0, 1) := by decide +kernel
theorem dX4_measures_9 : decode cX4_measures 9 = .ok (.getfield 56, 3) := by decide +kernel
theorem dX4_measures_12 : decode cX4_measures 12 = .ok (.iload_n 1, 1) := by decide +kernel
theorem dX4_measures_13 : decode cX4_measures 13 = .ok (.baload, 1) := by decide +kernel
theorem dX4_measures_14 : decode cX4_measures 14 = .ok (.ifCond .ne 78, 3) := by decide +kernel
theorem dX4_measures_17 : decode cX4_measures 17 = .ok (.iload_n 1, 1) := by decide +kernel
theorem dX4_measures_18 : decode cX4_measures 18 = .ok (.iload_n 1, 1) := by decide +kernel
theorem dX4_measures_19 : decode cX4_measures 19 = .ok (.invokestatic 114, 3) := by decide +kernel
theorem dX4_measures_22 : decode cX4_measures 22 = .ok (.istore_n 2, 1) := by decide +kernel
theorem dX4_measures_23 : decode cX4_measures 23 = .ok (.aload_n 0, 1) := by decide +kernel
theorem dX4_measures_24 : decode cX4_measures 24 = .ok (.getfield 68, 3) := by decide +kernel
theorem dX4_measures_27 : decode cX4_measures 27 = .ok (.iload_n 2, 1) := by decide +kernel
theorem dX4_measures_28 : decode cX4_measures 28 = .ok (.aload_n 0, 1) := by decide +kernel
theorem dX4_measures_29 : decode cX4_measures 29 = .ok (.getfield 62, 3) := by decide +kernel
theorem dX4_measures_32 : decode cX4_measures 32 = .ok (.iload_n 1, 1) := by decide +kernel
theorem dX4_measures_33 : decode cX4_measures 33 = .ok (.baload, 1) := by decide +kernel
theorem dX4_measures_34 : decode cX4_measures 34 = .ok (.ifCond .eq 12, 3) := by decide +kernel
theorem dX4_measures_37 : decode cX4_measures 37 = .ok (.aload_n 0, 1) := by decide +kernel
theorem dX4_measures_38 : decode cX4_measures 38 = .ok (.getfield 68, 3) := by decide +kernel
theorem dX4_measures_41 : decode cX4_measures 41 = .ok (.iload_n 2, 1) := by decide +kernel
theorem dX4_measures_42 : decode cX4_measures 42 = .ok (.iaload, 1) := by decide +kernel
theorem dX4_measures_43 : decode cX4_measures 43 = .ok (.goto 8, 3) := by decide +kernel
theorem dX4_measures_46 : decode cX4_measures 46 = .ok (.aload_n 0, 1) := by decide +kernel
theorem dX4_measures_47 : decode cX4_measures 47 = .ok (.iload_n 1, 1) := by decide +kernel
theorem dX4_measures_48 : decode cX4_measures 48 = .ok (.invokevirtual 110, 3) := by decide +kernel
theorem dX4_measures_51 : decode cX4_measures 51 = .ok (.iastore, 1) := by decide +kernel
theorem dX4_measures_52 : decode cX4_measures 52 = .ok (.aload_n 0, 1) := by decide +kernel
theorem dX4_measures_53 : decode cX4_measures 53 = .ok (.getfield 65, 3) := by decide +kernel
theorem dX4_measures_56 : decode cX4_measures 56 = .ok (.iload_n 2, 1) := by decide +kernel
theorem dX4_measures_57 : decode cX4_measures 57 = .ok (.dup2, 1) := by decide +kernel
theorem dX4_measures_58 : decode cX4_measures 58 = .ok (.iaload, 1) := by decide +kernel
theorem dX4_measures_59 : decode cX4_measures 59 = .ok (.iconst 1, 1) := by decide +kernel
theorem dX4_measures_60 : decode cX4_measures 60 = .ok (.iadd, 1) := by decide +kernel
theorem dX4_measures_61 : decode cX4_measures 61 = .ok (.iastore, 1) := by decide +kernel
theorem dX4_measures_62 : decode cX4_measures 62 = .ok (.aload_n 0, 1) := by decide +kernel
theorem dX4_measures_63 : decode cX4_measures 63 = .ok (.getfield 71, 3) := by decide +kernel
theorem dX4_measures_66 : decode cX4_measures 66 = .ok (.iload_n 2, 1) := by decide +kernel
theorem dX4_measures_67 : decode cX4_measures 67 = .ok (.aload_n 0, 1) := by decide +kernel
theorem dX4_measures_68 : decode cX4_measures 68 = .ok (.getfield 118, 3) := by decide +kernel
theorem dX4_measures_71 : decode cX4_measures 71 = .ok (.iastore, 1) := by decide +kernel
theorem dX4_measures_72 : decode cX4_measures 72 = .ok (.aload_n 0, 1) := by decide +kernel
theorem dX4_measures_73 : decode cX4_measures 73 = .ok (.getfield 74, 3) := by decide +kernel
theorem dX4_measures_76 : decode cX4_measures 76 = .ok (.iload_n 2, 1) := by decide +kernel
theorem dX4_measures_77 : decode cX4_measures 77 = .ok (.dup2, 1) := by decide +kernel
theorem dX4_measures_78 : decode cX4_measures 78 = .ok (.iaload, 1) := by decide +kernel
theorem dX4_measures_79 : decode cX4_measures 79 = .ok (.iconst 1, 1) := by decide +kernel
theorem dX4_measures_80 : decode cX4_measures 80 = .ok (.iadd, 1) := by decide +kernel
theorem dX4_measures_81 : decode cX4_measures 81 = .ok (.iastore, 1) := by decide +kernel
theorem dX4_measures_82 : decode cX4_measures 82 = .ok (.aload_n 0, 1) := by decide +kernel
theorem dX4_measures_83 : decode cX4_measures 83 = .ok (.getfield 77, 3) := by decide +kernel
theorem dX4_measures_86 : decode cX4_measures 86 = .ok (.iload_n 2, 1) := by decide +kernel
theorem dX4_measures_87 : decode cX4_measures 87 = .ok (.aload_n 0, 1) := by decide +kernel
theorem dX4_measures_88 : decode cX4_measures 88 = .ok (.getfield 118, 3) := by decide +kernel
theorem dX4_measures_91 : decode cX4_measures 91 = .ok (.iastore, 1) := by decide +kernel
theorem dX4_measures_92 : decode cX4_measures 92 = .ok (.iinc 1 1, 3) := by decide +kernel
theorem dX4_measures_95 : decode cX4_measures 95 = .ok (.goto (-93), 3) := by decide +kernel
theorem dX4_measures_98 : decode cX4_measures 98 = .ok (.return_, 1) := by decide +kernel
set_option maxRecDepth 20000 in
theorem ggX4_takes_X4_at : GoodIn wsX4_takes wsX4_at := goodIn_r _ [11] (by decide +kernel) (by decide +kernel)
set_option maxRecDepth 20000 in
theorem gX4_takes_X4_at : GoodIn wsX4_takes (va_wsS RX4 114 yX4_at wsX4_at) := goodIn_app (goodIn_of _ (by decide +kernel)) ggX4_takes_X4_at
theorem dX4_takes_0 : decode cX4_takes 0 = .ok (.iconst 0, 1) := by decide +kernel
theorem dX4_takes_1 : decode cX4_takes 1 = .ok (.istore_n 3, 1) := by decide +kernel
theorem dX4_takes_2 : decode cX4_takes 2 = .ok (.iload_n 3, 1) := by decide +kernel
theorem dX4_takes_3 : decode cX4_takes 3 = .ok (.bipush 8, 2) := by decide +kernel
theorem dX4_takes_5 : decode cX4_takes 5 = .ok (.if_icmp .ge 132, 3) := by decide +kernel
theorem dX4_takes_8 : decode cX4_takes 8 = .ok (.iload_n 1, 1) := by decide +kernel
theorem dX4_takes_9 : decode cX4_takes 9 = .ok (.iload_n 3, 1) := by decide +kernel
theorem dX4_takes_10 : decode cX4_takes 10 = .ok (.invokestatic 114, 3) := by decide +kernel
theorem dX4_takes_13 : decode cX4_takes 13 = .ok (.istore 4, 2) := by decide +kernel
theorem dX4_takes_15 : decode cX4_takes 15 = .ok (.iload_n 2, 1) := by decide +kernel
theorem dX4_takes_16 : decode cX4_takes 16 = .ok (.iload_n 3, 1) := by decide +kernel
theorem dX4_takes_17 : decode cX4_takes 17 = .ok (.invokestatic 114, 3) := by decide +kernel
theorem dX4_takes_20 : decode cX4_takes 20 = .ok (.istore 5, 2) := by decide +kernel
theorem dX4_takes_22 : decode cX4_takes 22 = .ok (.aload_n 0, 1) := by decide +kernel
theorem dX4_takes_23 : decode cX4_takes 23 = .ok (.getfield 65, 3) := by decide +kernel
theorem dX4_takes_26 : decode cX4_takes 26 = .ok (.iload 4, 2) := by decide +kernel
theorem dX4_takes_28 : decode cX4_takes 28 = .ok (.iaload, 1) := by decide +kernel
theorem dX4_takes_29 : decode cX4_takes 29 = .ok (.aload_n 0, 1) := by decide +kernel
theorem dX4_takes_30 : decode cX4_takes 30 = .ok (.getfield 65, 3) := by decide +kernel
theorem dX4_takes_33 : decode cX4_takes 33 = .ok (.iload 5, 2) := by decide +kernel
theorem dX4_takes_35 : decode cX4_takes 35 = .ok (.iaload, 1) := by decide +kernel
theorem dX4_takes_36 : decode cX4_takes 36 = .ok (.if_icmp .ge 45, 3) := by decide +kernel
theorem dX4_takes_39 : decode cX4_takes 39 = .ok (.aload_n 0, 1) := by decide +kernel
theorem dX4_takes_40 : decode cX4_takes 40 = .ok (.getfield 65, 3) := by decide +kernel
theorem dX4_takes_43 : decode cX4_takes 43 = .ok (.iload 4, 2) := by decide +kernel
theorem dX4_takes_45 : decode cX4_takes 45 = .ok (.aload_n 0, 1) := by decide +kernel
theorem dX4_takes_46 : decode cX4_takes 46 = .ok (.getfield 65, 3) := by decide +kernel
theorem dX4_takes_49 : decode cX4_takes 49 = .ok (.iload 5, 2) := by decide +kernel
theorem dX4_takes_51 : decode cX4_takes 51 = .ok (.iaload, 1) := by decide +kernel
theorem dX4_takes_52 : decode cX4_takes 52 = .ok (.iastore, 1) := by decide +kernel
theorem dX4_takes_53 : decode cX4_takes 53 = .ok (.aload_n 0, 1) := by decide +kernel
theorem dX4_takes_54 : decode cX4_takes 54 = .ok (.getfield 68, 3) := by decide +kernel
theorem dX4_takes_57 : decode cX4_takes 57 = .ok (.iload 4, 2) := by decide +kernel
theorem dX4_takes_59 : decode cX4_takes 59 = .ok (.aload_n 0, 1) := by decide +kernel
theorem dX4_takes_60 : decode cX4_takes 60 = .ok (.getfield 68, 3) := by decide +kernel
theorem dX4_takes_63 : decode cX4_takes 63 = .ok (.iload 5, 2) := by decide +kernel
theorem dX4_takes_65 : decode cX4_takes 65 = .ok (.iaload, 1) := by decide +kernel
theorem dX4_takes_66 : decode cX4_takes 66 = .ok (.iastore, 1) := by decide +kernel
theorem dX4_takes_67 : decode cX4_takes 67 = .ok (.aload_n 0, 1) := by decide +kernel
theorem dX4_takes_68 : decode cX4_takes 68 = .ok (.getfield 71, 3) := by decide +kernel
theorem dX4_takes_71 : decode cX4_takes 71 = .ok (.iload 4, 2) := by decide +kernel
theorem dX4_takes_73 : decode cX4_takes 73 = .ok (.aload_n 0, 1) := by decide +kernel
theorem dX4_takes_74 : decode cX4_takes 74 = .ok (.getfield 71, 3) := by decide +kernel
theorem dX4_takes_77 : decode cX4_takes 77 = .ok (.iload 5, 2) := by decide +kernel
theorem dX4_takes_79 : decode cX4_takes 79 = .ok (.iaload, 1) := by decide +kernel
theorem dX4_takes_80 : decode cX4_takes 80 = .ok (.iastore, 1) := by decide +kernel
theorem dX4_takes_81 : decode cX4_takes 81 = .ok (.aload_n 0, 1) := by decide +kernel
theorem dX4_takes_82 : decode cX4_takes 82 = .ok (.getfield 74, 3) := by decide +kernel
theorem dX4_takes_85 : decode cX4_takes 85 = .ok (.iload 4, 2) := by decide +kernel
theorem dX4_takes_87 : decode cX4_takes 87 = .ok (.iaload, 1) := by decide +kernel
theorem dX4_takes_88 : decode cX4_takes 88 = .ok (.aload_n 0, 1) := by decide +kernel
theorem dX4_takes_89 : decode cX4_takes 89 = .ok (.getfield 74, 3) := by decide +kernel
theorem dX4_takes_92 : decode cX4_takes 92 = .ok (.iload 5, 2) := by decide +kernel
theorem dX4_takes_94 : decode cX4_takes 94 = .ok (.iaload, 1) := by decide +kernel
theorem dX4_takes_95 : decode cX4_takes 95 = .ok (.if_icmp .ge 36, 3) := by decide +kernel
theorem dX4_takes_98 : decode cX4_takes 98 = .ok (.aload_n 0, 1) := by decide +kernel
theorem dX4_takes_99 : decode cX4_takes 99 = .ok (.getfield 74, 3) := by decide +kernel
theorem dX4_takes_102 : decode cX4_takes 102 = .ok (.iload 4, 2) := by decide +kernel
theorem dX4_takes_104 : decode cX4_takes 104 = .ok (.aload_n 0, 1) := by decide +kernel
theorem dX4_takes_105 : decode cX4_takes 105 = .ok (.getfield 74, 3) := by decide +kernel
theorem dX4_takes_108 : decode cX4_takes 108 = .ok (.iload 5, 2) := by decide +kernel
theorem dX4_takes_110 : decode cX4_takes 110 = .ok (.iaload, 1) := by decide +kernel
theorem dX4_takes_111 : decode cX4_takes 111 = .ok (.iastore, 1) := by decide +kernel
theorem dX4_takes_112 : decode cX4_takes 112 = .ok (.aload_n 0, 1) := by decide +kernel
theorem dX4_takes_113 : decode cX4_takes 113 = .ok (.getfield 77, 3) := by decide +kernel
theorem dX4_takes_116 : decode cX4_takes 116 = .ok (.iload 4, 2) := by decide +kernel
theorem dX4_takes_118 : decode cX4_takes 118 = .ok (.aload_n 0, 1) := by decide +kernel
theorem dX4_takes_119 : decode cX4_takes 119 = .ok (.getfield 118, 3) := by decide +kernel
theorem dX4_takes_122 : decode cX4_takes 122 = .ok (.iastore, 1) := by decide +kernel
theorem dX4_takes_123 : decode cX4_takes 123 = .ok (.aload_n 0, 1) := by decide +kernel
theorem dX4_takes_124 : decode cX4_takes 124 = .ok (.getfield 80, 3) := by decide +kernel
theorem dX4_takes_127 : decode cX4_takes 127 = .ok (.iload 4, 2) := by decide +kernel
theorem dX4_takes_129 : decode cX4_takes 129 = .ok (.iconst 0, 1) := by decide +kernel
theorem dX4_takes_130 : decode cX4_takes 130 = .ok (.iastore, 1) := by decide +kernel
theorem dX4_takes_131 : decode cX4_takes 131 = .ok (.iinc 3 1, 3) := by decide +kernel
theorem dX4_takes_134 : decode cX4_takes 134 = .ok (.goto (-132), 3) := by decide +kernel
theorem dX4_takes_137 : decode cX4_takes 137 = .ok (.return_, 1) := by decide +kernel
set_option maxRecDepth 20000 in
theorem ggX4_calls_X4_called : GoodIn wsX4_calls wsX4_called := goodIn_r _ [9, 10, 11, 12, 8, 13, 14, 15, 16, 17, 27, 28, 29, 30, 31, 32, 33, 34, 35, 36, 37, 38, 39, 40, 41, 42, 43, 44, 45, 46, 47, 48, 49, 50, 51, 52, 53, 54, 55, 56] (by decide +kernel) (by decide +kernel)
set_option maxRecDepth 20000 in
theorem gX4_calls_X4_called : GoodIn wsX4_calls (wsV RX4 134 RX4 yX4_called wsX4_called) := goodIn_app (goodIn_of _ (by decide +kernel)) ggX4_calls_X4_called
set_option maxRecDepth 20000 in
theorem ggX4_calls_X4_takes : GoodIn wsX4_calls wsX4_takes := goodIn_r _ [21, 22, 23, 24, 25, 26, 2, 14, 15, 16, 8, 17, 27, 28, 29, 30, 31, 32, 33, 34, 35, 36, 37, 38, 39, 40, 41, 42, 43, 44, 45, 46, 47, 48, 49, 50, 51, 52, 53, 54, 55, 56] (by decide +kernel) (by decide +kernel)
set_option maxRecDepth 20000 in
theorem gX4_calls_X4_takes : GoodIn wsX4_calls (wsV RX4 140 RX4 yX4_takes wsX4_takes) := goodIn_app (goodIn_of _ (by decide +kernel)) ggX4_calls_X4_takes
theorem dX4_calls_0 : decode cX4_calls 0 = .ok (.iconst 0, 1) := by decide +kernel
theorem dX4_calls_1 : decode cX4_calls 1 = .ok (.istore_n 1, 1) := by decide +kernel
theorem dX4_calls_2 : decode cX4_calls 2 = .ok (.iload_n 1, 1) := by decide +kernel
theorem dX4_calls_3 : decode cX4_calls 3 = .ok (.bipush 8, 2) := by decide +kernel
theorem dX4_calls_5 : decode cX4_calls 5 = .ok (.if_icmp .ge 106, 3) := by decide +kernel
theorem dX4_calls_8 : decode cX4_calls 8 = .ok (.aload_n 0, 1) := by decide +kernel
theorem dX4_calls_9 : decode cX4_calls 9 = .ok (.getfield 56, 3) := by decide +kernel
theorem dX4_calls_12 : decode cX4_calls 12 = .ok (.iload_n 1, 1) := by decide +kernel
theorem dX4_calls_13 : decode cX4_calls 13 = .ok (.baload, 1) := by decide +kernel
theorem dX4_calls_14 : decode cX4_calls 14 = .ok (.ifCond .eq 7, 3) := by decide +kernel
theorem dX4_calls_17 : decode cX4_calls 17 = .ok (.iconst (-1), 1) := by decide +kernel
theorem dX4_calls_18 : decode cX4_calls 18 = .ok (.goto 12, 3) := by decide +kernel
theorem dX4_calls_21 : decode cX4_calls 21 = .ok (.aload_n 0, 1) := by decide +kernel
theorem dX4_calls_22 : decode cX4_calls 22 = .ok (.iload_n 1, 1) := by decide +kernel
theorem dX4_calls_23 : decode cX4_calls 23 = .ok (.aload_n 0, 1) := by decide +kernel
theorem dX4_calls_24 : decode cX4_calls 24 = .ok (.getfield 118, 3) := by decide +kernel
theorem dX4_calls_27 : decode cX4_calls 27 = .ok (.invokevirtual 134, 3) := by decide +kernel
theorem dX4_calls_30 : decode cX4_calls 30 = .ok (.istore_n 2, 1) := by decide +kernel
theorem dX4_calls_31 : decode cX4_calls 31 = .ok (.iload_n 2, 1) := by decide +kernel
theorem dX4_calls_32 : decode cX4_calls 32 = .ok (.iconst (-1), 1) := by decide +kernel
theorem dX4_calls_33 : decode cX4_calls 33 = .ok (.if_icmp .eq 31, 3) := by decide +kernel
theorem dX4_calls_36 : decode cX4_calls 36 = .ok (.aload_n 0, 1) := by decide +kernel
theorem dX4_calls_37 : decode cX4_calls 37 = .ok (.getfield 56, 3) := by decide +kernel
theorem dX4_calls_40 : decode cX4_calls 40 = .ok (.iload_n 2, 1) := by decide +kernel
theorem dX4_calls_41 : decode cX4_calls 41 = .ok (.baload, 1) := by decide +kernel
theorem dX4_calls_42 : decode cX4_calls 42 = .ok (.ifCond .ne 22, 3) := by decide +kernel
theorem dX4_calls_45 : decode cX4_calls 45 = .ok (.aload_n 0, 1) := by decide +kernel
theorem dX4_calls_46 : decode cX4_calls 46 = .ok (.getfield 59, 3) := by decide +kernel
theorem dX4_calls_49 : decode cX4_calls 49 = .ok (.iload_n 2, 1) := by decide +kernel
theorem dX4_calls_50 : decode cX4_calls 50 = .ok (.iaload, 1) := by decide +kernel
theorem dX4_calls_51 : decode cX4_calls 51 = .ok (.aload_n 0, 1) := by decide +kernel
theorem dX4_calls_52 : decode cX4_calls 52 = .ok (.getfield 59, 3) := by decide +kernel
theorem dX4_calls_55 : decode cX4_calls 55 = .ok (.iload_n 1, 1) := by decide +kernel
theorem dX4_calls_56 : decode cX4_calls 56 = .ok (.iaload, 1) := by decide +kernel
theorem dX4_calls_57 : decode cX4_calls 57 = .ok (.if_icmp .ne 7, 3) := by decide +kernel
theorem dX4_calls_60 : decode cX4_calls 60 = .ok (.iconst 1, 1) := by decide +kernel
theorem dX4_calls_61 : decode cX4_calls 61 = .ok (.goto 4, 3) := by decide +kernel
theorem dX4_calls_64 : decode cX4_calls 64 = .ok (.iconst 0, 1) := by decide +kernel
theorem dX4_calls_65 : decode cX4_calls 65 = .ok (.istore_n 3, 1) := by decide +kernel
theorem dX4_calls_66 : decode cX4_calls 66 = .ok (.aload_n 0, 1) := by decide +kernel
theorem dX4_calls_67 : decode cX4_calls 67 = .ok (.dup, 1) := by decide +kernel
theorem dX4_calls_68 : decode cX4_calls 68 = .ok (.getfield 137, 3) := by decide +kernel
theorem dX4_calls_71 : decode cX4_calls 71 = .ok (.iload_n 2, 1) := by decide +kernel
theorem dX4_calls_72 : decode cX4_calls 72 = .ok (.iconst (-1), 1) := by decide +kernel
theorem dX4_calls_73 : decode cX4_calls 73 = .ok (.if_icmp .eq 11, 3) := by decide +kernel
theorem dX4_calls_76 : decode cX4_calls 76 = .ok (.iload_n 3, 1) := by decide +kernel
theorem dX4_calls_77 : decode cX4_calls 77 = .ok (.ifCond .ne 7, 3) := by decide +kernel
theorem dX4_calls_80 : decode cX4_calls 80 = .ok (.iconst 1, 1) := by decide +kernel
theorem dX4_calls_81 : decode cX4_calls 81 = .ok (.goto 4, 3) := by decide +kernel
theorem dX4_calls_84 : decode cX4_calls 84 = .ok (.iconst 0, 1) := by decide +kernel
theorem dX4_calls_85 : decode cX4_calls 85 = .ok (.iadd, 1) := by decide +kernel
theorem dX4_calls_86 : decode cX4_calls 86 = .ok (.putfield 137, 3) := by decide +kernel
theorem dX4_calls_89 : decode cX4_calls 89 = .ok (.iload_n 3, 1) := by decide +kernel
theorem dX4_calls_90 : decode cX4_calls 90 = .ok (.ifCond .eq 15, 3) := by decide +kernel
theorem dX4_calls_93 : decode cX4_calls 93 = .ok (.aload_n 0, 1) := by decide +kernel
theorem dX4_calls_94 : decode cX4_calls 94 = .ok (.iload_n 1, 1) := by decide +kernel
theorem dX4_calls_95 : decode cX4_calls 95 = .ok (.iload_n 2, 1) := by decide +kernel
theorem dX4_calls_96 : decode cX4_calls 96 = .ok (.invokevirtual 140, 3) := by decide +kernel
theorem dX4_calls_99 : decode cX4_calls 99 = .ok (.aload_n 0, 1) := by decide +kernel
theorem dX4_calls_100 : decode cX4_calls 100 = .ok (.iload_n 2, 1) := by decide +kernel
theorem dX4_calls_101 : decode cX4_calls 101 = .ok (.iload_n 1, 1) := by decide +kernel
theorem dX4_calls_102 : decode cX4_calls 102 = .ok (.invokevirtual 140, 3) := by decide +kernel
theorem dX4_calls_105 : decode cX4_calls 105 = .ok (.iinc 1 1, 3) := by decide +kernel
theorem dX4_calls_108 : decode cX4_calls 108 = .ok (.goto (-106), 3) := by decide +kernel
theorem dX4_calls_111 : decode cX4_calls 111 = .ok (.return_, 1) := by decide +kernel
theorem dX4_looks_0 : decode cX4_looks 0 = .ok (.iconst 0, 1) := by decide +kernel
theorem dX4_looks_1 : decode cX4_looks 1 = .ok (.istore_n 1, 1) := by decide +kernel
theorem dX4_looks_2 : decode cX4_looks 2 = .ok (.iload_n 1, 1) := by decide +kernel
theorem dX4_looks_3 : decode cX4_looks 3 = .ok (.bipush 64, 2) := by decide +kernel
theorem dX4_looks_5 : decode cX4_looks 5 = .ok (.if_icmp .ge 86, 3) := by decide +kernel
theorem dX4_looks_8 : decode cX4_looks 8 = .ok (.aload_n 0, 1) := by decide +kernel
theorem dX4_looks_9 : decode cX4_looks 9 = .ok (.getfield 118, 3) := by decide +kernel
theorem dX4_looks_12 : decode cX4_looks 12 = .ok (.aload_n 0, 1) := by decide +kernel
theorem dX4_looks_13 : decode cX4_looks 13 = .ok (.getfield 77, 3) := by decide +kernel
theorem dX4_looks_16 : decode cX4_looks 16 = .ok (.iload_n 1, 1) := by decide +kernel
theorem dX4_looks_17 : decode cX4_looks 17 = .ok (.iaload, 1) := by decide +kernel
theorem dX4_looks_18 : decode cX4_looks 18 = .ok (.isub, 1) := by decide +kernel
theorem dX4_looks_19 : decode cX4_looks 19 = .ok (.istore_n 2, 1) := by decide +kernel
theorem dX4_looks_20 : decode cX4_looks 20 = .ok (.iload_n 2, 1) := by decide +kernel
theorem dX4_looks_21 : decode cX4_looks 21 = .ok (.aload_n 0, 1) := by decide +kernel
theorem dX4_looks_22 : decode cX4_looks 22 = .ok (.getfield 87, 3) := by decide +kernel
theorem dX4_looks_25 : decode cX4_looks 25 = .ok (.if_icmp .le 7, 3) := by decide +kernel
theorem dX4_looks_28 : decode cX4_looks 28 = .ok (.iconst 2, 1) := by decide +kernel
theorem dX4_looks_29 : decode cX4_looks 29 = .ok (.goto 16, 3) := by decide +kernel
theorem dX4_looks_32 : decode cX4_looks 32 = .ok (.iload_n 2, 1) := by decide +kernel
theorem dX4_looks_33 : decode cX4_looks 33 = .ok (.aload_n 0, 1) := by decide +kernel
theorem dX4_looks_34 : decode cX4_looks 34 = .ok (.getfield 83, 3) := by decide +kernel
theorem dX4_looks_37 : decode cX4_looks 37 = .ok (.if_icmp .le 7, 3) := by decide +kernel
theorem dX4_looks_40 : decode cX4_looks 40 = .ok (.iconst 1, 1) := by decide +kernel
theorem dX4_looks_41 : decode cX4_looks 41 = .ok (.goto 4, 3) := by decide +kernel
theorem dX4_looks_44 : decode cX4_looks 44 = .ok (.iconst 0, 1) := by decide +kernel
theorem dX4_looks_45 : decode cX4_looks 45 = .ok (.istore_n 3, 1) := by decide +kernel
theorem dX4_looks_46 : decode cX4_looks 46 = .ok (.aload_n 0, 1) := by decide +kernel
theorem dX4_looks_47 : decode cX4_looks 47 = .ok (.getfield 80, 3) := by decide +kernel
theorem dX4_looks_50 : decode cX4_looks 50 = .ok (.iload_n 1, 1) := by decide +kernel
theorem dX4_looks_51 : decode cX4_looks 51 = .ok (.aload_n 0, 1) := by decide +kernel
theorem dX4_looks_52 : decode cX4_looks 52 = .ok (.getfield 56, 3) := by decide +kernel
theorem dX4_looks_55 : decode cX4_looks 55 = .ok (.iload_n 1, 1) := by decide +kernel
theorem dX4_looks_56 : decode cX4_looks 56 = .ok (.bipush 8, 2) := by decide +kernel
theorem dX4_looks_58 : decode cX4_looks 58 = .ok (.idiv, 1) := by decide +kernel
theorem dX4_looks_59 : decode cX4_looks 59 = .ok (.baload, 1) := by decide +kernel
theorem dX4_looks_60 : decode cX4_looks 60 = .ok (.ifCond .ne 14, 3) := by decide +kernel
theorem dX4_looks_63 : decode cX4_looks 63 = .ok (.iload_n 1, 1) := by decide +kernel
theorem dX4_looks_64 : decode cX4_looks 64 = .ok (.bipush 8, 2) := by decide +kernel
theorem dX4_looks_66 : decode cX4_looks 66 = .ok (.idiv, 1) := by decide +kernel
theorem dX4_looks_67 : decode cX4_looks 67 = .ok (.iload_n 1, 1) := by decide +kernel
theorem dX4_looks_68 : decode cX4_looks 68 = .ok (.bipush 8, 2) := by decide +kernel
theorem dX4_looks_70 : decode cX4_looks 70 = .ok (.irem, 1) := by decide +kernel
theorem dX4_looks_71 : decode cX4_looks 71 = .ok (.if_icmp .ne 12, 3) := by decide +kernel
theorem dX4_looks_74 : decode cX4_looks 74 = .ok (.aload_n 0, 1) := by decide +kernel
theorem dX4_looks_75 : decode cX4_looks 75 = .ok (.getfield 80, 3) := by decide +kernel
theorem dX4_looks_78 : decode cX4_looks 78 = .ok (.iload_n 1, 1) := by decide +kernel
theorem dX4_looks_79 : decode cX4_looks 79 = .ok (.iaload, 1) := by decide +kernel
theorem dX4_looks_80 : decode cX4_looks 80 = .ok (.goto 4, 3) := by decide +kernel
theorem dX4_looks_83 : decode cX4_looks 83 = .ok (.iload_n 3, 1) := by decide +kernel
theorem dX4_looks_84 : decode cX4_looks 84 = .ok (.iastore, 1) := by decide +kernel
theorem dX4_looks_85 : decode cX4_looks 85 = .ok (.iinc 1 1, 3) := by decide +kernel
theorem dX4_looks_88 : decode cX4_looks 88 = .ok (.goto (-86), 3) := by decide +kernel
theorem dX4_looks_91 : decode cX4_looks 91 = .ok (.return_, 1) := by decide +kernel
set_option maxRecDepth 20000 in
theorem ggX4_rules_X4_at : GoodIn wsX4_rules wsX4_at := goodIn_r _ [11] (by decide +kernel) (by decide +kernel)
set_option maxRecDepth 20000 in
theorem gX4_rules_X4_at : GoodIn wsX4_rules (va_wsS RX4 114 yX4_at wsX4_at) := goodIn_app (goodIn_of _ (by decide +kernel)) ggX4_rules_X4_at
set_option maxRecDepth 20000 in
theorem ggX4_rules_X4_hasNews : GoodIn wsX4_rules wsX4_hasNews := goodIn_r _ [15, 16, 8, 9, 10, 11, 23, 24, 25, 26, 27, 28, 29, 30, 31, 32, 33, 34, 35, 36, 37, 38, 39, 40, 41, 42, 43, 44, 45, 46, 47, 48, 49, 50, 51, 52] (by decide +kernel) (by decide +kernel)
set_option maxRecDepth 20000 in
theorem gX4_rules_X4_hasNews : GoodIn wsX4_rules (wsV RX4 125 RX4 yX4_hasNews wsX4_hasNews) := goodIn_app (goodIn_of _ (by decide +kernel)) ggX4_rules_X4_hasNews
set_option maxRecDepth 20000 in
theorem ggX4_rules_X4_ageOf : GoodIn wsX4_rules wsX4_ageOf := goodIn_r _ [20, 21, 22, 12, 13, 14, 10, 15, 16, 8, 9, 11, 23, 24, 25, 26, 27, 28, 29, 30, 31, 32, 33, 34, 35, 36, 37, 38, 39, 40, 41, 42, 43, 44, 45, 46, 47, 48, 49, 50, 51, 52] (by decide +kernel) (by decide +kernel)
set_option maxRecDepth 20000 in
theorem gX4_rules_X4_ageOf : GoodIn wsX4_rules (wsV RX4 128 RX4 yX4_ageOf wsX4_ageOf) := goodIn_app (goodIn_of _ (by decide +kernel)) ggX4_rules_X4_ageOf
theorem dX4_rules_0 : decode cX4_rules 0 = .ok (.aload_n 0, 1) := by decide +kernel
theorem dX4_rules_1 : decode cX4_rules 1 = .ok (.getfield 68, 3) := by decide +kernel
theorem dX4_rules_4 : decode cX4_rules 4 = .ok (.iload_n 1, 1) := by decide +kernel
theorem dX4_rules_5 : decode cX4_rules 5 = .ok (.iload_n 1, 1) := by decide +kernel
theorem dX4_rules_6 : decode cX4_rules 6 = .ok (.invokestatic 114, 3) := by decide +kernel
theorem dX4_rules_9 : decode cX4_rules 9 = .ok (.iaload, 1) := by decide +kernel
theorem dX4_rules_10 : decode cX4_rules 10 = .ok (.istore_n 2, 1) := by decide +kernel
theorem dX4_rules_11 : decode cX4_rules 11 = .ok (.iload_n 1, 1) := by decide +kernel
theorem dX4_rules_12 : decode cX4_rules 12 = .ok (.bipush 7, 2) := by decide +kernel
theorem dX4_rules_14 : decode cX4_rules 14 = .ok (.if_icmp .ne 7, 3) := by decide +kernel
theorem dX4_rules_17 : decode cX4_rules 17 = .ok (.iconst 1, 1) := by decide +kernel
theorem dX4_rules_18 : decode cX4_rules 18 = .ok (.goto 4, 3) := by decide +kernel
theorem dX4_rules_21 : decode cX4_rules 21 = .ok (.iconst 0, 1) := by decide +kernel
theorem dX4_rules_22 : decode cX4_rules 22 = .ok (.istore_n 3, 1) := by decide +kernel
theorem dX4_rules_23 : decode cX4_rules 23 = .ok (.iload_n 3, 1) := by decide +kernel
theorem dX4_rules_24 : decode cX4_rules 24 = .ok (.ifCond .ne 74, 3) := by decide +kernel
theorem dX4_rules_27 : decode cX4_rules 27 = .ok (.aload_n 0, 1) := by decide +kernel
theorem dX4_rules_28 : decode cX4_rules 28 = .ok (.iload_n 1, 1) := by decide +kernel
theorem dX4_rules_29 : decode cX4_rules 29 = .ok (.iload_n 1, 1) := by decide +kernel
theorem dX4_rules_30 : decode cX4_rules 30 = .ok (.iconst 1, 1) := by decide +kernel
theorem dX4_rules_31 : decode cX4_rules 31 = .ok (.iadd, 1) := by decide +kernel
theorem dX4_rules_32 : decode cX4_rules 32 = .ok (.invokevirtual 125, 3) := by decide +kernel
theorem dX4_rules_35 : decode cX4_rules 35 = .ok (.ifCond .eq 20, 3) := by decide +kernel
theorem dX4_rules_38 : decode cX4_rules 38 = .ok (.aload_n 0, 1) := by decide +kernel
theorem dX4_rules_39 : decode cX4_rules 39 = .ok (.iload_n 1, 1) := by decide +kernel
theorem dX4_rules_40 : decode cX4_rules 40 = .ok (.iload_n 1, 1) := by decide +kernel
theorem dX4_rules_41 : decode cX4_rules 41 = .ok (.iconst 1, 1) := by decide +kernel
theorem dX4_rules_42 : decode cX4_rules 42 = .ok (.iadd, 1) := by decide +kernel
theorem dX4_rules_43 : decode cX4_rules 43 = .ok (.invokevirtual 128, 3) := by decide +kernel
theorem dX4_rules_46 : decode cX4_rules 46 = .ok (.aload_n 0, 1) := by decide +kernel
theorem dX4_rules_47 : decode cX4_rules 47 = .ok (.getfield 46, 3) := by decide +kernel
theorem dX4_rules_50 : decode cX4_rules 50 = .ok (.iload_n 1, 1) := by decide +kernel
theorem dX4_rules_51 : decode cX4_rules 51 = .ok (.iaload, 1) := by decide +kernel
theorem dX4_rules_52 : decode cX4_rules 52 = .ok (.if_icmp .le 46, 3) := by decide +kernel
theorem dX4_rules_55 : decode cX4_rules 55 = .ok (.aload_n 0, 1) := by decide +kernel
theorem dX4_rules_56 : decode cX4_rules 56 = .ok (.getfield 19, 3) := by decide +kernel
theorem dX4_rules_59 : decode cX4_rules 59 = .ok (.iload_n 1, 1) := by decide +kernel
theorem dX4_rules_60 : decode cX4_rules 60 = .ok (.aload_n 0, 1) := by decide +kernel
theorem dX4_rules_61 : decode cX4_rules 61 = .ok (.getfield 19, 3) := by decide +kernel
theorem dX4_rules_64 : decode cX4_rules 64 = .ok (.iload_n 1, 1) := by decide +kernel
theorem dX4_rules_65 : decode cX4_rules 65 = .ok (.iaload, 1) := by decide +kernel
theorem dX4_rules_66 : decode cX4_rules 66 = .ok (.iconst 2, 1) := by decide +kernel
theorem dX4_rules_67 : decode cX4_rules 67 = .ok (.iadd, 1) := by decide +kernel
theorem dX4_rules_68 : decode cX4_rules 68 = .ok (.bipush 10, 2) := by decide +kernel
theorem dX4_rules_70 : decode cX4_rules 70 = .ok (.if_icmp .ge 14, 3) := by decide +kernel
theorem dX4_rules_73 : decode cX4_rules 73 = .ok (.aload_n 0, 1) := by decide +kernel
theorem dX4_rules_74 : decode cX4_rules 74 = .ok (.getfield 19, 3) := by decide +kernel
theorem dX4_rules_77 : decode cX4_rules 77 = .ok (.iload_n 1, 1) := by decide +kernel
theorem dX4_rules_78 : decode cX4_rules 78 = .ok (.iaload, 1) := by decide +kernel
theorem dX4_rules_79 : decode cX4_rules 79 = .ok (.iconst 2, 1) := by decide +kernel
theorem dX4_rules_80 : decode cX4_rules 80 = .ok (.iadd, 1) := by decide +kernel
theorem dX4_rules_81 : decode cX4_rules 81 = .ok (.goto 5, 3) := by decide +kernel
theorem dX4_rules_84 : decode cX4_rules 84 = .ok (.bipush 10, 2) := by decide +kernel
theorem dX4_rules_86 : decode cX4_rules 86 = .ok (.iastore, 1) := by decide +kernel
theorem dX4_rules_87 : decode cX4_rules 87 = .ok (.aload_n 0, 1) := by decide +kernel
theorem dX4_rules_88 : decode cX4_rules 88 = .ok (.getfield 53, 3) := by decide +kernel
theorem dX4_rules_91 : decode cX4_rules 91 = .ok (.iload_n 1, 1) := by decide +kernel
theorem dX4_rules_92 : decode cX4_rules 92 = .ok (.dup2, 1) := by decide +kernel
theorem dX4_rules_93 : decode cX4_rules 93 = .ok (.iaload, 1) := by decide +kernel
theorem dX4_rules_94 : decode cX4_rules 94 = .ok (.iconst 1, 1) := by decide +kernel
theorem dX4_rules_95 : decode cX4_rules 95 = .ok (.iadd, 1) := by decide +kernel
theorem dX4_rules_96 : decode cX4_rules 96 = .ok (.iastore, 1) := by decide +kernel
theorem dX4_rules_97 : decode cX4_rules 97 = .ok (.return_, 1) := by decide +kernel
theorem dX4_rules_98 : decode cX4_rules 98 = .ok (.iload_n 2, 1) := by decide +kernel
theorem dX4_rules_99 : decode cX4_rules 99 = .ok (.aload_n 0, 1) := by decide +kernel
theorem dX4_rules_100 : decode cX4_rules 100 = .ok (.getfield 40, 3) := by decide +kernel
theorem dX4_rules_103 : decode cX4_rules 103 = .ok (.iload_n 1, 1) := by decide +kernel
theorem dX4_rules_104 : decode cX4_rules 104 = .ok (.iaload, 1) := by decide +kernel
theorem dX4_rules_105 : decode cX4_rules 105 = .ok (.if_icmp .le 32, 3) := by decide +kernel
theorem dX4_rules_108 : decode cX4_rules 108 = .ok (.iload_n 3, 1) := by decide +kernel
theorem dX4_rules_109 : decode cX4_rules 109 = .ok (.ifCond .ne 24, 3) := by decide +kernel
theorem dX4_rules_112 : decode cX4_rules 112 = .ok (.aload_n 0, 1) := by decide +kernel
theorem dX4_rules_113 : decode cX4_rules 113 = .ok (.getfield 68, 3) := by decide +kernel
theorem dX4_rules_116 : decode cX4_rules 116 = .ok (.iload_n 1, 1) := by decide +kernel
theorem dX4_rules_117 : decode cX4_rules 117 = .ok (.iload_n 1, 1) := by decide +kernel
theorem dX4_rules_118 : decode cX4_rules 118 = .ok (.iconst 1, 1) := by decide +kernel
theorem dX4_rules_119 : decode cX4_rules 119 = .ok (.iadd, 1) := by decide +kernel
theorem dX4_rules_120 : decode cX4_rules 120 = .ok (.invokestatic 114, 3) := by decide +kernel
theorem dX4_rules_123 : decode cX4_rules 123 = .ok (.iaload, 1) := by decide +kernel
theorem dX4_rules_124 : decode cX4_rules 124 = .ok (.aload_n 0, 1) := by decide +kernel
theorem dX4_rules_125 : decode cX4_rules 125 = .ok (.getfield 43, 3) := by decide +kernel
theorem dX4_rules_128 : decode cX4_rules 128 = .ok (.iload_n 1, 1) := by decide +kernel
theorem dX4_rules_129 : decode cX4_rules 129 = .ok (.iaload, 1) := by decide +kernel
theorem dX4_rules_130 : decode cX4_rules 130 = .ok (.if_icmp .ge 7, 3) := by decide +kernel
theorem dX4_rules_133 : decode cX4_rules 133 = .ok (.iconst 1, 1) := by decide +kernel
theorem dX4_rules_134 : decode cX4_rules 134 = .ok (.goto 4, 3) := by decide +kernel
theorem dX4_rules_137 : decode cX4_rules 137 = .ok (.iconst 0, 1) := by decide +kernel
theorem dX4_rules_138 : decode cX4_rules 138 = .ok (.istore 4, 2) := by decide +kernel
theorem dX4_rules_140 : decode cX4_rules 140 = .ok (.aload_n 0, 1) := by decide +kernel
theorem dX4_rules_141 : decode cX4_rules 141 = .ok (.getfield 19, 3) := by decide +kernel
theorem dX4_rules_144 : decode cX4_rules 144 = .ok (.iload_n 1, 1) := by decide +kernel
theorem dX4_rules_145 : decode cX4_rules 145 = .ok (.iaload, 1) := by decide +kernel
theorem dX4_rules_146 : decode cX4_rules 146 = .ok (.iload 4, 2) := by decide +kernel
theorem dX4_rules_148 : decode cX4_rules 148 = .ok (.ifCond .eq 7, 3) := by decide +kernel
theorem dX4_rules_151 : decode cX4_rules 151 = .ok (.iconst 1, 1) := by decide +kernel
theorem dX4_rules_152 : decode cX4_rules 152 = .ok (.goto 18, 3) := by decide +kernel
theorem dX4_rules_155 : decode cX4_rules 155 = .ok (.iload_n 2, 1) := by decide +kernel
theorem dX4_rules_156 : decode cX4_rules 156 = .ok (.aload_n 0, 1) := by decide +kernel
theorem dX4_rules_157 : decode cX4_rules 157 = .ok (.getfield 37, 3) := by decide +kernel
theorem dX4_rules_160 : decode cX4_rules 160 = .ok (.iload_n 1, 1) := by decide +kernel
theorem dX4_rules_161 : decode cX4_rules 161 = .ok (.iaload, 1) := by decide +kernel
theorem dX4_rules_162 : decode cX4_rules 162 = .ok (.if_icmp .ge 7, 3) := by decide +kernel
theorem dX4_rules_165 : decode cX4_rules 165 = .ok (.iconst (-1), 1) := by decide +kernel
theorem dX4_rules_166 : decode cX4_rules 166 = .ok (.goto 4, 3) := by decide +kernel
theorem dX4_rules_169 : decode cX4_rules 169 = .ok (.iconst 0, 1) := by decide +kernel
theorem dX4_rules_170 : decode cX4_rules 170 = .ok (.iadd, 1) := by decide +kernel
theorem dX4_rules_171 : decode cX4_rules 171 = .ok (.istore 5, 2) := by decide +kernel
theorem dX4_rules_173 : decode cX4_rules 173 = .ok (.aload_n 0, 1) := by decide +kernel
theorem dX4_rules_174 : decode cX4_rules 174 = .ok (.getfield 19, 3) := by decide +kernel
theorem dX4_rules_177 : decode cX4_rules 177 = .ok (.iload_n 1, 1) := by decide +kernel
theorem dX4_rules_178 : decode cX4_rules 178 = .ok (.iload 5, 2) := by decide +kernel
theorem dX4_rules_180 : decode cX4_rules 180 = .ok (.ifCond .ge 7, 3) := by decide +kernel
theorem dX4_rules_183 : decode cX4_rules 183 = .ok (.iconst 0, 1) := by decide +kernel
theorem dX4_rules_184 : decode cX4_rules 184 = .ok (.goto 17, 3) := by decide +kernel
theorem dX4_rules_187 : decode cX4_rules 187 = .ok (.iload 5, 2) := by decide +kernel
theorem dX4_rules_189 : decode cX4_rules 189 = .ok (.bipush 10, 2) := by decide +kernel
theorem dX4_rules_191 : decode cX4_rules 191 = .ok (.if_icmp .le 8, 3) := by decide +kernel
theorem dX4_rules_194 : decode cX4_rules 194 = .ok (.bipush 10, 2) := by decide +kernel
theorem dX4_rules_196 : decode cX4_rules 196 = .ok (.goto 5, 3) := by decide +kernel
theorem dX4_rules_199 : decode cX4_rules 199 = .ok (.iload 5, 2) := by decide +kernel
theorem dX4_rules_201 : decode cX4_rules 201 = .ok (.iastore, 1) := by decide +kernel
theorem dX4_rules_202 : decode cX4_rules 202 = .ok (.return_, 1) := by decide +kernel
set_option maxRecDepth 20000 in
theorem ggX4_ticks_X4_falls : GoodIn wsX4_ticks wsX4_falls := goodIn_r _ [8, 9, 10, 11, 86, 87, 88, 89, 90, 91, 92, 93, 94, 95, 96, 97, 98, 99, 100, 101, 102, 103, 104, 105, 106, 107, 108, 109, 110, 111, 112, 113, 114, 115] (by decide +kernel) (by decide +kernel)
set_option maxRecDepth 20000 in
theorem gX4_ticks_X4_falls : GoodIn wsX4_ticks (wsV RX4 144 RX4 yX4_falls wsX4_falls) := goodIn_app (goodIn_of _ (by decide +kernel)) ggX4_ticks_X4_falls
set_option maxRecDepth 20000 in
theorem ggX4_ticks_X4_flowsOn : GoodIn wsX4_ticks wsX4_flowsOn := goodIn_r _ [15, 16, 17, 18, 9, 19, 86, 87, 88, 89, 90, 91, 92, 93, 94, 95, 96, 97, 98, 99, 100, 101, 102, 103, 104, 105, 106, 107, 108, 109, 110, 111, 112, 113, 114, 115] (by decide +kernel) (by decide +kernel)
set_option maxRecDepth 20000 in
theorem gX4_ticks_X4_flowsOn : GoodIn wsX4_ticks (wsV RX4 147 RX4 yX4_flowsOn wsX4_flowsOn) := goodIn_app (goodIn_of _ (by decide +kernel)) ggX4_ticks_X4_flowsOn
set_option maxRecDepth 20000 in
theorem ggX4_ticks_X4_spills : GoodIn wsX4_ticks wsX4_spills := goodIn_r _ [23, 24, 25, 9, 26, 86, 87, 88, 89, 90, 91, 92, 93, 94, 95, 96, 97, 98, 99, 100, 101, 102, 103, 104, 105, 106, 107, 108, 109, 110, 111, 112, 113, 114, 115] (by decide +kernel) (by decide +kernel)
set_option maxRecDepth 20000 in
theorem gX4_ticks_X4_spills : GoodIn wsX4_ticks (wsV RX4 150 RX4 yX4_spills wsX4_spills) := goodIn_app (goodIn_of _ (by decide +kernel)) ggX4_ticks_X4_spills
set_option maxRecDepth 20000 in
theorem ggX4_ticks_X4_measures : GoodIn wsX4_ticks wsX4_measures := goodIn_r _ [30, 2, 31, 32, 33, 34, 1, 35, 36, 37, 38, 7, 39, 40, 41, 42, 43, 9, 24, 86, 87, 88, 89, 90, 91, 92, 93, 94, 95, 96, 97, 98, 99, 100, 101, 102, 103, 104, 105, 106, 107, 108, 109, 110, 111, 112, 113, 114, 115] (by decide +kernel) (by decide +kernel)
set_option maxRecDepth 20000 in
theorem gX4_ticks_X4_measures : GoodIn wsX4_ticks (wsV RX4 154 RX4 yX4_measures wsX4_measures) := goodIn_app (goodIn_of _ (by decide +kernel)) ggX4_ticks_X4_measures
set_option maxRecDepth 20000 in
theorem ggX4_ticks_X4_calls : GoodIn wsX4_ticks wsX4_calls := goodIn_r _ [47, 2, 1, 48, 49, 50, 51, 52, 7, 53, 54, 55, 56, 57, 58, 37, 38, 39, 59, 60, 61, 62, 33, 31, 34, 35, 36, 86, 87, 88, 89, 90, 91, 92, 93, 94, 95, 96, 97, 98, 99, 100, 101, 102, 103, 104, 105, 106, 107, 108, 109, 110, 111, 112, 113, 114, 115] (by decide +kernel) (by decide +kernel)
set_option maxRecDepth 20000 in
theorem gX4_ticks_X4_calls : GoodIn wsX4_ticks (wsV RX4 157 RX4 yX4_calls wsX4_calls) := goodIn_app (goodIn_of _ (by decide +kernel)) ggX4_ticks_X4_calls
set_option maxRecDepth 20000 in
theorem ggX4_ticks_X4_looks : GoodIn wsX4_ticks wsX4_looks := goodIn_r _ [66, 1, 36, 67, 68, 58, 2, 86, 87, 88, 89, 90, 91, 92, 93, 94, 95, 96, 97, 98, 99, 100, 101, 102, 103, 104, 105, 106, 107, 108, 109, 110, 111, 112, 113, 114, 115] (by decide +kernel) (by decide +kernel)
set_option maxRecDepth 20000 in
theorem gX4_ticks_X4_looks : GoodIn wsX4_ticks (wsV RX4 160 RX4 yX4_looks wsX4_looks) := goodIn_app (goodIn_of _ (by decide +kernel)) ggX4_ticks_X4_looks
set_option maxRecDepth 20000 in
theorem ggX4_ticks_X4_rules : GoodIn wsX4_ticks wsX4_rules := goodIn_r _ [72, 31, 73, 16, 74, 75, 76, 77, 37, 38, 7, 39, 78, 79, 80, 81, 33, 82, 83, 84, 85, 1, 34, 86, 87, 88, 89, 90, 91, 92, 93, 94, 95, 96, 97, 98, 99, 100, 101, 102, 103, 104, 105, 106, 107, 108, 109, 110, 111, 112, 113, 114, 115] (by decide +kernel) (by decide +kernel)
set_option maxRecDepth 20000 in
theorem gX4_ticks_X4_rules : GoodIn wsX4_ticks (wsV RX4 163 RX4 yX4_rules wsX4_rules) := goodIn_app (goodIn_of _ (by decide +kernel)) ggX4_ticks_X4_rules
theorem dX4_ticks_0 : decode cX4_ticks 0 = .ok (.aload_n 0, 1) := by decide +kernel
theorem dX4_ticks_1 : decode cX4_ticks 1 = .ok (.dup, 1) := by decide +kernel
theorem dX4_ticks_2 : decode cX4_ticks 2 = .ok (.getfield 118, 3) := by decide +kernel
theorem dX4_ticks_5 : decode cX4_ticks 5 = .ok (.iconst 1, 1) := by decide +kernel
theorem dX4_ticks_6 : decode cX4_ticks 6 = .ok (.iadd, 1) := by decide +kernel
theorem dX4_ticks_7 : decode cX4_ticks 7 = .ok (.putfield 118, 3) := by decide +kernel
theorem dX4_ticks_10 : decode cX4_ticks 10 = .ok (.aload_n 0, 1) := by decide +kernel
theorem dX4_ticks_11 : decode cX4_ticks 11 = .ok (.invokevirtual 144, 3) := by decide +kernel
theorem dX4_ticks_14 : decode cX4_ticks 14 = .ok (.aload_n 0, 1) := by decide +kernel
theorem dX4_ticks_15 : decode cX4_ticks 15 = .ok (.invokevirtual 147, 3) := by decide +kernel
theorem dX4_ticks_18 : decode cX4_ticks 18 = .ok (.aload_n 0, 1) := by decide +kernel
theorem dX4_ticks_19 : decode cX4_ticks 19 = .ok (.invokevirtual 150, 3) := by decide +kernel
theorem dX4_ticks_22 : decode cX4_ticks 22 = .ok (.istore_n 1, 1) := by decide +kernel
theorem dX4_ticks_23 : decode cX4_ticks 23 = .ok (.aload_n 0, 1) := by decide +kernel
theorem dX4_ticks_24 : decode cX4_ticks 24 = .ok (.invokevirtual 154, 3) := by decide +kernel
theorem dX4_ticks_27 : decode cX4_ticks 27 = .ok (.aload_n 0, 1) := by decide +kernel
theorem dX4_ticks_28 : decode cX4_ticks 28 = .ok (.invokevirtual 157, 3) := by decide +kernel
theorem dX4_ticks_31 : decode cX4_ticks 31 = .ok (.aload_n 0, 1) := by decide +kernel
theorem dX4_ticks_32 : decode cX4_ticks 32 = .ok (.invokevirtual 160, 3) := by decide +kernel
theorem dX4_ticks_35 : decode cX4_ticks 35 = .ok (.iconst 0, 1) := by decide +kernel
theorem dX4_ticks_36 : decode cX4_ticks 36 = .ok (.istore_n 2, 1) := by decide +kernel
theorem dX4_ticks_37 : decode cX4_ticks 37 = .ok (.iload_n 2, 1) := by decide +kernel
theorem dX4_ticks_38 : decode cX4_ticks 38 = .ok (.bipush 8, 2) := by decide +kernel
theorem dX4_ticks_40 : decode cX4_ticks 40 = .ok (.if_icmp .ge 32, 3) := by decide +kernel
theorem dX4_ticks_43 : decode cX4_ticks 43 = .ok (.aload_n 0, 1) := by decide +kernel
theorem dX4_ticks_44 : decode cX4_ticks 44 = .ok (.getfield 56, 3) := by decide +kernel
theorem dX4_ticks_47 : decode cX4_ticks 47 = .ok (.iload_n 2, 1) := by decide +kernel
theorem dX4_ticks_48 : decode cX4_ticks 48 = .ok (.baload, 1) := by decide +kernel
theorem dX4_ticks_49 : decode cX4_ticks 49 = .ok (.ifCond .ne 17, 3) := by decide +kernel
theorem dX4_ticks_52 : decode cX4_ticks 52 = .ok (.aload_n 0, 1) := by decide +kernel
theorem dX4_ticks_53 : decode cX4_ticks 53 = .ok (.getfield 49, 3) := by decide +kernel
theorem dX4_ticks_56 : decode cX4_ticks 56 = .ok (.iload_n 2, 1) := by decide +kernel
theorem dX4_ticks_57 : decode cX4_ticks 57 = .ok (.baload, 1) := by decide +kernel
theorem dX4_ticks_58 : decode cX4_ticks 58 = .ok (.ifCond .ne 8, 3) := by decide +kernel
theorem dX4_ticks_61 : decode cX4_ticks 61 = .ok (.aload_n 0, 1) := by decide +kernel
theorem dX4_ticks_62 : decode cX4_ticks 62 = .ok (.iload_n 2, 1) := by decide +kernel
theorem dX4_ticks_63 : decode cX4_ticks 63 = .ok (.invokevirtual 163, 3) := by decide +kernel
theorem dX4_ticks_66 : decode cX4_ticks 66 = .ok (.iinc 2 1, 3) := by decide +kernel
theorem dX4_ticks_69 : decode cX4_ticks 69 = .ok (.goto (-32), 3) := by decide +kernel
theorem dX4_ticks_72 : decode cX4_ticks 72 = .ok (.iload_n 1, 1) := by decide +kernel
theorem dX4_ticks_73 : decode cX4_ticks 73 = .ok (.ireturn, 1) := by decide +kernel
set_option maxRecDepth 20000 in
theorem ggX4_tick_X4_isIn : GoodIn wsX4_tick wsX4_isIn := goodIn_r _ [5] (by decide +kernel) (by decide +kernel)
set_option maxRecDepth 20000 in
theorem gX4_tick_X4_isIn : GoodIn wsX4_tick (va_wsS RX4 93 yX4_isIn wsX4_isIn) := goodIn_app (goodIn_of _ (by decide +kernel)) ggX4_tick_X4_isIn
set_option maxRecDepth 20000 in
theorem ggX4_tick_X4_goes : GoodIn wsX4_tick wsX4_goes := goodIn_r _ [9, 10, 98, 99, 100, 101, 102, 103, 104, 105, 106, 107, 108, 109, 110, 111, 112, 113, 114, 115, 116, 117, 118, 119, 120, 121, 122, 123, 124, 125, 126, 127] (by decide +kernel) (by decide +kernel)
set_option maxRecDepth 20000 in
theorem gX4_tick_X4_goes : GoodIn wsX4_tick (wsV RX4 101 RX4 yX4_goes wsX4_goes) := goodIn_app (goodIn_of _ (by decide +kernel)) ggX4_tick_X4_goes
set_option maxRecDepth 20000 in
theorem ggX4_tick_X4_ticks : GoodIn wsX4_tick wsX4_ticks := goodIn_r _ [14, 1, 15, 16, 17, 18, 19, 4, 20, 21, 22, 23, 24, 25, 26, 27, 28, 29, 30, 31, 32, 33, 34, 35, 36, 37, 38, 39, 40, 41, 42, 43, 44, 45, 46, 47, 48, 49, 50, 51, 52, 53, 54, 55, 56, 57, 58, 59, 60, 61, 62, 63, 64, 65, 66, 67, 68, 69, 70, 71, 72, 73, 74, 75, 76, 77, 78, 79, 80, 81, 82, 83, 84, 85, 86, 87, 88, 89, 90, 91, 92, 93, 94, 95, 96, 97, 98, 99, 100, 101, 102, 103, 104, 105, 106, 107, 108, 109, 110, 111, 112, 113, 114, 115, 116, 117, 118, 119, 120, 121, 122, 123, 124, 125, 126, 127] (by decide +kernel) (by decide +kernel)
set_option maxRecDepth 20000 in
theorem gX4_tick_X4_ticks : GoodIn wsX4_tick (wsV RX4 167 RX4 yX4_ticks wsX4_ticks) := goodIn_app (goodIn_of _ (by decide +kernel)) ggX4_tick_X4_ticks
theorem dX4_tick_0 : decode cX4_tick 0 = .ok (.aload_n 0, 1) := by decide +kernel
theorem dX4_tick_1 : decode cX4_tick 1 = .ok (.iload_n 1, 1) := by decide +kernel
theorem dX4_tick_2 : decode cX4_tick 2 = .ok (.iconst 1, 1) := by decide +kernel
theorem dX4_tick_3 : decode cX4_tick 3 = .ok (.bipush 100, 2) := by decide +kernel
theorem dX4_tick_5 : decode cX4_tick 5 = .ok (.invokestatic 93, 3) := by decide +kernel
theorem dX4_tick_8 : decode cX4_tick 8 = .ok (.ifCond .ne 7, 3) := by decide +kernel
theorem dX4_tick_11 : decode cX4_tick 11 = .ok (.iconst 1, 1) := by decide +kernel
theorem dX4_tick_12 : decode cX4_tick 12 = .ok (.goto 20, 3) := by decide +kernel
theorem dX4_tick_15 : decode cX4_tick 15 = .ok (.aload_n 0, 1) := by decide +kernel
theorem dX4_tick_16 : decode cX4_tick 16 = .ok (.getfield 118, 3) := by decide +kernel
theorem dX4_tick_19 : decode cX4_tick 19 = .ok (.iload_n 1, 1) := by decide +kernel
theorem dX4_tick_20 : decode cX4_tick 20 = .ok (.iadd, 1) := by decide +kernel
theorem dX4_tick_21 : decode cX4_tick 21 = .ok (.sipush 5000, 3) := by decide +kernel
theorem dX4_tick_24 : decode cX4_tick 24 = .ok (.if_icmp .le 7, 3) := by decide +kernel
theorem dX4_tick_27 : decode cX4_tick 27 = .ok (.iconst 2, 1) := by decide +kernel
theorem dX4_tick_28 : decode cX4_tick 28 = .ok (.goto 4, 3) := by decide +kernel
theorem dX4_tick_31 : decode cX4_tick 31 = .ok (.iconst 0, 1) := by decide +kernel
theorem dX4_tick_32 : decode cX4_tick 32 = .ok (.invokevirtual 101, 3) := by decide +kernel
theorem dX4_tick_35 : decode cX4_tick 35 = .ok (.ifCond .ne 5, 3) := by decide +kernel
theorem dX4_tick_38 : decode cX4_tick 38 = .ok (.iconst 0, 1) := by decide +kernel
theorem dX4_tick_39 : decode cX4_tick 39 = .ok (.ireturn, 1) := by decide +kernel
theorem dX4_tick_40 : decode cX4_tick 40 = .ok (.iconst 0, 1) := by decide +kernel
theorem dX4_tick_41 : decode cX4_tick 41 = .ok (.istore_n 2, 1) := by decide +kernel
theorem dX4_tick_42 : decode cX4_tick 42 = .ok (.iconst 0, 1) := by decide +kernel
theorem dX4_tick_43 : decode cX4_tick 43 = .ok (.istore_n 3, 1) := by decide +kernel
theorem dX4_tick_44 : decode cX4_tick 44 = .ok (.iload_n 3, 1) := by decide +kernel
theorem dX4_tick_45 : decode cX4_tick 45 = .ok (.iload_n 1, 1) := by decide +kernel
theorem dX4_tick_46 : decode cX4_tick 46 = .ok (.if_icmp .ge 16, 3) := by decide +kernel
theorem dX4_tick_49 : decode cX4_tick 49 = .ok (.iload_n 2, 1) := by decide +kernel
theorem dX4_tick_50 : decode cX4_tick 50 = .ok (.aload_n 0, 1) := by decide +kernel
theorem dX4_tick_51 : decode cX4_tick 51 = .ok (.invokevirtual 167, 3) := by decide +kernel
theorem dX4_tick_54 : decode cX4_tick 54 = .ok (.iadd, 1) := by decide +kernel
theorem dX4_tick_55 : decode cX4_tick 55 = .ok (.istore_n 2, 1) := by decide +kernel
theorem dX4_tick_56 : decode cX4_tick 56 = .ok (.iinc 3 1, 3) := by decide +kernel
theorem dX4_tick_59 : decode cX4_tick 59 = .ok (.goto (-15), 3) := by decide +kernel
theorem dX4_tick_62 : decode cX4_tick 62 = .ok (.iload_n 2, 1) := by decide +kernel
theorem dX4_tick_63 : decode cX4_tick 63 = .ok (.ireturn, 1) := by decide +kernel
theorem dX4_time_0 : decode cX4_time 0 = .ok (.aload_n 0, 1) := by decide +kernel
theorem dX4_time_1 : decode cX4_time 1 = .ok (.iconst 0, 1) := by decide +kernel
theorem dX4_time_2 : decode cX4_time 2 = .ok (.putfield 90, 3) := by decide +kernel
theorem dX4_time_5 : decode cX4_time 5 = .ok (.aload_n 0, 1) := by decide +kernel
theorem dX4_time_6 : decode cX4_time 6 = .ok (.getfield 118, 3) := by decide +kernel
theorem dX4_time_9 : decode cX4_time 9 = .ok (.ireturn, 1) := by decide +kernel
theorem dJ9_max_7cf53_0 : decode cJ9_max_7cf53 0 = .ok (.iload_n 0, 1) := by decide +kernel
theorem dJ9_max_7cf53_1 : decode cJ9_max_7cf53 1 = .ok (.iload_n 1, 1) := by decide +kernel
theorem dJ9_max_7cf53_2 : decode cJ9_max_7cf53 2 = .ok (.if_icmp .lt 7, 3) := by decide +kernel
theorem dJ9_max_7cf53_5 : decode cJ9_max_7cf53 5 = .ok (.iload_n 0, 1) := by decide +kernel
theorem dJ9_max_7cf53_6 : decode cJ9_max_7cf53 6 = .ok (.goto 4, 3) := by decide +kernel
theorem dJ9_max_7cf53_9 : decode cJ9_max_7cf53 9 = .ok (.iload_n 1, 1) := by decide +kernel
theorem dJ9_max_7cf53_10 : decode cJ9_max_7cf53 10 = .ok (.ireturn, 1) := by decide +kernel
theorem dJ9_min_7cf53_0 : decode cJ9_min_7cf53 0 = .ok (.iload_n 0, 1) := by decide +kernel
theorem dJ9_min_7cf53_1 : decode cJ9_min_7cf53 1 = .ok (.iload_n 1, 1) := by decide +kernel
theorem dJ9_min_7cf53_2 : decode cJ9_min_7cf53 2 = .ok (.if_icmp .gt 7, 3) := by decide +kernel
theorem dJ9_min_7cf53_5 : decode cJ9_min_7cf53 5 = .ok (.iload_n 0, 1) := by decide +kernel
theorem dJ9_min_7cf53_6 : decode cJ9_min_7cf53 6 = .ok (.goto 4, 3) := by decide +kernel
theorem dJ9_min_7cf53_9 : decode cJ9_min_7cf53 9 = .ok (.iload_n 1, 1) := by decide +kernel
theorem dJ9_min_7cf53_10 : decode cJ9_min_7cf53 10 = .ok (.ireturn, 1) := by decide +kernel
end
section
set_option maxRecDepth 20000 in
theorem ggL_shape_X3_shape : GoodIn wsL_shape wsX3_shape := goodIn_ca (goodIn_r _ [6, 7, 8, 9, 10, 11, 5, 12, 13, 14, 15, 16, 17, 18, 19, 20, 21, 22, 23, 24, 25, 26, 27, 28, 29] (by decide +kernel) (by decide +kernel)) (goodIn_sub (fun _ h => List.mem_cons_of_mem _ (List.mem_append_right _ h)) (by decide +kernel))
set_option maxRecDepth 20000 in
theorem gL_shape_X3_shape : GoodIn wsL_shape (wsV RL 7 RX3 yX3_shape wsX3_shape) := goodIn_app (goodIn_of _ (by decide +kernel)) ggL_shape_X3_shape
theorem dL_shape_0 : decode cL_shape 0 = .ok (.aload_n 0, 1) := by decide +kernel
theorem dL_shape_1 : decode cL_shape 1 = .ok (.iload_n 1, 1) := by decide +kernel
theorem dL_shape_2 : decode cL_shape 2 = .ok (.iload_n 2, 1) := by decide +kernel
theorem dL_shape_3 : decode cL_shape 3 = .ok (.iload_n 3, 1) := by decide +kernel
theorem dL_shape_4 : decode cL_shape 4 = .ok (.invokevirtual 7, 3) := by decide +kernel
theorem dL_shape_7 : decode cL_shape 7 = .ok (.goto 7, 3) := by decide +kernel
theorem dL_shape_10 : decode cL_shape 10 = .ok (.astore 4, 2) := by decide +kernel
theorem dL_shape_12 : decode cL_shape 12 = .ok (.iconst 1, 1) := by decide +kernel
theorem dL_shape_13 : decode cL_shape 13 = .ok (.ireturn, 1) := by decide +kernel
theorem dL_shape_14 : decode cL_shape 14 = .ok (.iconst 0, 1) := by decide +kernel
theorem dL_shape_15 : decode cL_shape 15 = .ok (.ireturn, 1) := by decide +kernel
set_option maxRecDepth 20000 in
theorem ggL_setGauge_X3_setGauge : GoodIn wsL_setGauge wsX3_setGauge := goodIn_ca (goodIn_r _ [6, 7, 8, 9, 10, 5, 11, 12, 13, 14, 15, 16, 17, 18, 19, 20, 21, 22, 23, 24, 25, 26, 27, 28] (by decide +kernel) (by decide +kernel)) (goodIn_sub (fun _ h => List.mem_cons_of_mem _ (List.mem_append_right _ h)) (by decide +kernel))
set_option maxRecDepth 20000 in
theorem gL_setGauge_X3_setGauge : GoodIn wsL_setGauge (wsV RL 15 RX3 yX3_setGauge wsX3_setGauge) := goodIn_app (goodIn_of _ (by decide +kernel)) ggL_setGauge_X3_setGauge
theorem dL_setGauge_0 : decode cL_setGauge 0 = .ok (.aload_n 3, 1) := by decide +kernel
theorem dL_setGauge_1 : decode cL_setGauge 1 = .ok (.iconst 0, 1) := by decide +kernel
theorem dL_setGauge_2 : decode cL_setGauge 2 = .ok (.aload_n 0, 1) := by decide +kernel
theorem dL_setGauge_3 : decode cL_setGauge 3 = .ok (.iload_n 1, 1) := by decide +kernel
theorem dL_setGauge_4 : decode cL_setGauge 4 = .ok (.iload_n 2, 1) := by decide +kernel
theorem dL_setGauge_5 : decode cL_setGauge 5 = .ok (.invokevirtual 15, 3) := by decide +kernel
theorem dL_setGauge_8 : decode cL_setGauge 8 = .ok (.i2l, 1) := by decide +kernel
theorem dL_setGauge_9 : decode cL_setGauge 9 = .ok (.lastore, 1) := by decide +kernel
theorem dL_setGauge_10 : decode cL_setGauge 10 = .ok (.goto 7, 3) := by decide +kernel
theorem dL_setGauge_13 : decode cL_setGauge 13 = .ok (.astore 4, 2) := by decide +kernel
theorem dL_setGauge_15 : decode cL_setGauge 15 = .ok (.iconst 1, 1) := by decide +kernel
theorem dL_setGauge_16 : decode cL_setGauge 16 = .ok (.ireturn, 1) := by decide +kernel
theorem dL_setGauge_17 : decode cL_setGauge 17 = .ok (.iconst 0, 1) := by decide +kernel
theorem dL_setGauge_18 : decode cL_setGauge 18 = .ok (.ireturn, 1) := by decide +kernel
set_option maxRecDepth 20000 in
theorem ggL_setSource_X3_setSource : GoodIn wsL_setSource wsX3_setSource := goodIn_ca (goodIn_r _ [6, 7, 8, 9, 10, 5, 11, 12, 13, 14, 15, 16, 17, 18, 19, 20, 21, 22, 23, 24, 25] (by decide +kernel) (by decide +kernel)) (goodIn_sub (fun _ h => List.mem_cons_of_mem _ (List.mem_append_right _ h)) (by decide +kernel))
set_option maxRecDepth 20000 in
theorem gL_setSource_X3_setSource : GoodIn wsL_setSource (wsV RL 19 RX3 yX3_setSource wsX3_setSource) := goodIn_app (goodIn_of _ (by decide +kernel)) ggL_setSource_X3_setSource
theorem dL_setSource_0 : decode cL_setSource 0 = .ok (.aload_n 2, 1) := by decide +kernel
theorem dL_setSource_1 : decode cL_setSource 1 = .ok (.iconst 0, 1) := by decide +kernel
theorem dL_setSource_2 : decode cL_setSource 2 = .ok (.aload_n 0, 1) := by decide +kernel
theorem dL_setSource_3 : decode cL_setSource 3 = .ok (.iload_n 1, 1) := by decide +kernel
theorem dL_setSource_4 : decode cL_setSource 4 = .ok (.invokevirtual 19, 3) := by decide +kernel
theorem dL_setSource_7 : decode cL_setSource 7 = .ok (.i2l, 1) := by decide +kernel
theorem dL_setSource_8 : decode cL_setSource 8 = .ok (.lastore, 1) := by decide +kernel
theorem dL_setSource_9 : decode cL_setSource 9 = .ok (.goto 6, 3) := by decide +kernel
theorem dL_setSource_12 : decode cL_setSource 12 = .ok (.astore_n 3, 1) := by decide +kernel
theorem dL_setSource_13 : decode cL_setSource 13 = .ok (.iconst 1, 1) := by decide +kernel
theorem dL_setSource_14 : decode cL_setSource 14 = .ok (.ireturn, 1) := by decide +kernel
theorem dL_setSource_15 : decode cL_setSource 15 = .ok (.iconst 0, 1) := by decide +kernel
theorem dL_setSource_16 : decode cL_setSource 16 = .ok (.ireturn, 1) := by decide +kernel
set_option maxRecDepth 20000 in
theorem ggL_rain_X3_rain : GoodIn wsL_rain wsX3_rain := goodIn_ca (goodIn_r _ [6, 7, 8, 9, 10, 5, 11, 12, 13, 14, 15, 16, 17, 18, 19, 20, 21, 22, 23, 24, 25, 26, 27, 28] (by decide +kernel) (by decide +kernel)) (goodIn_sub (fun _ h => List.mem_cons_of_mem _ (List.mem_append_right _ h)) (by decide +kernel))
set_option maxRecDepth 20000 in
theorem gL_rain_X3_rain : GoodIn wsL_rain (wsV RL 23 RX3 yX3_rain wsX3_rain) := goodIn_app (goodIn_of _ (by decide +kernel)) ggL_rain_X3_rain
theorem dL_rain_0 : decode cL_rain 0 = .ok (.aload_n 3, 1) := by decide +kernel
theorem dL_rain_1 : decode cL_rain 1 = .ok (.iconst 0, 1) := by decide +kernel
theorem dL_rain_2 : decode cL_rain 2 = .ok (.aload_n 0, 1) := by decide +kernel
theorem dL_rain_3 : decode cL_rain 3 = .ok (.iload_n 1, 1) := by decide +kernel
theorem dL_rain_4 : decode cL_rain 4 = .ok (.iload_n 2, 1) := by decide +kernel
theorem dL_rain_5 : decode cL_rain 5 = .ok (.invokevirtual 23, 3) := by decide +kernel
theorem dL_rain_8 : decode cL_rain 8 = .ok (.i2l, 1) := by decide +kernel
theorem dL_rain_9 : decode cL_rain 9 = .ok (.lastore, 1) := by decide +kernel
theorem dL_rain_10 : decode cL_rain 10 = .ok (.goto 7, 3) := by decide +kernel
theorem dL_rain_13 : decode cL_rain 13 = .ok (.astore 4, 2) := by decide +kernel
theorem dL_rain_15 : decode cL_rain 15 = .ok (.iconst 1, 1) := by decide +kernel
theorem dL_rain_16 : decode cL_rain 16 = .ok (.ireturn, 1) := by decide +kernel
theorem dL_rain_17 : decode cL_rain 17 = .ok (.iconst 0, 1) := by decide +kernel
theorem dL_rain_18 : decode cL_rain 18 = .ok (.ireturn, 1) := by decide +kernel
set_option maxRecDepth 20000 in
theorem ggL_volume_X3_volume : GoodIn wsL_volume wsX3_volume := goodIn_ca (goodIn_r _ [6, 7, 8, 9, 10, 5, 11, 12, 13, 14, 15, 16, 17, 18, 19, 20, 21, 22, 23, 24, 25, 26, 27, 28] (by decide +kernel) (by decide +kernel)) (goodIn_sub (fun _ h => List.mem_cons_of_mem _ (List.mem_append_right _ h)) (by decide +kernel))
set_option maxRecDepth 20000 in
theorem gL_volume_X3_volume : GoodIn wsL_volume (wsV RL 26 RX3 yX3_volume wsX3_volume) := goodIn_app (goodIn_of _ (by decide +kernel)) ggL_volume_X3_volume
theorem dL_volume_0 : decode cL_volume 0 = .ok (.aload_n 2, 1) := by decide +kernel
theorem dL_volume_1 : decode cL_volume 1 = .ok (.iconst 0, 1) := by decide +kernel
theorem dL_volume_2 : decode cL_volume 2 = .ok (.aload_n 0, 1) := by decide +kernel
theorem dL_volume_3 : decode cL_volume 3 = .ok (.iload_n 1, 1) := by decide +kernel
theorem dL_volume_4 : decode cL_volume 4 = .ok (.invokevirtual 26, 3) := by decide +kernel
theorem dL_volume_7 : decode cL_volume 7 = .ok (.i2l, 1) := by decide +kernel
theorem dL_volume_8 : decode cL_volume 8 = .ok (.lastore, 1) := by decide +kernel
theorem dL_volume_9 : decode cL_volume 9 = .ok (.goto 6, 3) := by decide +kernel
theorem dL_volume_12 : decode cL_volume 12 = .ok (.astore_n 3, 1) := by decide +kernel
theorem dL_volume_13 : decode cL_volume 13 = .ok (.iconst 1, 1) := by decide +kernel
theorem dL_volume_14 : decode cL_volume 14 = .ok (.ireturn, 1) := by decide +kernel
theorem dL_volume_15 : decode cL_volume 15 = .ok (.iconst 0, 1) := by decide +kernel
theorem dL_volume_16 : decode cL_volume 16 = .ok (.ireturn, 1) := by decide +kernel
set_option maxRecDepth 20000 in
theorem ggL_volumeByBalance_X3_volumeByBalance : GoodIn wsL_volumeByBalance wsX3_volumeByBalance := goodIn_ca (goodIn_r _ [6, 7, 8, 9, 5, 10, 11, 12, 13, 14, 15, 16, 17, 18, 19, 20, 21, 22, 23, 24, 25, 26, 27, 28, 29, 30, 31, 32, 33, 34, 35] (by decide +kernel) (by decide +kernel)) (goodIn_sub (fun _ h => List.mem_cons_of_mem _ (List.mem_append_right _ h)) (by decide +kernel))
set_option maxRecDepth 20000 in
theorem gL_volumeByBalance_X3_volumeByBalance : GoodIn wsL_volumeByBalance (wsV RL 29 RX3 yX3_volumeByBalance wsX3_volumeByBalance) := goodIn_app (goodIn_of _ (by decide +kernel)) ggL_volumeByBalance_X3_volumeByBalance
theorem dL_volumeByBalance_0 : decode cL_volumeByBalance 0 = .ok (.aload_n 2, 1) := by decide +kernel
theorem dL_volumeByBalance_1 : decode cL_volumeByBalance 1 = .ok (.iconst 0, 1) := by decide +kernel
theorem dL_volumeByBalance_2 : decode cL_volumeByBalance 2 = .ok (.aload_n 0, 1) := by decide +kernel
theorem dL_volumeByBalance_3 : decode cL_volumeByBalance 3 = .ok (.iload_n 1, 1) := by decide +kernel
theorem dL_volumeByBalance_4 : decode cL_volumeByBalance 4 = .ok (.invokevirtual 29, 3) := by decide +kernel
theorem dL_volumeByBalance_7 : decode cL_volumeByBalance 7 = .ok (.i2l, 1) := by decide +kernel
theorem dL_volumeByBalance_8 : decode cL_volumeByBalance 8 = .ok (.lastore, 1) := by decide +kernel
theorem dL_volumeByBalance_9 : decode cL_volumeByBalance 9 = .ok (.goto 6, 3) := by decide +kernel
theorem dL_volumeByBalance_12 : decode cL_volumeByBalance 12 = .ok (.astore_n 3, 1) := by decide +kernel
theorem dL_volumeByBalance_13 : decode cL_volumeByBalance 13 = .ok (.iconst 1, 1) := by decide +kernel
theorem dL_volumeByBalance_14 : decode cL_volumeByBalance 14 = .ok (.ireturn, 1) := by decide +kernel
theorem dL_volumeByBalance_15 : decode cL_volumeByBalance 15 = .ok (.iconst 0, 1) := by decide +kernel
theorem dL_volumeByBalance_16 : decode cL_volumeByBalance 16 = .ok (.ireturn, 1) := by decide +kernel
set_option maxRecDepth 20000 in
theorem ggL_level_X3_level : GoodIn wsL_level wsX3_level := goodIn_ca (goodIn_r _ [6, 7, 8, 9, 5, 10, 11, 12, 13, 14, 15, 16, 17, 18, 19, 20, 21, 22, 23, 24, 25, 26, 27, 28, 29, 30, 31, 32, 33, 34] (by decide +kernel) (by decide +kernel)) (goodIn_sub (fun _ h => List.mem_cons_of_mem _ (List.mem_append_right _ h)) (by decide +kernel))
set_option maxRecDepth 20000 in
theorem gL_level_X3_level : GoodIn wsL_level (wsV RL 32 RX3 yX3_level wsX3_level) := goodIn_app (goodIn_of _ (by decide +kernel)) ggL_level_X3_level
theorem dL_level_0 : decode cL_level 0 = .ok (.aload_n 2, 1) := by decide +kernel
theorem dL_level_1 : decode cL_level 1 = .ok (.iconst 0, 1) := by decide +kernel
theorem dL_level_2 : decode cL_level 2 = .ok (.aload_n 0, 1) := by decide +kernel
theorem dL_level_3 : decode cL_level 3 = .ok (.iload_n 1, 1) := by decide +kernel
theorem dL_level_4 : decode cL_level 4 = .ok (.invokevirtual 32, 3) := by decide +kernel
theorem dL_level_7 : decode cL_level 7 = .ok (.i2l, 1) := by decide +kernel
theorem dL_level_8 : decode cL_level 8 = .ok (.lastore, 1) := by decide +kernel
theorem dL_level_9 : decode cL_level 9 = .ok (.goto 6, 3) := by decide +kernel
theorem dL_level_12 : decode cL_level 12 = .ok (.astore_n 3, 1) := by decide +kernel
theorem dL_level_13 : decode cL_level 13 = .ok (.iconst 1, 1) := by decide +kernel
theorem dL_level_14 : decode cL_level 14 = .ok (.ireturn, 1) := by decide +kernel
theorem dL_level_15 : decode cL_level 15 = .ok (.iconst 0, 1) := by decide +kernel
theorem dL_level_16 : decode cL_level 16 = .ok (.ireturn, 1) := by decide +kernel
set_option maxRecDepth 20000 in
theorem ggL_flowed_X3_flowed : GoodIn wsL_flowed wsX3_flowed := goodIn_ca (goodIn_r _ [6, 7, 8, 9, 10, 5, 11, 12, 13, 14, 15, 16, 17, 18, 19, 20, 21, 22, 23, 24, 25, 26, 27, 28] (by decide +kernel) (by decide +kernel)) (goodIn_sub (fun _ h => List.mem_cons_of_mem _ (List.mem_append_right _ h)) (by decide +kernel))
set_option maxRecDepth 20000 in
theorem gL_flowed_X3_flowed : GoodIn wsL_flowed (wsV RL 35 RX3 yX3_flowed wsX3_flowed) := goodIn_app (goodIn_of _ (by decide +kernel)) ggL_flowed_X3_flowed
theorem dL_flowed_0 : decode cL_flowed 0 = .ok (.aload_n 2, 1) := by decide +kernel
theorem dL_flowed_1 : decode cL_flowed 1 = .ok (.iconst 0, 1) := by decide +kernel
theorem dL_flowed_2 : decode cL_flowed 2 = .ok (.aload_n 0, 1) := by decide +kernel
theorem dL_flowed_3 : decode cL_flowed 3 = .ok (.iload_n 1, 1) := by decide +kernel
theorem dL_flowed_4 : decode cL_flowed 4 = .ok (.invokevirtual 35, 3) := by decide +kernel
theorem dL_flowed_7 : decode cL_flowed 7 = .ok (.i2l, 1) := by decide +kernel
theorem dL_flowed_8 : decode cL_flowed 8 = .ok (.lastore, 1) := by decide +kernel
theorem dL_flowed_9 : decode cL_flowed 9 = .ok (.goto 6, 3) := by decide +kernel
theorem dL_flowed_12 : decode cL_flowed 12 = .ok (.astore_n 3, 1) := by decide +kernel
theorem dL_flowed_13 : decode cL_flowed 13 = .ok (.iconst 1, 1) := by decide +kernel
theorem dL_flowed_14 : decode cL_flowed 14 = .ok (.ireturn, 1) := by decide +kernel
theorem dL_flowed_15 : decode cL_flowed 15 = .ok (.iconst 0, 1) := by decide +kernel
theorem dL_flowed_16 : decode cL_flowed 16 = .ok (.ireturn, 1) := by decide +kernel
set_option maxRecDepth 20000 in
theorem ggL_spilled_X3_spilled : GoodIn wsL_spilled wsX3_spilled := goodIn_ca (goodIn_r _ [6, 7, 8, 9, 10, 5, 11, 12, 13, 14, 15, 16, 17, 18, 19, 20, 21, 22, 23, 24, 25, 26, 27, 28] (by decide +kernel) (by decide +kernel)) (goodIn_sub (fun _ h => List.mem_cons_of_mem _ (List.mem_append_right _ h)) (by decide +kernel))
set_option maxRecDepth 20000 in
theorem gL_spilled_X3_spilled : GoodIn wsL_spilled (wsV RL 38 RX3 yX3_spilled wsX3_spilled) := goodIn_app (goodIn_of _ (by decide +kernel)) ggL_spilled_X3_spilled
theorem dL_spilled_0 : decode cL_spilled 0 = .ok (.aload_n 2, 1) := by decide +kernel
theorem dL_spilled_1 : decode cL_spilled 1 = .ok (.iconst 0, 1) := by decide +kernel
theorem dL_spilled_2 : decode cL_spilled 2 = .ok (.aload_n 0, 1) := by decide +kernel
theorem dL_spilled_3 : decode cL_spilled 3 = .ok (.iload_n 1, 1) := by decide +kernel
theorem dL_spilled_4 : decode cL_spilled 4 = .ok (.invokevirtual 38, 3) := by decide +kernel
theorem dL_spilled_7 : decode cL_spilled 7 = .ok (.i2l, 1) := by decide +kernel
theorem dL_spilled_8 : decode cL_spilled 8 = .ok (.lastore, 1) := by decide +kernel
theorem dL_spilled_9 : decode cL_spilled 9 = .ok (.goto 6, 3) := by decide +kernel
theorem dL_spilled_12 : decode cL_spilled 12 = .ok (.astore_n 3, 1) := by decide +kernel
theorem dL_spilled_13 : decode cL_spilled 13 = .ok (.iconst 1, 1) := by decide +kernel
theorem dL_spilled_14 : decode cL_spilled 14 = .ok (.ireturn, 1) := by decide +kernel
theorem dL_spilled_15 : decode cL_spilled 15 = .ok (.iconst 0, 1) := by decide +kernel
theorem dL_spilled_16 : decode cL_spilled 16 = .ok (.ireturn, 1) := by decide +kernel
set_option maxRecDepth 20000 in
theorem ggL_setRule_X3_setRule : GoodIn wsL_setRule wsX3_setRule := goodIn_ca (goodIn_r _ [6, 7, 8, 9, 10, 11, 12, 13, 5, 14, 15, 16, 17, 18, 19, 20, 21, 22, 23, 24, 25, 26, 27, 28, 29, 30, 31] (by decide +kernel) (by decide +kernel)) (goodIn_sub (fun _ h => List.mem_cons_of_mem _ (List.mem_append_right _ h)) (by decide +kernel))
set_option maxRecDepth 20000 in
theorem gL_setRule_X3_setRule : GoodIn wsL_setRule (wsV RL 41 RX3 yX3_setRule wsX3_setRule) := goodIn_app (goodIn_of _ (by decide +kernel)) ggL_setRule_X3_setRule
theorem dL_setRule_0 : decode cL_setRule 0 = .ok (.aload_n 0, 1) := by decide +kernel
theorem dL_setRule_1 : decode cL_setRule 1 = .ok (.iload_n 1, 1) := by decide +kernel
theorem dL_setRule_2 : decode cL_setRule 2 = .ok (.iload_n 2, 1) := by decide +kernel
theorem dL_setRule_3 : decode cL_setRule 3 = .ok (.iload_n 3, 1) := by decide +kernel
theorem dL_setRule_4 : decode cL_setRule 4 = .ok (.iload 4, 2) := by decide +kernel
theorem dL_setRule_6 : decode cL_setRule 6 = .ok (.iload 5, 2) := by decide +kernel
theorem dL_setRule_8 : decode cL_setRule 8 = .ok (.invokevirtual 41, 3) := by decide +kernel
theorem dL_setRule_11 : decode cL_setRule 11 = .ok (.goto 7, 3) := by decide +kernel
theorem dL_setRule_14 : decode cL_setRule 14 = .ok (.astore 6, 2) := by decide +kernel
theorem dL_setRule_16 : decode cL_setRule 16 = .ok (.iconst 1, 1) := by decide +kernel
theorem dL_setRule_17 : decode cL_setRule 17 = .ok (.ireturn, 1) := by decide +kernel
theorem dL_setRule_18 : decode cL_setRule 18 = .ok (.iconst 0, 1) := by decide +kernel
theorem dL_setRule_19 : decode cL_setRule 19 = .ok (.ireturn, 1) := by decide +kernel
set_option maxRecDepth 20000 in
theorem ggL_byHand_X3_byHand : GoodIn wsL_byHand wsX3_byHand := goodIn_ca (goodIn_ca (goodIn_r _ [7, 8, 9, 10, 11, 12, 13, 14, 6, 15, 16, 17, 18, 19, 20, 21, 22, 23, 24, 25, 26, 27, 28, 29, 30, 31, 32] (by decide +kernel) (by decide +kernel)) (goodIn_sub (fun _ h => List.mem_cons_of_mem _ (List.mem_append_left _ (List.mem_append_right _ h))) (by decide +kernel))) (goodIn_sub (fun _ h => List.mem_cons_of_mem _ (List.mem_append_right _ h)) (by decide +kernel))
set_option maxRecDepth 20000 in
theorem gL_byHand_X3_byHand : GoodIn wsL_byHand (wsV RL 45 RX3 yX3_byHand wsX3_byHand) := goodIn_app (goodIn_of _ (by decide +kernel)) ggL_byHand_X3_byHand
theorem dL_byHand_0 : decode cL_byHand 0 = .ok (.aload_n 3, 1) := by decide +kernel
theorem dL_byHand_1 : decode cL_byHand 1 = .ok (.iconst 0, 1) := by decide +kernel
theorem dL_byHand_2 : decode cL_byHand 2 = .ok (.aload_n 0, 1) := by decide +kernel
theorem dL_byHand_3 : decode cL_byHand 3 = .ok (.iload_n 1, 1) := by decide +kernel
theorem dL_byHand_4 : decode cL_byHand 4 = .ok (.iload_n 2, 1) := by decide +kernel
theorem dL_byHand_5 : decode cL_byHand 5 = .ok (.invokevirtual 45, 3) := by decide +kernel
theorem dL_byHand_8 : decode cL_byHand 8 = .ok (.i2l, 1) := by decide +kernel
theorem dL_byHand_9 : decode cL_byHand 9 = .ok (.lastore, 1) := by decide +kernel
theorem dL_byHand_10 : decode cL_byHand 10 = .ok (.goto 11, 3) := by decide +kernel
theorem dL_byHand_13 : decode cL_byHand 13 = .ok (.astore 4, 2) := by decide +kernel
theorem dL_byHand_15 : decode cL_byHand 15 = .ok (.iconst 1, 1) := by decide +kernel
theorem dL_byHand_16 : decode cL_byHand 16 = .ok (.ireturn, 1) := by decide +kernel
theorem dL_byHand_17 : decode cL_byHand 17 = .ok (.astore 4, 2) := by decide +kernel
theorem dL_byHand_19 : decode cL_byHand 19 = .ok (.iconst 2, 1) := by decide +kernel
theorem dL_byHand_20 : decode cL_byHand 20 = .ok (.ireturn, 1) := by decide +kernel
theorem dL_byHand_21 : decode cL_byHand 21 = .ok (.iconst 0, 1) := by decide +kernel
theorem dL_byHand_22 : decode cL_byHand 22 = .ok (.ireturn, 1) := by decide +kernel
set_option maxRecDepth 20000 in
theorem ggL_opening_X3_opening : GoodIn wsL_opening wsX3_opening := goodIn_ca (goodIn_r _ [6, 7, 8, 9, 10, 5, 11, 12, 13, 14, 15, 16, 17, 18, 19, 20, 21, 22, 23, 24, 25, 26, 27, 28] (by decide +kernel) (by decide +kernel)) (goodIn_sub (fun _ h => List.mem_cons_of_mem _ (List.mem_append_right _ h)) (by decide +kernel))
set_option maxRecDepth 20000 in
theorem gL_opening_X3_opening : GoodIn wsL_opening (wsV RL 50 RX3 yX3_opening wsX3_opening) := goodIn_app (goodIn_of _ (by decide +kernel)) ggL_opening_X3_opening
theorem dL_opening_0 : decode cL_opening 0 = .ok (.aload_n 2, 1) := by decide +kernel
theorem dL_opening_1 : decode cL_opening 1 = .ok (.iconst 0, 1) := by decide +kernel
theorem dL_opening_2 : decode cL_opening 2 = .ok (.aload_n 0, 1) := by decide +kernel
theorem dL_opening_3 : decode cL_opening 3 = .ok (.iload_n 1, 1) := by decide +kernel
theorem dL_opening_4 : decode cL_opening 4 = .ok (.invokevirtual 50, 3) := by decide +kernel
theorem dL_opening_7 : decode cL_opening 7 = .ok (.i2l, 1) := by decide +kernel
theorem dL_opening_8 : decode cL_opening 8 = .ok (.lastore, 1) := by decide +kernel
theorem dL_opening_9 : decode cL_opening 9 = .ok (.goto 6, 3) := by decide +kernel
theorem dL_opening_12 : decode cL_opening 12 = .ok (.astore_n 3, 1) := by decide +kernel
theorem dL_opening_13 : decode cL_opening 13 = .ok (.iconst 1, 1) := by decide +kernel
theorem dL_opening_14 : decode cL_opening 14 = .ok (.ireturn, 1) := by decide +kernel
theorem dL_opening_15 : decode cL_opening 15 = .ok (.iconst 0, 1) := by decide +kernel
theorem dL_opening_16 : decode cL_opening 16 = .ok (.ireturn, 1) := by decide +kernel
set_option maxRecDepth 20000 in
theorem ggL_safety_X3_safety : GoodIn wsL_safety wsX3_safety := goodIn_ca (goodIn_r _ [6, 7, 8, 9, 10, 5, 11, 12, 13, 14, 15, 16, 17, 18, 19, 20, 21, 22, 23, 24, 25, 26, 27, 28] (by decide +kernel) (by decide +kernel)) (goodIn_sub (fun _ h => List.mem_cons_of_mem _ (List.mem_append_right _ h)) (by decide +kernel))
set_option maxRecDepth 20000 in
theorem gL_safety_X3_safety : GoodIn wsL_safety (wsV RL 53 RX3 yX3_safety wsX3_safety) := goodIn_app (goodIn_of _ (by decide +kernel)) ggL_safety_X3_safety
theorem dL_safety_0 : decode cL_safety 0 = .ok (.aload_n 2, 1) := by decide +kernel
theorem dL_safety_1 : decode cL_safety 1 = .ok (.iconst 0, 1) := by decide +kernel
theorem dL_safety_2 : decode cL_safety 2 = .ok (.aload_n 0, 1) := by decide +kernel
theorem dL_safety_3 : decode cL_safety 3 = .ok (.iload_n 1, 1) := by decide +kernel
theorem dL_safety_4 : decode cL_safety 4 = .ok (.invokevirtual 53, 3) := by decide +kernel
theorem dL_safety_7 : decode cL_safety 7 = .ok (.i2l, 1) := by decide +kernel
theorem dL_safety_8 : decode cL_safety 8 = .ok (.lastore, 1) := by decide +kernel
theorem dL_safety_9 : decode cL_safety 9 = .ok (.goto 6, 3) := by decide +kernel
theorem dL_safety_12 : decode cL_safety 12 = .ok (.astore_n 3, 1) := by decide +kernel
theorem dL_safety_13 : decode cL_safety 13 = .ok (.iconst 1, 1) := by decide +kernel
theorem dL_safety_14 : decode cL_safety 14 = .ok (.ireturn, 1) := by decide +kernel
theorem dL_safety_15 : decode cL_safety 15 = .ok (.iconst 0, 1) := by decide +kernel
theorem dL_safety_16 : decode cL_safety 16 = .ok (.ireturn, 1) := by decide +kernel
set_option maxRecDepth 20000 in
theorem ggL_fall_X3_fall : GoodIn wsL_fall wsX3_fall := goodIn_ca (goodIn_ca (goodIn_r _ [7, 8, 9, 10, 11, 12, 13, 6, 14, 15, 16, 17, 18, 19, 20, 21, 22, 23, 24, 25, 26, 27, 28, 29, 30, 31, 32, 33, 34, 35] (by decide +kernel) (by decide +kernel)) (goodIn_sub (fun _ h => List.mem_cons_of_mem _ (List.mem_append_left _ (List.mem_append_right _ h))) (by decide +kernel))) (goodIn_sub (fun _ h => List.mem_cons_of_mem _ (List.mem_append_right _ h)) (by decide +kernel))
set_option maxRecDepth 20000 in
theorem gL_fall_X3_fall : GoodIn wsL_fall (wsV RL 56 RX3 yX3_fall wsX3_fall) := goodIn_app (goodIn_of _ (by decide +kernel)) ggL_fall_X3_fall
theorem dL_fall_0 : decode cL_fall 0 = .ok (.aload_n 0, 1) := by decide +kernel
theorem dL_fall_1 : decode cL_fall 1 = .ok (.iload_n 1, 1) := by decide +kernel
theorem dL_fall_2 : decode cL_fall 2 = .ok (.invokevirtual 56, 3) := by decide +kernel
theorem dL_fall_5 : decode cL_fall 5 = .ok (.goto 9, 3) := by decide +kernel
theorem dL_fall_8 : decode cL_fall 8 = .ok (.astore_n 2, 1) := by decide +kernel
theorem dL_fall_9 : decode cL_fall 9 = .ok (.iconst 1, 1) := by decide +kernel
theorem dL_fall_10 : decode cL_fall 10 = .ok (.ireturn, 1) := by decide +kernel
theorem dL_fall_11 : decode cL_fall 11 = .ok (.astore_n 2, 1) := by decide +kernel
theorem dL_fall_12 : decode cL_fall 12 = .ok (.iconst 2, 1) := by decide +kernel
theorem dL_fall_13 : decode cL_fall 13 = .ok (.ireturn, 1) := by decide +kernel
theorem dL_fall_14 : decode cL_fall 14 = .ok (.iconst 0, 1) := by decide +kernel
theorem dL_fall_15 : decode cL_fall 15 = .ok (.ireturn, 1) := by decide +kernel
set_option maxRecDepth 20000 in
theorem ggL_comeUp_X3_comeUp : GoodIn wsL_comeUp wsX3_comeUp := goodIn_ca (goodIn_ca (goodIn_r _ [7, 8, 9, 10, 11, 12, 13, 14, 15, 6, 16, 17, 18, 19, 20, 21, 22, 23, 24, 25, 26, 27, 28, 29, 30, 31, 32, 33, 34, 35, 36, 37, 38, 39, 40, 41] (by decide +kernel) (by decide +kernel)) (goodIn_sub (fun _ h => List.mem_cons_of_mem _ (List.mem_append_left _ (List.mem_append_right _ h))) (by decide +kernel))) (goodIn_sub (fun _ h => List.mem_cons_of_mem _ (List.mem_append_right _ h)) (by decide +kernel))
set_option maxRecDepth 20000 in
theorem gL_comeUp_X3_comeUp : GoodIn wsL_comeUp (wsV RL 60 RX3 yX3_comeUp wsX3_comeUp) := goodIn_app (goodIn_of _ (by decide +kernel)) ggL_comeUp_X3_comeUp
theorem dL_comeUp_0 : decode cL_comeUp 0 = .ok (.aload_n 0, 1) := by decide +kernel
theorem dL_comeUp_1 : decode cL_comeUp 1 = .ok (.iload_n 1, 1) := by decide +kernel
theorem dL_comeUp_2 : decode cL_comeUp 2 = .ok (.invokevirtual 60, 3) := by decide +kernel
theorem dL_comeUp_5 : decode cL_comeUp 5 = .ok (.goto 9, 3) := by decide +kernel
theorem dL_comeUp_8 : decode cL_comeUp 8 = .ok (.astore_n 2, 1) := by decide +kernel
theorem dL_comeUp_9 : decode cL_comeUp 9 = .ok (.iconst 1, 1) := by decide +kernel
theorem dL_comeUp_10 : decode cL_comeUp 10 = .ok (.ireturn, 1) := by decide +kernel
theorem dL_comeUp_11 : decode cL_comeUp 11 = .ok (.astore_n 2, 1) := by decide +kernel
theorem dL_comeUp_12 : decode cL_comeUp 12 = .ok (.iconst 2, 1) := by decide +kernel
theorem dL_comeUp_13 : decode cL_comeUp 13 = .ok (.ireturn, 1) := by decide +kernel
theorem dL_comeUp_14 : decode cL_comeUp 14 = .ok (.iconst 0, 1) := by decide +kernel
theorem dL_comeUp_15 : decode cL_comeUp 15 = .ok (.ireturn, 1) := by decide +kernel
set_option maxRecDepth 20000 in
theorem ggL_setGroup_X3_setGroup : GoodIn wsL_setGroup wsX3_setGroup := goodIn_ca (goodIn_r _ [6, 7, 8, 9, 10, 5, 11, 12, 13, 14, 15, 16, 17, 18, 19, 20, 21, 22, 23, 24, 25, 26, 27, 28, 29, 30, 31, 32] (by decide +kernel) (by decide +kernel)) (goodIn_sub (fun _ h => List.mem_cons_of_mem _ (List.mem_append_right _ h)) (by decide +kernel))
set_option maxRecDepth 20000 in
theorem gL_setGroup_X3_setGroup : GoodIn wsL_setGroup (wsV RL 63 RX3 yX3_setGroup wsX3_setGroup) := goodIn_app (goodIn_of _ (by decide +kernel)) ggL_setGroup_X3_setGroup
theorem dL_setGroup_0 : decode cL_setGroup 0 = .ok (.aload_n 3, 1) := by decide +kernel
theorem dL_setGroup_1 : decode cL_setGroup 1 = .ok (.iconst 0, 1) := by decide +kernel
theorem dL_setGroup_2 : decode cL_setGroup 2 = .ok (.aload_n 0, 1) := by decide +kernel
theorem dL_setGroup_3 : decode cL_setGroup 3 = .ok (.iload_n 1, 1) := by decide +kernel
theorem dL_setGroup_4 : decode cL_setGroup 4 = .ok (.iload_n 2, 1) := by decide +kernel
theorem dL_setGroup_5 : decode cL_setGroup 5 = .ok (.invokevirtual 63, 3) := by decide +kernel
theorem dL_setGroup_8 : decode cL_setGroup 8 = .ok (.i2l, 1) := by decide +kernel
theorem dL_setGroup_9 : decode cL_setGroup 9 = .ok (.lastore, 1) := by decide +kernel
theorem dL_setGroup_10 : decode cL_setGroup 10 = .ok (.goto 7, 3) := by decide +kernel
theorem dL_setGroup_13 : decode cL_setGroup 13 = .ok (.astore 4, 2) := by decide +kernel
theorem dL_setGroup_15 : decode cL_setGroup 15 = .ok (.iconst 1, 1) := by decide +kernel
theorem dL_setGroup_16 : decode cL_setGroup 16 = .ok (.ireturn, 1) := by decide +kernel
theorem dL_setGroup_17 : decode cL_setGroup 17 = .ok (.iconst 0, 1) := by decide +kernel
theorem dL_setGroup_18 : decode cL_setGroup 18 = .ok (.ireturn, 1) := by decide +kernel
set_option maxRecDepth 20000 in
theorem ggL_setStuck_X3_setStuck : GoodIn wsL_setStuck wsX3_setStuck := goodIn_ca (goodIn_r _ [6, 7, 8, 9, 10, 5, 11, 12, 13, 14, 15, 16, 17, 18, 19, 20, 21, 22, 23, 24, 25, 26, 27, 28, 29, 30, 31, 32] (by decide +kernel) (by decide +kernel)) (goodIn_sub (fun _ h => List.mem_cons_of_mem _ (List.mem_append_right _ h)) (by decide +kernel))
set_option maxRecDepth 20000 in
theorem gL_setStuck_X3_setStuck : GoodIn wsL_setStuck (wsV RL 66 RX3 yX3_setStuck wsX3_setStuck) := goodIn_app (goodIn_of _ (by decide +kernel)) ggL_setStuck_X3_setStuck
theorem dL_setStuck_0 : decode cL_setStuck 0 = .ok (.aload_n 3, 1) := by decide +kernel
theorem dL_setStuck_1 : decode cL_setStuck 1 = .ok (.iconst 0, 1) := by decide +kernel
theorem dL_setStuck_2 : decode cL_setStuck 2 = .ok (.aload_n 0, 1) := by decide +kernel
theorem dL_setStuck_3 : decode cL_setStuck 3 = .ok (.iload_n 1, 1) := by decide +kernel
theorem dL_setStuck_4 : decode cL_setStuck 4 = .ok (.iload_n 2, 1) := by decide +kernel
theorem dL_setStuck_5 : decode cL_setStuck 5 = .ok (.invokevirtual 66, 3) := by decide +kernel
theorem dL_setStuck_8 : decode cL_setStuck 8 = .ok (.ifCond .eq 7, 3) := by decide +kernel
theorem dL_setStuck_11 : decode cL_setStuck 11 = .ok (.lconst 1, 1) := by decide +kernel
theorem dL_setStuck_12 : decode cL_setStuck 12 = .ok (.goto 4, 3) := by decide +kernel
theorem dL_setStuck_15 : decode cL_setStuck 15 = .ok (.lconst 0, 1) := by decide +kernel
theorem dL_setStuck_16 : decode cL_setStuck 16 = .ok (.lastore, 1) := by decide +kernel
theorem dL_setStuck_17 : decode cL_setStuck 17 = .ok (.goto 7, 3) := by decide +kernel
theorem dL_setStuck_20 : decode cL_setStuck 20 = .ok (.astore 4, 2) := by decide +kernel
theorem dL_setStuck_22 : decode cL_setStuck 22 = .ok (.iconst 1, 1) := by decide +kernel
theorem dL_setStuck_23 : decode cL_setStuck 23 = .ok (.ireturn, 1) := by decide +kernel
theorem dL_setStuck_24 : decode cL_setStuck 24 = .ok (.iconst 0, 1) := by decide +kernel
theorem dL_setStuck_25 : decode cL_setStuck 25 = .ok (.ireturn, 1) := by decide +kernel
set_option maxRecDepth 20000 in
theorem ggL_setTimes_X3_setTimes : GoodIn wsL_setTimes wsX3_setTimes := goodIn_ca (goodIn_r _ [6, 7, 8, 9, 10, 11, 5, 12, 13, 14, 15, 16, 17, 18, 19, 20, 21, 22, 23, 24, 25, 26, 27, 28, 29, 30] (by decide +kernel) (by decide +kernel)) (goodIn_sub (fun _ h => List.mem_cons_of_mem _ (List.mem_append_right _ h)) (by decide +kernel))
set_option maxRecDepth 20000 in
theorem gL_setTimes_X3_setTimes : GoodIn wsL_setTimes (wsV RL 70 RX3 yX3_setTimes wsX3_setTimes) := goodIn_app (goodIn_of _ (by decide +kernel)) ggL_setTimes_X3_setTimes
theorem dL_setTimes_0 : decode cL_setTimes 0 = .ok (.aload_n 0, 1) := by decide +kernel
theorem dL_setTimes_1 : decode cL_setTimes 1 = .ok (.iload_n 1, 1) := by decide +kernel
theorem dL_setTimes_2 : decode cL_setTimes 2 = .ok (.iload_n 2, 1) := by decide +kernel
theorem dL_setTimes_3 : decode cL_setTimes 3 = .ok (.invokevirtual 70, 3) := by decide +kernel
theorem dL_setTimes_6 : decode cL_setTimes 6 = .ok (.goto 6, 3) := by decide +kernel
theorem dL_setTimes_9 : decode cL_setTimes 9 = .ok (.astore_n 3, 1) := by decide +kernel
theorem dL_setTimes_10 : decode cL_setTimes 10 = .ok (.iconst 1, 1) := by decide +kernel
theorem dL_setTimes_11 : decode cL_setTimes 11 = .ok (.ireturn, 1) := by decide +kernel
theorem dL_setTimes_12 : decode cL_setTimes 12 = .ok (.iconst 0, 1) := by decide +kernel
theorem dL_setTimes_13 : decode cL_setTimes 13 = .ok (.ireturn, 1) := by decide +kernel
set_option maxRecDepth 20000 in
theorem ggL_believed_X3_believed : GoodIn wsL_believed wsX3_believed := goodIn_ca (goodIn_r _ [6, 7, 8, 9, 10, 5, 11, 12, 13, 14, 15, 16, 17, 18, 19, 20, 21, 22, 23, 24, 25, 26, 27, 28, 29, 30, 31, 32, 33, 34, 35, 36, 37, 38] (by decide +kernel) (by decide +kernel)) (goodIn_sub (fun _ h => List.mem_cons_of_mem _ (List.mem_append_right _ h)) (by decide +kernel))
set_option maxRecDepth 20000 in
theorem gL_believed_X3_believed : GoodIn wsL_believed (wsV RL 74 RX3 yX3_believed wsX3_believed) := goodIn_app (goodIn_of _ (by decide +kernel)) ggL_believed_X3_believed
theorem dL_believed_0 : decode cL_believed 0 = .ok (.aload_n 3, 1) := by decide +kernel
theorem dL_believed_1 : decode cL_believed 1 = .ok (.iconst 0, 1) := by decide +kernel
theorem dL_believed_2 : decode cL_believed 2 = .ok (.aload_n 0, 1) := by decide +kernel
theorem dL_believed_3 : decode cL_believed 3 = .ok (.iload_n 1, 1) := by decide +kernel
theorem dL_believed_4 : decode cL_believed 4 = .ok (.iload_n 2, 1) := by decide +kernel
theorem dL_believed_5 : decode cL_believed 5 = .ok (.invokevirtual 74, 3) := by decide +kernel
theorem dL_believed_8 : decode cL_believed 8 = .ok (.i2l, 1) := by decide +kernel
theorem dL_believed_9 : decode cL_believed 9 = .ok (.lastore, 1) := by decide +kernel
theorem dL_believed_10 : decode cL_believed 10 = .ok (.goto 7, 3) := by decide +kernel
theorem dL_believed_13 : decode cL_believed 13 = .ok (.astore 4, 2) := by decide +kernel
theorem dL_believed_15 : decode cL_believed 15 = .ok (.iconst 1, 1) := by decide +kernel
theorem dL_believed_16 : decode cL_believed 16 = .ok (.ireturn, 1) := by decide +kernel
theorem dL_believed_17 : decode cL_believed 17 = .ok (.iconst 0, 1) := by decide +kernel
theorem dL_believed_18 : decode cL_believed 18 = .ok (.ireturn, 1) := by decide +kernel
set_option maxRecDepth 20000 in
theorem ggL_version_X3_version : GoodIn wsL_version wsX3_version := goodIn_ca (goodIn_r _ [6, 7, 8, 9, 10, 5, 11, 12, 13, 14, 15, 16, 17, 18, 19, 20, 21, 22, 23, 24, 25, 26, 27, 28, 29, 30, 31, 32] (by decide +kernel) (by decide +kernel)) (goodIn_sub (fun _ h => List.mem_cons_of_mem _ (List.mem_append_right _ h)) (by decide +kernel))
set_option maxRecDepth 20000 in
theorem gL_version_X3_version : GoodIn wsL_version (wsV RL 77 RX3 yX3_version wsX3_version) := goodIn_app (goodIn_of _ (by decide +kernel)) ggL_version_X3_version
theorem dL_version_0 : decode cL_version 0 = .ok (.aload_n 3, 1) := by decide +kernel
theorem dL_version_1 : decode cL_version 1 = .ok (.iconst 0, 1) := by decide +kernel
theorem dL_version_2 : decode cL_version 2 = .ok (.aload_n 0, 1) := by decide +kernel
theorem dL_version_3 : decode cL_version 3 = .ok (.iload_n 1, 1) := by decide +kernel
theorem dL_version_4 : decode cL_version 4 = .ok (.iload_n 2, 1) := by decide +kernel
theorem dL_version_5 : decode cL_version 5 = .ok (.invokevirtual 77, 3) := by decide +kernel
theorem dL_version_8 : decode cL_version 8 = .ok (.i2l, 1) := by decide +kernel
theorem dL_version_9 : decode cL_version 9 = .ok (.lastore, 1) := by decide +kernel
theorem dL_version_10 : decode cL_version 10 = .ok (.goto 7, 3) := by decide +kernel
theorem dL_version_13 : decode cL_version 13 = .ok (.astore 4, 2) := by decide +kernel
theorem dL_version_15 : decode cL_version 15 = .ok (.iconst 1, 1) := by decide +kernel
theorem dL_version_16 : decode cL_version 16 = .ok (.ireturn, 1) := by decide +kernel
theorem dL_version_17 : decode cL_version 17 = .ok (.iconst 0, 1) := by decide +kernel
theorem dL_version_18 : decode cL_version 18 = .ok (.ireturn, 1) := by decide +kernel
set_option maxRecDepth 20000 in
theorem ggL_age_X3_age : GoodIn wsL_age wsX3_age := goodIn_ca (goodIn_r _ [6, 7, 8, 9, 10, 11, 5, 12, 13, 14, 15, 16, 17, 18, 19, 20, 21, 22, 23, 24, 25, 26, 27, 28, 29, 30, 31, 32, 33, 34, 35, 36, 37, 38, 39] (by decide +kernel) (by decide +kernel)) (goodIn_sub (fun _ h => List.mem_cons_of_mem _ (List.mem_append_right _ h)) (by decide +kernel))
set_option maxRecDepth 20000 in
theorem gL_age_X3_age : GoodIn wsL_age (wsV RL 80 RX3 yX3_age wsX3_age) := goodIn_app (goodIn_of _ (by decide +kernel)) ggL_age_X3_age
theorem dL_age_0 : decode cL_age 0 = .ok (.aload_n 3, 1) := by decide +kernel
theorem dL_age_1 : decode cL_age 1 = .ok (.iconst 0, 1) := by decide +kernel
theorem dL_age_2 : decode cL_age 2 = .ok (.aload_n 0, 1) := by decide +kernel
theorem dL_age_3 : decode cL_age 3 = .ok (.iload_n 1, 1) := by decide +kernel
theorem dL_age_4 : decode cL_age 4 = .ok (.iload_n 2, 1) := by decide +kernel
theorem dL_age_5 : decode cL_age 5 = .ok (.invokevirtual 80, 3) := by decide +kernel
theorem dL_age_8 : decode cL_age 8 = .ok (.i2l, 1) := by decide +kernel
theorem dL_age_9 : decode cL_age 9 = .ok (.lastore, 1) := by decide +kernel
theorem dL_age_10 : decode cL_age 10 = .ok (.goto 7, 3) := by decide +kernel
theorem dL_age_13 : decode cL_age 13 = .ok (.astore 4, 2) := by decide +kernel
theorem dL_age_15 : decode cL_age 15 = .ok (.iconst 1, 1) := by decide +kernel
theorem dL_age_16 : decode cL_age 16 = .ok (.ireturn, 1) := by decide +kernel
theorem dL_age_17 : decode cL_age 17 = .ok (.iconst 0, 1) := by decide +kernel
theorem dL_age_18 : decode cL_age 18 = .ok (.ireturn, 1) := by decide +kernel
set_option maxRecDepth 20000 in
theorem ggL_beat_X3_beat : GoodIn wsL_beat wsX3_beat := goodIn_ca (goodIn_r _ [6, 7, 8, 9, 10, 5, 11, 12, 13, 14, 15, 16, 17, 18, 19, 20, 21, 22, 23, 24, 25, 26, 27, 28, 29, 30, 31, 32] (by decide +kernel) (by decide +kernel)) (goodIn_sub (fun _ h => List.mem_cons_of_mem _ (List.mem_append_right _ h)) (by decide +kernel))
set_option maxRecDepth 20000 in
theorem gL_beat_X3_beat : GoodIn wsL_beat (wsV RL 83 RX3 yX3_beat wsX3_beat) := goodIn_app (goodIn_of _ (by decide +kernel)) ggL_beat_X3_beat
theorem dL_beat_0 : decode cL_beat 0 = .ok (.aload_n 3, 1) := by decide +kernel
theorem dL_beat_1 : decode cL_beat 1 = .ok (.iconst 0, 1) := by decide +kernel
theorem dL_beat_2 : decode cL_beat 2 = .ok (.aload_n 0, 1) := by decide +kernel
theorem dL_beat_3 : decode cL_beat 3 = .ok (.iload_n 1, 1) := by decide +kernel
theorem dL_beat_4 : decode cL_beat 4 = .ok (.iload_n 2, 1) := by decide +kernel
theorem dL_beat_5 : decode cL_beat 5 = .ok (.invokevirtual 83, 3) := by decide +kernel
theorem dL_beat_8 : decode cL_beat 8 = .ok (.i2l, 1) := by decide +kernel
theorem dL_beat_9 : decode cL_beat 9 = .ok (.lastore, 1) := by decide +kernel
theorem dL_beat_10 : decode cL_beat 10 = .ok (.goto 7, 3) := by decide +kernel
theorem dL_beat_13 : decode cL_beat 13 = .ok (.astore 4, 2) := by decide +kernel
theorem dL_beat_15 : decode cL_beat 15 = .ok (.iconst 1, 1) := by decide +kernel
theorem dL_beat_16 : decode cL_beat 16 = .ok (.ireturn, 1) := by decide +kernel
theorem dL_beat_17 : decode cL_beat 17 = .ok (.iconst 0, 1) := by decide +kernel
theorem dL_beat_18 : decode cL_beat 18 = .ok (.ireturn, 1) := by decide +kernel
set_option maxRecDepth 20000 in
theorem ggL_status_X3_status : GoodIn wsL_status wsX3_status := goodIn_ca (goodIn_r _ [6, 7, 8, 9, 10, 5, 11, 12, 13, 14, 15, 16, 17, 18, 19, 20, 21, 22, 23, 24, 25, 26, 27, 28, 29, 30, 31, 32] (by decide +kernel) (by decide +kernel)) (goodIn_sub (fun _ h => List.mem_cons_of_mem _ (List.mem_append_right _ h)) (by decide +kernel))
set_option maxRecDepth 20000 in
theorem gL_status_X3_status : GoodIn wsL_status (wsV RL 86 RX3 yX3_status wsX3_status) := goodIn_app (goodIn_of _ (by decide +kernel)) ggL_status_X3_status
theorem dL_status_0 : decode cL_status 0 = .ok (.aload_n 3, 1) := by decide +kernel
theorem dL_status_1 : decode cL_status 1 = .ok (.iconst 0, 1) := by decide +kernel
theorem dL_status_2 : decode cL_status 2 = .ok (.aload_n 0, 1) := by decide +kernel
theorem dL_status_3 : decode cL_status 3 = .ok (.iload_n 1, 1) := by decide +kernel
theorem dL_status_4 : decode cL_status 4 = .ok (.iload_n 2, 1) := by decide +kernel
theorem dL_status_5 : decode cL_status 5 = .ok (.invokevirtual 86, 3) := by decide +kernel
theorem dL_status_8 : decode cL_status 8 = .ok (.i2l, 1) := by decide +kernel
theorem dL_status_9 : decode cL_status 9 = .ok (.lastore, 1) := by decide +kernel
theorem dL_status_10 : decode cL_status 10 = .ok (.goto 7, 3) := by decide +kernel
theorem dL_status_13 : decode cL_status 13 = .ok (.astore 4, 2) := by decide +kernel
theorem dL_status_15 : decode cL_status 15 = .ok (.iconst 1, 1) := by decide +kernel
theorem dL_status_16 : decode cL_status 16 = .ok (.ireturn, 1) := by decide +kernel
theorem dL_status_17 : decode cL_status 17 = .ok (.iconst 0, 1) := by decide +kernel
theorem dL_status_18 : decode cL_status 18 = .ok (.ireturn, 1) := by decide +kernel
set_option maxRecDepth 20000 in
theorem ggL_partner_X3_partner : GoodIn wsL_partner wsX3_partner := goodIn_ca (goodIn_r _ [6, 7, 8, 9, 10, 11, 5, 12, 13, 14, 15, 16, 17, 18, 19, 20, 21, 22, 23, 24, 25, 26, 27, 28, 29, 30, 31, 32, 33, 34, 35, 36, 37, 38, 39, 40, 41, 42, 43] (by decide +kernel) (by decide +kernel)) (goodIn_sub (fun _ h => List.mem_cons_of_mem _ (List.mem_append_right _ h)) (by decide +kernel))
set_option maxRecDepth 20000 in
theorem gL_partner_X3_partner : GoodIn wsL_partner (wsV RL 89 RX3 yX3_partner wsX3_partner) := goodIn_app (goodIn_of _ (by decide +kernel)) ggL_partner_X3_partner
theorem dL_partner_0 : decode cL_partner 0 = .ok (.aload_n 2, 1) := by decide +kernel
theorem dL_partner_1 : decode cL_partner 1 = .ok (.iconst 0, 1) := by decide +kernel
theorem dL_partner_2 : decode cL_partner 2 = .ok (.aload_n 0, 1) := by decide +kernel
theorem dL_partner_3 : decode cL_partner 3 = .ok (.iload_n 1, 1) := by decide +kernel
theorem dL_partner_4 : decode cL_partner 4 = .ok (.invokevirtual 89, 3) := by decide +kernel
theorem dL_partner_7 : decode cL_partner 7 = .ok (.i2l, 1) := by decide +kernel
theorem dL_partner_8 : decode cL_partner 8 = .ok (.lastore, 1) := by decide +kernel
theorem dL_partner_9 : decode cL_partner 9 = .ok (.goto 6, 3) := by decide +kernel
theorem dL_partner_12 : decode cL_partner 12 = .ok (.astore_n 3, 1) := by decide +kernel
theorem dL_partner_13 : decode cL_partner 13 = .ok (.iconst 1, 1) := by decide +kernel
theorem dL_partner_14 : decode cL_partner 14 = .ok (.ireturn, 1) := by decide +kernel
theorem dL_partner_15 : decode cL_partner 15 = .ok (.iconst 0, 1) := by decide +kernel
theorem dL_partner_16 : decode cL_partner 16 = .ok (.ireturn, 1) := by decide +kernel
set_option maxRecDepth 20000 in
theorem ggL_freshest_X3_freshest : GoodIn wsL_freshest wsX3_freshest := goodIn_ca (goodIn_r _ [6, 7, 8, 9, 5, 10, 11, 12, 13, 14, 15, 16, 17, 18, 19, 20, 21, 22, 23, 24, 25, 26, 27, 28, 29, 30, 31, 32, 33, 34, 35, 36, 37] (by decide +kernel) (by decide +kernel)) (goodIn_sub (fun _ h => List.mem_cons_of_mem _ (List.mem_append_right _ h)) (by decide +kernel))
set_option maxRecDepth 20000 in
theorem gL_freshest_X3_freshest : GoodIn wsL_freshest (wsV RL 92 RX3 yX3_freshest wsX3_freshest) := goodIn_app (goodIn_of _ (by decide +kernel)) ggL_freshest_X3_freshest
theorem dL_freshest_0 : decode cL_freshest 0 = .ok (.aload_n 2, 1) := by decide +kernel
theorem dL_freshest_1 : decode cL_freshest 1 = .ok (.iconst 0, 1) := by decide +kernel
theorem dL_freshest_2 : decode cL_freshest 2 = .ok (.aload_n 0, 1) := by decide +kernel
theorem dL_freshest_3 : decode cL_freshest 3 = .ok (.iload_n 1, 1) := by decide +kernel
theorem dL_freshest_4 : decode cL_freshest 4 = .ok (.invokevirtual 92, 3) := by decide +kernel
theorem dL_freshest_7 : decode cL_freshest 7 = .ok (.i2l, 1) := by decide +kernel
theorem dL_freshest_8 : decode cL_freshest 8 = .ok (.lastore, 1) := by decide +kernel
theorem dL_freshest_9 : decode cL_freshest 9 = .ok (.goto 6, 3) := by decide +kernel
theorem dL_freshest_12 : decode cL_freshest 12 = .ok (.astore_n 3, 1) := by decide +kernel
theorem dL_freshest_13 : decode cL_freshest 13 = .ok (.iconst 1, 1) := by decide +kernel
theorem dL_freshest_14 : decode cL_freshest 14 = .ok (.ireturn, 1) := by decide +kernel
theorem dL_freshest_15 : decode cL_freshest 15 = .ok (.iconst 0, 1) := by decide +kernel
theorem dL_freshest_16 : decode cL_freshest 16 = .ok (.ireturn, 1) := by decide +kernel
set_option maxRecDepth 20000 in
theorem ggL_agree_X3_agree : GoodIn wsL_agree wsX3_agree := goodIn_ca (goodIn_r _ [6, 7, 8, 9, 10, 5, 11, 12, 13, 14, 15, 16, 17, 18, 19, 20, 21, 22, 23, 24, 25, 26, 27, 28, 29, 30, 31, 32, 33, 34, 35, 36, 37, 38, 39, 40, 41, 42, 43, 44, 45, 46, 47, 48, 49, 50, 51, 52, 53, 54, 55, 56, 57, 58, 59] (by decide +kernel) (by decide +kernel)) (goodIn_sub (fun _ h => List.mem_cons_of_mem _ (List.mem_append_right _ h)) (by decide +kernel))
set_option maxRecDepth 20000 in
theorem gL_agree_X3_agree : GoodIn wsL_agree (wsV RL 95 RX3 yX3_agree wsX3_agree) := goodIn_app (goodIn_of _ (by decide +kernel)) ggL_agree_X3_agree
theorem dL_agree_0 : decode cL_agree 0 = .ok (.aload_n 2, 1) := by decide +kernel
theorem dL_agree_1 : decode cL_agree 1 = .ok (.iconst 0, 1) := by decide +kernel
theorem dL_agree_2 : decode cL_agree 2 = .ok (.aload_n 0, 1) := by decide +kernel
theorem dL_agree_3 : decode cL_agree 3 = .ok (.iload_n 1, 1) := by decide +kernel
theorem dL_agree_4 : decode cL_agree 4 = .ok (.invokevirtual 95, 3) := by decide +kernel
theorem dL_agree_7 : decode cL_agree 7 = .ok (.i2l, 1) := by decide +kernel
theorem dL_agree_8 : decode cL_agree 8 = .ok (.lastore, 1) := by decide +kernel
theorem dL_agree_9 : decode cL_agree 9 = .ok (.goto 6, 3) := by decide +kernel
theorem dL_agree_12 : decode cL_agree 12 = .ok (.astore_n 3, 1) := by decide +kernel
theorem dL_agree_13 : decode cL_agree 13 = .ok (.iconst 1, 1) := by decide +kernel
theorem dL_agree_14 : decode cL_agree 14 = .ok (.ireturn, 1) := by decide +kernel
theorem dL_agree_15 : decode cL_agree 15 = .ok (.iconst 0, 1) := by decide +kernel
theorem dL_agree_16 : decode cL_agree 16 = .ok (.ireturn, 1) := by decide +kernel
set_option maxRecDepth 20000 in
theorem ggL_tick_X3_tick : GoodIn wsL_tick wsX3_tick := goodIn_ca (goodIn_ca (goodIn_r _ [7, 8, 9, 10, 11, 12, 6, 13, 14, 15, 16, 17, 18, 19, 20, 21, 22, 23, 24, 25, 26, 27, 28, 29, 30, 31, 32, 33, 34, 35, 36, 37, 38, 39, 40, 41, 42, 43, 44, 45, 46, 47, 48, 49, 50, 51, 52, 53, 54, 55, 56, 57, 58, 59, 60, 61, 62, 63, 64, 65, 66, 67, 68, 69, 70, 71, 72, 73, 74, 75, 76, 77, 78, 79, 80, 81, 82, 83, 84, 85, 86, 87, 88, 89, 90, 91, 92, 93, 94, 95, 96, 97, 98, 99, 100, 101, 102, 103, 104, 105, 106, 107, 108, 109, 110, 111, 112, 113, 114, 115, 116, 117, 118, 119, 120, 121, 122, 123, 124, 125, 126, 127, 128, 129, 130, 131, 132, 133, 134, 135, 136, 137, 138, 139, 140, 141, 142, 143, 144, 145, 146, 147, 148, 149, 150, 151, 152, 153, 154, 155, 156, 157, 158, 159, 160, 161, 162, 163, 164, 165, 166, 167, 168, 169, 170, 171, 172, 173, 174, 175, 176, 177, 178, 179, 180, 181, 182, 183, 184, 185, 186, 187, 188, 189, 190, 191, 192, 193, 194, 195, 196] (by decide +kernel) (by decide +kernel)) (goodIn_sub (fun _ h => List.mem_cons_of_mem _ (List.mem_append_left _ (List.mem_append_right _ h))) (by decide +kernel))) (goodIn_sub (fun _ h => List.mem_cons_of_mem _ (List.mem_append_right _ h)) (by decide +kernel))
set_option maxRecDepth 20000 in
theorem gL_tick_X3_tick : GoodIn wsL_tick (wsV RL 98 RX3 yX3_tick wsX3_tick) := goodIn_app (goodIn_of _ (by decide +kernel)) ggL_tick_X3_tick
theorem dL_tick_0 : decode cL_tick 0 = .ok (.aload_n 2, 1) := by decide +kernel
theorem dL_tick_1 : decode cL_tick 1 = .ok (.iconst 0, 1) := by decide +kernel
theorem dL_tick_2 : decode cL_tick 2 = .ok (.aload_n 0, 1) := by decide +kernel
theorem dL_tick_3 : decode cL_tick 3 = .ok (.iload_n 1, 1) := by decide +kernel
theorem dL_tick_4 : decode cL_tick 4 = .ok (.invokevirtual 98, 3) := by decide +kernel
theorem dL_tick_7 : decode cL_tick 7 = .ok (.i2l, 1) := by decide +kernel
theorem dL_tick_8 : decode cL_tick 8 = .ok (.lastore, 1) := by decide +kernel
theorem dL_tick_9 : decode cL_tick 9 = .ok (.goto 9, 3) := by decide +kernel
theorem dL_tick_12 : decode cL_tick 12 = .ok (.astore_n 3, 1) := by decide +kernel
theorem dL_tick_13 : decode cL_tick 13 = .ok (.iconst 1, 1) := by decide +kernel
theorem dL_tick_14 : decode cL_tick 14 = .ok (.ireturn, 1) := by decide +kernel
theorem dL_tick_15 : decode cL_tick 15 = .ok (.astore_n 3, 1) := by decide +kernel
theorem dL_tick_16 : decode cL_tick 16 = .ok (.iconst 2, 1) := by decide +kernel
theorem dL_tick_17 : decode cL_tick 17 = .ok (.ireturn, 1) := by decide +kernel
theorem dL_tick_18 : decode cL_tick 18 = .ok (.iconst 0, 1) := by decide +kernel
theorem dL_tick_19 : decode cL_tick 19 = .ok (.ireturn, 1) := by decide +kernel
set_option maxRecDepth 20000 in
theorem ggL_law_X3_init : GoodIn wsL_law wsX3_init := goodIn_r _ [9, 10, 11, 12, 13, 14, 15, 16, 17, 18, 19, 20, 21, 22, 23, 24, 25, 26, 27, 28, 29, 30, 31, 32, 33, 34, 35, 36, 37, 38, 39, 40, 41, 42, 43, 44, 45, 46, 47, 48, 49, 50, 51, 52, 53, 54, 55, 56, 57, 58, 59, 60, 61, 62, 63, 64, 65, 66, 67, 68, 69, 70, 71, 72, 732, 733, 734, 735, 736, 737, 738, 739, 698, 699, 700, 701, 740, 741, 742, 743, 744, 745, 746, 747, 748, 749, 750, 751, 752, 753, 754, 755, 756, 757, 758, 759] (by decide +kernel) (by decide +kernel)
set_option maxRecDepth 20000 in
theorem gL_law_X3_init : GoodIn wsL_law (wsX3_init) := ggL_law_X3_init
set_option maxRecDepth 20000 in
theorem ggL_law_X4_init : GoodIn wsL_law wsX4_init := goodIn_r _ [75, 76, 11, 12, 30, 77, 78, 79, 80, 81, 82, 83, 84, 85, 86, 87, 88, 89, 54, 90, 91, 92, 93, 94, 95, 96, 97, 98, 99, 100, 101, 102, 702, 703, 704, 705, 706, 707, 708, 709, 710, 711, 712, 713, 714, 715, 716, 717, 718, 719, 720, 721, 722, 723, 724, 725, 726, 727, 728, 729, 730, 731] (by decide +kernel) (by decide +kernel)
set_option maxRecDepth 20000 in
theorem gL_law_X4_init : GoodIn wsL_law (wsX4_init) := ggL_law_X4_init
set_option maxRecDepth 20000 in
theorem ggL_law_L_shape : GoodIn wsL_law wsL_shape := goodIn_ca (goodIn_r _ [106, 107, 108, 109, 110, 2, 111, 16, 112, 113, 114, 115, 116, 117, 118, 119, 120, 121, 698, 699, 700, 701, 732, 733, 734, 735, 736, 737, 738, 739] (by decide +kernel) (by decide +kernel)) (goodIn_sub (fun _ h => List.mem_append_left _ (List.mem_append_right _ h)) (by decide +kernel))
set_option maxRecDepth 20000 in
theorem gL_law_L_shape : GoodIn wsL_law (va_wsS RL 105 yL_shape wsL_shape) := goodIn_app (goodIn_of _ (by decide +kernel)) ggL_law_L_shape
set_option maxRecDepth 20000 in
theorem ggL_law_X4_shape : GoodIn wsL_law wsX4_shape := goodIn_r _ [125, 77, 78, 126, 127, 5, 128, 129, 130, 131, 132, 133, 134, 135, 136, 702, 703, 704, 705, 706, 707, 708, 709, 710, 711, 712, 713, 714, 715, 716, 717, 718, 719, 720, 721, 722, 723, 724, 725, 726, 727, 728, 729, 730, 731] (by decide +kernel) (by decide +kernel)
set_option maxRecDepth 20000 in
theorem gL_law_X4_shape : GoodIn wsL_law (wsV RL 110 RX4 yX4_shape wsX4_shape) := goodIn_app (goodIn_of _ (by decide +kernel)) ggL_law_X4_shape
set_option maxRecDepth 20000 in
theorem ggL_law_X4_thrown : GoodIn wsL_law wsX4_thrown := goodIn_r _ [140, 136, 702, 703, 704, 705, 706, 707, 708, 709, 710, 711, 712, 713, 714, 715, 716, 717, 718, 719, 720, 721, 722, 723, 724, 725, 726, 727, 728, 729, 730, 731] (by decide +kernel) (by decide +kernel)
set_option maxRecDepth 20000 in
theorem gL_law_X4_thrown : GoodIn wsL_law (wsV RL 111 RX4 yX4_thrown wsX4_thrown) := goodIn_app (goodIn_of _ (by decide +kernel)) ggL_law_X4_thrown
set_option maxRecDepth 20000 in
theorem ggL_law_L_setGauge : GoodIn wsL_law wsL_setGauge := goodIn_ca (goodIn_r _ [143, 107, 144, 145, 146, 2, 147, 20, 148, 114, 115, 116, 117, 118, 119, 120, 121, 698, 699, 700, 701, 740, 741, 742, 743, 744, 745, 746, 747] (by decide +kernel) (by decide +kernel)) (goodIn_sub (fun _ h => List.mem_append_left _ (List.mem_append_right _ h)) (by decide +kernel))
set_option maxRecDepth 20000 in
theorem gL_law_L_setGauge : GoodIn wsL_law (va_wsS RL 115 yL_setGauge wsL_setGauge) := goodIn_app (goodIn_of _ (by decide +kernel)) ggL_law_L_setGauge
set_option maxRecDepth 20000 in
theorem ggL_law_X4_setGauge : GoodIn wsL_law wsX4_setGauge := goodIn_r _ [152, 81, 126, 127, 5, 128, 129, 130, 131, 132, 133, 134, 135, 136, 702, 703, 704, 705, 706, 707, 708, 709, 710, 711, 712, 713, 714, 715, 716, 717, 718, 719, 720, 721, 722, 723, 724, 725, 726, 727, 728, 729, 730, 731] (by decide +kernel) (by decide +kernel)
set_option maxRecDepth 20000 in
theorem gL_law_X4_setGauge : GoodIn wsL_law (wsV RL 118 RX4 yX4_setGauge wsX4_setGauge) := goodIn_app (goodIn_of _ (by decide +kernel)) ggL_law_X4_setGauge
set_option maxRecDepth 20000 in
theorem ggL_law_L_setSource : GoodIn wsL_law wsL_setSource := goodIn_ca (goodIn_r _ [155, 107, 156, 157, 158, 2, 159, 16, 160, 117, 118, 119, 120, 121, 698, 699, 700, 701, 732, 733, 734, 735, 736, 737, 738, 739] (by decide +kernel) (by decide +kernel)) (goodIn_sub (fun _ h => List.mem_append_left _ (List.mem_append_right _ h)) (by decide +kernel))
set_option maxRecDepth 20000 in
theorem gL_law_L_setSource : GoodIn wsL_law (va_wsS RL 119 yL_setSource wsL_setSource) := goodIn_app (goodIn_of _ (by decide +kernel)) ggL_law_L_setSource
set_option maxRecDepth 20000 in
theorem ggL_law_X4_setSource : GoodIn wsL_law wsX4_setSource := goodIn_r _ [164, 165, 129, 130, 5, 131, 132, 133, 134, 135, 136, 702, 703, 704, 705, 706, 707, 708, 709, 710, 711, 712, 713, 714, 715, 716, 717, 718, 719, 720, 721, 722, 723, 724, 725, 726, 727, 728, 729, 730, 731] (by decide +kernel) (by decide +kernel)
set_option maxRecDepth 20000 in
theorem gL_law_X4_setSource : GoodIn wsL_law (wsV RL 122 RX4 yX4_setSource wsX4_setSource) := goodIn_app (goodIn_of _ (by decide +kernel)) ggL_law_X4_setSource
set_option maxRecDepth 20000 in
theorem ggL_law_L_rain : GoodIn wsL_law wsL_rain := goodIn_ca (goodIn_r _ [168, 107, 169, 170, 171, 2, 172, 16, 173, 114, 115, 116, 117, 118, 119, 120, 121, 698, 699, 700, 701, 732, 733, 734, 735, 736, 737, 738, 739] (by decide +kernel) (by decide +kernel)) (goodIn_sub (fun _ h => List.mem_append_left _ (List.mem_append_right _ h)) (by decide +kernel))
set_option maxRecDepth 20000 in
theorem gL_law_L_rain : GoodIn wsL_law (va_wsS RL 123 yL_rain wsL_rain) := goodIn_app (goodIn_of _ (by decide +kernel)) ggL_law_L_rain
set_option maxRecDepth 20000 in
theorem ggL_law_X4_rain : GoodIn wsL_law wsX4_rain := goodIn_r _ [177, 82, 126, 127, 5, 128, 129, 130, 131, 132, 133, 134, 135, 136, 702, 703, 704, 705, 706, 707, 708, 709, 710, 711, 712, 713, 714, 715, 716, 717, 718, 719, 720, 721, 722, 723, 724, 725, 726, 727, 728, 729, 730, 731] (by decide +kernel) (by decide +kernel)
set_option maxRecDepth 20000 in
theorem gL_law_X4_rain : GoodIn wsL_law (wsV RL 125 RX4 yX4_rain wsX4_rain) := goodIn_app (goodIn_of _ (by decide +kernel)) ggL_law_X4_rain
set_option maxRecDepth 20000 in
theorem ggL_law_L_volume : GoodIn wsL_law wsL_volume := goodIn_ca (goodIn_r _ [180, 107, 181, 182, 183, 2, 184, 16, 185, 114, 115, 116, 117, 118, 119, 120, 121, 698, 699, 700, 701, 732, 733, 734, 735, 736, 737, 738, 739] (by decide +kernel) (by decide +kernel)) (goodIn_sub (fun _ h => List.mem_append_left _ (List.mem_append_right _ h)) (by decide +kernel))
set_option maxRecDepth 20000 in
theorem gL_law_L_volume : GoodIn wsL_law (va_wsS RL 126 yL_volume wsL_volume) := goodIn_app (goodIn_of _ (by decide +kernel)) ggL_law_L_volume
set_option maxRecDepth 20000 in
theorem ggL_law_X4_volume : GoodIn wsL_law wsX4_volume := goodIn_r _ [189, 79, 190, 191, 192, 5, 193, 126, 127, 128, 129, 130, 131, 132, 133, 134, 135, 136, 702, 703, 704, 705, 706, 707, 708, 709, 710, 711, 712, 713, 714, 715, 716, 717, 718, 719, 720, 721, 722, 723, 724, 725, 726, 727, 728, 729, 730, 731] (by decide +kernel) (by decide +kernel)
set_option maxRecDepth 20000 in
theorem gL_law_X4_volume : GoodIn wsL_law (wsV RL 128 RX4 yX4_volume wsX4_volume) := goodIn_app (goodIn_of _ (by decide +kernel)) ggL_law_X4_volume
set_option maxRecDepth 20000 in
theorem ggL_law_L_volumeByBalance : GoodIn wsL_law wsL_volumeByBalance := goodIn_ca (goodIn_r _ [196, 107, 197, 198, 199, 2, 200, 16, 114, 115, 116, 117, 118, 119, 120, 121, 201, 202, 203, 15, 204, 35, 36, 37, 698, 699, 700, 701, 732, 733, 734, 735, 736, 737, 738, 739] (by decide +kernel) (by decide +kernel)) (goodIn_sub (fun _ h => List.mem_append_left _ (List.mem_append_right _ h)) (by decide +kernel))
set_option maxRecDepth 20000 in
theorem gL_law_L_volumeByBalance : GoodIn wsL_law (va_wsS RL 129 yL_volumeByBalance wsL_volumeByBalance) := goodIn_app (goodIn_of _ (by decide +kernel)) ggL_law_L_volumeByBalance
set_option maxRecDepth 20000 in
theorem ggL_law_X4_volumeByBalance : GoodIn wsL_law wsX4_volumeByBalance := goodIn_r _ [208, 79, 190, 191, 192, 5, 193, 126, 127, 128, 129, 130, 131, 132, 133, 134, 135, 136, 702, 703, 704, 705, 706, 707, 708, 709, 710, 711, 712, 713, 714, 715, 716, 717, 718, 719, 720, 721, 722, 723, 724, 725, 726, 727, 728, 729, 730, 731] (by decide +kernel) (by decide +kernel)
set_option maxRecDepth 20000 in
theorem gL_law_X4_volumeByBalance : GoodIn wsL_law (wsV RL 131 RX4 yX4_volumeByBalance wsX4_volumeByBalance) := goodIn_app (goodIn_of _ (by decide +kernel)) ggL_law_X4_volumeByBalance
set_option maxRecDepth 20000 in
theorem ggL_law_L_level : GoodIn wsL_law wsL_level := goodIn_ca (goodIn_r _ [211, 107, 212, 213, 214, 2, 215, 16, 114, 115, 116, 117, 118, 119, 120, 121, 216, 217, 218, 15, 219, 31, 33, 698, 699, 700, 701, 732, 733, 734, 735, 736, 737, 738, 739] (by decide +kernel) (by decide +kernel)) (goodIn_sub (fun _ h => List.mem_append_left _ (List.mem_append_right _ h)) (by decide +kernel))
set_option maxRecDepth 20000 in
theorem gL_law_L_level : GoodIn wsL_law (va_wsS RL 132 yL_level wsL_level) := goodIn_app (goodIn_of _ (by decide +kernel)) ggL_law_L_level
set_option maxRecDepth 20000 in
theorem ggL_law_X4_level : GoodIn wsL_law wsX4_level := goodIn_r _ [223, 190, 191, 192, 5, 193, 126, 127, 128, 129, 130, 131, 132, 133, 134, 135, 136, 224, 225, 226, 227, 79, 77, 702, 703, 704, 705, 706, 707, 708, 709, 710, 711, 712, 713, 714, 715, 716, 717, 718, 719, 720, 721, 722, 723, 724, 725, 726, 727, 728, 729, 730, 731] (by decide +kernel) (by decide +kernel)
set_option maxRecDepth 20000 in
theorem gL_law_X4_level : GoodIn wsL_law (wsV RL 134 RX4 yX4_level wsX4_level) := goodIn_app (goodIn_of _ (by decide +kernel)) ggL_law_X4_level
set_option maxRecDepth 20000 in
theorem ggL_law_L_flowed : GoodIn wsL_law wsL_flowed := goodIn_ca (goodIn_r _ [230, 107, 231, 232, 233, 2, 234, 16, 235, 114, 115, 116, 117, 118, 119, 120, 121, 698, 699, 700, 701, 732, 733, 734, 735, 736, 737, 738, 739] (by decide +kernel) (by decide +kernel)) (goodIn_sub (fun _ h => List.mem_append_left _ (List.mem_append_right _ h)) (by decide +kernel))
set_option maxRecDepth 20000 in
theorem gL_law_L_flowed : GoodIn wsL_law (va_wsS RL 135 yL_flowed wsL_flowed) := goodIn_app (goodIn_of _ (by decide +kernel)) ggL_law_L_flowed
set_option maxRecDepth 20000 in
theorem ggL_law_X4_flowed : GoodIn wsL_law wsX4_flowed := goodIn_r _ [239, 84, 190, 191, 192, 5, 193, 126, 127, 128, 129, 130, 131, 132, 133, 134, 135, 136, 702, 703, 704, 705, 706, 707, 708, 709, 710, 711, 712, 713, 714, 715, 716, 717, 718, 719, 720, 721, 722, 723, 724, 725, 726, 727, 728, 729, 730, 731] (by decide +kernel) (by decide +kernel)
set_option maxRecDepth 20000 in
theorem gL_law_X4_flowed : GoodIn wsL_law (wsV RL 137 RX4 yX4_flowed wsX4_flowed) := goodIn_app (goodIn_of _ (by decide +kernel)) ggL_law_X4_flowed
set_option maxRecDepth 20000 in
theorem ggL_law_L_spilled : GoodIn wsL_law wsL_spilled := goodIn_ca (goodIn_r _ [242, 107, 243, 244, 245, 2, 246, 16, 247, 114, 115, 116, 117, 118, 119, 120, 121, 698, 699, 700, 701, 732, 733, 734, 735, 736, 737, 738, 739] (by decide +kernel) (by decide +kernel)) (goodIn_sub (fun _ h => List.mem_append_left _ (List.mem_append_right _ h)) (by decide +kernel))
set_option maxRecDepth 20000 in
theorem gL_law_L_spilled : GoodIn wsL_law (va_wsS RL 138 yL_spilled wsL_spilled) := goodIn_app (goodIn_of _ (by decide +kernel)) ggL_law_L_spilled
set_option maxRecDepth 20000 in
theorem ggL_law_X4_spilled : GoodIn wsL_law wsX4_spilled := goodIn_r _ [251, 85, 190, 191, 192, 5, 193, 126, 127, 128, 129, 130, 131, 132, 133, 134, 135, 136, 702, 703, 704, 705, 706, 707, 708, 709, 710, 711, 712, 713, 714, 715, 716, 717, 718, 719, 720, 721, 722, 723, 724, 725, 726, 727, 728, 729, 730, 731] (by decide +kernel) (by decide +kernel)
set_option maxRecDepth 20000 in
theorem gL_law_X4_spilled : GoodIn wsL_law (wsV RL 140 RX4 yX4_spilled wsX4_spilled) := goodIn_app (goodIn_of _ (by decide +kernel)) ggL_law_X4_spilled
set_option maxRecDepth 20000 in
theorem ggL_law_L_setRule : GoodIn wsL_law wsL_setRule := goodIn_ca (goodIn_r _ [254, 107, 255, 256, 257, 2, 258, 20, 259, 260, 261, 262, 114, 115, 116, 117, 118, 119, 120, 121, 698, 699, 700, 701, 740, 741, 742, 743, 744, 745, 746, 747] (by decide +kernel) (by decide +kernel)) (goodIn_sub (fun _ h => List.mem_append_left _ (List.mem_append_right _ h)) (by decide +kernel))
set_option maxRecDepth 20000 in
theorem gL_law_L_setRule : GoodIn wsL_law (va_wsS RL 141 yL_setRule wsL_setRule) := goodIn_app (goodIn_of _ (by decide +kernel)) ggL_law_L_setRule
set_option maxRecDepth 20000 in
theorem ggL_law_X4_setRule : GoodIn wsL_law wsX4_setRule := goodIn_r _ [266, 86, 87, 88, 89, 126, 127, 5, 128, 129, 130, 131, 132, 133, 134, 135, 136, 702, 703, 704, 705, 706, 707, 708, 709, 710, 711, 712, 713, 714, 715, 716, 717, 718, 719, 720, 721, 722, 723, 724, 725, 726, 727, 728, 729, 730, 731] (by decide +kernel) (by decide +kernel)
set_option maxRecDepth 20000 in
theorem gL_law_X4_setRule : GoodIn wsL_law (wsV RL 144 RX4 yX4_setRule wsX4_setRule) := goodIn_app (goodIn_of _ (by decide +kernel)) ggL_law_X4_setRule
set_option maxRecDepth 20000 in
theorem ggL_law_L_byHand : GoodIn wsL_law wsL_byHand := goodIn_ca (goodIn_ca (goodIn_r _ [269, 107, 270, 271, 272, 273, 2, 274, 275, 276, 20, 277, 278, 114, 115, 116, 117, 118, 119, 120, 121, 698, 699, 700, 701, 740, 741, 742, 743, 744, 745, 746, 747] (by decide +kernel) (by decide +kernel)) (goodIn_sub (fun _ h => List.mem_append_right _ h) (by decide +kernel))) (goodIn_sub (fun _ h => List.mem_append_left _ (List.mem_append_right _ h)) (by decide +kernel))
set_option maxRecDepth 20000 in
theorem gL_law_L_byHand : GoodIn wsL_law (va_wsS RL 145 yL_byHand wsL_byHand) := goodIn_app (goodIn_of _ (by decide +kernel)) ggL_law_L_byHand
set_option maxRecDepth 20000 in
theorem ggL_law_X4_byHand : GoodIn wsL_law wsX4_byHand := goodIn_r _ [282, 90, 80, 126, 127, 5, 128, 129, 130, 131, 132, 133, 134, 135, 136, 702, 703, 704, 705, 706, 707, 708, 709, 710, 711, 712, 713, 714, 715, 716, 717, 718, 719, 720, 721, 722, 723, 724, 725, 726, 727, 728, 729, 730, 731] (by decide +kernel) (by decide +kernel)
set_option maxRecDepth 20000 in
theorem gL_law_X4_byHand : GoodIn wsL_law (wsV RL 147 RX4 yX4_byHand wsX4_byHand) := goodIn_app (goodIn_of _ (by decide +kernel)) ggL_law_X4_byHand
set_option maxRecDepth 20000 in
theorem ggL_law_L_opening : GoodIn wsL_law wsL_opening := goodIn_ca (goodIn_r _ [285, 107, 286, 287, 288, 2, 289, 20, 278, 114, 115, 116, 117, 118, 119, 120, 121, 698, 699, 700, 701, 740, 741, 742, 743, 744, 745, 746, 747] (by decide +kernel) (by decide +kernel)) (goodIn_sub (fun _ h => List.mem_append_left _ (List.mem_append_right _ h)) (by decide +kernel))
set_option maxRecDepth 20000 in
theorem gL_law_L_opening : GoodIn wsL_law (va_wsS RL 148 yL_opening wsL_opening) := goodIn_app (goodIn_of _ (by decide +kernel)) ggL_law_L_opening
set_option maxRecDepth 20000 in
theorem ggL_law_X4_opening : GoodIn wsL_law wsX4_opening := goodIn_r _ [293, 80, 190, 191, 192, 5, 193, 126, 127, 128, 129, 130, 131, 132, 133, 134, 135, 136, 702, 703, 704, 705, 706, 707, 708, 709, 710, 711, 712, 713, 714, 715, 716, 717, 718, 719, 720, 721, 722, 723, 724, 725, 726, 727, 728, 729, 730, 731] (by decide +kernel) (by decide +kernel)
set_option maxRecDepth 20000 in
theorem gL_law_X4_opening : GoodIn wsL_law (wsV RL 150 RX4 yX4_opening wsX4_opening) := goodIn_app (goodIn_of _ (by decide +kernel)) ggL_law_X4_opening
set_option maxRecDepth 20000 in
theorem ggL_law_L_safety : GoodIn wsL_law wsL_safety := goodIn_ca (goodIn_r _ [296, 107, 297, 298, 299, 2, 300, 20, 301, 114, 115, 116, 117, 118, 119, 120, 121, 698, 699, 700, 701, 740, 741, 742, 743, 744, 745, 746, 747] (by decide +kernel) (by decide +kernel)) (goodIn_sub (fun _ h => List.mem_append_left _ (List.mem_append_right _ h)) (by decide +kernel))
set_option maxRecDepth 20000 in
theorem gL_law_L_safety : GoodIn wsL_law (va_wsS RL 151 yL_safety wsL_safety) := goodIn_app (goodIn_of _ (by decide +kernel)) ggL_law_L_safety
set_option maxRecDepth 20000 in
theorem ggL_law_X4_safety : GoodIn wsL_law wsX4_safety := goodIn_r _ [305, 91, 190, 191, 192, 5, 193, 126, 127, 128, 129, 130, 131, 132, 133, 134, 135, 136, 702, 703, 704, 705, 706, 707, 708, 709, 710, 711, 712, 713, 714, 715, 716, 717, 718, 719, 720, 721, 722, 723, 724, 725, 726, 727, 728, 729, 730, 731] (by decide +kernel) (by decide +kernel)
set_option maxRecDepth 20000 in
theorem gL_law_X4_safety : GoodIn wsL_law (wsV RL 153 RX4 yX4_safety wsX4_safety) := goodIn_app (goodIn_of _ (by decide +kernel)) ggL_law_X4_safety
set_option maxRecDepth 20000 in
theorem ggL_law_L_fall : GoodIn wsL_law wsL_fall := goodIn_ca (goodIn_ca (goodIn_r _ [308, 107, 270, 309, 310, 311, 2, 312, 275, 276, 24, 313, 114, 115, 116, 117, 118, 119, 120, 121, 698, 699, 700, 701, 748, 749, 750, 751, 752, 753, 754, 755, 756, 757, 758, 759] (by decide +kernel) (by decide +kernel)) (goodIn_sub (fun _ h => List.mem_append_right _ h) (by decide +kernel))) (goodIn_sub (fun _ h => List.mem_append_left _ (List.mem_append_right _ h)) (by decide +kernel))
set_option maxRecDepth 20000 in
theorem gL_law_L_fall : GoodIn wsL_law (va_wsS RL 154 yL_fall wsL_fall) := goodIn_app (goodIn_of _ (by decide +kernel)) ggL_law_L_fall
set_option maxRecDepth 20000 in
theorem ggL_law_X4_fall : GoodIn wsL_law wsX4_fall := goodIn_r _ [317, 92, 126, 127, 5, 128, 129, 130, 131, 132, 133, 134, 135, 136, 702, 703, 704, 705, 706, 707, 708, 709, 710, 711, 712, 713, 714, 715, 716, 717, 718, 719, 720, 721, 722, 723, 724, 725, 726, 727, 728, 729, 730, 731] (by decide +kernel) (by decide +kernel)
set_option maxRecDepth 20000 in
theorem gL_law_X4_fall : GoodIn wsL_law (wsV RL 157 RX4 yX4_fall wsX4_fall) := goodIn_app (goodIn_of _ (by decide +kernel)) ggL_law_X4_fall
set_option maxRecDepth 20000 in
theorem ggL_law_L_comeUp : GoodIn wsL_law wsL_comeUp := goodIn_ca (goodIn_ca (goodIn_r _ [320, 107, 270, 321, 322, 323, 2, 324, 275, 276, 24, 313, 325, 25, 114, 115, 116, 117, 118, 119, 120, 121, 326, 40, 41, 42, 698, 699, 700, 701, 748, 749, 750, 751, 752, 753, 754, 755, 756, 757, 758, 759] (by decide +kernel) (by decide +kernel)) (goodIn_sub (fun _ h => List.mem_append_right _ h) (by decide +kernel))) (goodIn_sub (fun _ h => List.mem_append_left _ (List.mem_append_right _ h)) (by decide +kernel))
set_option maxRecDepth 20000 in
theorem gL_law_L_comeUp : GoodIn wsL_law (va_wsS RL 158 yL_comeUp wsL_comeUp) := goodIn_app (goodIn_of _ (by decide +kernel)) ggL_law_L_comeUp
set_option maxRecDepth 20000 in
theorem ggL_law_X4_comeUp : GoodIn wsL_law wsX4_comeUp := goodIn_r _ [330, 92, 99, 331, 126, 127, 5, 128, 129, 130, 131, 132, 133, 134, 135, 136, 332, 333, 334, 702, 703, 704, 705, 706, 707, 708, 709, 710, 711, 712, 713, 714, 715, 716, 717, 718, 719, 720, 721, 722, 723, 724, 725, 726, 727, 728, 729, 730, 731] (by decide +kernel) (by decide +kernel)
set_option maxRecDepth 20000 in
theorem gL_law_X4_comeUp : GoodIn wsL_law (wsV RL 160 RX4 yX4_comeUp wsX4_comeUp) := goodIn_app (goodIn_of _ (by decide +kernel)) ggL_law_X4_comeUp
set_option maxRecDepth 20000 in
theorem ggL_law_L_setGroup : GoodIn wsL_law wsL_setGroup := goodIn_ca (goodIn_r _ [337, 107, 338, 339, 340, 2, 341, 24, 342, 114, 115, 116, 117, 118, 119, 120, 121, 698, 699, 700, 701, 748, 749, 750, 751, 752, 753, 754, 755, 756, 757, 758, 759] (by decide +kernel) (by decide +kernel)) (goodIn_sub (fun _ h => List.mem_append_left _ (List.mem_append_right _ h)) (by decide +kernel))
set_option maxRecDepth 20000 in
theorem gL_law_L_setGroup : GoodIn wsL_law (va_wsS RL 161 yL_setGroup wsL_setGroup) := goodIn_app (goodIn_of _ (by decide +kernel)) ggL_law_L_setGroup
set_option maxRecDepth 20000 in
theorem ggL_law_X4_setGroup : GoodIn wsL_law wsX4_setGroup := goodIn_r _ [346, 93, 126, 127, 5, 128, 129, 130, 131, 132, 133, 134, 135, 136, 702, 703, 704, 705, 706, 707, 708, 709, 710, 711, 712, 713, 714, 715, 716, 717, 718, 719, 720, 721, 722, 723, 724, 725, 726, 727, 728, 729, 730, 731] (by decide +kernel) (by decide +kernel)
set_option maxRecDepth 20000 in
theorem gL_law_X4_setGroup : GoodIn wsL_law (wsV RL 163 RX4 yX4_setGroup wsX4_setGroup) := goodIn_app (goodIn_of _ (by decide +kernel)) ggL_law_X4_setGroup
set_option maxRecDepth 20000 in
theorem ggL_law_L_setStuck : GoodIn wsL_law wsL_setStuck := goodIn_ca (goodIn_r _ [349, 107, 350, 351, 352, 2, 353, 24, 354, 114, 115, 116, 117, 118, 119, 120, 121, 698, 699, 700, 701, 748, 749, 750, 751, 752, 753, 754, 755, 756, 757, 758, 759] (by decide +kernel) (by decide +kernel)) (goodIn_sub (fun _ h => List.mem_append_left _ (List.mem_append_right _ h)) (by decide +kernel))
set_option maxRecDepth 20000 in
theorem gL_law_L_setStuck : GoodIn wsL_law (va_wsS RL 164 yL_setStuck wsL_setStuck) := goodIn_app (goodIn_of _ (by decide +kernel)) ggL_law_L_setStuck
set_option maxRecDepth 20000 in
theorem ggL_law_X4_setStuck : GoodIn wsL_law wsX4_setStuck := goodIn_r _ [358, 94, 190, 191, 192, 5, 193, 126, 127, 128, 129, 130, 131, 132, 133, 134, 135, 136, 702, 703, 704, 705, 706, 707, 708, 709, 710, 711, 712, 713, 714, 715, 716, 717, 718, 719, 720, 721, 722, 723, 724, 725, 726, 727, 728, 729, 730, 731] (by decide +kernel) (by decide +kernel)
set_option maxRecDepth 20000 in
theorem gL_law_X4_setStuck : GoodIn wsL_law (wsV RL 167 RX4 yX4_setStuck wsX4_setStuck) := goodIn_app (goodIn_of _ (by decide +kernel)) ggL_law_X4_setStuck
set_option maxRecDepth 20000 in
theorem ggL_law_L_setTimes : GoodIn wsL_law wsL_setTimes := goodIn_ca (goodIn_r _ [361, 107, 362, 363, 364, 2, 365, 24, 366, 367, 117, 118, 119, 120, 121, 698, 699, 700, 701, 748, 749, 750, 751, 752, 753, 754, 755, 756, 757, 758, 759] (by decide +kernel) (by decide +kernel)) (goodIn_sub (fun _ h => List.mem_append_left _ (List.mem_append_right _ h)) (by decide +kernel))
set_option maxRecDepth 20000 in
theorem gL_law_L_setTimes : GoodIn wsL_law (va_wsS RL 168 yL_setTimes wsL_setTimes) := goodIn_app (goodIn_of _ (by decide +kernel)) ggL_law_L_setTimes
set_option maxRecDepth 20000 in
theorem ggL_law_X4_setTimes : GoodIn wsL_law wsX4_setTimes := goodIn_r _ [371, 101, 102, 129, 130, 5, 131, 132, 133, 134, 135, 136, 702, 703, 704, 705, 706, 707, 708, 709, 710, 711, 712, 713, 714, 715, 716, 717, 718, 719, 720, 721, 722, 723, 724, 725, 726, 727, 728, 729, 730, 731] (by decide +kernel) (by decide +kernel)
set_option maxRecDepth 20000 in
theorem gL_law_X4_setTimes : GoodIn wsL_law (wsV RL 171 RX4 yX4_setTimes wsX4_setTimes) := goodIn_app (goodIn_of _ (by decide +kernel)) ggL_law_X4_setTimes
set_option maxRecDepth 20000 in
theorem ggL_law_L_believed : GoodIn wsL_law wsL_believed := goodIn_ca (goodIn_r _ [374, 107, 375, 376, 377, 2, 378, 24, 379, 114, 115, 116, 117, 118, 119, 120, 121, 380, 381, 382, 23, 383, 64, 698, 699, 700, 701, 748, 749, 750, 751, 752, 753, 754, 755, 756, 757, 758, 759] (by decide +kernel) (by decide +kernel)) (goodIn_sub (fun _ h => List.mem_append_left _ (List.mem_append_right _ h)) (by decide +kernel))
set_option maxRecDepth 20000 in
theorem gL_law_L_believed : GoodIn wsL_law (va_wsS RL 172 yL_believed wsL_believed) := goodIn_app (goodIn_of _ (by decide +kernel)) ggL_law_L_believed
set_option maxRecDepth 20000 in
theorem ggL_law_X4_believed : GoodIn wsL_law wsX4_believed := goodIn_r _ [387, 96, 388, 389, 390, 5, 391, 126, 127, 128, 129, 130, 131, 132, 133, 134, 135, 136, 392, 393, 394, 395, 95, 332, 333, 334, 702, 703, 704, 705, 706, 707, 708, 709, 710, 711, 712, 713, 714, 715, 716, 717, 718, 719, 720, 721, 722, 723, 724, 725, 726, 727, 728, 729, 730, 731] (by decide +kernel) (by decide +kernel)
set_option maxRecDepth 20000 in
theorem gL_law_X4_believed : GoodIn wsL_law (wsV RL 174 RX4 yX4_believed wsX4_believed) := goodIn_app (goodIn_of _ (by decide +kernel)) ggL_law_X4_believed
set_option maxRecDepth 20000 in
theorem ggL_law_L_version : GoodIn wsL_law wsL_version := goodIn_ca (goodIn_r _ [398, 107, 399, 400, 401, 2, 402, 24, 403, 114, 115, 116, 117, 118, 119, 120, 121, 698, 699, 700, 701, 748, 749, 750, 751, 752, 753, 754, 755, 756, 757, 758, 759] (by decide +kernel) (by decide +kernel)) (goodIn_sub (fun _ h => List.mem_append_left _ (List.mem_append_right _ h)) (by decide +kernel))
set_option maxRecDepth 20000 in
theorem gL_law_L_version : GoodIn wsL_law (va_wsS RL 175 yL_version wsL_version) := goodIn_app (goodIn_of _ (by decide +kernel)) ggL_law_L_version
set_option maxRecDepth 20000 in
theorem ggL_law_X4_version : GoodIn wsL_law wsX4_version := goodIn_r _ [407, 95, 388, 389, 390, 5, 391, 126, 127, 128, 129, 130, 131, 132, 133, 134, 135, 136, 332, 333, 334, 702, 703, 704, 705, 706, 707, 708, 709, 710, 711, 712, 713, 714, 715, 716, 717, 718, 719, 720, 721, 722, 723, 724, 725, 726, 727, 728, 729, 730, 731] (by decide +kernel) (by decide +kernel)
set_option maxRecDepth 20000 in
theorem gL_law_X4_version : GoodIn wsL_law (wsV RL 177 RX4 yX4_version wsX4_version) := goodIn_app (goodIn_of _ (by decide +kernel)) ggL_law_X4_version
set_option maxRecDepth 20000 in
theorem ggL_law_L_age : GoodIn wsL_law wsL_age := goodIn_ca (goodIn_r _ [410, 107, 411, 412, 413, 2, 414, 24, 25, 415, 114, 115, 116, 117, 118, 119, 120, 121, 380, 381, 382, 23, 383, 64, 698, 699, 700, 701, 748, 749, 750, 751, 752, 753, 754, 755, 756, 757, 758, 759] (by decide +kernel) (by decide +kernel)) (goodIn_sub (fun _ h => List.mem_append_left _ (List.mem_append_right _ h)) (by decide +kernel))
set_option maxRecDepth 20000 in
theorem gL_law_L_age : GoodIn wsL_law (va_wsS RL 178 yL_age wsL_age) := goodIn_app (goodIn_of _ (by decide +kernel)) ggL_law_L_age
set_option maxRecDepth 20000 in
theorem ggL_law_X4_age : GoodIn wsL_law wsX4_age := goodIn_r _ [419, 388, 389, 390, 5, 391, 126, 127, 128, 129, 130, 131, 132, 133, 134, 135, 136, 420, 421, 422, 423, 331, 97, 392, 393, 394, 395, 95, 332, 333, 334, 702, 703, 704, 705, 706, 707, 708, 709, 710, 711, 712, 713, 714, 715, 716, 717, 718, 719, 720, 721, 722, 723, 724, 725, 726, 727, 728, 729, 730, 731] (by decide +kernel) (by decide +kernel)
set_option maxRecDepth 20000 in
theorem gL_law_X4_age : GoodIn wsL_law (wsV RL 180 RX4 yX4_age wsX4_age) := goodIn_app (goodIn_of _ (by decide +kernel)) ggL_law_X4_age
set_option maxRecDepth 20000 in
theorem ggL_law_L_beat : GoodIn wsL_law wsL_beat := goodIn_ca (goodIn_r _ [426, 107, 427, 428, 429, 2, 430, 24, 431, 114, 115, 116, 117, 118, 119, 120, 121, 698, 699, 700, 701, 748, 749, 750, 751, 752, 753, 754, 755, 756, 757, 758, 759] (by decide +kernel) (by decide +kernel)) (goodIn_sub (fun _ h => List.mem_append_left _ (List.mem_append_right _ h)) (by decide +kernel))
set_option maxRecDepth 20000 in
theorem gL_law_L_beat : GoodIn wsL_law (va_wsS RL 181 yL_beat wsL_beat) := goodIn_app (goodIn_of _ (by decide +kernel)) ggL_law_L_beat
set_option maxRecDepth 20000 in
theorem ggL_law_X4_beat : GoodIn wsL_law wsX4_beat := goodIn_r _ [435, 98, 388, 389, 390, 5, 391, 126, 127, 128, 129, 130, 131, 132, 133, 134, 135, 136, 332, 333, 334, 702, 703, 704, 705, 706, 707, 708, 709, 710, 711, 712, 713, 714, 715, 716, 717, 718, 719, 720, 721, 722, 723, 724, 725, 726, 727, 728, 729, 730, 731] (by decide +kernel) (by decide +kernel)
set_option maxRecDepth 20000 in
theorem gL_law_X4_beat : GoodIn wsL_law (wsV RL 183 RX4 yX4_beat wsX4_beat) := goodIn_app (goodIn_of _ (by decide +kernel)) ggL_law_X4_beat
set_option maxRecDepth 20000 in
theorem ggL_law_L_status : GoodIn wsL_law wsL_status := goodIn_ca (goodIn_r _ [438, 107, 439, 440, 441, 2, 442, 24, 443, 114, 115, 116, 117, 118, 119, 120, 121, 698, 699, 700, 701, 748, 749, 750, 751, 752, 753, 754, 755, 756, 757, 758, 759] (by decide +kernel) (by decide +kernel)) (goodIn_sub (fun _ h => List.mem_append_left _ (List.mem_append_right _ h)) (by decide +kernel))
set_option maxRecDepth 20000 in
theorem gL_law_L_status : GoodIn wsL_law (va_wsS RL 184 yL_status wsL_status) := goodIn_app (goodIn_of _ (by decide +kernel)) ggL_law_L_status
set_option maxRecDepth 20000 in
theorem ggL_law_X4_status : GoodIn wsL_law wsX4_status := goodIn_r _ [447, 100, 388, 389, 390, 5, 391, 126, 127, 128, 129, 130, 131, 132, 133, 134, 135, 136, 332, 333, 334, 702, 703, 704, 705, 706, 707, 708, 709, 710, 711, 712, 713, 714, 715, 716, 717, 718, 719, 720, 721, 722, 723, 724, 725, 726, 727, 728, 729, 730, 731] (by decide +kernel) (by decide +kernel)
set_option maxRecDepth 20000 in
theorem gL_law_X4_status : GoodIn wsL_law (wsV RL 186 RX4 yX4_status wsX4_status) := goodIn_app (goodIn_of _ (by decide +kernel)) ggL_law_X4_status
set_option maxRecDepth 20000 in
theorem ggL_law_L_partner : GoodIn wsL_law wsL_partner := goodIn_ca (goodIn_r _ [450, 107, 451, 452, 453, 2, 454, 24, 313, 25, 114, 115, 116, 117, 118, 119, 120, 121, 455, 456, 457, 23, 458, 459, 460, 461, 462, 69, 698, 699, 700, 701, 748, 749, 750, 751, 752, 753, 754, 755, 756, 757, 758, 759] (by decide +kernel) (by decide +kernel)) (goodIn_sub (fun _ h => List.mem_append_left _ (List.mem_append_right _ h)) (by decide +kernel))
set_option maxRecDepth 20000 in
theorem gL_law_L_partner : GoodIn wsL_law (va_wsS RL 187 yL_partner wsL_partner) := goodIn_app (goodIn_of _ (by decide +kernel)) ggL_law_L_partner
set_option maxRecDepth 20000 in
theorem ggL_law_X4_partner : GoodIn wsL_law wsX4_partner := goodIn_r _ [466, 92, 331, 190, 191, 192, 5, 193, 126, 127, 128, 129, 130, 131, 132, 133, 134, 135, 136, 467, 468, 469, 470, 471, 472, 473, 474, 100, 332, 333, 334, 702, 703, 704, 705, 706, 707, 708, 709, 710, 711, 712, 713, 714, 715, 716, 717, 718, 719, 720, 721, 722, 723, 724, 725, 726, 727, 728, 729, 730, 731] (by decide +kernel) (by decide +kernel)
set_option maxRecDepth 20000 in
theorem gL_law_X4_partner : GoodIn wsL_law (wsV RL 189 RX4 yX4_partner wsX4_partner) := goodIn_app (goodIn_of _ (by decide +kernel)) ggL_law_X4_partner
set_option maxRecDepth 20000 in
theorem ggL_law_L_freshest : GoodIn wsL_law wsL_freshest := goodIn_ca (goodIn_r _ [477, 107, 478, 479, 480, 2, 481, 24, 114, 115, 116, 117, 118, 119, 120, 121, 482, 483, 484, 23, 485, 64, 698, 699, 700, 701, 748, 749, 750, 751, 752, 753, 754, 755, 756, 757, 758, 759] (by decide +kernel) (by decide +kernel)) (goodIn_sub (fun _ h => List.mem_append_left _ (List.mem_append_right _ h)) (by decide +kernel))
set_option maxRecDepth 20000 in
theorem gL_law_L_freshest : GoodIn wsL_law (va_wsS RL 190 yL_freshest wsL_freshest) := goodIn_app (goodIn_of _ (by decide +kernel)) ggL_law_L_freshest
set_option maxRecDepth 20000 in
theorem ggL_law_X4_freshest : GoodIn wsL_law wsX4_freshest := goodIn_r _ [489, 95, 190, 191, 192, 5, 193, 126, 127, 128, 129, 130, 131, 132, 133, 134, 135, 136, 332, 333, 334, 392, 393, 394, 395, 702, 703, 704, 705, 706, 707, 708, 709, 710, 711, 712, 713, 714, 715, 716, 717, 718, 719, 720, 721, 722, 723, 724, 725, 726, 727, 728, 729, 730, 731] (by decide +kernel) (by decide +kernel)
set_option maxRecDepth 20000 in
theorem gL_law_X4_freshest : GoodIn wsL_law (wsV RL 192 RX4 yX4_freshest wsX4_freshest) := goodIn_app (goodIn_of _ (by decide +kernel)) ggL_law_X4_freshest
set_option maxRecDepth 20000 in
theorem ggL_law_L_agree : GoodIn wsL_law wsL_agree := goodIn_ca (goodIn_r _ [492, 107, 493, 494, 495, 2, 496, 24, 16, 114, 115, 116, 117, 118, 119, 120, 121, 216, 217, 218, 15, 219, 31, 33, 497, 498, 499, 23, 500, 60, 65, 501, 381, 382, 383, 64, 698, 699, 700, 701, 732, 733, 734, 735, 736, 737, 738, 739, 748, 749, 750, 751, 752, 753, 754, 755, 756, 757, 758, 759] (by decide +kernel) (by decide +kernel)) (goodIn_sub (fun _ h => List.mem_append_left _ (List.mem_append_right _ h)) (by decide +kernel))
set_option maxRecDepth 20000 in
theorem gL_law_L_agree : GoodIn wsL_law (va_wsS RL 193 yL_agree wsL_agree) := goodIn_app (goodIn_of _ (by decide +kernel)) ggL_law_L_agree
set_option maxRecDepth 20000 in
theorem ggL_law_X4_agree : GoodIn wsL_law wsX4_agree := goodIn_r _ [505, 92, 96, 190, 191, 192, 5, 193, 126, 127, 128, 129, 130, 131, 132, 133, 134, 135, 136, 392, 393, 394, 395, 95, 332, 333, 334, 224, 225, 226, 227, 79, 77, 702, 703, 704, 705, 706, 707, 708, 709, 710, 711, 712, 713, 714, 715, 716, 717, 718, 719, 720, 721, 722, 723, 724, 725, 726, 727, 728, 729, 730, 731] (by decide +kernel) (by decide +kernel)
set_option maxRecDepth 20000 in
theorem gL_law_X4_agree : GoodIn wsL_law (wsV RL 195 RX4 yX4_agree wsX4_agree) := goodIn_app (goodIn_of _ (by decide +kernel)) ggL_law_X4_agree
set_option maxRecDepth 20000 in
theorem ggL_law_X3_unnoticed : GoodIn wsL_law wsX3_unnoticed := goodIn_r _ [509, 24, 510, 511, 512, 23, 513, 60, 514, 515, 516, 517, 69, 698, 699, 700, 701, 748, 749, 750, 751, 752, 753, 754, 755, 756, 757, 758, 759] (by decide +kernel) (by decide +kernel)
set_option maxRecDepth 20000 in
theorem gL_law_X3_unnoticed : GoodIn wsL_law (wsV RL 196 RX3 yX3_unnoticed wsX3_unnoticed) := goodIn_app (goodIn_of _ (by decide +kernel)) ggL_law_X3_unnoticed
set_option maxRecDepth 20000 in
theorem ggL_law_X4_unnoticed : GoodIn wsL_law wsX4_unnoticed := goodIn_r _ [521, 136, 92, 100, 332, 333, 5, 334, 702, 703, 704, 705, 706, 707, 708, 709, 710, 711, 712, 713, 714, 715, 716, 717, 718, 719, 720, 721, 722, 723, 724, 725, 726, 727, 728, 729, 730, 731] (by decide +kernel) (by decide +kernel)
set_option maxRecDepth 20000 in
theorem gL_law_X4_unnoticed : GoodIn wsL_law (wsV RL 199 RX4 yX4_unnoticed wsX4_unnoticed) := goodIn_app (goodIn_of _ (by decide +kernel)) ggL_law_X4_unnoticed
set_option maxRecDepth 20000 in
theorem ggL_law_X3_mistaken : GoodIn wsL_law wsX3_mistaken := goodIn_r _ [525, 24, 526, 527, 528, 23, 529, 60, 514, 515, 516, 517, 69, 698, 699, 700, 701, 748, 749, 750, 751, 752, 753, 754, 755, 756, 757, 758, 759] (by decide +kernel) (by decide +kernel)
set_option maxRecDepth 20000 in
theorem gL_law_X3_mistaken : GoodIn wsL_law (wsV RL 200 RX3 yX3_mistaken wsX3_mistaken) := goodIn_app (goodIn_of _ (by decide +kernel)) ggL_law_X3_mistaken
set_option maxRecDepth 20000 in
theorem ggL_law_X4_mistaken : GoodIn wsL_law wsX4_mistaken := goodIn_r _ [533, 136, 92, 100, 702, 703, 704, 705, 706, 707, 708, 709, 710, 711, 712, 713, 714, 715, 716, 717, 718, 719, 720, 721, 722, 723, 724, 725, 726, 727, 728, 729, 730, 731] (by decide +kernel) (by decide +kernel)
set_option maxRecDepth 20000 in
theorem gL_law_X4_mistaken : GoodIn wsL_law (wsV RL 203 RX4 yX4_mistaken wsX4_mistaken) := goodIn_app (goodIn_of _ (by decide +kernel)) ggL_law_X4_mistaken
set_option maxRecDepth 20000 in
theorem ggL_law_X3_vain : GoodIn wsL_law wsX3_vain := goodIn_r _ [537, 24, 538, 698, 699, 700, 701, 748, 749, 750, 751, 752, 753, 754, 755, 756, 757, 758, 759] (by decide +kernel) (by decide +kernel)
set_option maxRecDepth 20000 in
theorem gL_law_X3_vain : GoodIn wsL_law (wsV RL 204 RX3 yX3_vain wsX3_vain) := goodIn_app (goodIn_of _ (by decide +kernel)) ggL_law_X3_vain
set_option maxRecDepth 20000 in
theorem ggL_law_X4_vain : GoodIn wsL_law wsX4_vain := goodIn_r _ [542, 136, 543, 702, 703, 704, 705, 706, 707, 708, 709, 710, 711, 712, 713, 714, 715, 716, 717, 718, 719, 720, 721, 722, 723, 724, 725, 726, 727, 728, 729, 730, 731] (by decide +kernel) (by decide +kernel)
set_option maxRecDepth 20000 in
theorem gL_law_X4_vain : GoodIn wsL_law (wsV RL 207 RX4 yX4_vain wsX4_vain) := goodIn_app (goodIn_of _ (by decide +kernel)) ggL_law_X4_vain
set_option maxRecDepth 20000 in
theorem ggL_law_L_tick : GoodIn wsL_law wsL_tick := goodIn_ca (goodIn_ca (goodIn_r _ [546, 107, 270, 547, 548, 549, 2, 550, 275, 276, 25, 117, 118, 119, 120, 121, 551, 552, 553, 554, 16, 20, 24, 555, 556, 557, 15, 558, 38, 34, 559, 560, 561, 562, 33, 35, 563, 564, 565, 566, 567, 568, 569, 570, 36, 571, 572, 573, 19, 574, 48, 47, 575, 576, 577, 578, 579, 580, 581, 582, 31, 32, 583, 584, 585, 37, 586, 587, 588, 23, 589, 60, 590, 217, 218, 219, 591, 592, 593, 594, 61, 65, 66, 64, 67, 68, 595, 596, 597, 598, 599, 600, 601, 602, 62, 72, 603, 456, 457, 458, 459, 460, 461, 462, 69, 604, 605, 606, 607, 608, 609, 610, 611, 612, 613, 614, 615, 616, 617, 618, 619, 620, 621, 622, 623, 624, 625, 626, 627, 71, 70, 628, 629, 630, 631, 313, 277, 632, 633, 634, 635, 262, 379, 261, 636, 637, 638, 639, 501, 381, 382, 383, 640, 641, 642, 643, 644, 53, 645, 646, 647, 648, 50, 49, 649, 698, 699, 700, 701, 732, 733, 734, 735, 736, 737, 738, 739, 740, 741, 742, 743, 744, 745, 746, 747, 748, 749, 750, 751, 752, 753, 754, 755, 756, 757, 758, 759] (by decide +kernel) (by decide +kernel)) (goodIn_sub (fun _ h => List.mem_append_right _ h) (by decide +kernel))) (goodIn_sub (fun _ h => List.mem_append_left _ (List.mem_append_right _ h)) (by decide +kernel))
set_option maxRecDepth 20000 in
theorem gL_law_L_tick : GoodIn wsL_law (va_wsS RL 208 yL_tick wsL_tick) := goodIn_app (goodIn_of _ (by decide +kernel)) ggL_law_L_tick
set_option maxRecDepth 20000 in
theorem ggL_law_X4_tick : GoodIn wsL_law wsX4_tick := goodIn_r _ [653, 331, 129, 130, 5, 131, 132, 133, 134, 135, 136, 654, 655, 656, 657, 92, 90, 658, 659, 660, 661, 79, 165, 82, 662, 663, 664, 665, 80, 81, 83, 84, 666, 667, 668, 669, 77, 78, 85, 670, 671, 672, 673, 96, 94, 95, 97, 98, 99, 332, 333, 334, 224, 225, 226, 227, 674, 675, 676, 677, 93, 543, 467, 468, 469, 470, 471, 472, 473, 474, 100, 678, 679, 680, 681, 682, 683, 684, 685, 102, 101, 686, 687, 688, 689, 89, 91, 87, 88, 86, 392, 393, 394, 395, 420, 421, 422, 423, 702, 703, 704, 705, 706, 707, 708, 709, 710, 711, 712, 713, 714, 715, 716, 717, 718, 719, 720, 721, 722, 723, 724, 725, 726, 727, 728, 729, 730, 731] (by decide +kernel) (by decide +kernel)
set_option maxRecDepth 20000 in
theorem gL_law_X4_tick : GoodIn wsL_law (wsV RL 210 RX4 yX4_tick wsX4_tick) := goodIn_app (goodIn_of _ (by decide +kernel)) ggL_law_X4_tick
set_option maxRecDepth 20000 in
theorem ggL_law_X3_time : GoodIn wsL_law wsX3_time := goodIn_r _ [693, 25, 698, 699, 700, 701] (by decide +kernel) (by decide +kernel)
set_option maxRecDepth 20000 in
theorem gL_law_X3_time : GoodIn wsL_law (wsV RL 211 RX3 yX3_time wsX3_time) := goodIn_app (goodIn_of _ (by decide +kernel)) ggL_law_X3_time
set_option maxRecDepth 20000 in
theorem ggL_law_X4_time : GoodIn wsL_law wsX4_time := goodIn_r _ [697, 136, 331, 702, 703, 704, 705, 706, 707, 708, 709, 710, 711, 712, 713, 714, 715, 716, 717, 718, 719, 720, 721, 722, 723, 724, 725, 726, 727, 728, 729, 730, 731] (by decide +kernel) (by decide +kernel)
set_option maxRecDepth 20000 in
theorem gL_law_X4_time : GoodIn wsL_law (wsV RL 214 RX4 yX4_time wsX4_time) := goodIn_app (goodIn_of _ (by decide +kernel)) ggL_law_X4_time
theorem dL_law_0 : decode cL_law 0 = .ok (.new 8, 3) := by decide +kernel
theorem dL_law_3 : decode cL_law 3 = .ok (.dup, 1) := by decide +kernel
theorem dL_law_4 : decode cL_law 4 = .ok (.invokespecial 101, 3) := by decide +kernel
theorem dL_law_7 : decode cL_law 7 = .ok (.astore_n 1, 1) := by decide +kernel
theorem dL_law_8 : decode cL_law 8 = .ok (.new 102, 3) := by decide +kernel
theorem dL_law_11 : decode cL_law 11 = .ok (.dup, 1) := by decide +kernel
theorem dL_law_12 : decode cL_law 12 = .ok (.invokespecial 104, 3) := by decide +kernel
theorem dL_law_15 : decode cL_law 15 = .ok (.astore_n 2, 1) := by decide +kernel
theorem dL_law_16 : decode cL_law 16 = .ok (.iconst 1, 1) := by decide +kernel
theorem dL_law_17 : decode cL_law 17 = .ok (.newarray .long, 2) := by decide +kernel
theorem dL_law_19 : decode cL_law 19 = .ok (.astore_n 3, 1) := by decide +kernel
theorem dL_law_20 : decode cL_law 20 = .ok (.iconst 0, 1) := by decide +kernel
theorem dL_law_21 : decode cL_law 21 = .ok (.istore 4, 2) := by decide +kernel
theorem dL_law_23 : decode cL_law 23 = .ok (.iload 4, 2) := by decide +kernel
theorem dL_law_25 : decode cL_law 25 = .ok (.aload_n 0, 1) := by decide +kernel
theorem dL_law_26 : decode cL_law 26 = .ok (.arraylength, 1) := by decide +kernel
theorem dL_law_27 : decode cL_law 27 = .ok (.bipush 6, 2) := by decide +kernel
theorem dL_law_29 : decode cL_law 29 = .ok (.isub, 1) := by decide +kernel
theorem dL_law_30 : decode cL_law 30 = .ok (.if_icmp .gt 1847, 3) := by decide +kernel
theorem dL_law_33 : decode cL_law 33 = .ok (.aload_n 0, 1) := by decide +kernel
theorem dL_law_34 : decode cL_law 34 = .ok (.iload 4, 2) := by decide +kernel
theorem dL_law_36 : decode cL_law 36 = .ok (.iaload, 1) := by decide +kernel
theorem dL_law_37 : decode cL_law 37 = .ok (.bipush 31, 2) := by decide +kernel
theorem dL_law_39 : decode cL_law 39 = .ok (.iand, 1) := by decide +kernel
theorem dL_law_40 : decode cL_law 40 = .ok (.tableswitch 1831 0 30 #[140, 200, 268, 324, 392, 448, 504, 560, 616, 672, 756, 824, 880, 936, 972, 1008, 1076, 1167, 1215, 1283, 1351, 1419, 1487, 1555, 1611, 1667, 1723, 1736, 1749, 1762, 1818], 140) := by decide +kernel
theorem dL_law_180 : decode cL_law 180 = .ok (.aload_n 1, 1) := by decide +kernel
theorem dL_law_181 : decode cL_law 181 = .ok (.aload_n 0, 1) := by decide +kernel
theorem dL_law_182 : decode cL_law 182 = .ok (.iload 4, 2) := by decide +kernel
theorem dL_law_184 : decode cL_law 184 = .ok (.iconst 1, 1) := by decide +kernel
theorem dL_law_185 : decode cL_law 185 = .ok (.iadd, 1) := by decide +kernel
theorem dL_law_186 : decode cL_law 186 = .ok (.iaload, 1) := by decide +kernel
theorem dL_law_187 : decode cL_law 187 = .ok (.aload_n 0, 1) := by decide +kernel
theorem dL_law_188 : decode cL_law 188 = .ok (.iload 4, 2) := by decide +kernel
theorem dL_law_190 : decode cL_law 190 = .ok (.iconst 2, 1) := by decide +kernel
theorem dL_law_191 : decode cL_law 191 = .ok (.iadd, 1) := by decide +kernel
theorem dL_law_192 : decode cL_law 192 = .ok (.iaload, 1) := by decide +kernel
theorem dL_law_193 : decode cL_law 193 = .ok (.aload_n 0, 1) := by decide +kernel
theorem dL_law_194 : decode cL_law 194 = .ok (.iload 4, 2) := by decide +kernel
theorem dL_law_196 : decode cL_law 196 = .ok (.iconst 3, 1) := by decide +kernel
theorem dL_law_197 : decode cL_law 197 = .ok (.iadd, 1) := by decide +kernel
theorem dL_law_198 : decode cL_law 198 = .ok (.iaload, 1) := by decide +kernel
theorem dL_law_199 : decode cL_law 199 = .ok (.invokestatic 105, 3) := by decide +kernel
theorem dL_law_202 : decode cL_law 202 = .ok (.istore 5, 2) := by decide +kernel
theorem dL_law_204 : decode cL_law 204 = .ok (.aload_n 2, 1) := by decide +kernel
theorem dL_law_205 : decode cL_law 205 = .ok (.aload_n 0, 1) := by decide +kernel
theorem dL_law_206 : decode cL_law 206 = .ok (.iload 4, 2) := by decide +kernel
theorem dL_law_208 : decode cL_law 208 = .ok (.iconst 1, 1) := by decide +kernel
theorem dL_law_209 : decode cL_law 209 = .ok (.iadd, 1) := by decide +kernel
theorem dL_law_210 : decode cL_law 210 = .ok (.iaload, 1) := by decide +kernel
theorem dL_law_211 : decode cL_law 211 = .ok (.aload_n 0, 1) := by decide +kernel
theorem dL_law_212 : decode cL_law 212 = .ok (.iload 4, 2) := by decide +kernel
theorem dL_law_214 : decode cL_law 214 = .ok (.iconst 2, 1) := by decide +kernel
theorem dL_law_215 : decode cL_law 215 = .ok (.iadd, 1) := by decide +kernel
theorem dL_law_216 : decode cL_law 216 = .ok (.iaload, 1) := by decide +kernel
theorem dL_law_217 : decode cL_law 217 = .ok (.aload_n 0, 1) := by decide +kernel
theorem dL_law_218 : decode cL_law 218 = .ok (.iload 4, 2) := by decide +kernel
theorem dL_law_220 : decode cL_law 220 = .ok (.iconst 3, 1) := by decide +kernel
theorem dL_law_221 : decode cL_law 221 = .ok (.iadd, 1) := by decide +kernel
theorem dL_law_222 : decode cL_law 222 = .ok (.iaload, 1) := by decide +kernel
theorem dL_law_223 : decode cL_law 223 = .ok (.invokevirtual 110, 3) := by decide +kernel
theorem dL_law_226 : decode cL_law 226 = .ok (.aload_n 2, 1) := by decide +kernel
theorem dL_law_227 : decode cL_law 227 = .ok (.invokevirtual 111, 3) := by decide +kernel
theorem dL_law_230 : decode cL_law 230 = .ok (.iload 5, 2) := by decide +kernel
theorem dL_law_232 : decode cL_law 232 = .ok (.if_icmp .eq 5, 3) := by decide +kernel
theorem dL_law_235 : decode cL_law 235 = .ok (.iconst 0, 1) := by decide +kernel
theorem dL_law_236 : decode cL_law 236 = .ok (.ireturn, 1) := by decide +kernel
theorem dL_law_237 : decode cL_law 237 = .ok (.goto 1634, 3) := by decide +kernel
theorem dL_law_240 : decode cL_law 240 = .ok (.aload_n 1, 1) := by decide +kernel
theorem dL_law_241 : decode cL_law 241 = .ok (.aload_n 0, 1) := by decide +kernel
theorem dL_law_242 : decode cL_law 242 = .ok (.iload 4, 2) := by decide +kernel
theorem dL_law_244 : decode cL_law 244 = .ok (.iconst 1, 1) := by decide +kernel
theorem dL_law_245 : decode cL_law 245 = .ok (.iadd, 1) := by decide +kernel
theorem dL_law_246 : decode cL_law 246 = .ok (.iaload, 1) := by decide +kernel
theorem dL_law_247 : decode cL_law 247 = .ok (.aload_n 0, 1) := by decide +kernel
theorem dL_law_248 : decode cL_law 248 = .ok (.iload 4, 2) := by decide +kernel
theorem dL_law_250 : decode cL_law 250 = .ok (.iconst 2, 1) := by decide +kernel
theorem dL_law_251 : decode cL_law 251 = .ok (.iadd, 1) := by decide +kernel
theorem dL_law_252 : decode cL_law 252 = .ok (.iaload, 1) := by decide +kernel
theorem dL_law_253 : decode cL_law 253 = .ok (.aload_n 3, 1) := by decide +kernel
theorem dL_law_254 : decode cL_law 254 = .ok (.invokestatic 115, 3) := by decide +kernel
theorem dL_law_257 : decode cL_law 257 = .ok (.istore 5, 2) := by decide +kernel
theorem dL_law_259 : decode cL_law 259 = .ok (.aload_n 2, 1) := by decide +kernel
theorem dL_law_260 : decode cL_law 260 = .ok (.aload_n 0, 1) := by decide +kernel
theorem dL_law_261 : decode cL_law 261 = .ok (.iload 4, 2) := by decide +kernel
theorem dL_law_263 : decode cL_law 263 = .ok (.iconst 1, 1) := by decide +kernel
theorem dL_law_264 : decode cL_law 264 = .ok (.iadd, 1) := by decide +kernel
theorem dL_law_265 : decode cL_law 265 = .ok (.iaload, 1) := by decide +kernel
theorem dL_law_266 : decode cL_law 266 = .ok (.aload_n 0, 1) := by decide +kernel
theorem dL_law_267 : decode cL_law 267 = .ok (.iload 4, 2) := by decide +kernel
theorem dL_law_269 : decode cL_law 269 = .ok (.iconst 2, 1) := by decide +kernel
theorem dL_law_270 : decode cL_law 270 = .ok (.iadd, 1) := by decide +kernel
theorem dL_law_271 : decode cL_law 271 = .ok (.iaload, 1) := by decide +kernel
theorem dL_law_272 : decode cL_law 272 = .ok (.invokevirtual 118, 3) := by decide +kernel
theorem dL_law_275 : decode cL_law 275 = .ok (.istore 6, 2) := by decide +kernel
theorem dL_law_277 : decode cL_law 277 = .ok (.aload_n 2, 1) := by decide +kernel
theorem dL_law_278 : decode cL_law 278 = .ok (.invokevirtual 111, 3) := by decide +kernel
theorem dL_law_281 : decode cL_law 281 = .ok (.iload 5, 2) := by decide +kernel
theorem dL_law_283 : decode cL_law 283 = .ok (.if_icmp .eq 5, 3) := by decide +kernel
theorem dL_law_286 : decode cL_law 286 = .ok (.iconst 0, 1) := by decide +kernel
theorem dL_law_287 : decode cL_law 287 = .ok (.ireturn, 1) := by decide +kernel
theorem dL_law_288 : decode cL_law 288 = .ok (.iload 5, 2) := by decide +kernel
theorem dL_law_290 : decode cL_law 290 = .ok (.ifCond .ne 15, 3) := by decide +kernel
theorem dL_law_293 : decode cL_law 293 = .ok (.aload_n 3, 1) := by decide +kernel
theorem dL_law_294 : decode cL_law 294 = .ok (.iconst 0, 1) := by decide +kernel
theorem dL_law_295 : decode cL_law 295 = .ok (.laload, 1) := by decide +kernel
theorem dL_law_296 : decode cL_law 296 = .ok (.iload 6, 2) := by decide +kernel
theorem dL_law_298 : decode cL_law 298 = .ok (.i2l, 1) := by decide +kernel
theorem dL_law_299 : decode cL_law 299 = .ok (.lcmp, 1) := by decide +kernel
theorem dL_law_300 : decode cL_law 300 = .ok (.ifCond .eq 5, 3) := by decide +kernel
theorem dL_law_303 : decode cL_law 303 = .ok (.iconst 0, 1) := by decide +kernel
theorem dL_law_304 : decode cL_law 304 = .ok (.ireturn, 1) := by decide +kernel
theorem dL_law_305 : decode cL_law 305 = .ok (.goto 1566, 3) := by decide +kernel
theorem dL_law_308 : decode cL_law 308 = .ok (.aload_n 1, 1) := by decide +kernel
theorem dL_law_309 : decode cL_law 309 = .ok (.aload_n 0, 1) := by decide +kernel
theorem dL_law_310 : decode cL_law 310 = .ok (.iload 4, 2) := by decide +kernel
theorem dL_law_312 : decode cL_law 312 = .ok (.iconst 1, 1) := by decide +kernel
theorem dL_law_313 : decode cL_law 313 = .ok (.iadd, 1) := by decide +kernel
theorem dL_law_314 : decode cL_law 314 = .ok (.iaload, 1) := by decide +kernel
theorem dL_law_315 : decode cL_law 315 = .ok (.aload_n 3, 1) := by decide +kernel
theorem dL_law_316 : decode cL_law 316 = .ok (.invokestatic 119, 3) := by decide +kernel
theorem dL_law_319 : decode cL_law 319 = .ok (.istore 5, 2) := by decide +kernel
theorem dL_law_321 : decode cL_law 321 = .ok (.aload_n 2, 1) := by decide +kernel
theorem dL_law_322 : decode cL_law 322 = .ok (.aload_n 0, 1) := by decide +kernel
theorem dL_law_323 : decode cL_law 323 = .ok (.iload 4, 2) := by decide +kernel
theorem dL_law_325 : decode cL_law 325 = .ok (.iconst 1, 1) := by decide +kernel
theorem dL_law_326 : decode cL_law 326 = .ok (.iadd, 1) := by decide +kernel
theorem dL_law_327 : decode cL_law 327 = .ok (.iaload, 1) := by decide +kernel
theorem dL_law_328 : decode cL_law 328 = .ok (.invokevirtual 122, 3) := by decide +kernel
theorem dL_law_331 : decode cL_law 331 = .ok (.istore 6, 2) := by decide +kernel
theorem dL_law_333 : decode cL_law 333 = .ok (.aload_n 2, 1) := by decide +kernel
theorem dL_law_334 : decode cL_law 334 = .ok (.invokevirtual 111, 3) := by decide +kernel
theorem dL_law_337 : decode cL_law 337 = .ok (.iload 5, 2) := by decide +kernel
theorem dL_law_339 : decode cL_law 339 = .ok (.if_icmp .eq 5, 3) := by decide +kernel
theorem dL_law_342 : decode cL_law 342 = .ok (.iconst 0, 1) := by decide +kernel
theorem dL_law_343 : decode cL_law 343 = .ok (.ireturn, 1) := by decide +kernel
theorem dL_law_344 : decode cL_law 344 = .ok (.iload 5, 2) := by decide +kernel
theorem dL_law_346 : decode cL_law 346 = .ok (.ifCond .ne 15, 3) := by decide +kernel
theorem dL_law_349 : decode cL_law 349 = .ok (.aload_n 3, 1) := by decide +kernel
theorem dL_law_350 : decode cL_law 350 = .ok (.iconst 0, 1) := by decide +kernel
theorem dL_law_351 : decode cL_law 351 = .ok (.laload, 1) := by decide +kernel
theorem dL_law_352 : decode cL_law 352 = .ok (.iload 6, 2) := by decide +kernel
theorem dL_law_354 : decode cL_law 354 = .ok (.i2l, 1) := by decide +kernel
theorem dL_law_355 : decode cL_law 355 = .ok (.lcmp, 1) := by decide +kernel
theorem dL_law_356 : decode cL_law 356 = .ok (.ifCond .eq 5, 3) := by decide +kernel
theorem dL_law_359 : decode cL_law 359 = .ok (.iconst 0, 1) := by decide +kernel
theorem dL_law_360 : decode cL_law 360 = .ok (.ireturn, 1) := by decide +kernel
theorem dL_law_361 : decode cL_law 361 = .ok (.goto 1510, 3) := by decide +kernel
theorem dL_law_364 : decode cL_law 364 = .ok (.aload_n 1, 1) := by decide +kernel
theorem dL_law_365 : decode cL_law 365 = .ok (.aload_n 0, 1) := by decide +kernel
theorem dL_law_366 : decode cL_law 366 = .ok (.iload 4, 2) := by decide +kernel
theorem dL_law_368 : decode cL_law 368 = .ok (.iconst 1, 1) := by decide +kernel
theorem dL_law_369 : decode cL_law 369 = .ok (.iadd, 1) := by decide +kernel
theorem dL_law_370 : decode cL_law 370 = .ok (.iaload, 1) := by decide +kernel
theorem dL_law_371 : decode cL_law 371 = .ok (.aload_n 0, 1) := by decide +kernel
theorem dL_law_372 : decode cL_law 372 = .ok (.iload 4, 2) := by decide +kernel
theorem dL_law_374 : decode cL_law 374 = .ok (.iconst 2, 1) := by decide +kernel
theorem dL_law_375 : decode cL_law 375 = .ok (.iadd, 1) := by decide +kernel
theorem dL_law_376 : decode cL_law 376 = .ok (.iaload, 1) := by decide +kernel
theorem dL_law_377 : decode cL_law 377 = .ok (.aload_n 3, 1) := by decide +kernel
theorem dL_law_378 : decode cL_law 378 = .ok (.invokestatic 123, 3) := by decide +kernel
theorem dL_law_381 : decode cL_law 381 = .ok (.istore 5, 2) := by decide +kernel
theorem dL_law_383 : decode cL_law 383 = .ok (.aload_n 2, 1) := by decide +kernel
theorem dL_law_384 : decode cL_law 384 = .ok (.aload_n 0, 1) := by decide +kernel
theorem dL_law_385 : decode cL_law 385 = .ok (.iload 4, 2) := by decide +kernel
theorem dL_law_387 : decode cL_law 387 = .ok (.iconst 1, 1) := by decide +kernel
theorem dL_law_388 : decode cL_law 388 = .ok (.iadd, 1) := by decide +kernel
theorem dL_law_389 : decode cL_law 389 = .ok (.iaload, 1) := by decide +kernel
theorem dL_law_390 : decode cL_law 390 = .ok (.aload_n 0, 1) := by decide +kernel
theorem dL_law_391 : decode cL_law 391 = .ok (.iload 4, 2) := by decide +kernel
theorem dL_law_393 : decode cL_law 393 = .ok (.iconst 2, 1) := by decide +kernel
theorem dL_law_394 : decode cL_law 394 = .ok (.iadd, 1) := by decide +kernel
theorem dL_law_395 : decode cL_law 395 = .ok (.iaload, 1) := by decide +kernel
theorem dL_law_396 : decode cL_law 396 = .ok (.invokevirtual 125, 3) := by decide +kernel
theorem dL_law_399 : decode cL_law 399 = .ok (.istore 6, 2) := by decide +kernel
theorem dL_law_401 : decode cL_law 401 = .ok (.aload_n 2, 1) := by decide +kernel
theorem dL_law_402 : decode cL_law 402 = .ok (.invokevirtual 111, 3) := by decide +kernel
theorem dL_law_405 : decode cL_law 405 = .ok (.iload 5, 2) := by decide +kernel
theorem dL_law_407 : decode cL_law 407 = .ok (.if_icmp .eq 5, 3) := by decide +kernel
theorem dL_law_410 : decode cL_law 410 = .ok (.iconst 0, 1) := by decide +kernel
theorem dL_law_411 : decode cL_law 411 = .ok (.ireturn, 1) := by decide +kernel
theorem dL_law_412 : decode cL_law 412 = .ok (.iload 5, 2) := by decide +kernel
theorem dL_law_414 : decode cL_law 414 = .ok (.ifCond .ne 15, 3) := by decide +kernel
theorem dL_law_417 : decode cL_law 417 = .ok (.aload_n 3, 1) := by decide +kernel
theorem dL_law_418 : decode cL_law 418 = .ok (.iconst 0, 1) := by decide +kernel
theorem dL_law_419 : decode cL_law 419 = .ok (.laload, 1) := by decide +kernel
theorem dL_law_420 : decode cL_law 420 = .ok (.iload 6, 2) := by decide +kernel
theorem dL_law_422 : decode cL_law 422 = .ok (.i2l, 1) := by decide +kernel
theorem dL_law_423 : decode cL_law 423 = .ok (.lcmp, 1) := by decide +kernel
theorem dL_law_424 : decode cL_law 424 = .ok (.ifCond .eq 5, 3) := by decide +kernel
theorem dL_law_427 : decode cL_law 427 = .ok (.iconst 0, 1) := by decide +kernel
theorem dL_law_428 : decode cL_law 428 = .ok (.ireturn, 1) := by decide +kernel
theorem dL_law_429 : decode cL_law 429 = .ok (.goto 1442, 3) := by decide +kernel
theorem dL_law_432 : decode cL_law 432 = .ok (.aload_n 1, 1) := by decide +kernel
end
section
theorem dL_law_433 : decode cL_law 433 = .ok (.aload_n 0, 1) := by decide +kernel
theorem dL_law_434 : decode cL_law 434 = .ok (.iload 4, 2) := by decide +kernel
theorem dL_law_436 : decode cL_law 436 = .ok (.iconst 1, 1) := by decide +kernel
theorem dL_law_437 : decode cL_law 437 = .ok (.iadd, 1) := by decide +kernel
theorem dL_law_438 : decode cL_law 438 = .ok (.iaload, 1) := by decide +kernel
theorem dL_law_439 : decode cL_law 439 = .ok (.aload_n 3, 1) := by decide +kernel
theorem dL_law_440 : decode cL_law 440 = .ok (.invokestatic 126, 3) := by decide +kernel
theorem dL_law_443 : decode cL_law 443 = .ok (.istore 5, 2) := by decide +kernel
theorem dL_law_445 : decode cL_law 445 = .ok (.aload_n 2, 1) := by decide +kernel
theorem dL_law_446 : decode cL_law 446 = .ok (.aload_n 0, 1) := by decide +kernel
theorem dL_law_447 : decode cL_law 447 = .ok (.iload 4, 2) := by decide +kernel
theorem dL_law_449 : decode cL_law 449 = .ok (.iconst 1, 1) := by decide +kernel
theorem dL_law_450 : decode cL_law 450 = .ok (.iadd, 1) := by decide +kernel
theorem dL_law_451 : decode cL_law 451 = .ok (.iaload, 1) := by decide +kernel
theorem dL_law_452 : decode cL_law 452 = .ok (.invokevirtual 128, 3) := by decide +kernel
theorem dL_law_455 : decode cL_law 455 = .ok (.istore 6, 2) := by decide +kernel
theorem dL_law_457 : decode cL_law 457 = .ok (.aload_n 2, 1) := by decide +kernel
theorem dL_law_458 : decode cL_law 458 = .ok (.invokevirtual 111, 3) := by decide +kernel
theorem dL_law_461 : decode cL_law 461 = .ok (.iload 5, 2) := by decide +kernel
theorem dL_law_463 : decode cL_law 463 = .ok (.if_icmp .eq 5, 3) := by decide +kernel
theorem dL_law_466 : decode cL_law 466 = .ok (.iconst 0, 1) := by decide +kernel
theorem dL_law_467 : decode cL_law 467 = .ok (.ireturn, 1) := by decide +kernel
theorem dL_law_468 : decode cL_law 468 = .ok (.iload 5, 2) := by decide +kernel
theorem dL_law_470 : decode cL_law 470 = .ok (.ifCond .ne 15, 3) := by decide +kernel
theorem dL_law_473 : decode cL_law 473 = .ok (.aload_n 3, 1) := by decide +kernel
theorem dL_law_474 : decode cL_law 474 = .ok (.iconst 0, 1) := by decide +kernel
theorem dL_law_475 : decode cL_law 475 = .ok (.laload, 1) := by decide +kernel
theorem dL_law_476 : decode cL_law 476 = .ok (.iload 6, 2) := by decide +kernel
theorem dL_law_478 : decode cL_law 478 = .ok (.i2l, 1) := by decide +kernel
theorem dL_law_479 : decode cL_law 479 = .ok (.lcmp, 1) := by decide +kernel
theorem dL_law_480 : decode cL_law 480 = .ok (.ifCond .eq 5, 3) := by decide +kernel
theorem dL_law_483 : decode cL_law 483 = .ok (.iconst 0, 1) := by decide +kernel
theorem dL_law_484 : decode cL_law 484 = .ok (.ireturn, 1) := by decide +kernel
theorem dL_law_485 : decode cL_law 485 = .ok (.goto 1386, 3) := by decide +kernel
theorem dL_law_488 : decode cL_law 488 = .ok (.aload_n 1, 1) := by decide +kernel
theorem dL_law_489 : decode cL_law 489 = .ok (.aload_n 0, 1) := by decide +kernel
theorem dL_law_490 : decode cL_law 490 = .ok (.iload 4, 2) := by decide +kernel
theorem dL_law_492 : decode cL_law 492 = .ok (.iconst 1, 1) := by decide +kernel
theorem dL_law_493 : decode cL_law 493 = .ok (.iadd, 1) := by decide +kernel
theorem dL_law_494 : decode cL_law 494 = .ok (.iaload, 1) := by decide +kernel
theorem dL_law_495 : decode cL_law 495 = .ok (.aload_n 3, 1) := by decide +kernel
theorem dL_law_496 : decode cL_law 496 = .ok (.invokestatic 129, 3) := by decide +kernel
theorem dL_law_499 : decode cL_law 499 = .ok (.istore 5, 2) := by decide +kernel
theorem dL_law_501 : decode cL_law 501 = .ok (.aload_n 2, 1) := by decide +kernel
theorem dL_law_502 : decode cL_law 502 = .ok (.aload_n 0, 1) := by decide +kernel
theorem dL_law_503 : decode cL_law 503 = .ok (.iload 4, 2) := by decide +kernel
theorem dL_law_505 : decode cL_law 505 = .ok (.iconst 1, 1) := by decide +kernel
theorem dL_law_506 : decode cL_law 506 = .ok (.iadd, 1) := by decide +kernel
theorem dL_law_507 : decode cL_law 507 = .ok (.iaload, 1) := by decide +kernel
theorem dL_law_508 : decode cL_law 508 = .ok (.invokevirtual 131, 3) := by decide +kernel
theorem dL_law_511 : decode cL_law 511 = .ok (.istore 6, 2) := by decide +kernel
theorem dL_law_513 : decode cL_law 513 = .ok (.aload_n 2, 1) := by decide +kernel
theorem dL_law_514 : decode cL_law 514 = .ok (.invokevirtual 111, 3) := by decide +kernel
theorem dL_law_517 : decode cL_law 517 = .ok (.iload 5, 2) := by decide +kernel
theorem dL_law_519 : decode cL_law 519 = .ok (.if_icmp .eq 5, 3) := by decide +kernel
theorem dL_law_522 : decode cL_law 522 = .ok (.iconst 0, 1) := by decide +kernel
theorem dL_law_523 : decode cL_law 523 = .ok (.ireturn, 1) := by decide +kernel
theorem dL_law_524 : decode cL_law 524 = .ok (.iload 5, 2) := by decide +kernel
theorem dL_law_526 : decode cL_law 526 = .ok (.ifCond .ne 15, 3) := by decide +kernel
theorem dL_law_529 : decode cL_law 529 = .ok (.aload_n 3, 1) := by decide +kernel
theorem dL_law_530 : decode cL_law 530 = .ok (.iconst 0, 1) := by decide +kernel
theorem dL_law_531 : decode cL_law 531 = .ok (.laload, 1) := by decide +kernel
theorem dL_law_532 : decode cL_law 532 = .ok (.iload 6, 2) := by decide +kernel
theorem dL_law_534 : decode cL_law 534 = .ok (.i2l, 1) := by decide +kernel
theorem dL_law_535 : decode cL_law 535 = .ok (.lcmp, 1) := by decide +kernel
theorem dL_law_536 : decode cL_law 536 = .ok (.ifCond .eq 5, 3) := by decide +kernel
theorem dL_law_539 : decode cL_law 539 = .ok (.iconst 0, 1) := by decide +kernel
theorem dL_law_540 : decode cL_law 540 = .ok (.ireturn, 1) := by decide +kernel
theorem dL_law_541 : decode cL_law 541 = .ok (.goto 1330, 3) := by decide +kernel
theorem dL_law_544 : decode cL_law 544 = .ok (.aload_n 1, 1) := by decide +kernel
theorem dL_law_545 : decode cL_law 545 = .ok (.aload_n 0, 1) := by decide +kernel
theorem dL_law_546 : decode cL_law 546 = .ok (.iload 4, 2) := by decide +kernel
theorem dL_law_548 : decode cL_law 548 = .ok (.iconst 1, 1) := by decide +kernel
theorem dL_law_549 : decode cL_law 549 = .ok (.iadd, 1) := by decide +kernel
theorem dL_law_550 : decode cL_law 550 = .ok (.iaload, 1) := by decide +kernel
theorem dL_law_551 : decode cL_law 551 = .ok (.aload_n 3, 1) := by decide +kernel
theorem dL_law_552 : decode cL_law 552 = .ok (.invokestatic 132, 3) := by decide +kernel
theorem dL_law_555 : decode cL_law 555 = .ok (.istore 5, 2) := by decide +kernel
theorem dL_law_557 : decode cL_law 557 = .ok (.aload_n 2, 1) := by decide +kernel
theorem dL_law_558 : decode cL_law 558 = .ok (.aload_n 0, 1) := by decide +kernel
theorem dL_law_559 : decode cL_law 559 = .ok (.iload 4, 2) := by decide +kernel
theorem dL_law_561 : decode cL_law 561 = .ok (.iconst 1, 1) := by decide +kernel
theorem dL_law_562 : decode cL_law 562 = .ok (.iadd, 1) := by decide +kernel
theorem dL_law_563 : decode cL_law 563 = .ok (.iaload, 1) := by decide +kernel
theorem dL_law_564 : decode cL_law 564 = .ok (.invokevirtual 134, 3) := by decide +kernel
theorem dL_law_567 : decode cL_law 567 = .ok (.istore 6, 2) := by decide +kernel
theorem dL_law_569 : decode cL_law 569 = .ok (.aload_n 2, 1) := by decide +kernel
theorem dL_law_570 : decode cL_law 570 = .ok (.invokevirtual 111, 3) := by decide +kernel
theorem dL_law_573 : decode cL_law 573 = .ok (.iload 5, 2) := by decide +kernel
theorem dL_law_575 : decode cL_law 575 = .ok (.if_icmp .eq 5, 3) := by decide +kernel
theorem dL_law_578 : decode cL_law 578 = .ok (.iconst 0, 1) := by decide +kernel
theorem dL_law_579 : decode cL_law 579 = .ok (.ireturn, 1) := by decide +kernel
theorem dL_law_580 : decode cL_law 580 = .ok (.iload 5, 2) := by decide +kernel
theorem dL_law_582 : decode cL_law 582 = .ok (.ifCond .ne 15, 3) := by decide +kernel
theorem dL_law_585 : decode cL_law 585 = .ok (.aload_n 3, 1) := by decide +kernel
theorem dL_law_586 : decode cL_law 586 = .ok (.iconst 0, 1) := by decide +kernel
theorem dL_law_587 : decode cL_law 587 = .ok (.laload, 1) := by decide +kernel
theorem dL_law_588 : decode cL_law 588 = .ok (.iload 6, 2) := by decide +kernel
theorem dL_law_590 : decode cL_law 590 = .ok (.i2l, 1) := by decide +kernel
theorem dL_law_591 : decode cL_law 591 = .ok (.lcmp, 1) := by decide +kernel
theorem dL_law_592 : decode cL_law 592 = .ok (.ifCond .eq 5, 3) := by decide +kernel
theorem dL_law_595 : decode cL_law 595 = .ok (.iconst 0, 1) := by decide +kernel
theorem dL_law_596 : decode cL_law 596 = .ok (.ireturn, 1) := by decide +kernel
theorem dL_law_597 : decode cL_law 597 = .ok (.goto 1274, 3) := by decide +kernel
theorem dL_law_600 : decode cL_law 600 = .ok (.aload_n 1, 1) := by decide +kernel
theorem dL_law_601 : decode cL_law 601 = .ok (.aload_n 0, 1) := by decide +kernel
theorem dL_law_602 : decode cL_law 602 = .ok (.iload 4, 2) := by decide +kernel
theorem dL_law_604 : decode cL_law 604 = .ok (.iconst 1, 1) := by decide +kernel
theorem dL_law_605 : decode cL_law 605 = .ok (.iadd, 1) := by decide +kernel
theorem dL_law_606 : decode cL_law 606 = .ok (.iaload, 1) := by decide +kernel
theorem dL_law_607 : decode cL_law 607 = .ok (.aload_n 3, 1) := by decide +kernel
theorem dL_law_608 : decode cL_law 608 = .ok (.invokestatic 135, 3) := by decide +kernel
theorem dL_law_611 : decode cL_law 611 = .ok (.istore 5, 2) := by decide +kernel
theorem dL_law_613 : decode cL_law 613 = .ok (.aload_n 2, 1) := by decide +kernel
theorem dL_law_614 : decode cL_law 614 = .ok (.aload_n 0, 1) := by decide +kernel
theorem dL_law_615 : decode cL_law 615 = .ok (.iload 4, 2) := by decide +kernel
theorem dL_law_617 : decode cL_law 617 = .ok (.iconst 1, 1) := by decide +kernel
theorem dL_law_618 : decode cL_law 618 = .ok (.iadd, 1) := by decide +kernel
theorem dL_law_619 : decode cL_law 619 = .ok (.iaload, 1) := by decide +kernel
theorem dL_law_620 : decode cL_law 620 = .ok (.invokevirtual 137, 3) := by decide +kernel
theorem dL_law_623 : decode cL_law 623 = .ok (.istore 6, 2) := by decide +kernel
theorem dL_law_625 : decode cL_law 625 = .ok (.aload_n 2, 1) := by decide +kernel
theorem dL_law_626 : decode cL_law 626 = .ok (.invokevirtual 111, 3) := by decide +kernel
theorem dL_law_629 : decode cL_law 629 = .ok (.iload 5, 2) := by decide +kernel
theorem dL_law_631 : decode cL_law 631 = .ok (.if_icmp .eq 5, 3) := by decide +kernel
theorem dL_law_634 : decode cL_law 634 = .ok (.iconst 0, 1) := by decide +kernel
theorem dL_law_635 : decode cL_law 635 = .ok (.ireturn, 1) := by decide +kernel
theorem dL_law_636 : decode cL_law 636 = .ok (.iload 5, 2) := by decide +kernel
theorem dL_law_638 : decode cL_law 638 = .ok (.ifCond .ne 15, 3) := by decide +kernel
theorem dL_law_641 : decode cL_law 641 = .ok (.aload_n 3, 1) := by decide +kernel
theorem dL_law_642 : decode cL_law 642 = .ok (.iconst 0, 1) := by decide +kernel
theorem dL_law_643 : decode cL_law 643 = .ok (.laload, 1) := by decide +kernel
theorem dL_law_644 : decode cL_law 644 = .ok (.iload 6, 2) := by decide +kernel
theorem dL_law_646 : decode cL_law 646 = .ok (.i2l, 1) := by decide +kernel
theorem dL_law_647 : decode cL_law 647 = .ok (.lcmp, 1) := by decide +kernel
theorem dL_law_648 : decode cL_law 648 = .ok (.ifCond .eq 5, 3) := by decide +kernel
theorem dL_law_651 : decode cL_law 651 = .ok (.iconst 0, 1) := by decide +kernel
theorem dL_law_652 : decode cL_law 652 = .ok (.ireturn, 1) := by decide +kernel
theorem dL_law_653 : decode cL_law 653 = .ok (.goto 1218, 3) := by decide +kernel
theorem dL_law_656 : decode cL_law 656 = .ok (.aload_n 1, 1) := by decide +kernel
theorem dL_law_657 : decode cL_law 657 = .ok (.aload_n 0, 1) := by decide +kernel
theorem dL_law_658 : decode cL_law 658 = .ok (.iload 4, 2) := by decide +kernel
theorem dL_law_660 : decode cL_law 660 = .ok (.iconst 1, 1) := by decide +kernel
theorem dL_law_661 : decode cL_law 661 = .ok (.iadd, 1) := by decide +kernel
theorem dL_law_662 : decode cL_law 662 = .ok (.iaload, 1) := by decide +kernel
theorem dL_law_663 : decode cL_law 663 = .ok (.aload_n 3, 1) := by decide +kernel
theorem dL_law_664 : decode cL_law 664 = .ok (.invokestatic 138, 3) := by decide +kernel
theorem dL_law_667 : decode cL_law 667 = .ok (.istore 5, 2) := by decide +kernel
theorem dL_law_669 : decode cL_law 669 = .ok (.aload_n 2, 1) := by decide +kernel
theorem dL_law_670 : decode cL_law 670 = .ok (.aload_n 0, 1) := by decide +kernel
theorem dL_law_671 : decode cL_law 671 = .ok (.iload 4, 2) := by decide +kernel
theorem dL_law_673 : decode cL_law 673 = .ok (.iconst 1, 1) := by decide +kernel
theorem dL_law_674 : decode cL_law 674 = .ok (.iadd, 1) := by decide +kernel
theorem dL_law_675 : decode cL_law 675 = .ok (.iaload, 1) := by decide +kernel
theorem dL_law_676 : decode cL_law 676 = .ok (.invokevirtual 140, 3) := by decide +kernel
theorem dL_law_679 : decode cL_law 679 = .ok (.istore 6, 2) := by decide +kernel
theorem dL_law_681 : decode cL_law 681 = .ok (.aload_n 2, 1) := by decide +kernel
theorem dL_law_682 : decode cL_law 682 = .ok (.invokevirtual 111, 3) := by decide +kernel
theorem dL_law_685 : decode cL_law 685 = .ok (.iload 5, 2) := by decide +kernel
theorem dL_law_687 : decode cL_law 687 = .ok (.if_icmp .eq 5, 3) := by decide +kernel
theorem dL_law_690 : decode cL_law 690 = .ok (.iconst 0, 1) := by decide +kernel
theorem dL_law_691 : decode cL_law 691 = .ok (.ireturn, 1) := by decide +kernel
theorem dL_law_692 : decode cL_law 692 = .ok (.iload 5, 2) := by decide +kernel
theorem dL_law_694 : decode cL_law 694 = .ok (.ifCond .ne 15, 3) := by decide +kernel
theorem dL_law_697 : decode cL_law 697 = .ok (.aload_n 3, 1) := by decide +kernel
theorem dL_law_698 : decode cL_law 698 = .ok (.iconst 0, 1) := by decide +kernel
theorem dL_law_699 : decode cL_law 699 = .ok (.laload, 1) := by decide +kernel
theorem dL_law_700 : decode cL_law 700 = .ok (.iload 6, 2) := by decide +kernel
theorem dL_law_702 : decode cL_law 702 = .ok (.i2l, 1) := by decide +kernel
theorem dL_law_703 : decode cL_law 703 = .ok (.lcmp, 1) := by decide +kernel
theorem dL_law_704 : decode cL_law 704 = .ok (.ifCond .eq 5, 3) := by decide +kernel
theorem dL_law_707 : decode cL_law 707 = .ok (.iconst 0, 1) := by decide +kernel
theorem dL_law_708 : decode cL_law 708 = .ok (.ireturn, 1) := by decide +kernel
theorem dL_law_709 : decode cL_law 709 = .ok (.goto 1162, 3) := by decide +kernel
theorem dL_law_712 : decode cL_law 712 = .ok (.aload_n 1, 1) := by decide +kernel
theorem dL_law_713 : decode cL_law 713 = .ok (.aload_n 0, 1) := by decide +kernel
theorem dL_law_714 : decode cL_law 714 = .ok (.iload 4, 2) := by decide +kernel
theorem dL_law_716 : decode cL_law 716 = .ok (.iconst 1, 1) := by decide +kernel
theorem dL_law_717 : decode cL_law 717 = .ok (.iadd, 1) := by decide +kernel
theorem dL_law_718 : decode cL_law 718 = .ok (.iaload, 1) := by decide +kernel
theorem dL_law_719 : decode cL_law 719 = .ok (.aload_n 0, 1) := by decide +kernel
theorem dL_law_720 : decode cL_law 720 = .ok (.iload 4, 2) := by decide +kernel
theorem dL_law_722 : decode cL_law 722 = .ok (.iconst 2, 1) := by decide +kernel
theorem dL_law_723 : decode cL_law 723 = .ok (.iadd, 1) := by decide +kernel
theorem dL_law_724 : decode cL_law 724 = .ok (.iaload, 1) := by decide +kernel
theorem dL_law_725 : decode cL_law 725 = .ok (.aload_n 0, 1) := by decide +kernel
theorem dL_law_726 : decode cL_law 726 = .ok (.iload 4, 2) := by decide +kernel
theorem dL_law_728 : decode cL_law 728 = .ok (.iconst 3, 1) := by decide +kernel
theorem dL_law_729 : decode cL_law 729 = .ok (.iadd, 1) := by decide +kernel
theorem dL_law_730 : decode cL_law 730 = .ok (.iaload, 1) := by decide +kernel
theorem dL_law_731 : decode cL_law 731 = .ok (.aload_n 0, 1) := by decide +kernel
theorem dL_law_732 : decode cL_law 732 = .ok (.iload 4, 2) := by decide +kernel
theorem dL_law_734 : decode cL_law 734 = .ok (.iconst 4, 1) := by decide +kernel
theorem dL_law_735 : decode cL_law 735 = .ok (.iadd, 1) := by decide +kernel
theorem dL_law_736 : decode cL_law 736 = .ok (.iaload, 1) := by decide +kernel
theorem dL_law_737 : decode cL_law 737 = .ok (.aload_n 0, 1) := by decide +kernel
theorem dL_law_738 : decode cL_law 738 = .ok (.iload 4, 2) := by decide +kernel
theorem dL_law_740 : decode cL_law 740 = .ok (.iconst 5, 1) := by decide +kernel
theorem dL_law_741 : decode cL_law 741 = .ok (.iadd, 1) := by decide +kernel
theorem dL_law_742 : decode cL_law 742 = .ok (.iaload, 1) := by decide +kernel
theorem dL_law_743 : decode cL_law 743 = .ok (.invokestatic 141, 3) := by decide +kernel
theorem dL_law_746 : decode cL_law 746 = .ok (.istore 5, 2) := by decide +kernel
theorem dL_law_748 : decode cL_law 748 = .ok (.aload_n 2, 1) := by decide +kernel
theorem dL_law_749 : decode cL_law 749 = .ok (.aload_n 0, 1) := by decide +kernel
theorem dL_law_750 : decode cL_law 750 = .ok (.iload 4, 2) := by decide +kernel
theorem dL_law_752 : decode cL_law 752 = .ok (.iconst 1, 1) := by decide +kernel
theorem dL_law_753 : decode cL_law 753 = .ok (.iadd, 1) := by decide +kernel
theorem dL_law_754 : decode cL_law 754 = .ok (.iaload, 1) := by decide +kernel
theorem dL_law_755 : decode cL_law 755 = .ok (.aload_n 0, 1) := by decide +kernel
theorem dL_law_756 : decode cL_law 756 = .ok (.iload 4, 2) := by decide +kernel
theorem dL_law_758 : decode cL_law 758 = .ok (.iconst 2, 1) := by decide +kernel
theorem dL_law_759 : decode cL_law 759 = .ok (.iadd, 1) := by decide +kernel
theorem dL_law_760 : decode cL_law 760 = .ok (.iaload, 1) := by decide +kernel
theorem dL_law_761 : decode cL_law 761 = .ok (.aload_n 0, 1) := by decide +kernel
theorem dL_law_762 : decode cL_law 762 = .ok (.iload 4, 2) := by decide +kernel
theorem dL_law_764 : decode cL_law 764 = .ok (.iconst 3, 1) := by decide +kernel
theorem dL_law_765 : decode cL_law 765 = .ok (.iadd, 1) := by decide +kernel
theorem dL_law_766 : decode cL_law 766 = .ok (.iaload, 1) := by decide +kernel
theorem dL_law_767 : decode cL_law 767 = .ok (.aload_n 0, 1) := by decide +kernel
theorem dL_law_768 : decode cL_law 768 = .ok (.iload 4, 2) := by decide +kernel
theorem dL_law_770 : decode cL_law 770 = .ok (.iconst 4, 1) := by decide +kernel
theorem dL_law_771 : decode cL_law 771 = .ok (.iadd, 1) := by decide +kernel
theorem dL_law_772 : decode cL_law 772 = .ok (.iaload, 1) := by decide +kernel
theorem dL_law_773 : decode cL_law 773 = .ok (.aload_n 0, 1) := by decide +kernel
theorem dL_law_774 : decode cL_law 774 = .ok (.iload 4, 2) := by decide +kernel
theorem dL_law_776 : decode cL_law 776 = .ok (.iconst 5, 1) := by decide +kernel
theorem dL_law_777 : decode cL_law 777 = .ok (.iadd, 1) := by decide +kernel
theorem dL_law_778 : decode cL_law 778 = .ok (.iaload, 1) := by decide +kernel
theorem dL_law_779 : decode cL_law 779 = .ok (.invokevirtual 144, 3) := by decide +kernel
theorem dL_law_782 : decode cL_law 782 = .ok (.aload_n 2, 1) := by decide +kernel
theorem dL_law_783 : decode cL_law 783 = .ok (.invokevirtual 111, 3) := by decide +kernel
theorem dL_law_786 : decode cL_law 786 = .ok (.iload 5, 2) := by decide +kernel
theorem dL_law_788 : decode cL_law 788 = .ok (.if_icmp .eq 5, 3) := by decide +kernel
theorem dL_law_791 : decode cL_law 791 = .ok (.iconst 0, 1) := by decide +kernel
theorem dL_law_792 : decode cL_law 792 = .ok (.ireturn, 1) := by decide +kernel
theorem dL_law_793 : decode cL_law 793 = .ok (.goto 1078, 3) := by decide +kernel
theorem dL_law_796 : decode cL_law 796 = .ok (.aload_n 1, 1) := by decide +kernel
theorem dL_law_797 : decode cL_law 797 = .ok (.aload_n 0, 1) := by decide +kernel
theorem dL_law_798 : decode cL_law 798 = .ok (.iload 4, 2) := by decide +kernel
theorem dL_law_800 : decode cL_law 800 = .ok (.iconst 1, 1) := by decide +kernel
theorem dL_law_801 : decode cL_law 801 = .ok (.iadd, 1) := by decide +kernel
theorem dL_law_802 : decode cL_law 802 = .ok (.iaload, 1) := by decide +kernel
theorem dL_law_803 : decode cL_law 803 = .ok (.aload_n 0, 1) := by decide +kernel
theorem dL_law_804 : decode cL_law 804 = .ok (.iload 4, 2) := by decide +kernel
theorem dL_law_806 : decode cL_law 806 = .ok (.iconst 2, 1) := by decide +kernel
theorem dL_law_807 : decode cL_law 807 = .ok (.iadd, 1) := by decide +kernel
theorem dL_law_808 : decode cL_law 808 = .ok (.iaload, 1) := by decide +kernel
theorem dL_law_809 : decode cL_law 809 = .ok (.aload_n 3, 1) := by decide +kernel
theorem dL_law_810 : decode cL_law 810 = .ok (.invokestatic 145, 3) := by decide +kernel
theorem dL_law_813 : decode cL_law 813 = .ok (.istore 5, 2) := by decide +kernel
theorem dL_law_815 : decode cL_law 815 = .ok (.aload_n 2, 1) := by decide +kernel
theorem dL_law_816 : decode cL_law 816 = .ok (.aload_n 0, 1) := by decide +kernel
theorem dL_law_817 : decode cL_law 817 = .ok (.iload 4, 2) := by decide +kernel
theorem dL_law_819 : decode cL_law 819 = .ok (.iconst 1, 1) := by decide +kernel
theorem dL_law_820 : decode cL_law 820 = .ok (.iadd, 1) := by decide +kernel
theorem dL_law_821 : decode cL_law 821 = .ok (.iaload, 1) := by decide +kernel
theorem dL_law_822 : decode cL_law 822 = .ok (.aload_n 0, 1) := by decide +kernel
theorem dL_law_823 : decode cL_law 823 = .ok (.iload 4, 2) := by decide +kernel
theorem dL_law_825 : decode cL_law 825 = .ok (.iconst 2, 1) := by decide +kernel
theorem dL_law_826 : decode cL_law 826 = .ok (.iadd, 1) := by decide +kernel
theorem dL_law_827 : decode cL_law 827 = .ok (.iaload, 1) := by decide +kernel
theorem dL_law_828 : decode cL_law 828 = .ok (.invokevirtual 147, 3) := by decide +kernel
theorem dL_law_831 : decode cL_law 831 = .ok (.istore 6, 2) := by decide +kernel
theorem dL_law_833 : decode cL_law 833 = .ok (.aload_n 2, 1) := by decide +kernel
theorem dL_law_834 : decode cL_law 834 = .ok (.invokevirtual 111, 3) := by decide +kernel
theorem dL_law_837 : decode cL_law 837 = .ok (.iload 5, 2) := by decide +kernel
theorem dL_law_839 : decode cL_law 839 = .ok (.if_icmp .eq 5, 3) := by decide +kernel
theorem dL_law_842 : decode cL_law 842 = .ok (.iconst 0, 1) := by decide +kernel
theorem dL_law_843 : decode cL_law 843 = .ok (.ireturn, 1) := by decide +kernel
theorem dL_law_844 : decode cL_law 844 = .ok (.iload 5, 2) := by decide +kernel
theorem dL_law_846 : decode cL_law 846 = .ok (.ifCond .ne 15, 3) := by decide +kernel
theorem dL_law_849 : decode cL_law 849 = .ok (.aload_n 3, 1) := by decide +kernel
theorem dL_law_850 : decode cL_law 850 = .ok (.iconst 0, 1) := by decide +kernel
theorem dL_law_851 : decode cL_law 851 = .ok (.laload, 1) := by decide +kernel
theorem dL_law_852 : decode cL_law 852 = .ok (.iload 6, 2) := by decide +kernel
theorem dL_law_854 : decode cL_law 854 = .ok (.i2l, 1) := by decide +kernel
theorem dL_law_855 : decode cL_law 855 = .ok (.lcmp, 1) := by decide +kernel
theorem dL_law_856 : decode cL_law 856 = .ok (.ifCond .eq 5, 3) := by decide +kernel
theorem dL_law_859 : decode cL_law 859 = .ok (.iconst 0, 1) := by decide +kernel
theorem dL_law_860 : decode cL_law 860 = .ok (.ireturn, 1) := by decide +kernel
theorem dL_law_861 : decode cL_law 861 = .ok (.goto 1010, 3) := by decide +kernel
theorem dL_law_864 : decode cL_law 864 = .ok (.aload_n 1, 1) := by decide +kernel
theorem dL_law_865 : decode cL_law 865 = .ok (.aload_n 0, 1) := by decide +kernel
theorem dL_law_866 : decode cL_law 866 = .ok (.iload 4, 2) := by decide +kernel
theorem dL_law_868 : decode cL_law 868 = .ok (.iconst 1, 1) := by decide +kernel
theorem dL_law_869 : decode cL_law 869 = .ok (.iadd, 1) := by decide +kernel
theorem dL_law_870 : decode cL_law 870 = .ok (.iaload, 1) := by decide +kernel
theorem dL_law_871 : decode cL_law 871 = .ok (.aload_n 3, 1) := by decide +kernel
theorem dL_law_872 : decode cL_law 872 = .ok (.invokestatic 148, 3) := by decide +kernel
theorem dL_law_875 : decode cL_law 875 = .ok (.istore 5, 2) := by decide +kernel
theorem dL_law_877 : decode cL_law 877 = .ok (.aload_n 2, 1) := by decide +kernel
theorem dL_law_878 : decode cL_law 878 = .ok (.aload_n 0, 1) := by decide +kernel
theorem dL_law_879 : decode cL_law 879 = .ok (.iload 4, 2) := by decide +kernel
theorem dL_law_881 : decode cL_law 881 = .ok (.iconst 1, 1) := by decide +kernel
theorem dL_law_882 : decode cL_law 882 = .ok (.iadd, 1) := by decide +kernel
theorem dL_law_883 : decode cL_law 883 = .ok (.iaload, 1) := by decide +kernel
theorem dL_law_884 : decode cL_law 884 = .ok (.invokevirtual 150, 3) := by decide +kernel
theorem dL_law_887 : decode cL_law 887 = .ok (.istore 6, 2) := by decide +kernel
theorem dL_law_889 : decode cL_law 889 = .ok (.aload_n 2, 1) := by decide +kernel
theorem dL_law_890 : decode cL_law 890 = .ok (.invokevirtual 111, 3) := by decide +kernel
theorem dL_law_893 : decode cL_law 893 = .ok (.iload 5, 2) := by decide +kernel
theorem dL_law_895 : decode cL_law 895 = .ok (.if_icmp .eq 5, 3) := by decide +kernel
theorem dL_law_898 : decode cL_law 898 = .ok (.iconst 0, 1) := by decide +kernel
theorem dL_law_899 : decode cL_law 899 = .ok (.ireturn, 1) := by decide +kernel
theorem dL_law_900 : decode cL_law 900 = .ok (.iload 5, 2) := by decide +kernel
theorem dL_law_902 : decode cL_law 902 = .ok (.ifCond .ne 15, 3) := by decide +kernel
theorem dL_law_905 : decode cL_law 905 = .ok (.aload_n 3, 1) := by decide +kernel
theorem dL_law_906 : decode cL_law 906 = .ok (.iconst 0, 1) := by decide +kernel
theorem dL_law_907 : decode cL_law 907 = .ok (.laload, 1) := by decide +kernel
theorem dL_law_908 : decode cL_law 908 = .ok (.iload 6, 2) := by decide +kernel
theorem dL_law_910 : decode cL_law 910 = .ok (.i2l, 1) := by decide +kernel
theorem dL_law_911 : decode cL_law 911 = .ok (.lcmp, 1) := by decide +kernel
theorem dL_law_912 : decode cL_law 912 = .ok (.ifCond .eq 5, 3) := by decide +kernel
theorem dL_law_915 : decode cL_law 915 = .ok (.iconst 0, 1) := by decide +kernel
theorem dL_law_916 : decode cL_law 916 = .ok (.ireturn, 1) := by decide +kernel
theorem dL_law_917 : decode cL_law 917 = .ok (.goto 954, 3) := by decide +kernel
theorem dL_law_920 : decode cL_law 920 = .ok (.aload_n 1, 1) := by decide +kernel
theorem dL_law_921 : decode cL_law 921 = .ok (.aload_n 0, 1) := by decide +kernel
theorem dL_law_922 : decode cL_law 922 = .ok (.iload 4, 2) := by decide +kernel
theorem dL_law_924 : decode cL_law 924 = .ok (.iconst 1, 1) := by decide +kernel
theorem dL_law_925 : decode cL_law 925 = .ok (.iadd, 1) := by decide +kernel
theorem dL_law_926 : decode cL_law 926 = .ok (.iaload, 1) := by decide +kernel
theorem dL_law_927 : decode cL_law 927 = .ok (.aload_n 3, 1) := by decide +kernel
theorem dL_law_928 : decode cL_law 928 = .ok (.invokestatic 151, 3) := by decide +kernel
theorem dL_law_931 : decode cL_law 931 = .ok (.istore 5, 2) := by decide +kernel
theorem dL_law_933 : decode cL_law 933 = .ok (.aload_n 2, 1) := by decide +kernel
theorem dL_law_934 : decode cL_law 934 = .ok (.aload_n 0, 1) := by decide +kernel
theorem dL_law_935 : decode cL_law 935 = .ok (.iload 4, 2) := by decide +kernel
theorem dL_law_937 : decode cL_law 937 = .ok (.iconst 1, 1) := by decide +kernel
theorem dL_law_938 : decode cL_law 938 = .ok (.iadd, 1) := by decide +kernel
theorem dL_law_939 : decode cL_law 939 = .ok (.iaload, 1) := by decide +kernel
theorem dL_law_940 : decode cL_law 940 = .ok (.invokevirtual 153, 3) := by decide +kernel
theorem dL_law_943 : decode cL_law 943 = .ok (.istore 6, 2) := by decide +kernel
theorem dL_law_945 : decode cL_law 945 = .ok (.aload_n 2, 1) := by decide +kernel
theorem dL_law_946 : decode cL_law 946 = .ok (.invokevirtual 111, 3) := by decide +kernel
theorem dL_law_949 : decode cL_law 949 = .ok (.iload 5, 2) := by decide +kernel
theorem dL_law_951 : decode cL_law 951 = .ok (.if_icmp .eq 5, 3) := by decide +kernel
theorem dL_law_954 : decode cL_law 954 = .ok (.iconst 0, 1) := by decide +kernel
theorem dL_law_955 : decode cL_law 955 = .ok (.ireturn, 1) := by decide +kernel
theorem dL_law_956 : decode cL_law 956 = .ok (.iload 5, 2) := by decide +kernel
theorem dL_law_958 : decode cL_law 958 = .ok (.ifCond .ne 15, 3) := by decide +kernel
theorem dL_law_961 : decode cL_law 961 = .ok (.aload_n 3, 1) := by decide +kernel
theorem dL_law_962 : decode cL_law 962 = .ok (.iconst 0, 1) := by decide +kernel
theorem dL_law_963 : decode cL_law 963 = .ok (.laload, 1) := by decide +kernel
theorem dL_law_964 : decode cL_law 964 = .ok (.iload 6, 2) := by decide +kernel
theorem dL_law_966 : decode cL_law 966 = .ok (.i2l, 1) := by decide +kernel
theorem dL_law_967 : decode cL_law 967 = .ok (.lcmp, 1) := by decide +kernel
theorem dL_law_968 : decode cL_law 968 = .ok (.ifCond .eq 5, 3) := by decide +kernel
theorem dL_law_971 : decode cL_law 971 = .ok (.iconst 0, 1) := by decide +kernel
theorem dL_law_972 : decode cL_law 972 = .ok (.ireturn, 1) := by decide +kernel
theorem dL_law_973 : decode cL_law 973 = .ok (.goto 898, 3) := by decide +kernel
theorem dL_law_976 : decode cL_law 976 = .ok (.aload_n 1, 1) := by decide +kernel
theorem dL_law_977 : decode cL_law 977 = .ok (.aload_n 0, 1) := by decide +kernel
theorem dL_law_978 : decode cL_law 978 = .ok (.iload 4, 2) := by decide +kernel
theorem dL_law_980 : decode cL_law 980 = .ok (.iconst 1, 1) := by decide +kernel
theorem dL_law_981 : decode cL_law 981 = .ok (.iadd, 1) := by decide +kernel
theorem dL_law_982 : decode cL_law 982 = .ok (.iaload, 1) := by decide +kernel
theorem dL_law_983 : decode cL_law 983 = .ok (.invokestatic 154, 3) := by decide +kernel
theorem dL_law_986 : decode cL_law 986 = .ok (.istore 5, 2) := by decide +kernel
theorem dL_law_988 : decode cL_law 988 = .ok (.aload_n 2, 1) := by decide +kernel
theorem dL_law_989 : decode cL_law 989 = .ok (.aload_n 0, 1) := by decide +kernel
theorem dL_law_990 : decode cL_law 990 = .ok (.iload 4, 2) := by decide +kernel
theorem dL_law_992 : decode cL_law 992 = .ok (.iconst 1, 1) := by decide +kernel
theorem dL_law_993 : decode cL_law 993 = .ok (.iadd, 1) := by decide +kernel
theorem dL_law_994 : decode cL_law 994 = .ok (.iaload, 1) := by decide +kernel
theorem dL_law_995 : decode cL_law 995 = .ok (.invokevirtual 157, 3) := by decide +kernel
theorem dL_law_998 : decode cL_law 998 = .ok (.aload_n 2, 1) := by decide +kernel
theorem dL_law_999 : decode cL_law 999 = .ok (.invokevirtual 111, 3) := by decide +kernel
theorem dL_law_1002 : decode cL_law 1002 = .ok (.iload 5, 2) := by decide +kernel
theorem dL_law_1004 : decode cL_law 1004 = .ok (.if_icmp .eq 5, 3) := by decide +kernel
theorem dL_law_1007 : decode cL_law 1007 = .ok (.iconst 0, 1) := by decide +kernel
theorem dL_law_1008 : decode cL_law 1008 = .ok (.ireturn, 1) := by decide +kernel
theorem dL_law_1009 : decode cL_law 1009 = .ok (.goto 862, 3) := by decide +kernel
theorem dL_law_1012 : decode cL_law 1012 = .ok (.aload_n 1, 1) := by decide +kernel
theorem dL_law_1013 : decode cL_law 1013 = .ok (.aload_n 0, 1) := by decide +kernel
theorem dL_law_1014 : decode cL_law 1014 = .ok (.iload 4, 2) := by decide +kernel
theorem dL_law_1016 : decode cL_law 1016 = .ok (.iconst 1, 1) := by decide +kernel
theorem dL_law_1017 : decode cL_law 1017 = .ok (.iadd, 1) := by decide +kernel
theorem dL_law_1018 : decode cL_law 1018 = .ok (.iaload, 1) := by decide +kernel
theorem dL_law_1019 : decode cL_law 1019 = .ok (.invokestatic 158, 3) := by decide +kernel
theorem dL_law_1022 : decode cL_law 1022 = .ok (.istore 5, 2) := by decide +kernel
theorem dL_law_1024 : decode cL_law 1024 = .ok (.aload_n 2, 1) := by decide +kernel
theorem dL_law_1025 : decode cL_law 1025 = .ok (.aload_n 0, 1) := by decide +kernel
theorem dL_law_1026 : decode cL_law 1026 = .ok (.iload 4, 2) := by decide +kernel
theorem dL_law_1028 : decode cL_law 1028 = .ok (.iconst 1, 1) := by decide +kernel
theorem dL_law_1029 : decode cL_law 1029 = .ok (.iadd, 1) := by decide +kernel
theorem dL_law_1030 : decode cL_law 1030 = .ok (.iaload, 1) := by decide +kernel
theorem dL_law_1031 : decode cL_law 1031 = .ok (.invokevirtual 160, 3) := by decide +kernel
theorem dL_law_1034 : decode cL_law 1034 = .ok (.aload_n 2, 1) := by decide +kernel
theorem dL_law_1035 : decode cL_law 1035 = .ok (.invokevirtual 111, 3) := by decide +kernel
theorem dL_law_1038 : decode cL_law 1038 = .ok (.iload 5, 2) := by decide +kernel
theorem dL_law_1040 : decode cL_law 1040 = .ok (.if_icmp .eq 5, 3) := by decide +kernel
theorem dL_law_1043 : decode cL_law 1043 = .ok (.iconst 0, 1) := by decide +kernel
theorem dL_law_1044 : decode cL_law 1044 = .ok (.ireturn, 1) := by decide +kernel
theorem dL_law_1045 : decode cL_law 1045 = .ok (.goto 826, 3) := by decide +kernel
theorem dL_law_1048 : decode cL_law 1048 = .ok (.aload_n 1, 1) := by decide +kernel
theorem dL_law_1049 : decode cL_law 1049 = .ok (.aload_n 0, 1) := by decide +kernel
theorem dL_law_1050 : decode cL_law 1050 = .ok (.iload 4, 2) := by decide +kernel
theorem dL_law_1052 : decode cL_law 1052 = .ok (.iconst 1, 1) := by decide +kernel
theorem dL_law_1053 : decode cL_law 1053 = .ok (.iadd, 1) := by decide +kernel
theorem dL_law_1054 : decode cL_law 1054 = .ok (.iaload, 1) := by decide +kernel
theorem dL_law_1055 : decode cL_law 1055 = .ok (.aload_n 0, 1) := by decide +kernel
theorem dL_law_1056 : decode cL_law 1056 = .ok (.iload 4, 2) := by decide +kernel
theorem dL_law_1058 : decode cL_law 1058 = .ok (.iconst 2, 1) := by decide +kernel
theorem dL_law_1059 : decode cL_law 1059 = .ok (.iadd, 1) := by decide +kernel
theorem dL_law_1060 : decode cL_law 1060 = .ok (.iaload, 1) := by decide +kernel
theorem dL_law_1061 : decode cL_law 1061 = .ok (.aload_n 3, 1) := by decide +kernel
theorem dL_law_1062 : decode cL_law 1062 = .ok (.invokestatic 161, 3) := by decide +kernel
theorem dL_law_1065 : decode cL_law 1065 = .ok (.istore 5, 2) := by decide +kernel
theorem dL_law_1067 : decode cL_law 1067 = .ok (.aload_n 2, 1) := by decide +kernel
theorem dL_law_1068 : decode cL_law 1068 = .ok (.aload_n 0, 1) := by decide +kernel
theorem dL_law_1069 : decode cL_law 1069 = .ok (.iload 4, 2) := by decide +kernel
theorem dL_law_1071 : decode cL_law 1071 = .ok (.iconst 1, 1) := by decide +kernel
theorem dL_law_1072 : decode cL_law 1072 = .ok (.iadd, 1) := by decide +kernel
theorem dL_law_1073 : decode cL_law 1073 = .ok (.iaload, 1) := by decide +kernel
theorem dL_law_1074 : decode cL_law 1074 = .ok (.aload_n 0, 1) := by decide +kernel
theorem dL_law_1075 : decode cL_law 1075 = .ok (.iload 4, 2) := by decide +kernel
theorem dL_law_1077 : decode cL_law 1077 = .ok (.iconst 2, 1) := by decide +kernel
theorem dL_law_1078 : decode cL_law 1078 = .ok (.iadd, 1) := by decide +kernel
theorem dL_law_1079 : decode cL_law 1079 = .ok (.iaload, 1) := by decide +kernel
theorem dL_law_1080 : decode cL_law 1080 = .ok (.invokevirtual 163, 3) := by decide +kernel
theorem dL_law_1083 : decode cL_law 1083 = .ok (.istore 6, 2) := by decide +kernel
theorem dL_law_1085 : decode cL_law 1085 = .ok (.aload_n 2, 1) := by decide +kernel
theorem dL_law_1086 : decode cL_law 1086 = .ok (.invokevirtual 111, 3) := by decide +kernel
theorem dL_law_1089 : decode cL_law 1089 = .ok (.iload 5, 2) := by decide +kernel
theorem dL_law_1091 : decode cL_law 1091 = .ok (.if_icmp .eq 5, 3) := by decide +kernel
theorem dL_law_1094 : decode cL_law 1094 = .ok (.iconst 0, 1) := by decide +kernel
theorem dL_law_1095 : decode cL_law 1095 = .ok (.ireturn, 1) := by decide +kernel
theorem dL_law_1096 : decode cL_law 1096 = .ok (.iload 5, 2) := by decide +kernel
theorem dL_law_1098 : decode cL_law 1098 = .ok (.ifCond .ne 15, 3) := by decide +kernel
theorem dL_law_1101 : decode cL_law 1101 = .ok (.aload_n 3, 1) := by decide +kernel
theorem dL_law_1102 : decode cL_law 1102 = .ok (.iconst 0, 1) := by decide +kernel
theorem dL_law_1103 : decode cL_law 1103 = .ok (.laload, 1) := by decide +kernel
theorem dL_law_1104 : decode cL_law 1104 = .ok (.iload 6, 2) := by decide +kernel
theorem dL_law_1106 : decode cL_law 1106 = .ok (.i2l, 1) := by decide +kernel
theorem dL_law_1107 : decode cL_law 1107 = .ok (.lcmp, 1) := by decide +kernel
theorem dL_law_1108 : decode cL_law 1108 = .ok (.ifCond .eq 5, 3) := by decide +kernel
theorem dL_law_1111 : decode cL_law 1111 = .ok (.iconst 0, 1) := by decide +kernel
theorem dL_law_1112 : decode cL_law 1112 = .ok (.ireturn, 1) := by decide +kernel
theorem dL_law_1113 : decode cL_law 1113 = .ok (.goto 758, 3) := by decide +kernel
theorem dL_law_1116 : decode cL_law 1116 = .ok (.aload_n 1, 1) := by decide +kernel
theorem dL_law_1117 : decode cL_law 1117 = .ok (.aload_n 0, 1) := by decide +kernel
theorem dL_law_1118 : decode cL_law 1118 = .ok (.iload 4, 2) := by decide +kernel
theorem dL_law_1120 : decode cL_law 1120 = .ok (.iconst 1, 1) := by decide +kernel
theorem dL_law_1121 : decode cL_law 1121 = .ok (.iadd, 1) := by decide +kernel
theorem dL_law_1122 : decode cL_law 1122 = .ok (.iaload, 1) := by decide +kernel
theorem dL_law_1123 : decode cL_law 1123 = .ok (.aload_n 0, 1) := by decide +kernel
theorem dL_law_1124 : decode cL_law 1124 = .ok (.iload 4, 2) := by decide +kernel
theorem dL_law_1126 : decode cL_law 1126 = .ok (.iconst 2, 1) := by decide +kernel
theorem dL_law_1127 : decode cL_law 1127 = .ok (.iadd, 1) := by decide +kernel
theorem dL_law_1128 : decode cL_law 1128 = .ok (.iaload, 1) := by decide +kernel
theorem dL_law_1129 : decode cL_law 1129 = .ok (.ifCond .eq 7, 3) := by decide +kernel
theorem dL_law_1132 : decode cL_law 1132 = .ok (.iconst 1, 1) := by decide +kernel
theorem dL_law_1133 : decode cL_law 1133 = .ok (.goto 4, 3) := by decide +kernel
theorem dL_law_1136 : decode cL_law 1136 = .ok (.iconst 0, 1) := by decide +kernel
theorem dL_law_1137 : decode cL_law 1137 = .ok (.aload_n 3, 1) := by decide +kernel
theorem dL_law_1138 : decode cL_law 1138 = .ok (.invokestatic 164, 3) := by decide +kernel
theorem dL_law_1141 : decode cL_law 1141 = .ok (.istore 5, 2) := by decide +kernel
theorem dL_law_1143 : decode cL_law 1143 = .ok (.aload_n 2, 1) := by decide +kernel
theorem dL_law_1144 : decode cL_law 1144 = .ok (.aload_n 0, 1) := by decide +kernel
theorem dL_law_1145 : decode cL_law 1145 = .ok (.iload 4, 2) := by decide +kernel
theorem dL_law_1147 : decode cL_law 1147 = .ok (.iconst 1, 1) := by decide +kernel
theorem dL_law_1148 : decode cL_law 1148 = .ok (.iadd, 1) := by decide +kernel
theorem dL_law_1149 : decode cL_law 1149 = .ok (.iaload, 1) := by decide +kernel
theorem dL_law_1150 : decode cL_law 1150 = .ok (.aload_n 0, 1) := by decide +kernel
theorem dL_law_1151 : decode cL_law 1151 = .ok (.iload 4, 2) := by decide +kernel
theorem dL_law_1153 : decode cL_law 1153 = .ok (.iconst 2, 1) := by decide +kernel
theorem dL_law_1154 : decode cL_law 1154 = .ok (.iadd, 1) := by decide +kernel
theorem dL_law_1155 : decode cL_law 1155 = .ok (.iaload, 1) := by decide +kernel
theorem dL_law_1156 : decode cL_law 1156 = .ok (.ifCond .eq 7, 3) := by decide +kernel
theorem dL_law_1159 : decode cL_law 1159 = .ok (.iconst 1, 1) := by decide +kernel
theorem dL_law_1160 : decode cL_law 1160 = .ok (.goto 4, 3) := by decide +kernel
theorem dL_law_1163 : decode cL_law 1163 = .ok (.iconst 0, 1) := by decide +kernel
theorem dL_law_1164 : decode cL_law 1164 = .ok (.invokevirtual 167, 3) := by decide +kernel
theorem dL_law_1167 : decode cL_law 1167 = .ok (.istore 6, 2) := by decide +kernel
theorem dL_law_1169 : decode cL_law 1169 = .ok (.aload_n 2, 1) := by decide +kernel
theorem dL_law_1170 : decode cL_law 1170 = .ok (.invokevirtual 111, 3) := by decide +kernel
theorem dL_law_1173 : decode cL_law 1173 = .ok (.iload 5, 2) := by decide +kernel
theorem dL_law_1175 : decode cL_law 1175 = .ok (.if_icmp .eq 5, 3) := by decide +kernel
theorem dL_law_1178 : decode cL_law 1178 = .ok (.iconst 0, 1) := by decide +kernel
theorem dL_law_1179 : decode cL_law 1179 = .ok (.ireturn, 1) := by decide +kernel
theorem dL_law_1180 : decode cL_law 1180 = .ok (.iload 5, 2) := by decide +kernel
theorem dL_law_1182 : decode cL_law 1182 = .ok (.ifCond .ne 22, 3) := by decide +kernel
theorem dL_law_1185 : decode cL_law 1185 = .ok (.aload_n 3, 1) := by decide +kernel
theorem dL_law_1186 : decode cL_law 1186 = .ok (.iconst 0, 1) := by decide +kernel
theorem dL_law_1187 : decode cL_law 1187 = .ok (.laload, 1) := by decide +kernel
theorem dL_law_1188 : decode cL_law 1188 = .ok (.iload 6, 2) := by decide +kernel
theorem dL_law_1190 : decode cL_law 1190 = .ok (.ifCond .eq 7, 3) := by decide +kernel
theorem dL_law_1193 : decode cL_law 1193 = .ok (.lconst 1, 1) := by decide +kernel
theorem dL_law_1194 : decode cL_law 1194 = .ok (.goto 4, 3) := by decide +kernel
theorem dL_law_1197 : decode cL_law 1197 = .ok (.lconst 0, 1) := by decide +kernel
theorem dL_law_1198 : decode cL_law 1198 = .ok (.lcmp, 1) := by decide +kernel
theorem dL_law_1199 : decode cL_law 1199 = .ok (.ifCond .eq 5, 3) := by decide +kernel
theorem dL_law_1202 : decode cL_law 1202 = .ok (.iconst 0, 1) := by decide +kernel
theorem dL_law_1203 : decode cL_law 1203 = .ok (.ireturn, 1) := by decide +kernel
theorem dL_law_1204 : decode cL_law 1204 = .ok (.goto 667, 3) := by decide +kernel
theorem dL_law_1207 : decode cL_law 1207 = .ok (.aload_n 1, 1) := by decide +kernel
theorem dL_law_1208 : decode cL_law 1208 = .ok (.aload_n 0, 1) := by decide +kernel
theorem dL_law_1209 : decode cL_law 1209 = .ok (.iload 4, 2) := by decide +kernel
theorem dL_law_1211 : decode cL_law 1211 = .ok (.iconst 1, 1) := by decide +kernel
theorem dL_law_1212 : decode cL_law 1212 = .ok (.iadd, 1) := by decide +kernel
theorem dL_law_1213 : decode cL_law 1213 = .ok (.iaload, 1) := by decide +kernel
theorem dL_law_1214 : decode cL_law 1214 = .ok (.aload_n 0, 1) := by decide +kernel
theorem dL_law_1215 : decode cL_law 1215 = .ok (.iload 4, 2) := by decide +kernel
theorem dL_law_1217 : decode cL_law 1217 = .ok (.iconst 2, 1) := by decide +kernel
theorem dL_law_1218 : decode cL_law 1218 = .ok (.iadd, 1) := by decide +kernel
theorem dL_law_1219 : decode cL_law 1219 = .ok (.iaload, 1) := by decide +kernel
theorem dL_law_1220 : decode cL_law 1220 = .ok (.invokestatic 168, 3) := by decide +kernel
theorem dL_law_1223 : decode cL_law 1223 = .ok (.istore 5, 2) := by decide +kernel
theorem dL_law_1225 : decode cL_law 1225 = .ok (.aload_n 2, 1) := by decide +kernel
theorem dL_law_1226 : decode cL_law 1226 = .ok (.aload_n 0, 1) := by decide +kernel
theorem dL_law_1227 : decode cL_law 1227 = .ok (.iload 4, 2) := by decide +kernel
theorem dL_law_1229 : decode cL_law 1229 = .ok (.iconst 1, 1) := by decide +kernel
theorem dL_law_1230 : decode cL_law 1230 = .ok (.iadd, 1) := by decide +kernel
theorem dL_law_1231 : decode cL_law 1231 = .ok (.iaload, 1) := by decide +kernel
theorem dL_law_1232 : decode cL_law 1232 = .ok (.aload_n 0, 1) := by decide +kernel
theorem dL_law_1233 : decode cL_law 1233 = .ok (.iload 4, 2) := by decide +kernel
theorem dL_law_1235 : decode cL_law 1235 = .ok (.iconst 2, 1) := by decide +kernel
theorem dL_law_1236 : decode cL_law 1236 = .ok (.iadd, 1) := by decide +kernel
theorem dL_law_1237 : decode cL_law 1237 = .ok (.iaload, 1) := by decide +kernel
theorem dL_law_1238 : decode cL_law 1238 = .ok (.invokevirtual 171, 3) := by decide +kernel
theorem dL_law_1241 : decode cL_law 1241 = .ok (.aload_n 2, 1) := by decide +kernel
theorem dL_law_1242 : decode cL_law 1242 = .ok (.invokevirtual 111, 3) := by decide +kernel
theorem dL_law_1245 : decode cL_law 1245 = .ok (.iload 5, 2) := by decide +kernel
theorem dL_law_1247 : decode cL_law 1247 = .ok (.if_icmp .eq 5, 3) := by decide +kernel
theorem dL_law_1250 : decode cL_law 1250 = .ok (.iconst 0, 1) := by decide +kernel
theorem dL_law_1251 : decode cL_law 1251 = .ok (.ireturn, 1) := by decide +kernel
theorem dL_law_1252 : decode cL_law 1252 = .ok (.goto 619, 3) := by decide +kernel
theorem dL_law_1255 : decode cL_law 1255 = .ok (.aload_n 1, 1) := by decide +kernel
theorem dL_law_1256 : decode cL_law 1256 = .ok (.aload_n 0, 1) := by decide +kernel
theorem dL_law_1257 : decode cL_law 1257 = .ok (.iload 4, 2) := by decide +kernel
theorem dL_law_1259 : decode cL_law 1259 = .ok (.iconst 1, 1) := by decide +kernel
theorem dL_law_1260 : decode cL_law 1260 = .ok (.iadd, 1) := by decide +kernel
theorem dL_law_1261 : decode cL_law 1261 = .ok (.iaload, 1) := by decide +kernel
theorem dL_law_1262 : decode cL_law 1262 = .ok (.aload_n 0, 1) := by decide +kernel
theorem dL_law_1263 : decode cL_law 1263 = .ok (.iload 4, 2) := by decide +kernel
theorem dL_law_1265 : decode cL_law 1265 = .ok (.iconst 2, 1) := by decide +kernel
theorem dL_law_1266 : decode cL_law 1266 = .ok (.iadd, 1) := by decide +kernel
theorem dL_law_1267 : decode cL_law 1267 = .ok (.iaload, 1) := by decide +kernel
theorem dL_law_1268 : decode cL_law 1268 = .ok (.aload_n 3, 1) := by decide +kernel
theorem dL_law_1269 : decode cL_law 1269 = .ok (.invokestatic 172, 3) := by decide +kernel
theorem dL_law_1272 : decode cL_law 1272 = .ok (.istore 5, 2) := by decide +kernel
theorem dL_law_1274 : decode cL_law 1274 = .ok (.aload_n 2, 1) := by decide +kernel
theorem dL_law_1275 : decode cL_law 1275 = .ok (.aload_n 0, 1) := by decide +kernel
theorem dL_law_1276 : decode cL_law 1276 = .ok (.iload 4, 2) := by decide +kernel
theorem dL_law_1278 : decode cL_law 1278 = .ok (.iconst 1, 1) := by decide +kernel
theorem dL_law_1279 : decode cL_law 1279 = .ok (.iadd, 1) := by decide +kernel
theorem dL_law_1280 : decode cL_law 1280 = .ok (.iaload, 1) := by decide +kernel
theorem dL_law_1281 : decode cL_law 1281 = .ok (.aload_n 0, 1) := by decide +kernel
theorem dL_law_1282 : decode cL_law 1282 = .ok (.iload 4, 2) := by decide +kernel
theorem dL_law_1284 : decode cL_law 1284 = .ok (.iconst 2, 1) := by decide +kernel
theorem dL_law_1285 : decode cL_law 1285 = .ok (.iadd, 1) := by decide +kernel
theorem dL_law_1286 : decode cL_law 1286 = .ok (.iaload, 1) := by decide +kernel
theorem dL_law_1287 : decode cL_law 1287 = .ok (.invokevirtual 174, 3) := by decide +kernel
theorem dL_law_1290 : decode cL_law 1290 = .ok (.istore 6, 2) := by decide +kernel
theorem dL_law_1292 : decode cL_law 1292 = .ok (.aload_n 2, 1) := by decide +kernel
theorem dL_law_1293 : decode cL_law 1293 = .ok (.invokevirtual 111, 3) := by decide +kernel
theorem dL_law_1296 : decode cL_law 1296 = .ok (.iload 5, 2) := by decide +kernel
theorem dL_law_1298 : decode cL_law 1298 = .ok (.if_icmp .eq 5, 3) := by decide +kernel
theorem dL_law_1301 : decode cL_law 1301 = .ok (.iconst 0, 1) := by decide +kernel
theorem dL_law_1302 : decode cL_law 1302 = .ok (.ireturn, 1) := by decide +kernel
theorem dL_law_1303 : decode cL_law 1303 = .ok (.iload 5, 2) := by decide +kernel
theorem dL_law_1305 : decode cL_law 1305 = .ok (.ifCond .ne 15, 3) := by decide +kernel
theorem dL_law_1308 : decode cL_law 1308 = .ok (.aload_n 3, 1) := by decide +kernel
theorem dL_law_1309 : decode cL_law 1309 = .ok (.iconst 0, 1) := by decide +kernel
theorem dL_law_1310 : decode cL_law 1310 = .ok (.laload, 1) := by decide +kernel
theorem dL_law_1311 : decode cL_law 1311 = .ok (.iload 6, 2) := by decide +kernel
theorem dL_law_1313 : decode cL_law 1313 = .ok (.i2l, 1) := by decide +kernel
theorem dL_law_1314 : decode cL_law 1314 = .ok (.lcmp, 1) := by decide +kernel
theorem dL_law_1315 : decode cL_law 1315 = .ok (.ifCond .eq 5, 3) := by decide +kernel
theorem dL_law_1318 : decode cL_law 1318 = .ok (.iconst 0, 1) := by decide +kernel
theorem dL_law_1319 : decode cL_law 1319 = .ok (.ireturn, 1) := by decide +kernel
theorem dL_law_1320 : decode cL_law 1320 = .ok (.goto 551, 3) := by decide +kernel
theorem dL_law_1323 : decode cL_law 1323 = .ok (.aload_n 1, 1) := by decide +kernel
theorem dL_law_1324 : decode cL_law 1324 = .ok (.aload_n 0, 1) := by decide +kernel
theorem dL_law_1325 : decode cL_law 1325 = .ok (.iload 4, 2) := by decide +kernel
theorem dL_law_1327 : decode cL_law 1327 = .ok (.iconst 1, 1) := by decide +kernel
theorem dL_law_1328 : decode cL_law 1328 = .ok (.iadd, 1) := by decide +kernel
theorem dL_law_1329 : decode cL_law 1329 = .ok (.iaload, 1) := by decide +kernel
theorem dL_law_1330 : decode cL_law 1330 = .ok (.aload_n 0, 1) := by decide +kernel
theorem dL_law_1331 : decode cL_law 1331 = .ok (.iload 4, 2) := by decide +kernel
theorem dL_law_1333 : decode cL_law 1333 = .ok (.iconst 2, 1) := by decide +kernel
theorem dL_law_1334 : decode cL_law 1334 = .ok (.iadd, 1) := by decide +kernel
theorem dL_law_1335 : decode cL_law 1335 = .ok (.iaload, 1) := by decide +kernel
theorem dL_law_1336 : decode cL_law 1336 = .ok (.aload_n 3, 1) := by decide +kernel
theorem dL_law_1337 : decode cL_law 1337 = .ok (.invokestatic 175, 3) := by decide +kernel
theorem dL_law_1340 : decode cL_law 1340 = .ok (.istore 5, 2) := by decide +kernel
theorem dL_law_1342 : decode cL_law 1342 = .ok (.aload_n 2, 1) := by decide +kernel
theorem dL_law_1343 : decode cL_law 1343 = .ok (.aload_n 0, 1) := by decide +kernel
theorem dL_law_1344 : decode cL_law 1344 = .ok (.iload 4, 2) := by decide +kernel
theorem dL_law_1346 : decode cL_law 1346 = .ok (.iconst 1, 1) := by decide +kernel
theorem dL_law_1347 : decode cL_law 1347 = .ok (.iadd, 1) := by decide +kernel
theorem dL_law_1348 : decode cL_law 1348 = .ok (.iaload, 1) := by decide +kernel
theorem dL_law_1349 : decode cL_law 1349 = .ok (.aload_n 0, 1) := by decide +kernel
theorem dL_law_1350 : decode cL_law 1350 = .ok (.iload 4, 2) := by decide +kernel
theorem dL_law_1352 : decode cL_law 1352 = .ok (.iconst 2, 1) := by decide +kernel
theorem dL_law_1353 : decode cL_law 1353 = .ok (.iadd, 1) := by decide +kernel
theorem dL_law_1354 : decode cL_law 1354 = .ok (.iaload, 1) := by decide +kernel
theorem dL_law_1355 : decode cL_law 1355 = .ok (.invokevirtual 177, 3) := by decide +kernel
theorem dL_law_1358 : decode cL_law 1358 = .ok (.istore 6, 2) := by decide +kernel
theorem dL_law_1360 : decode cL_law 1360 = .ok (.aload_n 2, 1) := by decide +kernel
theorem dL_law_1361 : decode cL_law 1361 = .ok (.invokevirtual 111, 3) := by decide +kernel
theorem dL_law_1364 : decode cL_law 1364 = .ok (.iload 5, 2) := by decide +kernel
theorem dL_law_1366 : decode cL_law 1366 = .ok (.if_icmp .eq 5, 3) := by decide +kernel
theorem dL_law_1369 : decode cL_law 1369 = .ok (.iconst 0, 1) := by decide +kernel
theorem dL_law_1370 : decode cL_law 1370 = .ok (.ireturn, 1) := by decide +kernel
theorem dL_law_1371 : decode cL_law 1371 = .ok (.iload 5, 2) := by decide +kernel
theorem dL_law_1373 : decode cL_law 1373 = .ok (.ifCond .ne 15, 3) := by decide +kernel
theorem dL_law_1376 : decode cL_law 1376 = .ok (.aload_n 3, 1) := by decide +kernel
theorem dL_law_1377 : decode cL_law 1377 = .ok (.iconst 0, 1) := by decide +kernel
theorem dL_law_1378 : decode cL_law 1378 = .ok (.laload, 1) := by decide +kernel
theorem dL_law_1379 : decode cL_law 1379 = .ok (.iload 6, 2) := by decide +kernel
theorem dL_law_1381 : decode cL_law 1381 = .ok (.i2l, 1) := by decide +kernel
theorem dL_law_1382 : decode cL_law 1382 = .ok (.lcmp, 1) := by decide +kernel
theorem dL_law_1383 : decode cL_law 1383 = .ok (.ifCond .eq 5, 3) := by decide +kernel
theorem dL_law_1386 : decode cL_law 1386 = .ok (.iconst 0, 1) := by decide +kernel
theorem dL_law_1387 : decode cL_law 1387 = .ok (.ireturn, 1) := by decide +kernel
theorem dL_law_1388 : decode cL_law 1388 = .ok (.goto 483, 3) := by decide +kernel
theorem dL_law_1391 : decode cL_law 1391 = .ok (.aload_n 1, 1) := by decide +kernel
theorem dL_law_1392 : decode cL_law 1392 = .ok (.aload_n 0, 1) := by decide +kernel
theorem dL_law_1393 : decode cL_law 1393 = .ok (.iload 4, 2) := by decide +kernel
theorem dL_law_1395 : decode cL_law 1395 = .ok (.iconst 1, 1) := by decide +kernel
theorem dL_law_1396 : decode cL_law 1396 = .ok (.iadd, 1) := by decide +kernel
theorem dL_law_1397 : decode cL_law 1397 = .ok (.iaload, 1) := by decide +kernel
theorem dL_law_1398 : decode cL_law 1398 = .ok (.aload_n 0, 1) := by decide +kernel
theorem dL_law_1399 : decode cL_law 1399 = .ok (.iload 4, 2) := by decide +kernel
theorem dL_law_1401 : decode cL_law 1401 = .ok (.iconst 2, 1) := by decide +kernel
theorem dL_law_1402 : decode cL_law 1402 = .ok (.iadd, 1) := by decide +kernel
theorem dL_law_1403 : decode cL_law 1403 = .ok (.iaload, 1) := by decide +kernel
theorem dL_law_1404 : decode cL_law 1404 = .ok (.aload_n 3, 1) := by decide +kernel
theorem dL_law_1405 : decode cL_law 1405 = .ok (.invokestatic 178, 3) := by decide +kernel
theorem dL_law_1408 : decode cL_law 1408 = .ok (.istore 5, 2) := by decide +kernel
theorem dL_law_1410 : decode cL_law 1410 = .ok (.aload_n 2, 1) := by decide +kernel
theorem dL_law_1411 : decode cL_law 1411 = .ok (.aload_n 0, 1) := by decide +kernel
theorem dL_law_1412 : decode cL_law 1412 = .ok (.iload 4, 2) := by decide +kernel
theorem dL_law_1414 : decode cL_law 1414 = .ok (.iconst 1, 1) := by decide +kernel
theorem dL_law_1415 : decode cL_law 1415 = .ok (.iadd, 1) := by decide +kernel
theorem dL_law_1416 : decode cL_law 1416 = .ok (.iaload, 1) := by decide +kernel
theorem dL_law_1417 : decode cL_law 1417 = .ok (.aload_n 0, 1) := by decide +kernel
theorem dL_law_1418 : decode cL_law 1418 = .ok (.iload 4, 2) := by decide +kernel
theorem dL_law_1420 : decode cL_law 1420 = .ok (.iconst 2, 1) := by decide +kernel
theorem dL_law_1421 : decode cL_law 1421 = .ok (.iadd, 1) := by decide +kernel
theorem dL_law_1422 : decode cL_law 1422 = .ok (.iaload, 1) := by decide +kernel
theorem dL_law_1423 : decode cL_law 1423 = .ok (.invokevirtual 180, 3) := by decide +kernel
theorem dL_law_1426 : decode cL_law 1426 = .ok (.istore 6, 2) := by decide +kernel
theorem dL_law_1428 : decode cL_law 1428 = .ok (.aload_n 2, 1) := by decide +kernel
theorem dL_law_1429 : decode cL_law 1429 = .ok (.invokevirtual 111, 3) := by decide +kernel
theorem dL_law_1432 : decode cL_law 1432 = .ok (.iload 5, 2) := by decide +kernel
theorem dL_law_1434 : decode cL_law 1434 = .ok (.if_icmp .eq 5, 3) := by decide +kernel
theorem dL_law_1437 : decode cL_law 1437 = .ok (.iconst 0, 1) := by decide +kernel
theorem dL_law_1438 : decode cL_law 1438 = .ok (.ireturn, 1) := by decide +kernel
theorem dL_law_1439 : decode cL_law 1439 = .ok (.iload 5, 2) := by decide +kernel
theorem dL_law_1441 : decode cL_law 1441 = .ok (.ifCond .ne 15, 3) := by decide +kernel
theorem dL_law_1444 : decode cL_law 1444 = .ok (.aload_n 3, 1) := by decide +kernel
theorem dL_law_1445 : decode cL_law 1445 = .ok (.iconst 0, 1) := by decide +kernel
theorem dL_law_1446 : decode cL_law 1446 = .ok (.laload, 1) := by decide +kernel
theorem dL_law_1447 : decode cL_law 1447 = .ok (.iload 6, 2) := by decide +kernel
theorem dL_law_1449 : decode cL_law 1449 = .ok (.i2l, 1) := by decide +kernel
theorem dL_law_1450 : decode cL_law 1450 = .ok (.lcmp, 1) := by decide +kernel
theorem dL_law_1451 : decode cL_law 1451 = .ok (.ifCond .eq 5, 3) := by decide +kernel
theorem dL_law_1454 : decode cL_law 1454 = .ok (.iconst 0, 1) := by decide +kernel
theorem dL_law_1455 : decode cL_law 1455 = .ok (.ireturn, 1) := by decide +kernel
theorem dL_law_1456 : decode cL_law 1456 = .ok (.goto 415, 3) := by decide +kernel
theorem dL_law_1459 : decode cL_law 1459 = .ok (.aload_n 1, 1) := by decide +kernel
theorem dL_law_1460 : decode cL_law 1460 = .ok (.aload_n 0, 1) := by decide +kernel
theorem dL_law_1461 : decode cL_law 1461 = .ok (.iload 4, 2) := by decide +kernel
theorem dL_law_1463 : decode cL_law 1463 = .ok (.iconst 1, 1) := by decide +kernel
theorem dL_law_1464 : decode cL_law 1464 = .ok (.iadd, 1) := by decide +kernel
theorem dL_law_1465 : decode cL_law 1465 = .ok (.iaload, 1) := by decide +kernel
theorem dL_law_1466 : decode cL_law 1466 = .ok (.aload_n 0, 1) := by decide +kernel
theorem dL_law_1467 : decode cL_law 1467 = .ok (.iload 4, 2) := by decide +kernel
theorem dL_law_1469 : decode cL_law 1469 = .ok (.iconst 2, 1) := by decide +kernel
theorem dL_law_1470 : decode cL_law 1470 = .ok (.iadd, 1) := by decide +kernel
theorem dL_law_1471 : decode cL_law 1471 = .ok (.iaload, 1) := by decide +kernel
theorem dL_law_1472 : decode cL_law 1472 = .ok (.aload_n 3, 1) := by decide +kernel
theorem dL_law_1473 : decode cL_law 1473 = .ok (.invokestatic 181, 3) := by decide +kernel
theorem dL_law_1476 : decode cL_law 1476 = .ok (.istore 5, 2) := by decide +kernel
theorem dL_law_1478 : decode cL_law 1478 = .ok (.aload_n 2, 1) := by decide +kernel
theorem dL_law_1479 : decode cL_law 1479 = .ok (.aload_n 0, 1) := by decide +kernel
theorem dL_law_1480 : decode cL_law 1480 = .ok (.iload 4, 2) := by decide +kernel
theorem dL_law_1482 : decode cL_law 1482 = .ok (.iconst 1, 1) := by decide +kernel
theorem dL_law_1483 : decode cL_law 1483 = .ok (.iadd, 1) := by decide +kernel
theorem dL_law_1484 : decode cL_law 1484 = .ok (.iaload, 1) := by decide +kernel
theorem dL_law_1485 : decode cL_law 1485 = .ok (.aload_n 0, 1) := by decide +kernel
theorem dL_law_1486 : decode cL_law 1486 = .ok (.iload 4, 2) := by decide +kernel
theorem dL_law_1488 : decode cL_law 1488 = .ok (.iconst 2, 1) := by decide +kernel
theorem dL_law_1489 : decode cL_law 1489 = .ok (.iadd, 1) := by decide +kernel
theorem dL_law_1490 : decode cL_law 1490 = .ok (.iaload, 1) := by decide +kernel
theorem dL_law_1491 : decode cL_law 1491 = .ok (.invokevirtual 183, 3) := by decide +kernel
theorem dL_law_1494 : decode cL_law 1494 = .ok (.istore 6, 2) := by decide +kernel
theorem dL_law_1496 : decode cL_law 1496 = .ok (.aload_n 2, 1) := by decide +kernel
theorem dL_law_1497 : decode cL_law 1497 = .ok (.invokevirtual 111, 3) := by decide +kernel
theorem dL_law_1500 : decode cL_law 1500 = .ok (.iload 5, 2) := by decide +kernel
theorem dL_law_1502 : decode cL_law 1502 = .ok (.if_icmp .eq 5, 3) := by decide +kernel
theorem dL_law_1505 : decode cL_law 1505 = .ok (.iconst 0, 1) := by decide +kernel
theorem dL_law_1506 : decode cL_law 1506 = .ok (.ireturn, 1) := by decide +kernel
theorem dL_law_1507 : decode cL_law 1507 = .ok (.iload 5, 2) := by decide +kernel
theorem dL_law_1509 : decode cL_law 1509 = .ok (.ifCond .ne 15, 3) := by decide +kernel
theorem dL_law_1512 : decode cL_law 1512 = .ok (.aload_n 3, 1) := by decide +kernel
theorem dL_law_1513 : decode cL_law 1513 = .ok (.iconst 0, 1) := by decide +kernel
theorem dL_law_1514 : decode cL_law 1514 = .ok (.laload, 1) := by decide +kernel
theorem dL_law_1515 : decode cL_law 1515 = .ok (.iload 6, 2) := by decide +kernel
theorem dL_law_1517 : decode cL_law 1517 = .ok (.i2l, 1) := by decide +kernel
theorem dL_law_1518 : decode cL_law 1518 = .ok (.lcmp, 1) := by decide +kernel
theorem dL_law_1519 : decode cL_law 1519 = .ok (.ifCond .eq 5, 3) := by decide +kernel
theorem dL_law_1522 : decode cL_law 1522 = .ok (.iconst 0, 1) := by decide +kernel
theorem dL_law_1523 : decode cL_law 1523 = .ok (.ireturn, 1) := by decide +kernel
theorem dL_law_1524 : decode cL_law 1524 = .ok (.goto 347, 3) := by decide +kernel
theorem dL_law_1527 : decode cL_law 1527 = .ok (.aload_n 1, 1) := by decide +kernel
theorem dL_law_1528 : decode cL_law 1528 = .ok (.aload_n 0, 1) := by decide +kernel
theorem dL_law_1529 : decode cL_law 1529 = .ok (.iload 4, 2) := by decide +kernel
theorem dL_law_1531 : decode cL_law 1531 = .ok (.iconst 1, 1) := by decide +kernel
theorem dL_law_1532 : decode cL_law 1532 = .ok (.iadd, 1) := by decide +kernel
theorem dL_law_1533 : decode cL_law 1533 = .ok (.iaload, 1) := by decide +kernel
theorem dL_law_1534 : decode cL_law 1534 = .ok (.aload_n 0, 1) := by decide +kernel
theorem dL_law_1535 : decode cL_law 1535 = .ok (.iload 4, 2) := by decide +kernel
theorem dL_law_1537 : decode cL_law 1537 = .ok (.iconst 2, 1) := by decide +kernel
theorem dL_law_1538 : decode cL_law 1538 = .ok (.iadd, 1) := by decide +kernel
theorem dL_law_1539 : decode cL_law 1539 = .ok (.iaload, 1) := by decide +kernel
theorem dL_law_1540 : decode cL_law 1540 = .ok (.aload_n 3, 1) := by decide +kernel
theorem dL_law_1541 : decode cL_law 1541 = .ok (.invokestatic 184, 3) := by decide +kernel
theorem dL_law_1544 : decode cL_law 1544 = .ok (.istore 5, 2) := by decide +kernel
theorem dL_law_1546 : decode cL_law 1546 = .ok (.aload_n 2, 1) := by decide +kernel
theorem dL_law_1547 : decode cL_law 1547 = .ok (.aload_n 0, 1) := by decide +kernel
theorem dL_law_1548 : decode cL_law 1548 = .ok (.iload 4, 2) := by decide +kernel
theorem dL_law_1550 : decode cL_law 1550 = .ok (.iconst 1, 1) := by decide +kernel
theorem dL_law_1551 : decode cL_law 1551 = .ok (.iadd, 1) := by decide +kernel
theorem dL_law_1552 : decode cL_law 1552 = .ok (.iaload, 1) := by decide +kernel
theorem dL_law_1553 : decode cL_law 1553 = .ok (.aload_n 0, 1) := by decide +kernel
theorem dL_law_1554 : decode cL_law 1554 = .ok (.iload 4, 2) := by decide +kernel
theorem dL_law_1556 : decode cL_law 1556 = .ok (.iconst 2, 1) := by decide +kernel
theorem dL_law_1557 : decode cL_law 1557 = .ok (.iadd, 1) := by decide +kernel
theorem dL_law_1558 : decode cL_law 1558 = .ok (.iaload, 1) := by decide +kernel
theorem dL_law_1559 : decode cL_law 1559 = .ok (.invokevirtual 186, 3) := by decide +kernel
theorem dL_law_1562 : decode cL_law 1562 = .ok (.istore 6, 2) := by decide +kernel
theorem dL_law_1564 : decode cL_law 1564 = .ok (.aload_n 2, 1) := by decide +kernel
theorem dL_law_1565 : decode cL_law 1565 = .ok (.invokevirtual 111, 3) := by decide +kernel
theorem dL_law_1568 : decode cL_law 1568 = .ok (.iload 5, 2) := by decide +kernel
theorem dL_law_1570 : decode cL_law 1570 = .ok (.if_icmp .eq 5, 3) := by decide +kernel
theorem dL_law_1573 : decode cL_law 1573 = .ok (.iconst 0, 1) := by decide +kernel
theorem dL_law_1574 : decode cL_law 1574 = .ok (.ireturn, 1) := by decide +kernel
theorem dL_law_1575 : decode cL_law 1575 = .ok (.iload 5, 2) := by decide +kernel
theorem dL_law_1577 : decode cL_law 1577 = .ok (.ifCond .ne 15, 3) := by decide +kernel
theorem dL_law_1580 : decode cL_law 1580 = .ok (.aload_n 3, 1) := by decide +kernel
theorem dL_law_1581 : decode cL_law 1581 = .ok (.iconst 0, 1) := by decide +kernel
theorem dL_law_1582 : decode cL_law 1582 = .ok (.laload, 1) := by decide +kernel
theorem dL_law_1583 : decode cL_law 1583 = .ok (.iload 6, 2) := by decide +kernel
theorem dL_law_1585 : decode cL_law 1585 = .ok (.i2l, 1) := by decide +kernel
theorem dL_law_1586 : decode cL_law 1586 = .ok (.lcmp, 1) := by decide +kernel
theorem dL_law_1587 : decode cL_law 1587 = .ok (.ifCond .eq 5, 3) := by decide +kernel
theorem dL_law_1590 : decode cL_law 1590 = .ok (.iconst 0, 1) := by decide +kernel
theorem dL_law_1591 : decode cL_law 1591 = .ok (.ireturn, 1) := by decide +kernel
theorem dL_law_1592 : decode cL_law 1592 = .ok (.goto 279, 3) := by decide +kernel
theorem dL_law_1595 : decode cL_law 1595 = .ok (.aload_n 1, 1) := by decide +kernel
theorem dL_law_1596 : decode cL_law 1596 = .ok (.aload_n 0, 1) := by decide +kernel
theorem dL_law_1597 : decode cL_law 1597 = .ok (.iload 4, 2) := by decide +kernel
theorem dL_law_1599 : decode cL_law 1599 = .ok (.iconst 1, 1) := by decide +kernel
theorem dL_law_1600 : decode cL_law 1600 = .ok (.iadd, 1) := by decide +kernel
theorem dL_law_1601 : decode cL_law 1601 = .ok (.iaload, 1) := by decide +kernel
theorem dL_law_1602 : decode cL_law 1602 = .ok (.aload_n 3, 1) := by decide +kernel
theorem dL_law_1603 : decode cL_law 1603 = .ok (.invokestatic 187, 3) := by decide +kernel
theorem dL_law_1606 : decode cL_law 1606 = .ok (.istore 5, 2) := by decide +kernel
theorem dL_law_1608 : decode cL_law 1608 = .ok (.aload_n 2, 1) := by decide +kernel
theorem dL_law_1609 : decode cL_law 1609 = .ok (.aload_n 0, 1) := by decide +kernel
theorem dL_law_1610 : decode cL_law 1610 = .ok (.iload 4, 2) := by decide +kernel
theorem dL_law_1612 : decode cL_law 1612 = .ok (.iconst 1, 1) := by decide +kernel
theorem dL_law_1613 : decode cL_law 1613 = .ok (.iadd, 1) := by decide +kernel
theorem dL_law_1614 : decode cL_law 1614 = .ok (.iaload, 1) := by decide +kernel
theorem dL_law_1615 : decode cL_law 1615 = .ok (.invokevirtual 189, 3) := by decide +kernel
theorem dL_law_1618 : decode cL_law 1618 = .ok (.istore 6, 2) := by decide +kernel
theorem dL_law_1620 : decode cL_law 1620 = .ok (.aload_n 2, 1) := by decide +kernel
theorem dL_law_1621 : decode cL_law 1621 = .ok (.invokevirtual 111, 3) := by decide +kernel
theorem dL_law_1624 : decode cL_law 1624 = .ok (.iload 5, 2) := by decide +kernel
theorem dL_law_1626 : decode cL_law 1626 = .ok (.if_icmp .eq 5, 3) := by decide +kernel
theorem dL_law_1629 : decode cL_law 1629 = .ok (.iconst 0, 1) := by decide +kernel
theorem dL_law_1630 : decode cL_law 1630 = .ok (.ireturn, 1) := by decide +kernel
theorem dL_law_1631 : decode cL_law 1631 = .ok (.iload 5, 2) := by decide +kernel
theorem dL_law_1633 : decode cL_law 1633 = .ok (.ifCond .ne 15, 3) := by decide +kernel
theorem dL_law_1636 : decode cL_law 1636 = .ok (.aload_n 3, 1) := by decide +kernel
theorem dL_law_1637 : decode cL_law 1637 = .ok (.iconst 0, 1) := by decide +kernel
theorem dL_law_1638 : decode cL_law 1638 = .ok (.laload, 1) := by decide +kernel
theorem dL_law_1639 : decode cL_law 1639 = .ok (.iload 6, 2) := by decide +kernel
theorem dL_law_1641 : decode cL_law 1641 = .ok (.i2l, 1) := by decide +kernel
theorem dL_law_1642 : decode cL_law 1642 = .ok (.lcmp, 1) := by decide +kernel
theorem dL_law_1643 : decode cL_law 1643 = .ok (.ifCond .eq 5, 3) := by decide +kernel
theorem dL_law_1646 : decode cL_law 1646 = .ok (.iconst 0, 1) := by decide +kernel
theorem dL_law_1647 : decode cL_law 1647 = .ok (.ireturn, 1) := by decide +kernel
theorem dL_law_1648 : decode cL_law 1648 = .ok (.goto 223, 3) := by decide +kernel
theorem dL_law_1651 : decode cL_law 1651 = .ok (.aload_n 1, 1) := by decide +kernel
theorem dL_law_1652 : decode cL_law 1652 = .ok (.aload_n 0, 1) := by decide +kernel
theorem dL_law_1653 : decode cL_law 1653 = .ok (.iload 4, 2) := by decide +kernel
theorem dL_law_1655 : decode cL_law 1655 = .ok (.iconst 1, 1) := by decide +kernel
theorem dL_law_1656 : decode cL_law 1656 = .ok (.iadd, 1) := by decide +kernel
theorem dL_law_1657 : decode cL_law 1657 = .ok (.iaload, 1) := by decide +kernel
theorem dL_law_1658 : decode cL_law 1658 = .ok (.aload_n 3, 1) := by decide +kernel
theorem dL_law_1659 : decode cL_law 1659 = .ok (.invokestatic 190, 3) := by decide +kernel
theorem dL_law_1662 : decode cL_law 1662 = .ok (.istore 5, 2) := by decide +kernel
theorem dL_law_1664 : decode cL_law 1664 = .ok (.aload_n 2, 1) := by decide +kernel
theorem dL_law_1665 : decode cL_law 1665 = .ok (.aload_n 0, 1) := by decide +kernel
theorem dL_law_1666 : decode cL_law 1666 = .ok (.iload 4, 2) := by decide +kernel
theorem dL_law_1668 : decode cL_law 1668 = .ok (.iconst 1, 1) := by decide +kernel
theorem dL_law_1669 : decode cL_law 1669 = .ok (.iadd, 1) := by decide +kernel
theorem dL_law_1670 : decode cL_law 1670 = .ok (.iaload, 1) := by decide +kernel
theorem dL_law_1671 : decode cL_law 1671 = .ok (.invokevirtual 192, 3) := by decide +kernel
theorem dL_law_1674 : decode cL_law 1674 = .ok (.istore 6, 2) := by decide +kernel
theorem dL_law_1676 : decode cL_law 1676 = .ok (.aload_n 2, 1) := by decide +kernel
theorem dL_law_1677 : decode cL_law 1677 = .ok (.invokevirtual 111, 3) := by decide +kernel
theorem dL_law_1680 : decode cL_law 1680 = .ok (.iload 5, 2) := by decide +kernel
theorem dL_law_1682 : decode cL_law 1682 = .ok (.if_icmp .eq 5, 3) := by decide +kernel
theorem dL_law_1685 : decode cL_law 1685 = .ok (.iconst 0, 1) := by decide +kernel
theorem dL_law_1686 : decode cL_law 1686 = .ok (.ireturn, 1) := by decide +kernel
theorem dL_law_1687 : decode cL_law 1687 = .ok (.iload 5, 2) := by decide +kernel
theorem dL_law_1689 : decode cL_law 1689 = .ok (.ifCond .ne 15, 3) := by decide +kernel
theorem dL_law_1692 : decode cL_law 1692 = .ok (.aload_n 3, 1) := by decide +kernel
theorem dL_law_1693 : decode cL_law 1693 = .ok (.iconst 0, 1) := by decide +kernel
theorem dL_law_1694 : decode cL_law 1694 = .ok (.laload, 1) := by decide +kernel
theorem dL_law_1695 : decode cL_law 1695 = .ok (.iload 6, 2) := by decide +kernel
theorem dL_law_1697 : decode cL_law 1697 = .ok (.i2l, 1) := by decide +kernel
theorem dL_law_1698 : decode cL_law 1698 = .ok (.lcmp, 1) := by decide +kernel
theorem dL_law_1699 : decode cL_law 1699 = .ok (.ifCond .eq 5, 3) := by decide +kernel
theorem dL_law_1702 : decode cL_law 1702 = .ok (.iconst 0, 1) := by decide +kernel
theorem dL_law_1703 : decode cL_law 1703 = .ok (.ireturn, 1) := by decide +kernel
theorem dL_law_1704 : decode cL_law 1704 = .ok (.goto 167, 3) := by decide +kernel
theorem dL_law_1707 : decode cL_law 1707 = .ok (.aload_n 1, 1) := by decide +kernel
theorem dL_law_1708 : decode cL_law 1708 = .ok (.aload_n 0, 1) := by decide +kernel
theorem dL_law_1709 : decode cL_law 1709 = .ok (.iload 4, 2) := by decide +kernel
theorem dL_law_1711 : decode cL_law 1711 = .ok (.iconst 1, 1) := by decide +kernel
theorem dL_law_1712 : decode cL_law 1712 = .ok (.iadd, 1) := by decide +kernel
theorem dL_law_1713 : decode cL_law 1713 = .ok (.iaload, 1) := by decide +kernel
theorem dL_law_1714 : decode cL_law 1714 = .ok (.aload_n 3, 1) := by decide +kernel
theorem dL_law_1715 : decode cL_law 1715 = .ok (.invokestatic 193, 3) := by decide +kernel
theorem dL_law_1718 : decode cL_law 1718 = .ok (.istore 5, 2) := by decide +kernel
theorem dL_law_1720 : decode cL_law 1720 = .ok (.aload_n 2, 1) := by decide +kernel
theorem dL_law_1721 : decode cL_law 1721 = .ok (.aload_n 0, 1) := by decide +kernel
theorem dL_law_1722 : decode cL_law 1722 = .ok (.iload 4, 2) := by decide +kernel
theorem dL_law_1724 : decode cL_law 1724 = .ok (.iconst 1, 1) := by decide +kernel
theorem dL_law_1725 : decode cL_law 1725 = .ok (.iadd, 1) := by decide +kernel
theorem dL_law_1726 : decode cL_law 1726 = .ok (.iaload, 1) := by decide +kernel
theorem dL_law_1727 : decode cL_law 1727 = .ok (.invokevirtual 195, 3) := by decide +kernel
theorem dL_law_1730 : decode cL_law 1730 = .ok (.istore 6, 2) := by decide +kernel
theorem dL_law_1732 : decode cL_law 1732 = .ok (.aload_n 2, 1) := by decide +kernel
theorem dL_law_1733 : decode cL_law 1733 = .ok (.invokevirtual 111, 3) := by decide +kernel
theorem dL_law_1736 : decode cL_law 1736 = .ok (.iload 5, 2) := by decide +kernel
theorem dL_law_1738 : decode cL_law 1738 = .ok (.if_icmp .eq 5, 3) := by decide +kernel
theorem dL_law_1741 : decode cL_law 1741 = .ok (.iconst 0, 1) := by decide +kernel
theorem dL_law_1742 : decode cL_law 1742 = .ok (.ireturn, 1) := by decide +kernel
theorem dL_law_1743 : decode cL_law 1743 = .ok (.iload 5, 2) := by decide +kernel
theorem dL_law_1745 : decode cL_law 1745 = .ok (.ifCond .ne 15, 3) := by decide +kernel
theorem dL_law_1748 : decode cL_law 1748 = .ok (.aload_n 3, 1) := by decide +kernel
theorem dL_law_1749 : decode cL_law 1749 = .ok (.iconst 0, 1) := by decide +kernel
theorem dL_law_1750 : decode cL_law 1750 = .ok (.laload, 1) := by decide +kernel
theorem dL_law_1751 : decode cL_law 1751 = .ok (.iload 6, 2) := by decide +kernel
theorem dL_law_1753 : decode cL_law 1753 = .ok (.i2l, 1) := by decide +kernel
theorem dL_law_1754 : decode cL_law 1754 = .ok (.lcmp, 1) := by decide +kernel
theorem dL_law_1755 : decode cL_law 1755 = .ok (.ifCond .eq 5, 3) := by decide +kernel
theorem dL_law_1758 : decode cL_law 1758 = .ok (.iconst 0, 1) := by decide +kernel
theorem dL_law_1759 : decode cL_law 1759 = .ok (.ireturn, 1) := by decide +kernel
theorem dL_law_1760 : decode cL_law 1760 = .ok (.goto 111, 3) := by decide +kernel
theorem dL_law_1763 : decode cL_law 1763 = .ok (.aload_n 1, 1) := by decide +kernel
theorem dL_law_1764 : decode cL_law 1764 = .ok (.invokevirtual 196, 3) := by decide +kernel
theorem dL_law_1767 : decode cL_law 1767 = .ok (.aload_n 2, 1) := by decide +kernel
theorem dL_law_1768 : decode cL_law 1768 = .ok (.invokevirtual 199, 3) := by decide +kernel
theorem dL_law_1771 : decode cL_law 1771 = .ok (.if_icmp .eq 100, 3) := by decide +kernel
theorem dL_law_1774 : decode cL_law 1774 = .ok (.iconst 0, 1) := by decide +kernel
theorem dL_law_1775 : decode cL_law 1775 = .ok (.ireturn, 1) := by decide +kernel
theorem dL_law_1776 : decode cL_law 1776 = .ok (.aload_n 1, 1) := by decide +kernel
theorem dL_law_1777 : decode cL_law 1777 = .ok (.invokevirtual 200, 3) := by decide +kernel
theorem dL_law_1780 : decode cL_law 1780 = .ok (.aload_n 2, 1) := by decide +kernel
theorem dL_law_1781 : decode cL_law 1781 = .ok (.invokevirtual 203, 3) := by decide +kernel
theorem dL_law_1784 : decode cL_law 1784 = .ok (.if_icmp .eq 87, 3) := by decide +kernel
theorem dL_law_1787 : decode cL_law 1787 = .ok (.iconst 0, 1) := by decide +kernel
theorem dL_law_1788 : decode cL_law 1788 = .ok (.ireturn, 1) := by decide +kernel
theorem dL_law_1789 : decode cL_law 1789 = .ok (.aload_n 1, 1) := by decide +kernel
theorem dL_law_1790 : decode cL_law 1790 = .ok (.invokevirtual 204, 3) := by decide +kernel
theorem dL_law_1793 : decode cL_law 1793 = .ok (.aload_n 2, 1) := by decide +kernel
theorem dL_law_1794 : decode cL_law 1794 = .ok (.invokevirtual 207, 3) := by decide +kernel
theorem dL_law_1797 : decode cL_law 1797 = .ok (.if_icmp .eq 74, 3) := by decide +kernel
theorem dL_law_1800 : decode cL_law 1800 = .ok (.iconst 0, 1) := by decide +kernel
theorem dL_law_1801 : decode cL_law 1801 = .ok (.ireturn, 1) := by decide +kernel
theorem dL_law_1802 : decode cL_law 1802 = .ok (.aload_n 1, 1) := by decide +kernel
theorem dL_law_1803 : decode cL_law 1803 = .ok (.aload_n 0, 1) := by decide +kernel
theorem dL_law_1804 : decode cL_law 1804 = .ok (.iload 4, 2) := by decide +kernel
theorem dL_law_1806 : decode cL_law 1806 = .ok (.iconst 1, 1) := by decide +kernel
theorem dL_law_1807 : decode cL_law 1807 = .ok (.iadd, 1) := by decide +kernel
theorem dL_law_1808 : decode cL_law 1808 = .ok (.iaload, 1) := by decide +kernel
theorem dL_law_1809 : decode cL_law 1809 = .ok (.aload_n 3, 1) := by decide +kernel
theorem dL_law_1810 : decode cL_law 1810 = .ok (.invokestatic 208, 3) := by decide +kernel
theorem dL_law_1813 : decode cL_law 1813 = .ok (.istore 5, 2) := by decide +kernel
theorem dL_law_1815 : decode cL_law 1815 = .ok (.aload_n 2, 1) := by decide +kernel
theorem dL_law_1816 : decode cL_law 1816 = .ok (.aload_n 0, 1) := by decide +kernel
theorem dL_law_1817 : decode cL_law 1817 = .ok (.iload 4, 2) := by decide +kernel
theorem dL_law_1819 : decode cL_law 1819 = .ok (.iconst 1, 1) := by decide +kernel
theorem dL_law_1820 : decode cL_law 1820 = .ok (.iadd, 1) := by decide +kernel
theorem dL_law_1821 : decode cL_law 1821 = .ok (.iaload, 1) := by decide +kernel
theorem dL_law_1822 : decode cL_law 1822 = .ok (.invokevirtual 210, 3) := by decide +kernel
theorem dL_law_1825 : decode cL_law 1825 = .ok (.istore 6, 2) := by decide +kernel
theorem dL_law_1827 : decode cL_law 1827 = .ok (.aload_n 2, 1) := by decide +kernel
theorem dL_law_1828 : decode cL_law 1828 = .ok (.invokevirtual 111, 3) := by decide +kernel
theorem dL_law_1831 : decode cL_law 1831 = .ok (.iload 5, 2) := by decide +kernel
theorem dL_law_1833 : decode cL_law 1833 = .ok (.if_icmp .eq 5, 3) := by decide +kernel
theorem dL_law_1836 : decode cL_law 1836 = .ok (.iconst 0, 1) := by decide +kernel
theorem dL_law_1837 : decode cL_law 1837 = .ok (.ireturn, 1) := by decide +kernel
theorem dL_law_1838 : decode cL_law 1838 = .ok (.iload 5, 2) := by decide +kernel
theorem dL_law_1840 : decode cL_law 1840 = .ok (.ifCond .ne 15, 3) := by decide +kernel
theorem dL_law_1843 : decode cL_law 1843 = .ok (.aload_n 3, 1) := by decide +kernel
theorem dL_law_1844 : decode cL_law 1844 = .ok (.iconst 0, 1) := by decide +kernel
theorem dL_law_1845 : decode cL_law 1845 = .ok (.laload, 1) := by decide +kernel
theorem dL_law_1846 : decode cL_law 1846 = .ok (.iload 6, 2) := by decide +kernel
theorem dL_law_1848 : decode cL_law 1848 = .ok (.i2l, 1) := by decide +kernel
theorem dL_law_1849 : decode cL_law 1849 = .ok (.lcmp, 1) := by decide +kernel
theorem dL_law_1850 : decode cL_law 1850 = .ok (.ifCond .eq 5, 3) := by decide +kernel
theorem dL_law_1853 : decode cL_law 1853 = .ok (.iconst 0, 1) := by decide +kernel
theorem dL_law_1854 : decode cL_law 1854 = .ok (.ireturn, 1) := by decide +kernel
theorem dL_law_1855 : decode cL_law 1855 = .ok (.goto 16, 3) := by decide +kernel
theorem dL_law_1858 : decode cL_law 1858 = .ok (.aload_n 1, 1) := by decide +kernel
theorem dL_law_1859 : decode cL_law 1859 = .ok (.invokevirtual 211, 3) := by decide +kernel
theorem dL_law_1862 : decode cL_law 1862 = .ok (.aload_n 2, 1) := by decide +kernel
theorem dL_law_1863 : decode cL_law 1863 = .ok (.invokevirtual 214, 3) := by decide +kernel
theorem dL_law_1866 : decode cL_law 1866 = .ok (.if_icmp .eq 5, 3) := by decide +kernel
theorem dL_law_1869 : decode cL_law 1869 = .ok (.iconst 0, 1) := by decide +kernel
theorem dL_law_1870 : decode cL_law 1870 = .ok (.ireturn, 1) := by decide +kernel
theorem dL_law_1871 : decode cL_law 1871 = .ok (.iinc 4 6, 3) := by decide +kernel
theorem dL_law_1874 : decode cL_law 1874 = .ok (.goto (-1851), 3) := by decide +kernel
theorem dL_law_1877 : decode cL_law 1877 = .ok (.iconst 1, 1) := by decide +kernel
theorem dL_law_1878 : decode cL_law 1878 = .ok (.ireturn, 1) := by decide +kernel
end
section
theorem zz_probe : True := trivial
end
