/-! 27: rows over natural numbers; places of eights -/
theorem i32_cl {a c c' : Int32} (h : a + c' = a + c) : c' = c := by
  have e : ∀ z : Int32, a + z - a = z := fun z => by rw [Int32.add_comm, Int32.add_sub_cancel]
  rw [← e c', h, e c]
theorem xu_8c {S : xS} {f : Nat} {r a c c' v : Int32} (h : c' ≠ c) : xu S f r (a + c) v f r (a + c') = S f r (a + c') := xu_ni (fun z => h (i32_cl z))
theorem xu_80 {S : xS} {f : Nat} {r a c' v : Int32} (h : c' ≠ 0) : xu S f r a v f r (a + c') = S f r (a + c') := xu_ni (fun z => h (i32_cl (a := a) (by rw [z, Int32.add_zero])))
theorem xu_08 {S : xS} {f : Nat} {r a c v : Int32} (h : c ≠ 0) : xu S f r (a + c) v f r a = S f r a := xu_ni (fun z => h (i32_cl (a := a) (by rw [← z, Int32.add_zero])))
theorem nI_ne {n : Nat} (h : n < 2147483648) (h0 : 0 < n) : ¬ nI n = (0 : Int32) := fun z => by
  have e := congrArg Int32.toInt z
  rw [nI_toInt h, xt0] at e
  omega
section XNAT
variable {F : xF} {cc : ByteArray} {nL : Nat} {own : String} {Ws : List Cond} {rm : Room} {k w pc : Nat} {L : List (Option Value)} {st : List Value} {I : Heap → Prop}
theorem xg_idivN (C : xC F cc nL own Ws rm) {n a : Nat} {y : Int32} (hn : n < 2147483648) (ha : 0 < a ∧ a < 2147483648) (hy : y = nI a) (d : decode cc pc = .ok (.idiv, 1)) (K : xg F k w (pc + 1) L (.int (nI (n / a)) :: st) I) : xg F k w pc L (.int y :: .int (nI n) :: st) I := by
  subst hy
  refine xg_idiv C d (nI_ne ha.2 ha.1) ?_
  rw [pk_div hn ha.1 ha.2]
  exact K
theorem xg_iremN (C : xC F cc nL own Ws rm) {n a : Nat} {y : Int32} (hn : n < 2147483648) (ha : 0 < a ∧ a < 2147483648) (hy : y = nI a) (d : decode cc pc = .ok (.irem, 1)) (K : xg F k w (pc + 1) L (.int (nI (n % a)) :: st) I) : xg F k w pc L (.int y :: .int (nI n) :: st) I := by
  subst hy
  refine xg_irem C d (nI_ne ha.2 ha.1) ?_
  rw [pk_rem hn ha.1 ha.2]
  exact K
theorem xg_iaddN (C : xC F cc nL own Ws rm) {n a : Nat} {x : Int32} (hx : x = nI a) (d : decode cc pc = .ok (.iadd, 1)) (K : xg F k w (pc + 1) L (.int (nI (a + n)) :: st) I) : xg F k w pc L (.int (nI n) :: .int x :: st) I := by
  subst hx
  refine xg_iadd C d ?_
  rw [nI_add]
  exact K
theorem xg_imul1 (C : xC F cc nL own Ws rm) {x : Int32} (d : decode cc pc = .ok (.imul, 1)) (K : xg F k w (pc + 1) L (.int x :: st) I) : xg F k w pc L (.int (1 : Int32) :: .int x :: st) I := by
  refine xg_imul C d ?_
  rw [Int32.mul_one]
  exact K
theorem xg_imul0 (C : xC F cc nL own Ws rm) {x : Int32} (d : decode cc pc = .ok (.imul, 1)) (K : xg F k w (pc + 1) L (.int (0 : Int32) :: st) I) : xg F k w pc L (.int (0 : Int32) :: .int x :: st) I := by
  refine xg_imul C d ?_
  rw [Int32.mul_zero]
  exact K
theorem xg_isubZ (C : xC F cc nL own Ws rm) {n : Nat} (h : n = 0) (d : decode cc pc = .ok (.isub, 1)) (K : xg F k w (pc + 1) L (.int (-1 : Int32) :: st) I) : xg F k w pc L (.int (1 : Int32) :: .int (nI n) :: st) I := by
  subst h
  refine xg_isub C d ?_
  rw [show nI 0 - (1 : Int32) = (-1 : Int32) from by decide]
  exact K
theorem nI_pred1 {n : Nat} (h : 1 ≤ n) : nI n - (1 : Int32) = nI (n - 1) := by
  have e : nI n = nI (n - 1) + (1 : Int32) := by rw [nI_1, Nat.sub_add_cancel h]
  rw [e, Int32.add_sub_cancel]
theorem xg_isubN (C : xC F cc nL own Ws rm) {n : Nat} (h : 1 ≤ n) (d : decode cc pc = .ok (.isub, 1)) (K : xg F k w (pc + 1) L (.int (nI (n - 1)) :: st) I) : xg F k w pc L (.int (1 : Int32) :: .int (nI n) :: st) I := by
  refine xg_isub C d ?_
  rw [nI_pred1 h]
  exact K
end XNAT
