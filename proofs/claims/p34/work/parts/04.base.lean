/-! 04.base: the frame of this proof. A world is a table Y of families of cells (a family: so many rows of one shape), at addresses G.2.2 f r; what it holds is a state S : family, row, index. 'xg F k w pc L st I': from every machine state at pc whose locals hold L, whose stack is st, whose heap keeps I, the method goes to its end. -/
abbrev xS : Type := Nat → Int32 → Int32 → Int32
def xu (S : xS) (f : Nat) (r i v : Int32) : xS := fun f' => if f' = f then (fun r' i' => if r' = r ∧ i' = i then v else S f' r' i') else S f'
abbrev xSh : Type := (Nat × List (Option Nat)) ⊕ ((Bool × Nat) ⊕ Nat)
abbrev xY : Type := List (Nat × xSh)
abbrev xG : Type := va_G × (ClassId × ClassId × ClassId) × (Nat → Int32 → Nat)
def xFl (ad : Nat → Int32 → Nat) (g : Int32 → Int32) : List (Option Nat) → Nat → List Value
  | [], _ => []
  | some t :: l, k => .ref (ad t 0) :: xFl ad g l (k + 1)
  | none :: l, k => .int (g (nI k)) :: xFl ad g l (k + 1)
theorem xFl_ref {ad : Nat → Int32 → Nat} {g : Int32 → Int32} : ∀ (l : List (Option Nat)) (j k : Nat) (t : Nat), l[k]? = some (some t) → (xFl ad g l j)[k]? = some (.ref (ad t 0))
  | [], _, k, t, h => by simp at h
  | some a :: l, j, 0, t, h => by
    simp at h
    subst h
    simp [xFl]
  | none :: l, j, 0, t, h => by simp at h
  | some a :: l, j, k + 1, t, h => by
    simp only [List.getElem?_cons_succ] at h
    simp only [xFl, List.getElem?_cons_succ]
    exact xFl_ref l (j + 1) k t h
  | none :: l, j, k + 1, t, h => by
    simp only [List.getElem?_cons_succ] at h
    simp only [xFl, List.getElem?_cons_succ]
    exact xFl_ref l (j + 1) k t h
theorem xFl_int {ad : Nat → Int32 → Nat} {g : Int32 → Int32} : ∀ (l : List (Option Nat)) (j k : Nat), l[k]? = some none → (xFl ad g l j)[k]? = some (.int (g (nI (j + k))))
  | [], _, k, h => by simp at h
  | some a :: l, j, 0, h => by simp at h
  | none :: l, j, 0, h => by simp [xFl]
  | some a :: l, j, k + 1, h => by
    simp only [List.getElem?_cons_succ] at h
    simp only [xFl, List.getElem?_cons_succ]
    rw [xFl_int l (j + 1) k h, show j + 1 + k = j + (k + 1) by omega]
  | none :: l, j, k + 1, h => by
    simp only [List.getElem?_cons_succ] at h
    simp only [xFl, List.getElem?_cons_succ]
    rw [xFl_int l (j + 1) k h, show j + 1 + k = j + (k + 1) by omega]
theorem xFl_len {ad : Nat → Int32 → Nat} {g : Int32 → Int32} : ∀ (l : List (Option Nat)) (j : Nat), (xFl ad g l j).length = l.length
  | [], _ => rfl
  | some a :: l, j => by simp [xFl, xFl_len l (j + 1)]
  | none :: l, j => by simp [xFl, xFl_len l (j + 1)]
theorem xFl_cong {ad : Nat → Int32 → Nat} {g g' : Int32 → Int32} : ∀ (l : List (Option Nat)) (j : Nat), (∀ k, j ≤ k → k < j + l.length → g (nI k) = g' (nI k)) → xFl ad g l j = xFl ad g' l j
  | [], _, _ => rfl
  | some a :: l, j, h => by
    simp only [xFl]
    rw [xFl_cong l (j + 1) (fun k h1 h2 => h k (by omega) (by simp only [List.length_cons]; omega))]
  | none :: l, j, h => by
    simp only [xFl]
    rw [xFl_cong l (j + 1) (fun k h1 h2 => h k (by omega) (by simp only [List.length_cons]; omega)), h j (Nat.le_refl _) (by simp only [List.length_cons]; omega)]
theorem xFl_set {ad : Nat → Int32 → Nat} {g : Int32 → Int32} {v : Int32} : ∀ (l : List (Option Nat)) (j k : Nat), j + l.length < 2 ^ 31 → l[k]? = some none → (xFl ad g l j).set k (.int v) = xFl ad (fun i => if i = nI (j + k) then v else g i) l j
  | [], _, k, _, h => by simp at h
  | some a :: l, j, 0, _, h => by simp at h
  | none :: l, j, 0, hn, h => by
    simp only [List.length_cons] at hn
    simp only [xFl, List.set_cons_zero, Nat.add_zero, if_true]
    rw [xFl_cong (g := g) (g' := fun i => if i = nI j then v else g i) l (j + 1) (fun k h1 h2 => ?_)]
    show g (nI k) = if nI k = nI j then v else g (nI k)
    rw [if_neg]
    rw [nI_eq (by omega) (by omega)]
    omega
  | some a :: l, j, k + 1, hn, h => by
    simp only [List.getElem?_cons_succ] at h
    simp only [List.length_cons] at hn
    simp only [xFl, List.set_cons_succ]
    rw [xFl_set l (j + 1) k (by omega) h, show j + 1 + k = j + (k + 1) by omega]
  | none :: l, j, k + 1, hn, h => by
    simp only [List.getElem?_cons_succ] at h
    simp only [List.length_cons] at hn
    have hk : k < l.length := (List.getElem?_eq_some_iff.mp h).1
    simp only [xFl, List.set_cons_succ]
    rw [xFl_set l (j + 1) k (by omega) h, show j + 1 + k = j + (k + 1) by omega, if_neg]
    rw [nI_eq (by omega) (by omega)]
    omega
def xE (G : xG) (g : Int32 → Int32) (y : xSh) : va_E := match y with
  | .inl (ci, fs) => .inr (ci, xFl G.2.2 g fs 0)
  | .inr (.inl (z, n)) => .inl (cond z G.2.1.2.1 G.2.1.1, n, .inl (fun j => g (nI j)))
  | .inr (.inr b) => .inl (G.2.1.2.2, 8, .inr (.inr (.inr (.inr (fun j => some (G.2.2 b (nI j)))))))
def xP (Y : xY) (G : xG) (S : xS) (H : Heap) : Prop := ∀ (f : Nat) (q : Nat × xSh), Y[f]? = some q → ∀ j : Nat, j < q.1 → va_at G.1 vwCl (G.2.2 f (nI j), xE G (S f (nI j)) q.2) H
def xAp (Y : xY) (G : xG) : Prop := (∀ (f : Nat) (q : Nat × xSh), Y[f]? = some q → q.1 ≤ 8) ∧ ∀ (f : Nat) (q : Nat × xSh) (j f' : Nat) (q' : Nat × xSh) (j' : Nat), Y[f]? = some q → j < q.1 → Y[f']? = some q' → j' < q'.1 → G.2.2 f (nI j) = G.2.2 f' (nI j') → f = f' ∧ j = j'
def xA (Y : xY) (G : xG) : Nat → Prop := fun a => ∃ (f : Nat) (q : Nat × xSh) (j : Nat), Y[f]? = some q ∧ j < q.1 ∧ a = G.2.2 f (nI j)
/-- r is a row of a family of n rows -/
def xR (n : Nat) (r : Int32) : Prop := ∃ j : Nat, j < n ∧ r = nI j
theorem xR_0 {n : Nat} (h : 0 < n) : xR n 0 := ⟨0, h, nI_0.symm⟩
theorem xR_8 {r : Int32} {n : Nat} (hn : n < 2 ^ 31) (h : vp_in r n) : xR n r := by
  obtain ⟨j, h1, h2⟩ := vp_in_of h hn
  exact ⟨j, h1, h2⟩
theorem xu_ne {S : xS} {f f' : Nat} {r i v r' i' : Int32} (h : f' ≠ f) : xu S f r i v f' r' i' = S f' r' i' := by
  unfold xu
  rw [if_neg h]
theorem xu_self {S : xS} {f : Nat} {r i v r' i' : Int32} : xu S f r i v f r' i' = if r' = r ∧ i' = i then v else S f r' i' := by
  unfold xu
  rw [if_pos rfl]
theorem xP_at {Y : xY} {G : xG} {S : xS} {H : Heap} (h : xP Y G S H) {f : Nat} {n : Nat} {y : xSh} {r : Int32} (hY : Y[f]? = some (n, y)) (hr : xR n r) : va_at G.1 vwCl (G.2.2 f r, xE G (S f r) y) H := by
  obtain ⟨j, h1, rfl⟩ := hr
  exact h f (n, y) hY j h1
theorem xP_put {Y : xY} {G : xG} {S : xS} {H H1 : Heap} {f n : Nat} {y : xSh} {r i v : Int32} (hP : xP Y G S H) (hap : xAp Y G) (hY : Y[f]? = some (n, y)) (hr : xR n r)
    (hnew : va_at G.1 vwCl (G.2.2 f r, xE G (xu S f r i v f r) y) H1) (hold : ∀ a : Nat, a ≠ G.2.2 f r → H1[a]? = H[a]?) : xP Y G (xu S f r i v) H1 := by
  obtain ⟨j, hj, rfl⟩ := hr
  intro f' q' hY' j' hj'
  have b1 := hap.1 f _ hY
  have b2 := hap.1 f' _ hY'
  by_cases hc : f' = f ∧ j' = j
  · obtain ⟨rfl, rfl⟩ := hc
    cases hY.symm.trans hY'
    exact hnew
  · have hne : G.2.2 f' (nI j') ≠ G.2.2 f (nI j) := fun he => hc (hap.2 f' q' j' f (n, y) j hY' hj' hY hj he)
    have h0 := (hP f' q' hY' j' hj').kept (hold _ hne)
    have he : xu S f (nI j) i v f' (nI j') = S f' (nI j') := by
      funext i'
      by_cases hf : f' = f
      · subst hf
        rw [xu_self, if_neg]
        intro hh
        have hjj : j' ≠ j := fun z => hc ⟨rfl, z⟩
        have h8 : n ≤ 8 := b1
        have h8' : q'.1 ≤ 8 := b2
        have := (nI_eq (a := j') (b := j) (by omega) (by omega)).mp hh.1
        exact hjj this
      · exact xu_ne hf
    rw [he]
    exact h0
theorem xP_kept {Y : xY} {G : xG} {S : xS} {H H1 : Heap} (hP : xP Y G S H) (h : ∀ a : Nat, xA Y G a → H1[a]? = H[a]?) : xP Y G S H1 := fun f q hY j hj => (hP f q hY j hj).kept (h _ ⟨f, q, j, hY, hj, rfl⟩)
theorem xA_of {Y : xY} {G : xG} {f n : Nat} {y : xSh} {r : Int32} (hY : Y[f]? = some (n, y)) (hr : xR n r) : xA Y G (G.2.2 f r) := by
  obtain ⟨j, h1, rfl⟩ := hr
  exact ⟨f, (n, y), j, hY, h1, rfl⟩
theorem xA_lt {Y : xY} {G : xG} {S : xS} {H : Heap} (hP : xP Y G S H) {a : Nat} (h : xA Y G a) : a < H.size := by
  obtain ⟨f, q, j, hY, hj, rfl⟩ := h
  exact (hP f q hY j hj).lt
theorem xarr_cong {cA : ClassId} {n : Nat} {f g : Nat → Value} (h : ∀ j, j < n → f j = g j) : arrV cA n f = arrV cA n g := by
  unfold arrV
  congr 1
  apply Array.ext
  · simp
  · intro i h1 h2
    simp at h1
    simp [h i h1]
/-! the locals: by their places -/
/-- what holds of a local: a long fills the next place too, of which nothing else is known -/
def xL (ls : Array Slot) (nL : Nat) (L : List (Option Value)) : Prop := ls.size = nL ∧ lv_wf ls ∧ ∀ (j : Nat) (w : Value), L[j]? = some (some w) → ls[j]? = some (.val w) ∧ (w.category = 1 ∨ ∀ v, L[j + 1]? ≠ some (some v))
/-- no long ends at place i -/
def xnl (L : List (Option Value)) : Nat → Bool
  | 0 => true
  | i + 1 => match L[i]? with
    | some (some w) => w.category == 1
    | _ => true
theorem xnl_1 {L : List (Option Value)} {i j : Nat} {w : Value} (h : xnl L i = true) (hj : L[j]? = some (some w)) (hw : ¬ w.category = 1) : j + 1 ≠ i := by
  intro e
  subst e
  simp [xnl, hj] at h
  exact hw h
def xPairs (L : List (Option Value)) : List (Nat × Value) := L.zipIdx.filterMap (fun q => q.1.map (fun v => (q.2, v)))
theorem xPairs_mem {L : List (Option Value)} {j : Nat} {w : Value} : (j, w) ∈ xPairs L ↔ L[j]? = some (some w) := by
  unfold xPairs
  rw [List.mem_filterMap]
  constructor
  · rintro ⟨⟨a, b⟩, h1, h2⟩
    rw [List.mem_zipIdx_iff_getElem?] at h1
    cases a with
    | none => simp at h2
    | some x =>
      simp at h2
      obtain ⟨rfl, rfl⟩ := h2
      exact h1
  · intro h
    exact ⟨(some w, j), List.mem_zipIdx_iff_getElem?.mpr h, rfl⟩
theorem xL_has {ls : Array Slot} {nL : Nat} {L : List (Option Value)} (h : xL ls nL L) : lv_has ls nL (xPairs L) := ⟨h.1, h.2.1, fun q hq => (h.2.2 q.1 q.2 (xPairs_mem.mp hq)).1⟩
theorem xL_of {ls ls' : Array Slot} {nL i : Nat} {L : List (Option Value)} {v : Value} (h : xL ls nL L) (hv : v.category = 1) (hno : xnl L i = true) (h' : lv_has ls' nL ((i, v) :: (xPairs L).filter (fun q => !(q.1 == i) && !(q.1 + 1 == i && q.2.category == 2)))) : xL ls' nL (L.set i (some v)) := by
  refine ⟨h'.1, h'.2.1, fun j w hj => ?_⟩
  by_cases hji : j = i
  · subst hji
    rw [List.getElem?_set] at hj
    simp only [if_true] at hj
    split at hj
    · simp at hj
      subst hj
      exact ⟨h'.2.2 (j, v) List.mem_cons_self, Or.inl hv⟩
    · cases hj
  · rw [List.getElem?_set_ne (Ne.symm hji)] at hj
    have hc := (h.2.2 j w hj).2
    have hne : ¬ w.category = 1 → j + 1 ≠ i := fun z => xnl_1 hno hj z
    refine ⟨h'.2.2 (j, w) (List.mem_cons_of_mem _ (List.mem_filter.mpr ⟨xPairs_mem.mpr hj, ?_⟩)), ?_⟩
    · by_cases z : w.category = 1
      · simp [hji, z]
      · simp [hji, hne z]
    · rcases hc with z | z
      · exact Or.inl z
      · by_cases z1 : w.category = 1
        · exact Or.inl z1
        · exact Or.inr (by rw [List.getElem?_set_ne (Ne.symm (hne z1))]; exact z)
theorem xL_of2 {ls ls' : Array Slot} {nL i : Nat} {L : List (Option Value)} {v : Value} (h : xL ls nL L) (hno : xnl L i = true) (hnx : L[i + 1]? = some none) (h' : lv_has ls' nL ((i, v) :: (xPairs L).filter (fun q => !(q.1 == i) && (!(q.1 == i + 1) && !(q.1 + 1 == i && q.2.category == 2))))) : xL ls' nL (L.set i (some v)) := by
  refine ⟨h'.1, h'.2.1, fun j w hj => ?_⟩
  by_cases hji : j = i
  · subst hji
    rw [List.getElem?_set] at hj
    simp only [if_true] at hj
    split at hj
    · simp at hj
      subst hj
      exact ⟨h'.2.2 (j, v) List.mem_cons_self, Or.inr (by rw [List.getElem?_set_ne (by omega), hnx]; exact fun v z => by cases z)⟩
    · cases hj
  · rw [List.getElem?_set_ne (Ne.symm hji)] at hj
    have hc := (h.2.2 j w hj).2
    have hne : ¬ w.category = 1 → j + 1 ≠ i := fun z => xnl_1 hno hj z
    have hn2 : ¬ j = i + 1 := fun z => by rw [z, hnx] at hj; cases hj
    refine ⟨h'.2.2 (j, w) (List.mem_cons_of_mem _ (List.mem_filter.mpr ⟨xPairs_mem.mpr hj, ?_⟩)), ?_⟩
    · by_cases z : w.category = 1
      · simp [hji, hn2, z]
      · simp [hji, hn2, hne z]
    · rcases hc with z | z
      · exact Or.inl z
      · by_cases z1 : w.category = 1
        · exact Or.inl z1
        · exact Or.inr (by rw [List.getElem?_set_ne (Ne.symm (hne z1))]; exact z)
theorem xL_weak {ls : Array Slot} {nL : Nat} {L L' : List (Option Value)} (h : xL ls nL L) (hw : ∀ (j : Nat) (w : Value), L'[j]? = some (some w) → L[j]? = some (some w)) : xL ls nL L' := ⟨h.1, h.2.1, fun j w hj => ⟨(h.2.2 j w (hw j w hj)).1, (h.2.2 j w (hw j w hj)).2.imp id (fun z v hv => z v (hw _ v hv))⟩⟩
theorem xargs_mem : ∀ (as : List Value) (k : Nat), (∀ v ∈ as, v.category = 1) → ∀ (j : Nat) (w : Value), as[j]? = some w → (k + j, w) ∈ lv_args k as
  | [], k, _, j, w, h => by simp at h
  | a :: as, k, hc, 0, w, h => by
    simp at h
    subst h
    simp [lv_args]
  | a :: as, k, hc, j + 1, w, h => by
    simp only [List.getElem?_cons_succ] at h
    have h1 : a.category = 1 := hc a List.mem_cons_self
    simp only [lv_args, h1]
    refine List.mem_cons_of_mem _ ?_
    have := xargs_mem as (k + 1) (fun v hv => hc v (List.mem_cons_of_mem _ hv)) j w h
    rw [show k + (j + 1) = k + 1 + j by omega]
    simpa using this
theorem xsl_len : ∀ (as : List Value), (∀ v ∈ as, v.category = 1) → (lg_sl as).length = as.length
  | [], _ => rfl
  | a :: as, hc => by
    have h1 : a.category = 1 := hc a List.mem_cons_self
    have := xsl_len as (fun v hv => hc v (List.mem_cons_of_mem _ hv))
    unfold lg_sl at this ⊢
    rw [List.flatMap_cons, List.length_append, this, h1]
    simp [Nat.add_comm]
theorem xL_entry {as : List Value} {n : Nat} (hc : ∀ v ∈ as, v.category = 1) (hn : as.length ≤ n) {L : List (Option Value)} (hL : L = as.map some ++ List.replicate (n - as.length) none) : xL ((lg_sl as ++ List.replicate (n - (lg_sl as).length) Slot.unset).toArray) n L := by
  subst hL
  have h := lv_entry as (n := n) (by rw [xsl_len as hc]; exact hn)
  refine ⟨h.1, h.2.1, fun j w hj => ?_⟩
  by_cases hl : j < as.length
  · rw [List.getElem?_append_left (by rw [List.length_map]; exact hl), List.getElem?_map] at hj
    have hj' : as[j]? = some w := by
      cases ha : as[j]? with
      | none => rw [ha] at hj; simp at hj
      | some x => rw [ha] at hj; simp at hj; rw [hj]
    have hm := xargs_mem as 0 hc j w hj'
    rw [Nat.zero_add] at hm
    exact ⟨h.2.2 (j, w) hm, Or.inl (hc w (List.mem_of_getElem? hj'))⟩
  · rw [List.getElem?_append_right (by rw [List.length_map]; omega), List.getElem?_replicate] at hj
    split at hj
    · simp at hj
    · cases hj
