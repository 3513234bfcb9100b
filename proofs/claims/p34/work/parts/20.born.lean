/-! 20: the two worlds at their birth (planl.py) -/
def wC (f : Nat) : Nat := if f < 28 then 1 else if f < 34 then 8 else 1
def ofC (f j : Nat) : Nat := if f < 1 then 0 else if f < 2 then 1 else if f < 3 then 9 else if f < 4 then 18 else if f < 11 then f - 2 else if f < 19 then f - 1 else if f < 22 then f else if f < 28 then 22 + 9 * (f - 22) else if f < 34 then 23 + 9 * (f - 28) + j else f + 42
def adC (h0 : Nat) (f : Nat) (r : Int32) : Nat := h0 + ofC f r.toNatClampNeg
def iC (k : Nat) : Option (Nat × Nat) := ((List.range 40).flatMap fun f => (List.range (wC f)).map fun j => (f, j)).find? (fun p => ofC p.1 p.2 == k)
theorem iC_of : ∀ f, f < 40 → ∀ j, j < wC f → iC (ofC f j) = some (f, j) := by decide +kernel
theorem xYc_w : ∀ f, f < 40 → xYc[f]?.map (fun q => q.1) = some (wC f) := by decide +kernel
theorem xYc_q {f : Nat} {q : Nat × xSh} (h : xYc[f]? = some q) : f < 40 ∧ q.1 = wC f := by
  have hl : f < 40 := (List.getElem?_eq_some_iff.mp h).1
  have := xYc_w f hl
  rw [h] at this
  exact ⟨hl, Option.some.inj this⟩
theorem wC_le (f : Nat) : wC f ≤ 8 := by
  unfold wC
  (repeat' split) <;> omega
theorem xapC (D : va_G) (ids : ClassId × ClassId × ClassId) (h0 : Nat) : xAp xYc (D, ids, adC h0) := by
  refine ⟨fun f q h => by rw [(xYc_q h).2]; exact wC_le f, fun f q j f' q' j' h hj h' hj' e => ?_⟩
  obtain ⟨a1, a2⟩ := xYc_q h
  obtain ⟨b1, b2⟩ := xYc_q h'
  rw [a2] at hj
  rw [b2] at hj'
  have c1 := wC_le f
  have c2 := wC_le f'
  have e2 : h0 + ofC f (nI j).toNatClampNeg = h0 + ofC f' (nI j').toNatClampNeg := e
  rw [nI_clamp (by omega), nI_clamp (by omega)] at e2
  have h1 := iC_of f a1 j hj
  have h2 := iC_of f' b1 j' hj'
  rw [show ofC f j = ofC f' j' by omega, h2] at h1
  cases h1
  exact ⟨rfl, rfl⟩
theorem xaC {D : va_G} {ids : ClassId × ClassId × ClassId} {h0 a : Nat} (h : xA xYc (D, ids, adC h0) a) : h0 ≤ a := by
  obtain ⟨f, q, j, -, -, rfl⟩ := h
  exact Nat.le_add_right _ _
theorem ofC_le : ∀ f, f < 40 → ∀ j, j < wC f → ofC f j < 82 := by decide +kernel
theorem xaC_lt {D : va_G} {ids : ClassId × ClassId × ClassId} {h0 a : Nat} (h : xA xYc (D, ids, adC h0) a) : a < h0 + 82 := by
  obtain ⟨f, q, j, hY, hj, rfl⟩ := h
  obtain ⟨a1, a2⟩ := xYc_q hY
  rw [a2] at hj
  have c1 := wC_le f
  show h0 + ofC f (nI j).toNatClampNeg < h0 + 82
  rw [nI_clamp (by omega)]
  have := ofC_le f a1 j hj
  omega
theorem xat_eq {D : va_G} {cl : List vw_C} {a a' : Nat} {x x' : va_E} {H : Heap} (h1 : a = a') (h2 : x = x') (e : va_at D cl (a', x') H) : va_at D cl (a, x) H := by
  subst h1
  subst h2
  exact e
theorem adC_k {h0 f j k : Nat} (hj : j < 8) (h : ofC f j = k + 1) : adC h0 f (nI j) = h0 + 1 + k := by
  unfold adC
  rw [nI_clamp (by omega), h]
  omega
theorem adC_0 {h0 f k : Nat} (h : ofC f 0 = k + 1) : adC h0 f 0 = h0 + 1 + k := by
  have := adC_k (h0 := h0) (f := f) (j := 0) (k := k) (by decide) h
  rwa [nI_0] at this
def xS0c : xS := fun f _ i => match f with
  | 3 => if i = nI 9 then 3 else if i = nI 10 then 6 else 0
  | 4 => 10
  | 5 => 100
  | 11 => 5
  | 13 => 20
  | 14 => 40
  | 15 => 80
  | 16 => 5
  | _ => 0
theorem xS0c_3 : xS0c 3 0 (nI 9) = 3 ∧ xS0c 3 0 (nI 10) = 6 ∧ xS0c 3 0 (nI 11) = 0 ∧ xS0c 3 (nI 0) (nI 9) = 3 ∧ xS0c 3 (nI 0) (nI 10) = 6 ∧ xS0c 3 (nI 0) (nI 11) = 0 := by decide +kernel
set_option maxRecDepth 100000 in
set_option maxHeartbeats 4000000 in
theorem xbornC {D : va_G} {cI cZ cO : ClassId} {h0 : Nat} {H : Heap} (h : xK D h0 (3, [.ref ((h0 + 1) + 0), .ref ((h0 + 1) + 8), .ref ((h0 + 1) + 17), .int (0 : Int32)]) (h0 + 1) [.inr (2, [.ref ((h0 + 1) + 1), .ref ((h0 + 1) + 2), .ref ((h0 + 1) + 3), .ref ((h0 + 1) + 4), .ref ((h0 + 1) + 5), .ref ((h0 + 1) + 6), .ref ((h0 + 1) + 7), .int (0 : Int32)]), .inl (cI, 8, .inl (fun _ => 10)), .inl (cI, 8, .inl (fun _ => 100)), .inl (cI, 8, .inl (fun _ => 0)), .inl (cI, 8, .inl (fun _ => 0)), .inl (cI, 8, .inl (fun _ => 0)), .inl (cI, 8, .inl (fun _ => 0)), .inl (cI, 8, .inl (fun _ => 0)), .inr (0, [.ref ((h0 + 1) + 9), .ref ((h0 + 1) + 10), .ref ((h0 + 1) + 11), .ref ((h0 + 1) + 12), .ref ((h0 + 1) + 13), .ref ((h0 + 1) + 14), .ref ((h0 + 1) + 15), .ref ((h0 + 1) + 16)]), .inl (cI, 8, .inl (fun _ => 5)), .inl (cI, 8, .inl (fun _ => 0)), .inl (cI, 8, .inl (fun _ => 20)), .inl (cI, 8, .inl (fun _ => 40)), .inl (cI, 8, .inl (fun _ => 80)), .inl (cI, 8, .inl (fun _ => 5)), .inl (cI, 8, .inl (fun _ => 0)), .inl (cZ, 8, .inl (fun _ => 0)), .inr (1, [.ref ((h0 + 1) + 18), .ref ((h0 + 1) + 19), .ref ((h0 + 1) + 20), .ref ((h0 + 1) + 21), .ref ((h0 + 1) + 30), .ref ((h0 + 1) + 39), .ref ((h0 + 1) + 48), .ref ((h0 + 1) + 57), .ref ((h0 + 1) + 66), .int (3 : Int32), .int (6 : Int32), .int (0 : Int32)]), .inl (cZ, 8, .inl (fun _ => 0)), .inl (cZ, 8, .inl (fun _ => 0)), .inl (cI, 8, .inl (fun _ => 0)), .inl (cO, 8, .inr (.inr (.inr (.inr (fun i => some ((h0 + 1) + 21 + 1 + i)))))), .inl (cI, 8, .inl (fun _ => 0)), .inl (cI, 8, .inl (fun _ => 0)), .inl (cI, 8, .inl (fun _ => 0)), .inl (cI, 8, .inl (fun _ => 0)), .inl (cI, 8, .inl (fun _ => 0)), .inl (cI, 8, .inl (fun _ => 0)), .inl (cI, 8, .inl (fun _ => 0)), .inl (cI, 8, .inl (fun _ => 0)), .inl (cO, 8, .inr (.inr (.inr (.inr (fun i => some ((h0 + 1) + 30 + 1 + i)))))), .inl (cI, 8, .inl (fun _ => 0)), .inl (cI, 8, .inl (fun _ => 0)), .inl (cI, 8, .inl (fun _ => 0)), .inl (cI, 8, .inl (fun _ => 0)), .inl (cI, 8, .inl (fun _ => 0)), .inl (cI, 8, .inl (fun _ => 0)), .inl (cI, 8, .inl (fun _ => 0)), .inl (cI, 8, .inl (fun _ => 0)), .inl (cO, 8, .inr (.inr (.inr (.inr (fun i => some ((h0 + 1) + 39 + 1 + i)))))), .inl (cI, 8, .inl (fun _ => 0)), .inl (cI, 8, .inl (fun _ => 0)), .inl (cI, 8, .inl (fun _ => 0)), .inl (cI, 8, .inl (fun _ => 0)), .inl (cI, 8, .inl (fun _ => 0)), .inl (cI, 8, .inl (fun _ => 0)), .inl (cI, 8, .inl (fun _ => 0)), .inl (cI, 8, .inl (fun _ => 0)), .inl (cO, 8, .inr (.inr (.inr (.inr (fun i => some ((h0 + 1) + 48 + 1 + i)))))), .inl (cI, 8, .inl (fun _ => 0)), .inl (cI, 8, .inl (fun _ => 0)), .inl (cI, 8, .inl (fun _ => 0)), .inl (cI, 8, .inl (fun _ => 0)), .inl (cI, 8, .inl (fun _ => 0)), .inl (cI, 8, .inl (fun _ => 0)), .inl (cI, 8, .inl (fun _ => 0)), .inl (cI, 8, .inl (fun _ => 0)), .inl (cO, 8, .inr (.inr (.inr (.inr (fun i => some ((h0 + 1) + 57 + 1 + i)))))), .inl (cI, 8, .inl (fun _ => 0)), .inl (cI, 8, .inl (fun _ => 0)), .inl (cI, 8, .inl (fun _ => 0)), .inl (cI, 8, .inl (fun _ => 0)), .inl (cI, 8, .inl (fun _ => 0)), .inl (cI, 8, .inl (fun _ => 0)), .inl (cI, 8, .inl (fun _ => 0)), .inl (cI, 8, .inl (fun _ => 0)), .inl (cO, 8, .inr (.inr (.inr (.inr (fun i => some ((h0 + 1) + 66 + 1 + i)))))), .inl (cI, 8, .inl (fun _ => 0)), .inl (cI, 8, .inl (fun _ => 0)), .inl (cI, 8, .inl (fun _ => 0)), .inl (cI, 8, .inl (fun _ => 0)), .inl (cI, 8, .inl (fun _ => 0)), .inl (cI, 8, .inl (fun _ => 0)), .inl (cI, 8, .inl (fun _ => 0)), .inl (cI, 8, .inl (fun _ => 0)), .inl (cI, 64, .inl (fun _ => 0)), .inl (cI, 64, .inl (fun _ => 0)), .inl (cI, 64, .inl (fun _ => 0)), .inl (cI, 64, .inl (fun _ => 0)), .inl (cI, 8, .inl (fun _ => 0)), .inl (cI, 3, .inl (fun _ => 0))] H) : xP xYc (D, (cI, cZ, cO), adC h0) xS0c H := by
  intro f q hY j hj
  have hf := (xYc_q hY).1
  match f, hY with
  | 0, hY =>
    cases hY
    have hj1 : j < 1 := hj
    obtain rfl : j = 0 := by omega
    refine xat_eq rfl ?_ h.1
    show (Sum.inr (3, [.ref (adC h0 1 0), .ref (adC h0 2 0), .ref (adC h0 3 0), .int (xS0c 0 (nI 0) (nI 3))]) : va_E) = _
    rw [adC_0 (f := 1) (k := 0) (by decide), adC_0 (f := 2) (k := 8) (by decide), adC_0 (f := 3) (k := 17) (by decide)]
    rfl
  | 1, hY =>
    cases hY
    have hj1 : j < 1 := hj
    obtain rfl : j = 0 := by omega
    refine xat_eq (adC_k (f := 1) (k := 0) (by decide) (by decide)) ?_ (h.2.2.2 0 _ rfl)
    show (Sum.inr (2, [.ref (adC h0 4 0), .ref (adC h0 5 0), .ref (adC h0 6 0), .ref (adC h0 7 0), .ref (adC h0 8 0), .ref (adC h0 9 0), .ref (adC h0 10 0), .int (xS0c 1 (nI 0) (nI 7))]) : va_E) = _
    rw [adC_0 (f := 4) (k := 1) (by decide), adC_0 (f := 5) (k := 2) (by decide), adC_0 (f := 6) (k := 3) (by decide), adC_0 (f := 7) (k := 4) (by decide), adC_0 (f := 8) (k := 5) (by decide), adC_0 (f := 9) (k := 6) (by decide), adC_0 (f := 10) (k := 7) (by decide)]
    rfl
  | 2, hY =>
    cases hY
    have hj1 : j < 1 := hj
    obtain rfl : j = 0 := by omega
    refine xat_eq (adC_k (f := 2) (k := 8) (by decide) (by decide)) ?_ (h.2.2.2 8 _ rfl)
    show (Sum.inr (0, [.ref (adC h0 11 0), .ref (adC h0 12 0), .ref (adC h0 13 0), .ref (adC h0 14 0), .ref (adC h0 15 0), .ref (adC h0 16 0), .ref (adC h0 17 0), .ref (adC h0 18 0)]) : va_E) = _
    rw [adC_0 (f := 11) (k := 9) (by decide), adC_0 (f := 12) (k := 10) (by decide), adC_0 (f := 13) (k := 11) (by decide), adC_0 (f := 14) (k := 12) (by decide), adC_0 (f := 15) (k := 13) (by decide), adC_0 (f := 16) (k := 14) (by decide), adC_0 (f := 17) (k := 15) (by decide), adC_0 (f := 18) (k := 16) (by decide)]
  | 3, hY =>
    cases hY
    have hj1 : j < 1 := hj
    obtain rfl : j = 0 := by omega
    refine xat_eq (adC_k (f := 3) (k := 17) (by decide) (by decide)) ?_ (h.2.2.2 17 _ rfl)
    show (Sum.inr (1, [.ref (adC h0 19 0), .ref (adC h0 20 0), .ref (adC h0 21 0), .ref (adC h0 22 0), .ref (adC h0 23 0), .ref (adC h0 24 0), .ref (adC h0 25 0), .ref (adC h0 26 0), .ref (adC h0 27 0), .int (xS0c 3 (nI 0) (nI 9)), .int (xS0c 3 (nI 0) (nI 10)), .int (xS0c 3 (nI 0) (nI 11))]) : va_E) = _
    rw [adC_0 (f := 19) (k := 18) (by decide), adC_0 (f := 20) (k := 19) (by decide), adC_0 (f := 21) (k := 20) (by decide), adC_0 (f := 22) (k := 21) (by decide), adC_0 (f := 23) (k := 30) (by decide), adC_0 (f := 24) (k := 39) (by decide), adC_0 (f := 25) (k := 48) (by decide), adC_0 (f := 26) (k := 57) (by decide), adC_0 (f := 27) (k := 66) (by decide), xS0c_3.2.2.2.1, xS0c_3.2.2.2.2.1, xS0c_3.2.2.2.2.2]
  | 4, hY =>
    cases hY
    have hj1 : j < 1 := hj
    obtain rfl : j = 0 := by omega
    exact xat_eq (adC_k (f := 4) (k := 1) (by decide) (by decide)) rfl (h.2.2.2 1 _ rfl)
  | 5, hY =>
    cases hY
    have hj1 : j < 1 := hj
    obtain rfl : j = 0 := by omega
    exact xat_eq (adC_k (f := 5) (k := 2) (by decide) (by decide)) rfl (h.2.2.2 2 _ rfl)
  | 6, hY =>
    cases hY
    have hj1 : j < 1 := hj
    obtain rfl : j = 0 := by omega
    exact xat_eq (adC_k (f := 6) (k := 3) (by decide) (by decide)) rfl (h.2.2.2 3 _ rfl)
  | 7, hY =>
    cases hY
    have hj1 : j < 1 := hj
    obtain rfl : j = 0 := by omega
    exact xat_eq (adC_k (f := 7) (k := 4) (by decide) (by decide)) rfl (h.2.2.2 4 _ rfl)
  | 8, hY =>
    cases hY
    have hj1 : j < 1 := hj
    obtain rfl : j = 0 := by omega
    exact xat_eq (adC_k (f := 8) (k := 5) (by decide) (by decide)) rfl (h.2.2.2 5 _ rfl)
  | 9, hY =>
    cases hY
    have hj1 : j < 1 := hj
    obtain rfl : j = 0 := by omega
    exact xat_eq (adC_k (f := 9) (k := 6) (by decide) (by decide)) rfl (h.2.2.2 6 _ rfl)
  | 10, hY =>
    cases hY
    have hj1 : j < 1 := hj
    obtain rfl : j = 0 := by omega
    exact xat_eq (adC_k (f := 10) (k := 7) (by decide) (by decide)) rfl (h.2.2.2 7 _ rfl)
  | 11, hY =>
    cases hY
    have hj1 : j < 1 := hj
    obtain rfl : j = 0 := by omega
    exact xat_eq (adC_k (f := 11) (k := 9) (by decide) (by decide)) rfl (h.2.2.2 9 _ rfl)
  | 12, hY =>
    cases hY
    have hj1 : j < 1 := hj
    obtain rfl : j = 0 := by omega
    exact xat_eq (adC_k (f := 12) (k := 10) (by decide) (by decide)) rfl (h.2.2.2 10 _ rfl)
  | 13, hY =>
    cases hY
    have hj1 : j < 1 := hj
    obtain rfl : j = 0 := by omega
    exact xat_eq (adC_k (f := 13) (k := 11) (by decide) (by decide)) rfl (h.2.2.2 11 _ rfl)
  | 14, hY =>
    cases hY
    have hj1 : j < 1 := hj
    obtain rfl : j = 0 := by omega
    exact xat_eq (adC_k (f := 14) (k := 12) (by decide) (by decide)) rfl (h.2.2.2 12 _ rfl)
  | 15, hY =>
    cases hY
    have hj1 : j < 1 := hj
    obtain rfl : j = 0 := by omega
    exact xat_eq (adC_k (f := 15) (k := 13) (by decide) (by decide)) rfl (h.2.2.2 13 _ rfl)
  | 16, hY =>
    cases hY
    have hj1 : j < 1 := hj
    obtain rfl : j = 0 := by omega
    exact xat_eq (adC_k (f := 16) (k := 14) (by decide) (by decide)) rfl (h.2.2.2 14 _ rfl)
  | 17, hY =>
    cases hY
    have hj1 : j < 1 := hj
    obtain rfl : j = 0 := by omega
    exact xat_eq (adC_k (f := 17) (k := 15) (by decide) (by decide)) rfl (h.2.2.2 15 _ rfl)
  | 18, hY =>
    cases hY
    have hj1 : j < 1 := hj
    obtain rfl : j = 0 := by omega
    exact xat_eq (adC_k (f := 18) (k := 16) (by decide) (by decide)) rfl (h.2.2.2 16 _ rfl)
  | 19, hY =>
    cases hY
    have hj1 : j < 1 := hj
    obtain rfl : j = 0 := by omega
    exact xat_eq (adC_k (f := 19) (k := 18) (by decide) (by decide)) rfl (h.2.2.2 18 _ rfl)
  | 20, hY =>
    cases hY
    have hj1 : j < 1 := hj
    obtain rfl : j = 0 := by omega
    exact xat_eq (adC_k (f := 20) (k := 19) (by decide) (by decide)) rfl (h.2.2.2 19 _ rfl)
  | 21, hY =>
    cases hY
    have hj1 : j < 1 := hj
    obtain rfl : j = 0 := by omega
    exact xat_eq (adC_k (f := 21) (k := 20) (by decide) (by decide)) rfl (h.2.2.2 20 _ rfl)
  | 22, hY =>
    cases hY
    have hj1 : j < 1 := hj
    obtain rfl : j = 0 := by omega
    have e := h.2.2.2 21 _ rfl
    show H[adC h0 22 (nI 0)]? = some (arrV cO 8 (fun j => va_rf (some (adC h0 28 (nI j)))))
    rw [adC_k (f := 22) (k := 21) (by decide) (by decide)]
    have e2 : H[h0 + 1 + 21]? = some (arrV cO 8 (fun i => va_rf (some (h0 + 1 + 21 + 1 + i)))) := e
    refine Eq.trans e2 (congrArg some (xarr_cong fun j hj => ?_))
    show va_rf (some (h0 + 1 + 21 + 1 + j)) = va_rf (some (adC h0 28 (nI j)))
    unfold adC
    rw [nI_clamp (by omega), show ofC 28 j = 23 + j from rfl, show h0 + 1 + 21 + 1 + j = h0 + (23 + j) by omega]
  | 23, hY =>
    cases hY
    have hj1 : j < 1 := hj
    obtain rfl : j = 0 := by omega
    have e := h.2.2.2 30 _ rfl
    show H[adC h0 23 (nI 0)]? = some (arrV cO 8 (fun j => va_rf (some (adC h0 29 (nI j)))))
    rw [adC_k (f := 23) (k := 30) (by decide) (by decide)]
    have e2 : H[h0 + 1 + 30]? = some (arrV cO 8 (fun i => va_rf (some (h0 + 1 + 30 + 1 + i)))) := e
    refine Eq.trans e2 (congrArg some (xarr_cong fun j hj => ?_))
    show va_rf (some (h0 + 1 + 30 + 1 + j)) = va_rf (some (adC h0 29 (nI j)))
    unfold adC
    rw [nI_clamp (by omega), show ofC 29 j = 32 + j from rfl, show h0 + 1 + 30 + 1 + j = h0 + (32 + j) by omega]
  | 24, hY =>
    cases hY
    have hj1 : j < 1 := hj
    obtain rfl : j = 0 := by omega
    have e := h.2.2.2 39 _ rfl
    show H[adC h0 24 (nI 0)]? = some (arrV cO 8 (fun j => va_rf (some (adC h0 30 (nI j)))))
    rw [adC_k (f := 24) (k := 39) (by decide) (by decide)]
    have e2 : H[h0 + 1 + 39]? = some (arrV cO 8 (fun i => va_rf (some (h0 + 1 + 39 + 1 + i)))) := e
    refine Eq.trans e2 (congrArg some (xarr_cong fun j hj => ?_))
    show va_rf (some (h0 + 1 + 39 + 1 + j)) = va_rf (some (adC h0 30 (nI j)))
    unfold adC
    rw [nI_clamp (by omega), show ofC 30 j = 41 + j from rfl, show h0 + 1 + 39 + 1 + j = h0 + (41 + j) by omega]
  | 25, hY =>
    cases hY
    have hj1 : j < 1 := hj
    obtain rfl : j = 0 := by omega
    have e := h.2.2.2 48 _ rfl
    show H[adC h0 25 (nI 0)]? = some (arrV cO 8 (fun j => va_rf (some (adC h0 31 (nI j)))))
    rw [adC_k (f := 25) (k := 48) (by decide) (by decide)]
    have e2 : H[h0 + 1 + 48]? = some (arrV cO 8 (fun i => va_rf (some (h0 + 1 + 48 + 1 + i)))) := e
    refine Eq.trans e2 (congrArg some (xarr_cong fun j hj => ?_))
    show va_rf (some (h0 + 1 + 48 + 1 + j)) = va_rf (some (adC h0 31 (nI j)))
    unfold adC
    rw [nI_clamp (by omega), show ofC 31 j = 50 + j from rfl, show h0 + 1 + 48 + 1 + j = h0 + (50 + j) by omega]
  | 26, hY =>
    cases hY
    have hj1 : j < 1 := hj
    obtain rfl : j = 0 := by omega
    have e := h.2.2.2 57 _ rfl
    show H[adC h0 26 (nI 0)]? = some (arrV cO 8 (fun j => va_rf (some (adC h0 32 (nI j)))))
    rw [adC_k (f := 26) (k := 57) (by decide) (by decide)]
    have e2 : H[h0 + 1 + 57]? = some (arrV cO 8 (fun i => va_rf (some (h0 + 1 + 57 + 1 + i)))) := e
    refine Eq.trans e2 (congrArg some (xarr_cong fun j hj => ?_))
    show va_rf (some (h0 + 1 + 57 + 1 + j)) = va_rf (some (adC h0 32 (nI j)))
    unfold adC
    rw [nI_clamp (by omega), show ofC 32 j = 59 + j from rfl, show h0 + 1 + 57 + 1 + j = h0 + (59 + j) by omega]
  | 27, hY =>
    cases hY
    have hj1 : j < 1 := hj
    obtain rfl : j = 0 := by omega
    have e := h.2.2.2 66 _ rfl
    show H[adC h0 27 (nI 0)]? = some (arrV cO 8 (fun j => va_rf (some (adC h0 33 (nI j)))))
    rw [adC_k (f := 27) (k := 66) (by decide) (by decide)]
    have e2 : H[h0 + 1 + 66]? = some (arrV cO 8 (fun i => va_rf (some (h0 + 1 + 66 + 1 + i)))) := e
    refine Eq.trans e2 (congrArg some (xarr_cong fun j hj => ?_))
    show va_rf (some (h0 + 1 + 66 + 1 + j)) = va_rf (some (adC h0 33 (nI j)))
    unfold adC
    rw [nI_clamp (by omega), show ofC 33 j = 68 + j from rfl, show h0 + 1 + 66 + 1 + j = h0 + (68 + j) by omega]
  | 28, hY =>
    cases hY
    match j, hj with
    | 0, _ => exact xat_eq (adC_k (f := 28) (k := 22) (by decide) (by decide)) rfl (h.2.2.2 22 _ rfl)
    | 1, _ => exact xat_eq (adC_k (f := 28) (k := 23) (by decide) (by decide)) rfl (h.2.2.2 23 _ rfl)
    | 2, _ => exact xat_eq (adC_k (f := 28) (k := 24) (by decide) (by decide)) rfl (h.2.2.2 24 _ rfl)
    | 3, _ => exact xat_eq (adC_k (f := 28) (k := 25) (by decide) (by decide)) rfl (h.2.2.2 25 _ rfl)
    | 4, _ => exact xat_eq (adC_k (f := 28) (k := 26) (by decide) (by decide)) rfl (h.2.2.2 26 _ rfl)
    | 5, _ => exact xat_eq (adC_k (f := 28) (k := 27) (by decide) (by decide)) rfl (h.2.2.2 27 _ rfl)
    | 6, _ => exact xat_eq (adC_k (f := 28) (k := 28) (by decide) (by decide)) rfl (h.2.2.2 28 _ rfl)
    | 7, _ => exact xat_eq (adC_k (f := 28) (k := 29) (by decide) (by decide)) rfl (h.2.2.2 29 _ rfl)
    | j + 8, hj => exact absurd hj (by show ¬ (j + 8 < 8); omega)
  | 29, hY =>
    cases hY
    match j, hj with
    | 0, _ => exact xat_eq (adC_k (f := 29) (k := 31) (by decide) (by decide)) rfl (h.2.2.2 31 _ rfl)
    | 1, _ => exact xat_eq (adC_k (f := 29) (k := 32) (by decide) (by decide)) rfl (h.2.2.2 32 _ rfl)
    | 2, _ => exact xat_eq (adC_k (f := 29) (k := 33) (by decide) (by decide)) rfl (h.2.2.2 33 _ rfl)
    | 3, _ => exact xat_eq (adC_k (f := 29) (k := 34) (by decide) (by decide)) rfl (h.2.2.2 34 _ rfl)
    | 4, _ => exact xat_eq (adC_k (f := 29) (k := 35) (by decide) (by decide)) rfl (h.2.2.2 35 _ rfl)
    | 5, _ => exact xat_eq (adC_k (f := 29) (k := 36) (by decide) (by decide)) rfl (h.2.2.2 36 _ rfl)
    | 6, _ => exact xat_eq (adC_k (f := 29) (k := 37) (by decide) (by decide)) rfl (h.2.2.2 37 _ rfl)
    | 7, _ => exact xat_eq (adC_k (f := 29) (k := 38) (by decide) (by decide)) rfl (h.2.2.2 38 _ rfl)
    | j + 8, hj => exact absurd hj (by show ¬ (j + 8 < 8); omega)
  | 30, hY =>
    cases hY
    match j, hj with
    | 0, _ => exact xat_eq (adC_k (f := 30) (k := 40) (by decide) (by decide)) rfl (h.2.2.2 40 _ rfl)
    | 1, _ => exact xat_eq (adC_k (f := 30) (k := 41) (by decide) (by decide)) rfl (h.2.2.2 41 _ rfl)
    | 2, _ => exact xat_eq (adC_k (f := 30) (k := 42) (by decide) (by decide)) rfl (h.2.2.2 42 _ rfl)
    | 3, _ => exact xat_eq (adC_k (f := 30) (k := 43) (by decide) (by decide)) rfl (h.2.2.2 43 _ rfl)
    | 4, _ => exact xat_eq (adC_k (f := 30) (k := 44) (by decide) (by decide)) rfl (h.2.2.2 44 _ rfl)
    | 5, _ => exact xat_eq (adC_k (f := 30) (k := 45) (by decide) (by decide)) rfl (h.2.2.2 45 _ rfl)
    | 6, _ => exact xat_eq (adC_k (f := 30) (k := 46) (by decide) (by decide)) rfl (h.2.2.2 46 _ rfl)
    | 7, _ => exact xat_eq (adC_k (f := 30) (k := 47) (by decide) (by decide)) rfl (h.2.2.2 47 _ rfl)
    | j + 8, hj => exact absurd hj (by show ¬ (j + 8 < 8); omega)
  | 31, hY =>
    cases hY
    match j, hj with
    | 0, _ => exact xat_eq (adC_k (f := 31) (k := 49) (by decide) (by decide)) rfl (h.2.2.2 49 _ rfl)
    | 1, _ => exact xat_eq (adC_k (f := 31) (k := 50) (by decide) (by decide)) rfl (h.2.2.2 50 _ rfl)
    | 2, _ => exact xat_eq (adC_k (f := 31) (k := 51) (by decide) (by decide)) rfl (h.2.2.2 51 _ rfl)
    | 3, _ => exact xat_eq (adC_k (f := 31) (k := 52) (by decide) (by decide)) rfl (h.2.2.2 52 _ rfl)
    | 4, _ => exact xat_eq (adC_k (f := 31) (k := 53) (by decide) (by decide)) rfl (h.2.2.2 53 _ rfl)
    | 5, _ => exact xat_eq (adC_k (f := 31) (k := 54) (by decide) (by decide)) rfl (h.2.2.2 54 _ rfl)
    | 6, _ => exact xat_eq (adC_k (f := 31) (k := 55) (by decide) (by decide)) rfl (h.2.2.2 55 _ rfl)
    | 7, _ => exact xat_eq (adC_k (f := 31) (k := 56) (by decide) (by decide)) rfl (h.2.2.2 56 _ rfl)
    | j + 8, hj => exact absurd hj (by show ¬ (j + 8 < 8); omega)
  | 32, hY =>
    cases hY
    match j, hj with
    | 0, _ => exact xat_eq (adC_k (f := 32) (k := 58) (by decide) (by decide)) rfl (h.2.2.2 58 _ rfl)
    | 1, _ => exact xat_eq (adC_k (f := 32) (k := 59) (by decide) (by decide)) rfl (h.2.2.2 59 _ rfl)
    | 2, _ => exact xat_eq (adC_k (f := 32) (k := 60) (by decide) (by decide)) rfl (h.2.2.2 60 _ rfl)
    | 3, _ => exact xat_eq (adC_k (f := 32) (k := 61) (by decide) (by decide)) rfl (h.2.2.2 61 _ rfl)
    | 4, _ => exact xat_eq (adC_k (f := 32) (k := 62) (by decide) (by decide)) rfl (h.2.2.2 62 _ rfl)
    | 5, _ => exact xat_eq (adC_k (f := 32) (k := 63) (by decide) (by decide)) rfl (h.2.2.2 63 _ rfl)
    | 6, _ => exact xat_eq (adC_k (f := 32) (k := 64) (by decide) (by decide)) rfl (h.2.2.2 64 _ rfl)
    | 7, _ => exact xat_eq (adC_k (f := 32) (k := 65) (by decide) (by decide)) rfl (h.2.2.2 65 _ rfl)
    | j + 8, hj => exact absurd hj (by show ¬ (j + 8 < 8); omega)
  | 33, hY =>
    cases hY
    match j, hj with
    | 0, _ => exact xat_eq (adC_k (f := 33) (k := 67) (by decide) (by decide)) rfl (h.2.2.2 67 _ rfl)
    | 1, _ => exact xat_eq (adC_k (f := 33) (k := 68) (by decide) (by decide)) rfl (h.2.2.2 68 _ rfl)
    | 2, _ => exact xat_eq (adC_k (f := 33) (k := 69) (by decide) (by decide)) rfl (h.2.2.2 69 _ rfl)
    | 3, _ => exact xat_eq (adC_k (f := 33) (k := 70) (by decide) (by decide)) rfl (h.2.2.2 70 _ rfl)
    | 4, _ => exact xat_eq (adC_k (f := 33) (k := 71) (by decide) (by decide)) rfl (h.2.2.2 71 _ rfl)
    | 5, _ => exact xat_eq (adC_k (f := 33) (k := 72) (by decide) (by decide)) rfl (h.2.2.2 72 _ rfl)
    | 6, _ => exact xat_eq (adC_k (f := 33) (k := 73) (by decide) (by decide)) rfl (h.2.2.2 73 _ rfl)
    | 7, _ => exact xat_eq (adC_k (f := 33) (k := 74) (by decide) (by decide)) rfl (h.2.2.2 74 _ rfl)
    | j + 8, hj => exact absurd hj (by show ¬ (j + 8 < 8); omega)
  | 34, hY =>
    cases hY
    have hj1 : j < 1 := hj
    obtain rfl : j = 0 := by omega
    exact xat_eq (adC_k (f := 34) (k := 75) (by decide) (by decide)) rfl (h.2.2.2 75 _ rfl)
  | 35, hY =>
    cases hY
    have hj1 : j < 1 := hj
    obtain rfl : j = 0 := by omega
    exact xat_eq (adC_k (f := 35) (k := 76) (by decide) (by decide)) rfl (h.2.2.2 76 _ rfl)
  | 36, hY =>
    cases hY
    have hj1 : j < 1 := hj
    obtain rfl : j = 0 := by omega
    exact xat_eq (adC_k (f := 36) (k := 77) (by decide) (by decide)) rfl (h.2.2.2 77 _ rfl)
  | 37, hY =>
    cases hY
    have hj1 : j < 1 := hj
    obtain rfl : j = 0 := by omega
    exact xat_eq (adC_k (f := 37) (k := 78) (by decide) (by decide)) rfl (h.2.2.2 78 _ rfl)
  | 38, hY =>
    cases hY
    have hj1 : j < 1 := hj
    obtain rfl : j = 0 := by omega
    exact xat_eq (adC_k (f := 38) (k := 79) (by decide) (by decide)) rfl (h.2.2.2 79 _ rfl)
  | 39, hY =>
    cases hY
    have hj1 : j < 1 := hj
    obtain rfl : j = 0 := by omega
    exact xat_eq (adC_k (f := 39) (k := 80) (by decide) (by decide)) rfl (h.2.2.2 80 _ rfl)
  | n + 40, hY => exact absurd hf (by omega)
