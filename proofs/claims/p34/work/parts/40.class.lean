/-! 40: what the proof of whole has said of the class alone -/
def sum8 (g : Nat → Int) : Int := g 0 + g 1 + g 2 + g 3 + g 4 + g 5 + g 6 + g 7
def vol (S : xS) (j : Nat) : Int := (S 6 0 (nI j)).toInt
def cld (S : xS) (j : Nat) : Int := (S 7 0 (nI j)).toInt
def clk (S : xS) : Int := (S 0 0 (nI 3)).toInt
def Bnd (S : xS) : Prop := ∀ j : Nat, j < 8 → (1 ≤ (S 4 0 (nI j)).toInt ∧ (S 4 0 (nI j)).toInt ≤ 100) ∧ (1 ≤ (S 5 0 (nI j)).toInt ∧ (S 5 0 (nI j)).toInt ≤ 1000) ∧ (1 ≤ (S 11 0 (nI j)).toInt ∧ (S 11 0 (nI j)).toInt ≤ 50) ∧ (0 ≤ (S 12 0 (nI j)).toInt ∧ (S 12 0 (nI j)).toInt ≤ 10)
def Wat (B : Int) (S : xS) : Prop := (∀ j : Nat, j < 8 → 0 ≤ vol S j ∧ 0 ≤ cld S j) ∧ sum8 (vol S) + sum8 (cld S) ≤ B
def Src (S : xS) : Prop := 0 ≤ (S 1 0 (nI 7)).toInt ∧ (S 1 0 (nI 7)).toInt ≤ 1000
def Bal (S : xS) : Prop := ∀ r, vp_in r 8 → S 6 0 r = fX2_balanceOf r S
def Clk (S : xS) : Prop := 0 ≤ clk S ∧ clk S ≤ 5000
theorem xin_j {r : Int32} (h : vp_in r 8) : ∃ j : Nat, j < 8 ∧ r = nI j := vp_in_of h (by decide)
theorem xnj {i j : Nat} (hi : i < 8) (hj : j < 8) : nI i = nI j ↔ i = j := nI_eq (by omega) (by omega)
theorem Bnd_eq {S S' : xS} (h4 : S' 4 = S 4) (h5 : S' 5 = S 5) (h11 : S' 11 = S 11) (h12 : S' 12 = S 12) (h : Bnd S) : Bnd S' := by
  unfold Bnd at *
  rw [h4, h5, h11, h12]
  exact h
theorem xrange {a lo hi : Int32} (h : ¬ a < lo ∧ a ≤ hi) : lo.toInt ≤ a.toInt ∧ a.toInt ≤ hi.toInt := by
  obtain ⟨h1, h2⟩ := h
  rw [Int32.lt_iff_toInt_lt] at h1
  rw [Int32.le_iff_toInt_le] at h2
  omega
theorem xu_row {S : xS} {f : Nat} {r v i : Int32} : xu S f 0 r v f 0 i = if i = r then v else S f 0 i := by
  rw [xu_self]
  simp
theorem xu_id {S : xS} {f : Nat} {r i : Int32} : xu S f r i (S f r i) = S := by
  funext f' r' i'
  unfold xu
  by_cases h : f' = f
  · subst h
    rw [if_pos rfl]
    by_cases h2 : r' = r ∧ i' = i
    · simp only [h2, and_self, if_true]
    · simp only [if_neg h2]
  · rw [if_neg h]
theorem Bnd_4 {S : xS} {r v : Int32} (h : Bnd S) (hr : vp_in r 8) (hv : 1 ≤ v.toInt ∧ v.toInt ≤ 100) : Bnd (xu S 4 0 r v) := by
  intro j hj
  obtain ⟨b4, b5, b11, b12⟩ := h j hj
  refine ⟨?_, ?_, ?_, ?_⟩
  · rw [xu_row]
    split
    · exact hv
    · exact b4
  · rw [xu_ne (by decide)]
    exact b5
  · rw [xu_ne (by decide)]
    exact b11
  · rw [xu_ne (by decide)]
    exact b12
theorem Bnd_5 {S : xS} {r v : Int32} (h : Bnd S) (hr : vp_in r 8) (hv : 1 ≤ v.toInt ∧ v.toInt ≤ 1000) : Bnd (xu S 5 0 r v) := by
  intro j hj
  obtain ⟨b4, b5, b11, b12⟩ := h j hj
  refine ⟨?_, ?_, ?_, ?_⟩
  · rw [xu_ne (by decide)]
    exact b4
  · rw [xu_row]
    split
    · exact hv
    · exact b5
  · rw [xu_ne (by decide)]
    exact b11
  · rw [xu_ne (by decide)]
    exact b12
theorem Bnd_11 {S : xS} {r v : Int32} (h : Bnd S) (hr : vp_in r 8) (hv : 1 ≤ v.toInt ∧ v.toInt ≤ 50) : Bnd (xu S 11 0 r v) := by
  intro j hj
  obtain ⟨b4, b5, b11, b12⟩ := h j hj
  refine ⟨?_, ?_, ?_, ?_⟩
  · rw [xu_ne (by decide)]
    exact b4
  · rw [xu_ne (by decide)]
    exact b5
  · rw [xu_row]
    split
    · exact hv
    · exact b11
  · rw [xu_ne (by decide)]
    exact b12
theorem Bnd_12 {S : xS} {r v : Int32} (h : Bnd S) (hr : vp_in r 8) (hv : 0 ≤ v.toInt ∧ v.toInt ≤ 10) : Bnd (xu S 12 0 r v) := by
  intro j hj
  obtain ⟨b4, b5, b11, b12⟩ := h j hj
  refine ⟨?_, ?_, ?_, ?_⟩
  · rw [xu_ne (by decide)]
    exact b4
  · rw [xu_ne (by decide)]
    exact b5
  · rw [xu_ne (by decide)]
    exact b11
  · rw [xu_row]
    split
    · exact hv
    · exact b12
theorem sum8_upd (g : Nat → Int) (v : Int) {i : Nat} (hi : i < 8) : sum8 (fun j => if j = i then v else g j) = sum8 g - g i + v := by
  unfold sum8
  match i, hi with
  | 0, _ => simp; omega
  | 1, _ => simp; omega
  | 2, _ => simp; omega
  | 3, _ => simp; omega
  | 4, _ => simp; omega
  | 5, _ => simp; omega
  | 6, _ => simp; omega
  | 7, _ => simp
  | j + 8, hj => exact absurd hj (by omega)
theorem sum8_cong {g g' : Nat → Int} (h : ∀ j, j < 8 → g j = g' j) : sum8 g = sum8 g' := by
  unfold sum8
  rw [h 0 (by decide), h 1 (by decide), h 2 (by decide), h 3 (by decide), h 4 (by decide), h 5 (by decide), h 6 (by decide), h 7 (by decide)]
theorem sum8_pos {g : Nat → Int} (h : ∀ j, j < 8 → 0 ≤ g j) : 0 ≤ sum8 g := by
  unfold sum8
  have h0 := h 0 (by decide)
  have h1 := h 1 (by decide)
  have h2 := h 2 (by decide)
  have h3 := h 3 (by decide)
  have h4 := h 4 (by decide)
  have h5 := h 5 (by decide)
  have h6 := h 6 (by decide)
  have h7 := h 7 (by decide)
  omega
theorem sum8_le {g : Nat → Int} (h : ∀ j, j < 8 → 0 ≤ g j) {i : Nat} (hi : i < 8) : g i ≤ sum8 g := by
  have h0 := h 0 (by decide)
  have h1 := h 1 (by decide)
  have h2 := h 2 (by decide)
  have h3 := h 3 (by decide)
  have h4 := h 4 (by decide)
  have h5 := h 5 (by decide)
  have h6 := h 6 (by decide)
  have h7 := h 7 (by decide)
  unfold sum8
  match i, hi with
  | 0, _ => omega
  | 1, _ => omega
  | 2, _ => omega
  | 3, _ => omega
  | 4, _ => omega
  | 5, _ => omega
  | 6, _ => omega
  | 7, _ => omega
  | j + 8, hj => exact absurd hj (by omega)
theorem xfold_cong {σ : Type} {b b' : Int32 → σ → σ} : ∀ (n : Nat) (x : σ), (∀ i, i < n → ∀ x, b (nI i) x = b' (nI i) x) → xfold b n x = xfold b' n x
  | 0, _, _ => rfl
  | n + 1, x, h => by
    show b (nI n) (xfold b n x) = b' (nI n) (xfold b' n x)
    rw [xfold_cong n x (fun i hi => h i (by omega)), h n (by omega)]
theorem in8 {i : Nat} (h : i < 8) : vp_in (nI i) 8 := vp_in_nI h (by decide)
def sm : Nat → (Nat → Int32) → Int32
  | 0, _ => 0
  | n + 1, w => sm n w + w n
theorem sm_cong {w w' : Nat → Int32} : ∀ n, (∀ i, i < n → w i = w' i) → sm n w = sm n w'
  | 0, _ => rfl
  | n + 1, h => by
    show sm n w + w n = sm n w' + w' n
    rw [sm_cong n (fun i hi => h i (by omega)), h n (by omega)]
theorem sm_fold {b : Int32 → Int32 → Int32} {w : Nat → Int32} : ∀ n (x : Int32), (∀ i, i < n → ∀ x, b (nI i) x = x + w i) → xfold b n x = x + sm n w
  | 0, x, _ => by show x = x + 0; rw [Int32.add_zero]
  | n + 1, x, h => by
    show b (nI n) (xfold b n x) = x + (sm n w + w n)
    rw [h n (by omega), sm_fold n x (fun i hi => h i (by omega)), Int32.add_assoc]
theorem sm_plus (u v : Nat → Int32) : ∀ n, sm n (fun j => u j + v j) = sm n u + sm n v
  | 0 => by show (0 : Int32) = 0 + 0; decide
  | n + 1 => by
    show sm n (fun j => u j + v j) + (u n + v n) = (sm n u + u n) + (sm n v + v n)
    rw [sm_plus u v n]
    ac_rfl
theorem sm_zero : ∀ n, sm n (fun _ => 0) = 0
  | 0 => rfl
  | n + 1 => by
    show sm n (fun _ => 0) + 0 = 0
    rw [sm_zero n]
    decide
theorem sm_fub (h : Nat → Nat → Int32) (b : Nat) : ∀ a, sm a (fun i => sm b (fun j => h i j)) = sm b (fun j => sm a (fun i => h i j))
  | 0 => by
    show (0 : Int32) = sm b (fun _ => 0)
    rw [sm_zero]
  | a + 1 => by
    show sm a (fun i => sm b (fun j => h i j)) + sm b (fun j => h a j) = sm b (fun j => sm a (fun i => h i j) + h a j)
    rw [sm_plus, sm_fub h b a]
theorem called_in {S : xS} {m t : Int32} (hm : vp_in m 8) (h0 : (0 : Int32) ≤ fX1_calledBy m t S) : vp_in (fX1_calledBy m t S) 8 ∧ fX1_calledBy m t S ≠ m := by
  have key : ∀ n i x, i + n = 8 → xrun (bX1_calledBy_68 m t S) (fun (x : Int32) => (-1 : Int32)) n i x = -1 ∨ (vp_in (xrun (bX1_calledBy_68 m t S) (fun (x : Int32) => (-1 : Int32)) n i x) 8 ∧ xrun (bX1_calledBy_68 m t S) (fun (x : Int32) => (-1 : Int32)) n i x ≠ m) := by
    intro n
    induction n with
    | zero => exact fun i x _ => Or.inl rfl
    | succ n ih =>
      intro i x hi
      unfold xrun
      unfold bX1_calledBy_68
      by_cases z : fX1_isCallable m (nI i) (jX1_calledBy_3 m t) S = 0
      · rw [if_pos z]
        exact ih (i + 1) x (by omega)
      · rw [if_neg z]
        by_cases y : x = 0
        · rw [if_pos y]
          refine Or.inr ⟨in8 (by omega), fun q => z ?_⟩
          unfold fX1_isCallable
          exact if_pos q
        · rw [if_neg y]
          exact ih (i + 1) _ (by omega)
  unfold fX1_calledBy at *
  by_cases q : (1 : Int32) ≤ (xfold (bX1_calledBy_18 m t S) 8 (0 : Int32))
  · rw [if_pos q] at h0 ⊢
    rcases key 8 0 _ rfl with e | e
    · rw [e] at h0
      exact absurd h0 (by decide)
    · exact e
  · rw [if_neg q] at h0
    exact absurd h0 (by decide)
theorem called_no {S : xS} {m t : Int32} (hm : vp_in m 8) (h0 : ¬ (0 : Int32) ≤ fX1_calledBy m t S) : fX1_calledBy m t S = -1 := by
  have key : ∀ n i x, i + n = 8 → xrun (bX1_calledBy_68 m t S) (fun (x : Int32) => (-1 : Int32)) n i x = -1 ∨ (0 : Int32) ≤ xrun (bX1_calledBy_68 m t S) (fun (x : Int32) => (-1 : Int32)) n i x := by
    intro n
    induction n with
    | zero => exact fun i x _ => Or.inl rfl
    | succ n ih =>
      intro i x hi
      unfold xrun
      unfold bX1_calledBy_68
      by_cases z : fX1_isCallable m (nI i) (jX1_calledBy_3 m t) S = 0
      · rw [if_pos z]
        exact ih (i + 1) x (by omega)
      · rw [if_neg z]
        by_cases y : x = 0
        · rw [if_pos y]
          refine Or.inr ?_
          show (0 : Int32) ≤ nI i
          rw [Int32.le_iff_toInt_le, xt0, nI_toInt (by omega)]
          omega
        · rw [if_neg y]
          exact ih (i + 1) _ (by omega)
  unfold fX1_calledBy at *
  by_cases q : (1 : Int32) ≤ (xfold (bX1_calledBy_18 m t S) 8 (0 : Int32))
  · rw [if_pos q] at h0 ⊢
    rcases key 8 0 _ rfl with e | e
    · exact e
    · exact absurd e h0
  · rw [if_neg q]
theorem xu_comm {S : xS} {f f' : Nat} {r i v r' i' v' : Int32} (h : f ≠ f') : xu (xu S f r i v) f' r' i' v' = xu (xu S f' r' i' v') f r i v := by
  funext g s k
  unfold xu
  by_cases h1 : g = f'
  · subst h1
    rw [if_pos rfl, if_neg (Ne.symm h), if_neg (Ne.symm h), if_pos rfl]
  · rw [if_neg h1]
    by_cases h2 : g = f
    · subst h2
      rw [if_pos rfl, if_pos rfl, if_neg h]
    · rw [if_neg h2, if_neg h2, if_neg h1]
theorem takeIn_keep {S : xS} {f : Nat} (h6 : f ≠ 6) (h7 : f ≠ 7) (h8 : f ≠ 8) : fX2_takeIn S f = S f := by
  unfold fX2_takeIn
  refine xfold_T (fun (x : xS) => x f = S f) _ 8 _ (fun i hi x hx => ?_) ?_
  · unfold bX2_takeIn_11 fX2_receive
    rw [xu_nf h7, xu_nf h8, xu_nf h6]
    exact hx
  · unfold fX2_receive
    rw [xu_nf h8, xu_nf h6]
def inn (S : xS) (j : Nat) : Int32 := if j = 0 then 0 else S 9 0 (nI (j - 1)) + S 10 0 (nI (j - 1))
def Bl (S : xS) : Prop := ∀ j, j < 8 → S 6 0 (nI j) + S 9 0 (nI j) + S 10 0 (nI j) = S 8 0 (nI j) + inn S j
theorem i32_out (a b c : Int32) : a - b - c + b + c = a := by
  rw [Int32.add_assoc, Int32.add_comm b c, ← Int32.add_assoc, Int32.sub_add_cancel, Int32.sub_add_cancel]
theorem i32_in (a b c : Int32) : a + b + c - b - c = a := by
  rw [Int32.add_assoc, Int32.add_comm b c, ← Int32.add_assoc, Int32.add_sub_cancel, Int32.add_sub_cancel]
theorem i32_mv (a b t : Int32) : (a - t) + (b + t) = a + b := by
  rw [Int32.add_comm b t, ← Int32.add_assoc, Int32.sub_add_cancel]
theorem nI_pr8 {j : Nat} (h : 0 < j) (hj : j < 8) : nI j - (1 : Int32) = nI (j - 1) := by
  apply Int32.toInt_inj.mp
  rw [xtsub (by rw [nI_toInt (by omega), xt1]; omega) (by rw [nI_toInt (by omega), xt1]; omega), nI_toInt (by omega), nI_toInt (by omega), xt1]
  omega
theorem bal_nI {S : xS} {j : Nat} (hj : j < 8) : fX2_balanceOf (nI j) S = S 8 0 (nI j) + inn S j - S 9 0 (nI j) - S 10 0 (nI j) := by
  unfold fX2_balanceOf inn
  have e : (nI j ≤ (0 : Int32)) ↔ j = 0 := by
    rw [Int32.le_iff_toInt_le, nI_toInt (by omega), xt0]
    omega
  by_cases h : j = 0
  · rw [if_pos (e.mpr h), if_pos h, Int32.add_zero]
  · rw [if_neg (fun z => h (e.mp z)), if_neg h, nI_pr8 (by omega) hj]
theorem Bl_of {S : xS} (h : Bal S) : Bl S := fun j hj => by
  rw [h (nI j) (in8 hj), bal_nI hj]
  exact i32_out _ _ _
theorem Bal_of {S : xS} (h : Bl S) : Bal S := fun r hr => by
  obtain ⟨j, hj, rfl⟩ := xin_j hr
  rw [bal_nI hj, ← h j hj]
  exact (i32_in _ _ _).symm
theorem xrow_nI {S : xS} {f : Nat} {v : Int32} {i j : Nat} (hi : i < 8) (hj : j < 8) : xu S f 0 (nI i) v f 0 (nI j) = if j = i then v else S f 0 (nI j) := by
  rw [xu_row]
  by_cases h : j = i
  · rw [if_pos (by rw [h]), if_pos h]
  · rw [if_neg (fun z => h ((xnj hj hi).mp z)), if_neg h]
def KW (B : Int) (S : xS) : Prop := Wat B S ∧ Bl S
theorem KW_receive {B : Int} {S : xS} {i : Nat} {a : Int32} (hB : B + 2000 < 2147483648) (hi : i < 8) (ha : 0 ≤ a.toInt) (haB : a.toInt ≤ 2000) (h : KW B S) : KW (B + a.toInt) (fX2_receive (nI i) a S) := by
  obtain ⟨⟨h1, h2⟩, h3⟩ := h
  have b1 := sum8_le (fun j hj => (h1 j hj).1) hi
  have b2 := sum8_pos (fun j hj => (h1 j hj).2)
  have b3 := (h1 i hi).1
  have hv : vol S i = (S 6 0 (nI i)).toInt := rfl
  have ea : (S 6 0 (nI i) + a).toInt = vol S i + a.toInt := by rw [xtadd (by omega) (by omega), hv]
  have ev : ∀ j, j < 8 → vol (fX2_receive (nI i) a S) j = if j = i then vol S i + a.toInt else vol S j := fun j hj => by
    show (fX2_receive (nI i) a S 6 0 (nI j)).toInt = _
    unfold fX2_receive
    rw [xu_ne (by decide), xrow_nI hi hj]
    split
    · exact ea
    · rfl
  have ec : cld (fX2_receive (nI i) a S) = cld S := by
    unfold cld fX2_receive
    rw [xu_nf (by decide), xu_nf (by decide)]
  refine ⟨⟨fun j hj => ⟨?_, by rw [ec]; exact (h1 j hj).2⟩, ?_⟩, fun j hj => ?_⟩
  · rw [ev j hj]
    split
    · omega
    · exact (h1 j hj).1
  · rw [sum8_cong ev, sum8_upd _ _ hi, ec]
    omega
  · have e0 : inn (fX2_receive (nI i) a S) j = inn S j := by
      unfold inn fX2_receive
      rw [xu_nf (by decide), xu_nf (by decide), xu_nf (by decide), xu_nf (by decide)]
    rw [e0]
    unfold fX2_receive
    rw [xu_ne (f' := 6) (by decide), xrow_nI hi hj, xu_ne (f' := 9) (by decide), xu_ne (f' := 9) (by decide), xu_ne (f' := 10) (by decide), xu_ne (f' := 10) (by decide), xrow_nI hi hj]
    have q := h3 j hj
    by_cases z : j = i
    · subst z
      rw [if_pos rfl, if_pos rfl, show S 8 0 (nI j) + a + inn S j = (S 8 0 (nI j) + inn S j) + a by ac_rfl, ← q]
      ac_rfl
    · rw [if_neg z, if_neg z]
      exact q
theorem KW_cloud {B : Int} {S : xS} {i : Nat} (hB : B + 2000 < 2147483648) (hi : i < 8) (h : KW B S) : KW B (bX2_takeIn_11 (nI i) S) := by
  obtain ⟨⟨h1, h2⟩, h3⟩ := h
  have b1 := sum8_le (fun j hj => (h1 j hj).1) hi
  have b2 := sum8_le (fun j hj => (h1 j hj).2) hi
  have b3 := (h1 i hi).1
  have b4 := (h1 i hi).2
  have hv : vol S i = (S 6 0 (nI i)).toInt := rfl
  have hc : cld S i = (S 7 0 (nI i)).toInt := rfl
  have ea : (S 6 0 (nI i) + S 7 0 (nI i)).toInt = vol S i + cld S i := by rw [xtadd (by omega) (by omega), hv, hc]
  have ev : ∀ j, j < 8 → vol (bX2_takeIn_11 (nI i) S) j = if j = i then vol S i + cld S i else vol S j := fun j hj => by
    show (bX2_takeIn_11 (nI i) S 6 0 (nI j)).toInt = _
    unfold bX2_takeIn_11 fX2_receive
    rw [xu_ne (by decide), xu_ne (by decide), xrow_nI hi hj]
    split
    · exact ea
    · rfl
  have ec : ∀ j, j < 8 → cld (bX2_takeIn_11 (nI i) S) j = if j = i then 0 else cld S j := fun j hj => by
    show (bX2_takeIn_11 (nI i) S 7 0 (nI j)).toInt = _
    unfold bX2_takeIn_11
    rw [xrow_nI hi hj]
    split
    · rfl
    · unfold fX2_receive
      rw [xu_ne (by decide), xu_ne (by decide)]
      rfl
  refine ⟨⟨fun j hj => ⟨?_, ?_⟩, ?_⟩, fun j hj => ?_⟩
  · rw [ev j hj]
    split
    · omega
    · exact (h1 j hj).1
  · rw [ec j hj]
    split
    · omega
    · exact (h1 j hj).2
  · rw [sum8_cong ev, sum8_cong ec, sum8_upd _ _ hi, sum8_upd _ _ hi]
    omega
  · have e0 : inn (bX2_takeIn_11 (nI i) S) j = inn S j := by
      unfold inn bX2_takeIn_11 fX2_receive
      (repeat rw [xu_nf (by decide)])
    rw [e0]
    unfold bX2_takeIn_11 fX2_receive
    rw [xu_ne (f' := 6) (by decide), xu_ne (f' := 6) (by decide), xrow_nI hi hj, xu_ne (f' := 9) (by decide), xu_ne (f' := 9) (by decide), xu_ne (f' := 9) (by decide), xu_ne (f' := 10) (by decide), xu_ne (f' := 10) (by decide), xu_ne (f' := 10) (by decide), xu_ne (f' := 8) (by decide), xrow_nI hi hj]
    have q := h3 j hj
    by_cases z : j = i
    · subst z
      rw [if_pos rfl, if_pos rfl, show S 8 0 (nI j) + S 7 0 (nI j) + inn S j = (S 8 0 (nI j) + inn S j) + S 7 0 (nI j) by ac_rfl, ← q]
      ac_rfl
    · rw [if_neg z, if_neg z]
      exact q
theorem KW_takeIn {B : Int} {S : xS} (hB : B + 4000 < 2147483648) (h : KW B S) (hs : Src S) : KW (B + 1000) (fX2_takeIn S) := by
  unfold fX2_takeIn
  unfold Src at hs
  refine xfold_T (KW (B + 1000)) _ 8 _ (fun i hi x hx => KW_cloud (by omega) hi hx) ?_
  have k := KW_receive (i := 0) (a := S 1 0 (nI 7)) (by omega) (by decide) hs.1 (by omega) h
  rw [nI_0] at k
  exact ⟨⟨k.1.1, by have := k.1.2; omega⟩, k.2⟩
theorem xfoldD_I {σ : Type} (P : Nat → σ → Prop) {b : Int32 → σ → σ} : ∀ (n : Nat) (x : σ), P n x → (∀ i, i < n → ∀ x, P (i + 1) x → P i (b (nI i) x)) → P 0 (xfoldD b n x)
  | 0, _, h, _ => h
  | n + 1, x, h, hs => xfoldD_I P n _ (hs n (by omega) x h) (fun i hi => hs i (by omega))
def thr (S : xS) (j : Nat) : Int32 := if S 6 0 (nI j) < S 12 0 (nI j) * S 11 0 (nI j) then S 6 0 (nI j) else S 12 0 (nI j) * S 11 0 (nI j)
def LT (S : xS) (n : Nat) (x : xS) : Prop := (∀ f, f ≠ 6 → f ≠ 9 → x f = S f) ∧ (∀ j, j < 8 → x 9 0 (nI j) = if n ≤ j then S 9 0 (nI j) + thr S j else S 9 0 (nI j)) ∧ (∀ j, j < 8 → x 6 0 (nI j) = if j < n then S 6 0 (nI j) else if j = n then S 6 0 (nI j) - thr S j else S 6 0 (nI j) - thr S j + thr S (j - 1))
theorem last8 {n : Nat} (hn : n < 8) : ((8 : Int32) ≤ nI n + (1 : Int32)) ↔ n = 7 := by
  rw [nI_1, Int32.le_iff_toInt_le, nI_toInt (by omega), xt8]
  omega
theorem LT_step {S x : xS} {n : Nat} (hn : n < 8) (h : LT S (n + 1) x) : LT S n (bX2_letThrough_3 (nI n) x) := by
  obtain ⟨h1, h2, h3⟩ := h
  have e6 : x 6 0 (nI n) = S 6 0 (nI n) := by rw [h3 n hn, if_pos (by omega)]
  have et : (if (x 6 0 (nI n)) < (fX0_mostThrough (nI n) x) then (x 6 0 (nI n)) else (fX0_mostThrough (nI n) x)) = thr S n := by
    unfold fX0_mostThrough thr
    rw [h1 12 (by decide) (by decide), h1 11 (by decide) (by decide), e6]
  unfold bX2_letThrough_3
  rw [et]
  unfold fX2_moveOn
  have hl := last8 hn
  by_cases z : n = 7
  · rw [if_pos (hl.mpr z)]
    refine ⟨fun f f6 f9 => ?_, fun j hj => ?_, fun j hj => ?_⟩
    · rw [xu_nf f6, xu_nf f9]
      exact h1 f f6 f9
    · rw [xu_ne (by decide), xrow_nI hn hj, h2 n hn, h2 j hj]
      by_cases q : j = n
      · subst q
        rw [if_pos rfl, if_neg (by omega), if_pos (Nat.le_refl _)]
      · rw [if_neg q]
        by_cases q2 : n + 1 ≤ j
        · omega
        · rw [if_neg q2, if_neg (by omega)]
    · rw [xrow_nI hn hj, xu_ne (by decide), xu_ne (by decide), h3 j hj, e6]
      by_cases q : j = n
      · subst q
        rw [if_pos rfl, if_neg (by omega), if_pos rfl]
      · rw [if_neg q, if_pos (by omega), if_pos (by omega)]
  · rw [if_neg (fun q => z (hl.mp q)), nI_1]
    have hn1 : n + 1 < 8 := by omega
    refine ⟨fun f f6 f9 => ?_, fun j hj => ?_, fun j hj => ?_⟩
    · rw [xu_nf f6, xu_nf f6, xu_nf f9]
      exact h1 f f6 f9
    · rw [xu_ne (by decide), xu_ne (by decide), xrow_nI hn hj, h2 n hn, h2 j hj]
      by_cases q : j = n
      · subst q
        rw [if_pos rfl, if_neg (by omega), if_pos (Nat.le_refl _)]
      · rw [if_neg q]
        by_cases q2 : n + 1 ≤ j
        · rw [if_pos q2, if_pos (by omega)]
        · rw [if_neg q2, if_neg (by omega)]
    · rw [xrow_nI hn1 hj, xrow_nI hn hn1, if_neg (show ¬ n + 1 = n by omega), xrow_nI hn hj, xu_ne (by decide), xu_ne (by decide), xu_ne (by decide), h3 j hj, h3 (n + 1) hn1, e6, if_neg (Nat.lt_irrefl _), if_pos rfl]
      by_cases q : j = n + 1
      · subst q
        rw [if_pos rfl, if_neg (by omega), if_neg (by omega), show n + 1 - 1 = n by omega]
      · rw [if_neg q]
        by_cases q2 : j = n
        · subst q2
          rw [if_pos rfl, if_neg (by omega), if_pos rfl]
        · rw [if_neg q2]
          by_cases q3 : j < n
          · rw [if_pos (by omega), if_pos q3]
          · rw [if_neg (by omega), if_neg q, if_neg q3, if_neg q2]
theorem LT_all (S : xS) : LT S 0 (fX2_letThrough S) := by
  unfold fX2_letThrough
  refine xfoldD_I (LT S) 8 S ⟨fun _ _ _ => rfl, fun j hj => by rw [if_neg (by omega)], fun j hj => by rw [if_pos hj]⟩ (fun i hi x hx => LT_step hi hx)
theorem xmulb {a b : Int32} {A B : Int} (h1 : 0 ≤ a.toInt) (h2 : a.toInt ≤ A) (h3 : 0 ≤ b.toInt) (h4 : b.toInt ≤ B) (hAB : A * B < 2147483648) : (a * b).toInt = a.toInt * b.toInt ∧ 0 ≤ a.toInt * b.toInt ∧ a.toInt * b.toInt ≤ A * B := by
  have p1 : 0 ≤ a.toInt * b.toInt := Int.mul_nonneg h1 h3
  have p2 : a.toInt * b.toInt ≤ A * B := Int.mul_le_mul h2 h4 h3 (by omega)
  exact ⟨xtmul (by omega) (by omega), p1, p2⟩
theorem thr_b {S : xS} {j : Nat} (hB : Bnd S) (hj : j < 8) (h0 : 0 ≤ vol S j) : 0 ≤ (thr S j).toInt ∧ (thr S j).toInt ≤ vol S j := by
  obtain ⟨-, -, b11, b12⟩ := hB j hj
  obtain ⟨m1, m2, m3⟩ := xmulb b12.1 b12.2 (by omega) b11.2 (by decide)
  have hv : vol S j = (S 6 0 (nI j)).toInt := rfl
  unfold thr
  split
  · exact ⟨h0, Int.le_refl _⟩
  · next z =>
    rw [Int32.lt_iff_toInt_lt] at z
    omega
theorem KW_flow {B : Int} {S : xS} (hB : B + 2000 < 2147483648) (hb : Bnd S) (h : KW B S) : KW B (fX2_letThrough S) := by
  obtain ⟨⟨h1, h2⟩, h3⟩ := h
  obtain ⟨a1, a2, a3⟩ := LT_all S
  have ec : cld (fX2_letThrough S) = cld S := by
    unfold cld
    rw [a1 7 (by decide) (by decide)]
  have p0 := sum8_pos (fun j hj => (h1 j hj).2)
  have T : ∀ j, j < 8 → 0 ≤ (thr S j).toInt ∧ (thr S j).toInt ≤ vol S j := fun j hj => thr_b hb hj (h1 j hj).1
  have L : ∀ j, j < 8 → vol S j ≤ B := fun j hj => by
    have := sum8_le (fun j hj => (h1 j hj).1) hj
    omega
  have P : ∀ i j, i < 8 → j < 8 → i ≠ j → vol S i + vol S j ≤ B := fun i j hi hj hij => by
    have q := sum8_upd (vol S) 0 hi
    have q2 := sum8_le (g := fun k => if k = i then 0 else vol S k) (fun k hk => by
      show 0 ≤ if k = i then 0 else vol S k
      split
      · omega
      · exact (h1 k hk).1) hj
    rw [q] at q2
    have q3 : (if j = i then (0 : Int) else vol S j) = vol S j := if_neg (Ne.symm hij)
    have q4 : (if j = i then (0 : Int) else vol S j) ≤ sum8 (vol S) - vol S i + 0 := q2
    omega
  have ev : ∀ j, j < 8 → vol (fX2_letThrough S) j = vol S j - (thr S j).toInt + (if j = 0 then 0 else (thr S (j - 1)).toInt) := fun j hj => by
    have t1 := T j hj
    have hv : vol S j = (S 6 0 (nI j)).toInt := rfl
    have l1 := L j hj
    show (fX2_letThrough S 6 0 (nI j)).toInt = _
    rw [a3 j hj, if_neg (Nat.not_lt_zero _)]
    have e1 : (S 6 0 (nI j) - thr S j).toInt = vol S j - (thr S j).toInt := by rw [xtsub (by omega) (by omega), hv]
    by_cases z : j = 0
    · rw [if_pos z, if_pos z, e1]
      omega
    · have t2 := T (j - 1) (by omega)
      have l2 := P j (j - 1) hj (by omega) (by omega)
      rw [if_neg z, if_neg z, xtadd (by omega) (by omega), e1]
  refine ⟨⟨fun j hj => ⟨?_, by rw [ec]; exact (h1 j hj).2⟩, ?_⟩, fun j hj => ?_⟩
  · rw [ev j hj]
    have t1 := T j hj
    split
    · omega
    · have t2 := T (j - 1) (by omega)
      omega
  · rw [ec, sum8_cong ev]
    have t7 := T 7 (by decide)
    unfold sum8 at *
    simp
    omega
  · have q := h3 j hj
    have e0 : inn (fX2_letThrough S) j = inn S j + (if j = 0 then 0 else thr S (j - 1)) := by
      unfold inn
      by_cases z : j = 0
      · rw [if_pos z, if_pos z, if_pos z, Int32.add_zero]
      · rw [if_neg z, if_neg z, if_neg z, a2 (j - 1) (by omega), if_pos (Nat.zero_le _), a1 10 (by decide) (by decide)]
        ac_rfl
    rw [e0, a2 j hj, if_pos (Nat.zero_le _), a1 10 (by decide) (by decide), a1 8 (by decide) (by decide), a3 j hj, if_neg (Nat.not_lt_zero _), ← Int32.add_assoc (S 8 0 (nI j)), ← q]
    by_cases z : j = 0
    · rw [if_pos z, if_pos z, i32_mv, Int32.add_zero]
    · rw [if_neg z, if_neg z, show S 6 0 (nI j) - thr S j + thr S (j - 1) + (S 9 0 (nI j) + thr S j) + S 10 0 (nI j) = (S 6 0 (nI j) - thr S j + (S 9 0 (nI j) + thr S j)) + S 10 0 (nI j) + thr S (j - 1) by ac_rfl, i32_mv]
def ov (x : xS) (i : Int32) : Int32 := if ((x 6 0 i) - ((x 4 0 i) * (x 5 0 i))) < (0 : Int32) then (0 : Int32) else ((x 6 0 i) - ((x 4 0 i) * (x 5 0 i)))
theorem ov_facts {x : xS} {i : Nat} (hi : i < 8) (hb : Bnd x) (h0 : 0 ≤ vol x i) : (0 ≤ (ov x (nI i)).toInt ∧ (ov x (nI i)).toInt ≤ vol x i) ∧ ov x (nI i) = if x 6 0 (nI i) ≤ x 4 0 (nI i) * x 5 0 (nI i) then 0 else x 6 0 (nI i) - x 4 0 (nI i) * x 5 0 (nI i) := by
  obtain ⟨b4, b5, -, -⟩ := hb i hi
  obtain ⟨m1, m2, m3⟩ := xmulb (by omega) b4.2 (by omega) b5.2 (by decide)
  have hv : vol x i = (x 6 0 (nI i)).toInt := rfl
  have hup : (x 6 0 (nI i)).toInt < 2147483648 := Int32.toInt_lt _
  generalize hw : x 4 0 (nI i) * x 5 0 (nI i) = w at *
  have e : (x 6 0 (nI i) - w).toInt = vol x i - w.toInt := by
    rw [xtsub (by omega) (by omega), hv]
  unfold ov
  rw [hw]
  by_cases a : x 6 0 (nI i) - w < 0
  · rw [if_pos a]
    rw [Int32.lt_iff_toInt_lt, e, xt0] at a
    refine ⟨⟨by decide, by rw [xt0]; exact h0⟩, ?_⟩
    rw [if_pos]
    rw [Int32.le_iff_toInt_le]
    omega
  · rw [if_neg a]
    rw [Int32.lt_iff_toInt_lt, e, xt0] at a
    refine ⟨by omega, ?_⟩
    by_cases b : x 6 0 (nI i) ≤ w
    · rw [if_pos b]
      rw [Int32.le_iff_toInt_le] at b
      apply Int32.toInt_inj.mp
      rw [e, xt0]
      omega
    · rw [if_neg b]
theorem mv_eq {x : xS} {i : Nat} (hi : i < 8) (E : Int32) : fX2_moveOn (nI i) E (xu x 10 0 (nI i) (x 10 0 (nI i) + E)) = if i = 7 then xu (xu x 6 0 (nI i) (x 6 0 (nI i) - E)) 10 0 (nI i) (x 10 0 (nI i) + E) else xu (xu (xu x 6 0 (nI i) (x 6 0 (nI i) - E)) 10 0 (nI i) (x 10 0 (nI i) + E)) 6 0 (nI (i + 1)) (x 6 0 (nI (i + 1)) + E) := by
  unfold fX2_moveOn
  have hl := last8 hi
  by_cases z : i = 7
  · rw [if_pos (hl.mpr z), if_pos z, xu_ne (f' := 6) (by decide), xu_comm (by decide)]
  · rw [if_neg (fun q => z (hl.mp q)), if_neg z, nI_1, xu_ne (f' := 6) (f := 10) (by decide), xrow_nI hi (show i + 1 < 8 by omega), if_neg (show ¬ i + 1 = i by omega), xu_ne (f' := 6) (f := 10) (by decide), xu_comm (f := 10) (f' := 6) (by decide)]
theorem KW_spill {B : Int} {x : xS} {i : Nat} {E : Int32} (hB : B + 2000 < 2147483648) (hi : i < 8) (h : KW B x) (h0 : 0 ≤ E.toInt) (hE : E.toInt ≤ vol x i) : KW B (fX2_moveOn (nI i) E (xu x 10 0 (nI i) (x 10 0 (nI i) + E))) := by
  obtain ⟨⟨h1, h2⟩, h3⟩ := h
  have p0 := sum8_pos (fun j hj => (h1 j hj).2)
  have hv : ∀ j, vol x j = (x 6 0 (nI j)).toInt := fun _ => rfl
  have li := sum8_le (fun j hj => (h1 j hj).1) hi
  have e1 : (x 6 0 (nI i) - E).toInt = vol x i - E.toInt := by
    have := hv i
    rw [xtsub (by omega) (by omega), hv]
  rw [mv_eq hi]
  by_cases z : i = 7
  · rw [if_pos z]
    have ev : ∀ j, j < 8 → vol (xu (xu x 6 0 (nI i) (x 6 0 (nI i) - E)) 10 0 (nI i) (x 10 0 (nI i) + E)) j = if j = i then vol x i - E.toInt else vol x j := fun j hj => by
      show (xu (xu x 6 0 (nI i) (x 6 0 (nI i) - E)) 10 0 (nI i) (x 10 0 (nI i) + E) 6 0 (nI j)).toInt = _
      rw [xu_ne (by decide), xrow_nI hi hj]
      split
      · exact e1
      · rfl
    refine ⟨⟨fun j hj => ⟨?_, ?_⟩, ?_⟩, fun j hj => ?_⟩
    · rw [ev j hj]
      split
      · omega
      · exact (h1 j hj).1
    · unfold cld
      rw [xu_ne (by decide), xu_ne (by decide)]
      exact (h1 j hj).2
    · have ec : cld (xu (xu x 6 0 (nI i) (x 6 0 (nI i) - E)) 10 0 (nI i) (x 10 0 (nI i) + E)) = cld x := by
        unfold cld
        rw [xu_nf (by decide), xu_nf (by decide)]
      rw [sum8_cong ev, sum8_upd _ _ hi, ec]
      omega
    · have q := h3 j hj
      have e0 : inn (xu (xu x 6 0 (nI i) (x 6 0 (nI i) - E)) 10 0 (nI i) (x 10 0 (nI i) + E)) j = inn x j := by
        unfold inn
        by_cases w : j = 0
        · rw [if_pos w, if_pos w]
        · rw [if_neg w, if_neg w, xu_ne (f' := 9) (by decide), xu_ne (f' := 9) (by decide), xrow_nI hi (show j - 1 < 8 by omega), if_neg (show ¬ j - 1 = i by omega), xu_ne (by decide)]
      rw [e0, xu_ne (f' := 6) (by decide), xrow_nI hi hj, xu_ne (f' := 9) (by decide), xu_ne (f' := 9) (by decide), xrow_nI hi hj, xu_ne (f' := 8) (by decide), xu_ne (f' := 8) (by decide), ← q]
      by_cases w : j = i
      · rw [if_pos w, if_pos w, w, show x 6 0 (nI i) - E + x 9 0 (nI i) + (x 10 0 (nI i) + E) = ((x 6 0 (nI i) - E) + (x 10 0 (nI i) + E)) + x 9 0 (nI i) by ac_rfl, i32_mv]
        ac_rfl
      · rw [if_neg w, if_neg w, xu_ne (by decide)]
  · have hi1 : i + 1 < 8 := by omega
    have l2 : vol x i + vol x (i + 1) ≤ B := by
      have q := sum8_upd (vol x) 0 hi
      have q2 := sum8_le (g := fun k => if k = i then 0 else vol x k) (fun k hk => by
        show 0 ≤ if k = i then 0 else vol x k
        split
        · omega
        · exact (h1 k hk).1) hi1
      rw [q] at q2
      have q3 : (if i + 1 = i then (0 : Int) else vol x (i + 1)) = vol x (i + 1) := if_neg (by omega)
      have q4 : (if i + 1 = i then (0 : Int) else vol x (i + 1)) ≤ sum8 (vol x) - vol x i + 0 := q2
      omega
    have b1 := (h1 (i + 1) hi1).1
    have e2 : (x 6 0 (nI (i + 1)) + E).toInt = vol x (i + 1) + E.toInt := by
      have := hv (i + 1)
      rw [xtadd (by omega) (by omega), hv]
    rw [if_neg z]
    generalize hX : xu (xu (xu x 6 0 (nI i) (x 6 0 (nI i) - E)) 10 0 (nI i) (x 10 0 (nI i) + E)) 6 0 (nI (i + 1)) (x 6 0 (nI (i + 1)) + E) = X
    have x6 : ∀ j, j < 8 → X 6 0 (nI j) = if j = i + 1 then x 6 0 (nI (i + 1)) + E else if j = i then x 6 0 (nI i) - E else x 6 0 (nI j) := fun j hj => by
      rw [← hX, xrow_nI hi1 hj, xu_ne (by decide), xrow_nI hi hj]
    have x10 : ∀ j, j < 8 → X 10 0 (nI j) = if j = i then x 10 0 (nI i) + E else x 10 0 (nI j) := fun j hj => by
      rw [← hX, xu_ne (by decide), xrow_nI hi hj, xu_ne (by decide)]
    have xf : ∀ f, f ≠ 6 → f ≠ 10 → X f = x f := fun f f6 f10 => by
      rw [← hX, xu_nf f6, xu_nf f10, xu_nf f6]
    have ev : ∀ j, j < 8 → vol X j = (fun j => if j = i + 1 then vol x (i + 1) + E.toInt else (fun j => if j = i then vol x i - E.toInt else vol x j) j) j := fun j hj => by
      show (X 6 0 (nI j)).toInt = if j = i + 1 then vol x (i + 1) + E.toInt else if j = i then vol x i - E.toInt else vol x j
      rw [x6 j hj]
      split
      · exact e2
      · split
        · exact e1
        · rfl
    have ec : cld X = cld x := by
      unfold cld
      rw [xf 7 (by decide) (by decide)]
    refine ⟨⟨fun j hj => ⟨?_, by rw [ec]; exact (h1 j hj).2⟩, ?_⟩, fun j hj => ?_⟩
    · rw [ev j hj]
      show 0 ≤ if j = i + 1 then vol x (i + 1) + E.toInt else if j = i then vol x i - E.toInt else vol x j
      split
      · omega
      · split
        · omega
        · exact (h1 j hj).1
    · rw [sum8_cong ev, sum8_upd _ _ hi1, sum8_upd _ _ hi, ec]
      have q : (if i + 1 = i then vol x i - E.toInt else vol x (i + 1)) = vol x (i + 1) := if_neg (by omega)
      show sum8 (vol x) - vol x i + (vol x i - E.toInt) - (if i + 1 = i then vol x i - E.toInt else vol x (i + 1)) + (vol x (i + 1) + E.toInt) + sum8 (cld x) ≤ B
      rw [q]
      omega
    · have q := h3 j hj
      have e0 : inn X j = inn x j + if j = i + 1 then E else 0 := by
        unfold inn
        by_cases w : j = 0
        · rw [if_pos w, if_pos w, if_neg (by omega), Int32.add_zero]
        · rw [if_neg w, if_neg w, xf 9 (by decide) (by decide), x10 (j - 1) (by omega)]
          by_cases u : j = i + 1
          · subst u
            rw [if_pos (by omega), if_pos rfl, show i + 1 - 1 = i by omega]
            ac_rfl
          · rw [if_neg (by omega), if_neg u, Int32.add_zero]
      rw [e0, x6 j hj, xf 9 (by decide) (by decide), x10 j hj, xf 8 (by decide) (by decide), ← Int32.add_assoc (x 8 0 (nI j)), ← q]
      by_cases w : j = i + 1
      · subst w
        rw [if_pos rfl, if_neg (show ¬ i + 1 = i by omega), if_pos rfl]
        ac_rfl
      · rw [if_neg w, if_neg w, Int32.add_zero]
        by_cases u : j = i
        · subst u
          rw [if_pos rfl, if_pos rfl, show x 6 0 (nI j) - E + x 9 0 (nI j) + (x 10 0 (nI j) + E) = ((x 6 0 (nI j) - E) + (x 10 0 (nI j) + E)) + x 9 0 (nI j) by ac_rfl, i32_mv]
          ac_rfl
        · rw [if_neg u, if_neg u]
theorem ge7 {i : Nat} (hi : i < 8) : ((7 : Int32) ≤ nI i) ↔ i = 7 := by
  rw [Int32.le_iff_toInt_le, nI_toInt (by omega), xt7]
  omega
def LI (S : xS) (m t : Int32) (n : Nat) (x : xS) : Prop := (∀ f, f ≠ 33 → x f = S f) ∧ ∀ (r : Int32) (j : Nat), j < 8 → x 33 r (nI j) = if r = m ∧ j < n ∧ nI j ≠ m then fX1_statusAfter (t - S 32 m (nI j)) S else S 33 r (nI j)
theorem st_eq {S x : xS} (h : x 3 = S 3) (d : Int32) : fX1_statusAfter d x = fX1_statusAfter d S := by
  unfold fX1_statusAfter
  rw [h]
theorem LI_all (S : xS) (m t : Int32) : LI S m t 8 (fX1_lookAtOthers m t S) := by
  unfold fX1_lookAtOthers
  refine xfold_I (LI S m t) 8 S ⟨fun _ _ => rfl, fun r j _ => by rw [if_neg (fun z => Nat.not_lt_zero _ z.2.1)]⟩ fun i hi x ⟨h1, h2⟩ => ?_
  unfold bX1_lookAtOthers_2
  by_cases a : nI i = m
  · rw [if_pos a]
    refine ⟨h1, fun r j hj => ?_⟩
    rw [h2 r j hj]
    by_cases c : r = m ∧ j < i ∧ nI j ≠ m
    · rw [if_pos c, if_pos ⟨c.1, by omega, c.2.2⟩]
    · rw [if_neg c, if_neg]
      rintro ⟨d1, d2, d3⟩
      refine c ⟨d1, ?_, d3⟩
      have : j ≠ i := fun z => d3 (by rw [z]; exact a)
      omega
  · rw [if_neg a, h1 32 (by decide), st_eq (h1 3 (by decide))]
    refine ⟨fun f hf => by rw [xu_nf hf]; exact h1 f hf, fun r j hj => ?_⟩
    rw [xu_self, h2 r j hj]
    by_cases c : r = m ∧ nI j = nI i
    · have e : j = i := (xnj hj hi).mp c.2
      rw [if_pos c, if_pos ⟨c.1, by omega, by rw [c.2]; exact a⟩, e]
    · rw [if_neg c]
      by_cases d : r = m ∧ j < i ∧ nI j ≠ m
      · rw [if_pos d, if_pos ⟨d.1, by omega, d.2.2⟩]
      · rw [if_neg d, if_neg]
        rintro ⟨d1, d2, d3⟩
        refine d ⟨d1, ?_, d3⟩
        have : j ≠ i := fun z => c ⟨d1, by rw [z]⟩
        omega
def LA (S : xS) (t : Int32) (n : Nat) (x : xS) : Prop := (∀ f, f ≠ 33 → x f = S f) ∧ ∀ r j : Nat, r < 8 → j < 8 → x 33 (nI r) (nI j) = if r < n ∧ S 19 0 (nI r) = 0 ∧ j ≠ r then fX1_statusAfter (t - S 32 (nI r) (nI j)) S else S 33 (nI r) (nI j)
theorem LA_all (S : xS) (t : Int32) : LA S t 8 (fX1_lookAll t S) := by
  unfold fX1_lookAll
  refine xfold_I (LA S t) 8 S ⟨fun _ _ => rfl, fun r j _ _ => by rw [if_neg (fun z => Nat.not_lt_zero _ z.1)]⟩ fun i hi x ⟨h1, h2⟩ => ?_
  unfold bX1_lookAll_2
  rw [h1 19 (by decide)]
  by_cases a : S 19 0 (nI i) = 0
  · rw [if_pos a]
    obtain ⟨k1, k2⟩ := LI_all x (nI i) t
    refine ⟨fun f hf => (k1 f hf).trans (h1 f hf), fun r j hr hj => ?_⟩
    rw [k2 (nI r) j hj, h2 r j hr hj, h1 32 (by decide), st_eq (h1 3 (by decide))]
    by_cases c : r = i
    · subst c
      by_cases d : j = r
      · subst d
        rw [if_neg (fun z => z.2.2 rfl), if_neg (fun z => z.2.2 rfl), if_neg (fun z => z.2.2 rfl)]
      · rw [if_pos ⟨rfl, hj, fun z => d ((xnj hj hr).mp z)⟩, if_pos ⟨by omega, a, d⟩]
    · rw [if_neg (fun z => c ((xnj hr hi).mp z.1))]
      by_cases d : r < i ∧ S 19 0 (nI r) = 0 ∧ j ≠ r
      · rw [if_pos d, if_pos ⟨by omega, d.2⟩]
      · rw [if_neg d, if_neg]
        exact fun z => d ⟨by omega, z.2⟩
  · rw [if_neg a]
    refine ⟨h1, fun r j hr hj => ?_⟩
    rw [h2 r j hr hj]
    by_cases d : r < i ∧ S 19 0 (nI r) = 0 ∧ j ≠ r
    · rw [if_pos d, if_pos ⟨by omega, d.2⟩]
    · rw [if_neg d, if_neg]
      intro z
      have : r ≠ i := fun w => a (by rw [← w]; exact z.2.1)
      exact d ⟨by omega, z.2⟩
theorem vm_b {o : Int32} (h0 : 0 ≤ o.toInt ∧ o.toInt ≤ 10) : 0 ≤ (if (o - (1 : Int32)) < (0 : Int32) then (0 : Int32) else (o - (1 : Int32))).toInt ∧ (if (o - (1 : Int32)) < (0 : Int32) then (0 : Int32) else (o - (1 : Int32))).toInt ≤ 10 := by
  have e1 : (o - (1 : Int32)).toInt = o.toInt - 1 := by rw [xtsub (by rw [xt1]; omega) (by rw [xt1]; omega), xt1]
  split
  · exact ⟨by decide, by decide⟩
  · next z =>
    rw [Int32.lt_iff_toInt_lt, e1, xt0] at z
    rw [e1]
    omega
theorem vp_b {o d : Int32} (hd : 0 ≤ d.toInt ∧ d.toInt ≤ 2) (h0 : 0 ≤ o.toInt ∧ o.toInt ≤ 10) : 0 ≤ (if (10 : Int32) < (o + d) then (10 : Int32) else (o + d)).toInt ∧ (if (10 : Int32) < (o + d) then (10 : Int32) else (o + d)).toInt ≤ 10 := by
  have e1 : (o + d).toInt = o.toInt + d.toInt := by rw [xtadd (by omega) (by omega)]
  split
  · exact ⟨by decide, by decide⟩
  · next z =>
    rw [Int32.lt_iff_toInt_lt, e1, show (10 : Int32).toInt = 10 from rfl] at z
    rw [e1]
    omega
theorem KW_eq {B : Int} {S x : xS} (h6 : x 6 = S 6) (h7 : x 7 = S 7) (h8 : x 8 = S 8) (h9 : x 9 = S 9) (h10 : x 10 = S 10) (h : KW B S) : KW B x := by
  unfold KW Wat Bl inn vol cld at *
  rw [h6, h7, h8, h9, h10]
  exact h
