/-! 53: the law's look at the beats -/
theorem j101 {isUp beat grew i : Int32} {S : xS} (h1 : ¬ beat < S 36 0 i) (h2 : ¬ grew = (0 : Int32) → ¬ isUp = (0 : Int32)) (h3 : ¬ fX3_beat (i - i / (8 : Int32) * (8 : Int32)) (i - i / (8 : Int32) * (8 : Int32)) S < beat) (h4 : ¬ (fX3_beat (i - i / (8 : Int32) * (8 : Int32)) (i - i / (8 : Int32) * (8 : Int32)) S) + (1 : Int32) ≤ beat) : jL_areBeats_101 isUp beat grew S i = (1 : Int32) := by
  unfold jL_areBeats_101
  rw [if_neg h1]
  by_cases g : grew = 0
  · rw [if_pos g, if_neg h3]
  · rw [if_neg g, if_neg (h2 g)]
    by_cases u : S 35 0 (((8 : Int32) * (i - i / (8 : Int32) * (8 : Int32))) + (1 : Int32)) = (0 : Int32)
    · rw [if_pos u, if_neg h3]
    · rw [if_neg u, if_neg h4, if_neg h3]
theorem j174 {isUp beat grew i : Int32} {S : xS} (h1 : grew = isUp) (h2 : fX3_status (i / (8 : Int32)) (i - i / (8 : Int32) * (8 : Int32)) S = (0 : Int32)) (h3 : fX3_version (i / (8 : Int32)) (i / (8 : Int32)) S = beat) (h4 : ¬ isUp = (0 : Int32) → beat = S 36 0 i + (1 : Int32)) : jL_areBeats_174 (1 : Int32) isUp beat grew S i = (1 : Int32) := by
  unfold jL_areBeats_174
  rw [if_neg (show ¬ (1 : Int32) = 0 by decide), if_pos h1]
  by_cases u : isUp = 0
  · rw [if_pos u, if_pos h2, if_pos h3]
  · rw [if_neg u, if_pos (h4 u), if_pos h2, if_pos h3]
theorem j250 {ago i : Int32} {S : xS} (h : fX3_status (i / (8 : Int32)) (i - i / (8 : Int32) * (8 : Int32)) S = if ago ≤ S 39 0 (2 : Int32) then (if ago ≤ S 39 0 (1 : Int32) then 0 else 1) else 2) : jL_areBeats_250 (1 : Int32) ago S i = (1 : Int32) := by
  unfold jL_areBeats_250
  rw [if_neg (show ¬ (1 : Int32) = 0 by decide)]
  by_cases a : ago ≤ S 39 0 (2 : Int32)
  · rw [if_pos a] at h
    rw [if_pos a]
    by_cases b : ago ≤ S 39 0 (1 : Int32)
    · rw [if_pos b] at h
      rw [if_pos b, if_pos h]
    · rw [if_neg b] at h
      rw [if_neg b, if_pos h]
  · rw [if_neg a] at h
    rw [if_neg a, if_pos h]
theorem j318 {has t i : Int32} {S : xS} (h1 : (fX3_believed (i / (8 : Int32)) (i - i / (8 : Int32) * (8 : Int32)) S < (0 : Int32) ∧ has = (0 : Int32) ∧ fX3_age (i / (8 : Int32)) (i - i / (8 : Int32) * (8 : Int32)) S < (0 : Int32)) ∨ (¬ fX3_believed (i / (8 : Int32)) (i - i / (8 : Int32) * (8 : Int32)) S < (0 : Int32) ∧ has = (1 : Int32) ∧ ¬ fX3_age (i / (8 : Int32)) (i - i / (8 : Int32) * (8 : Int32)) S < (0 : Int32))) (h2 : ¬ t < fX3_age (i / (8 : Int32)) (i - i / (8 : Int32) * (8 : Int32)) S) (h3 : ¬ fX3_version (i - i / (8 : Int32) * (8 : Int32)) (i - i / (8 : Int32) * (8 : Int32)) S < fX3_version (i / (8 : Int32)) (i - i / (8 : Int32) * (8 : Int32)) S)
  (h4 : fX3_version (i / (8 : Int32)) (i - i / (8 : Int32) * (8 : Int32)) S = fX3_version (i - i / (8 : Int32) * (8 : Int32)) (i - i / (8 : Int32) * (8 : Int32)) S → fX3_believed (i / (8 : Int32)) (i - i / (8 : Int32) * (8 : Int32)) S = fX3_believed (i - i / (8 : Int32) * (8 : Int32)) (i - i / (8 : Int32) * (8 : Int32)) S ∧ fX3_age (i / (8 : Int32)) (i - i / (8 : Int32) * (8 : Int32)) S = fX3_age (i - i / (8 : Int32) * (8 : Int32)) (i - i / (8 : Int32) * (8 : Int32)) S) : jL_areBeats_318 (1 : Int32) has t S i = (1 : Int32) := by
  unfold jL_areBeats_318
  rw [if_neg (show ¬ (1 : Int32) = 0 by decide)]
  generalize fX3_believed (i / (8 : Int32)) (i - i / (8 : Int32) * (8 : Int32)) S = bm at *
  generalize fX3_age (i / (8 : Int32)) (i - i / (8 : Int32) * (8 : Int32)) S = am at *
  generalize fX3_version (i / (8 : Int32)) (i - i / (8 : Int32) * (8 : Int32)) S = vm at *
  generalize fX3_believed (i - i / (8 : Int32) * (8 : Int32)) (i - i / (8 : Int32) * (8 : Int32)) S = bo at *
  generalize fX3_age (i - i / (8 : Int32) * (8 : Int32)) (i - i / (8 : Int32) * (8 : Int32)) S = ao at *
  generalize fX3_version (i - i / (8 : Int32) * (8 : Int32)) (i - i / (8 : Int32) * (8 : Int32)) S = vo at *
  have core : (if t < am then (0 : Int32) else if vo < vm then (0 : Int32) else if vm = vo then if bm = bo then if am = ao then (1 : Int32) else (0 : Int32) else (0 : Int32) else (1 : Int32)) = 1 := by
    rw [if_neg h2, if_neg h3]
    by_cases e : vm = vo
    · rw [if_pos e, if_pos (h4 e).1, if_pos (h4 e).2]
    · rw [if_neg e]
  rcases h1 with ⟨a, b, c⟩ | ⟨a, b, c⟩
  · rw [if_pos a, if_pos b.symm, if_pos c]
    exact core
  · rw [if_neg a, if_pos b.symm, if_neg c]
    exact core
theorem NB_eq {X A Y : xS} {T : Int32} {m o : Nat} (h3 : Y 3 = A 3) (h28 : Y 28 = A 28) (h31 : Y 31 = A 31) (h32 : Y 32 = A 32) (h33 : Y 33 = A 33) (h : NB X A T m o) : NB X Y T m o := by
  unfold NB
  rw [h28, h31, h32, h33, st_eq h3]
  exact h
def BF (X Y : xS) (T : Int32) (k : Int) : Prop := NetC k Y ∧ (0 ≤ k ∧ k ≤ 10000 ∧ T.toInt = k) ∧ Y 0 0 (nI 3) = T ∧ (Y 39 0 (1 : Int32) = Y 3 0 (nI 9) ∧ Y 39 0 (2 : Int32) = Y 3 0 (nI 10)) ∧ (∀ m : Nat, m < 8 → Y 35 0 (nI (8 * m + 1)) = X 19 0 (nI m)) ∧
  ∀ m o : Nat, m < 8 → o < 8 → Y 36 0 (nI (8 * m + o)) = X 31 (nI m) (nI o) ∧ Y 37 0 (nI (8 * m + o)) = X 32 (nI m) (nI o) ∧ NB X Y T m o
def bJ (X Y : xS) (i : Nat) (x : xS × Int32) : Prop := (∀ f, f ≠ 37 → x.1 f = Y f) ∧ (∀ m o : Nat, m < 8 → o < 8 → x.1 37 0 (nI (8 * m + o)) = if 8 * m + o < i then Y 32 (nI m) (nI o) else X 32 (nI m) (nI o)) ∧ x.2 = (1 : Int32)
theorem nI_s8 {m o : Nat} (hm : m < 8) (ho : o < 8) : nI (8 * m + o) / (8 : Int32) = nI m ∧ nI (8 * m + o) - nI (8 * m + o) / (8 : Int32) * (8 : Int32) = nI o := by
  rw [show (8 : Int32) = nI 8 from by decide, pk_rem (by omega) (by decide) (by decide), pk_div (by omega) (by decide) (by decide)]
  rw [show (8 * m + o) / 8 = m by omega, show (8 * m + o) % 8 = o by omega]
  exact ⟨rfl, rfl⟩
set_option maxHeartbeats 4000000 in
theorem bJ_318 {X Y x : xS} {T : Int32} {k : Int} (H : BF X Y T k) {m o : Nat} (hm : m < 8) (ho : o < 8) (hx : ∀ f, f ≠ 37 → x f = Y f) : jL_areBeats_318 (1 : Int32) (jL_areBeats_300 x (nI (8 * m + o))) T x (nI (8 * m + o)) = (1 : Int32) := by
  obtain ⟨⟨n1, n2⟩, ⟨hk0, hk1, hT⟩, h0, -⟩ := H
  obtain ⟨e1, e2⟩ := nI_s8 hm ho
  obtain ⟨-, v2, v3, v4, v5, -⟩ := n2 m o hm ho
  have x28 := hx 28 (by decide)
  have x29 := hx 29 (by decide)
  have x30 := hx 30 (by decide)
  have x0 := hx 0 (by decide)
  have hage : (T - Y 30 (nI m) (nI o)).toInt = k - (Y 30 (nI m) (nI o)).toInt := by rw [xtsub (by omega) (by omega), hT]
  have has : jL_areBeats_300 x (nI (8 * m + o)) = if Y 28 (nI m) (nI o) ≤ 0 then 0 else 1 := by
    unfold jL_areBeats_300 fX3_version
    rw [e2, e1, x28]
  have bel : ∀ p q : Int32, fX3_believed p q x = if Y 28 p q ≤ 0 then -1 else Y 29 p q := fun p q => by
    unfold fX3_believed fX1_hasNews
    rw [x28, x29]
    by_cases z : Y 28 p q ≤ 0
    · rw [if_pos z, if_pos z, if_pos rfl]
    · rw [if_neg z, if_neg z, if_neg (by decide)]
  have age : ∀ p q : Int32, fX3_age p q x = if Y 28 p q ≤ 0 then -1 else T - Y 30 p q := fun p q => by
    unfold fX3_age fX1_hasNews
    rw [x28, x30, x0, h0]
    by_cases z : Y 28 p q ≤ 0
    · rw [if_pos z, if_pos z, if_pos rfl]
    · rw [if_neg z, if_neg z, if_neg (by decide)]
  have ver : ∀ p q : Int32, fX3_version p q x = Y 28 p q := fun p q => by
    unfold fX3_version
    rw [x28]
  refine j318 ?_ ?_ ?_ ?_
  · rw [has, e2, e1, bel, age]
    by_cases z : Y 28 (nI m) (nI o) ≤ 0
    · rw [if_pos z, if_pos z, if_pos z]
      exact Or.inl ⟨by decide, rfl, by decide⟩
    · rw [if_neg z, if_neg z, if_neg z]
      refine Or.inr ⟨?_, rfl, ?_⟩
      · rw [Int32.lt_iff_toInt_lt, xt0]
        omega
      · rw [Int32.lt_iff_toInt_lt, xt0, hage]
        omega
  · rw [e2, e1, age, Int32.lt_iff_toInt_lt, hT]
    by_cases z : Y 28 (nI m) (nI o) ≤ 0
    · rw [if_pos z, show (-1 : Int32).toInt = -1 from rfl]
      omega
    · rw [if_neg z, hage]
      omega
  · rw [e2, e1, ver, ver, Int32.lt_iff_toInt_lt]
    omega
  · rw [e2, e1, ver, ver, bel, bel, age, age]
    intro e
    obtain ⟨q1, q2⟩ := v3 e
    rw [e, q1, q2]
    exact ⟨rfl, rfl⟩
