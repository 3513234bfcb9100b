/-! 29: the law: start, loop, end (plan29.py) -/
def bL_law_55 (i : Int32) (x : xS) : xS :=
  (xu (xu (xu (xu (xu (xu (xu x 34 0 ((8 : Int32) * i) (10 : Int32)) 34 0 (((8 : Int32) * i) + (1 : Int32)) (100 : Int32)) 34 0 (((8 : Int32) * i) + (2 : Int32)) (5 : Int32)) 34 0 (((8 : Int32) * i) + (4 : Int32)) (20 : Int32)) 34 0 (((8 : Int32) * i) + (5 : Int32)) (40 : Int32)) 34 0 (((8 : Int32) * i) + (6 : Int32)) (80 : Int32)) 34 0 (((8 : Int32) * i) + (7 : Int32)) (5 : Int32))
def cS_init (S : xS) : xS :=
  (xfold bL_law_55 8 (xu (xu S 39 0 (1 : Int32) (3 : Int32)) 39 0 (2 : Int32) (6 : Int32)))
set_option maxRecDepth 100000 in
set_option maxHeartbeats 4000000 in
theorem law_init {F : xF} {G : xG} {S : xS} {k w b9 : Nat} (C : xC F cL_law 17 RL wsL_law room_1) (V : xV F xYc G) (K : xg F k w 143 [some (.ref b9), some (.ref (G.2.2 0 0)), some (.ref (G.2.2 34 0)), some (.ref (G.2.2 35 0)), some (.ref (G.2.2 36 0)), some (.ref (G.2.2 37 0)), some (.ref (G.2.2 38 0)), some (.ref (G.2.2 39 0)), none, none, none, none, none, none, none, none, none] [] (xP xYc G (cS_init S))) : xg F k w 41 [some (.ref b9), some (.ref (G.2.2 0 0)), some (.ref (G.2.2 34 0)), some (.ref (G.2.2 35 0)), some (.ref (G.2.2 36 0)), some (.ref (G.2.2 37 0)), some (.ref (G.2.2 38 0)), some (.ref (G.2.2 39 0)), none, none, none, none, none, none, none, none, none] [] (xP xYc G S) := by
  have hap : xAp xYc G := V.1
  refine xg_aload C dL_law_41 rfl ?_
  refine xg_iconst C dL_law_43 (v := (1 : Int32)) (by decide) ?_
  refine xg_iconst C dL_law_44 (v := (3 : Int32)) (by decide) ?_
  refine xg_iast C V (f := 39) (n := 1) (N := 3) rfl (by decide) (xR_0 (by decide)) (vp_in_iff.mpr ⟨by decide, by decide⟩) dL_law_45 ?_
  refine xg_aload C dL_law_46 rfl ?_
  refine xg_iconst C dL_law_48 (v := (2 : Int32)) (by decide) ?_
  refine xg_bipush C dL_law_49 (v := (6 : Int32)) (by decide) ?_
  refine xg_iast C V (f := 39) (n := 1) (N := 3) rfl (by decide) (xR_0 (by decide)) (vp_in_iff.mpr ⟨by decide, by decide⟩) dL_law_51 ?_
  refine xg_iconst C dL_law_52 (v := (0 : Int32)) (by decide) ?_
  refine xg_istore C dL_law_53 (by decide) (L' := [some (.ref b9), some (.ref (G.2.2 0 0)), some (.ref (G.2.2 34 0)), some (.ref (G.2.2 35 0)), some (.ref (G.2.2 36 0)), some (.ref (G.2.2 37 0)), some (.ref (G.2.2 38 0)), some (.ref (G.2.2 39 0)), some (.int (0 : Int32)), none, none, none, none, none, none, none, none]) rfl ?_
  refine xloop (fun (ii : Int32) (x : xS) => xg F k w 55 [some (.ref b9), some (.ref (G.2.2 0 0)), some (.ref (G.2.2 34 0)), some (.ref (G.2.2 35 0)), some (.ref (G.2.2 36 0)), some (.ref (G.2.2 37 0)), some (.ref (G.2.2 38 0)), some (.ref (G.2.2 39 0)), some (.int ii), none, none, none, none, none, none, none, none] [] (xP xYc G x)) bL_law_55 8 (xu (xu S 39 0 (1 : Int32) (3 : Int32)) 39 0 (2 : Int32) (6 : Int32)) (fun i hi x K => ?_) ?_
  · have hi8 : vp_in (nI i) 8 := vp_in_nI hi (by decide)
    show xg F k w 55 [some (.ref b9), some (.ref (G.2.2 0 0)), some (.ref (G.2.2 34 0)), some (.ref (G.2.2 35 0)), some (.ref (G.2.2 36 0)), some (.ref (G.2.2 37 0)), some (.ref (G.2.2 38 0)), some (.ref (G.2.2 39 0)), some (.int (nI i)), none, none, none, none, none, none, none, none] [] (xP xYc G x)
    refine xg_iload C dL_law_55 rfl ?_
    refine xg_bipush C dL_law_57 (v := (8 : Int32)) (by decide) ?_
    refine xg_icmp_ge C 143 dL_law_59 (by decide) (fun h1 => absurd h1 (nI_ge hi (by decide))) (fun h1 => ?_)
    refine xg_aload_n C dL_law_62 rfl ?_
    refine xg_bipush C dL_law_63 (v := (8 : Int32)) (by decide) ?_
    refine xg_iload C dL_law_65 rfl ?_
    refine xg_imul C dL_law_67 ?_
    refine xg_bipush C dL_law_68 (v := (10 : Int32)) (by decide) ?_
    refine xg_iast C V (f := 34) (n := 1) (N := 64) rfl (by decide) (xR_0 (by decide)) (xin_8 (by assumption)) dL_law_70 ?_
    refine xg_aload_n C dL_law_71 rfl ?_
    refine xg_bipush C dL_law_72 (v := (8 : Int32)) (by decide) ?_
    refine xg_iload C dL_law_74 rfl ?_
    refine xg_imul C dL_law_76 ?_
    refine xg_iconst C dL_law_77 (v := (1 : Int32)) (by decide) ?_
    refine xg_iadd C dL_law_78 ?_
    refine xg_bipush C dL_law_79 (v := (100 : Int32)) (by decide) ?_
    refine xg_iast C V (f := 34) (n := 1) (N := 64) rfl (by decide) (xR_0 (by decide)) (xin_8k (by assumption) (vp_in_iff.mpr ⟨by decide, by decide⟩)) dL_law_81 ?_
    refine xg_aload_n C dL_law_82 rfl ?_
    refine xg_bipush C dL_law_83 (v := (8 : Int32)) (by decide) ?_
    refine xg_iload C dL_law_85 rfl ?_
    refine xg_imul C dL_law_87 ?_
    refine xg_iconst C dL_law_88 (v := (2 : Int32)) (by decide) ?_
    refine xg_iadd C dL_law_89 ?_
    refine xg_iconst C dL_law_90 (v := (5 : Int32)) (by decide) ?_
    refine xg_iast C V (f := 34) (n := 1) (N := 64) rfl (by decide) (xR_0 (by decide)) (xin_8k (by assumption) (vp_in_iff.mpr ⟨by decide, by decide⟩)) dL_law_91 ?_
    refine xg_aload_n C dL_law_92 rfl ?_
    refine xg_bipush C dL_law_93 (v := (8 : Int32)) (by decide) ?_
    refine xg_iload C dL_law_95 rfl ?_
    refine xg_imul C dL_law_97 ?_
    refine xg_iconst C dL_law_98 (v := (4 : Int32)) (by decide) ?_
    refine xg_iadd C dL_law_99 ?_
    refine xg_bipush C dL_law_100 (v := (20 : Int32)) (by decide) ?_
    refine xg_iast C V (f := 34) (n := 1) (N := 64) rfl (by decide) (xR_0 (by decide)) (xin_8k (by assumption) (vp_in_iff.mpr ⟨by decide, by decide⟩)) dL_law_102 ?_
    refine xg_aload_n C dL_law_103 rfl ?_
    refine xg_bipush C dL_law_104 (v := (8 : Int32)) (by decide) ?_
    refine xg_iload C dL_law_106 rfl ?_
    refine xg_imul C dL_law_108 ?_
    refine xg_iconst C dL_law_109 (v := (5 : Int32)) (by decide) ?_
    refine xg_iadd C dL_law_110 ?_
    refine xg_bipush C dL_law_111 (v := (40 : Int32)) (by decide) ?_
    refine xg_iast C V (f := 34) (n := 1) (N := 64) rfl (by decide) (xR_0 (by decide)) (xin_8k (by assumption) (vp_in_iff.mpr ⟨by decide, by decide⟩)) dL_law_113 ?_
    refine xg_aload_n C dL_law_114 rfl ?_
    refine xg_bipush C dL_law_115 (v := (8 : Int32)) (by decide) ?_
    refine xg_iload C dL_law_117 rfl ?_
    refine xg_imul C dL_law_119 ?_
    refine xg_bipush C dL_law_120 (v := (6 : Int32)) (by decide) ?_
    refine xg_iadd C dL_law_122 ?_
    refine xg_bipush C dL_law_123 (v := (80 : Int32)) (by decide) ?_
    refine xg_iast C V (f := 34) (n := 1) (N := 64) rfl (by decide) (xR_0 (by decide)) (xin_8k (by assumption) (vp_in_iff.mpr ⟨by decide, by decide⟩)) dL_law_125 ?_
    refine xg_aload_n C dL_law_126 rfl ?_
    refine xg_bipush C dL_law_127 (v := (8 : Int32)) (by decide) ?_
    refine xg_iload C dL_law_129 rfl ?_
    refine xg_imul C dL_law_131 ?_
    refine xg_bipush C dL_law_132 (v := (7 : Int32)) (by decide) ?_
    refine xg_iadd C dL_law_134 ?_
    refine xg_iconst C dL_law_135 (v := (5 : Int32)) (by decide) ?_
    refine xg_iast C V (f := 34) (n := 1) (N := 64) rfl (by decide) (xR_0 (by decide)) (xin_8k (by assumption) (vp_in_iff.mpr ⟨by decide, by decide⟩)) dL_law_136 ?_
    refine xg_iinc C dL_law_137 rfl (v := (nI (i + 1))) (xinc i) (by decide) (L' := [some (.ref b9), some (.ref (G.2.2 0 0)), some (.ref (G.2.2 34 0)), some (.ref (G.2.2 35 0)), some (.ref (G.2.2 36 0)), some (.ref (G.2.2 37 0)), some (.ref (G.2.2 38 0)), some (.ref (G.2.2 39 0)), some (.int (nI (i + 1))), none, none, none, none, none, none, none, none]) rfl ?_
    refine xg_goto C 55 dL_law_140 (by decide) ?_
    have e : bL_law_55 (nI i) x = (xu (xu (xu (xu (xu (xu (xu x 34 0 ((8 : Int32) * (nI i)) (10 : Int32)) 34 0 (((8 : Int32) * (nI i)) + (1 : Int32)) (100 : Int32)) 34 0 (((8 : Int32) * (nI i)) + (2 : Int32)) (5 : Int32)) 34 0 (((8 : Int32) * (nI i)) + (4 : Int32)) (20 : Int32)) 34 0 (((8 : Int32) * (nI i)) + (5 : Int32)) (40 : Int32)) 34 0 (((8 : Int32) * (nI i)) + (6 : Int32)) (80 : Int32)) 34 0 (((8 : Int32) * (nI i)) + (7 : Int32)) (5 : Int32)) := rfl
    rw [e] at K
    exact xg_le K ⟨rfl, rfl, rfl, rfl, rfl, rfl, rfl, rfl, rfl, trivial⟩
  · show xg F k w 55 [some (.ref b9), some (.ref (G.2.2 0 0)), some (.ref (G.2.2 34 0)), some (.ref (G.2.2 35 0)), some (.ref (G.2.2 36 0)), some (.ref (G.2.2 37 0)), some (.ref (G.2.2 38 0)), some (.ref (G.2.2 39 0)), some (.int (nI 8)), none, none, none, none, none, none, none, none] [] (xP xYc G (xfold bL_law_55 8 (xu (xu S 39 0 (1 : Int32) (3 : Int32)) 39 0 (2 : Int32) (6 : Int32))))
    refine xg_iload C dL_law_55 rfl ?_
    refine xg_bipush C dL_law_57 (v := (8 : Int32)) (by decide) ?_
    refine xg_icmp_ge C 143 dL_law_59 (by decide) (fun h2 => ?_) (fun h2 => absurd (nI_le (Nat.le_refl _) (by decide)) h2)
    exact xg_le K ⟨rfl, rfl, rfl, rfl, rfl, rfl, rfl, rfl, trivial⟩
/-- what an invariant owes the law: of c steps, t ticks -/
def HInv (Inv : Nat → Nat → xS → Prop) : Prop :=
  Inv 0 0 (cS_init xS0c) ∧
  (∀ (c t : Nat) (S : xS), c ≤ 90 → t ≤ 1350 → Inv c t S → okM S) ∧
  (∀ (c t : Nat) (S : xS), c ≤ 90 → t ≤ 1350 → Inv c t S → (∀ r, vp_in r 8 → (S 35 0 (((8 : Int32) * r) + (1 : Int32)) = (0 : Int32) ↔ S 19 0 r = (0 : Int32))) ∧ (∀ r, vp_in r 8 → S 35 0 ((8 : Int32) * r) = (1 : Int32) ∨ S 18 0 r = (0 : Int32))) ∧
  (∀ (c t c' t' : Nat) (S : xS), c ≤ c' → t ≤ t' → Inv c t S → Inv c' t' S) ∧
  (∀ (c t : Nat) (S : xS), c < 90 → t < 1350 → Inv c t S → okT S ∧ Inv c (t + 1) (fL_isTicked S).1) ∧
  (∀ (c t : Nat) (S : xS) (v kk : Nat), c < 90 → t ≤ 1350 → v < 67108864 → kk < 8 → Inv c t S → cO_A v kk S ∧ Inv (c + 1) t (cS_A v kk S)) ∧
  (∀ (c t : Nat) (S : xS) (v kk : Nat), c < 90 → t ≤ 1350 → v < 67108864 → kk < 8 → Inv c t S → cO_B v kk S ∧ Inv (c + 1) t (cS_B v kk S)) ∧
  (∀ (c t : Nat) (S : xS) (v kk : Nat), c < 90 → t ≤ 1350 → v < 67108864 → kk < 8 → Inv c t S → cO_C v kk S ∧ Inv (c + 1) t (cS_C v kk S)) ∧
  (∀ (c t : Nat) (S : xS) (v kk : Nat), c < 90 → t ≤ 1350 → v < 67108864 → kk < 8 → Inv c t S → cO_D v kk S ∧ Inv (c + 1) t (cS_D v kk S)) ∧
  (∀ (c t : Nat) (S : xS) (v kk : Nat), c < 90 → t ≤ 1350 → v < 67108864 → kk < 8 → Inv c t S → cO_E v kk S ∧ Inv (c + 1) t (cS_E v kk S)) ∧
  (∀ (c t : Nat) (S : xS) (v kk : Nat), c < 90 → t ≤ 1350 → v < 67108864 → kk < 8 → v / 8 % 12 = 0 → Inv c t S → cO_Fz v kk S ∧ Inv (c + 1) t (cS_Fz v kk S)) ∧
  (∀ (c t : Nat) (S : xS) (v kk : Nat), c < 90 → t ≤ 1350 → v < 67108864 → kk < 8 → 1 ≤ v / 8 % 12 → Inv c t S → cO_Fp v kk S ∧ Inv (c + 1) t (cS_Fp v kk S)) ∧
  (∀ (c t : Nat) (S : xS) (v kk : Nat), c < 90 → t ≤ 1350 → v < 67108864 → kk < 8 → Inv c t S → cO_G v kk S ∧ Inv (c + 1) t (cS_G v kk S)) ∧
  (∀ (c t : Nat) (S : xS) (v kk : Nat), c < 90 → t ≤ 1350 → v < 67108864 → kk < 8 → Inv c t S → cO_H v kk S ∧ Inv (c + 1) t (cS_H v kk S)) ∧
  (∀ (c t : Nat) (S : xS) (v kk : Nat), c < 90 → t ≤ 1350 → v < 67108864 → kk < 8 → Inv c t S → cO_I v kk S ∧ Inv (c + 1) t (cS_I v kk S)) ∧
  (∀ (c t : Nat) (S : xS) (v kk : Nat), c < 90 → t ≤ 1350 → v < 67108864 → kk < 8 → Inv c t S → cO_J v kk S ∧ Inv (c + 1) t (cS_J v kk S))
set_option maxRecDepth 100000 in
set_option maxHeartbeats 4000000 in
theorem law_tail {F : xF} {G : xG} {Sa : Nat → Nat} {sz b9 N : Nat} {xs : Nat → Int32} {Inv : Nat → Nat → xS → Prop} (C : xC F cL_law 17 RL wsL_law room_1) (V : xV F xYc G) (E3 : xE3 F Sa sz b9 N xs) (hsz : ∀ a : Nat, xA xYc G a → sz ≤ a) (hN : N ≤ 3072) (hI : HInv Inv) {S : xS} {k w n t X : Nat} (hn : n < 90) (ht : t ≤ 1350) (hX : X < 2147483648) (hk : k + 69 ≤ 712973 ∧ w + 414 ≤ 6962778) (hS : Inv (n + 1) t S) (K : xg F (k + 69) (w + 414) 171 [some (.ref b9), some (.ref (G.2.2 0 0)), some (.ref (G.2.2 34 0)), some (.ref (G.2.2 35 0)), some (.ref (G.2.2 36 0)), some (.ref (G.2.2 37 0)), some (.ref (G.2.2 38 0)), some (.ref (G.2.2 39 0)), some (.int (1 : Int32)), some (.int (nI (n + 1))), none, none, none, none, none, none, none] [] (xP xYc G S)) : xg F k w 1218 [some (.ref b9), some (.ref (G.2.2 0 0)), some (.ref (G.2.2 34 0)), some (.ref (G.2.2 35 0)), some (.ref (G.2.2 36 0)), some (.ref (G.2.2 37 0)), some (.ref (G.2.2 38 0)), some (.ref (G.2.2 39 0)), some (.int (1 : Int32)), some (.int (nI n)), some (.int (nI X)), some (.int (nI (X / 32))), some (.int (nI (X % 32))), some (.int (nI (X / 32 % 8))), none, none, none] [] (xP xYc G S) := by
  have Ev := xEv_3 E3
  obtain ⟨-, hM, hRf, -⟩ := hI
  have hM9 : okM S := hM (n + 1) t S (by omega) ht hS
  obtain ⟨r1, r2⟩ := hRf (n + 1) t S (by omega) ht hS
  have KB : ∀ k' w' : Nat, k' ≤ k + 69 → w' ≤ w + 414 → xg F k' w' 1258 [some (.ref b9), some (.ref (G.2.2 0 0)), some (.ref (G.2.2 34 0)), some (.ref (G.2.2 35 0)), some (.ref (G.2.2 36 0)), some (.ref (G.2.2 37 0)), some (.ref (G.2.2 38 0)), some (.ref (G.2.2 39 0)), some (.int (1 : Int32)), some (.int (nI n)), some (.int (nI X)), some (.int (nI (X / 32))), some (.int (nI (X % 32))), some (.int (nI (X / 32 % 8))), none, none, none] [] (xP xYc G S) := fun k' w' h1 h2 => by
    refine xg_iconst C dL_law_1258 (v := (1 : Int32)) (by decide) ?_
    refine xg_goto C 1263 dL_law_1259 (by decide) ?_
    refine xg_istore C dL_law_1263 (by decide) (L' := [some (.ref b9), some (.ref (G.2.2 0 0)), some (.ref (G.2.2 34 0)), some (.ref (G.2.2 35 0)), some (.ref (G.2.2 36 0)), some (.ref (G.2.2 37 0)), some (.ref (G.2.2 38 0)), some (.ref (G.2.2 39 0)), some (.int (1 : Int32)), some (.int (nI n)), some (.int (nI X)), some (.int (nI (X / 32))), some (.int (nI (X % 32))), some (.int (nI (X / 32 % 8))), none, none, none]) rfl ?_
    refine xg_iinc C dL_law_1265 rfl (v := (nI (n + 1))) (xinc n) (by decide) (L' := [some (.ref b9), some (.ref (G.2.2 0 0)), some (.ref (G.2.2 34 0)), some (.ref (G.2.2 35 0)), some (.ref (G.2.2 36 0)), some (.ref (G.2.2 37 0)), some (.ref (G.2.2 38 0)), some (.ref (G.2.2 39 0)), some (.int (1 : Int32)), some (.int (nI (n + 1))), some (.int (nI X)), some (.int (nI (X / 32))), some (.int (nI (X % 32))), some (.int (nI (X / 32 % 8))), none, none, none]) rfl ?_
    refine xg_goto C 171 dL_law_1268 (by decide) ?_
    exact xg_wide (xg_le K ⟨rfl, rfl, rfl, rfl, rfl, rfl, rfl, rfl, rfl, rfl, trivial⟩) h1 h2
  have KA : xg F k w 1238 [some (.ref b9), some (.ref (G.2.2 0 0)), some (.ref (G.2.2 34 0)), some (.ref (G.2.2 35 0)), some (.ref (G.2.2 36 0)), some (.ref (G.2.2 37 0)), some (.ref (G.2.2 38 0)), some (.ref (G.2.2 39 0)), some (.int (1 : Int32)), some (.int (nI n)), some (.int (nI X)), some (.int (nI (X / 32))), some (.int (nI (X % 32))), some (.int (nI (X / 32 % 8))), none, none, none] [] (xP xYc G S) := by
    refine xg_iload C dL_law_1238 rfl ?_
    refine xg_bipush C dL_law_1240 (v := (18 : Int32)) (by decide) ?_
    refine xg_irem C dL_law_1242 (by decide) ?_
    refine xg_if_gt C 1258 dL_law_1243 (by decide) (fun h2 => KB k w (by omega) (by omega)) (fun h2 => ?_)
    refine xg_aload_n C dL_law_1246 rfl ?_
    refine xg_aload_n C dL_law_1247 rfl ?_
    refine xg_iload C dL_law_1248 rfl ?_
    refine xg_iconst C dL_law_1250 (v := (3 : Int32)) (by decide) ?_
    refine xg_idivN C (a := 3) hX (by decide) rfl dL_law_1251 ?_
    refine xg_callSn C V Ev (as := [.ref (G.2.2 0 0), .ref (G.2.2 35 0), .int (nI (X / 3))]) (fun l hl => kL_isRefused l hl hsz V.1 (X / 3) S (by omega) r1 r2) gL_law_L_isRefused rfl hdL_isRefused ⟨by decide, by decide⟩ rfl rfl (Nat.le_of_ble_eq_true rfl) ⟨by show _ ≤ 712973; omega, by show _ ≤ 6962778; omega⟩ dL_law_1252 ?_
    refine xg_if_eq C 1262 dL_law_1255 (by decide) (fun h => absurd h (by decide)) (fun _ => ?_)
    exact KB _ _ (Nat.le_refl _) (Nat.le_refl _)
  refine xg_iload C dL_law_1218 rfl ?_
  refine xg_if_eq C 1262 dL_law_1220 (by decide) (fun h => absurd h (by decide)) (fun _ => ?_)
  refine xg_iload C dL_law_1223 rfl ?_
  refine xg_iconst C dL_law_1225 (v := (3 : Int32)) (by decide) ?_
  refine xg_irem C dL_law_1226 (by decide) ?_
  refine xg_if_gt C 1238 dL_law_1227 (by decide) (fun h1 => KA) (fun h1 => ?_)
  refine xg_aload_n C dL_law_1230 rfl ?_
  refine xg_aload_n C dL_law_1231 rfl ?_
  refine xg_callSi C V (as := [.ref (G.2.2 0 0), .ref (G.2.2 35 0)]) (r := (1 : Int32)) (fun l => kL_areMembers l V.1 S hM9) gL_law_L_areMembers rfl hdL_areMembers ⟨by decide, by decide⟩ rfl rfl (Nat.le_of_ble_eq_true rfl) ⟨by show _ ≤ 712973; omega, by show _ ≤ 6962778; omega⟩ dL_law_1232 ?_
  refine xg_if_eq C 1262 dL_law_1235 (by decide) (fun h => absurd h (by decide)) (fun _ => ?_)
  exact KA
set_option maxRecDepth 100000 in
set_option maxHeartbeats 4000000 in
theorem law_loop {F : xF} {G : xG} {Sa : Nat → Nat} {sz b9 N : Nat} {xs : Nat → Int32} {Inv : Nat → Nat → xS → Prop} (C : xC F cL_law 17 RL wsL_law room_1) (V : xV F xYc G) (E3 : xE3 F Sa sz b9 N xs) (hsz : ∀ a : Nat, xA xYc G a → sz ≤ a) (hN : N ≤ 3072) (hI : HInv Inv) (KE : ∀ (k w : Nat) (S : xS) (L : List (Option Value)), k ≤ 712973 → w ≤ 6962778 → xg F k w 1284 L [] (xP xYc G S)) : ∀ (k w : Nat) (S : xS), k ≤ 300 → w ≤ 3000 → Inv 0 0 S → xg F k w 171 [some (.ref b9), some (.ref (G.2.2 0 0)), some (.ref (G.2.2 34 0)), some (.ref (G.2.2 35 0)), some (.ref (G.2.2 36 0)), some (.ref (G.2.2 37 0)), some (.ref (G.2.2 38 0)), some (.ref (G.2.2 39 0)), some (.int (1 : Int32)), some (.int (0 : Int32)), none, none, none, none, none, none, none] [] (xP xYc G S) := by
  have hI0 := hI
  obtain ⟨-, hM, hRf, hmono, hTk, i_A, i_B, i_C, i_D, i_E, i_Fz, i_Fp, i_G, i_H, i_I, i_J⟩ := hI
  have main : ∀ (k w : Nat) (S : xS), k ≤ 300 + 70 * 0 → w ≤ 3000 + 420 * 0 → Inv 0 (15 * 0) S → xg F k w 171 [some (.ref b9), some (.ref (G.2.2 0 0)), some (.ref (G.2.2 34 0)), some (.ref (G.2.2 35 0)), some (.ref (G.2.2 36 0)), some (.ref (G.2.2 37 0)), some (.ref (G.2.2 38 0)), some (.ref (G.2.2 39 0)), some (.int (1 : Int32)), some (.int (nI 0)), none, none, none, none, none, none, none] [] (xP xYc G S) := by
    refine xdown (P := fun n => ∀ (k w : Nat) (S : xS), k ≤ 300 + 70 * n → w ≤ 3000 + 420 * n → Inv n (15 * n) S → xg F k w 171 [some (.ref b9), some (.ref (G.2.2 0 0)), some (.ref (G.2.2 34 0)), some (.ref (G.2.2 35 0)), some (.ref (G.2.2 36 0)), some (.ref (G.2.2 37 0)), some (.ref (G.2.2 38 0)), some (.ref (G.2.2 39 0)), some (.int (1 : Int32)), some (.int (nI n)), none, none, none, none, none, none, none] [] (xP xYc G S)) 90 (fun k w S hk hw hS => ?_) (fun n hn ih k w S hk hw hS => ?_)
    · refine xg_iload C dL_law_171 rfl ?_
      refine xg_bipush C dL_law_173 (v := (90 : Int32)) (by decide) ?_
      refine xg_icmp_ge C 1271 dL_law_175 (by decide) (fun h => ?_) (fun h => absurd (nI_le (Nat.le_refl _) (by decide)) h)
      refine xg_iload C dL_law_1271 rfl ?_
      refine xg_if_eq C 1288 dL_law_1273 (by decide) (fun h => absurd h (by decide)) (fun _ => ?_)
      refine xg_aload_n C dL_law_1276 rfl ?_
      refine xg_aload_n C dL_law_1277 rfl ?_
      refine xg_callSi C V (as := [.ref (G.2.2 0 0), .ref (G.2.2 35 0)]) (r := (1 : Int32)) (fun l => kL_areMembers l V.1 S (hM 90 (15 * 90) S (by decide) (by decide) hS)) gL_law_L_areMembers rfl hdL_areMembers ⟨by decide, by decide⟩ rfl rfl (Nat.le_of_ble_eq_true rfl) ⟨by show _ ≤ 712973; omega, by show _ ≤ 6962778; omega⟩ dL_law_1278 ?_
      refine xg_if_eq C 1288 dL_law_1281 (by decide) (fun h => absurd h (by decide)) (fun _ => ?_)
      exact KE k w S _ (by omega) (by omega)
    · have Ev := xEv_3 E3
      have hk1 : k + 1 ≤ 712973 ∧ w + 6 ≤ 6962778 := by omega
      refine xg_iload C dL_law_171 rfl ?_
      refine xg_bipush C dL_law_173 (v := (90 : Int32)) (by decide) ?_
      refine xg_icmp_ge C 1271 dL_law_175 (by decide) (fun h => absurd h (nI_ge hn (by decide))) (fun h => ?_)
      refine xg_iload C dL_law_178 rfl ?_
      refine xg_if_eq C 1271 dL_law_180 (by decide) (fun h => absurd h (by decide)) (fun _ => ?_)
      refine xg_aload_n C dL_law_183 rfl ?_
      refine xg_iload C dL_law_184 rfl ?_
      refine xg_callD C E3 (fun H H1 h z o => xP_kept h fun a ha => o a (xA_lt h ha)) (fun l => kL_dice l b9 N xs n hN hn) gL_law_L_dice rfl hdL_dice ⟨by decide, by decide⟩ (Nat.le_of_ble_eq_true rfl) ⟨by show _ ≤ 712973; omega, by show _ ≤ 6962778; omega⟩ dL_law_186 (fun X hX => ?_)
      refine xg_istore C dL_law_189 (by decide) (L' := [some (.ref b9), some (.ref (G.2.2 0 0)), some (.ref (G.2.2 34 0)), some (.ref (G.2.2 35 0)), some (.ref (G.2.2 36 0)), some (.ref (G.2.2 37 0)), some (.ref (G.2.2 38 0)), some (.ref (G.2.2 39 0)), some (.int (1 : Int32)), some (.int (nI n)), some (.int (nI X)), none, none, none, none, none, none]) rfl ?_
      refine xg_iload C dL_law_191 rfl ?_
      refine xg_bipush C dL_law_193 (v := (32 : Int32)) (by decide) ?_
      refine xg_idivN C (a := 32) hX (by decide) rfl dL_law_195 ?_
      refine xg_istore C dL_law_196 (by decide) (L' := [some (.ref b9), some (.ref (G.2.2 0 0)), some (.ref (G.2.2 34 0)), some (.ref (G.2.2 35 0)), some (.ref (G.2.2 36 0)), some (.ref (G.2.2 37 0)), some (.ref (G.2.2 38 0)), some (.ref (G.2.2 39 0)), some (.int (1 : Int32)), some (.int (nI n)), some (.int (nI X)), some (.int (nI (X / 32))), none, none, none, none, none]) rfl ?_
      refine xg_iload C dL_law_198 rfl ?_
      refine xg_bipush C dL_law_200 (v := (32 : Int32)) (by decide) ?_
      refine xg_iremN C (a := 32) hX (by decide) rfl dL_law_202 ?_
      refine xg_istore C dL_law_203 (by decide) (L' := [some (.ref b9), some (.ref (G.2.2 0 0)), some (.ref (G.2.2 34 0)), some (.ref (G.2.2 35 0)), some (.ref (G.2.2 36 0)), some (.ref (G.2.2 37 0)), some (.ref (G.2.2 38 0)), some (.ref (G.2.2 39 0)), some (.int (1 : Int32)), some (.int (nI n)), some (.int (nI X)), some (.int (nI (X / 32))), some (.int (nI (X % 32))), none, none, none, none]) rfl ?_
      refine xg_iload C dL_law_205 rfl ?_
      refine xg_bipush C dL_law_207 (v := (8 : Int32)) (by decide) ?_
      refine xg_iremN C (a := 8) (by omega) (by decide) rfl dL_law_209 ?_
      refine xg_istore C dL_law_210 (by decide) (L' := [some (.ref b9), some (.ref (G.2.2 0 0)), some (.ref (G.2.2 34 0)), some (.ref (G.2.2 35 0)), some (.ref (G.2.2 36 0)), some (.ref (G.2.2 37 0)), some (.ref (G.2.2 38 0)), some (.ref (G.2.2 39 0)), some (.int (1 : Int32)), some (.int (nI n)), some (.int (nI X)), some (.int (nI (X / 32))), some (.int (nI (X % 32))), some (.int (nI (X / 32 % 8))), none, none, none]) rfl ?_
      have hv : X / 32 < 67108864 := by omega
      have hkk : X / 32 % 8 < 8 := Nat.mod_lt _ (by decide)
      have ht : 15 * n ≤ 1350 := by omega
      have KK : ∀ (t : Nat) (S' : xS), t ≤ 15 * (n + 1) → Inv (n + 1) t S' → xg F (k + 1) (w + 6) 1218 [some (.ref b9), some (.ref (G.2.2 0 0)), some (.ref (G.2.2 34 0)), some (.ref (G.2.2 35 0)), some (.ref (G.2.2 36 0)), some (.ref (G.2.2 37 0)), some (.ref (G.2.2 38 0)), some (.ref (G.2.2 39 0)), some (.int (1 : Int32)), some (.int (nI n)), some (.int (nI X)), some (.int (nI (X / 32))), some (.int (nI (X % 32))), some (.int (nI (X / 32 % 8))), none, none, none] [] (xP xYc G S') := fun t S' ht' hS' => law_tail C V E3 hsz hN hI0 hn (t := 15 * (n + 1)) (by omega) hX (by omega) (hmono _ _ _ _ _ (Nat.le_refl _) ht' hS') (ih _ _ S' (by omega) (by omega) (hmono _ _ _ _ _ (Nat.le_refl _) ht' hS'))
      refine xg_iload C dL_law_212 rfl ?_
      refine xg_iconst C dL_law_214 (v := (2 : Int32)) (by decide) ?_
      refine xg_icmp_ge C 338 dL_law_215 (by decide) (fun _ => ?_) (fun _ => ?_)
      rotate_left
      · obtain ⟨q1, q2⟩ := i_A n (15 * n) S (X / 32) (X / 32 % 8) hn ht hv hkk hS
        exact lc_A C V Ev hsz hk1 hv hkk q1 (KK (15 * n) _ (by omega) q2)
      refine xg_iload C dL_law_338 rfl ?_
      refine xg_iconst C dL_law_340 (v := (2 : Int32)) (by decide) ?_
      refine xg_icmp_ne C 405 dL_law_341 (by decide) (fun _ => ?_) (fun _ => ?_)
      rotate_left
      · obtain ⟨q1, q2⟩ := i_B n (15 * n) S (X / 32) (X / 32 % 8) hn ht hv hkk hS
        exact lc_B C V Ev hsz hk1 hv hkk q1 (KK (15 * n) _ (by omega) q2)
      refine xg_iload C dL_law_405 rfl ?_
      refine xg_iconst C dL_law_407 (v := (5 : Int32)) (by decide) ?_
      refine xg_icmp_ge C 465 dL_law_408 (by decide) (fun _ => ?_) (fun _ => ?_)
      rotate_left
      · obtain ⟨q1, q2⟩ := i_C n (15 * n) S (X / 32) (X / 32 % 8) hn ht hv hkk hS
        exact lc_C C V Ev hsz hk1 hv hkk q1 (KK (15 * n) _ (by omega) q2)
      refine xg_iload C dL_law_465 rfl ?_
      refine xg_bipush C dL_law_467 (v := (9 : Int32)) (by decide) ?_
      refine xg_icmp_ge C 544 dL_law_469 (by decide) (fun _ => ?_) (fun _ => ?_)
      rotate_left
      · obtain ⟨q1, q2⟩ := i_D n (15 * n) S (X / 32) (X / 32 % 8) hn ht hv hkk hS
        exact lc_D C V Ev hsz hk1 hv hkk q1 (KK (15 * n) _ (by omega) q2)
      refine xg_iload C dL_law_544 rfl ?_
      refine xg_bipush C dL_law_546 (v := (11 : Int32)) (by decide) ?_
      refine xg_icmp_ge C 703 dL_law_548 (by decide) (fun _ => ?_) (fun _ => ?_)
      rotate_left
      · obtain ⟨q1, q2⟩ := i_E n (15 * n) S (X / 32) (X / 32 % 8) hn ht hv hkk hS
        exact lc_E C V Ev hsz hk1 hv hkk q1 (KK (15 * n) _ (by omega) q2)
      refine xg_iload C dL_law_703 rfl ?_
      refine xg_bipush C dL_law_705 (v := (13 : Int32)) (by decide) ?_
      refine xg_icmp_ge C 826 dL_law_707 (by decide) (fun _ => ?_) (fun _ => ?_)
      rotate_left
      · by_cases h9 : X / 32 / 8 % 12 = 0
        · obtain ⟨q1, q2⟩ := i_Fz n (15 * n) S (X / 32) (X / 32 % 8) hn ht hv hkk h9 hS
          exact lc_Fz C V Ev hsz hk1 hv hkk h9 q1 (KK (15 * n) _ (by omega) q2)
        · have h9 : 1 ≤ X / 32 / 8 % 12 := by omega
          obtain ⟨q1, q2⟩ := i_Fp n (15 * n) S (X / 32) (X / 32 % 8) hn ht hv hkk h9 hS
          exact lc_Fp C V Ev hsz hk1 hv hkk h9 q1 (KK (15 * n) _ (by omega) q2)
      refine xg_iload C dL_law_826 rfl ?_
      refine xg_bipush C dL_law_828 (v := (16 : Int32)) (by decide) ?_
      refine xg_icmp_ge C 940 dL_law_830 (by decide) (fun _ => ?_) (fun _ => ?_)
      rotate_left
      · obtain ⟨q1, q2⟩ := i_G n (15 * n) S (X / 32) (X / 32 % 8) hn ht hv hkk hS
        exact lc_G C V Ev hsz hk1 hv hkk q1 (KK (15 * n) _ (by omega) q2)
      refine xg_iload C dL_law_940 rfl ?_
      refine xg_bipush C dL_law_942 (v := (18 : Int32)) (by decide) ?_
      refine xg_icmp_ge C 1015 dL_law_944 (by decide) (fun _ => ?_) (fun _ => ?_)
      rotate_left
      · obtain ⟨q1, q2⟩ := i_H n (15 * n) S (X / 32) (X / 32 % 8) hn ht hv hkk hS
        exact lc_H C V Ev hsz hk1 hv hkk q1 (KK (15 * n) _ (by omega) q2)
      refine xg_iload C dL_law_1015 rfl ?_
      refine xg_bipush C dL_law_1017 (v := (18 : Int32)) (by decide) ?_
      refine xg_icmp_ne C 1078 dL_law_1019 (by decide) (fun _ => ?_) (fun _ => ?_)
      rotate_left
      · obtain ⟨q1, q2⟩ := i_I n (15 * n) S (X / 32) (X / 32 % 8) hn ht hv hkk hS
        exact lc_I C V Ev hsz hk1 hv hkk q1 (KK (15 * n) _ (by omega) q2)
      refine xg_iload C dL_law_1078 rfl ?_
      refine xg_bipush C dL_law_1080 (v := (19 : Int32)) (by decide) ?_
      refine xg_icmp_ne C 1160 dL_law_1082 (by decide) (fun _ => ?_) (fun _ => ?_)
      rotate_left
      · obtain ⟨q1, q2⟩ := i_J n (15 * n) S (X / 32) (X / 32 % 8) hn ht hv hkk hS
        exact lc_J C V Ev hsz hk1 hv hkk q1 (KK (15 * n) _ (by omega) q2)
      exact lc_T C V Ev hsz hk1 hv hkk (fun i x => Inv n (15 * n + i) x) hS (fun i hi x hx => (hTk n (15 * n + i) x hn (by omega) hx).2) (fun i hi x hx => (hTk n (15 * n + i) x hn (by omega) hx).1) (fun M hM9 S' hS' => KK (15 * n + M) S' (by omega) (hmono _ _ _ _ _ (Nat.le_succ _) (Nat.le_refl _) hS'))
  intro k w S hk hw hS
  have := main k w S hk hw hS
  rw [nI_0] at this
  exact this
