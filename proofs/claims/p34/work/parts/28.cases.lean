/-! 28: the law, a theorem a case (plan28.py) -/
def cS_A (v kk : Nat) (S : xS) : xS :=
  if (nI (v % 3)) = (0 : Int32) then
    if (nI (v % 5)) = (0 : Int32) then
      (fX3_shape (nI kk) (nI (1 + ((v / 8) % 100))) (nI (1 + ((v / 800) % 1000))) (xu (xu S 34 0 ((8 : Int32) * (nI kk)) (nI (1 + ((v / 8) % 100)))) 34 0 (((8 : Int32) * (nI kk)) + (1 : Int32)) (nI (1 + ((v / 800) % 1000)))))
    else
      (fX3_shape (nI kk) (nI (1 + ((v / 8) % 100))) (nI (1 + ((v / 800) % 90))) (xu (xu S 34 0 ((8 : Int32) * (nI kk)) (nI (1 + ((v / 8) % 100)))) 34 0 (((8 : Int32) * (nI kk)) + (1 : Int32)) (nI (1 + ((v / 800) % 90)))))
  else
    if (nI (v % 5)) = (0 : Int32) then
      (fX3_shape (nI kk) (nI (1 + ((v / 8) % 10))) (nI (1 + ((v / 800) % 1000))) (xu (xu S 34 0 ((8 : Int32) * (nI kk)) (nI (1 + ((v / 8) % 10)))) 34 0 (((8 : Int32) * (nI kk)) + (1 : Int32)) (nI (1 + ((v / 800) % 1000)))))
    else
      (fX3_shape (nI kk) (nI (1 + ((v / 8) % 10))) (nI (1 + ((v / 800) % 90))) (xu (xu S 34 0 ((8 : Int32) * (nI kk)) (nI (1 + ((v / 8) % 10)))) 34 0 (((8 : Int32) * (nI kk)) + (1 : Int32)) (nI (1 + ((v / 800) % 90)))))
def cO_A (v kk : Nat) (S : xS) : Prop :=
  (¬ (nI (v % 3)) = (0 : Int32) → ¬ (nI (v % 5)) = (0 : Int32) → ¬ (nI (1 + ((v / 8) % 10))) < (1 : Int32)) ∧
  (¬ (nI (v % 3)) = (0 : Int32) → ¬ (nI (v % 5)) = (0 : Int32) → (nI (1 + ((v / 8) % 10))) ≤ (100 : Int32)) ∧
  (¬ (nI (v % 3)) = (0 : Int32) → ¬ (nI (v % 5)) = (0 : Int32) → ¬ (nI (1 + ((v / 800) % 90))) < (1 : Int32)) ∧
  (¬ (nI (v % 3)) = (0 : Int32) → ¬ (nI (v % 5)) = (0 : Int32) → (nI (1 + ((v / 800) % 90))) ≤ (1000 : Int32)) ∧
  (¬ (nI (v % 3)) = (0 : Int32) → ¬ (nI (v % 5)) = (0 : Int32) → ¬ ((fX3_shape (nI kk) (nI (1 + ((v / 8) % 10))) (nI (1 + ((v / 800) % 90))) (xu (xu S 34 0 ((8 : Int32) * (nI kk)) (nI (1 + ((v / 8) % 10)))) 34 0 (((8 : Int32) * (nI kk)) + (1 : Int32)) (nI (1 + ((v / 800) % 90))))) 34 0 ((8 : Int32) * (nI kk))) = (0 : Int32)) ∧
  (¬ (nI (v % 3)) = (0 : Int32) → ¬ (nI (v % 5)) = (0 : Int32) → (fX3_level (nI kk) (fX3_shape (nI kk) (nI (1 + ((v / 8) % 10))) (nI (1 + ((v / 800) % 90))) (xu (xu S 34 0 ((8 : Int32) * (nI kk)) (nI (1 + ((v / 8) % 10)))) 34 0 (((8 : Int32) * (nI kk)) + (1 : Int32)) (nI (1 + ((v / 800) % 90)))))) = ((fX3_volume (nI kk) (fX3_shape (nI kk) (nI (1 + ((v / 8) % 10))) (nI (1 + ((v / 800) % 90))) (xu (xu S 34 0 ((8 : Int32) * (nI kk)) (nI (1 + ((v / 8) % 10)))) 34 0 (((8 : Int32) * (nI kk)) + (1 : Int32)) (nI (1 + ((v / 800) % 90)))))) / ((fX3_shape (nI kk) (nI (1 + ((v / 8) % 10))) (nI (1 + ((v / 800) % 90))) (xu (xu S 34 0 ((8 : Int32) * (nI kk)) (nI (1 + ((v / 8) % 10)))) 34 0 (((8 : Int32) * (nI kk)) + (1 : Int32)) (nI (1 + ((v / 800) % 90))))) 34 0 ((8 : Int32) * (nI kk))))) ∧
  (¬ (nI (v % 3)) = (0 : Int32) → (nI (v % 5)) = (0 : Int32) → ¬ (nI (1 + ((v / 8) % 10))) < (1 : Int32)) ∧
  (¬ (nI (v % 3)) = (0 : Int32) → (nI (v % 5)) = (0 : Int32) → (nI (1 + ((v / 8) % 10))) ≤ (100 : Int32)) ∧
  (¬ (nI (v % 3)) = (0 : Int32) → (nI (v % 5)) = (0 : Int32) → ¬ (nI (1 + ((v / 800) % 1000))) < (1 : Int32)) ∧
  (¬ (nI (v % 3)) = (0 : Int32) → (nI (v % 5)) = (0 : Int32) → (nI (1 + ((v / 800) % 1000))) ≤ (1000 : Int32)) ∧
  (¬ (nI (v % 3)) = (0 : Int32) → (nI (v % 5)) = (0 : Int32) → ¬ ((fX3_shape (nI kk) (nI (1 + ((v / 8) % 10))) (nI (1 + ((v / 800) % 1000))) (xu (xu S 34 0 ((8 : Int32) * (nI kk)) (nI (1 + ((v / 8) % 10)))) 34 0 (((8 : Int32) * (nI kk)) + (1 : Int32)) (nI (1 + ((v / 800) % 1000))))) 34 0 ((8 : Int32) * (nI kk))) = (0 : Int32)) ∧
  (¬ (nI (v % 3)) = (0 : Int32) → (nI (v % 5)) = (0 : Int32) → (fX3_level (nI kk) (fX3_shape (nI kk) (nI (1 + ((v / 8) % 10))) (nI (1 + ((v / 800) % 1000))) (xu (xu S 34 0 ((8 : Int32) * (nI kk)) (nI (1 + ((v / 8) % 10)))) 34 0 (((8 : Int32) * (nI kk)) + (1 : Int32)) (nI (1 + ((v / 800) % 1000)))))) = ((fX3_volume (nI kk) (fX3_shape (nI kk) (nI (1 + ((v / 8) % 10))) (nI (1 + ((v / 800) % 1000))) (xu (xu S 34 0 ((8 : Int32) * (nI kk)) (nI (1 + ((v / 8) % 10)))) 34 0 (((8 : Int32) * (nI kk)) + (1 : Int32)) (nI (1 + ((v / 800) % 1000)))))) / ((fX3_shape (nI kk) (nI (1 + ((v / 8) % 10))) (nI (1 + ((v / 800) % 1000))) (xu (xu S 34 0 ((8 : Int32) * (nI kk)) (nI (1 + ((v / 8) % 10)))) 34 0 (((8 : Int32) * (nI kk)) + (1 : Int32)) (nI (1 + ((v / 800) % 1000))))) 34 0 ((8 : Int32) * (nI kk))))) ∧
  ((nI (v % 3)) = (0 : Int32) → ¬ (nI (v % 5)) = (0 : Int32) → ¬ (nI (1 + ((v / 8) % 100))) < (1 : Int32)) ∧
  ((nI (v % 3)) = (0 : Int32) → ¬ (nI (v % 5)) = (0 : Int32) → (nI (1 + ((v / 8) % 100))) ≤ (100 : Int32)) ∧
  ((nI (v % 3)) = (0 : Int32) → ¬ (nI (v % 5)) = (0 : Int32) → ¬ (nI (1 + ((v / 800) % 90))) < (1 : Int32)) ∧
  ((nI (v % 3)) = (0 : Int32) → ¬ (nI (v % 5)) = (0 : Int32) → (nI (1 + ((v / 800) % 90))) ≤ (1000 : Int32)) ∧
  ((nI (v % 3)) = (0 : Int32) → ¬ (nI (v % 5)) = (0 : Int32) → ¬ ((fX3_shape (nI kk) (nI (1 + ((v / 8) % 100))) (nI (1 + ((v / 800) % 90))) (xu (xu S 34 0 ((8 : Int32) * (nI kk)) (nI (1 + ((v / 8) % 100)))) 34 0 (((8 : Int32) * (nI kk)) + (1 : Int32)) (nI (1 + ((v / 800) % 90))))) 34 0 ((8 : Int32) * (nI kk))) = (0 : Int32)) ∧
  ((nI (v % 3)) = (0 : Int32) → ¬ (nI (v % 5)) = (0 : Int32) → (fX3_level (nI kk) (fX3_shape (nI kk) (nI (1 + ((v / 8) % 100))) (nI (1 + ((v / 800) % 90))) (xu (xu S 34 0 ((8 : Int32) * (nI kk)) (nI (1 + ((v / 8) % 100)))) 34 0 (((8 : Int32) * (nI kk)) + (1 : Int32)) (nI (1 + ((v / 800) % 90)))))) = ((fX3_volume (nI kk) (fX3_shape (nI kk) (nI (1 + ((v / 8) % 100))) (nI (1 + ((v / 800) % 90))) (xu (xu S 34 0 ((8 : Int32) * (nI kk)) (nI (1 + ((v / 8) % 100)))) 34 0 (((8 : Int32) * (nI kk)) + (1 : Int32)) (nI (1 + ((v / 800) % 90)))))) / ((fX3_shape (nI kk) (nI (1 + ((v / 8) % 100))) (nI (1 + ((v / 800) % 90))) (xu (xu S 34 0 ((8 : Int32) * (nI kk)) (nI (1 + ((v / 8) % 100)))) 34 0 (((8 : Int32) * (nI kk)) + (1 : Int32)) (nI (1 + ((v / 800) % 90))))) 34 0 ((8 : Int32) * (nI kk))))) ∧
  ((nI (v % 3)) = (0 : Int32) → (nI (v % 5)) = (0 : Int32) → ¬ (nI (1 + ((v / 8) % 100))) < (1 : Int32)) ∧
  ((nI (v % 3)) = (0 : Int32) → (nI (v % 5)) = (0 : Int32) → (nI (1 + ((v / 8) % 100))) ≤ (100 : Int32)) ∧
  ((nI (v % 3)) = (0 : Int32) → (nI (v % 5)) = (0 : Int32) → ¬ (nI (1 + ((v / 800) % 1000))) < (1 : Int32)) ∧
  ((nI (v % 3)) = (0 : Int32) → (nI (v % 5)) = (0 : Int32) → (nI (1 + ((v / 800) % 1000))) ≤ (1000 : Int32)) ∧
  ((nI (v % 3)) = (0 : Int32) → (nI (v % 5)) = (0 : Int32) → ¬ ((fX3_shape (nI kk) (nI (1 + ((v / 8) % 100))) (nI (1 + ((v / 800) % 1000))) (xu (xu S 34 0 ((8 : Int32) * (nI kk)) (nI (1 + ((v / 8) % 100)))) 34 0 (((8 : Int32) * (nI kk)) + (1 : Int32)) (nI (1 + ((v / 800) % 1000))))) 34 0 ((8 : Int32) * (nI kk))) = (0 : Int32)) ∧
  ((nI (v % 3)) = (0 : Int32) → (nI (v % 5)) = (0 : Int32) → (fX3_level (nI kk) (fX3_shape (nI kk) (nI (1 + ((v / 8) % 100))) (nI (1 + ((v / 800) % 1000))) (xu (xu S 34 0 ((8 : Int32) * (nI kk)) (nI (1 + ((v / 8) % 100)))) 34 0 (((8 : Int32) * (nI kk)) + (1 : Int32)) (nI (1 + ((v / 800) % 1000)))))) = ((fX3_volume (nI kk) (fX3_shape (nI kk) (nI (1 + ((v / 8) % 100))) (nI (1 + ((v / 800) % 1000))) (xu (xu S 34 0 ((8 : Int32) * (nI kk)) (nI (1 + ((v / 8) % 100)))) 34 0 (((8 : Int32) * (nI kk)) + (1 : Int32)) (nI (1 + ((v / 800) % 1000)))))) / ((fX3_shape (nI kk) (nI (1 + ((v / 8) % 100))) (nI (1 + ((v / 800) % 1000))) (xu (xu S 34 0 ((8 : Int32) * (nI kk)) (nI (1 + ((v / 8) % 100)))) 34 0 (((8 : Int32) * (nI kk)) + (1 : Int32)) (nI (1 + ((v / 800) % 1000))))) 34 0 ((8 : Int32) * (nI kk)))))
set_option maxRecDepth 100000 in
set_option maxHeartbeats 4000000 in
theorem lc_A {F : xF} {G : xG} {Sa : Nat → Nat} {sz : Nat} {S : xS} {k w b9 n v kk : Nat} {y9 z9 : Int32} (C : xC F cL_law 17 RL wsL_law room_1) (V : xV F xYc G) (Ev : xEv F Sa sz) (hsz : ∀ a : Nat, xA xYc G a → sz ≤ a) (hk : k + 1 ≤ 712973 ∧ w + 6 ≤ 6962778) (hv : v < 67108864) (hkk : kk < 8) (hO : cO_A v kk S) (K : xg F (k + 1) (w + 6) 1218 [some (.ref b9), some (.ref (G.2.2 0 0)), some (.ref (G.2.2 34 0)), some (.ref (G.2.2 35 0)), some (.ref (G.2.2 36 0)), some (.ref (G.2.2 37 0)), some (.ref (G.2.2 38 0)), some (.ref (G.2.2 39 0)), some (.int (1 : Int32)), some (.int (nI n)), some (.int y9), some (.int (nI v)), some (.int z9), some (.int (nI kk)), none, none, none] [] (xP xYc G (cS_A v kk S))) : xg F k w 218 [some (.ref b9), some (.ref (G.2.2 0 0)), some (.ref (G.2.2 34 0)), some (.ref (G.2.2 35 0)), some (.ref (G.2.2 36 0)), some (.ref (G.2.2 37 0)), some (.ref (G.2.2 38 0)), some (.ref (G.2.2 39 0)), some (.int (1 : Int32)), some (.int (nI n)), some (.int y9), some (.int (nI v)), some (.int z9), some (.int (nI kk)), none, none, none] [] (xP xYc G S) := by
  obtain ⟨hO1, hO2, hO3, hO4, hO5, hO6, hO7, hO8, hO9, hO10, hO11, hO12, hO13, hO14, hO15, hO16, hO17, hO18, hO19, hO20, hO21, hO22, hO23, hO24⟩ := hO
  have hap : xAp xYc G := V.1
  have hk8 : vp_in (nI kk) 8 := vp_in_nI hkk (by decide)
  refine xg_aload_n C dL_law_218 rfl ?_
  refine xg_bipush C dL_law_219 (v := (8 : Int32)) (by decide) ?_
  refine xg_iload C dL_law_221 rfl ?_
  refine xg_imul C dL_law_223 ?_
  refine xg_iconst C dL_law_224 (v := (1 : Int32)) (by decide) ?_
  refine xg_iload C dL_law_225 rfl ?_
  refine xg_bipush C dL_law_227 (v := (8 : Int32)) (by decide) ?_
  refine xg_idivN C (a := 8) (by omega) (by decide) rfl dL_law_229 ?_
  refine xg_iload C dL_law_230 rfl ?_
  refine xg_iconst C dL_law_232 (v := (3 : Int32)) (by decide) ?_
  refine xg_iremN C (a := 3) (by omega) (by decide) rfl dL_law_233 ?_
  refine xg_if_ne C 242 dL_law_234 (by decide) (fun h1 => ?_) (fun h1 => ?_)
  · refine xg_bipush C dL_law_242 (v := (10 : Int32)) (by decide) ?_
    refine xg_iremN C (a := 10) (by omega) (by decide) rfl dL_law_244 ?_
    refine xg_iaddN C (a := 1) rfl dL_law_245 ?_
    refine xg_iast C V (f := 34) (n := 1) (N := 64) rfl (by decide) (xR_0 (by decide)) (xin_8 (by assumption)) dL_law_246 ?_
    refine xg_aload_n C dL_law_247 rfl ?_
    refine xg_bipush C dL_law_248 (v := (8 : Int32)) (by decide) ?_
    refine xg_iload C dL_law_250 rfl ?_
    refine xg_imul C dL_law_252 ?_
    refine xg_iconst C dL_law_253 (v := (1 : Int32)) (by decide) ?_
    refine xg_iadd C dL_law_254 ?_
    refine xg_iconst C dL_law_255 (v := (1 : Int32)) (by decide) ?_
    refine xg_iload C dL_law_256 rfl ?_
    refine xg_sipush C dL_law_258 (v := (800 : Int32)) (by decide) ?_
    refine xg_idivN C (a := 800) (by omega) (by decide) rfl dL_law_261 ?_
    refine xg_iload C dL_law_262 rfl ?_
    refine xg_iconst C dL_law_264 (v := (5 : Int32)) (by decide) ?_
    refine xg_iremN C (a := 5) (by omega) (by decide) rfl dL_law_265 ?_
    refine xg_if_ne C 275 dL_law_266 (by decide) (fun h2 => ?_) (fun h2 => ?_)
    · refine xg_bipush C dL_law_275 (v := (90 : Int32)) (by decide) ?_
      refine xg_iremN C (a := 90) (by omega) (by decide) rfl dL_law_277 ?_
      refine xg_iaddN C (a := 1) rfl dL_law_278 ?_
      refine xg_iast C V (f := 34) (n := 1) (N := 64) rfl (by decide) (xR_0 (by decide)) (xin_8k (by assumption) (vp_in_iff.mpr ⟨by decide, by decide⟩)) dL_law_279 ?_
      refine xg_aload_n C dL_law_280 rfl ?_
      refine xg_iload C dL_law_281 rfl ?_
      refine xg_aload_n C dL_law_283 rfl ?_
      refine xg_bipush C dL_law_284 (v := (8 : Int32)) (by decide) ?_
      refine xg_iload C dL_law_286 rfl ?_
      refine xg_imul C dL_law_288 ?_
      refine xg_iald C V (f := 34) (n := 1) (N := 64) rfl (by decide) (xR_0 (by decide)) (xin_8 (by assumption)) dL_law_289 (v := (nI (1 + ((v / 8) % 10)))) ((xu_08 (by decide)).trans xu_same) ?_
      refine xg_aload_n C dL_law_290 rfl ?_
      refine xg_bipush C dL_law_291 (v := (8 : Int32)) (by decide) ?_
      refine xg_iload C dL_law_293 rfl ?_
      refine xg_imul C dL_law_295 ?_
      refine xg_iconst C dL_law_296 (v := (1 : Int32)) (by decide) ?_
      refine xg_iadd C dL_law_297 ?_
      refine xg_iald C V (f := 34) (n := 1) (N := 64) rfl (by decide) (xR_0 (by decide)) (xin_8k (by assumption) (vp_in_iff.mpr ⟨by decide, by decide⟩)) dL_law_298 (v := (nI (1 + ((v / 800) % 90)))) xu_same ?_
      refine xg_callSiW C V (as := [.ref (G.2.2 0 0), .int (nI kk), .int (nI (1 + ((v / 8) % 10))), .int (nI (1 + ((v / 800) % 90)))]) (r := (0 : Int32)) (fun l => kL_shaped l hap (nI kk) (nI (1 + ((v / 8) % 10))) (nI (1 + ((v / 800) % 90))) (xu (xu S 34 0 ((8 : Int32) * (nI kk)) (nI (1 + ((v / 8) % 10)))) 34 0 (((8 : Int32) * (nI kk)) + (1 : Int32)) (nI (1 + ((v / 800) % 90)))) (by assumption) (hO1 h1 h2) (hO2 h1 h2) (hO3 h1 h2) (hO4 h1 h2)) gL_law_L_shaped rfl hdL_shaped ⟨by decide, by decide⟩ rfl rfl (Nat.le_of_ble_eq_true rfl) ⟨by show _ ≤ 712973; omega, by show _ ≤ 6962778; omega⟩ dL_law_299 ?_
      refine xg_if_ne C 332 dL_law_302 (by decide) (fun h3 => by exact absurd h3 (by decide)) (fun h3 => ?_)
      refine xg_aload_n C dL_law_305 rfl ?_
      refine xg_iload C dL_law_306 rfl ?_
      refine xg_callVi C V (f := 0) (As := [.int (nI kk)]) (r := (fX3_level (nI kk) (fX3_shape (nI kk) (nI (1 + ((v / 8) % 10))) (nI (1 + ((v / 800) % 90))) (xu (xu S 34 0 ((8 : Int32) * (nI kk)) (nI (1 + ((v / 8) % 10)))) 34 0 (((8 : Int32) * (nI kk)) + (1 : Int32)) (nI (1 + ((v / 800) % 90))))))) (fun l => kX3_level l hap (nI kk) (fX3_shape (nI kk) (nI (1 + ((v / 8) % 10))) (nI (1 + ((v / 800) % 90))) (xu (xu S 34 0 ((8 : Int32) * (nI kk)) (nI (1 + ((v / 8) % 10)))) 34 0 (((8 : Int32) * (nI kk)) + (1 : Int32)) (nI (1 + ((v / 800) % 90))))) (by assumption)) gL_law_X3_level rfl hdX3_level ⟨by decide, by decide⟩ rfl rfl rfl rfl rfl (Nat.le_of_ble_eq_true rfl) ⟨by show _ ≤ 712973; omega, by show _ ≤ 6962778; omega⟩ dL_law_308 ?_
      refine xg_aload_n C dL_law_311 rfl ?_
      refine xg_iload C dL_law_312 rfl ?_
      refine xg_callVi C V (f := 0) (As := [.int (nI kk)]) (r := (fX3_volume (nI kk) (fX3_shape (nI kk) (nI (1 + ((v / 8) % 10))) (nI (1 + ((v / 800) % 90))) (xu (xu S 34 0 ((8 : Int32) * (nI kk)) (nI (1 + ((v / 8) % 10)))) 34 0 (((8 : Int32) * (nI kk)) + (1 : Int32)) (nI (1 + ((v / 800) % 90))))))) (fun l => kX3_volume l hap (nI kk) (fX3_shape (nI kk) (nI (1 + ((v / 8) % 10))) (nI (1 + ((v / 800) % 90))) (xu (xu S 34 0 ((8 : Int32) * (nI kk)) (nI (1 + ((v / 8) % 10)))) 34 0 (((8 : Int32) * (nI kk)) + (1 : Int32)) (nI (1 + ((v / 800) % 90))))) (by assumption)) gL_law_X3_volume rfl hdX3_volume ⟨by decide, by decide⟩ rfl rfl rfl rfl rfl (Nat.le_of_ble_eq_true rfl) ⟨by show _ ≤ 712973; omega, by show _ ≤ 6962778; omega⟩ dL_law_314 ?_
      refine xg_aload_n C dL_law_317 rfl ?_
      refine xg_bipush C dL_law_318 (v := (8 : Int32)) (by decide) ?_
      refine xg_iload C dL_law_320 rfl ?_
      refine xg_imul C dL_law_322 ?_
      refine xg_iald C V (f := 34) (n := 1) (N := 64) rfl (by decide) (xR_0 (by decide)) (xin_8 (by assumption)) dL_law_323 (v := ((fX3_shape (nI kk) (nI (1 + ((v / 8) % 10))) (nI (1 + ((v / 800) % 90))) (xu (xu S 34 0 ((8 : Int32) * (nI kk)) (nI (1 + ((v / 8) % 10)))) 34 0 (((8 : Int32) * (nI kk)) + (1 : Int32)) (nI (1 + ((v / 800) % 90))))) 34 0 ((8 : Int32) * (nI kk)))) rfl ?_
      refine xg_idiv C dL_law_324 (hO5 h1 h2) ?_
      refine xg_icmp_ne C 332 dL_law_325 (by decide) (fun h4 => absurd (hO6 h1 h2) h4) (fun h4 => ?_)
      refine xg_iconst C dL_law_328 (v := (1 : Int32)) (by decide) ?_
      refine xg_goto C 333 dL_law_329 (by decide) ?_
      refine xg_istore C dL_law_333 (by decide) (L' := [some (.ref b9), some (.ref (G.2.2 0 0)), some (.ref (G.2.2 34 0)), some (.ref (G.2.2 35 0)), some (.ref (G.2.2 36 0)), some (.ref (G.2.2 37 0)), some (.ref (G.2.2 38 0)), some (.ref (G.2.2 39 0)), some (.int (1 : Int32)), some (.int (nI n)), some (.int y9), some (.int (nI v)), some (.int z9), some (.int (nI kk)), none, none, none]) rfl ?_
      refine xg_goto C 1218 dL_law_335 (by decide) ?_
      have e : (cS_A v kk S) = (fX3_shape (nI kk) (nI (1 + ((v / 8) % 10))) (nI (1 + ((v / 800) % 90))) (xu (xu S 34 0 ((8 : Int32) * (nI kk)) (nI (1 + ((v / 8) % 10)))) 34 0 (((8 : Int32) * (nI kk)) + (1 : Int32)) (nI (1 + ((v / 800) % 90))))) := by first | (rw [cS_A, if_neg h1, if_neg h2]; done) | (rw [cS_A, if_neg h1, if_neg h2]; rfl)
      rw [e] at K
      exact xg_wide (xg_le K ⟨rfl, rfl, rfl, rfl, rfl, rfl, rfl, rfl, rfl, rfl, rfl, rfl, rfl, rfl, trivial⟩) (by omega) (by omega)
    · refine xg_sipush C dL_law_269 (v := (1000 : Int32)) (by decide) ?_
      refine xg_goto C 277 dL_law_272 (by decide) ?_
      refine xg_iremN C (a := 1000) (by omega) (by decide) rfl dL_law_277 ?_
      refine xg_iaddN C (a := 1) rfl dL_law_278 ?_
      refine xg_iast C V (f := 34) (n := 1) (N := 64) rfl (by decide) (xR_0 (by decide)) (xin_8k (by assumption) (vp_in_iff.mpr ⟨by decide, by decide⟩)) dL_law_279 ?_
      refine xg_aload_n C dL_law_280 rfl ?_
      refine xg_iload C dL_law_281 rfl ?_
      refine xg_aload_n C dL_law_283 rfl ?_
      refine xg_bipush C dL_law_284 (v := (8 : Int32)) (by decide) ?_
      refine xg_iload C dL_law_286 rfl ?_
      refine xg_imul C dL_law_288 ?_
      refine xg_iald C V (f := 34) (n := 1) (N := 64) rfl (by decide) (xR_0 (by decide)) (xin_8 (by assumption)) dL_law_289 (v := (nI (1 + ((v / 8) % 10)))) ((xu_08 (by decide)).trans xu_same) ?_
      refine xg_aload_n C dL_law_290 rfl ?_
      refine xg_bipush C dL_law_291 (v := (8 : Int32)) (by decide) ?_
      refine xg_iload C dL_law_293 rfl ?_
      refine xg_imul C dL_law_295 ?_
      refine xg_iconst C dL_law_296 (v := (1 : Int32)) (by decide) ?_
      refine xg_iadd C dL_law_297 ?_
      refine xg_iald C V (f := 34) (n := 1) (N := 64) rfl (by decide) (xR_0 (by decide)) (xin_8k (by assumption) (vp_in_iff.mpr ⟨by decide, by decide⟩)) dL_law_298 (v := (nI (1 + ((v / 800) % 1000)))) xu_same ?_
      refine xg_callSiW C V (as := [.ref (G.2.2 0 0), .int (nI kk), .int (nI (1 + ((v / 8) % 10))), .int (nI (1 + ((v / 800) % 1000)))]) (r := (0 : Int32)) (fun l => kL_shaped l hap (nI kk) (nI (1 + ((v / 8) % 10))) (nI (1 + ((v / 800) % 1000))) (xu (xu S 34 0 ((8 : Int32) * (nI kk)) (nI (1 + ((v / 8) % 10)))) 34 0 (((8 : Int32) * (nI kk)) + (1 : Int32)) (nI (1 + ((v / 800) % 1000)))) (by assumption) (hO7 h1 h2) (hO8 h1 h2) (hO9 h1 h2) (hO10 h1 h2)) gL_law_L_shaped rfl hdL_shaped ⟨by decide, by decide⟩ rfl rfl (Nat.le_of_ble_eq_true rfl) ⟨by show _ ≤ 712973; omega, by show _ ≤ 6962778; omega⟩ dL_law_299 ?_
      refine xg_if_ne C 332 dL_law_302 (by decide) (fun h5 => by exact absurd h5 (by decide)) (fun h5 => ?_)
      refine xg_aload_n C dL_law_305 rfl ?_
      refine xg_iload C dL_law_306 rfl ?_
      refine xg_callVi C V (f := 0) (As := [.int (nI kk)]) (r := (fX3_level (nI kk) (fX3_shape (nI kk) (nI (1 + ((v / 8) % 10))) (nI (1 + ((v / 800) % 1000))) (xu (xu S 34 0 ((8 : Int32) * (nI kk)) (nI (1 + ((v / 8) % 10)))) 34 0 (((8 : Int32) * (nI kk)) + (1 : Int32)) (nI (1 + ((v / 800) % 1000))))))) (fun l => kX3_level l hap (nI kk) (fX3_shape (nI kk) (nI (1 + ((v / 8) % 10))) (nI (1 + ((v / 800) % 1000))) (xu (xu S 34 0 ((8 : Int32) * (nI kk)) (nI (1 + ((v / 8) % 10)))) 34 0 (((8 : Int32) * (nI kk)) + (1 : Int32)) (nI (1 + ((v / 800) % 1000))))) (by assumption)) gL_law_X3_level rfl hdX3_level ⟨by decide, by decide⟩ rfl rfl rfl rfl rfl (Nat.le_of_ble_eq_true rfl) ⟨by show _ ≤ 712973; omega, by show _ ≤ 6962778; omega⟩ dL_law_308 ?_
      refine xg_aload_n C dL_law_311 rfl ?_
      refine xg_iload C dL_law_312 rfl ?_
      refine xg_callVi C V (f := 0) (As := [.int (nI kk)]) (r := (fX3_volume (nI kk) (fX3_shape (nI kk) (nI (1 + ((v / 8) % 10))) (nI (1 + ((v / 800) % 1000))) (xu (xu S 34 0 ((8 : Int32) * (nI kk)) (nI (1 + ((v / 8) % 10)))) 34 0 (((8 : Int32) * (nI kk)) + (1 : Int32)) (nI (1 + ((v / 800) % 1000))))))) (fun l => kX3_volume l hap (nI kk) (fX3_shape (nI kk) (nI (1 + ((v / 8) % 10))) (nI (1 + ((v / 800) % 1000))) (xu (xu S 34 0 ((8 : Int32) * (nI kk)) (nI (1 + ((v / 8) % 10)))) 34 0 (((8 : Int32) * (nI kk)) + (1 : Int32)) (nI (1 + ((v / 800) % 1000))))) (by assumption)) gL_law_X3_volume rfl hdX3_volume ⟨by decide, by decide⟩ rfl rfl rfl rfl rfl (Nat.le_of_ble_eq_true rfl) ⟨by show _ ≤ 712973; omega, by show _ ≤ 6962778; omega⟩ dL_law_314 ?_
      refine xg_aload_n C dL_law_317 rfl ?_
      refine xg_bipush C dL_law_318 (v := (8 : Int32)) (by decide) ?_
      refine xg_iload C dL_law_320 rfl ?_
      refine xg_imul C dL_law_322 ?_
      refine xg_iald C V (f := 34) (n := 1) (N := 64) rfl (by decide) (xR_0 (by decide)) (xin_8 (by assumption)) dL_law_323 (v := ((fX3_shape (nI kk) (nI (1 + ((v / 8) % 10))) (nI (1 + ((v / 800) % 1000))) (xu (xu S 34 0 ((8 : Int32) * (nI kk)) (nI (1 + ((v / 8) % 10)))) 34 0 (((8 : Int32) * (nI kk)) + (1 : Int32)) (nI (1 + ((v / 800) % 1000))))) 34 0 ((8 : Int32) * (nI kk)))) rfl ?_
      refine xg_idiv C dL_law_324 (hO11 h1 h2) ?_
      refine xg_icmp_ne C 332 dL_law_325 (by decide) (fun h6 => absurd (hO12 h1 h2) h6) (fun h6 => ?_)
      refine xg_iconst C dL_law_328 (v := (1 : Int32)) (by decide) ?_
      refine xg_goto C 333 dL_law_329 (by decide) ?_
      refine xg_istore C dL_law_333 (by decide) (L' := [some (.ref b9), some (.ref (G.2.2 0 0)), some (.ref (G.2.2 34 0)), some (.ref (G.2.2 35 0)), some (.ref (G.2.2 36 0)), some (.ref (G.2.2 37 0)), some (.ref (G.2.2 38 0)), some (.ref (G.2.2 39 0)), some (.int (1 : Int32)), some (.int (nI n)), some (.int y9), some (.int (nI v)), some (.int z9), some (.int (nI kk)), none, none, none]) rfl ?_
      refine xg_goto C 1218 dL_law_335 (by decide) ?_
      have e : (cS_A v kk S) = (fX3_shape (nI kk) (nI (1 + ((v / 8) % 10))) (nI (1 + ((v / 800) % 1000))) (xu (xu S 34 0 ((8 : Int32) * (nI kk)) (nI (1 + ((v / 8) % 10)))) 34 0 (((8 : Int32) * (nI kk)) + (1 : Int32)) (nI (1 + ((v / 800) % 1000))))) := by first | (rw [cS_A, if_neg h1, if_pos h2]; done) | (rw [cS_A, if_neg h1, if_pos h2]; rfl)
      rw [e] at K
      exact xg_wide (xg_le K ⟨rfl, rfl, rfl, rfl, rfl, rfl, rfl, rfl, rfl, rfl, rfl, rfl, rfl, rfl, trivial⟩) (by omega) (by omega)
  · refine xg_bipush C dL_law_237 (v := (100 : Int32)) (by decide) ?_
    refine xg_goto C 244 dL_law_239 (by decide) ?_
    refine xg_iremN C (a := 100) (by omega) (by decide) rfl dL_law_244 ?_
    refine xg_iaddN C (a := 1) rfl dL_law_245 ?_
    refine xg_iast C V (f := 34) (n := 1) (N := 64) rfl (by decide) (xR_0 (by decide)) (xin_8 (by assumption)) dL_law_246 ?_
    refine xg_aload_n C dL_law_247 rfl ?_
    refine xg_bipush C dL_law_248 (v := (8 : Int32)) (by decide) ?_
    refine xg_iload C dL_law_250 rfl ?_
    refine xg_imul C dL_law_252 ?_
    refine xg_iconst C dL_law_253 (v := (1 : Int32)) (by decide) ?_
    refine xg_iadd C dL_law_254 ?_
    refine xg_iconst C dL_law_255 (v := (1 : Int32)) (by decide) ?_
    refine xg_iload C dL_law_256 rfl ?_
    refine xg_sipush C dL_law_258 (v := (800 : Int32)) (by decide) ?_
    refine xg_idivN C (a := 800) (by omega) (by decide) rfl dL_law_261 ?_
    refine xg_iload C dL_law_262 rfl ?_
    refine xg_iconst C dL_law_264 (v := (5 : Int32)) (by decide) ?_
    refine xg_iremN C (a := 5) (by omega) (by decide) rfl dL_law_265 ?_
    refine xg_if_ne C 275 dL_law_266 (by decide) (fun h7 => ?_) (fun h7 => ?_)
    · refine xg_bipush C dL_law_275 (v := (90 : Int32)) (by decide) ?_
      refine xg_iremN C (a := 90) (by omega) (by decide) rfl dL_law_277 ?_
      refine xg_iaddN C (a := 1) rfl dL_law_278 ?_
      refine xg_iast C V (f := 34) (n := 1) (N := 64) rfl (by decide) (xR_0 (by decide)) (xin_8k (by assumption) (vp_in_iff.mpr ⟨by decide, by decide⟩)) dL_law_279 ?_
      refine xg_aload_n C dL_law_280 rfl ?_
      refine xg_iload C dL_law_281 rfl ?_
      refine xg_aload_n C dL_law_283 rfl ?_
      refine xg_bipush C dL_law_284 (v := (8 : Int32)) (by decide) ?_
      refine xg_iload C dL_law_286 rfl ?_
      refine xg_imul C dL_law_288 ?_
      refine xg_iald C V (f := 34) (n := 1) (N := 64) rfl (by decide) (xR_0 (by decide)) (xin_8 (by assumption)) dL_law_289 (v := (nI (1 + ((v / 8) % 100)))) ((xu_08 (by decide)).trans xu_same) ?_
      refine xg_aload_n C dL_law_290 rfl ?_
      refine xg_bipush C dL_law_291 (v := (8 : Int32)) (by decide) ?_
      refine xg_iload C dL_law_293 rfl ?_
      refine xg_imul C dL_law_295 ?_
      refine xg_iconst C dL_law_296 (v := (1 : Int32)) (by decide) ?_
      refine xg_iadd C dL_law_297 ?_
      refine xg_iald C V (f := 34) (n := 1) (N := 64) rfl (by decide) (xR_0 (by decide)) (xin_8k (by assumption) (vp_in_iff.mpr ⟨by decide, by decide⟩)) dL_law_298 (v := (nI (1 + ((v / 800) % 90)))) xu_same ?_
      refine xg_callSiW C V (as := [.ref (G.2.2 0 0), .int (nI kk), .int (nI (1 + ((v / 8) % 100))), .int (nI (1 + ((v / 800) % 90)))]) (r := (0 : Int32)) (fun l => kL_shaped l hap (nI kk) (nI (1 + ((v / 8) % 100))) (nI (1 + ((v / 800) % 90))) (xu (xu S 34 0 ((8 : Int32) * (nI kk)) (nI (1 + ((v / 8) % 100)))) 34 0 (((8 : Int32) * (nI kk)) + (1 : Int32)) (nI (1 + ((v / 800) % 90)))) (by assumption) (hO13 h1 h7) (hO14 h1 h7) (hO15 h1 h7) (hO16 h1 h7)) gL_law_L_shaped rfl hdL_shaped ⟨by decide, by decide⟩ rfl rfl (Nat.le_of_ble_eq_true rfl) ⟨by show _ ≤ 712973; omega, by show _ ≤ 6962778; omega⟩ dL_law_299 ?_
      refine xg_if_ne C 332 dL_law_302 (by decide) (fun h8 => by exact absurd h8 (by decide)) (fun h8 => ?_)
      refine xg_aload_n C dL_law_305 rfl ?_
      refine xg_iload C dL_law_306 rfl ?_
      refine xg_callVi C V (f := 0) (As := [.int (nI kk)]) (r := (fX3_level (nI kk) (fX3_shape (nI kk) (nI (1 + ((v / 8) % 100))) (nI (1 + ((v / 800) % 90))) (xu (xu S 34 0 ((8 : Int32) * (nI kk)) (nI (1 + ((v / 8) % 100)))) 34 0 (((8 : Int32) * (nI kk)) + (1 : Int32)) (nI (1 + ((v / 800) % 90))))))) (fun l => kX3_level l hap (nI kk) (fX3_shape (nI kk) (nI (1 + ((v / 8) % 100))) (nI (1 + ((v / 800) % 90))) (xu (xu S 34 0 ((8 : Int32) * (nI kk)) (nI (1 + ((v / 8) % 100)))) 34 0 (((8 : Int32) * (nI kk)) + (1 : Int32)) (nI (1 + ((v / 800) % 90))))) (by assumption)) gL_law_X3_level rfl hdX3_level ⟨by decide, by decide⟩ rfl rfl rfl rfl rfl (Nat.le_of_ble_eq_true rfl) ⟨by show _ ≤ 712973; omega, by show _ ≤ 6962778; omega⟩ dL_law_308 ?_
      refine xg_aload_n C dL_law_311 rfl ?_
      refine xg_iload C dL_law_312 rfl ?_
      refine xg_callVi C V (f := 0) (As := [.int (nI kk)]) (r := (fX3_volume (nI kk) (fX3_shape (nI kk) (nI (1 + ((v / 8) % 100))) (nI (1 + ((v / 800) % 90))) (xu (xu S 34 0 ((8 : Int32) * (nI kk)) (nI (1 + ((v / 8) % 100)))) 34 0 (((8 : Int32) * (nI kk)) + (1 : Int32)) (nI (1 + ((v / 800) % 90))))))) (fun l => kX3_volume l hap (nI kk) (fX3_shape (nI kk) (nI (1 + ((v / 8) % 100))) (nI (1 + ((v / 800) % 90))) (xu (xu S 34 0 ((8 : Int32) * (nI kk)) (nI (1 + ((v / 8) % 100)))) 34 0 (((8 : Int32) * (nI kk)) + (1 : Int32)) (nI (1 + ((v / 800) % 90))))) (by assumption)) gL_law_X3_volume rfl hdX3_volume ⟨by decide, by decide⟩ rfl rfl rfl rfl rfl (Nat.le_of_ble_eq_true rfl) ⟨by show _ ≤ 712973; omega, by show _ ≤ 6962778; omega⟩ dL_law_314 ?_
      refine xg_aload_n C dL_law_317 rfl ?_
      refine xg_bipush C dL_law_318 (v := (8 : Int32)) (by decide) ?_
      refine xg_iload C dL_law_320 rfl ?_
      refine xg_imul C dL_law_322 ?_
      refine xg_iald C V (f := 34) (n := 1) (N := 64) rfl (by decide) (xR_0 (by decide)) (xin_8 (by assumption)) dL_law_323 (v := ((fX3_shape (nI kk) (nI (1 + ((v / 8) % 100))) (nI (1 + ((v / 800) % 90))) (xu (xu S 34 0 ((8 : Int32) * (nI kk)) (nI (1 + ((v / 8) % 100)))) 34 0 (((8 : Int32) * (nI kk)) + (1 : Int32)) (nI (1 + ((v / 800) % 90))))) 34 0 ((8 : Int32) * (nI kk)))) rfl ?_
      refine xg_idiv C dL_law_324 (hO17 h1 h7) ?_
      refine xg_icmp_ne C 332 dL_law_325 (by decide) (fun h9 => absurd (hO18 h1 h7) h9) (fun h9 => ?_)
      refine xg_iconst C dL_law_328 (v := (1 : Int32)) (by decide) ?_
      refine xg_goto C 333 dL_law_329 (by decide) ?_
      refine xg_istore C dL_law_333 (by decide) (L' := [some (.ref b9), some (.ref (G.2.2 0 0)), some (.ref (G.2.2 34 0)), some (.ref (G.2.2 35 0)), some (.ref (G.2.2 36 0)), some (.ref (G.2.2 37 0)), some (.ref (G.2.2 38 0)), some (.ref (G.2.2 39 0)), some (.int (1 : Int32)), some (.int (nI n)), some (.int y9), some (.int (nI v)), some (.int z9), some (.int (nI kk)), none, none, none]) rfl ?_
      refine xg_goto C 1218 dL_law_335 (by decide) ?_
      have e : (cS_A v kk S) = (fX3_shape (nI kk) (nI (1 + ((v / 8) % 100))) (nI (1 + ((v / 800) % 90))) (xu (xu S 34 0 ((8 : Int32) * (nI kk)) (nI (1 + ((v / 8) % 100)))) 34 0 (((8 : Int32) * (nI kk)) + (1 : Int32)) (nI (1 + ((v / 800) % 90))))) := by first | (rw [cS_A, if_pos h1, if_neg h7]; done) | (rw [cS_A, if_pos h1, if_neg h7]; rfl)
      rw [e] at K
      exact xg_wide (xg_le K ⟨rfl, rfl, rfl, rfl, rfl, rfl, rfl, rfl, rfl, rfl, rfl, rfl, rfl, rfl, trivial⟩) (by omega) (by omega)
    · refine xg_sipush C dL_law_269 (v := (1000 : Int32)) (by decide) ?_
      refine xg_goto C 277 dL_law_272 (by decide) ?_
      refine xg_iremN C (a := 1000) (by omega) (by decide) rfl dL_law_277 ?_
      refine xg_iaddN C (a := 1) rfl dL_law_278 ?_
      refine xg_iast C V (f := 34) (n := 1) (N := 64) rfl (by decide) (xR_0 (by decide)) (xin_8k (by assumption) (vp_in_iff.mpr ⟨by decide, by decide⟩)) dL_law_279 ?_
      refine xg_aload_n C dL_law_280 rfl ?_
      refine xg_iload C dL_law_281 rfl ?_
      refine xg_aload_n C dL_law_283 rfl ?_
      refine xg_bipush C dL_law_284 (v := (8 : Int32)) (by decide) ?_
      refine xg_iload C dL_law_286 rfl ?_
      refine xg_imul C dL_law_288 ?_
      refine xg_iald C V (f := 34) (n := 1) (N := 64) rfl (by decide) (xR_0 (by decide)) (xin_8 (by assumption)) dL_law_289 (v := (nI (1 + ((v / 8) % 100)))) ((xu_08 (by decide)).trans xu_same) ?_
      refine xg_aload_n C dL_law_290 rfl ?_
      refine xg_bipush C dL_law_291 (v := (8 : Int32)) (by decide) ?_
      refine xg_iload C dL_law_293 rfl ?_
      refine xg_imul C dL_law_295 ?_
      refine xg_iconst C dL_law_296 (v := (1 : Int32)) (by decide) ?_
      refine xg_iadd C dL_law_297 ?_
      refine xg_iald C V (f := 34) (n := 1) (N := 64) rfl (by decide) (xR_0 (by decide)) (xin_8k (by assumption) (vp_in_iff.mpr ⟨by decide, by decide⟩)) dL_law_298 (v := (nI (1 + ((v / 800) % 1000)))) xu_same ?_
      refine xg_callSiW C V (as := [.ref (G.2.2 0 0), .int (nI kk), .int (nI (1 + ((v / 8) % 100))), .int (nI (1 + ((v / 800) % 1000)))]) (r := (0 : Int32)) (fun l => kL_shaped l hap (nI kk) (nI (1 + ((v / 8) % 100))) (nI (1 + ((v / 800) % 1000))) (xu (xu S 34 0 ((8 : Int32) * (nI kk)) (nI (1 + ((v / 8) % 100)))) 34 0 (((8 : Int32) * (nI kk)) + (1 : Int32)) (nI (1 + ((v / 800) % 1000)))) (by assumption) (hO19 h1 h7) (hO20 h1 h7) (hO21 h1 h7) (hO22 h1 h7)) gL_law_L_shaped rfl hdL_shaped ⟨by decide, by decide⟩ rfl rfl (Nat.le_of_ble_eq_true rfl) ⟨by show _ ≤ 712973; omega, by show _ ≤ 6962778; omega⟩ dL_law_299 ?_
      refine xg_if_ne C 332 dL_law_302 (by decide) (fun h10 => by exact absurd h10 (by decide)) (fun h10 => ?_)
      refine xg_aload_n C dL_law_305 rfl ?_
      refine xg_iload C dL_law_306 rfl ?_
      refine xg_callVi C V (f := 0) (As := [.int (nI kk)]) (r := (fX3_level (nI kk) (fX3_shape (nI kk) (nI (1 + ((v / 8) % 100))) (nI (1 + ((v / 800) % 1000))) (xu (xu S 34 0 ((8 : Int32) * (nI kk)) (nI (1 + ((v / 8) % 100)))) 34 0 (((8 : Int32) * (nI kk)) + (1 : Int32)) (nI (1 + ((v / 800) % 1000))))))) (fun l => kX3_level l hap (nI kk) (fX3_shape (nI kk) (nI (1 + ((v / 8) % 100))) (nI (1 + ((v / 800) % 1000))) (xu (xu S 34 0 ((8 : Int32) * (nI kk)) (nI (1 + ((v / 8) % 100)))) 34 0 (((8 : Int32) * (nI kk)) + (1 : Int32)) (nI (1 + ((v / 800) % 1000))))) (by assumption)) gL_law_X3_level rfl hdX3_level ⟨by decide, by decide⟩ rfl rfl rfl rfl rfl (Nat.le_of_ble_eq_true rfl) ⟨by show _ ≤ 712973; omega, by show _ ≤ 6962778; omega⟩ dL_law_308 ?_
      refine xg_aload_n C dL_law_311 rfl ?_
      refine xg_iload C dL_law_312 rfl ?_
      refine xg_callVi C V (f := 0) (As := [.int (nI kk)]) (r := (fX3_volume (nI kk) (fX3_shape (nI kk) (nI (1 + ((v / 8) % 100))) (nI (1 + ((v / 800) % 1000))) (xu (xu S 34 0 ((8 : Int32) * (nI kk)) (nI (1 + ((v / 8) % 100)))) 34 0 (((8 : Int32) * (nI kk)) + (1 : Int32)) (nI (1 + ((v / 800) % 1000))))))) (fun l => kX3_volume l hap (nI kk) (fX3_shape (nI kk) (nI (1 + ((v / 8) % 100))) (nI (1 + ((v / 800) % 1000))) (xu (xu S 34 0 ((8 : Int32) * (nI kk)) (nI (1 + ((v / 8) % 100)))) 34 0 (((8 : Int32) * (nI kk)) + (1 : Int32)) (nI (1 + ((v / 800) % 1000))))) (by assumption)) gL_law_X3_volume rfl hdX3_volume ⟨by decide, by decide⟩ rfl rfl rfl rfl rfl (Nat.le_of_ble_eq_true rfl) ⟨by show _ ≤ 712973; omega, by show _ ≤ 6962778; omega⟩ dL_law_314 ?_
      refine xg_aload_n C dL_law_317 rfl ?_
      refine xg_bipush C dL_law_318 (v := (8 : Int32)) (by decide) ?_
      refine xg_iload C dL_law_320 rfl ?_
      refine xg_imul C dL_law_322 ?_
      refine xg_iald C V (f := 34) (n := 1) (N := 64) rfl (by decide) (xR_0 (by decide)) (xin_8 (by assumption)) dL_law_323 (v := ((fX3_shape (nI kk) (nI (1 + ((v / 8) % 100))) (nI (1 + ((v / 800) % 1000))) (xu (xu S 34 0 ((8 : Int32) * (nI kk)) (nI (1 + ((v / 8) % 100)))) 34 0 (((8 : Int32) * (nI kk)) + (1 : Int32)) (nI (1 + ((v / 800) % 1000))))) 34 0 ((8 : Int32) * (nI kk)))) rfl ?_
      refine xg_idiv C dL_law_324 (hO23 h1 h7) ?_
      refine xg_icmp_ne C 332 dL_law_325 (by decide) (fun h11 => absurd (hO24 h1 h7) h11) (fun h11 => ?_)
      refine xg_iconst C dL_law_328 (v := (1 : Int32)) (by decide) ?_
      refine xg_goto C 333 dL_law_329 (by decide) ?_
      refine xg_istore C dL_law_333 (by decide) (L' := [some (.ref b9), some (.ref (G.2.2 0 0)), some (.ref (G.2.2 34 0)), some (.ref (G.2.2 35 0)), some (.ref (G.2.2 36 0)), some (.ref (G.2.2 37 0)), some (.ref (G.2.2 38 0)), some (.ref (G.2.2 39 0)), some (.int (1 : Int32)), some (.int (nI n)), some (.int y9), some (.int (nI v)), some (.int z9), some (.int (nI kk)), none, none, none]) rfl ?_
      refine xg_goto C 1218 dL_law_335 (by decide) ?_
      have e : (cS_A v kk S) = (fX3_shape (nI kk) (nI (1 + ((v / 8) % 100))) (nI (1 + ((v / 800) % 1000))) (xu (xu S 34 0 ((8 : Int32) * (nI kk)) (nI (1 + ((v / 8) % 100)))) 34 0 (((8 : Int32) * (nI kk)) + (1 : Int32)) (nI (1 + ((v / 800) % 1000))))) := by first | (rw [cS_A, if_pos h1, if_pos h7]; done) | (rw [cS_A, if_pos h1, if_pos h7]; rfl)
      rw [e] at K
      exact xg_wide (xg_le K ⟨rfl, rfl, rfl, rfl, rfl, rfl, rfl, rfl, rfl, rfl, rfl, rfl, rfl, rfl, trivial⟩) (by omega) (by omega)
def cS_B (v kk : Nat) (S : xS) : xS :=
  (fX3_setGauge (nI kk) (nI (1 + ((v / 8) % 50))) (xu S 34 0 (((8 : Int32) * (nI kk)) + (2 : Int32)) (nI (1 + ((v / 8) % 50))))).1
def cO_B (v kk : Nat) (S : xS) : Prop :=
  (¬ (nI (1 + ((v / 8) % 50))) < (1 : Int32)) ∧
  ((nI (1 + ((v / 8) % 50))) ≤ (50 : Int32)) ∧
  ((fX3_setGauge (nI kk) (nI (1 + ((v / 8) % 50))) (xu S 34 0 (((8 : Int32) * (nI kk)) + (2 : Int32)) (nI (1 + ((v / 8) % 50))))).2 = (S 34 0 (((8 : Int32) * (nI kk)) + (2 : Int32))))
set_option maxRecDepth 100000 in
set_option maxHeartbeats 4000000 in
theorem lc_B {F : xF} {G : xG} {Sa : Nat → Nat} {sz : Nat} {S : xS} {k w b9 n v kk : Nat} {y9 z9 : Int32} (C : xC F cL_law 17 RL wsL_law room_1) (V : xV F xYc G) (Ev : xEv F Sa sz) (hsz : ∀ a : Nat, xA xYc G a → sz ≤ a) (hk : k + 1 ≤ 712973 ∧ w + 6 ≤ 6962778) (hv : v < 67108864) (hkk : kk < 8) (hO : cO_B v kk S) (K : xg F (k + 1) (w + 6) 1218 [some (.ref b9), some (.ref (G.2.2 0 0)), some (.ref (G.2.2 34 0)), some (.ref (G.2.2 35 0)), some (.ref (G.2.2 36 0)), some (.ref (G.2.2 37 0)), some (.ref (G.2.2 38 0)), some (.ref (G.2.2 39 0)), some (.int (1 : Int32)), some (.int (nI n)), some (.int y9), some (.int (nI v)), some (.int z9), some (.int (nI kk)), none, none, none] [] (xP xYc G (cS_B v kk S))) : xg F k w 344 [some (.ref b9), some (.ref (G.2.2 0 0)), some (.ref (G.2.2 34 0)), some (.ref (G.2.2 35 0)), some (.ref (G.2.2 36 0)), some (.ref (G.2.2 37 0)), some (.ref (G.2.2 38 0)), some (.ref (G.2.2 39 0)), some (.int (1 : Int32)), some (.int (nI n)), some (.int y9), some (.int (nI v)), some (.int z9), some (.int (nI kk)), none, none, none] [] (xP xYc G S) := by
  obtain ⟨hO1, hO2, hO3⟩ := hO
  have hap : xAp xYc G := V.1
  have hk8 : vp_in (nI kk) 8 := vp_in_nI hkk (by decide)
  refine xg_aload_n C dL_law_344 rfl ?_
  refine xg_bipush C dL_law_345 (v := (8 : Int32)) (by decide) ?_
  refine xg_iload C dL_law_347 rfl ?_
  refine xg_imul C dL_law_349 ?_
  refine xg_iconst C dL_law_350 (v := (2 : Int32)) (by decide) ?_
  refine xg_iadd C dL_law_351 ?_
  refine xg_iald C V (f := 34) (n := 1) (N := 64) rfl (by decide) (xR_0 (by decide)) (xin_8k (by assumption) (vp_in_iff.mpr ⟨by decide, by decide⟩)) dL_law_352 (v := (S 34 0 (((8 : Int32) * (nI kk)) + (2 : Int32)))) rfl ?_
  refine xg_istore C dL_law_353 (by decide) (L' := [some (.ref b9), some (.ref (G.2.2 0 0)), some (.ref (G.2.2 34 0)), some (.ref (G.2.2 35 0)), some (.ref (G.2.2 36 0)), some (.ref (G.2.2 37 0)), some (.ref (G.2.2 38 0)), some (.ref (G.2.2 39 0)), some (.int (1 : Int32)), some (.int (nI n)), some (.int y9), some (.int (nI v)), some (.int z9), some (.int (nI kk)), some (.int (S 34 0 (((8 : Int32) * (nI kk)) + (2 : Int32)))), none, none]) rfl ?_
  refine xg_aload_n C dL_law_355 rfl ?_
  refine xg_bipush C dL_law_356 (v := (8 : Int32)) (by decide) ?_
  refine xg_iload C dL_law_358 rfl ?_
  refine xg_imul C dL_law_360 ?_
  refine xg_iconst C dL_law_361 (v := (2 : Int32)) (by decide) ?_
  refine xg_iadd C dL_law_362 ?_
  refine xg_iconst C dL_law_363 (v := (1 : Int32)) (by decide) ?_
  refine xg_iload C dL_law_364 rfl ?_
  refine xg_bipush C dL_law_366 (v := (8 : Int32)) (by decide) ?_
  refine xg_idivN C (a := 8) (by omega) (by decide) rfl dL_law_368 ?_
  refine xg_bipush C dL_law_369 (v := (50 : Int32)) (by decide) ?_
  refine xg_iremN C (a := 50) (by omega) (by decide) rfl dL_law_371 ?_
  refine xg_iaddN C (a := 1) rfl dL_law_372 ?_
  refine xg_iast C V (f := 34) (n := 1) (N := 64) rfl (by decide) (xR_0 (by decide)) (xin_8k (by assumption) (vp_in_iff.mpr ⟨by decide, by decide⟩)) dL_law_373 ?_
  refine xg_aload_n C dL_law_374 rfl ?_
  refine xg_iconst C dL_law_375 (v := (0 : Int32)) (by decide) ?_
  refine xg_iload C dL_law_376 rfl ?_
  refine xg_aload_n C dL_law_378 rfl ?_
  refine xg_bipush C dL_law_379 (v := (8 : Int32)) (by decide) ?_
  refine xg_iload C dL_law_381 rfl ?_
  refine xg_imul C dL_law_383 ?_
  refine xg_iconst C dL_law_384 (v := (2 : Int32)) (by decide) ?_
  refine xg_iadd C dL_law_385 ?_
  refine xg_iald C V (f := 34) (n := 1) (N := 64) rfl (by decide) (xR_0 (by decide)) (xin_8k (by assumption) (vp_in_iff.mpr ⟨by decide, by decide⟩)) dL_law_386 (v := (nI (1 + ((v / 8) % 50)))) xu_same ?_
  refine xg_callSiW C V (as := [.ref (G.2.2 0 0), .int (0 : Int32), .int (nI kk), .int (nI (1 + ((v / 8) % 50)))]) (r := (fX3_setGauge (nI kk) (nI (1 + ((v / 8) % 50))) (xu S 34 0 (((8 : Int32) * (nI kk)) + (2 : Int32)) (nI (1 + ((v / 8) % 50))))).2) (fun l => kL_act0 l hap (nI kk) (nI (1 + ((v / 8) % 50))) (xu S 34 0 (((8 : Int32) * (nI kk)) + (2 : Int32)) (nI (1 + ((v / 8) % 50)))) (by assumption) (hO1) (hO2)) gL_law_L_act rfl hdL_act ⟨by decide, by decide⟩ rfl rfl (Nat.le_of_ble_eq_true rfl) ⟨by show _ ≤ 712973; omega, by show _ ≤ 6962778; omega⟩ dL_law_387 ?_
  refine xg_iload C dL_law_390 rfl ?_
  refine xg_icmp_ne C 399 dL_law_392 (by decide) (fun h1 => absurd (hO3) h1) (fun h1 => ?_)
  refine xg_iconst C dL_law_395 (v := (1 : Int32)) (by decide) ?_
  refine xg_goto C 400 dL_law_396 (by decide) ?_
  refine xg_istore C dL_law_400 (by decide) (L' := [some (.ref b9), some (.ref (G.2.2 0 0)), some (.ref (G.2.2 34 0)), some (.ref (G.2.2 35 0)), some (.ref (G.2.2 36 0)), some (.ref (G.2.2 37 0)), some (.ref (G.2.2 38 0)), some (.ref (G.2.2 39 0)), some (.int (1 : Int32)), some (.int (nI n)), some (.int y9), some (.int (nI v)), some (.int z9), some (.int (nI kk)), some (.int (S 34 0 (((8 : Int32) * (nI kk)) + (2 : Int32)))), none, none]) rfl ?_
  refine xg_goto C 1218 dL_law_402 (by decide) ?_
  have e : (cS_B v kk S) = (fX3_setGauge (nI kk) (nI (1 + ((v / 8) % 50))) (xu S 34 0 (((8 : Int32) * (nI kk)) + (2 : Int32)) (nI (1 + ((v / 8) % 50))))).1 := rfl
  rw [e] at K
  exact xg_wide (xg_le K ⟨rfl, rfl, rfl, rfl, rfl, rfl, rfl, rfl, rfl, rfl, rfl, rfl, rfl, rfl, trivial⟩) (by omega) (by omega)
def cS_C (v kk : Nat) (S : xS) : xS :=
  if (nI (v % 3)) = (0 : Int32) then
    (fX3_setSource (nI (v % 1001)) (xu S 39 0 (0 : Int32) (nI (v % 1001)))).1
  else
    (fX3_setSource (nI (v % 200)) (xu S 39 0 (0 : Int32) (nI (v % 200)))).1
def cO_C (v kk : Nat) (S : xS) : Prop :=
  (¬ (nI (v % 3)) = (0 : Int32) → ¬ (nI (v % 200)) < (0 : Int32)) ∧
  (¬ (nI (v % 3)) = (0 : Int32) → (nI (v % 200)) ≤ (1000 : Int32)) ∧
  (¬ (nI (v % 3)) = (0 : Int32) → (fX3_setSource (nI (v % 200)) (xu S 39 0 (0 : Int32) (nI (v % 200)))).2 = (S 39 0 (0 : Int32))) ∧
  ((nI (v % 3)) = (0 : Int32) → ¬ (nI (v % 1001)) < (0 : Int32)) ∧
  ((nI (v % 3)) = (0 : Int32) → (nI (v % 1001)) ≤ (1000 : Int32)) ∧
  ((nI (v % 3)) = (0 : Int32) → (fX3_setSource (nI (v % 1001)) (xu S 39 0 (0 : Int32) (nI (v % 1001)))).2 = (S 39 0 (0 : Int32)))
set_option maxRecDepth 100000 in
set_option maxHeartbeats 4000000 in
theorem lc_C {F : xF} {G : xG} {Sa : Nat → Nat} {sz : Nat} {S : xS} {k w b9 n v kk : Nat} {y9 z9 : Int32} (C : xC F cL_law 17 RL wsL_law room_1) (V : xV F xYc G) (Ev : xEv F Sa sz) (hsz : ∀ a : Nat, xA xYc G a → sz ≤ a) (hk : k + 1 ≤ 712973 ∧ w + 6 ≤ 6962778) (hv : v < 67108864) (hkk : kk < 8) (hO : cO_C v kk S) (K : xg F (k + 1) (w + 6) 1218 [some (.ref b9), some (.ref (G.2.2 0 0)), some (.ref (G.2.2 34 0)), some (.ref (G.2.2 35 0)), some (.ref (G.2.2 36 0)), some (.ref (G.2.2 37 0)), some (.ref (G.2.2 38 0)), some (.ref (G.2.2 39 0)), some (.int (1 : Int32)), some (.int (nI n)), some (.int y9), some (.int (nI v)), some (.int z9), some (.int (nI kk)), none, none, none] [] (xP xYc G (cS_C v kk S))) : xg F k w 411 [some (.ref b9), some (.ref (G.2.2 0 0)), some (.ref (G.2.2 34 0)), some (.ref (G.2.2 35 0)), some (.ref (G.2.2 36 0)), some (.ref (G.2.2 37 0)), some (.ref (G.2.2 38 0)), some (.ref (G.2.2 39 0)), some (.int (1 : Int32)), some (.int (nI n)), some (.int y9), some (.int (nI v)), some (.int z9), some (.int (nI kk)), none, none, none] [] (xP xYc G S) := by
  obtain ⟨hO1, hO2, hO3, hO4, hO5, hO6⟩ := hO
  have hap : xAp xYc G := V.1
  have hk8 : vp_in (nI kk) 8 := vp_in_nI hkk (by decide)
  refine xg_aload C dL_law_411 rfl ?_
  refine xg_iconst C dL_law_413 (v := (0 : Int32)) (by decide) ?_
  refine xg_iald C V (f := 39) (n := 1) (N := 3) rfl (by decide) (xR_0 (by decide)) (vp_in_iff.mpr ⟨by decide, by decide⟩) dL_law_414 (v := (S 39 0 (0 : Int32))) rfl ?_
  refine xg_istore C dL_law_415 (by decide) (L' := [some (.ref b9), some (.ref (G.2.2 0 0)), some (.ref (G.2.2 34 0)), some (.ref (G.2.2 35 0)), some (.ref (G.2.2 36 0)), some (.ref (G.2.2 37 0)), some (.ref (G.2.2 38 0)), some (.ref (G.2.2 39 0)), some (.int (1 : Int32)), some (.int (nI n)), some (.int y9), some (.int (nI v)), some (.int z9), some (.int (nI kk)), some (.int (S 39 0 (0 : Int32))), none, none]) rfl ?_
  refine xg_aload C dL_law_417 rfl ?_
  refine xg_iconst C dL_law_419 (v := (0 : Int32)) (by decide) ?_
  refine xg_iload C dL_law_420 rfl ?_
  refine xg_iload C dL_law_422 rfl ?_
  refine xg_iconst C dL_law_424 (v := (3 : Int32)) (by decide) ?_
  refine xg_iremN C (a := 3) (by omega) (by decide) rfl dL_law_425 ?_
  refine xg_if_ne C 435 dL_law_426 (by decide) (fun h1 => ?_) (fun h1 => ?_)
  · refine xg_sipush C dL_law_435 (v := (200 : Int32)) (by decide) ?_
    refine xg_iremN C (a := 200) (by omega) (by decide) rfl dL_law_438 ?_
    refine xg_iast C V (f := 39) (n := 1) (N := 3) rfl (by decide) (xR_0 (by decide)) (vp_in_iff.mpr ⟨by decide, by decide⟩) dL_law_439 ?_
    refine xg_aload_n C dL_law_440 rfl ?_
    refine xg_iconst C dL_law_441 (v := (1 : Int32)) (by decide) ?_
    refine xg_aload C dL_law_442 rfl ?_
    refine xg_iconst C dL_law_444 (v := (0 : Int32)) (by decide) ?_
    refine xg_iald C V (f := 39) (n := 1) (N := 3) rfl (by decide) (xR_0 (by decide)) (vp_in_iff.mpr ⟨by decide, by decide⟩) dL_law_445 (v := (nI (v % 200))) xu_same ?_
    refine xg_iconst C dL_law_446 (v := (0 : Int32)) (by decide) ?_
    refine xg_callSiW C V (as := [.ref (G.2.2 0 0), .int (1 : Int32), .int (nI (v % 200)), .int (0 : Int32)]) (r := (fX3_setSource (nI (v % 200)) (xu S 39 0 (0 : Int32) (nI (v % 200)))).2) (fun l => kL_act1 l hap (nI (v % 200)) (0 : Int32) (xu S 39 0 (0 : Int32) (nI (v % 200))) (hO1 h1) (hO2 h1)) gL_law_L_act rfl hdL_act ⟨by decide, by decide⟩ rfl rfl (Nat.le_of_ble_eq_true rfl) ⟨by show _ ≤ 712973; omega, by show _ ≤ 6962778; omega⟩ dL_law_447 ?_
    refine xg_iload C dL_law_450 rfl ?_
    refine xg_icmp_ne C 459 dL_law_452 (by decide) (fun h2 => absurd (hO3 h1) h2) (fun h2 => ?_)
    refine xg_iconst C dL_law_455 (v := (1 : Int32)) (by decide) ?_
    refine xg_goto C 460 dL_law_456 (by decide) ?_
    refine xg_istore C dL_law_460 (by decide) (L' := [some (.ref b9), some (.ref (G.2.2 0 0)), some (.ref (G.2.2 34 0)), some (.ref (G.2.2 35 0)), some (.ref (G.2.2 36 0)), some (.ref (G.2.2 37 0)), some (.ref (G.2.2 38 0)), some (.ref (G.2.2 39 0)), some (.int (1 : Int32)), some (.int (nI n)), some (.int y9), some (.int (nI v)), some (.int z9), some (.int (nI kk)), some (.int (S 39 0 (0 : Int32))), none, none]) rfl ?_
    refine xg_goto C 1218 dL_law_462 (by decide) ?_
    have e : (cS_C v kk S) = (fX3_setSource (nI (v % 200)) (xu S 39 0 (0 : Int32) (nI (v % 200)))).1 := by first | (rw [cS_C, if_neg h1]; done) | (rw [cS_C, if_neg h1]; rfl)
    rw [e] at K
    exact xg_wide (xg_le K ⟨rfl, rfl, rfl, rfl, rfl, rfl, rfl, rfl, rfl, rfl, rfl, rfl, rfl, rfl, trivial⟩) (by omega) (by omega)
  · refine xg_sipush C dL_law_429 (v := (1001 : Int32)) (by decide) ?_
    refine xg_goto C 438 dL_law_432 (by decide) ?_
    refine xg_iremN C (a := 1001) (by omega) (by decide) rfl dL_law_438 ?_
    refine xg_iast C V (f := 39) (n := 1) (N := 3) rfl (by decide) (xR_0 (by decide)) (vp_in_iff.mpr ⟨by decide, by decide⟩) dL_law_439 ?_
    refine xg_aload_n C dL_law_440 rfl ?_
    refine xg_iconst C dL_law_441 (v := (1 : Int32)) (by decide) ?_
    refine xg_aload C dL_law_442 rfl ?_
    refine xg_iconst C dL_law_444 (v := (0 : Int32)) (by decide) ?_
    refine xg_iald C V (f := 39) (n := 1) (N := 3) rfl (by decide) (xR_0 (by decide)) (vp_in_iff.mpr ⟨by decide, by decide⟩) dL_law_445 (v := (nI (v % 1001))) xu_same ?_
    refine xg_iconst C dL_law_446 (v := (0 : Int32)) (by decide) ?_
    refine xg_callSiW C V (as := [.ref (G.2.2 0 0), .int (1 : Int32), .int (nI (v % 1001)), .int (0 : Int32)]) (r := (fX3_setSource (nI (v % 1001)) (xu S 39 0 (0 : Int32) (nI (v % 1001)))).2) (fun l => kL_act1 l hap (nI (v % 1001)) (0 : Int32) (xu S 39 0 (0 : Int32) (nI (v % 1001))) (hO4 h1) (hO5 h1)) gL_law_L_act rfl hdL_act ⟨by decide, by decide⟩ rfl rfl (Nat.le_of_ble_eq_true rfl) ⟨by show _ ≤ 712973; omega, by show _ ≤ 6962778; omega⟩ dL_law_447 ?_
    refine xg_iload C dL_law_450 rfl ?_
    refine xg_icmp_ne C 459 dL_law_452 (by decide) (fun h3 => absurd (hO6 h1) h3) (fun h3 => ?_)
    refine xg_iconst C dL_law_455 (v := (1 : Int32)) (by decide) ?_
    refine xg_goto C 460 dL_law_456 (by decide) ?_
    refine xg_istore C dL_law_460 (by decide) (L' := [some (.ref b9), some (.ref (G.2.2 0 0)), some (.ref (G.2.2 34 0)), some (.ref (G.2.2 35 0)), some (.ref (G.2.2 36 0)), some (.ref (G.2.2 37 0)), some (.ref (G.2.2 38 0)), some (.ref (G.2.2 39 0)), some (.int (1 : Int32)), some (.int (nI n)), some (.int y9), some (.int (nI v)), some (.int z9), some (.int (nI kk)), some (.int (S 39 0 (0 : Int32))), none, none]) rfl ?_
    refine xg_goto C 1218 dL_law_462 (by decide) ?_
    have e : (cS_C v kk S) = (fX3_setSource (nI (v % 1001)) (xu S 39 0 (0 : Int32) (nI (v % 1001)))).1 := by first | (rw [cS_C, if_pos h1]; done) | (rw [cS_C, if_pos h1]; rfl)
    rw [e] at K
    exact xg_wide (xg_le K ⟨rfl, rfl, rfl, rfl, rfl, rfl, rfl, rfl, rfl, rfl, rfl, rfl, rfl, rfl, trivial⟩) (by omega) (by omega)
def cS_D (v kk : Nat) (S : xS) : xS :=
  if (nI (v % 7)) = (0 : Int32) then
    (fX3_rain (nI kk) (nI (1 + ((v / 8) % 10000))) (xu S 34 0 (((8 : Int32) * (nI kk)) + (3 : Int32)) ((S 34 0 (((8 : Int32) * (nI kk)) + (3 : Int32))) + (nI (1 + ((v / 8) % 10000)))))).1
  else
    (fX3_rain (nI kk) (nI (1 + ((v / 8) % 900))) (xu S 34 0 (((8 : Int32) * (nI kk)) + (3 : Int32)) ((S 34 0 (((8 : Int32) * (nI kk)) + (3 : Int32))) + (nI (1 + ((v / 8) % 900)))))).1
def cO_D (v kk : Nat) (S : xS) : Prop :=
  (¬ (nI (v % 7)) = (0 : Int32) → ¬ (nI (1 + ((v / 8) % 900))) < (1 : Int32)) ∧
  (¬ (nI (v % 7)) = (0 : Int32) → (nI (1 + ((v / 8) % 900))) ≤ (10000 : Int32)) ∧
  (¬ (nI (v % 7)) = (0 : Int32) → (fX3_rain (nI kk) (nI (1 + ((v / 8) % 900))) (xu S 34 0 (((8 : Int32) * (nI kk)) + (3 : Int32)) ((S 34 0 (((8 : Int32) * (nI kk)) + (3 : Int32))) + (nI (1 + ((v / 8) % 900)))))).2 = ((fX3_rain (nI kk) (nI (1 + ((v / 8) % 900))) (xu S 34 0 (((8 : Int32) * (nI kk)) + (3 : Int32)) ((S 34 0 (((8 : Int32) * (nI kk)) + (3 : Int32))) + (nI (1 + ((v / 8) % 900)))))).1 34 0 (((8 : Int32) * (nI kk)) + (3 : Int32)))) ∧
  ((nI (v % 7)) = (0 : Int32) → ¬ (nI (1 + ((v / 8) % 10000))) < (1 : Int32)) ∧
  ((nI (v % 7)) = (0 : Int32) → (nI (1 + ((v / 8) % 10000))) ≤ (10000 : Int32)) ∧
  ((nI (v % 7)) = (0 : Int32) → (fX3_rain (nI kk) (nI (1 + ((v / 8) % 10000))) (xu S 34 0 (((8 : Int32) * (nI kk)) + (3 : Int32)) ((S 34 0 (((8 : Int32) * (nI kk)) + (3 : Int32))) + (nI (1 + ((v / 8) % 10000)))))).2 = ((fX3_rain (nI kk) (nI (1 + ((v / 8) % 10000))) (xu S 34 0 (((8 : Int32) * (nI kk)) + (3 : Int32)) ((S 34 0 (((8 : Int32) * (nI kk)) + (3 : Int32))) + (nI (1 + ((v / 8) % 10000)))))).1 34 0 (((8 : Int32) * (nI kk)) + (3 : Int32))))
set_option maxRecDepth 100000 in
set_option maxHeartbeats 4000000 in
theorem lc_D {F : xF} {G : xG} {Sa : Nat → Nat} {sz : Nat} {S : xS} {k w b9 n v kk : Nat} {y9 z9 : Int32} (C : xC F cL_law 17 RL wsL_law room_1) (V : xV F xYc G) (Ev : xEv F Sa sz) (hsz : ∀ a : Nat, xA xYc G a → sz ≤ a) (hk : k + 1 ≤ 712973 ∧ w + 6 ≤ 6962778) (hv : v < 67108864) (hkk : kk < 8) (hO : cO_D v kk S) (K : xg F (k + 1) (w + 6) 1218 [some (.ref b9), some (.ref (G.2.2 0 0)), some (.ref (G.2.2 34 0)), some (.ref (G.2.2 35 0)), some (.ref (G.2.2 36 0)), some (.ref (G.2.2 37 0)), some (.ref (G.2.2 38 0)), some (.ref (G.2.2 39 0)), some (.int (1 : Int32)), some (.int (nI n)), some (.int y9), some (.int (nI v)), some (.int z9), some (.int (nI kk)), none, none, none] [] (xP xYc G (cS_D v kk S))) : xg F k w 472 [some (.ref b9), some (.ref (G.2.2 0 0)), some (.ref (G.2.2 34 0)), some (.ref (G.2.2 35 0)), some (.ref (G.2.2 36 0)), some (.ref (G.2.2 37 0)), some (.ref (G.2.2 38 0)), some (.ref (G.2.2 39 0)), some (.int (1 : Int32)), some (.int (nI n)), some (.int y9), some (.int (nI v)), some (.int z9), some (.int (nI kk)), none, none, none] [] (xP xYc G S) := by
  obtain ⟨hO1, hO2, hO3, hO4, hO5, hO6⟩ := hO
  have hap : xAp xYc G := V.1
  have hk8 : vp_in (nI kk) 8 := vp_in_nI hkk (by decide)
  refine xg_iconst C dL_law_472 (v := (1 : Int32)) (by decide) ?_
  refine xg_iload C dL_law_473 rfl ?_
  refine xg_bipush C dL_law_475 (v := (8 : Int32)) (by decide) ?_
  refine xg_idivN C (a := 8) (by omega) (by decide) rfl dL_law_477 ?_
  refine xg_iload C dL_law_478 rfl ?_
  refine xg_bipush C dL_law_480 (v := (7 : Int32)) (by decide) ?_
  refine xg_iremN C (a := 7) (by omega) (by decide) rfl dL_law_482 ?_
  refine xg_if_ne C 492 dL_law_483 (by decide) (fun h1 => ?_) (fun h1 => ?_)
  · refine xg_sipush C dL_law_492 (v := (900 : Int32)) (by decide) ?_
    refine xg_iremN C (a := 900) (by omega) (by decide) rfl dL_law_495 ?_
    refine xg_iaddN C (a := 1) rfl dL_law_496 ?_
    refine xg_istore C dL_law_497 (by decide) (L' := [some (.ref b9), some (.ref (G.2.2 0 0)), some (.ref (G.2.2 34 0)), some (.ref (G.2.2 35 0)), some (.ref (G.2.2 36 0)), some (.ref (G.2.2 37 0)), some (.ref (G.2.2 38 0)), some (.ref (G.2.2 39 0)), some (.int (1 : Int32)), some (.int (nI n)), some (.int y9), some (.int (nI v)), some (.int z9), some (.int (nI kk)), some (.int (nI (1 + ((v / 8) % 900)))), none, none]) rfl ?_
    refine xg_aload_n C dL_law_499 rfl ?_
    refine xg_bipush C dL_law_500 (v := (8 : Int32)) (by decide) ?_
    refine xg_iload C dL_law_502 rfl ?_
    refine xg_imul C dL_law_504 ?_
    refine xg_iconst C dL_law_505 (v := (3 : Int32)) (by decide) ?_
    refine xg_iadd C dL_law_506 ?_
    refine xg_dup2 C dL_law_507 rfl rfl ?_
    refine xg_iald C V (f := 34) (n := 1) (N := 64) rfl (by decide) (xR_0 (by decide)) (xin_8k (by assumption) (vp_in_iff.mpr ⟨by decide, by decide⟩)) dL_law_508 (v := (S 34 0 (((8 : Int32) * (nI kk)) + (3 : Int32)))) rfl ?_
    refine xg_iload C dL_law_509 rfl ?_
    refine xg_iadd C dL_law_511 ?_
    refine xg_iast C V (f := 34) (n := 1) (N := 64) rfl (by decide) (xR_0 (by decide)) (xin_8k (by assumption) (vp_in_iff.mpr ⟨by decide, by decide⟩)) dL_law_512 ?_
    refine xg_aload_n C dL_law_513 rfl ?_
    refine xg_iconst C dL_law_514 (v := (2 : Int32)) (by decide) ?_
    refine xg_iload C dL_law_515 rfl ?_
    refine xg_iload C dL_law_517 rfl ?_
    refine xg_callSiW C V (as := [.ref (G.2.2 0 0), .int (2 : Int32), .int (nI kk), .int (nI (1 + ((v / 8) % 900)))]) (r := (fX3_rain (nI kk) (nI (1 + ((v / 8) % 900))) (xu S 34 0 (((8 : Int32) * (nI kk)) + (3 : Int32)) ((S 34 0 (((8 : Int32) * (nI kk)) + (3 : Int32))) + (nI (1 + ((v / 8) % 900)))))).2) (fun l => kL_act2 l hap (nI kk) (nI (1 + ((v / 8) % 900))) (xu S 34 0 (((8 : Int32) * (nI kk)) + (3 : Int32)) ((S 34 0 (((8 : Int32) * (nI kk)) + (3 : Int32))) + (nI (1 + ((v / 8) % 900))))) (by assumption) (hO1 h1) (hO2 h1)) gL_law_L_act rfl hdL_act ⟨by decide, by decide⟩ rfl rfl (Nat.le_of_ble_eq_true rfl) ⟨by show _ ≤ 712973; omega, by show _ ≤ 6962778; omega⟩ dL_law_519 ?_
    refine xg_aload_n C dL_law_522 rfl ?_
    refine xg_bipush C dL_law_523 (v := (8 : Int32)) (by decide) ?_
    refine xg_iload C dL_law_525 rfl ?_
    refine xg_imul C dL_law_527 ?_
    refine xg_iconst C dL_law_528 (v := (3 : Int32)) (by decide) ?_
    refine xg_iadd C dL_law_529 ?_
    refine xg_iald C V (f := 34) (n := 1) (N := 64) rfl (by decide) (xR_0 (by decide)) (xin_8k (by assumption) (vp_in_iff.mpr ⟨by decide, by decide⟩)) dL_law_530 (v := ((fX3_rain (nI kk) (nI (1 + ((v / 8) % 900))) (xu S 34 0 (((8 : Int32) * (nI kk)) + (3 : Int32)) ((S 34 0 (((8 : Int32) * (nI kk)) + (3 : Int32))) + (nI (1 + ((v / 8) % 900)))))).1 34 0 (((8 : Int32) * (nI kk)) + (3 : Int32)))) rfl ?_
    refine xg_icmp_ne C 538 dL_law_531 (by decide) (fun h2 => absurd (hO3 h1) h2) (fun h2 => ?_)
    refine xg_iconst C dL_law_534 (v := (1 : Int32)) (by decide) ?_
    refine xg_goto C 539 dL_law_535 (by decide) ?_
    refine xg_istore C dL_law_539 (by decide) (L' := [some (.ref b9), some (.ref (G.2.2 0 0)), some (.ref (G.2.2 34 0)), some (.ref (G.2.2 35 0)), some (.ref (G.2.2 36 0)), some (.ref (G.2.2 37 0)), some (.ref (G.2.2 38 0)), some (.ref (G.2.2 39 0)), some (.int (1 : Int32)), some (.int (nI n)), some (.int y9), some (.int (nI v)), some (.int z9), some (.int (nI kk)), some (.int (nI (1 + ((v / 8) % 900)))), none, none]) rfl ?_
    refine xg_goto C 1218 dL_law_541 (by decide) ?_
    have e : (cS_D v kk S) = (fX3_rain (nI kk) (nI (1 + ((v / 8) % 900))) (xu S 34 0 (((8 : Int32) * (nI kk)) + (3 : Int32)) ((S 34 0 (((8 : Int32) * (nI kk)) + (3 : Int32))) + (nI (1 + ((v / 8) % 900)))))).1 := by first | (rw [cS_D, if_neg h1]; done) | (rw [cS_D, if_neg h1]; rfl)
    rw [e] at K
    exact xg_wide (xg_le K ⟨rfl, rfl, rfl, rfl, rfl, rfl, rfl, rfl, rfl, rfl, rfl, rfl, rfl, rfl, trivial⟩) (by omega) (by omega)
  · refine xg_sipush C dL_law_486 (v := (10000 : Int32)) (by decide) ?_
    refine xg_goto C 495 dL_law_489 (by decide) ?_
    refine xg_iremN C (a := 10000) (by omega) (by decide) rfl dL_law_495 ?_
    refine xg_iaddN C (a := 1) rfl dL_law_496 ?_
    refine xg_istore C dL_law_497 (by decide) (L' := [some (.ref b9), some (.ref (G.2.2 0 0)), some (.ref (G.2.2 34 0)), some (.ref (G.2.2 35 0)), some (.ref (G.2.2 36 0)), some (.ref (G.2.2 37 0)), some (.ref (G.2.2 38 0)), some (.ref (G.2.2 39 0)), some (.int (1 : Int32)), some (.int (nI n)), some (.int y9), some (.int (nI v)), some (.int z9), some (.int (nI kk)), some (.int (nI (1 + ((v / 8) % 10000)))), none, none]) rfl ?_
    refine xg_aload_n C dL_law_499 rfl ?_
    refine xg_bipush C dL_law_500 (v := (8 : Int32)) (by decide) ?_
    refine xg_iload C dL_law_502 rfl ?_
    refine xg_imul C dL_law_504 ?_
    refine xg_iconst C dL_law_505 (v := (3 : Int32)) (by decide) ?_
    refine xg_iadd C dL_law_506 ?_
    refine xg_dup2 C dL_law_507 rfl rfl ?_
    refine xg_iald C V (f := 34) (n := 1) (N := 64) rfl (by decide) (xR_0 (by decide)) (xin_8k (by assumption) (vp_in_iff.mpr ⟨by decide, by decide⟩)) dL_law_508 (v := (S 34 0 (((8 : Int32) * (nI kk)) + (3 : Int32)))) rfl ?_
    refine xg_iload C dL_law_509 rfl ?_
    refine xg_iadd C dL_law_511 ?_
    refine xg_iast C V (f := 34) (n := 1) (N := 64) rfl (by decide) (xR_0 (by decide)) (xin_8k (by assumption) (vp_in_iff.mpr ⟨by decide, by decide⟩)) dL_law_512 ?_
    refine xg_aload_n C dL_law_513 rfl ?_
    refine xg_iconst C dL_law_514 (v := (2 : Int32)) (by decide) ?_
    refine xg_iload C dL_law_515 rfl ?_
    refine xg_iload C dL_law_517 rfl ?_
    refine xg_callSiW C V (as := [.ref (G.2.2 0 0), .int (2 : Int32), .int (nI kk), .int (nI (1 + ((v / 8) % 10000)))]) (r := (fX3_rain (nI kk) (nI (1 + ((v / 8) % 10000))) (xu S 34 0 (((8 : Int32) * (nI kk)) + (3 : Int32)) ((S 34 0 (((8 : Int32) * (nI kk)) + (3 : Int32))) + (nI (1 + ((v / 8) % 10000)))))).2) (fun l => kL_act2 l hap (nI kk) (nI (1 + ((v / 8) % 10000))) (xu S 34 0 (((8 : Int32) * (nI kk)) + (3 : Int32)) ((S 34 0 (((8 : Int32) * (nI kk)) + (3 : Int32))) + (nI (1 + ((v / 8) % 10000))))) (by assumption) (hO4 h1) (hO5 h1)) gL_law_L_act rfl hdL_act ⟨by decide, by decide⟩ rfl rfl (Nat.le_of_ble_eq_true rfl) ⟨by show _ ≤ 712973; omega, by show _ ≤ 6962778; omega⟩ dL_law_519 ?_
    refine xg_aload_n C dL_law_522 rfl ?_
    refine xg_bipush C dL_law_523 (v := (8 : Int32)) (by decide) ?_
    refine xg_iload C dL_law_525 rfl ?_
    refine xg_imul C dL_law_527 ?_
    refine xg_iconst C dL_law_528 (v := (3 : Int32)) (by decide) ?_
    refine xg_iadd C dL_law_529 ?_
    refine xg_iald C V (f := 34) (n := 1) (N := 64) rfl (by decide) (xR_0 (by decide)) (xin_8k (by assumption) (vp_in_iff.mpr ⟨by decide, by decide⟩)) dL_law_530 (v := ((fX3_rain (nI kk) (nI (1 + ((v / 8) % 10000))) (xu S 34 0 (((8 : Int32) * (nI kk)) + (3 : Int32)) ((S 34 0 (((8 : Int32) * (nI kk)) + (3 : Int32))) + (nI (1 + ((v / 8) % 10000)))))).1 34 0 (((8 : Int32) * (nI kk)) + (3 : Int32)))) rfl ?_
    refine xg_icmp_ne C 538 dL_law_531 (by decide) (fun h3 => absurd (hO6 h1) h3) (fun h3 => ?_)
    refine xg_iconst C dL_law_534 (v := (1 : Int32)) (by decide) ?_
    refine xg_goto C 539 dL_law_535 (by decide) ?_
    refine xg_istore C dL_law_539 (by decide) (L' := [some (.ref b9), some (.ref (G.2.2 0 0)), some (.ref (G.2.2 34 0)), some (.ref (G.2.2 35 0)), some (.ref (G.2.2 36 0)), some (.ref (G.2.2 37 0)), some (.ref (G.2.2 38 0)), some (.ref (G.2.2 39 0)), some (.int (1 : Int32)), some (.int (nI n)), some (.int y9), some (.int (nI v)), some (.int z9), some (.int (nI kk)), some (.int (nI (1 + ((v / 8) % 10000)))), none, none]) rfl ?_
    refine xg_goto C 1218 dL_law_541 (by decide) ?_
    have e : (cS_D v kk S) = (fX3_rain (nI kk) (nI (1 + ((v / 8) % 10000))) (xu S 34 0 (((8 : Int32) * (nI kk)) + (3 : Int32)) ((S 34 0 (((8 : Int32) * (nI kk)) + (3 : Int32))) + (nI (1 + ((v / 8) % 10000)))))).1 := by first | (rw [cS_D, if_pos h1]; done) | (rw [cS_D, if_pos h1]; rfl)
    rw [e] at K
    exact xg_wide (xg_le K ⟨rfl, rfl, rfl, rfl, rfl, rfl, rfl, rfl, rfl, rfl, rfl, rfl, rfl, rfl, trivial⟩) (by omega) (by omega)
def cS_E (v kk : Nat) (S : xS) : xS :=
  if (nI (v % 3)) = (0 : Int32) then
    (fX3_setRule (nI kk) (nI ((v / 8) % 60)) (nI (((v / 8) % 60) + ((v / 480) % 50))) (nI ((v / 24000) % 1001)) (nI ((v / 8) % 101)) (xu (xu (xu (xu S 34 0 (((8 : Int32) * (nI kk)) + (4 : Int32)) (nI ((v / 8) % 60))) 34 0 (((8 : Int32) * (nI kk)) + (5 : Int32)) (nI (((v / 8) % 60) + ((v / 480) % 50)))) 34 0 (((8 : Int32) * (nI kk)) + (6 : Int32)) (nI ((v / 24000) % 1001))) 34 0 (((8 : Int32) * (nI kk)) + (7 : Int32)) (nI ((v / 8) % 101))))
  else
    (fX3_setRule (nI kk) (nI ((v / 8) % 60)) (nI (((v / 8) % 60) + ((v / 480) % 50))) (nI ((v / 24000) % 1001)) (nI ((v / 8) % 7)) (xu (xu (xu (xu S 34 0 (((8 : Int32) * (nI kk)) + (4 : Int32)) (nI ((v / 8) % 60))) 34 0 (((8 : Int32) * (nI kk)) + (5 : Int32)) (nI (((v / 8) % 60) + ((v / 480) % 50)))) 34 0 (((8 : Int32) * (nI kk)) + (6 : Int32)) (nI ((v / 24000) % 1001))) 34 0 (((8 : Int32) * (nI kk)) + (7 : Int32)) (nI ((v / 8) % 7))))
def cO_E (v kk : Nat) (S : xS) : Prop :=
  (¬ (nI (v % 3)) = (0 : Int32) → ¬ (nI ((v / 8) % 60)) < (0 : Int32)) ∧
  (¬ (nI (v % 3)) = (0 : Int32) → (nI ((v / 8) % 60)) ≤ (1000 : Int32)) ∧
  (¬ (nI (v % 3)) = (0 : Int32) → ¬ (nI (((v / 8) % 60) + ((v / 480) % 50))) < (nI ((v / 8) % 60))) ∧
  (¬ (nI (v % 3)) = (0 : Int32) → (nI (((v / 8) % 60) + ((v / 480) % 50))) ≤ (1000 : Int32)) ∧
  (¬ (nI (v % 3)) = (0 : Int32) → ¬ (nI ((v / 24000) % 1001)) < (0 : Int32)) ∧
  (¬ (nI (v % 3)) = (0 : Int32) → (nI ((v / 24000) % 1001)) ≤ (1000 : Int32)) ∧
  (¬ (nI (v % 3)) = (0 : Int32) → ¬ (nI ((v / 8) % 7)) < (0 : Int32)) ∧
  (¬ (nI (v % 3)) = (0 : Int32) → (nI ((v / 8) % 7)) ≤ (100 : Int32)) ∧
  ((nI (v % 3)) = (0 : Int32) → ¬ (nI ((v / 8) % 60)) < (0 : Int32)) ∧
  ((nI (v % 3)) = (0 : Int32) → (nI ((v / 8) % 60)) ≤ (1000 : Int32)) ∧
  ((nI (v % 3)) = (0 : Int32) → ¬ (nI (((v / 8) % 60) + ((v / 480) % 50))) < (nI ((v / 8) % 60))) ∧
  ((nI (v % 3)) = (0 : Int32) → (nI (((v / 8) % 60) + ((v / 480) % 50))) ≤ (1000 : Int32)) ∧
  ((nI (v % 3)) = (0 : Int32) → ¬ (nI ((v / 24000) % 1001)) < (0 : Int32)) ∧
  ((nI (v % 3)) = (0 : Int32) → (nI ((v / 24000) % 1001)) ≤ (1000 : Int32)) ∧
  ((nI (v % 3)) = (0 : Int32) → ¬ (nI ((v / 8) % 101)) < (0 : Int32)) ∧
  ((nI (v % 3)) = (0 : Int32) → (nI ((v / 8) % 101)) ≤ (100 : Int32))
set_option maxRecDepth 100000 in
set_option maxHeartbeats 4000000 in
theorem lc_E {F : xF} {G : xG} {Sa : Nat → Nat} {sz : Nat} {S : xS} {k w b9 n v kk : Nat} {y9 z9 : Int32} (C : xC F cL_law 17 RL wsL_law room_1) (V : xV F xYc G) (Ev : xEv F Sa sz) (hsz : ∀ a : Nat, xA xYc G a → sz ≤ a) (hk : k + 1 ≤ 712973 ∧ w + 6 ≤ 6962778) (hv : v < 67108864) (hkk : kk < 8) (hO : cO_E v kk S) (K : xg F (k + 1) (w + 6) 1218 [some (.ref b9), some (.ref (G.2.2 0 0)), some (.ref (G.2.2 34 0)), some (.ref (G.2.2 35 0)), some (.ref (G.2.2 36 0)), some (.ref (G.2.2 37 0)), some (.ref (G.2.2 38 0)), some (.ref (G.2.2 39 0)), some (.int (1 : Int32)), some (.int (nI n)), some (.int y9), some (.int (nI v)), some (.int z9), some (.int (nI kk)), none, none, none] [] (xP xYc G (cS_E v kk S))) : xg F k w 551 [some (.ref b9), some (.ref (G.2.2 0 0)), some (.ref (G.2.2 34 0)), some (.ref (G.2.2 35 0)), some (.ref (G.2.2 36 0)), some (.ref (G.2.2 37 0)), some (.ref (G.2.2 38 0)), some (.ref (G.2.2 39 0)), some (.int (1 : Int32)), some (.int (nI n)), some (.int y9), some (.int (nI v)), some (.int z9), some (.int (nI kk)), none, none, none] [] (xP xYc G S) := by
  obtain ⟨hO1, hO2, hO3, hO4, hO5, hO6, hO7, hO8, hO9, hO10, hO11, hO12, hO13, hO14, hO15, hO16⟩ := hO
  have hap : xAp xYc G := V.1
  have hk8 : vp_in (nI kk) 8 := vp_in_nI hkk (by decide)
  refine xg_aload_n C dL_law_551 rfl ?_
  refine xg_bipush C dL_law_552 (v := (8 : Int32)) (by decide) ?_
  refine xg_iload C dL_law_554 rfl ?_
  refine xg_imul C dL_law_556 ?_
  refine xg_iconst C dL_law_557 (v := (4 : Int32)) (by decide) ?_
  refine xg_iadd C dL_law_558 ?_
  refine xg_iload C dL_law_559 rfl ?_
  refine xg_bipush C dL_law_561 (v := (8 : Int32)) (by decide) ?_
  refine xg_idivN C (a := 8) (by omega) (by decide) rfl dL_law_563 ?_
  refine xg_bipush C dL_law_564 (v := (60 : Int32)) (by decide) ?_
  refine xg_iremN C (a := 60) (by omega) (by decide) rfl dL_law_566 ?_
  refine xg_iast C V (f := 34) (n := 1) (N := 64) rfl (by decide) (xR_0 (by decide)) (xin_8k (by assumption) (vp_in_iff.mpr ⟨by decide, by decide⟩)) dL_law_567 ?_
  refine xg_aload_n C dL_law_568 rfl ?_
  refine xg_bipush C dL_law_569 (v := (8 : Int32)) (by decide) ?_
  refine xg_iload C dL_law_571 rfl ?_
  refine xg_imul C dL_law_573 ?_
  refine xg_iconst C dL_law_574 (v := (5 : Int32)) (by decide) ?_
  refine xg_iadd C dL_law_575 ?_
  refine xg_aload_n C dL_law_576 rfl ?_
  refine xg_bipush C dL_law_577 (v := (8 : Int32)) (by decide) ?_
  refine xg_iload C dL_law_579 rfl ?_
  refine xg_imul C dL_law_581 ?_
  refine xg_iconst C dL_law_582 (v := (4 : Int32)) (by decide) ?_
  refine xg_iadd C dL_law_583 ?_
  refine xg_iald C V (f := 34) (n := 1) (N := 64) rfl (by decide) (xR_0 (by decide)) (xin_8k (by assumption) (vp_in_iff.mpr ⟨by decide, by decide⟩)) dL_law_584 (v := (nI ((v / 8) % 60))) xu_same ?_
  refine xg_iload C dL_law_585 rfl ?_
  refine xg_sipush C dL_law_587 (v := (480 : Int32)) (by decide) ?_
  refine xg_idivN C (a := 480) (by omega) (by decide) rfl dL_law_590 ?_
  refine xg_bipush C dL_law_591 (v := (50 : Int32)) (by decide) ?_
  refine xg_iremN C (a := 50) (by omega) (by decide) rfl dL_law_593 ?_
  refine xg_iaddN C rfl dL_law_594 ?_
  refine xg_iast C V (f := 34) (n := 1) (N := 64) rfl (by decide) (xR_0 (by decide)) (xin_8k (by assumption) (vp_in_iff.mpr ⟨by decide, by decide⟩)) dL_law_595 ?_
  refine xg_aload_n C dL_law_596 rfl ?_
  refine xg_bipush C dL_law_597 (v := (8 : Int32)) (by decide) ?_
  refine xg_iload C dL_law_599 rfl ?_
  refine xg_imul C dL_law_601 ?_
  refine xg_bipush C dL_law_602 (v := (6 : Int32)) (by decide) ?_
  refine xg_iadd C dL_law_604 ?_
  refine xg_iload C dL_law_605 rfl ?_
  refine xg_sipush C dL_law_607 (v := (24000 : Int32)) (by decide) ?_
  refine xg_idivN C (a := 24000) (by omega) (by decide) rfl dL_law_610 ?_
  refine xg_sipush C dL_law_611 (v := (1001 : Int32)) (by decide) ?_
  refine xg_iremN C (a := 1001) (by omega) (by decide) rfl dL_law_614 ?_
  refine xg_iast C V (f := 34) (n := 1) (N := 64) rfl (by decide) (xR_0 (by decide)) (xin_8k (by assumption) (vp_in_iff.mpr ⟨by decide, by decide⟩)) dL_law_615 ?_
  refine xg_aload_n C dL_law_616 rfl ?_
  refine xg_bipush C dL_law_617 (v := (8 : Int32)) (by decide) ?_
  refine xg_iload C dL_law_619 rfl ?_
  refine xg_imul C dL_law_621 ?_
  refine xg_bipush C dL_law_622 (v := (7 : Int32)) (by decide) ?_
  refine xg_iadd C dL_law_624 ?_
  refine xg_iload C dL_law_625 rfl ?_
  refine xg_bipush C dL_law_627 (v := (8 : Int32)) (by decide) ?_
  refine xg_idivN C (a := 8) (by omega) (by decide) rfl dL_law_629 ?_
  refine xg_iload C dL_law_630 rfl ?_
  refine xg_iconst C dL_law_632 (v := (3 : Int32)) (by decide) ?_
  refine xg_iremN C (a := 3) (by omega) (by decide) rfl dL_law_633 ?_
  refine xg_if_ne C 642 dL_law_634 (by decide) (fun h1 => ?_) (fun h1 => ?_)
  · refine xg_bipush C dL_law_642 (v := (7 : Int32)) (by decide) ?_
    refine xg_iremN C (a := 7) (by omega) (by decide) rfl dL_law_644 ?_
    refine xg_iast C V (f := 34) (n := 1) (N := 64) rfl (by decide) (xR_0 (by decide)) (xin_8k (by assumption) (vp_in_iff.mpr ⟨by decide, by decide⟩)) dL_law_645 ?_
    refine xg_aload_n C dL_law_646 rfl ?_
    refine xg_iload C dL_law_647 rfl ?_
    refine xg_aload_n C dL_law_649 rfl ?_
    refine xg_bipush C dL_law_650 (v := (8 : Int32)) (by decide) ?_
    refine xg_iload C dL_law_652 rfl ?_
    refine xg_imul C dL_law_654 ?_
    refine xg_iconst C dL_law_655 (v := (4 : Int32)) (by decide) ?_
    refine xg_iadd C dL_law_656 ?_
    refine xg_iald C V (f := 34) (n := 1) (N := 64) rfl (by decide) (xR_0 (by decide)) (xin_8k (by assumption) (vp_in_iff.mpr ⟨by decide, by decide⟩)) dL_law_657 (v := (nI ((v / 8) % 60))) ((((xu_8c (by decide)).trans (xu_8c (by decide))).trans (xu_8c (by decide))).trans xu_same) ?_
    refine xg_aload_n C dL_law_658 rfl ?_
    refine xg_bipush C dL_law_659 (v := (8 : Int32)) (by decide) ?_
    refine xg_iload C dL_law_661 rfl ?_
    refine xg_imul C dL_law_663 ?_
    refine xg_iconst C dL_law_664 (v := (5 : Int32)) (by decide) ?_
    refine xg_iadd C dL_law_665 ?_
    refine xg_iald C V (f := 34) (n := 1) (N := 64) rfl (by decide) (xR_0 (by decide)) (xin_8k (by assumption) (vp_in_iff.mpr ⟨by decide, by decide⟩)) dL_law_666 (v := (nI (((v / 8) % 60) + ((v / 480) % 50)))) (((xu_8c (by decide)).trans (xu_8c (by decide))).trans xu_same) ?_
    refine xg_aload_n C dL_law_667 rfl ?_
    refine xg_bipush C dL_law_668 (v := (8 : Int32)) (by decide) ?_
    refine xg_iload C dL_law_670 rfl ?_
    refine xg_imul C dL_law_672 ?_
    refine xg_bipush C dL_law_673 (v := (6 : Int32)) (by decide) ?_
    refine xg_iadd C dL_law_675 ?_
    refine xg_iald C V (f := 34) (n := 1) (N := 64) rfl (by decide) (xR_0 (by decide)) (xin_8k (by assumption) (vp_in_iff.mpr ⟨by decide, by decide⟩)) dL_law_676 (v := (nI ((v / 24000) % 1001))) ((xu_8c (by decide)).trans xu_same) ?_
    refine xg_aload_n C dL_law_677 rfl ?_
    refine xg_bipush C dL_law_678 (v := (8 : Int32)) (by decide) ?_
    refine xg_iload C dL_law_680 rfl ?_
    refine xg_imul C dL_law_682 ?_
    refine xg_bipush C dL_law_683 (v := (7 : Int32)) (by decide) ?_
    refine xg_iadd C dL_law_685 ?_
    refine xg_iald C V (f := 34) (n := 1) (N := 64) rfl (by decide) (xR_0 (by decide)) (xin_8k (by assumption) (vp_in_iff.mpr ⟨by decide, by decide⟩)) dL_law_686 (v := (nI ((v / 8) % 7))) xu_same ?_
    refine xg_callSiW C V (as := [.ref (G.2.2 0 0), .int (nI kk), .int (nI ((v / 8) % 60)), .int (nI (((v / 8) % 60) + ((v / 480) % 50))), .int (nI ((v / 24000) % 1001)), .int (nI ((v / 8) % 7))]) (r := (0 : Int32)) (fun l => kL_ruled l hap (nI kk) (nI ((v / 8) % 60)) (nI (((v / 8) % 60) + ((v / 480) % 50))) (nI ((v / 24000) % 1001)) (nI ((v / 8) % 7)) (xu (xu (xu (xu S 34 0 (((8 : Int32) * (nI kk)) + (4 : Int32)) (nI ((v / 8) % 60))) 34 0 (((8 : Int32) * (nI kk)) + (5 : Int32)) (nI (((v / 8) % 60) + ((v / 480) % 50)))) 34 0 (((8 : Int32) * (nI kk)) + (6 : Int32)) (nI ((v / 24000) % 1001))) 34 0 (((8 : Int32) * (nI kk)) + (7 : Int32)) (nI ((v / 8) % 7))) (by assumption) (hO1 h1) (hO2 h1) (hO3 h1) (hO4 h1) (hO5 h1) (hO6 h1) (hO7 h1) (hO8 h1)) gL_law_L_ruled rfl hdL_ruled ⟨by decide, by decide⟩ rfl rfl (Nat.le_of_ble_eq_true rfl) ⟨by show _ ≤ 712973; omega, by show _ ≤ 6962778; omega⟩ dL_law_687 ?_
    refine xg_if_ne C 697 dL_law_690 (by decide) (fun h2 => by exact absurd h2 (by decide)) (fun h2 => ?_)
    refine xg_iconst C dL_law_693 (v := (1 : Int32)) (by decide) ?_
    refine xg_goto C 698 dL_law_694 (by decide) ?_
    refine xg_istore C dL_law_698 (by decide) (L' := [some (.ref b9), some (.ref (G.2.2 0 0)), some (.ref (G.2.2 34 0)), some (.ref (G.2.2 35 0)), some (.ref (G.2.2 36 0)), some (.ref (G.2.2 37 0)), some (.ref (G.2.2 38 0)), some (.ref (G.2.2 39 0)), some (.int (1 : Int32)), some (.int (nI n)), some (.int y9), some (.int (nI v)), some (.int z9), some (.int (nI kk)), none, none, none]) rfl ?_
    refine xg_goto C 1218 dL_law_700 (by decide) ?_
    have e : (cS_E v kk S) = (fX3_setRule (nI kk) (nI ((v / 8) % 60)) (nI (((v / 8) % 60) + ((v / 480) % 50))) (nI ((v / 24000) % 1001)) (nI ((v / 8) % 7)) (xu (xu (xu (xu S 34 0 (((8 : Int32) * (nI kk)) + (4 : Int32)) (nI ((v / 8) % 60))) 34 0 (((8 : Int32) * (nI kk)) + (5 : Int32)) (nI (((v / 8) % 60) + ((v / 480) % 50)))) 34 0 (((8 : Int32) * (nI kk)) + (6 : Int32)) (nI ((v / 24000) % 1001))) 34 0 (((8 : Int32) * (nI kk)) + (7 : Int32)) (nI ((v / 8) % 7)))) := by first | (rw [cS_E, if_neg h1]; done) | (rw [cS_E, if_neg h1]; rfl)
    rw [e] at K
    exact xg_wide (xg_le K ⟨rfl, rfl, rfl, rfl, rfl, rfl, rfl, rfl, rfl, rfl, rfl, rfl, rfl, rfl, trivial⟩) (by omega) (by omega)
  · refine xg_bipush C dL_law_637 (v := (101 : Int32)) (by decide) ?_
    refine xg_goto C 644 dL_law_639 (by decide) ?_
    refine xg_iremN C (a := 101) (by omega) (by decide) rfl dL_law_644 ?_
    refine xg_iast C V (f := 34) (n := 1) (N := 64) rfl (by decide) (xR_0 (by decide)) (xin_8k (by assumption) (vp_in_iff.mpr ⟨by decide, by decide⟩)) dL_law_645 ?_
    refine xg_aload_n C dL_law_646 rfl ?_
    refine xg_iload C dL_law_647 rfl ?_
    refine xg_aload_n C dL_law_649 rfl ?_
    refine xg_bipush C dL_law_650 (v := (8 : Int32)) (by decide) ?_
    refine xg_iload C dL_law_652 rfl ?_
    refine xg_imul C dL_law_654 ?_
    refine xg_iconst C dL_law_655 (v := (4 : Int32)) (by decide) ?_
    refine xg_iadd C dL_law_656 ?_
    refine xg_iald C V (f := 34) (n := 1) (N := 64) rfl (by decide) (xR_0 (by decide)) (xin_8k (by assumption) (vp_in_iff.mpr ⟨by decide, by decide⟩)) dL_law_657 (v := (nI ((v / 8) % 60))) ((((xu_8c (by decide)).trans (xu_8c (by decide))).trans (xu_8c (by decide))).trans xu_same) ?_
    refine xg_aload_n C dL_law_658 rfl ?_
    refine xg_bipush C dL_law_659 (v := (8 : Int32)) (by decide) ?_
    refine xg_iload C dL_law_661 rfl ?_
    refine xg_imul C dL_law_663 ?_
    refine xg_iconst C dL_law_664 (v := (5 : Int32)) (by decide) ?_
    refine xg_iadd C dL_law_665 ?_
    refine xg_iald C V (f := 34) (n := 1) (N := 64) rfl (by decide) (xR_0 (by decide)) (xin_8k (by assumption) (vp_in_iff.mpr ⟨by decide, by decide⟩)) dL_law_666 (v := (nI (((v / 8) % 60) + ((v / 480) % 50)))) (((xu_8c (by decide)).trans (xu_8c (by decide))).trans xu_same) ?_
    refine xg_aload_n C dL_law_667 rfl ?_
    refine xg_bipush C dL_law_668 (v := (8 : Int32)) (by decide) ?_
    refine xg_iload C dL_law_670 rfl ?_
    refine xg_imul C dL_law_672 ?_
    refine xg_bipush C dL_law_673 (v := (6 : Int32)) (by decide) ?_
    refine xg_iadd C dL_law_675 ?_
    refine xg_iald C V (f := 34) (n := 1) (N := 64) rfl (by decide) (xR_0 (by decide)) (xin_8k (by assumption) (vp_in_iff.mpr ⟨by decide, by decide⟩)) dL_law_676 (v := (nI ((v / 24000) % 1001))) ((xu_8c (by decide)).trans xu_same) ?_
    refine xg_aload_n C dL_law_677 rfl ?_
    refine xg_bipush C dL_law_678 (v := (8 : Int32)) (by decide) ?_
    refine xg_iload C dL_law_680 rfl ?_
    refine xg_imul C dL_law_682 ?_
    refine xg_bipush C dL_law_683 (v := (7 : Int32)) (by decide) ?_
    refine xg_iadd C dL_law_685 ?_
    refine xg_iald C V (f := 34) (n := 1) (N := 64) rfl (by decide) (xR_0 (by decide)) (xin_8k (by assumption) (vp_in_iff.mpr ⟨by decide, by decide⟩)) dL_law_686 (v := (nI ((v / 8) % 101))) xu_same ?_
    refine xg_callSiW C V (as := [.ref (G.2.2 0 0), .int (nI kk), .int (nI ((v / 8) % 60)), .int (nI (((v / 8) % 60) + ((v / 480) % 50))), .int (nI ((v / 24000) % 1001)), .int (nI ((v / 8) % 101))]) (r := (0 : Int32)) (fun l => kL_ruled l hap (nI kk) (nI ((v / 8) % 60)) (nI (((v / 8) % 60) + ((v / 480) % 50))) (nI ((v / 24000) % 1001)) (nI ((v / 8) % 101)) (xu (xu (xu (xu S 34 0 (((8 : Int32) * (nI kk)) + (4 : Int32)) (nI ((v / 8) % 60))) 34 0 (((8 : Int32) * (nI kk)) + (5 : Int32)) (nI (((v / 8) % 60) + ((v / 480) % 50)))) 34 0 (((8 : Int32) * (nI kk)) + (6 : Int32)) (nI ((v / 24000) % 1001))) 34 0 (((8 : Int32) * (nI kk)) + (7 : Int32)) (nI ((v / 8) % 101))) (by assumption) (hO9 h1) (hO10 h1) (hO11 h1) (hO12 h1) (hO13 h1) (hO14 h1) (hO15 h1) (hO16 h1)) gL_law_L_ruled rfl hdL_ruled ⟨by decide, by decide⟩ rfl rfl (Nat.le_of_ble_eq_true rfl) ⟨by show _ ≤ 712973; omega, by show _ ≤ 6962778; omega⟩ dL_law_687 ?_
    refine xg_if_ne C 697 dL_law_690 (by decide) (fun h3 => by exact absurd h3 (by decide)) (fun h3 => ?_)
    refine xg_iconst C dL_law_693 (v := (1 : Int32)) (by decide) ?_
    refine xg_goto C 698 dL_law_694 (by decide) ?_
    refine xg_istore C dL_law_698 (by decide) (L' := [some (.ref b9), some (.ref (G.2.2 0 0)), some (.ref (G.2.2 34 0)), some (.ref (G.2.2 35 0)), some (.ref (G.2.2 36 0)), some (.ref (G.2.2 37 0)), some (.ref (G.2.2 38 0)), some (.ref (G.2.2 39 0)), some (.int (1 : Int32)), some (.int (nI n)), some (.int y9), some (.int (nI v)), some (.int z9), some (.int (nI kk)), none, none, none]) rfl ?_
    refine xg_goto C 1218 dL_law_700 (by decide) ?_
    have e : (cS_E v kk S) = (fX3_setRule (nI kk) (nI ((v / 8) % 60)) (nI (((v / 8) % 60) + ((v / 480) % 50))) (nI ((v / 24000) % 1001)) (nI ((v / 8) % 101)) (xu (xu (xu (xu S 34 0 (((8 : Int32) * (nI kk)) + (4 : Int32)) (nI ((v / 8) % 60))) 34 0 (((8 : Int32) * (nI kk)) + (5 : Int32)) (nI (((v / 8) % 60) + ((v / 480) % 50)))) 34 0 (((8 : Int32) * (nI kk)) + (6 : Int32)) (nI ((v / 24000) % 1001))) 34 0 (((8 : Int32) * (nI kk)) + (7 : Int32)) (nI ((v / 8) % 101)))) := by first | (rw [cS_E, if_pos h1]; done) | (rw [cS_E, if_pos h1]; rfl)
    rw [e] at K
    exact xg_wide (xg_le K ⟨rfl, rfl, rfl, rfl, rfl, rfl, rfl, rfl, rfl, rfl, rfl, rfl, rfl, rfl, trivial⟩) (by omega) (by omega)
def cS_Fz (v kk : Nat) (S : xS) : xS :=
  if (S 35 0 ((8 : Int32) * (nI kk))) = (1 : Int32) then
    (fX3_byHand (nI kk) (-1 : Int32) (xu S 35 0 ((8 : Int32) * (nI kk)) (0 : Int32))).1
  else
    (xu S 35 0 ((8 : Int32) * (nI kk)) (0 : Int32))
def cO_Fz (v kk : Nat) (S : xS) : Prop :=
  (¬ (S 35 0 ((8 : Int32) * (nI kk))) = (1 : Int32) → (xu S 35 0 ((8 : Int32) * (nI kk)) (0 : Int32)) 18 0 (nI kk) = (0 : Int32)) ∧
  (¬ (S 35 0 ((8 : Int32) * (nI kk))) = (1 : Int32) → (fX3_opening (nI kk) (xu S 35 0 ((8 : Int32) * (nI kk)) (0 : Int32))) = (fX3_opening (nI kk) S)) ∧
  ((S 35 0 ((8 : Int32) * (nI kk))) = (1 : Int32) → ¬ (-1 : Int32) < (-1 : Int32)) ∧
  ((S 35 0 ((8 : Int32) * (nI kk))) = (1 : Int32) → (-1 : Int32) ≤ (10 : Int32)) ∧
  ((S 35 0 ((8 : Int32) * (nI kk))) = (1 : Int32) → (-1 : Int32) = (-1 : Int32) → ¬ (xu S 35 0 ((8 : Int32) * (nI kk)) (0 : Int32)) 18 0 (nI kk) = (0 : Int32)) ∧
  ((S 35 0 ((8 : Int32) * (nI kk))) = (1 : Int32) → (fX3_byHand (nI kk) (-1 : Int32) (xu S 35 0 ((8 : Int32) * (nI kk)) (0 : Int32))).2 = (fX3_opening (nI kk) S)) ∧
  ((S 35 0 ((8 : Int32) * (nI kk))) = (1 : Int32) → (fX3_opening (nI kk) (fX3_byHand (nI kk) (-1 : Int32) (xu S 35 0 ((8 : Int32) * (nI kk)) (0 : Int32))).1) = (fX3_opening (nI kk) S))
set_option maxRecDepth 100000 in
set_option maxHeartbeats 4000000 in
theorem lc_Fz {F : xF} {G : xG} {Sa : Nat → Nat} {sz : Nat} {S : xS} {k w b9 n v kk : Nat} {y9 z9 : Int32} (C : xC F cL_law 17 RL wsL_law room_1) (V : xV F xYc G) (Ev : xEv F Sa sz) (hsz : ∀ a : Nat, xA xYc G a → sz ≤ a) (hk : k + 1 ≤ 712973 ∧ w + 6 ≤ 6962778) (hv : v < 67108864) (hkk : kk < 8) (hsub : v / 8 % 12 = 0) (hO : cO_Fz v kk S) (K : xg F (k + 1) (w + 6) 1218 [some (.ref b9), some (.ref (G.2.2 0 0)), some (.ref (G.2.2 34 0)), some (.ref (G.2.2 35 0)), some (.ref (G.2.2 36 0)), some (.ref (G.2.2 37 0)), some (.ref (G.2.2 38 0)), some (.ref (G.2.2 39 0)), some (.int (1 : Int32)), some (.int (nI n)), some (.int y9), some (.int (nI v)), some (.int z9), some (.int (nI kk)), none, none, none] [] (xP xYc G (cS_Fz v kk S))) : xg F k w 710 [some (.ref b9), some (.ref (G.2.2 0 0)), some (.ref (G.2.2 34 0)), some (.ref (G.2.2 35 0)), some (.ref (G.2.2 36 0)), some (.ref (G.2.2 37 0)), some (.ref (G.2.2 38 0)), some (.ref (G.2.2 39 0)), some (.int (1 : Int32)), some (.int (nI n)), some (.int y9), some (.int (nI v)), some (.int z9), some (.int (nI kk)), none, none, none] [] (xP xYc G S) := by
  obtain ⟨hO1, hO2, hO3, hO4, hO5, hO6, hO7⟩ := hO
  have hap : xAp xYc G := V.1
  have hk8 : vp_in (nI kk) 8 := vp_in_nI hkk (by decide)
  refine xg_iload C dL_law_710 rfl ?_
  refine xg_bipush C dL_law_712 (v := (8 : Int32)) (by decide) ?_
  refine xg_idivN C (a := 8) (by omega) (by decide) rfl dL_law_714 ?_
  refine xg_bipush C dL_law_715 (v := (12 : Int32)) (by decide) ?_
  refine xg_iremN C (a := 12) (by omega) (by decide) rfl dL_law_717 ?_
  refine xg_iconst C dL_law_718 (v := (1 : Int32)) (by decide) ?_
  refine xg_isubZ C hsub dL_law_719 ?_
  refine xg_istore C dL_law_720 (by decide) (L' := [some (.ref b9), some (.ref (G.2.2 0 0)), some (.ref (G.2.2 34 0)), some (.ref (G.2.2 35 0)), some (.ref (G.2.2 36 0)), some (.ref (G.2.2 37 0)), some (.ref (G.2.2 38 0)), some (.ref (G.2.2 39 0)), some (.int (1 : Int32)), some (.int (nI n)), some (.int y9), some (.int (nI v)), some (.int z9), some (.int (nI kk)), some (.int (-1 : Int32)), none, none]) rfl ?_
  refine xg_aload_n C dL_law_722 rfl ?_
  refine xg_iload C dL_law_723 rfl ?_
  refine xg_callVi C V (f := 0) (As := [.int (nI kk)]) (r := (fX3_opening (nI kk) S)) (fun l => kX3_opening l hap (nI kk) S (by assumption)) gL_law_X3_opening rfl hdX3_opening ⟨by decide, by decide⟩ rfl rfl rfl rfl rfl (Nat.le_of_ble_eq_true rfl) ⟨by show _ ≤ 712973; omega, by show _ ≤ 6962778; omega⟩ dL_law_725 ?_
  refine xg_istore C dL_law_728 (by decide) (L' := [some (.ref b9), some (.ref (G.2.2 0 0)), some (.ref (G.2.2 34 0)), some (.ref (G.2.2 35 0)), some (.ref (G.2.2 36 0)), some (.ref (G.2.2 37 0)), some (.ref (G.2.2 38 0)), some (.ref (G.2.2 39 0)), some (.int (1 : Int32)), some (.int (nI n)), some (.int y9), some (.int (nI v)), some (.int z9), some (.int (nI kk)), some (.int (-1 : Int32)), some (.int (fX3_opening (nI kk) S)), none]) rfl ?_
  refine xg_iload C dL_law_730 rfl ?_
  refine xg_if_ge C 746 dL_law_732 (by decide) (fun h1 => by exact absurd h1 (by decide)) (fun h1 => ?_)
  refine xg_aload_n C dL_law_735 rfl ?_
  refine xg_bipush C dL_law_736 (v := (8 : Int32)) (by decide) ?_
  refine xg_iload C dL_law_738 rfl ?_
  refine xg_imul C dL_law_740 ?_
  refine xg_iald C V (f := 35) (n := 1) (N := 64) rfl (by decide) (xR_0 (by decide)) (xin_8 (by assumption)) dL_law_741 (v := (S 35 0 ((8 : Int32) * (nI kk)))) rfl ?_
  refine xg_iconst C dL_law_742 (v := (1 : Int32)) (by decide) ?_
  refine xg_icmp_ne C 750 dL_law_743 (by decide) (fun h2 => ?_) (fun h2 => ?_)
  · refine xg_iconst C dL_law_750 (v := (0 : Int32)) (by decide) ?_
    refine xg_istore C dL_law_751 (by decide) (L' := [some (.ref b9), some (.ref (G.2.2 0 0)), some (.ref (G.2.2 34 0)), some (.ref (G.2.2 35 0)), some (.ref (G.2.2 36 0)), some (.ref (G.2.2 37 0)), some (.ref (G.2.2 38 0)), some (.ref (G.2.2 39 0)), some (.int (1 : Int32)), some (.int (nI n)), some (.int y9), some (.int (nI v)), some (.int z9), some (.int (nI kk)), some (.int (-1 : Int32)), some (.int (fX3_opening (nI kk) S)), some (.int (0 : Int32))]) rfl ?_
    refine xg_aload_n C dL_law_753 rfl ?_
    refine xg_bipush C dL_law_754 (v := (8 : Int32)) (by decide) ?_
    refine xg_iload C dL_law_756 rfl ?_
    refine xg_imul C dL_law_758 ?_
    refine xg_iload C dL_law_759 rfl ?_
    refine xg_if_ge C 768 dL_law_761 (by decide) (fun h3 => by exact absurd h3 (by decide)) (fun h3 => ?_)
    refine xg_iconst C dL_law_764 (v := (0 : Int32)) (by decide) ?_
    refine xg_goto C 769 dL_law_765 (by decide) ?_
    refine xg_iast C V (f := 35) (n := 1) (N := 64) rfl (by decide) (xR_0 (by decide)) (xin_8 (by assumption)) dL_law_769 ?_
    refine xg_aload_n C dL_law_770 rfl ?_
    refine xg_iconst C dL_law_771 (v := (3 : Int32)) (by decide) ?_
    refine xg_iload C dL_law_772 rfl ?_
    refine xg_iload C dL_law_774 rfl ?_
    refine xg_callSnW C V Ev (as := [.ref (G.2.2 0 0), .int (3 : Int32), .int (nI kk), .int (-1 : Int32)]) (fun l hl => kxL_act3s l hl hsz V.1 (nI kk) (-1 : Int32) (xu S 35 0 ((8 : Int32) * (nI kk)) (0 : Int32)) hk8 (by decide) (by decide) rfl (hO1 h2)) gL_law_L_act rfl hdL_act ⟨by show _ ≤ 13; decide, by show _ ≤ 504; decide⟩ rfl rfl (Nat.le_of_ble_eq_true rfl) ⟨by show _ ≤ 712973; omega, by show _ ≤ 6962778; omega⟩ dL_law_776 ?_
    refine xg_iload C dL_law_779 rfl ?_
    refine xg_if_eq C 789 dL_law_781 (by decide) (fun h4 => ?_) (fun h4 => by exact absurd h4 (by decide))
    refine xg_sipush C dL_law_789 (v := (-1233 : Int32)) (by decide) ?_
    refine xg_icmp_ne C 820 dL_law_792 (by decide) (fun h5 => by exact absurd h5 (by decide)) (fun h5 => ?_)
    refine xg_aload_n C dL_law_795 rfl ?_
    refine xg_iload C dL_law_796 rfl ?_
    refine xg_callVi C V (f := 0) (As := [.int (nI kk)]) (r := (fX3_opening (nI kk) (xu S 35 0 ((8 : Int32) * (nI kk)) (0 : Int32)))) (fun l => kX3_opening l hap (nI kk) (xu S 35 0 ((8 : Int32) * (nI kk)) (0 : Int32)) (by assumption)) gL_law_X3_opening rfl hdX3_opening ⟨by decide, by decide⟩ rfl rfl rfl rfl rfl (Nat.le_of_ble_eq_true rfl) ⟨by show _ ≤ 712973; omega, by show _ ≤ 6962778; omega⟩ dL_law_798 ?_
    refine xg_iload C dL_law_801 rfl ?_
    refine xg_if_ge C 811 dL_law_803 (by decide) (fun h6 => by exact absurd h6 (by decide)) (fun h6 => ?_)
    refine xg_iload C dL_law_806 rfl ?_
    refine xg_goto C 813 dL_law_808 (by decide) ?_
    refine xg_icmp_ne C 820 dL_law_813 (by decide) (fun h7 => absurd (hO2 h2) h7) (fun h7 => ?_)
    refine xg_iconst C dL_law_816 (v := (1 : Int32)) (by decide) ?_
    refine xg_goto C 821 dL_law_817 (by decide) ?_
    refine xg_istore C dL_law_821 (by decide) (L' := [some (.ref b9), some (.ref (G.2.2 0 0)), some (.ref (G.2.2 34 0)), some (.ref (G.2.2 35 0)), some (.ref (G.2.2 36 0)), some (.ref (G.2.2 37 0)), some (.ref (G.2.2 38 0)), some (.ref (G.2.2 39 0)), some (.int (1 : Int32)), some (.int (nI n)), some (.int y9), some (.int (nI v)), some (.int z9), some (.int (nI kk)), some (.int (-1 : Int32)), some (.int (fX3_opening (nI kk) S)), some (.int (0 : Int32))]) rfl ?_
    refine xg_goto C 1218 dL_law_823 (by decide) ?_
    have e : (cS_Fz v kk S) = (xu S 35 0 ((8 : Int32) * (nI kk)) (0 : Int32)) := by first | (rw [cS_Fz, if_neg h2]; done) | (rw [cS_Fz, if_neg h2]; rfl)
    rw [e] at K
    exact xg_wide (xg_le K ⟨rfl, rfl, rfl, rfl, rfl, rfl, rfl, rfl, rfl, rfl, rfl, rfl, rfl, rfl, trivial⟩) (by omega) (by omega)
  · refine xg_iconst C dL_law_746 (v := (1 : Int32)) (by decide) ?_
    refine xg_goto C 751 dL_law_747 (by decide) ?_
    refine xg_istore C dL_law_751 (by decide) (L' := [some (.ref b9), some (.ref (G.2.2 0 0)), some (.ref (G.2.2 34 0)), some (.ref (G.2.2 35 0)), some (.ref (G.2.2 36 0)), some (.ref (G.2.2 37 0)), some (.ref (G.2.2 38 0)), some (.ref (G.2.2 39 0)), some (.int (1 : Int32)), some (.int (nI n)), some (.int y9), some (.int (nI v)), some (.int z9), some (.int (nI kk)), some (.int (-1 : Int32)), some (.int (fX3_opening (nI kk) S)), some (.int (1 : Int32))]) rfl ?_
    refine xg_aload_n C dL_law_753 rfl ?_
    refine xg_bipush C dL_law_754 (v := (8 : Int32)) (by decide) ?_
    refine xg_iload C dL_law_756 rfl ?_
    refine xg_imul C dL_law_758 ?_
    refine xg_iload C dL_law_759 rfl ?_
    refine xg_if_ge C 768 dL_law_761 (by decide) (fun h8 => by exact absurd h8 (by decide)) (fun h8 => ?_)
    refine xg_iconst C dL_law_764 (v := (0 : Int32)) (by decide) ?_
    refine xg_goto C 769 dL_law_765 (by decide) ?_
    refine xg_iast C V (f := 35) (n := 1) (N := 64) rfl (by decide) (xR_0 (by decide)) (xin_8 (by assumption)) dL_law_769 ?_
    refine xg_aload_n C dL_law_770 rfl ?_
    refine xg_iconst C dL_law_771 (v := (3 : Int32)) (by decide) ?_
    refine xg_iload C dL_law_772 rfl ?_
    refine xg_iload C dL_law_774 rfl ?_
    refine xg_callSiW C V (as := [.ref (G.2.2 0 0), .int (3 : Int32), .int (nI kk), .int (-1 : Int32)]) (r := (fX3_byHand (nI kk) (-1 : Int32) (xu S 35 0 ((8 : Int32) * (nI kk)) (0 : Int32))).2) (fun l => kL_act3 l hap (nI kk) (-1 : Int32) (xu S 35 0 ((8 : Int32) * (nI kk)) (0 : Int32)) (by assumption) (hO3 h2) (hO4 h2) (hO5 h2)) gL_law_L_act rfl hdL_act ⟨by decide, by decide⟩ rfl rfl (Nat.le_of_ble_eq_true rfl) ⟨by show _ ≤ 712973; omega, by show _ ≤ 6962778; omega⟩ dL_law_776 ?_
    refine xg_iload C dL_law_779 rfl ?_
    refine xg_if_eq C 789 dL_law_781 (by decide) (fun h9 => by exact absurd h9 (by decide)) (fun h9 => ?_)
    refine xg_iload C dL_law_784 rfl ?_
    refine xg_goto C 792 dL_law_786 (by decide) ?_
    refine xg_icmp_ne C 820 dL_law_792 (by decide) (fun h10 => absurd (hO6 h2) h10) (fun h10 => ?_)
    refine xg_aload_n C dL_law_795 rfl ?_
    refine xg_iload C dL_law_796 rfl ?_
    refine xg_callVi C V (f := 0) (As := [.int (nI kk)]) (r := (fX3_opening (nI kk) (fX3_byHand (nI kk) (-1 : Int32) (xu S 35 0 ((8 : Int32) * (nI kk)) (0 : Int32))).1)) (fun l => kX3_opening l hap (nI kk) (fX3_byHand (nI kk) (-1 : Int32) (xu S 35 0 ((8 : Int32) * (nI kk)) (0 : Int32))).1 (by assumption)) gL_law_X3_opening rfl hdX3_opening ⟨by decide, by decide⟩ rfl rfl rfl rfl rfl (Nat.le_of_ble_eq_true rfl) ⟨by show _ ≤ 712973; omega, by show _ ≤ 6962778; omega⟩ dL_law_798 ?_
    refine xg_iload C dL_law_801 rfl ?_
    refine xg_if_ge C 811 dL_law_803 (by decide) (fun h11 => by exact absurd h11 (by decide)) (fun h11 => ?_)
    refine xg_iload C dL_law_806 rfl ?_
    refine xg_goto C 813 dL_law_808 (by decide) ?_
    refine xg_icmp_ne C 820 dL_law_813 (by decide) (fun h12 => absurd (hO7 h2) h12) (fun h12 => ?_)
    refine xg_iconst C dL_law_816 (v := (1 : Int32)) (by decide) ?_
    refine xg_goto C 821 dL_law_817 (by decide) ?_
    refine xg_istore C dL_law_821 (by decide) (L' := [some (.ref b9), some (.ref (G.2.2 0 0)), some (.ref (G.2.2 34 0)), some (.ref (G.2.2 35 0)), some (.ref (G.2.2 36 0)), some (.ref (G.2.2 37 0)), some (.ref (G.2.2 38 0)), some (.ref (G.2.2 39 0)), some (.int (1 : Int32)), some (.int (nI n)), some (.int y9), some (.int (nI v)), some (.int z9), some (.int (nI kk)), some (.int (-1 : Int32)), some (.int (fX3_opening (nI kk) S)), some (.int (1 : Int32))]) rfl ?_
    refine xg_goto C 1218 dL_law_823 (by decide) ?_
    have e : (cS_Fz v kk S) = (fX3_byHand (nI kk) (-1 : Int32) (xu S 35 0 ((8 : Int32) * (nI kk)) (0 : Int32))).1 := by first | (rw [cS_Fz, if_pos h2]; done) | (rw [cS_Fz, if_pos h2]; rfl)
    rw [e] at K
    exact xg_wide (xg_le K ⟨rfl, rfl, rfl, rfl, rfl, rfl, rfl, rfl, rfl, rfl, rfl, rfl, rfl, rfl, trivial⟩) (by omega) (by omega)
def cS_Fp (v kk : Nat) (S : xS) : xS :=
  (fX3_byHand (nI kk) (nI (((v / 8) % 12) - 1)) (xu S 35 0 ((8 : Int32) * (nI kk)) (1 : Int32))).1
def cO_Fp (v kk : Nat) (S : xS) : Prop :=
  ((0 : Int32) ≤ (nI (((v / 8) % 12) - 1))) ∧
  ((0 : Int32) ≤ (nI (((v / 8) % 12) - 1))) ∧
  (¬ (nI (((v / 8) % 12) - 1)) < (-1 : Int32)) ∧
  ((nI (((v / 8) % 12) - 1)) ≤ (10 : Int32)) ∧
  ((nI (((v / 8) % 12) - 1)) = (-1 : Int32) → ¬ (xu S 35 0 ((8 : Int32) * (nI kk)) (1 : Int32)) 18 0 (nI kk) = (0 : Int32)) ∧
  ((fX3_byHand (nI kk) (nI (((v / 8) % 12) - 1)) (xu S 35 0 ((8 : Int32) * (nI kk)) (1 : Int32))).2 = (fX3_opening (nI kk) S)) ∧
  ((0 : Int32) ≤ (nI (((v / 8) % 12) - 1))) ∧
  ((fX3_opening (nI kk) (fX3_byHand (nI kk) (nI (((v / 8) % 12) - 1)) (xu S 35 0 ((8 : Int32) * (nI kk)) (1 : Int32))).1) = (nI (((v / 8) % 12) - 1)))
set_option maxRecDepth 100000 in
set_option maxHeartbeats 4000000 in
theorem lc_Fp {F : xF} {G : xG} {Sa : Nat → Nat} {sz : Nat} {S : xS} {k w b9 n v kk : Nat} {y9 z9 : Int32} (C : xC F cL_law 17 RL wsL_law room_1) (V : xV F xYc G) (Ev : xEv F Sa sz) (hsz : ∀ a : Nat, xA xYc G a → sz ≤ a) (hk : k + 1 ≤ 712973 ∧ w + 6 ≤ 6962778) (hv : v < 67108864) (hkk : kk < 8) (hsub : 1 ≤ v / 8 % 12) (hO : cO_Fp v kk S) (K : xg F (k + 1) (w + 6) 1218 [some (.ref b9), some (.ref (G.2.2 0 0)), some (.ref (G.2.2 34 0)), some (.ref (G.2.2 35 0)), some (.ref (G.2.2 36 0)), some (.ref (G.2.2 37 0)), some (.ref (G.2.2 38 0)), some (.ref (G.2.2 39 0)), some (.int (1 : Int32)), some (.int (nI n)), some (.int y9), some (.int (nI v)), some (.int z9), some (.int (nI kk)), none, none, none] [] (xP xYc G (cS_Fp v kk S))) : xg F k w 710 [some (.ref b9), some (.ref (G.2.2 0 0)), some (.ref (G.2.2 34 0)), some (.ref (G.2.2 35 0)), some (.ref (G.2.2 36 0)), some (.ref (G.2.2 37 0)), some (.ref (G.2.2 38 0)), some (.ref (G.2.2 39 0)), some (.int (1 : Int32)), some (.int (nI n)), some (.int y9), some (.int (nI v)), some (.int z9), some (.int (nI kk)), none, none, none] [] (xP xYc G S) := by
  obtain ⟨hO1, hO2, hO3, hO4, hO5, hO6, hO7, hO8⟩ := hO
  have hap : xAp xYc G := V.1
  have hk8 : vp_in (nI kk) 8 := vp_in_nI hkk (by decide)
  refine xg_iload C dL_law_710 rfl ?_
  refine xg_bipush C dL_law_712 (v := (8 : Int32)) (by decide) ?_
  refine xg_idivN C (a := 8) (by omega) (by decide) rfl dL_law_714 ?_
  refine xg_bipush C dL_law_715 (v := (12 : Int32)) (by decide) ?_
  refine xg_iremN C (a := 12) (by omega) (by decide) rfl dL_law_717 ?_
  refine xg_iconst C dL_law_718 (v := (1 : Int32)) (by decide) ?_
  refine xg_isubN C (by omega) dL_law_719 ?_
  refine xg_istore C dL_law_720 (by decide) (L' := [some (.ref b9), some (.ref (G.2.2 0 0)), some (.ref (G.2.2 34 0)), some (.ref (G.2.2 35 0)), some (.ref (G.2.2 36 0)), some (.ref (G.2.2 37 0)), some (.ref (G.2.2 38 0)), some (.ref (G.2.2 39 0)), some (.int (1 : Int32)), some (.int (nI n)), some (.int y9), some (.int (nI v)), some (.int z9), some (.int (nI kk)), some (.int (nI (((v / 8) % 12) - 1))), none, none]) rfl ?_
  refine xg_aload_n C dL_law_722 rfl ?_
  refine xg_iload C dL_law_723 rfl ?_
  refine xg_callVi C V (f := 0) (As := [.int (nI kk)]) (r := (fX3_opening (nI kk) S)) (fun l => kX3_opening l hap (nI kk) S (by assumption)) gL_law_X3_opening rfl hdX3_opening ⟨by decide, by decide⟩ rfl rfl rfl rfl rfl (Nat.le_of_ble_eq_true rfl) ⟨by show _ ≤ 712973; omega, by show _ ≤ 6962778; omega⟩ dL_law_725 ?_
  refine xg_istore C dL_law_728 (by decide) (L' := [some (.ref b9), some (.ref (G.2.2 0 0)), some (.ref (G.2.2 34 0)), some (.ref (G.2.2 35 0)), some (.ref (G.2.2 36 0)), some (.ref (G.2.2 37 0)), some (.ref (G.2.2 38 0)), some (.ref (G.2.2 39 0)), some (.int (1 : Int32)), some (.int (nI n)), some (.int y9), some (.int (nI v)), some (.int z9), some (.int (nI kk)), some (.int (nI (((v / 8) % 12) - 1))), some (.int (fX3_opening (nI kk) S)), none]) rfl ?_
  refine xg_iload C dL_law_730 rfl ?_
  refine xg_if_ge C 746 dL_law_732 (by decide) (fun h1 => ?_) (fun h1 => absurd (hO1) h1)
  refine xg_iconst C dL_law_746 (v := (1 : Int32)) (by decide) ?_
  refine xg_goto C 751 dL_law_747 (by decide) ?_
  refine xg_istore C dL_law_751 (by decide) (L' := [some (.ref b9), some (.ref (G.2.2 0 0)), some (.ref (G.2.2 34 0)), some (.ref (G.2.2 35 0)), some (.ref (G.2.2 36 0)), some (.ref (G.2.2 37 0)), some (.ref (G.2.2 38 0)), some (.ref (G.2.2 39 0)), some (.int (1 : Int32)), some (.int (nI n)), some (.int y9), some (.int (nI v)), some (.int z9), some (.int (nI kk)), some (.int (nI (((v / 8) % 12) - 1))), some (.int (fX3_opening (nI kk) S)), some (.int (1 : Int32))]) rfl ?_
  refine xg_aload_n C dL_law_753 rfl ?_
  refine xg_bipush C dL_law_754 (v := (8 : Int32)) (by decide) ?_
  refine xg_iload C dL_law_756 rfl ?_
  refine xg_imul C dL_law_758 ?_
  refine xg_iload C dL_law_759 rfl ?_
  refine xg_if_ge C 768 dL_law_761 (by decide) (fun h2 => ?_) (fun h2 => absurd (hO2) h2)
  refine xg_iconst C dL_law_768 (v := (1 : Int32)) (by decide) ?_
  refine xg_iast C V (f := 35) (n := 1) (N := 64) rfl (by decide) (xR_0 (by decide)) (xin_8 (by assumption)) dL_law_769 ?_
  refine xg_aload_n C dL_law_770 rfl ?_
  refine xg_iconst C dL_law_771 (v := (3 : Int32)) (by decide) ?_
  refine xg_iload C dL_law_772 rfl ?_
  refine xg_iload C dL_law_774 rfl ?_
  refine xg_callSiW C V (as := [.ref (G.2.2 0 0), .int (3 : Int32), .int (nI kk), .int (nI (((v / 8) % 12) - 1))]) (r := (fX3_byHand (nI kk) (nI (((v / 8) % 12) - 1)) (xu S 35 0 ((8 : Int32) * (nI kk)) (1 : Int32))).2) (fun l => kL_act3 l hap (nI kk) (nI (((v / 8) % 12) - 1)) (xu S 35 0 ((8 : Int32) * (nI kk)) (1 : Int32)) (by assumption) (hO3) (hO4) (hO5)) gL_law_L_act rfl hdL_act ⟨by decide, by decide⟩ rfl rfl (Nat.le_of_ble_eq_true rfl) ⟨by show _ ≤ 712973; omega, by show _ ≤ 6962778; omega⟩ dL_law_776 ?_
  refine xg_iload C dL_law_779 rfl ?_
  refine xg_if_eq C 789 dL_law_781 (by decide) (fun h3 => by exact absurd h3 (by decide)) (fun h3 => ?_)
  refine xg_iload C dL_law_784 rfl ?_
  refine xg_goto C 792 dL_law_786 (by decide) ?_
  refine xg_icmp_ne C 820 dL_law_792 (by decide) (fun h4 => absurd (hO6) h4) (fun h4 => ?_)
  refine xg_aload_n C dL_law_795 rfl ?_
  refine xg_iload C dL_law_796 rfl ?_
  refine xg_callVi C V (f := 0) (As := [.int (nI kk)]) (r := (fX3_opening (nI kk) (fX3_byHand (nI kk) (nI (((v / 8) % 12) - 1)) (xu S 35 0 ((8 : Int32) * (nI kk)) (1 : Int32))).1)) (fun l => kX3_opening l hap (nI kk) (fX3_byHand (nI kk) (nI (((v / 8) % 12) - 1)) (xu S 35 0 ((8 : Int32) * (nI kk)) (1 : Int32))).1 (by assumption)) gL_law_X3_opening rfl hdX3_opening ⟨by decide, by decide⟩ rfl rfl rfl rfl rfl (Nat.le_of_ble_eq_true rfl) ⟨by show _ ≤ 712973; omega, by show _ ≤ 6962778; omega⟩ dL_law_798 ?_
  refine xg_iload C dL_law_801 rfl ?_
  refine xg_if_ge C 811 dL_law_803 (by decide) (fun h5 => ?_) (fun h5 => absurd (hO7) h5)
  refine xg_iload C dL_law_811 rfl ?_
  refine xg_icmp_ne C 820 dL_law_813 (by decide) (fun h6 => absurd (hO8) h6) (fun h6 => ?_)
  refine xg_iconst C dL_law_816 (v := (1 : Int32)) (by decide) ?_
  refine xg_goto C 821 dL_law_817 (by decide) ?_
  refine xg_istore C dL_law_821 (by decide) (L' := [some (.ref b9), some (.ref (G.2.2 0 0)), some (.ref (G.2.2 34 0)), some (.ref (G.2.2 35 0)), some (.ref (G.2.2 36 0)), some (.ref (G.2.2 37 0)), some (.ref (G.2.2 38 0)), some (.ref (G.2.2 39 0)), some (.int (1 : Int32)), some (.int (nI n)), some (.int y9), some (.int (nI v)), some (.int z9), some (.int (nI kk)), some (.int (nI (((v / 8) % 12) - 1))), some (.int (fX3_opening (nI kk) S)), some (.int (1 : Int32))]) rfl ?_
  refine xg_goto C 1218 dL_law_823 (by decide) ?_
  have e : (cS_Fp v kk S) = (fX3_byHand (nI kk) (nI (((v / 8) % 12) - 1)) (xu S 35 0 ((8 : Int32) * (nI kk)) (1 : Int32))).1 := rfl
  rw [e] at K
  exact xg_wide (xg_le K ⟨rfl, rfl, rfl, rfl, rfl, rfl, rfl, rfl, rfl, rfl, rfl, rfl, rfl, rfl, trivial⟩) (by omega) (by omega)
def bL_law_874 (k : Int32) (i : Int32) (x : xS) : xS :=
  (xu x 37 0 (((8 : Int32) * k) + i) (fX3_time x))
def cS_G (v kk : Nat) (S : xS) : xS :=
  if (S 35 0 (((8 : Int32) * (nI kk)) + (1 : Int32))) = (0 : Int32) then
    (fX3_fall (nI kk) (xu S 35 0 (((8 : Int32) * (nI kk)) + (1 : Int32)) (1 : Int32)))
  else
    (fX3_comeUp (nI kk) (xfold (bL_law_874 (nI kk)) 8 (xu S 35 0 (((8 : Int32) * (nI kk)) + (1 : Int32)) (0 : Int32))))
def cO_G (v kk : Nat) (S : xS) : Prop :=
  (¬ (S 35 0 (((8 : Int32) * (nI kk)) + (1 : Int32))) = (0 : Int32) → ¬ (xfold (bL_law_874 (nI kk)) 8 (xu S 35 0 (((8 : Int32) * (nI kk)) + (1 : Int32)) (0 : Int32))) 19 0 (nI kk) = (0 : Int32)) ∧
  ((S 35 0 (((8 : Int32) * (nI kk)) + (1 : Int32))) = (0 : Int32) → (xu S 35 0 (((8 : Int32) * (nI kk)) + (1 : Int32)) (1 : Int32)) 19 0 (nI kk) = (0 : Int32))
set_option maxRecDepth 100000 in
set_option maxHeartbeats 4000000 in
theorem lc_G {F : xF} {G : xG} {Sa : Nat → Nat} {sz : Nat} {S : xS} {k w b9 n v kk : Nat} {y9 z9 : Int32} (C : xC F cL_law 17 RL wsL_law room_1) (V : xV F xYc G) (Ev : xEv F Sa sz) (hsz : ∀ a : Nat, xA xYc G a → sz ≤ a) (hk : k + 1 ≤ 712973 ∧ w + 6 ≤ 6962778) (hv : v < 67108864) (hkk : kk < 8) (hO : cO_G v kk S) (K : xg F (k + 1) (w + 6) 1218 [some (.ref b9), some (.ref (G.2.2 0 0)), some (.ref (G.2.2 34 0)), some (.ref (G.2.2 35 0)), some (.ref (G.2.2 36 0)), some (.ref (G.2.2 37 0)), some (.ref (G.2.2 38 0)), some (.ref (G.2.2 39 0)), some (.int (1 : Int32)), some (.int (nI n)), some (.int y9), some (.int (nI v)), some (.int z9), some (.int (nI kk)), none, none, none] [] (xP xYc G (cS_G v kk S))) : xg F k w 833 [some (.ref b9), some (.ref (G.2.2 0 0)), some (.ref (G.2.2 34 0)), some (.ref (G.2.2 35 0)), some (.ref (G.2.2 36 0)), some (.ref (G.2.2 37 0)), some (.ref (G.2.2 38 0)), some (.ref (G.2.2 39 0)), some (.int (1 : Int32)), some (.int (nI n)), some (.int y9), some (.int (nI v)), some (.int z9), some (.int (nI kk)), none, none, none] [] (xP xYc G S) := by
  obtain ⟨hO1, hO2⟩ := hO
  have hap : xAp xYc G := V.1
  have hk8 : vp_in (nI kk) 8 := vp_in_nI hkk (by decide)
  refine xg_aload_n C dL_law_833 rfl ?_
  refine xg_bipush C dL_law_834 (v := (8 : Int32)) (by decide) ?_
  refine xg_iload C dL_law_836 rfl ?_
  refine xg_imul C dL_law_838 ?_
  refine xg_iconst C dL_law_839 (v := (1 : Int32)) (by decide) ?_
  refine xg_iadd C dL_law_840 ?_
  refine xg_iald C V (f := 35) (n := 1) (N := 64) rfl (by decide) (xR_0 (by decide)) (xin_8k (by assumption) (vp_in_iff.mpr ⟨by decide, by decide⟩)) dL_law_841 (v := (S 35 0 (((8 : Int32) * (nI kk)) + (1 : Int32)))) rfl ?_
  refine xg_if_ne C 849 dL_law_842 (by decide) (fun h1 => ?_) (fun h1 => ?_)
  · refine xg_iconst C dL_law_849 (v := (0 : Int32)) (by decide) ?_
    refine xg_istore C dL_law_850 (by decide) (L' := [some (.ref b9), some (.ref (G.2.2 0 0)), some (.ref (G.2.2 34 0)), some (.ref (G.2.2 35 0)), some (.ref (G.2.2 36 0)), some (.ref (G.2.2 37 0)), some (.ref (G.2.2 38 0)), some (.ref (G.2.2 39 0)), some (.int (1 : Int32)), some (.int (nI n)), some (.int y9), some (.int (nI v)), some (.int z9), some (.int (nI kk)), some (.int (0 : Int32)), none, none]) rfl ?_
    refine xg_aload_n C dL_law_852 rfl ?_
    refine xg_bipush C dL_law_853 (v := (8 : Int32)) (by decide) ?_
    refine xg_iload C dL_law_855 rfl ?_
    refine xg_imul C dL_law_857 ?_
    refine xg_iconst C dL_law_858 (v := (1 : Int32)) (by decide) ?_
    refine xg_iadd C dL_law_859 ?_
    refine xg_iload C dL_law_860 rfl ?_
    refine xg_if_eq C 869 dL_law_862 (by decide) (fun h2 => ?_) (fun h2 => by exact absurd h2 (by decide))
    refine xg_iconst C dL_law_869 (v := (0 : Int32)) (by decide) ?_
    refine xg_iast C V (f := 35) (n := 1) (N := 64) rfl (by decide) (xR_0 (by decide)) (xin_8k (by assumption) (vp_in_iff.mpr ⟨by decide, by decide⟩)) dL_law_870 ?_
    refine xg_iconst C dL_law_871 (v := (0 : Int32)) (by decide) ?_
    refine xg_istore C dL_law_872 (by decide) (L' := [some (.ref b9), some (.ref (G.2.2 0 0)), some (.ref (G.2.2 34 0)), some (.ref (G.2.2 35 0)), some (.ref (G.2.2 36 0)), some (.ref (G.2.2 37 0)), some (.ref (G.2.2 38 0)), some (.ref (G.2.2 39 0)), some (.int (1 : Int32)), some (.int (nI n)), some (.int y9), some (.int (nI v)), some (.int z9), some (.int (nI kk)), some (.int (0 : Int32)), some (.int (0 : Int32)), none]) rfl ?_
    refine xloop (fun (ii : Int32) (x : xS) => xg F k w 874 [some (.ref b9), some (.ref (G.2.2 0 0)), some (.ref (G.2.2 34 0)), some (.ref (G.2.2 35 0)), some (.ref (G.2.2 36 0)), some (.ref (G.2.2 37 0)), some (.ref (G.2.2 38 0)), some (.ref (G.2.2 39 0)), some (.int (1 : Int32)), some (.int (nI n)), some (.int y9), some (.int (nI v)), some (.int z9), some (.int (nI kk)), some (.int (0 : Int32)), some (.int ii), none] [] (xP xYc G x)) (bL_law_874 (nI kk)) 8 (xu S 35 0 (((8 : Int32) * (nI kk)) + (1 : Int32)) (0 : Int32)) (fun i hi x K => ?_) ?_
    · have hi8 : vp_in (nI i) 8 := vp_in_nI hi (by decide)
      show xg F k w 874 [some (.ref b9), some (.ref (G.2.2 0 0)), some (.ref (G.2.2 34 0)), some (.ref (G.2.2 35 0)), some (.ref (G.2.2 36 0)), some (.ref (G.2.2 37 0)), some (.ref (G.2.2 38 0)), some (.ref (G.2.2 39 0)), some (.int (1 : Int32)), some (.int (nI n)), some (.int y9), some (.int (nI v)), some (.int z9), some (.int (nI kk)), some (.int (0 : Int32)), some (.int (nI i)), none] [] (xP xYc G x)
      refine xg_iload C dL_law_874 rfl ?_
      refine xg_bipush C dL_law_876 (v := (8 : Int32)) (by decide) ?_
      refine xg_icmp_ge C 907 dL_law_878 (by decide) (fun h3 => absurd h3 (nI_ge hi (by decide))) (fun h3 => ?_)
      refine xg_iload C dL_law_881 rfl ?_
      refine xg_if_ne C 907 dL_law_883 (by decide) (fun h4 => by exact absurd h4 (by decide)) (fun h4 => ?_)
      refine xg_aload C dL_law_886 rfl ?_
      refine xg_bipush C dL_law_888 (v := (8 : Int32)) (by decide) ?_
      refine xg_iload C dL_law_890 rfl ?_
      refine xg_imul C dL_law_892 ?_
      refine xg_iload C dL_law_893 rfl ?_
      refine xg_iadd C dL_law_895 ?_
      refine xg_aload_n C dL_law_896 rfl ?_
      refine xg_callVi C V (f := 0) (As := []) (r := (fX3_time x)) (fun l => kX3_time l hap  x) gL_law_X3_time rfl hdX3_time ⟨by decide, by decide⟩ rfl rfl rfl rfl rfl (Nat.le_of_ble_eq_true rfl) ⟨by show _ ≤ 712973; omega, by show _ ≤ 6962778; omega⟩ dL_law_897 ?_
      refine xg_iast C V (f := 37) (n := 1) (N := 64) rfl (by decide) (xR_0 (by decide)) (xin_8k (by assumption) (by assumption)) dL_law_900 ?_
      refine xg_iinc C dL_law_901 rfl (v := (nI (i + 1))) (xinc i) (by decide) (L' := [some (.ref b9), some (.ref (G.2.2 0 0)), some (.ref (G.2.2 34 0)), some (.ref (G.2.2 35 0)), some (.ref (G.2.2 36 0)), some (.ref (G.2.2 37 0)), some (.ref (G.2.2 38 0)), some (.ref (G.2.2 39 0)), some (.int (1 : Int32)), some (.int (nI n)), some (.int y9), some (.int (nI v)), some (.int z9), some (.int (nI kk)), some (.int (0 : Int32)), some (.int (nI (i + 1))), none]) rfl ?_
      refine xg_goto C 874 dL_law_904 (by decide) ?_
      have e : (bL_law_874 (nI kk)) (nI i) x = (xu x 37 0 (((8 : Int32) * (nI kk)) + (nI i)) (fX3_time x)) := rfl
      rw [e] at K
      exact xg_le K ⟨rfl, rfl, rfl, rfl, rfl, rfl, rfl, rfl, rfl, rfl, rfl, rfl, rfl, rfl, rfl, rfl, trivial⟩
    · show xg F k w 874 [some (.ref b9), some (.ref (G.2.2 0 0)), some (.ref (G.2.2 34 0)), some (.ref (G.2.2 35 0)), some (.ref (G.2.2 36 0)), some (.ref (G.2.2 37 0)), some (.ref (G.2.2 38 0)), some (.ref (G.2.2 39 0)), some (.int (1 : Int32)), some (.int (nI n)), some (.int y9), some (.int (nI v)), some (.int z9), some (.int (nI kk)), some (.int (0 : Int32)), some (.int (nI 8)), none] [] (xP xYc G (xfold (bL_law_874 (nI kk)) 8 (xu S 35 0 (((8 : Int32) * (nI kk)) + (1 : Int32)) (0 : Int32))))
      refine xg_iload C dL_law_874 rfl ?_
      refine xg_bipush C dL_law_876 (v := (8 : Int32)) (by decide) ?_
      refine xg_icmp_ge C 907 dL_law_878 (by decide) (fun h5 => ?_) (fun h5 => absurd (nI_le (Nat.le_refl _) (by decide)) h5)
      refine xg_iload C dL_law_907 rfl ?_
      refine xg_if_eq C 921 dL_law_909 (by decide) (fun h6 => ?_) (fun h6 => by exact absurd h6 (by decide))
      refine xg_aload_n C dL_law_921 rfl ?_
      refine xg_iload C dL_law_922 rfl ?_
      refine xg_callSiW C V (as := [.ref (G.2.2 0 0), .int (nI kk)]) (r := (0 : Int32)) (fun l => kL_risen l hap (nI kk) (xfold (bL_law_874 (nI kk)) 8 (xu S 35 0 (((8 : Int32) * (nI kk)) + (1 : Int32)) (0 : Int32))) (by assumption) (hO1 h1)) gL_law_L_risen rfl hdL_risen ⟨by decide, by decide⟩ rfl rfl (Nat.le_of_ble_eq_true rfl) ⟨by show _ ≤ 712973; omega, by show _ ≤ 6962778; omega⟩ dL_law_924 ?_
      refine xg_if_ne C 934 dL_law_927 (by decide) (fun h7 => by exact absurd h7 (by decide)) (fun h7 => ?_)
      refine xg_iconst C dL_law_930 (v := (1 : Int32)) (by decide) ?_
      refine xg_goto C 935 dL_law_931 (by decide) ?_
      refine xg_istore C dL_law_935 (by decide) (L' := [some (.ref b9), some (.ref (G.2.2 0 0)), some (.ref (G.2.2 34 0)), some (.ref (G.2.2 35 0)), some (.ref (G.2.2 36 0)), some (.ref (G.2.2 37 0)), some (.ref (G.2.2 38 0)), some (.ref (G.2.2 39 0)), some (.int (1 : Int32)), some (.int (nI n)), some (.int y9), some (.int (nI v)), some (.int z9), some (.int (nI kk)), some (.int (0 : Int32)), some (.int (nI 8)), none]) rfl ?_
      refine xg_goto C 1218 dL_law_937 (by decide) ?_
      have e : (cS_G v kk S) = (fX3_comeUp (nI kk) (xfold (bL_law_874 (nI kk)) 8 (xu S 35 0 (((8 : Int32) * (nI kk)) + (1 : Int32)) (0 : Int32)))) := by first | (rw [cS_G, if_neg h1]; done) | (rw [cS_G, if_neg h1]; rfl)
      rw [e] at K
      exact xg_wide (xg_le K ⟨rfl, rfl, rfl, rfl, rfl, rfl, rfl, rfl, rfl, rfl, rfl, rfl, rfl, rfl, trivial⟩) (by omega) (by omega)
  · refine xg_iconst C dL_law_845 (v := (1 : Int32)) (by decide) ?_
    refine xg_goto C 850 dL_law_846 (by decide) ?_
    refine xg_istore C dL_law_850 (by decide) (L' := [some (.ref b9), some (.ref (G.2.2 0 0)), some (.ref (G.2.2 34 0)), some (.ref (G.2.2 35 0)), some (.ref (G.2.2 36 0)), some (.ref (G.2.2 37 0)), some (.ref (G.2.2 38 0)), some (.ref (G.2.2 39 0)), some (.int (1 : Int32)), some (.int (nI n)), some (.int y9), some (.int (nI v)), some (.int z9), some (.int (nI kk)), some (.int (1 : Int32)), none, none]) rfl ?_
    refine xg_aload_n C dL_law_852 rfl ?_
    refine xg_bipush C dL_law_853 (v := (8 : Int32)) (by decide) ?_
    refine xg_iload C dL_law_855 rfl ?_
    refine xg_imul C dL_law_857 ?_
    refine xg_iconst C dL_law_858 (v := (1 : Int32)) (by decide) ?_
    refine xg_iadd C dL_law_859 ?_
    refine xg_iload C dL_law_860 rfl ?_
    refine xg_if_eq C 869 dL_law_862 (by decide) (fun h8 => by exact absurd h8 (by decide)) (fun h8 => ?_)
    refine xg_iconst C dL_law_865 (v := (1 : Int32)) (by decide) ?_
    refine xg_goto C 870 dL_law_866 (by decide) ?_
    refine xg_iast C V (f := 35) (n := 1) (N := 64) rfl (by decide) (xR_0 (by decide)) (xin_8k (by assumption) (vp_in_iff.mpr ⟨by decide, by decide⟩)) dL_law_870 ?_
    refine xg_iconst C dL_law_871 (v := (0 : Int32)) (by decide) ?_
    refine xg_istore C dL_law_872 (by decide) (L' := [some (.ref b9), some (.ref (G.2.2 0 0)), some (.ref (G.2.2 34 0)), some (.ref (G.2.2 35 0)), some (.ref (G.2.2 36 0)), some (.ref (G.2.2 37 0)), some (.ref (G.2.2 38 0)), some (.ref (G.2.2 39 0)), some (.int (1 : Int32)), some (.int (nI n)), some (.int y9), some (.int (nI v)), some (.int z9), some (.int (nI kk)), some (.int (1 : Int32)), some (.int (0 : Int32)), none]) rfl ?_
    refine xg_iload C dL_law_874 rfl ?_
    refine xg_bipush C dL_law_876 (v := (8 : Int32)) (by decide) ?_
    refine xg_icmp_ge C 907 dL_law_878 (by decide) (fun h9 => by exact absurd h9 (by decide)) (fun h9 => ?_)
    refine xg_iload C dL_law_881 rfl ?_
    refine xg_if_ne C 907 dL_law_883 (by decide) (fun h10 => ?_) (fun h10 => by exact absurd h10 (by decide))
    refine xg_iload C dL_law_907 rfl ?_
    refine xg_if_eq C 921 dL_law_909 (by decide) (fun h11 => by exact absurd h11 (by decide)) (fun h11 => ?_)
    refine xg_aload_n C dL_law_912 rfl ?_
    refine xg_iload C dL_law_913 rfl ?_
    refine xg_callSiW C V (as := [.ref (G.2.2 0 0), .int (nI kk)]) (r := (0 : Int32)) (fun l => kL_fallen l hap (nI kk) (xu S 35 0 (((8 : Int32) * (nI kk)) + (1 : Int32)) (1 : Int32)) (by assumption) (hO2 h1)) gL_law_L_fallen rfl hdL_fallen ⟨by decide, by decide⟩ rfl rfl (Nat.le_of_ble_eq_true rfl) ⟨by show _ ≤ 712973; omega, by show _ ≤ 6962778; omega⟩ dL_law_915 ?_
    refine xg_goto C 927 dL_law_918 (by decide) ?_
    refine xg_if_ne C 934 dL_law_927 (by decide) (fun h12 => by exact absurd h12 (by decide)) (fun h12 => ?_)
    refine xg_iconst C dL_law_930 (v := (1 : Int32)) (by decide) ?_
    refine xg_goto C 935 dL_law_931 (by decide) ?_
    refine xg_istore C dL_law_935 (by decide) (L' := [some (.ref b9), some (.ref (G.2.2 0 0)), some (.ref (G.2.2 34 0)), some (.ref (G.2.2 35 0)), some (.ref (G.2.2 36 0)), some (.ref (G.2.2 37 0)), some (.ref (G.2.2 38 0)), some (.ref (G.2.2 39 0)), some (.int (1 : Int32)), some (.int (nI n)), some (.int y9), some (.int (nI v)), some (.int z9), some (.int (nI kk)), some (.int (1 : Int32)), some (.int (0 : Int32)), none]) rfl ?_
    refine xg_goto C 1218 dL_law_937 (by decide) ?_
    have e : (cS_G v kk S) = (fX3_fall (nI kk) (xu S 35 0 (((8 : Int32) * (nI kk)) + (1 : Int32)) (1 : Int32))) := by first | (rw [cS_G, if_pos h1]; done) | (rw [cS_G, if_pos h1]; rfl)
    rw [e] at K
    exact xg_wide (xg_le K ⟨rfl, rfl, rfl, rfl, rfl, rfl, rfl, rfl, rfl, rfl, rfl, rfl, rfl, rfl, trivial⟩) (by omega) (by omega)
def cS_H (v kk : Nat) (S : xS) : xS :=
  if (nI (v % 3)) = (0 : Int32) then
    (fX3_setGroup (nI kk) (nI ((v / 8) % 4)) (xu S 35 0 (((8 : Int32) * (nI kk)) + (3 : Int32)) (nI ((v / 8) % 4)))).1
  else
    (fX3_setGroup (nI kk) (0 : Int32) (xu S 35 0 (((8 : Int32) * (nI kk)) + (3 : Int32)) (0 : Int32))).1
def cO_H (v kk : Nat) (S : xS) : Prop :=
  (¬ (nI (v % 3)) = (0 : Int32) → ¬ (0 : Int32) < (0 : Int32)) ∧
  (¬ (nI (v % 3)) = (0 : Int32) → (0 : Int32) ≤ (3 : Int32)) ∧
  (¬ (nI (v % 3)) = (0 : Int32) → (fX3_setGroup (nI kk) (0 : Int32) (xu S 35 0 (((8 : Int32) * (nI kk)) + (3 : Int32)) (0 : Int32))).2 = (S 35 0 (((8 : Int32) * (nI kk)) + (3 : Int32)))) ∧
  ((nI (v % 3)) = (0 : Int32) → ¬ (nI ((v / 8) % 4)) < (0 : Int32)) ∧
  ((nI (v % 3)) = (0 : Int32) → (nI ((v / 8) % 4)) ≤ (3 : Int32)) ∧
  ((nI (v % 3)) = (0 : Int32) → (fX3_setGroup (nI kk) (nI ((v / 8) % 4)) (xu S 35 0 (((8 : Int32) * (nI kk)) + (3 : Int32)) (nI ((v / 8) % 4)))).2 = (S 35 0 (((8 : Int32) * (nI kk)) + (3 : Int32))))
set_option maxRecDepth 100000 in
set_option maxHeartbeats 4000000 in
theorem lc_H {F : xF} {G : xG} {Sa : Nat → Nat} {sz : Nat} {S : xS} {k w b9 n v kk : Nat} {y9 z9 : Int32} (C : xC F cL_law 17 RL wsL_law room_1) (V : xV F xYc G) (Ev : xEv F Sa sz) (hsz : ∀ a : Nat, xA xYc G a → sz ≤ a) (hk : k + 1 ≤ 712973 ∧ w + 6 ≤ 6962778) (hv : v < 67108864) (hkk : kk < 8) (hO : cO_H v kk S) (K : xg F (k + 1) (w + 6) 1218 [some (.ref b9), some (.ref (G.2.2 0 0)), some (.ref (G.2.2 34 0)), some (.ref (G.2.2 35 0)), some (.ref (G.2.2 36 0)), some (.ref (G.2.2 37 0)), some (.ref (G.2.2 38 0)), some (.ref (G.2.2 39 0)), some (.int (1 : Int32)), some (.int (nI n)), some (.int y9), some (.int (nI v)), some (.int z9), some (.int (nI kk)), none, none, none] [] (xP xYc G (cS_H v kk S))) : xg F k w 947 [some (.ref b9), some (.ref (G.2.2 0 0)), some (.ref (G.2.2 34 0)), some (.ref (G.2.2 35 0)), some (.ref (G.2.2 36 0)), some (.ref (G.2.2 37 0)), some (.ref (G.2.2 38 0)), some (.ref (G.2.2 39 0)), some (.int (1 : Int32)), some (.int (nI n)), some (.int y9), some (.int (nI v)), some (.int z9), some (.int (nI kk)), none, none, none] [] (xP xYc G S) := by
  obtain ⟨hO1, hO2, hO3, hO4, hO5, hO6⟩ := hO
  have hap : xAp xYc G := V.1
  have hk8 : vp_in (nI kk) 8 := vp_in_nI hkk (by decide)
  refine xg_iload C dL_law_947 rfl ?_
  refine xg_bipush C dL_law_949 (v := (8 : Int32)) (by decide) ?_
  refine xg_idivN C (a := 8) (by omega) (by decide) rfl dL_law_951 ?_
  refine xg_iconst C dL_law_952 (v := (4 : Int32)) (by decide) ?_
  refine xg_iremN C (a := 4) (by omega) (by decide) rfl dL_law_953 ?_
  refine xg_iload C dL_law_954 rfl ?_
  refine xg_iconst C dL_law_956 (v := (3 : Int32)) (by decide) ?_
  refine xg_iremN C (a := 3) (by omega) (by decide) rfl dL_law_957 ?_
  refine xg_if_ne C 965 dL_law_958 (by decide) (fun h1 => ?_) (fun h1 => ?_)
  · refine xg_iconst C dL_law_965 (v := (0 : Int32)) (by decide) ?_
    refine xg_imul0 C dL_law_966 ?_
    refine xg_istore C dL_law_967 (by decide) (L' := [some (.ref b9), some (.ref (G.2.2 0 0)), some (.ref (G.2.2 34 0)), some (.ref (G.2.2 35 0)), some (.ref (G.2.2 36 0)), some (.ref (G.2.2 37 0)), some (.ref (G.2.2 38 0)), some (.ref (G.2.2 39 0)), some (.int (1 : Int32)), some (.int (nI n)), some (.int y9), some (.int (nI v)), some (.int z9), some (.int (nI kk)), some (.int (0 : Int32)), none, none]) rfl ?_
    refine xg_aload_n C dL_law_969 rfl ?_
    refine xg_bipush C dL_law_970 (v := (8 : Int32)) (by decide) ?_
    refine xg_iload C dL_law_972 rfl ?_
    refine xg_imul C dL_law_974 ?_
    refine xg_iconst C dL_law_975 (v := (3 : Int32)) (by decide) ?_
    refine xg_iadd C dL_law_976 ?_
    refine xg_iald C V (f := 35) (n := 1) (N := 64) rfl (by decide) (xR_0 (by decide)) (xin_8k (by assumption) (vp_in_iff.mpr ⟨by decide, by decide⟩)) dL_law_977 (v := (S 35 0 (((8 : Int32) * (nI kk)) + (3 : Int32)))) rfl ?_
    refine xg_istore C dL_law_978 (by decide) (L' := [some (.ref b9), some (.ref (G.2.2 0 0)), some (.ref (G.2.2 34 0)), some (.ref (G.2.2 35 0)), some (.ref (G.2.2 36 0)), some (.ref (G.2.2 37 0)), some (.ref (G.2.2 38 0)), some (.ref (G.2.2 39 0)), some (.int (1 : Int32)), some (.int (nI n)), some (.int y9), some (.int (nI v)), some (.int z9), some (.int (nI kk)), some (.int (0 : Int32)), some (.int (S 35 0 (((8 : Int32) * (nI kk)) + (3 : Int32)))), none]) rfl ?_
    refine xg_aload_n C dL_law_980 rfl ?_
    refine xg_bipush C dL_law_981 (v := (8 : Int32)) (by decide) ?_
    refine xg_iload C dL_law_983 rfl ?_
    refine xg_imul C dL_law_985 ?_
    refine xg_iconst C dL_law_986 (v := (3 : Int32)) (by decide) ?_
    refine xg_iadd C dL_law_987 ?_
    refine xg_iload C dL_law_988 rfl ?_
    refine xg_iast C V (f := 35) (n := 1) (N := 64) rfl (by decide) (xR_0 (by decide)) (xin_8k (by assumption) (vp_in_iff.mpr ⟨by decide, by decide⟩)) dL_law_990 ?_
    refine xg_aload_n C dL_law_991 rfl ?_
    refine xg_iconst C dL_law_992 (v := (4 : Int32)) (by decide) ?_
    refine xg_iload C dL_law_993 rfl ?_
    refine xg_iload C dL_law_995 rfl ?_
    refine xg_callSiW C V (as := [.ref (G.2.2 0 0), .int (4 : Int32), .int (nI kk), .int (0 : Int32)]) (r := (fX3_setGroup (nI kk) (0 : Int32) (xu S 35 0 (((8 : Int32) * (nI kk)) + (3 : Int32)) (0 : Int32))).2) (fun l => kL_act4 l hap (nI kk) (0 : Int32) (xu S 35 0 (((8 : Int32) * (nI kk)) + (3 : Int32)) (0 : Int32)) (by assumption) (hO1 h1) (hO2 h1)) gL_law_L_act rfl hdL_act ⟨by decide, by decide⟩ rfl rfl (Nat.le_of_ble_eq_true rfl) ⟨by show _ ≤ 712973; omega, by show _ ≤ 6962778; omega⟩ dL_law_997 ?_
    refine xg_iload C dL_law_1000 rfl ?_
    refine xg_icmp_ne C 1009 dL_law_1002 (by decide) (fun h2 => absurd (hO3 h1) h2) (fun h2 => ?_)
    refine xg_iconst C dL_law_1005 (v := (1 : Int32)) (by decide) ?_
    refine xg_goto C 1010 dL_law_1006 (by decide) ?_
    refine xg_istore C dL_law_1010 (by decide) (L' := [some (.ref b9), some (.ref (G.2.2 0 0)), some (.ref (G.2.2 34 0)), some (.ref (G.2.2 35 0)), some (.ref (G.2.2 36 0)), some (.ref (G.2.2 37 0)), some (.ref (G.2.2 38 0)), some (.ref (G.2.2 39 0)), some (.int (1 : Int32)), some (.int (nI n)), some (.int y9), some (.int (nI v)), some (.int z9), some (.int (nI kk)), some (.int (0 : Int32)), some (.int (S 35 0 (((8 : Int32) * (nI kk)) + (3 : Int32)))), none]) rfl ?_
    refine xg_goto C 1218 dL_law_1012 (by decide) ?_
    have e : (cS_H v kk S) = (fX3_setGroup (nI kk) (0 : Int32) (xu S 35 0 (((8 : Int32) * (nI kk)) + (3 : Int32)) (0 : Int32))).1 := by first | (rw [cS_H, if_neg h1]; done) | (rw [cS_H, if_neg h1]; rfl)
    rw [e] at K
    exact xg_wide (xg_le K ⟨rfl, rfl, rfl, rfl, rfl, rfl, rfl, rfl, rfl, rfl, rfl, rfl, rfl, rfl, trivial⟩) (by omega) (by omega)
  · refine xg_iconst C dL_law_961 (v := (1 : Int32)) (by decide) ?_
    refine xg_goto C 966 dL_law_962 (by decide) ?_
    refine xg_imul1 C dL_law_966 ?_
    refine xg_istore C dL_law_967 (by decide) (L' := [some (.ref b9), some (.ref (G.2.2 0 0)), some (.ref (G.2.2 34 0)), some (.ref (G.2.2 35 0)), some (.ref (G.2.2 36 0)), some (.ref (G.2.2 37 0)), some (.ref (G.2.2 38 0)), some (.ref (G.2.2 39 0)), some (.int (1 : Int32)), some (.int (nI n)), some (.int y9), some (.int (nI v)), some (.int z9), some (.int (nI kk)), some (.int (nI ((v / 8) % 4))), none, none]) rfl ?_
    refine xg_aload_n C dL_law_969 rfl ?_
    refine xg_bipush C dL_law_970 (v := (8 : Int32)) (by decide) ?_
    refine xg_iload C dL_law_972 rfl ?_
    refine xg_imul C dL_law_974 ?_
    refine xg_iconst C dL_law_975 (v := (3 : Int32)) (by decide) ?_
    refine xg_iadd C dL_law_976 ?_
    refine xg_iald C V (f := 35) (n := 1) (N := 64) rfl (by decide) (xR_0 (by decide)) (xin_8k (by assumption) (vp_in_iff.mpr ⟨by decide, by decide⟩)) dL_law_977 (v := (S 35 0 (((8 : Int32) * (nI kk)) + (3 : Int32)))) rfl ?_
    refine xg_istore C dL_law_978 (by decide) (L' := [some (.ref b9), some (.ref (G.2.2 0 0)), some (.ref (G.2.2 34 0)), some (.ref (G.2.2 35 0)), some (.ref (G.2.2 36 0)), some (.ref (G.2.2 37 0)), some (.ref (G.2.2 38 0)), some (.ref (G.2.2 39 0)), some (.int (1 : Int32)), some (.int (nI n)), some (.int y9), some (.int (nI v)), some (.int z9), some (.int (nI kk)), some (.int (nI ((v / 8) % 4))), some (.int (S 35 0 (((8 : Int32) * (nI kk)) + (3 : Int32)))), none]) rfl ?_
    refine xg_aload_n C dL_law_980 rfl ?_
    refine xg_bipush C dL_law_981 (v := (8 : Int32)) (by decide) ?_
    refine xg_iload C dL_law_983 rfl ?_
    refine xg_imul C dL_law_985 ?_
    refine xg_iconst C dL_law_986 (v := (3 : Int32)) (by decide) ?_
    refine xg_iadd C dL_law_987 ?_
    refine xg_iload C dL_law_988 rfl ?_
    refine xg_iast C V (f := 35) (n := 1) (N := 64) rfl (by decide) (xR_0 (by decide)) (xin_8k (by assumption) (vp_in_iff.mpr ⟨by decide, by decide⟩)) dL_law_990 ?_
    refine xg_aload_n C dL_law_991 rfl ?_
    refine xg_iconst C dL_law_992 (v := (4 : Int32)) (by decide) ?_
    refine xg_iload C dL_law_993 rfl ?_
    refine xg_iload C dL_law_995 rfl ?_
    refine xg_callSiW C V (as := [.ref (G.2.2 0 0), .int (4 : Int32), .int (nI kk), .int (nI ((v / 8) % 4))]) (r := (fX3_setGroup (nI kk) (nI ((v / 8) % 4)) (xu S 35 0 (((8 : Int32) * (nI kk)) + (3 : Int32)) (nI ((v / 8) % 4)))).2) (fun l => kL_act4 l hap (nI kk) (nI ((v / 8) % 4)) (xu S 35 0 (((8 : Int32) * (nI kk)) + (3 : Int32)) (nI ((v / 8) % 4))) (by assumption) (hO4 h1) (hO5 h1)) gL_law_L_act rfl hdL_act ⟨by decide, by decide⟩ rfl rfl (Nat.le_of_ble_eq_true rfl) ⟨by show _ ≤ 712973; omega, by show _ ≤ 6962778; omega⟩ dL_law_997 ?_
    refine xg_iload C dL_law_1000 rfl ?_
    refine xg_icmp_ne C 1009 dL_law_1002 (by decide) (fun h3 => absurd (hO6 h1) h3) (fun h3 => ?_)
    refine xg_iconst C dL_law_1005 (v := (1 : Int32)) (by decide) ?_
    refine xg_goto C 1010 dL_law_1006 (by decide) ?_
    refine xg_istore C dL_law_1010 (by decide) (L' := [some (.ref b9), some (.ref (G.2.2 0 0)), some (.ref (G.2.2 34 0)), some (.ref (G.2.2 35 0)), some (.ref (G.2.2 36 0)), some (.ref (G.2.2 37 0)), some (.ref (G.2.2 38 0)), some (.ref (G.2.2 39 0)), some (.int (1 : Int32)), some (.int (nI n)), some (.int y9), some (.int (nI v)), some (.int z9), some (.int (nI kk)), some (.int (nI ((v / 8) % 4))), some (.int (S 35 0 (((8 : Int32) * (nI kk)) + (3 : Int32)))), none]) rfl ?_
    refine xg_goto C 1218 dL_law_1012 (by decide) ?_
    have e : (cS_H v kk S) = (fX3_setGroup (nI kk) (nI ((v / 8) % 4)) (xu S 35 0 (((8 : Int32) * (nI kk)) + (3 : Int32)) (nI ((v / 8) % 4)))).1 := by first | (rw [cS_H, if_pos h1]; done) | (rw [cS_H, if_pos h1]; rfl)
    rw [e] at K
    exact xg_wide (xg_le K ⟨rfl, rfl, rfl, rfl, rfl, rfl, rfl, rfl, rfl, rfl, rfl, rfl, rfl, rfl, trivial⟩) (by omega) (by omega)
def cS_I (v kk : Nat) (S : xS) : xS :=
  (fL_act5 (nI kk) (nI ((v / 8) % 2)) (xu S 35 0 (((8 : Int32) * (nI kk)) + (2 : Int32)) (nI ((v / 8) % 2)))).1
def cO_I (v kk : Nat) (S : xS) : Prop :=
  (narrow .boolean (.int ((xu S 35 0 (((8 : Int32) * (nI kk)) + (2 : Int32)) (nI ((v / 8) % 2))) 20 0 (nI kk))) = .int ((xu S 35 0 (((8 : Int32) * (nI kk)) + (2 : Int32)) (nI ((v / 8) % 2))) 20 0 (nI kk))) ∧
  ((fL_act5 (nI kk) (nI ((v / 8) % 2)) (xu S 35 0 (((8 : Int32) * (nI kk)) + (2 : Int32)) (nI ((v / 8) % 2)))).2 = (S 35 0 (((8 : Int32) * (nI kk)) + (2 : Int32))))
set_option maxRecDepth 100000 in
set_option maxHeartbeats 4000000 in
theorem lc_I {F : xF} {G : xG} {Sa : Nat → Nat} {sz : Nat} {S : xS} {k w b9 n v kk : Nat} {y9 z9 : Int32} (C : xC F cL_law 17 RL wsL_law room_1) (V : xV F xYc G) (Ev : xEv F Sa sz) (hsz : ∀ a : Nat, xA xYc G a → sz ≤ a) (hk : k + 1 ≤ 712973 ∧ w + 6 ≤ 6962778) (hv : v < 67108864) (hkk : kk < 8) (hO : cO_I v kk S) (K : xg F (k + 1) (w + 6) 1218 [some (.ref b9), some (.ref (G.2.2 0 0)), some (.ref (G.2.2 34 0)), some (.ref (G.2.2 35 0)), some (.ref (G.2.2 36 0)), some (.ref (G.2.2 37 0)), some (.ref (G.2.2 38 0)), some (.ref (G.2.2 39 0)), some (.int (1 : Int32)), some (.int (nI n)), some (.int y9), some (.int (nI v)), some (.int z9), some (.int (nI kk)), none, none, none] [] (xP xYc G (cS_I v kk S))) : xg F k w 1022 [some (.ref b9), some (.ref (G.2.2 0 0)), some (.ref (G.2.2 34 0)), some (.ref (G.2.2 35 0)), some (.ref (G.2.2 36 0)), some (.ref (G.2.2 37 0)), some (.ref (G.2.2 38 0)), some (.ref (G.2.2 39 0)), some (.int (1 : Int32)), some (.int (nI n)), some (.int y9), some (.int (nI v)), some (.int z9), some (.int (nI kk)), none, none, none] [] (xP xYc G S) := by
  obtain ⟨hO1, hO2⟩ := hO
  have hap : xAp xYc G := V.1
  have hk8 : vp_in (nI kk) 8 := vp_in_nI hkk (by decide)
  refine xg_aload_n C dL_law_1022 rfl ?_
  refine xg_bipush C dL_law_1023 (v := (8 : Int32)) (by decide) ?_
  refine xg_iload C dL_law_1025 rfl ?_
  refine xg_imul C dL_law_1027 ?_
  refine xg_iconst C dL_law_1028 (v := (2 : Int32)) (by decide) ?_
  refine xg_iadd C dL_law_1029 ?_
  refine xg_iald C V (f := 35) (n := 1) (N := 64) rfl (by decide) (xR_0 (by decide)) (xin_8k (by assumption) (vp_in_iff.mpr ⟨by decide, by decide⟩)) dL_law_1030 (v := (S 35 0 (((8 : Int32) * (nI kk)) + (2 : Int32)))) rfl ?_
  refine xg_istore C dL_law_1031 (by decide) (L' := [some (.ref b9), some (.ref (G.2.2 0 0)), some (.ref (G.2.2 34 0)), some (.ref (G.2.2 35 0)), some (.ref (G.2.2 36 0)), some (.ref (G.2.2 37 0)), some (.ref (G.2.2 38 0)), some (.ref (G.2.2 39 0)), some (.int (1 : Int32)), some (.int (nI n)), some (.int y9), some (.int (nI v)), some (.int z9), some (.int (nI kk)), some (.int (S 35 0 (((8 : Int32) * (nI kk)) + (2 : Int32)))), none, none]) rfl ?_
  refine xg_aload_n C dL_law_1033 rfl ?_
  refine xg_bipush C dL_law_1034 (v := (8 : Int32)) (by decide) ?_
  refine xg_iload C dL_law_1036 rfl ?_
  refine xg_imul C dL_law_1038 ?_
  refine xg_iconst C dL_law_1039 (v := (2 : Int32)) (by decide) ?_
  refine xg_iadd C dL_law_1040 ?_
  refine xg_iload C dL_law_1041 rfl ?_
  refine xg_bipush C dL_law_1043 (v := (8 : Int32)) (by decide) ?_
  refine xg_idivN C (a := 8) (by omega) (by decide) rfl dL_law_1045 ?_
  refine xg_iconst C dL_law_1046 (v := (2 : Int32)) (by decide) ?_
  refine xg_iremN C (a := 2) (by omega) (by decide) rfl dL_law_1047 ?_
  refine xg_iast C V (f := 35) (n := 1) (N := 64) rfl (by decide) (xR_0 (by decide)) (xin_8k (by assumption) (vp_in_iff.mpr ⟨by decide, by decide⟩)) dL_law_1048 ?_
  refine xg_aload_n C dL_law_1049 rfl ?_
  refine xg_iconst C dL_law_1050 (v := (5 : Int32)) (by decide) ?_
  refine xg_iload C dL_law_1051 rfl ?_
  refine xg_iload C dL_law_1053 rfl ?_
  refine xg_bipush C dL_law_1055 (v := (8 : Int32)) (by decide) ?_
  refine xg_idivN C (a := 8) (by omega) (by decide) rfl dL_law_1057 ?_
  refine xg_iconst C dL_law_1058 (v := (2 : Int32)) (by decide) ?_
  refine xg_iremN C (a := 2) (by omega) (by decide) rfl dL_law_1059 ?_
  refine xg_callSiW C V (as := [.ref (G.2.2 0 0), .int (5 : Int32), .int (nI kk), .int (nI ((v / 8) % 2))]) (r := (fL_act5 (nI kk) (nI ((v / 8) % 2)) (xu S 35 0 (((8 : Int32) * (nI kk)) + (2 : Int32)) (nI ((v / 8) % 2)))).2) (fun l => kL_act5 l hap (nI kk) (nI ((v / 8) % 2)) (xu S 35 0 (((8 : Int32) * (nI kk)) + (2 : Int32)) (nI ((v / 8) % 2))) (by assumption) (hO1)) gL_law_L_act rfl hdL_act ⟨by decide, by decide⟩ rfl rfl (Nat.le_of_ble_eq_true rfl) ⟨by show _ ≤ 712973; omega, by show _ ≤ 6962778; omega⟩ dL_law_1060 ?_
  refine xg_iload C dL_law_1063 rfl ?_
  refine xg_icmp_ne C 1072 dL_law_1065 (by decide) (fun h1 => absurd (hO2) h1) (fun h1 => ?_)
  refine xg_iconst C dL_law_1068 (v := (1 : Int32)) (by decide) ?_
  refine xg_goto C 1073 dL_law_1069 (by decide) ?_
  refine xg_istore C dL_law_1073 (by decide) (L' := [some (.ref b9), some (.ref (G.2.2 0 0)), some (.ref (G.2.2 34 0)), some (.ref (G.2.2 35 0)), some (.ref (G.2.2 36 0)), some (.ref (G.2.2 37 0)), some (.ref (G.2.2 38 0)), some (.ref (G.2.2 39 0)), some (.int (1 : Int32)), some (.int (nI n)), some (.int y9), some (.int (nI v)), some (.int z9), some (.int (nI kk)), some (.int (S 35 0 (((8 : Int32) * (nI kk)) + (2 : Int32)))), none, none]) rfl ?_
  refine xg_goto C 1218 dL_law_1075 (by decide) ?_
  have e : (cS_I v kk S) = (fL_act5 (nI kk) (nI ((v / 8) % 2)) (xu S 35 0 (((8 : Int32) * (nI kk)) + (2 : Int32)) (nI ((v / 8) % 2)))).1 := rfl
  rw [e] at K
  exact xg_wide (xg_le K ⟨rfl, rfl, rfl, rfl, rfl, rfl, rfl, rfl, rfl, rfl, rfl, rfl, rfl, rfl, trivial⟩) (by omega) (by omega)
def cS_J (v kk : Nat) (S : xS) : xS :=
  if (nI (v % 3)) = (0 : Int32) then
    (fX3_setTimes (nI (1 + (v % 50))) (nI ((1 + (v % 50)) + ((v / 50) % 51))) (xu (xu S 39 0 (1 : Int32) (nI (1 + (v % 50)))) 39 0 (2 : Int32) (nI ((1 + (v % 50)) + ((v / 50) % 51)))))
  else
    (fX3_setTimes (nI (1 + (v % 4))) (nI ((1 + (v % 4)) + ((v / 50) % 5))) (xu (xu S 39 0 (1 : Int32) (nI (1 + (v % 4)))) 39 0 (2 : Int32) (nI ((1 + (v % 4)) + ((v / 50) % 5)))))
def cO_J (v kk : Nat) (S : xS) : Prop :=
  (¬ (nI (v % 3)) = (0 : Int32) → ¬ (nI (1 + (v % 4))) < (1 : Int32)) ∧
  (¬ (nI (v % 3)) = (0 : Int32) → (nI (1 + (v % 4))) ≤ (50 : Int32)) ∧
  (¬ (nI (v % 3)) = (0 : Int32) → ¬ (nI ((1 + (v % 4)) + ((v / 50) % 5))) < (nI (1 + (v % 4)))) ∧
  (¬ (nI (v % 3)) = (0 : Int32) → (nI ((1 + (v % 4)) + ((v / 50) % 5))) ≤ (100 : Int32)) ∧
  ((nI (v % 3)) = (0 : Int32) → ¬ (nI (1 + (v % 50))) < (1 : Int32)) ∧
  ((nI (v % 3)) = (0 : Int32) → (nI (1 + (v % 50))) ≤ (50 : Int32)) ∧
  ((nI (v % 3)) = (0 : Int32) → ¬ (nI ((1 + (v % 50)) + ((v / 50) % 51))) < (nI (1 + (v % 50)))) ∧
  ((nI (v % 3)) = (0 : Int32) → (nI ((1 + (v % 50)) + ((v / 50) % 51))) ≤ (100 : Int32))
set_option maxRecDepth 100000 in
set_option maxHeartbeats 4000000 in
theorem lc_J {F : xF} {G : xG} {Sa : Nat → Nat} {sz : Nat} {S : xS} {k w b9 n v kk : Nat} {y9 z9 : Int32} (C : xC F cL_law 17 RL wsL_law room_1) (V : xV F xYc G) (Ev : xEv F Sa sz) (hsz : ∀ a : Nat, xA xYc G a → sz ≤ a) (hk : k + 1 ≤ 712973 ∧ w + 6 ≤ 6962778) (hv : v < 67108864) (hkk : kk < 8) (hO : cO_J v kk S) (K : xg F (k + 1) (w + 6) 1218 [some (.ref b9), some (.ref (G.2.2 0 0)), some (.ref (G.2.2 34 0)), some (.ref (G.2.2 35 0)), some (.ref (G.2.2 36 0)), some (.ref (G.2.2 37 0)), some (.ref (G.2.2 38 0)), some (.ref (G.2.2 39 0)), some (.int (1 : Int32)), some (.int (nI n)), some (.int y9), some (.int (nI v)), some (.int z9), some (.int (nI kk)), none, none, none] [] (xP xYc G (cS_J v kk S))) : xg F k w 1085 [some (.ref b9), some (.ref (G.2.2 0 0)), some (.ref (G.2.2 34 0)), some (.ref (G.2.2 35 0)), some (.ref (G.2.2 36 0)), some (.ref (G.2.2 37 0)), some (.ref (G.2.2 38 0)), some (.ref (G.2.2 39 0)), some (.int (1 : Int32)), some (.int (nI n)), some (.int y9), some (.int (nI v)), some (.int z9), some (.int (nI kk)), none, none, none] [] (xP xYc G S) := by
  obtain ⟨hO1, hO2, hO3, hO4, hO5, hO6, hO7, hO8⟩ := hO
  have hap : xAp xYc G := V.1
  have hk8 : vp_in (nI kk) 8 := vp_in_nI hkk (by decide)
  refine xg_aload C dL_law_1085 rfl ?_
  refine xg_iconst C dL_law_1087 (v := (1 : Int32)) (by decide) ?_
  refine xg_iconst C dL_law_1088 (v := (1 : Int32)) (by decide) ?_
  refine xg_iload C dL_law_1089 rfl ?_
  refine xg_iload C dL_law_1091 rfl ?_
  refine xg_iconst C dL_law_1093 (v := (3 : Int32)) (by decide) ?_
  refine xg_iremN C (a := 3) (by omega) (by decide) rfl dL_law_1094 ?_
  refine xg_if_ne C 1103 dL_law_1095 (by decide) (fun h1 => ?_) (fun h1 => ?_)
  · refine xg_iconst C dL_law_1103 (v := (4 : Int32)) (by decide) ?_
    refine xg_iremN C (a := 4) (by omega) (by decide) rfl dL_law_1104 ?_
    refine xg_iaddN C (a := 1) rfl dL_law_1105 ?_
    refine xg_iast C V (f := 39) (n := 1) (N := 3) rfl (by decide) (xR_0 (by decide)) (vp_in_iff.mpr ⟨by decide, by decide⟩) dL_law_1106 ?_
    refine xg_aload C dL_law_1107 rfl ?_
    refine xg_iconst C dL_law_1109 (v := (2 : Int32)) (by decide) ?_
    refine xg_aload C dL_law_1110 rfl ?_
    refine xg_iconst C dL_law_1112 (v := (1 : Int32)) (by decide) ?_
    refine xg_iald C V (f := 39) (n := 1) (N := 3) rfl (by decide) (xR_0 (by decide)) (vp_in_iff.mpr ⟨by decide, by decide⟩) dL_law_1113 (v := (nI (1 + (v % 4)))) xu_same ?_
    refine xg_iload C dL_law_1114 rfl ?_
    refine xg_bipush C dL_law_1116 (v := (50 : Int32)) (by decide) ?_
    refine xg_idivN C (a := 50) (by omega) (by decide) rfl dL_law_1118 ?_
    refine xg_iload C dL_law_1119 rfl ?_
    refine xg_iconst C dL_law_1121 (v := (3 : Int32)) (by decide) ?_
    refine xg_iremN C (a := 3) (by omega) (by decide) rfl dL_law_1122 ?_
    refine xg_if_ne C 1131 dL_law_1123 (by decide) (fun h2 => ?_) (fun h2 => by contradiction)
    refine xg_iconst C dL_law_1131 (v := (5 : Int32)) (by decide) ?_
    refine xg_iremN C (a := 5) (by omega) (by decide) rfl dL_law_1132 ?_
    refine xg_iaddN C rfl dL_law_1133 ?_
    refine xg_iast C V (f := 39) (n := 1) (N := 3) rfl (by decide) (xR_0 (by decide)) (vp_in_iff.mpr ⟨by decide, by decide⟩) dL_law_1134 ?_
    refine xg_aload_n C dL_law_1135 rfl ?_
    refine xg_aload C dL_law_1136 rfl ?_
    refine xg_iconst C dL_law_1138 (v := (1 : Int32)) (by decide) ?_
    refine xg_iald C V (f := 39) (n := 1) (N := 3) rfl (by decide) (xR_0 (by decide)) (vp_in_iff.mpr ⟨by decide, by decide⟩) dL_law_1139 (v := (nI (1 + (v % 4)))) ((xu_ni (by decide)).trans xu_same) ?_
    refine xg_aload C dL_law_1140 rfl ?_
    refine xg_iconst C dL_law_1142 (v := (2 : Int32)) (by decide) ?_
    refine xg_iald C V (f := 39) (n := 1) (N := 3) rfl (by decide) (xR_0 (by decide)) (vp_in_iff.mpr ⟨by decide, by decide⟩) dL_law_1143 (v := (nI ((1 + (v % 4)) + ((v / 50) % 5)))) xu_same ?_
    refine xg_callSiW C V (as := [.ref (G.2.2 0 0), .int (nI (1 + (v % 4))), .int (nI ((1 + (v % 4)) + ((v / 50) % 5)))]) (r := (0 : Int32)) (fun l => kL_timed l hap (nI (1 + (v % 4))) (nI ((1 + (v % 4)) + ((v / 50) % 5))) (xu (xu S 39 0 (1 : Int32) (nI (1 + (v % 4)))) 39 0 (2 : Int32) (nI ((1 + (v % 4)) + ((v / 50) % 5)))) (hO1 h1) (hO2 h1) (hO3 h1) (hO4 h1)) gL_law_L_timed rfl hdL_timed ⟨by decide, by decide⟩ rfl rfl (Nat.le_of_ble_eq_true rfl) ⟨by show _ ≤ 712973; omega, by show _ ≤ 6962778; omega⟩ dL_law_1144 ?_
    refine xg_if_ne C 1154 dL_law_1147 (by decide) (fun h3 => by exact absurd h3 (by decide)) (fun h3 => ?_)
    refine xg_iconst C dL_law_1150 (v := (1 : Int32)) (by decide) ?_
    refine xg_goto C 1155 dL_law_1151 (by decide) ?_
    refine xg_istore C dL_law_1155 (by decide) (L' := [some (.ref b9), some (.ref (G.2.2 0 0)), some (.ref (G.2.2 34 0)), some (.ref (G.2.2 35 0)), some (.ref (G.2.2 36 0)), some (.ref (G.2.2 37 0)), some (.ref (G.2.2 38 0)), some (.ref (G.2.2 39 0)), some (.int (1 : Int32)), some (.int (nI n)), some (.int y9), some (.int (nI v)), some (.int z9), some (.int (nI kk)), none, none, none]) rfl ?_
    refine xg_goto C 1218 dL_law_1157 (by decide) ?_
    have e : (cS_J v kk S) = (fX3_setTimes (nI (1 + (v % 4))) (nI ((1 + (v % 4)) + ((v / 50) % 5))) (xu (xu S 39 0 (1 : Int32) (nI (1 + (v % 4)))) 39 0 (2 : Int32) (nI ((1 + (v % 4)) + ((v / 50) % 5))))) := by first | (rw [cS_J, if_neg h1]; done) | (rw [cS_J, if_neg h1]; rfl)
    rw [e] at K
    exact xg_wide (xg_le K ⟨rfl, rfl, rfl, rfl, rfl, rfl, rfl, rfl, rfl, rfl, rfl, rfl, rfl, rfl, trivial⟩) (by omega) (by omega)
  · refine xg_bipush C dL_law_1098 (v := (50 : Int32)) (by decide) ?_
    refine xg_goto C 1104 dL_law_1100 (by decide) ?_
    refine xg_iremN C (a := 50) (by omega) (by decide) rfl dL_law_1104 ?_
    refine xg_iaddN C (a := 1) rfl dL_law_1105 ?_
    refine xg_iast C V (f := 39) (n := 1) (N := 3) rfl (by decide) (xR_0 (by decide)) (vp_in_iff.mpr ⟨by decide, by decide⟩) dL_law_1106 ?_
    refine xg_aload C dL_law_1107 rfl ?_
    refine xg_iconst C dL_law_1109 (v := (2 : Int32)) (by decide) ?_
    refine xg_aload C dL_law_1110 rfl ?_
    refine xg_iconst C dL_law_1112 (v := (1 : Int32)) (by decide) ?_
    refine xg_iald C V (f := 39) (n := 1) (N := 3) rfl (by decide) (xR_0 (by decide)) (vp_in_iff.mpr ⟨by decide, by decide⟩) dL_law_1113 (v := (nI (1 + (v % 50)))) xu_same ?_
    refine xg_iload C dL_law_1114 rfl ?_
    refine xg_bipush C dL_law_1116 (v := (50 : Int32)) (by decide) ?_
    refine xg_idivN C (a := 50) (by omega) (by decide) rfl dL_law_1118 ?_
    refine xg_iload C dL_law_1119 rfl ?_
    refine xg_iconst C dL_law_1121 (v := (3 : Int32)) (by decide) ?_
    refine xg_iremN C (a := 3) (by omega) (by decide) rfl dL_law_1122 ?_
    refine xg_if_ne C 1131 dL_law_1123 (by decide) (fun h4 => by contradiction) (fun h4 => ?_)
    refine xg_bipush C dL_law_1126 (v := (51 : Int32)) (by decide) ?_
    refine xg_goto C 1132 dL_law_1128 (by decide) ?_
    refine xg_iremN C (a := 51) (by omega) (by decide) rfl dL_law_1132 ?_
    refine xg_iaddN C rfl dL_law_1133 ?_
    refine xg_iast C V (f := 39) (n := 1) (N := 3) rfl (by decide) (xR_0 (by decide)) (vp_in_iff.mpr ⟨by decide, by decide⟩) dL_law_1134 ?_
    refine xg_aload_n C dL_law_1135 rfl ?_
    refine xg_aload C dL_law_1136 rfl ?_
    refine xg_iconst C dL_law_1138 (v := (1 : Int32)) (by decide) ?_
    refine xg_iald C V (f := 39) (n := 1) (N := 3) rfl (by decide) (xR_0 (by decide)) (vp_in_iff.mpr ⟨by decide, by decide⟩) dL_law_1139 (v := (nI (1 + (v % 50)))) ((xu_ni (by decide)).trans xu_same) ?_
    refine xg_aload C dL_law_1140 rfl ?_
    refine xg_iconst C dL_law_1142 (v := (2 : Int32)) (by decide) ?_
    refine xg_iald C V (f := 39) (n := 1) (N := 3) rfl (by decide) (xR_0 (by decide)) (vp_in_iff.mpr ⟨by decide, by decide⟩) dL_law_1143 (v := (nI ((1 + (v % 50)) + ((v / 50) % 51)))) xu_same ?_
    refine xg_callSiW C V (as := [.ref (G.2.2 0 0), .int (nI (1 + (v % 50))), .int (nI ((1 + (v % 50)) + ((v / 50) % 51)))]) (r := (0 : Int32)) (fun l => kL_timed l hap (nI (1 + (v % 50))) (nI ((1 + (v % 50)) + ((v / 50) % 51))) (xu (xu S 39 0 (1 : Int32) (nI (1 + (v % 50)))) 39 0 (2 : Int32) (nI ((1 + (v % 50)) + ((v / 50) % 51)))) (hO5 h1) (hO6 h1) (hO7 h1) (hO8 h1)) gL_law_L_timed rfl hdL_timed ⟨by decide, by decide⟩ rfl rfl (Nat.le_of_ble_eq_true rfl) ⟨by show _ ≤ 712973; omega, by show _ ≤ 6962778; omega⟩ dL_law_1144 ?_
    refine xg_if_ne C 1154 dL_law_1147 (by decide) (fun h5 => by exact absurd h5 (by decide)) (fun h5 => ?_)
    refine xg_iconst C dL_law_1150 (v := (1 : Int32)) (by decide) ?_
    refine xg_goto C 1155 dL_law_1151 (by decide) ?_
    refine xg_istore C dL_law_1155 (by decide) (L' := [some (.ref b9), some (.ref (G.2.2 0 0)), some (.ref (G.2.2 34 0)), some (.ref (G.2.2 35 0)), some (.ref (G.2.2 36 0)), some (.ref (G.2.2 37 0)), some (.ref (G.2.2 38 0)), some (.ref (G.2.2 39 0)), some (.int (1 : Int32)), some (.int (nI n)), some (.int y9), some (.int (nI v)), some (.int z9), some (.int (nI kk)), none, none, none]) rfl ?_
    refine xg_goto C 1218 dL_law_1157 (by decide) ?_
    have e : (cS_J v kk S) = (fX3_setTimes (nI (1 + (v % 50))) (nI ((1 + (v % 50)) + ((v / 50) % 51))) (xu (xu S 39 0 (1 : Int32) (nI (1 + (v % 50)))) 39 0 (2 : Int32) (nI ((1 + (v % 50)) + ((v / 50) % 51))))) := by first | (rw [cS_J, if_pos h1]; done) | (rw [cS_J, if_pos h1]; rfl)
    rw [e] at K
    exact xg_wide (xg_le K ⟨rfl, rfl, rfl, rfl, rfl, rfl, rfl, rfl, rfl, rfl, rfl, rfl, rfl, rfl, trivial⟩) (by omega) (by omega)
def bL_law_1184 (i : Int32) (x : xS) : xS := (fL_isTicked x).1
set_option maxRecDepth 100000 in
set_option maxHeartbeats 4000000 in
theorem lc_T {F : xF} {G : xG} {Sa : Nat → Nat} {sz : Nat} {S : xS} {k w b9 n v kk : Nat} {y9 z9 : Int32} (C : xC F cL_law 17 RL wsL_law room_1) (V : xV F xYc G) (Ev : xEv F Sa sz) (hsz : ∀ a : Nat, xA xYc G a → sz ≤ a) (hk : k + 1 ≤ 712973 ∧ w + 6 ≤ 6962778) (hv : v < 67108864) (hkk : kk < 8) (J : Nat → xS → Prop) (hJ0 : J 0 S) (hJ1 : ∀ i, i < 15 → ∀ x, J i x → J (i + 1) (fL_isTicked x).1) (hJt : ∀ i, i < 15 → ∀ x, J i x → okT x) (K : ∀ M : Nat, M ≤ 15 → ∀ S' : xS, J M S' → xg F (k + 1) (w + 6) 1218 [some (.ref b9), some (.ref (G.2.2 0 0)), some (.ref (G.2.2 34 0)), some (.ref (G.2.2 35 0)), some (.ref (G.2.2 36 0)), some (.ref (G.2.2 37 0)), some (.ref (G.2.2 38 0)), some (.ref (G.2.2 39 0)), some (.int (1 : Int32)), some (.int (nI n)), some (.int y9), some (.int (nI v)), some (.int z9), some (.int (nI kk)), none, none, none] [] (xP xYc G S')) : xg F k w 1160 [some (.ref b9), some (.ref (G.2.2 0 0)), some (.ref (G.2.2 34 0)), some (.ref (G.2.2 35 0)), some (.ref (G.2.2 36 0)), some (.ref (G.2.2 37 0)), some (.ref (G.2.2 38 0)), some (.ref (G.2.2 39 0)), some (.int (1 : Int32)), some (.int (nI n)), some (.int y9), some (.int (nI v)), some (.int z9), some (.int (nI kk)), none, none, none] [] (xP xYc G S) := by
  have hap : xAp xYc G := V.1
  refine xg_iconst C dL_law_1160 (v := (1 : Int32)) (by decide) ?_
  refine xg_iload C dL_law_1161 rfl ?_
  refine xg_iload C dL_law_1163 rfl ?_
  refine xg_bipush C dL_law_1165 (v := (7 : Int32)) (by decide) ?_
  refine xg_iremN C (a := 7) (by omega) (by decide) rfl dL_law_1167 ?_
  refine xg_if_ne C 1176 dL_law_1168 (by decide) (fun h1 => ?_) (fun h1 => ?_)
  · refine xg_iconst C dL_law_1176 (v := (4 : Int32)) (by decide) ?_
    refine xg_iremN C (a := 4) (by omega) (by decide) rfl dL_law_1177 ?_
    refine xg_iaddN C (a := 1) rfl dL_law_1178 ?_
    refine xg_istore C dL_law_1179 (by decide) (L' := [some (.ref b9), some (.ref (G.2.2 0 0)), some (.ref (G.2.2 34 0)), some (.ref (G.2.2 35 0)), some (.ref (G.2.2 36 0)), some (.ref (G.2.2 37 0)), some (.ref (G.2.2 38 0)), some (.ref (G.2.2 39 0)), some (.int (1 : Int32)), some (.int (nI n)), some (.int y9), some (.int (nI v)), some (.int z9), some (.int (nI kk)), some (.int (nI (1 + (v % 4)))), none, none]) rfl ?_
    refine xg_iconst C dL_law_1181 (v := (0 : Int32)) (by decide) ?_
    refine xg_istore C dL_law_1182 (by decide) (L' := [some (.ref b9), some (.ref (G.2.2 0 0)), some (.ref (G.2.2 34 0)), some (.ref (G.2.2 35 0)), some (.ref (G.2.2 36 0)), some (.ref (G.2.2 37 0)), some (.ref (G.2.2 38 0)), some (.ref (G.2.2 39 0)), some (.int (1 : Int32)), some (.int (nI n)), some (.int y9), some (.int (nI v)), some (.int z9), some (.int (nI kk)), some (.int (nI (1 + (v % 4)))), some (.int (0 : Int32)), none]) rfl ?_
    refine xloopI (fun (ii : Int32) (x : xS) => xg F k w 1184 [some (.ref b9), some (.ref (G.2.2 0 0)), some (.ref (G.2.2 34 0)), some (.ref (G.2.2 35 0)), some (.ref (G.2.2 36 0)), some (.ref (G.2.2 37 0)), some (.ref (G.2.2 38 0)), some (.ref (G.2.2 39 0)), some (.int (1 : Int32)), some (.int (nI n)), some (.int y9), some (.int (nI v)), some (.int z9), some (.int (nI kk)), some (.int (nI (1 + (v % 4)))), some (.int ii), none] [] (xP xYc G x)) bL_law_1184 ((1 + (v % 4))) S J hJ0 (fun i hi x hx => hJ1 i (by omega) x hx) (fun i hi x hJ K => ?_) (fun hJ => ?_)
    · have hi8 := hi
      have hT9 : okT x := hJt i (by omega) x hJ
      show xg F k w 1184 [some (.ref b9), some (.ref (G.2.2 0 0)), some (.ref (G.2.2 34 0)), some (.ref (G.2.2 35 0)), some (.ref (G.2.2 36 0)), some (.ref (G.2.2 37 0)), some (.ref (G.2.2 38 0)), some (.ref (G.2.2 39 0)), some (.int (1 : Int32)), some (.int (nI n)), some (.int y9), some (.int (nI v)), some (.int z9), some (.int (nI kk)), some (.int (nI (1 + (v % 4)))), some (.int (nI i)), none] [] (xP xYc G x)
      refine xg_iload C dL_law_1184 rfl ?_
      refine xg_iload C dL_law_1186 rfl ?_
      refine xg_icmp_ge C 1218 dL_law_1188 (by decide) (fun h2 => absurd h2 (nI_ge hi (by omega))) (fun h2 => ?_)
      refine xg_iload C dL_law_1191 rfl ?_
      refine xg_if_eq C 1218 dL_law_1193 (by decide) (fun h3 => by exact absurd h3 (by decide)) (fun h3 => ?_)
      refine xg_aload_n C dL_law_1196 rfl ?_
      refine xg_aload_n C dL_law_1197 rfl ?_
      refine xg_aload_n C dL_law_1198 rfl ?_
      refine xg_aload C dL_law_1199 rfl ?_
      refine xg_aload C dL_law_1201 rfl ?_
      refine xg_aload C dL_law_1203 rfl ?_
      refine xg_aload C dL_law_1205 rfl ?_
      refine xg_callSi C V (as := [.ref (G.2.2 0 0), .ref (G.2.2 34 0), .ref (G.2.2 35 0), .ref (G.2.2 36 0), .ref (G.2.2 37 0), .ref (G.2.2 38 0), .ref (G.2.2 39 0)]) (r := (1 : Int32)) (fun l => kL_isTicked l hap  x hT9) gL_law_L_isTicked rfl hdL_isTicked ⟨by decide, by decide⟩ rfl rfl (Nat.le_of_ble_eq_true rfl) ⟨by show _ ≤ 712973; omega, by show _ ≤ 6962778; omega⟩ dL_law_1207 ?_
      refine xg_istore C dL_law_1210 (by decide) (L' := [some (.ref b9), some (.ref (G.2.2 0 0)), some (.ref (G.2.2 34 0)), some (.ref (G.2.2 35 0)), some (.ref (G.2.2 36 0)), some (.ref (G.2.2 37 0)), some (.ref (G.2.2 38 0)), some (.ref (G.2.2 39 0)), some (.int (1 : Int32)), some (.int (nI n)), some (.int y9), some (.int (nI v)), some (.int z9), some (.int (nI kk)), some (.int (nI (1 + (v % 4)))), some (.int (nI i)), none]) rfl ?_
      refine xg_iinc C dL_law_1212 rfl (v := (nI (i + 1))) (xinc i) (by decide) (L' := [some (.ref b9), some (.ref (G.2.2 0 0)), some (.ref (G.2.2 34 0)), some (.ref (G.2.2 35 0)), some (.ref (G.2.2 36 0)), some (.ref (G.2.2 37 0)), some (.ref (G.2.2 38 0)), some (.ref (G.2.2 39 0)), some (.int (1 : Int32)), some (.int (nI n)), some (.int y9), some (.int (nI v)), some (.int z9), some (.int (nI kk)), some (.int (nI (1 + (v % 4)))), some (.int (nI (i + 1))), none]) rfl ?_
      refine xg_goto C 1184 dL_law_1215 (by decide) ?_
      have e : bL_law_1184 (nI i) x = (fL_isTicked x).1 := rfl
      rw [e] at K
      exact xg_le K ⟨rfl, rfl, rfl, rfl, rfl, rfl, rfl, rfl, rfl, rfl, rfl, rfl, rfl, rfl, rfl, rfl, trivial⟩
    · show xg F k w 1184 [some (.ref b9), some (.ref (G.2.2 0 0)), some (.ref (G.2.2 34 0)), some (.ref (G.2.2 35 0)), some (.ref (G.2.2 36 0)), some (.ref (G.2.2 37 0)), some (.ref (G.2.2 38 0)), some (.ref (G.2.2 39 0)), some (.int (1 : Int32)), some (.int (nI n)), some (.int y9), some (.int (nI v)), some (.int z9), some (.int (nI kk)), some (.int (nI (1 + (v % 4)))), some (.int (nI ((1 + (v % 4))))), none] [] (xP xYc G (xfold bL_law_1184 ((1 + (v % 4))) S))
      refine xg_iload C dL_law_1184 rfl ?_
      refine xg_iload C dL_law_1186 rfl ?_
      refine xg_icmp_ge C 1218 dL_law_1188 (by decide) (fun h4 => ?_) (fun h4 => absurd (nI_le (Nat.le_refl _) (by omega)) h4)
      exact xg_wide (xg_le (K _ (by omega) _ hJ) ⟨rfl, rfl, rfl, rfl, rfl, rfl, rfl, rfl, rfl, rfl, rfl, rfl, rfl, rfl, trivial⟩) (by omega) (by omega)
  · refine xg_bipush C dL_law_1171 (v := (15 : Int32)) (by decide) ?_
    refine xg_goto C 1177 dL_law_1173 (by decide) ?_
    refine xg_iremN C (a := 15) (by omega) (by decide) rfl dL_law_1177 ?_
    refine xg_iaddN C (a := 1) rfl dL_law_1178 ?_
    refine xg_istore C dL_law_1179 (by decide) (L' := [some (.ref b9), some (.ref (G.2.2 0 0)), some (.ref (G.2.2 34 0)), some (.ref (G.2.2 35 0)), some (.ref (G.2.2 36 0)), some (.ref (G.2.2 37 0)), some (.ref (G.2.2 38 0)), some (.ref (G.2.2 39 0)), some (.int (1 : Int32)), some (.int (nI n)), some (.int y9), some (.int (nI v)), some (.int z9), some (.int (nI kk)), some (.int (nI (1 + (v % 15)))), none, none]) rfl ?_
    refine xg_iconst C dL_law_1181 (v := (0 : Int32)) (by decide) ?_
    refine xg_istore C dL_law_1182 (by decide) (L' := [some (.ref b9), some (.ref (G.2.2 0 0)), some (.ref (G.2.2 34 0)), some (.ref (G.2.2 35 0)), some (.ref (G.2.2 36 0)), some (.ref (G.2.2 37 0)), some (.ref (G.2.2 38 0)), some (.ref (G.2.2 39 0)), some (.int (1 : Int32)), some (.int (nI n)), some (.int y9), some (.int (nI v)), some (.int z9), some (.int (nI kk)), some (.int (nI (1 + (v % 15)))), some (.int (0 : Int32)), none]) rfl ?_
    refine xloopI (fun (ii : Int32) (x : xS) => xg F k w 1184 [some (.ref b9), some (.ref (G.2.2 0 0)), some (.ref (G.2.2 34 0)), some (.ref (G.2.2 35 0)), some (.ref (G.2.2 36 0)), some (.ref (G.2.2 37 0)), some (.ref (G.2.2 38 0)), some (.ref (G.2.2 39 0)), some (.int (1 : Int32)), some (.int (nI n)), some (.int y9), some (.int (nI v)), some (.int z9), some (.int (nI kk)), some (.int (nI (1 + (v % 15)))), some (.int ii), none] [] (xP xYc G x)) bL_law_1184 ((1 + (v % 15))) S J hJ0 (fun i hi x hx => hJ1 i (by omega) x hx) (fun i hi x hJ K => ?_) (fun hJ => ?_)
    · have hi8 := hi
      have hT9 : okT x := hJt i (by omega) x hJ
      show xg F k w 1184 [some (.ref b9), some (.ref (G.2.2 0 0)), some (.ref (G.2.2 34 0)), some (.ref (G.2.2 35 0)), some (.ref (G.2.2 36 0)), some (.ref (G.2.2 37 0)), some (.ref (G.2.2 38 0)), some (.ref (G.2.2 39 0)), some (.int (1 : Int32)), some (.int (nI n)), some (.int y9), some (.int (nI v)), some (.int z9), some (.int (nI kk)), some (.int (nI (1 + (v % 15)))), some (.int (nI i)), none] [] (xP xYc G x)
      refine xg_iload C dL_law_1184 rfl ?_
      refine xg_iload C dL_law_1186 rfl ?_
      refine xg_icmp_ge C 1218 dL_law_1188 (by decide) (fun h5 => absurd h5 (nI_ge hi (by omega))) (fun h5 => ?_)
      refine xg_iload C dL_law_1191 rfl ?_
      refine xg_if_eq C 1218 dL_law_1193 (by decide) (fun h6 => by exact absurd h6 (by decide)) (fun h6 => ?_)
      refine xg_aload_n C dL_law_1196 rfl ?_
      refine xg_aload_n C dL_law_1197 rfl ?_
      refine xg_aload_n C dL_law_1198 rfl ?_
      refine xg_aload C dL_law_1199 rfl ?_
      refine xg_aload C dL_law_1201 rfl ?_
      refine xg_aload C dL_law_1203 rfl ?_
      refine xg_aload C dL_law_1205 rfl ?_
      refine xg_callSi C V (as := [.ref (G.2.2 0 0), .ref (G.2.2 34 0), .ref (G.2.2 35 0), .ref (G.2.2 36 0), .ref (G.2.2 37 0), .ref (G.2.2 38 0), .ref (G.2.2 39 0)]) (r := (1 : Int32)) (fun l => kL_isTicked l hap  x hT9) gL_law_L_isTicked rfl hdL_isTicked ⟨by decide, by decide⟩ rfl rfl (Nat.le_of_ble_eq_true rfl) ⟨by show _ ≤ 712973; omega, by show _ ≤ 6962778; omega⟩ dL_law_1207 ?_
      refine xg_istore C dL_law_1210 (by decide) (L' := [some (.ref b9), some (.ref (G.2.2 0 0)), some (.ref (G.2.2 34 0)), some (.ref (G.2.2 35 0)), some (.ref (G.2.2 36 0)), some (.ref (G.2.2 37 0)), some (.ref (G.2.2 38 0)), some (.ref (G.2.2 39 0)), some (.int (1 : Int32)), some (.int (nI n)), some (.int y9), some (.int (nI v)), some (.int z9), some (.int (nI kk)), some (.int (nI (1 + (v % 15)))), some (.int (nI i)), none]) rfl ?_
      refine xg_iinc C dL_law_1212 rfl (v := (nI (i + 1))) (xinc i) (by decide) (L' := [some (.ref b9), some (.ref (G.2.2 0 0)), some (.ref (G.2.2 34 0)), some (.ref (G.2.2 35 0)), some (.ref (G.2.2 36 0)), some (.ref (G.2.2 37 0)), some (.ref (G.2.2 38 0)), some (.ref (G.2.2 39 0)), some (.int (1 : Int32)), some (.int (nI n)), some (.int y9), some (.int (nI v)), some (.int z9), some (.int (nI kk)), some (.int (nI (1 + (v % 15)))), some (.int (nI (i + 1))), none]) rfl ?_
      refine xg_goto C 1184 dL_law_1215 (by decide) ?_
      have e : bL_law_1184 (nI i) x = (fL_isTicked x).1 := rfl
      rw [e] at K
      exact xg_le K ⟨rfl, rfl, rfl, rfl, rfl, rfl, rfl, rfl, rfl, rfl, rfl, rfl, rfl, rfl, rfl, rfl, trivial⟩
    · show xg F k w 1184 [some (.ref b9), some (.ref (G.2.2 0 0)), some (.ref (G.2.2 34 0)), some (.ref (G.2.2 35 0)), some (.ref (G.2.2 36 0)), some (.ref (G.2.2 37 0)), some (.ref (G.2.2 38 0)), some (.ref (G.2.2 39 0)), some (.int (1 : Int32)), some (.int (nI n)), some (.int y9), some (.int (nI v)), some (.int z9), some (.int (nI kk)), some (.int (nI (1 + (v % 15)))), some (.int (nI ((1 + (v % 15))))), none] [] (xP xYc G (xfold bL_law_1184 ((1 + (v % 15))) S))
      refine xg_iload C dL_law_1184 rfl ?_
      refine xg_iload C dL_law_1186 rfl ?_
      refine xg_icmp_ge C 1218 dL_law_1188 (by decide) (fun h7 => ?_) (fun h7 => absurd (nI_le (Nat.le_refl _) (by omega)) h7)
      exact xg_wide (xg_le (K _ (by omega) _ hJ) ⟨rfl, rfl, rfl, rfl, rfl, rfl, rfl, rfl, rfl, rfl, rfl, rfl, rfl, rfl, trivial⟩) (by omega) (by omega)
