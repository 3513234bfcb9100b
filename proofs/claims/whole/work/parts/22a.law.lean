/-! 22: cases shape, setGauge, setSource, rain, volume, volumeByBalance, level, flowed -/
set_option maxRecDepth 100000 in
set_option maxHeartbeats 4000000 in
theorem law_shape {F : xF} {G Gm : xG} {Sa : Nat → Nat} {sz b N ao k w i c : Nat} {xs : Nat → Int32} {cJ : ClassId} {S M : xS} {o : Int64} {Rel : Nat → xS → xS → Prop} (C : xC F cL_law 7 RL wsL_law room_1) (V : xV F xYc G) (Vm : xV F xYm Gm) (E3 : xE3 F Sa sz b N xs) (L2 : xL2 F cJ ao) (hsz : ∀ a : Nat, xA xYc G a → sz ≤ a) (hao : sz ≤ ao) (hd9 : xAway G Gm ao) (hN : N ≤ 3072) (hi : i + 6 ≤ N) (hc : c < 512) (hR : Rel c S M) (hk : k + 1 ≤ 637548 ∧ w + 6 ≤ 7183461) (hsim : sim_shape Rel) (K : ∀ S' M' o', Rel (c + 1) S' M' → xg F (k + 1) (w + 6) 1871 [some (.ref b), some (.ref (G.2.2 0 0)), some (.ref (Gm.2.2 0 0)), some (.ref ao), some (.int (nI i)), none, none] [] (xPP G Gm cJ ao S' M' o')) : xg F k w 180 [some (.ref b), some (.ref (G.2.2 0 0)), some (.ref (Gm.2.2 0 0)), some (.ref ao), some (.int (nI i)), none, none] [] (xPP G Gm cJ ao S M o) := by
  refine xg_aload_n C dL_law_180 rfl ?_
  refine xg_aload_n C dL_law_181 rfl ?_
  refine xg_iload C dL_law_182 rfl ?_
  refine xg_iconst C dL_law_184 (v := (1 : Int32)) (by decide) ?_
  refine xg_iadd C dL_law_185 ?_
  refine xg_scr C E3 (j := i + 1) hN (by omega) (xia1 i) dL_law_186 ?_
  refine xg_aload_n C dL_law_187 rfl ?_
  refine xg_iload C dL_law_188 rfl ?_
  refine xg_iconst C dL_law_190 (v := (2 : Int32)) (by decide) ?_
  refine xg_iadd C dL_law_191 ?_
  refine xg_scr C E3 (j := i + 2) hN (by omega) (xia2 i) dL_law_192 ?_
  refine xg_aload_n C dL_law_193 rfl ?_
  refine xg_iload C dL_law_194 rfl ?_
  refine xg_iconst C dL_law_196 (v := (3 : Int32)) (by decide) ?_
  refine xg_iadd C dL_law_197 ?_
  refine xg_scr C E3 (j := i + 3) hN (by omega) (xia3 i) dL_law_198 ?_
  obtain ⟨r, S1, o1, M1, v, fr1, lo1, q1, q2, q3, q4, q5, q7⟩ := hsim c S M o (xs (i + 1)) (xs (i + 2)) (xs (i + 3)) hc hR
  have hR1 := q7
  refine xg_callW C V E3 L2 (xstW hd9) (S' := S1) (o' := o1) (r := r) (as := [.ref (G.2.2 0 0), .int (xs (i + 1)), .int (xs (i + 2)), .int (xs (i + 3))]) (n := 4) (fun l hl => kL_shape l hl hsz hao hd9.2.1 V.1 (xs (i + 1)) (xs (i + 2)) (xs (i + 3)) S o r S1 o1 q1) gL_law_L_shape rfl hdL_shape ⟨by decide, by decide⟩ rfl rfl (Nat.le_of_ble_eq_true rfl) hk dL_law_199 ?_
  refine xg_istore C dL_law_202 (by decide) (L' := [some (.ref b), some (.ref (G.2.2 0 0)), some (.ref (Gm.2.2 0 0)), some (.ref ao), some (.int (nI i)), some (.int r), none]) rfl ?_
  refine xg_aload_n C dL_law_204 rfl ?_
  refine xg_aload_n C dL_law_205 rfl ?_
  refine xg_iload C dL_law_206 rfl ?_
  refine xg_iconst C dL_law_208 (v := (1 : Int32)) (by decide) ?_
  refine xg_iadd C dL_law_209 ?_
  refine xg_scr C E3 (j := i + 1) hN (by omega) (xia1 i) dL_law_210 ?_
  refine xg_aload_n C dL_law_211 rfl ?_
  refine xg_iload C dL_law_212 rfl ?_
  refine xg_iconst C dL_law_214 (v := (2 : Int32)) (by decide) ?_
  refine xg_iadd C dL_law_215 ?_
  refine xg_scr C E3 (j := i + 2) hN (by omega) (xia2 i) dL_law_216 ?_
  refine xg_aload_n C dL_law_217 rfl ?_
  refine xg_iload C dL_law_218 rfl ?_
  refine xg_iconst C dL_law_220 (v := (3 : Int32)) (by decide) ?_
  refine xg_iadd C dL_law_221 ?_
  refine xg_scr C E3 (j := i + 3) hN (by omega) (xia3 i) dL_law_222 ?_
  refine xg_I (I' := (fun H => xP xYm Gm M H ∧ xPo G cJ ao S1 o1 H)) ?_ (fun H h => ⟨h.2, h.1⟩)
  refine xg_callVvJ C Vm (xstM hd9) (f := 0) (S' := M1) (As := [.int (xs (i + 1)), .int (xs (i + 2)), .int (xs (i + 3))]) (fun l => q4 l Gm Vm.1) gL_law_X4_shape rfl hdX4_shape ⟨by show _ ≤ 12; omega, by show _ ≤ 436; have e9 : (4 : Nat) = 4 := rfl; omega⟩ rfl rfl rfl rfl rfl (Nat.le_of_ble_eq_true rfl) ⟨by show _ ≤ 637548; omega, by show _ ≤ 7183461; omega⟩ dL_law_223 ?_
  refine xg_aload_n C dL_law_226 rfl ?_
  refine xg_callViJ C Vm (xstM hd9) (f := 0) (As := []) (r := fX4_thrown M1) (fun l => kX4_thrown l Vm.1 M1) gL_law_X4_thrown rfl hdX4_thrown ⟨by decide, by decide⟩ rfl rfl rfl rfl rfl (Nat.le_of_ble_eq_true rfl) ⟨by show _ ≤ 637548; omega, by show _ ≤ 7183461; omega⟩ dL_law_227 ?_
  refine xg_iload C dL_law_230 rfl ?_
  refine xg_icmp_eq C 237 dL_law_232 (by decide) (fun h9 => ?_) (fun h9 => absurd (q5) h9)
  refine xg_goto C 1871 dL_law_237 (by decide) ?_
  refine xg_I (I' := xPP G Gm cJ ao S1 M1 o1) ?_ (fun H h => ⟨h.2, h.1⟩)
  refine xg_le2 (L' := [some (.ref b), some (.ref (G.2.2 0 0)), some (.ref (Gm.2.2 0 0)), some (.ref ao), some (.int (nI i)), none, none]) ⟨rfl, rfl, rfl, rfl, rfl, trivial⟩ ?_
  exact K S1 M1 o1 hR1
set_option maxRecDepth 100000 in
set_option maxHeartbeats 4000000 in
theorem law_setGauge {F : xF} {G Gm : xG} {Sa : Nat → Nat} {sz b N ao k w i c : Nat} {xs : Nat → Int32} {cJ : ClassId} {S M : xS} {o : Int64} {Rel : Nat → xS → xS → Prop} (C : xC F cL_law 7 RL wsL_law room_1) (V : xV F xYc G) (Vm : xV F xYm Gm) (E3 : xE3 F Sa sz b N xs) (L2 : xL2 F cJ ao) (hsz : ∀ a : Nat, xA xYc G a → sz ≤ a) (hao : sz ≤ ao) (hd9 : xAway G Gm ao) (hN : N ≤ 3072) (hi : i + 6 ≤ N) (hc : c < 512) (hR : Rel c S M) (hk : k + 1 ≤ 637548 ∧ w + 6 ≤ 7183461) (hsim : sim_setGauge Rel) (K : ∀ S' M' o', Rel (c + 1) S' M' → xg F (k + 1) (w + 6) 1871 [some (.ref b), some (.ref (G.2.2 0 0)), some (.ref (Gm.2.2 0 0)), some (.ref ao), some (.int (nI i)), none, none] [] (xPP G Gm cJ ao S' M' o')) : xg F k w 240 [some (.ref b), some (.ref (G.2.2 0 0)), some (.ref (Gm.2.2 0 0)), some (.ref ao), some (.int (nI i)), none, none] [] (xPP G Gm cJ ao S M o) := by
  refine xg_aload_n C dL_law_240 rfl ?_
  refine xg_aload_n C dL_law_241 rfl ?_
  refine xg_iload C dL_law_242 rfl ?_
  refine xg_iconst C dL_law_244 (v := (1 : Int32)) (by decide) ?_
  refine xg_iadd C dL_law_245 ?_
  refine xg_scr C E3 (j := i + 1) hN (by omega) (xia1 i) dL_law_246 ?_
  refine xg_aload_n C dL_law_247 rfl ?_
  refine xg_iload C dL_law_248 rfl ?_
  refine xg_iconst C dL_law_250 (v := (2 : Int32)) (by decide) ?_
  refine xg_iadd C dL_law_251 ?_
  refine xg_scr C E3 (j := i + 2) hN (by omega) (xia2 i) dL_law_252 ?_
  refine xg_aload_n C dL_law_253 rfl ?_
  obtain ⟨r, S1, o1, M1, v, fr1, lo1, q1, q2, q3, q4, q5, q6, q7⟩ := hsim c S M o (xs (i + 1)) (xs (i + 2)) hc hR
  have hR1 := q7
  refine xg_callW C V E3 L2 (xstW hd9) (S' := S1) (o' := o1) (r := r) (as := [.ref (G.2.2 0 0), .int (xs (i + 1)), .int (xs (i + 2)), .ref ao]) (n := 4) (fun l hl => kL_setGauge l hl hsz hao hd9.2.1 V.1 (xs (i + 1)) (xs (i + 2)) S o r S1 o1 q1) gL_law_L_setGauge rfl hdL_setGauge ⟨by decide, by decide⟩ rfl rfl (Nat.le_of_ble_eq_true rfl) hk dL_law_254 ?_
  refine xg_istore C dL_law_257 (by decide) (L' := [some (.ref b), some (.ref (G.2.2 0 0)), some (.ref (Gm.2.2 0 0)), some (.ref ao), some (.int (nI i)), some (.int r), none]) rfl ?_
  refine xg_aload_n C dL_law_259 rfl ?_
  refine xg_aload_n C dL_law_260 rfl ?_
  refine xg_iload C dL_law_261 rfl ?_
  refine xg_iconst C dL_law_263 (v := (1 : Int32)) (by decide) ?_
  refine xg_iadd C dL_law_264 ?_
  refine xg_scr C E3 (j := i + 1) hN (by omega) (xia1 i) dL_law_265 ?_
  refine xg_aload_n C dL_law_266 rfl ?_
  refine xg_iload C dL_law_267 rfl ?_
  refine xg_iconst C dL_law_269 (v := (2 : Int32)) (by decide) ?_
  refine xg_iadd C dL_law_270 ?_
  refine xg_scr C E3 (j := i + 2) hN (by omega) (xia2 i) dL_law_271 ?_
  refine xg_I (I' := (fun H => xP xYm Gm M H ∧ xPo G cJ ao S1 o1 H)) ?_ (fun H h => ⟨h.2, h.1⟩)
  refine xg_callViJ C Vm (xstM hd9) (f := 0) (S' := M1) (As := [.int (xs (i + 1)), .int (xs (i + 2))]) (r := v) (fun l => q4 l Gm Vm.1) gL_law_X4_setGauge rfl hdX4_setGauge ⟨by show _ ≤ 12; omega, by show _ ≤ 436; have e9 : (4 : Nat) = 4 := rfl; omega⟩ rfl rfl rfl rfl rfl (Nat.le_of_ble_eq_true rfl) ⟨by show _ ≤ 637548; omega, by show _ ≤ 7183461; omega⟩ dL_law_272 ?_
  refine xg_istore C dL_law_275 (by decide) (L' := [some (.ref b), some (.ref (G.2.2 0 0)), some (.ref (Gm.2.2 0 0)), some (.ref ao), some (.int (nI i)), some (.int r), some (.int v)]) rfl ?_
  refine xg_aload_n C dL_law_277 rfl ?_
  refine xg_callViJ C Vm (xstM hd9) (f := 0) (As := []) (r := fX4_thrown M1) (fun l => kX4_thrown l Vm.1 M1) gL_law_X4_thrown rfl hdX4_thrown ⟨by decide, by decide⟩ rfl rfl rfl rfl rfl (Nat.le_of_ble_eq_true rfl) ⟨by show _ ≤ 637548; omega, by show _ ≤ 7183461; omega⟩ dL_law_278 ?_
  refine xg_iload C dL_law_281 rfl ?_
  refine xg_icmp_eq C 288 dL_law_283 (by decide) (fun h9 => ?_) (fun h9 => absurd (q5) h9)
  refine xg_iload C dL_law_288 rfl ?_
  refine xg_if_ne C 305 dL_law_290 (by decide) (fun h8 => ?_) (fun h8 => ?_)
  · refine xg_goto C 1871 dL_law_305 (by decide) ?_
    refine xg_I (I' := xPP G Gm cJ ao S1 M1 o1) ?_ (fun H h => ⟨h.2, h.1⟩)
    refine xg_le2 (L' := [some (.ref b), some (.ref (G.2.2 0 0)), some (.ref (Gm.2.2 0 0)), some (.ref ao), some (.int (nI i)), none, none]) ⟨rfl, rfl, rfl, rfl, rfl, trivial⟩ ?_
    exact K S1 M1 o1 hR1
  · refine xg_aload_n C dL_law_293 rfl ?_
    refine xg_iconst C dL_law_294 (v := (0 : Int32)) (by decide) ?_
    refine xg_lald C L2 (fun H h => h.2.2) dL_law_295 ?_
    refine xg_iload C dL_law_296 rfl ?_
    refine xg_i2l C dL_law_298 ?_
    refine xg_lcmp C dL_law_299 ?_
    refine xg_if_eq C 305 dL_law_300 (by decide) (fun _ => ?_) (fun h7 => absurd (by rw [q6 h8]; exact lg_cmp_self _) h7)
    refine xg_goto C 1871 dL_law_305 (by decide) ?_
    refine xg_I (I' := xPP G Gm cJ ao S1 M1 o1) ?_ (fun H h => ⟨h.2, h.1⟩)
    refine xg_le2 (L' := [some (.ref b), some (.ref (G.2.2 0 0)), some (.ref (Gm.2.2 0 0)), some (.ref ao), some (.int (nI i)), none, none]) ⟨rfl, rfl, rfl, rfl, rfl, trivial⟩ ?_
    exact K S1 M1 o1 hR1
set_option maxRecDepth 100000 in
set_option maxHeartbeats 4000000 in
theorem law_setSource {F : xF} {G Gm : xG} {Sa : Nat → Nat} {sz b N ao k w i c : Nat} {xs : Nat → Int32} {cJ : ClassId} {S M : xS} {o : Int64} {Rel : Nat → xS → xS → Prop} (C : xC F cL_law 7 RL wsL_law room_1) (V : xV F xYc G) (Vm : xV F xYm Gm) (E3 : xE3 F Sa sz b N xs) (L2 : xL2 F cJ ao) (hsz : ∀ a : Nat, xA xYc G a → sz ≤ a) (hao : sz ≤ ao) (hd9 : xAway G Gm ao) (hN : N ≤ 3072) (hi : i + 6 ≤ N) (hc : c < 512) (hR : Rel c S M) (hk : k + 1 ≤ 637548 ∧ w + 6 ≤ 7183461) (hsim : sim_setSource Rel) (K : ∀ S' M' o', Rel (c + 1) S' M' → xg F (k + 1) (w + 6) 1871 [some (.ref b), some (.ref (G.2.2 0 0)), some (.ref (Gm.2.2 0 0)), some (.ref ao), some (.int (nI i)), none, none] [] (xPP G Gm cJ ao S' M' o')) : xg F k w 308 [some (.ref b), some (.ref (G.2.2 0 0)), some (.ref (Gm.2.2 0 0)), some (.ref ao), some (.int (nI i)), none, none] [] (xPP G Gm cJ ao S M o) := by
  refine xg_aload_n C dL_law_308 rfl ?_
  refine xg_aload_n C dL_law_309 rfl ?_
  refine xg_iload C dL_law_310 rfl ?_
  refine xg_iconst C dL_law_312 (v := (1 : Int32)) (by decide) ?_
  refine xg_iadd C dL_law_313 ?_
  refine xg_scr C E3 (j := i + 1) hN (by omega) (xia1 i) dL_law_314 ?_
  refine xg_aload_n C dL_law_315 rfl ?_
  obtain ⟨r, S1, o1, M1, v, fr1, lo1, q1, q2, q3, q4, q5, q6, q7⟩ := hsim c S M o (xs (i + 1)) hc hR
  have hR1 := q7
  refine xg_callW C V E3 L2 (xstW hd9) (S' := S1) (o' := o1) (r := r) (as := [.ref (G.2.2 0 0), .int (xs (i + 1)), .ref ao]) (n := 3) (fun l hl => kL_setSource l hl hsz hao hd9.2.1 V.1 (xs (i + 1)) S o r S1 o1 q1) gL_law_L_setSource rfl hdL_setSource ⟨by decide, by decide⟩ rfl rfl (Nat.le_of_ble_eq_true rfl) hk dL_law_316 ?_
  refine xg_istore C dL_law_319 (by decide) (L' := [some (.ref b), some (.ref (G.2.2 0 0)), some (.ref (Gm.2.2 0 0)), some (.ref ao), some (.int (nI i)), some (.int r), none]) rfl ?_
  refine xg_aload_n C dL_law_321 rfl ?_
  refine xg_aload_n C dL_law_322 rfl ?_
  refine xg_iload C dL_law_323 rfl ?_
  refine xg_iconst C dL_law_325 (v := (1 : Int32)) (by decide) ?_
  refine xg_iadd C dL_law_326 ?_
  refine xg_scr C E3 (j := i + 1) hN (by omega) (xia1 i) dL_law_327 ?_
  refine xg_I (I' := (fun H => xP xYm Gm M H ∧ xPo G cJ ao S1 o1 H)) ?_ (fun H h => ⟨h.2, h.1⟩)
  refine xg_callViJ C Vm (xstM hd9) (f := 0) (S' := M1) (As := [.int (xs (i + 1))]) (r := v) (fun l => q4 l Gm Vm.1) gL_law_X4_setSource rfl hdX4_setSource ⟨by show _ ≤ 12; omega, by show _ ≤ 436; have e9 : (3 : Nat) = 3 := rfl; omega⟩ rfl rfl rfl rfl rfl (Nat.le_of_ble_eq_true rfl) ⟨by show _ ≤ 637548; omega, by show _ ≤ 7183461; omega⟩ dL_law_328 ?_
  refine xg_istore C dL_law_331 (by decide) (L' := [some (.ref b), some (.ref (G.2.2 0 0)), some (.ref (Gm.2.2 0 0)), some (.ref ao), some (.int (nI i)), some (.int r), some (.int v)]) rfl ?_
  refine xg_aload_n C dL_law_333 rfl ?_
  refine xg_callViJ C Vm (xstM hd9) (f := 0) (As := []) (r := fX4_thrown M1) (fun l => kX4_thrown l Vm.1 M1) gL_law_X4_thrown rfl hdX4_thrown ⟨by decide, by decide⟩ rfl rfl rfl rfl rfl (Nat.le_of_ble_eq_true rfl) ⟨by show _ ≤ 637548; omega, by show _ ≤ 7183461; omega⟩ dL_law_334 ?_
  refine xg_iload C dL_law_337 rfl ?_
  refine xg_icmp_eq C 344 dL_law_339 (by decide) (fun h9 => ?_) (fun h9 => absurd (q5) h9)
  refine xg_iload C dL_law_344 rfl ?_
  refine xg_if_ne C 361 dL_law_346 (by decide) (fun h8 => ?_) (fun h8 => ?_)
  · refine xg_goto C 1871 dL_law_361 (by decide) ?_
    refine xg_I (I' := xPP G Gm cJ ao S1 M1 o1) ?_ (fun H h => ⟨h.2, h.1⟩)
    refine xg_le2 (L' := [some (.ref b), some (.ref (G.2.2 0 0)), some (.ref (Gm.2.2 0 0)), some (.ref ao), some (.int (nI i)), none, none]) ⟨rfl, rfl, rfl, rfl, rfl, trivial⟩ ?_
    exact K S1 M1 o1 hR1
  · refine xg_aload_n C dL_law_349 rfl ?_
    refine xg_iconst C dL_law_350 (v := (0 : Int32)) (by decide) ?_
    refine xg_lald C L2 (fun H h => h.2.2) dL_law_351 ?_
    refine xg_iload C dL_law_352 rfl ?_
    refine xg_i2l C dL_law_354 ?_
    refine xg_lcmp C dL_law_355 ?_
    refine xg_if_eq C 361 dL_law_356 (by decide) (fun _ => ?_) (fun h7 => absurd (by rw [q6 h8]; exact lg_cmp_self _) h7)
    refine xg_goto C 1871 dL_law_361 (by decide) ?_
    refine xg_I (I' := xPP G Gm cJ ao S1 M1 o1) ?_ (fun H h => ⟨h.2, h.1⟩)
    refine xg_le2 (L' := [some (.ref b), some (.ref (G.2.2 0 0)), some (.ref (Gm.2.2 0 0)), some (.ref ao), some (.int (nI i)), none, none]) ⟨rfl, rfl, rfl, rfl, rfl, trivial⟩ ?_
    exact K S1 M1 o1 hR1
set_option maxRecDepth 100000 in
set_option maxHeartbeats 4000000 in
theorem law_rain {F : xF} {G Gm : xG} {Sa : Nat → Nat} {sz b N ao k w i c : Nat} {xs : Nat → Int32} {cJ : ClassId} {S M : xS} {o : Int64} {Rel : Nat → xS → xS → Prop} (C : xC F cL_law 7 RL wsL_law room_1) (V : xV F xYc G) (Vm : xV F xYm Gm) (E3 : xE3 F Sa sz b N xs) (L2 : xL2 F cJ ao) (hsz : ∀ a : Nat, xA xYc G a → sz ≤ a) (hao : sz ≤ ao) (hd9 : xAway G Gm ao) (hN : N ≤ 3072) (hi : i + 6 ≤ N) (hc : c < 512) (hR : Rel c S M) (hk : k + 1 ≤ 637548 ∧ w + 6 ≤ 7183461) (hsim : sim_rain Rel) (K : ∀ S' M' o', Rel (c + 1) S' M' → xg F (k + 1) (w + 6) 1871 [some (.ref b), some (.ref (G.2.2 0 0)), some (.ref (Gm.2.2 0 0)), some (.ref ao), some (.int (nI i)), none, none] [] (xPP G Gm cJ ao S' M' o')) : xg F k w 364 [some (.ref b), some (.ref (G.2.2 0 0)), some (.ref (Gm.2.2 0 0)), some (.ref ao), some (.int (nI i)), none, none] [] (xPP G Gm cJ ao S M o) := by
  refine xg_aload_n C dL_law_364 rfl ?_
  refine xg_aload_n C dL_law_365 rfl ?_
  refine xg_iload C dL_law_366 rfl ?_
  refine xg_iconst C dL_law_368 (v := (1 : Int32)) (by decide) ?_
  refine xg_iadd C dL_law_369 ?_
  refine xg_scr C E3 (j := i + 1) hN (by omega) (xia1 i) dL_law_370 ?_
  refine xg_aload_n C dL_law_371 rfl ?_
  refine xg_iload C dL_law_372 rfl ?_
  refine xg_iconst C dL_law_374 (v := (2 : Int32)) (by decide) ?_
  refine xg_iadd C dL_law_375 ?_
  refine xg_scr C E3 (j := i + 2) hN (by omega) (xia2 i) dL_law_376 ?_
  refine xg_aload_n C dL_law_377 rfl ?_
  obtain ⟨r, S1, o1, M1, v, fr1, lo1, q1, q2, q3, q4, q5, q6, q7⟩ := hsim c S M o (xs (i + 1)) (xs (i + 2)) hc hR
  have hR1 := q7
  refine xg_callW C V E3 L2 (xstW hd9) (S' := S1) (o' := o1) (r := r) (as := [.ref (G.2.2 0 0), .int (xs (i + 1)), .int (xs (i + 2)), .ref ao]) (n := 4) (fun l hl => kL_rain l hl hsz hao hd9.2.1 V.1 (xs (i + 1)) (xs (i + 2)) S o r S1 o1 q1) gL_law_L_rain rfl hdL_rain ⟨by decide, by decide⟩ rfl rfl (Nat.le_of_ble_eq_true rfl) hk dL_law_378 ?_
  refine xg_istore C dL_law_381 (by decide) (L' := [some (.ref b), some (.ref (G.2.2 0 0)), some (.ref (Gm.2.2 0 0)), some (.ref ao), some (.int (nI i)), some (.int r), none]) rfl ?_
  refine xg_aload_n C dL_law_383 rfl ?_
  refine xg_aload_n C dL_law_384 rfl ?_
  refine xg_iload C dL_law_385 rfl ?_
  refine xg_iconst C dL_law_387 (v := (1 : Int32)) (by decide) ?_
  refine xg_iadd C dL_law_388 ?_
  refine xg_scr C E3 (j := i + 1) hN (by omega) (xia1 i) dL_law_389 ?_
  refine xg_aload_n C dL_law_390 rfl ?_
  refine xg_iload C dL_law_391 rfl ?_
  refine xg_iconst C dL_law_393 (v := (2 : Int32)) (by decide) ?_
  refine xg_iadd C dL_law_394 ?_
  refine xg_scr C E3 (j := i + 2) hN (by omega) (xia2 i) dL_law_395 ?_
  refine xg_I (I' := (fun H => xP xYm Gm M H ∧ xPo G cJ ao S1 o1 H)) ?_ (fun H h => ⟨h.2, h.1⟩)
  refine xg_callViJ C Vm (xstM hd9) (f := 0) (S' := M1) (As := [.int (xs (i + 1)), .int (xs (i + 2))]) (r := v) (fun l => q4 l Gm Vm.1) gL_law_X4_rain rfl hdX4_rain ⟨by show _ ≤ 12; omega, by show _ ≤ 436; have e9 : (3 : Nat) = 3 := rfl; omega⟩ rfl rfl rfl rfl rfl (Nat.le_of_ble_eq_true rfl) ⟨by show _ ≤ 637548; omega, by show _ ≤ 7183461; omega⟩ dL_law_396 ?_
  refine xg_istore C dL_law_399 (by decide) (L' := [some (.ref b), some (.ref (G.2.2 0 0)), some (.ref (Gm.2.2 0 0)), some (.ref ao), some (.int (nI i)), some (.int r), some (.int v)]) rfl ?_
  refine xg_aload_n C dL_law_401 rfl ?_
  refine xg_callViJ C Vm (xstM hd9) (f := 0) (As := []) (r := fX4_thrown M1) (fun l => kX4_thrown l Vm.1 M1) gL_law_X4_thrown rfl hdX4_thrown ⟨by decide, by decide⟩ rfl rfl rfl rfl rfl (Nat.le_of_ble_eq_true rfl) ⟨by show _ ≤ 637548; omega, by show _ ≤ 7183461; omega⟩ dL_law_402 ?_
  refine xg_iload C dL_law_405 rfl ?_
  refine xg_icmp_eq C 412 dL_law_407 (by decide) (fun h9 => ?_) (fun h9 => absurd (q5) h9)
  refine xg_iload C dL_law_412 rfl ?_
  refine xg_if_ne C 429 dL_law_414 (by decide) (fun h8 => ?_) (fun h8 => ?_)
  · refine xg_goto C 1871 dL_law_429 (by decide) ?_
    refine xg_I (I' := xPP G Gm cJ ao S1 M1 o1) ?_ (fun H h => ⟨h.2, h.1⟩)
    refine xg_le2 (L' := [some (.ref b), some (.ref (G.2.2 0 0)), some (.ref (Gm.2.2 0 0)), some (.ref ao), some (.int (nI i)), none, none]) ⟨rfl, rfl, rfl, rfl, rfl, trivial⟩ ?_
    exact K S1 M1 o1 hR1
  · refine xg_aload_n C dL_law_417 rfl ?_
    refine xg_iconst C dL_law_418 (v := (0 : Int32)) (by decide) ?_
    refine xg_lald C L2 (fun H h => h.2.2) dL_law_419 ?_
    refine xg_iload C dL_law_420 rfl ?_
    refine xg_i2l C dL_law_422 ?_
    refine xg_lcmp C dL_law_423 ?_
    refine xg_if_eq C 429 dL_law_424 (by decide) (fun _ => ?_) (fun h7 => absurd (by rw [q6 h8]; exact lg_cmp_self _) h7)
    refine xg_goto C 1871 dL_law_429 (by decide) ?_
    refine xg_I (I' := xPP G Gm cJ ao S1 M1 o1) ?_ (fun H h => ⟨h.2, h.1⟩)
    refine xg_le2 (L' := [some (.ref b), some (.ref (G.2.2 0 0)), some (.ref (Gm.2.2 0 0)), some (.ref ao), some (.int (nI i)), none, none]) ⟨rfl, rfl, rfl, rfl, rfl, trivial⟩ ?_
    exact K S1 M1 o1 hR1
set_option maxRecDepth 100000 in
set_option maxHeartbeats 4000000 in
theorem law_volume {F : xF} {G Gm : xG} {Sa : Nat → Nat} {sz b N ao k w i c : Nat} {xs : Nat → Int32} {cJ : ClassId} {S M : xS} {o : Int64} {Rel : Nat → xS → xS → Prop} (C : xC F cL_law 7 RL wsL_law room_1) (V : xV F xYc G) (Vm : xV F xYm Gm) (E3 : xE3 F Sa sz b N xs) (L2 : xL2 F cJ ao) (hsz : ∀ a : Nat, xA xYc G a → sz ≤ a) (hao : sz ≤ ao) (hd9 : xAway G Gm ao) (hN : N ≤ 3072) (hi : i + 6 ≤ N) (hc : c < 512) (hR : Rel c S M) (hk : k + 1 ≤ 637548 ∧ w + 6 ≤ 7183461) (hsim : sim_volume Rel) (K : ∀ S' M' o', Rel (c + 1) S' M' → xg F (k + 1) (w + 6) 1871 [some (.ref b), some (.ref (G.2.2 0 0)), some (.ref (Gm.2.2 0 0)), some (.ref ao), some (.int (nI i)), none, none] [] (xPP G Gm cJ ao S' M' o')) : xg F k w 432 [some (.ref b), some (.ref (G.2.2 0 0)), some (.ref (Gm.2.2 0 0)), some (.ref ao), some (.int (nI i)), none, none] [] (xPP G Gm cJ ao S M o) := by
  refine xg_aload_n C dL_law_432 rfl ?_
  refine xg_aload_n C dL_law_433 rfl ?_
  refine xg_iload C dL_law_434 rfl ?_
  refine xg_iconst C dL_law_436 (v := (1 : Int32)) (by decide) ?_
  refine xg_iadd C dL_law_437 ?_
  refine xg_scr C E3 (j := i + 1) hN (by omega) (xia1 i) dL_law_438 ?_
  refine xg_aload_n C dL_law_439 rfl ?_
  obtain ⟨r, S1, o1, M1, v, fr1, lo1, q1, q2, q3, q4, q5, q6, q7⟩ := hsim c S M o (xs (i + 1)) hc hR
  have hR1 := q7
  refine xg_callW C V E3 L2 (xstW hd9) (S' := S1) (o' := o1) (r := r) (as := [.ref (G.2.2 0 0), .int (xs (i + 1)), .ref ao]) (n := 3) (fun l hl => kL_volume l hl hsz hao hd9.2.1 V.1 (xs (i + 1)) S o r S1 o1 q1) gL_law_L_volume rfl hdL_volume ⟨by decide, by decide⟩ rfl rfl (Nat.le_of_ble_eq_true rfl) hk dL_law_440 ?_
  refine xg_istore C dL_law_443 (by decide) (L' := [some (.ref b), some (.ref (G.2.2 0 0)), some (.ref (Gm.2.2 0 0)), some (.ref ao), some (.int (nI i)), some (.int r), none]) rfl ?_
  refine xg_aload_n C dL_law_445 rfl ?_
  refine xg_aload_n C dL_law_446 rfl ?_
  refine xg_iload C dL_law_447 rfl ?_
  refine xg_iconst C dL_law_449 (v := (1 : Int32)) (by decide) ?_
  refine xg_iadd C dL_law_450 ?_
  refine xg_scr C E3 (j := i + 1) hN (by omega) (xia1 i) dL_law_451 ?_
  refine xg_I (I' := (fun H => xP xYm Gm M H ∧ xPo G cJ ao S1 o1 H)) ?_ (fun H h => ⟨h.2, h.1⟩)
  refine xg_callViJ C Vm (xstM hd9) (f := 0) (S' := M1) (As := [.int (xs (i + 1))]) (r := v) (fun l => q4 l Gm Vm.1) gL_law_X4_volume rfl hdX4_volume ⟨by show _ ≤ 12; omega, by show _ ≤ 436; have e9 : (2 : Nat) = 2 := rfl; omega⟩ rfl rfl rfl rfl rfl (Nat.le_of_ble_eq_true rfl) ⟨by show _ ≤ 637548; omega, by show _ ≤ 7183461; omega⟩ dL_law_452 ?_
  refine xg_istore C dL_law_455 (by decide) (L' := [some (.ref b), some (.ref (G.2.2 0 0)), some (.ref (Gm.2.2 0 0)), some (.ref ao), some (.int (nI i)), some (.int r), some (.int v)]) rfl ?_
  refine xg_aload_n C dL_law_457 rfl ?_
  refine xg_callViJ C Vm (xstM hd9) (f := 0) (As := []) (r := fX4_thrown M1) (fun l => kX4_thrown l Vm.1 M1) gL_law_X4_thrown rfl hdX4_thrown ⟨by decide, by decide⟩ rfl rfl rfl rfl rfl (Nat.le_of_ble_eq_true rfl) ⟨by show _ ≤ 637548; omega, by show _ ≤ 7183461; omega⟩ dL_law_458 ?_
  refine xg_iload C dL_law_461 rfl ?_
  refine xg_icmp_eq C 468 dL_law_463 (by decide) (fun h9 => ?_) (fun h9 => absurd (q5) h9)
  refine xg_iload C dL_law_468 rfl ?_
  refine xg_if_ne C 485 dL_law_470 (by decide) (fun h8 => ?_) (fun h8 => ?_)
  · refine xg_goto C 1871 dL_law_485 (by decide) ?_
    refine xg_I (I' := xPP G Gm cJ ao S1 M1 o1) ?_ (fun H h => ⟨h.2, h.1⟩)
    refine xg_le2 (L' := [some (.ref b), some (.ref (G.2.2 0 0)), some (.ref (Gm.2.2 0 0)), some (.ref ao), some (.int (nI i)), none, none]) ⟨rfl, rfl, rfl, rfl, rfl, trivial⟩ ?_
    exact K S1 M1 o1 hR1
  · refine xg_aload_n C dL_law_473 rfl ?_
    refine xg_iconst C dL_law_474 (v := (0 : Int32)) (by decide) ?_
    refine xg_lald C L2 (fun H h => h.2.2) dL_law_475 ?_
    refine xg_iload C dL_law_476 rfl ?_
    refine xg_i2l C dL_law_478 ?_
    refine xg_lcmp C dL_law_479 ?_
    refine xg_if_eq C 485 dL_law_480 (by decide) (fun _ => ?_) (fun h7 => absurd (by rw [q6 h8]; exact lg_cmp_self _) h7)
    refine xg_goto C 1871 dL_law_485 (by decide) ?_
    refine xg_I (I' := xPP G Gm cJ ao S1 M1 o1) ?_ (fun H h => ⟨h.2, h.1⟩)
    refine xg_le2 (L' := [some (.ref b), some (.ref (G.2.2 0 0)), some (.ref (Gm.2.2 0 0)), some (.ref ao), some (.int (nI i)), none, none]) ⟨rfl, rfl, rfl, rfl, rfl, trivial⟩ ?_
    exact K S1 M1 o1 hR1
set_option maxRecDepth 100000 in
set_option maxHeartbeats 4000000 in
theorem law_volumeByBalance {F : xF} {G Gm : xG} {Sa : Nat → Nat} {sz b N ao k w i c : Nat} {xs : Nat → Int32} {cJ : ClassId} {S M : xS} {o : Int64} {Rel : Nat → xS → xS → Prop} (C : xC F cL_law 7 RL wsL_law room_1) (V : xV F xYc G) (Vm : xV F xYm Gm) (E3 : xE3 F Sa sz b N xs) (L2 : xL2 F cJ ao) (hsz : ∀ a : Nat, xA xYc G a → sz ≤ a) (hao : sz ≤ ao) (hd9 : xAway G Gm ao) (hN : N ≤ 3072) (hi : i + 6 ≤ N) (hc : c < 512) (hR : Rel c S M) (hk : k + 1 ≤ 637548 ∧ w + 6 ≤ 7183461) (hsim : sim_volumeByBalance Rel) (K : ∀ S' M' o', Rel (c + 1) S' M' → xg F (k + 1) (w + 6) 1871 [some (.ref b), some (.ref (G.2.2 0 0)), some (.ref (Gm.2.2 0 0)), some (.ref ao), some (.int (nI i)), none, none] [] (xPP G Gm cJ ao S' M' o')) : xg F k w 488 [some (.ref b), some (.ref (G.2.2 0 0)), some (.ref (Gm.2.2 0 0)), some (.ref ao), some (.int (nI i)), none, none] [] (xPP G Gm cJ ao S M o) := by
  refine xg_aload_n C dL_law_488 rfl ?_
  refine xg_aload_n C dL_law_489 rfl ?_
  refine xg_iload C dL_law_490 rfl ?_
  refine xg_iconst C dL_law_492 (v := (1 : Int32)) (by decide) ?_
  refine xg_iadd C dL_law_493 ?_
  refine xg_scr C E3 (j := i + 1) hN (by omega) (xia1 i) dL_law_494 ?_
  refine xg_aload_n C dL_law_495 rfl ?_
  obtain ⟨r, S1, o1, M1, v, fr1, lo1, q1, q2, q3, q4, q5, q6, q7⟩ := hsim c S M o (xs (i + 1)) hc hR
  have hR1 := q7
  refine xg_callW C V E3 L2 (xstW hd9) (S' := S1) (o' := o1) (r := r) (as := [.ref (G.2.2 0 0), .int (xs (i + 1)), .ref ao]) (n := 3) (fun l hl => kL_volumeByBalance l hl hsz hao hd9.2.1 V.1 (xs (i + 1)) S o r S1 o1 q1) gL_law_L_volumeByBalance rfl hdL_volumeByBalance ⟨by decide, by decide⟩ rfl rfl (Nat.le_of_ble_eq_true rfl) hk dL_law_496 ?_
  refine xg_istore C dL_law_499 (by decide) (L' := [some (.ref b), some (.ref (G.2.2 0 0)), some (.ref (Gm.2.2 0 0)), some (.ref ao), some (.int (nI i)), some (.int r), none]) rfl ?_
  refine xg_aload_n C dL_law_501 rfl ?_
  refine xg_aload_n C dL_law_502 rfl ?_
  refine xg_iload C dL_law_503 rfl ?_
  refine xg_iconst C dL_law_505 (v := (1 : Int32)) (by decide) ?_
  refine xg_iadd C dL_law_506 ?_
  refine xg_scr C E3 (j := i + 1) hN (by omega) (xia1 i) dL_law_507 ?_
  refine xg_I (I' := (fun H => xP xYm Gm M H ∧ xPo G cJ ao S1 o1 H)) ?_ (fun H h => ⟨h.2, h.1⟩)
  refine xg_callViJ C Vm (xstM hd9) (f := 0) (S' := M1) (As := [.int (xs (i + 1))]) (r := v) (fun l => q4 l Gm Vm.1) gL_law_X4_volumeByBalance rfl hdX4_volumeByBalance ⟨by show _ ≤ 12; omega, by show _ ≤ 436; have e9 : (2 : Nat) = 2 := rfl; omega⟩ rfl rfl rfl rfl rfl (Nat.le_of_ble_eq_true rfl) ⟨by show _ ≤ 637548; omega, by show _ ≤ 7183461; omega⟩ dL_law_508 ?_
  refine xg_istore C dL_law_511 (by decide) (L' := [some (.ref b), some (.ref (G.2.2 0 0)), some (.ref (Gm.2.2 0 0)), some (.ref ao), some (.int (nI i)), some (.int r), some (.int v)]) rfl ?_
  refine xg_aload_n C dL_law_513 rfl ?_
  refine xg_callViJ C Vm (xstM hd9) (f := 0) (As := []) (r := fX4_thrown M1) (fun l => kX4_thrown l Vm.1 M1) gL_law_X4_thrown rfl hdX4_thrown ⟨by decide, by decide⟩ rfl rfl rfl rfl rfl (Nat.le_of_ble_eq_true rfl) ⟨by show _ ≤ 637548; omega, by show _ ≤ 7183461; omega⟩ dL_law_514 ?_
  refine xg_iload C dL_law_517 rfl ?_
  refine xg_icmp_eq C 524 dL_law_519 (by decide) (fun h9 => ?_) (fun h9 => absurd (q5) h9)
  refine xg_iload C dL_law_524 rfl ?_
  refine xg_if_ne C 541 dL_law_526 (by decide) (fun h8 => ?_) (fun h8 => ?_)
  · refine xg_goto C 1871 dL_law_541 (by decide) ?_
    refine xg_I (I' := xPP G Gm cJ ao S1 M1 o1) ?_ (fun H h => ⟨h.2, h.1⟩)
    refine xg_le2 (L' := [some (.ref b), some (.ref (G.2.2 0 0)), some (.ref (Gm.2.2 0 0)), some (.ref ao), some (.int (nI i)), none, none]) ⟨rfl, rfl, rfl, rfl, rfl, trivial⟩ ?_
    exact K S1 M1 o1 hR1
  · refine xg_aload_n C dL_law_529 rfl ?_
    refine xg_iconst C dL_law_530 (v := (0 : Int32)) (by decide) ?_
    refine xg_lald C L2 (fun H h => h.2.2) dL_law_531 ?_
    refine xg_iload C dL_law_532 rfl ?_
    refine xg_i2l C dL_law_534 ?_
    refine xg_lcmp C dL_law_535 ?_
    refine xg_if_eq C 541 dL_law_536 (by decide) (fun _ => ?_) (fun h7 => absurd (by rw [q6 h8]; exact lg_cmp_self _) h7)
    refine xg_goto C 1871 dL_law_541 (by decide) ?_
    refine xg_I (I' := xPP G Gm cJ ao S1 M1 o1) ?_ (fun H h => ⟨h.2, h.1⟩)
    refine xg_le2 (L' := [some (.ref b), some (.ref (G.2.2 0 0)), some (.ref (Gm.2.2 0 0)), some (.ref ao), some (.int (nI i)), none, none]) ⟨rfl, rfl, rfl, rfl, rfl, trivial⟩ ?_
    exact K S1 M1 o1 hR1
set_option maxRecDepth 100000 in
set_option maxHeartbeats 4000000 in
theorem law_level {F : xF} {G Gm : xG} {Sa : Nat → Nat} {sz b N ao k w i c : Nat} {xs : Nat → Int32} {cJ : ClassId} {S M : xS} {o : Int64} {Rel : Nat → xS → xS → Prop} (C : xC F cL_law 7 RL wsL_law room_1) (V : xV F xYc G) (Vm : xV F xYm Gm) (E3 : xE3 F Sa sz b N xs) (L2 : xL2 F cJ ao) (hsz : ∀ a : Nat, xA xYc G a → sz ≤ a) (hao : sz ≤ ao) (hd9 : xAway G Gm ao) (hN : N ≤ 3072) (hi : i + 6 ≤ N) (hc : c < 512) (hR : Rel c S M) (hk : k + 1 ≤ 637548 ∧ w + 6 ≤ 7183461) (hsim : sim_level Rel) (K : ∀ S' M' o', Rel (c + 1) S' M' → xg F (k + 1) (w + 6) 1871 [some (.ref b), some (.ref (G.2.2 0 0)), some (.ref (Gm.2.2 0 0)), some (.ref ao), some (.int (nI i)), none, none] [] (xPP G Gm cJ ao S' M' o')) : xg F k w 544 [some (.ref b), some (.ref (G.2.2 0 0)), some (.ref (Gm.2.2 0 0)), some (.ref ao), some (.int (nI i)), none, none] [] (xPP G Gm cJ ao S M o) := by
  refine xg_aload_n C dL_law_544 rfl ?_
  refine xg_aload_n C dL_law_545 rfl ?_
  refine xg_iload C dL_law_546 rfl ?_
  refine xg_iconst C dL_law_548 (v := (1 : Int32)) (by decide) ?_
  refine xg_iadd C dL_law_549 ?_
  refine xg_scr C E3 (j := i + 1) hN (by omega) (xia1 i) dL_law_550 ?_
  refine xg_aload_n C dL_law_551 rfl ?_
  obtain ⟨r, S1, o1, M1, v, fr1, lo1, q1, q2, q3, q4, q5, q6, q7⟩ := hsim c S M o (xs (i + 1)) hc hR
  have hR1 := q7
  refine xg_callW C V E3 L2 (xstW hd9) (S' := S1) (o' := o1) (r := r) (as := [.ref (G.2.2 0 0), .int (xs (i + 1)), .ref ao]) (n := 3) (fun l hl => kL_level l hl hsz hao hd9.2.1 V.1 (xs (i + 1)) S o r S1 o1 q1) gL_law_L_level rfl hdL_level ⟨by decide, by decide⟩ rfl rfl (Nat.le_of_ble_eq_true rfl) hk dL_law_552 ?_
  refine xg_istore C dL_law_555 (by decide) (L' := [some (.ref b), some (.ref (G.2.2 0 0)), some (.ref (Gm.2.2 0 0)), some (.ref ao), some (.int (nI i)), some (.int r), none]) rfl ?_
  refine xg_aload_n C dL_law_557 rfl ?_
  refine xg_aload_n C dL_law_558 rfl ?_
  refine xg_iload C dL_law_559 rfl ?_
  refine xg_iconst C dL_law_561 (v := (1 : Int32)) (by decide) ?_
  refine xg_iadd C dL_law_562 ?_
  refine xg_scr C E3 (j := i + 1) hN (by omega) (xia1 i) dL_law_563 ?_
  refine xg_I (I' := (fun H => xP xYm Gm M H ∧ xPo G cJ ao S1 o1 H)) ?_ (fun H h => ⟨h.2, h.1⟩)
  refine xg_callViJ C Vm (xstM hd9) (f := 0) (S' := M1) (As := [.int (xs (i + 1))]) (r := v) (fun l => q4 l Gm Vm.1) gL_law_X4_level rfl hdX4_level ⟨by show _ ≤ 12; omega, by show _ ≤ 436; have e9 : (2 : Nat) = 2 := rfl; omega⟩ rfl rfl rfl rfl rfl (Nat.le_of_ble_eq_true rfl) ⟨by show _ ≤ 637548; omega, by show _ ≤ 7183461; omega⟩ dL_law_564 ?_
  refine xg_istore C dL_law_567 (by decide) (L' := [some (.ref b), some (.ref (G.2.2 0 0)), some (.ref (Gm.2.2 0 0)), some (.ref ao), some (.int (nI i)), some (.int r), some (.int v)]) rfl ?_
  refine xg_aload_n C dL_law_569 rfl ?_
  refine xg_callViJ C Vm (xstM hd9) (f := 0) (As := []) (r := fX4_thrown M1) (fun l => kX4_thrown l Vm.1 M1) gL_law_X4_thrown rfl hdX4_thrown ⟨by decide, by decide⟩ rfl rfl rfl rfl rfl (Nat.le_of_ble_eq_true rfl) ⟨by show _ ≤ 637548; omega, by show _ ≤ 7183461; omega⟩ dL_law_570 ?_
  refine xg_iload C dL_law_573 rfl ?_
  refine xg_icmp_eq C 580 dL_law_575 (by decide) (fun h9 => ?_) (fun h9 => absurd (q5) h9)
  refine xg_iload C dL_law_580 rfl ?_
  refine xg_if_ne C 597 dL_law_582 (by decide) (fun h8 => ?_) (fun h8 => ?_)
  · refine xg_goto C 1871 dL_law_597 (by decide) ?_
    refine xg_I (I' := xPP G Gm cJ ao S1 M1 o1) ?_ (fun H h => ⟨h.2, h.1⟩)
    refine xg_le2 (L' := [some (.ref b), some (.ref (G.2.2 0 0)), some (.ref (Gm.2.2 0 0)), some (.ref ao), some (.int (nI i)), none, none]) ⟨rfl, rfl, rfl, rfl, rfl, trivial⟩ ?_
    exact K S1 M1 o1 hR1
  · refine xg_aload_n C dL_law_585 rfl ?_
    refine xg_iconst C dL_law_586 (v := (0 : Int32)) (by decide) ?_
    refine xg_lald C L2 (fun H h => h.2.2) dL_law_587 ?_
    refine xg_iload C dL_law_588 rfl ?_
    refine xg_i2l C dL_law_590 ?_
    refine xg_lcmp C dL_law_591 ?_
    refine xg_if_eq C 597 dL_law_592 (by decide) (fun _ => ?_) (fun h7 => absurd (by rw [q6 h8]; exact lg_cmp_self _) h7)
    refine xg_goto C 1871 dL_law_597 (by decide) ?_
    refine xg_I (I' := xPP G Gm cJ ao S1 M1 o1) ?_ (fun H h => ⟨h.2, h.1⟩)
    refine xg_le2 (L' := [some (.ref b), some (.ref (G.2.2 0 0)), some (.ref (Gm.2.2 0 0)), some (.ref ao), some (.int (nI i)), none, none]) ⟨rfl, rfl, rfl, rfl, rfl, trivial⟩ ?_
    exact K S1 M1 o1 hR1
set_option maxRecDepth 100000 in
set_option maxHeartbeats 4000000 in
theorem law_flowed {F : xF} {G Gm : xG} {Sa : Nat → Nat} {sz b N ao k w i c : Nat} {xs : Nat → Int32} {cJ : ClassId} {S M : xS} {o : Int64} {Rel : Nat → xS → xS → Prop} (C : xC F cL_law 7 RL wsL_law room_1) (V : xV F xYc G) (Vm : xV F xYm Gm) (E3 : xE3 F Sa sz b N xs) (L2 : xL2 F cJ ao) (hsz : ∀ a : Nat, xA xYc G a → sz ≤ a) (hao : sz ≤ ao) (hd9 : xAway G Gm ao) (hN : N ≤ 3072) (hi : i + 6 ≤ N) (hc : c < 512) (hR : Rel c S M) (hk : k + 1 ≤ 637548 ∧ w + 6 ≤ 7183461) (hsim : sim_flowed Rel) (K : ∀ S' M' o', Rel (c + 1) S' M' → xg F (k + 1) (w + 6) 1871 [some (.ref b), some (.ref (G.2.2 0 0)), some (.ref (Gm.2.2 0 0)), some (.ref ao), some (.int (nI i)), none, none] [] (xPP G Gm cJ ao S' M' o')) : xg F k w 600 [some (.ref b), some (.ref (G.2.2 0 0)), some (.ref (Gm.2.2 0 0)), some (.ref ao), some (.int (nI i)), none, none] [] (xPP G Gm cJ ao S M o) := by
  refine xg_aload_n C dL_law_600 rfl ?_
  refine xg_aload_n C dL_law_601 rfl ?_
  refine xg_iload C dL_law_602 rfl ?_
  refine xg_iconst C dL_law_604 (v := (1 : Int32)) (by decide) ?_
  refine xg_iadd C dL_law_605 ?_
  refine xg_scr C E3 (j := i + 1) hN (by omega) (xia1 i) dL_law_606 ?_
  refine xg_aload_n C dL_law_607 rfl ?_
  obtain ⟨r, S1, o1, M1, v, fr1, lo1, q1, q2, q3, q4, q5, q6, q7⟩ := hsim c S M o (xs (i + 1)) hc hR
  have hR1 := q7
  refine xg_callW C V E3 L2 (xstW hd9) (S' := S1) (o' := o1) (r := r) (as := [.ref (G.2.2 0 0), .int (xs (i + 1)), .ref ao]) (n := 3) (fun l hl => kL_flowed l hl hsz hao hd9.2.1 V.1 (xs (i + 1)) S o r S1 o1 q1) gL_law_L_flowed rfl hdL_flowed ⟨by decide, by decide⟩ rfl rfl (Nat.le_of_ble_eq_true rfl) hk dL_law_608 ?_
  refine xg_istore C dL_law_611 (by decide) (L' := [some (.ref b), some (.ref (G.2.2 0 0)), some (.ref (Gm.2.2 0 0)), some (.ref ao), some (.int (nI i)), some (.int r), none]) rfl ?_
  refine xg_aload_n C dL_law_613 rfl ?_
  refine xg_aload_n C dL_law_614 rfl ?_
  refine xg_iload C dL_law_615 rfl ?_
  refine xg_iconst C dL_law_617 (v := (1 : Int32)) (by decide) ?_
  refine xg_iadd C dL_law_618 ?_
  refine xg_scr C E3 (j := i + 1) hN (by omega) (xia1 i) dL_law_619 ?_
  refine xg_I (I' := (fun H => xP xYm Gm M H ∧ xPo G cJ ao S1 o1 H)) ?_ (fun H h => ⟨h.2, h.1⟩)
  refine xg_callViJ C Vm (xstM hd9) (f := 0) (S' := M1) (As := [.int (xs (i + 1))]) (r := v) (fun l => q4 l Gm Vm.1) gL_law_X4_flowed rfl hdX4_flowed ⟨by show _ ≤ 12; omega, by show _ ≤ 436; have e9 : (2 : Nat) = 2 := rfl; omega⟩ rfl rfl rfl rfl rfl (Nat.le_of_ble_eq_true rfl) ⟨by show _ ≤ 637548; omega, by show _ ≤ 7183461; omega⟩ dL_law_620 ?_
  refine xg_istore C dL_law_623 (by decide) (L' := [some (.ref b), some (.ref (G.2.2 0 0)), some (.ref (Gm.2.2 0 0)), some (.ref ao), some (.int (nI i)), some (.int r), some (.int v)]) rfl ?_
  refine xg_aload_n C dL_law_625 rfl ?_
  refine xg_callViJ C Vm (xstM hd9) (f := 0) (As := []) (r := fX4_thrown M1) (fun l => kX4_thrown l Vm.1 M1) gL_law_X4_thrown rfl hdX4_thrown ⟨by decide, by decide⟩ rfl rfl rfl rfl rfl (Nat.le_of_ble_eq_true rfl) ⟨by show _ ≤ 637548; omega, by show _ ≤ 7183461; omega⟩ dL_law_626 ?_
  refine xg_iload C dL_law_629 rfl ?_
  refine xg_icmp_eq C 636 dL_law_631 (by decide) (fun h9 => ?_) (fun h9 => absurd (q5) h9)
  refine xg_iload C dL_law_636 rfl ?_
  refine xg_if_ne C 653 dL_law_638 (by decide) (fun h8 => ?_) (fun h8 => ?_)
  · refine xg_goto C 1871 dL_law_653 (by decide) ?_
    refine xg_I (I' := xPP G Gm cJ ao S1 M1 o1) ?_ (fun H h => ⟨h.2, h.1⟩)
    refine xg_le2 (L' := [some (.ref b), some (.ref (G.2.2 0 0)), some (.ref (Gm.2.2 0 0)), some (.ref ao), some (.int (nI i)), none, none]) ⟨rfl, rfl, rfl, rfl, rfl, trivial⟩ ?_
    exact K S1 M1 o1 hR1
  · refine xg_aload_n C dL_law_641 rfl ?_
    refine xg_iconst C dL_law_642 (v := (0 : Int32)) (by decide) ?_
    refine xg_lald C L2 (fun H h => h.2.2) dL_law_643 ?_
    refine xg_iload C dL_law_644 rfl ?_
    refine xg_i2l C dL_law_646 ?_
    refine xg_lcmp C dL_law_647 ?_
    refine xg_if_eq C 653 dL_law_648 (by decide) (fun _ => ?_) (fun h7 => absurd (by rw [q6 h8]; exact lg_cmp_self _) h7)
    refine xg_goto C 1871 dL_law_653 (by decide) ?_
    refine xg_I (I' := xPP G Gm cJ ao S1 M1 o1) ?_ (fun H h => ⟨h.2, h.1⟩)
    refine xg_le2 (L' := [some (.ref b), some (.ref (G.2.2 0 0)), some (.ref (Gm.2.2 0 0)), some (.ref ao), some (.int (nI i)), none, none]) ⟨rfl, rfl, rfl, rfl, rfl, trivial⟩ ?_
    exact K S1 M1 o1 hR1
