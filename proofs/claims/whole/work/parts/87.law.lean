set_option maxHeartbeats 4000000 in
set_option maxRecDepth 100000 in
theorem law_0 {X : jX} {r i yb n : Nat} {I : HI} {J : HJ} {i0 i1 : Option Nat} {S : SS} (hX : X.1 ≤ 320) (hi : i + 5 ≤ X.1) (hyb : yb ≤ 2 ^ 12) (hL : LI S yb n i0 i1 I J) (hk : LK X r i yb) : Rj X 64 (11 * (r + 1)) (178 * (r + 1)) mL_law LQ 176 [.ref 1200, .ref 0, .ref 33, .int (nI i)] [] n I J (Pg i0 i1) := by
  obtain ⟨hC, hm, hG⟩ := hL
  refine j_less (Nat.mul_le_mul_left 11 (Nat.le_succ r)) (Nat.mul_le_mul_left 178 (Nat.le_succ r)) ?_
  refine j_aload_n dL_law_176 rfl rfl rfl ?_
  refine j_callVw (As := []) dL_law_177 rfl cL_13 (by decide) rfl rfl (by decide) rfl (by decide) rfl rfl (f_valley hC hG.1 hyb (fun n1 j0 j1 I1 J1 hC1 hF1 => ?_))
  show Rj _ _ _ _ _ _ 180 [.ref 1200, .ref 0, .ref 33, .int (nI i)] [.int ((oValley S ).2)] n1 I1 J1 (Pg j0 j1)
  refine j_aload_n dL_law_180 rfl rfl rfl ?_
  refine j_callVw (As := []) dL_law_181 rfl cL_17 (by decide) rfl rfl (by decide) rfl (Nat.le_of_ble_eq_true rfl) rfl rfl (g_valley (hm.mf hF1) hG.1 hyb (fun I2 J2 hm2 hF2 => ?_))
  show Rj _ _ _ _ _ _ 184 [.ref 1200, .ref 0, .ref 33, .int (nI i)] [.int ((oValley S ).2), .int ((oValley S ).2)] n1 I2 J2 (Pg j0 j1)
  refine j_icmpeq (tgt := 984) dL_law_184 rfl rfl (fun h1 => ?_) (fun h1 => by exfalso; exact h1 rfl)
  refine j_iincN (L' := [.ref 1200, .ref 0, .ref 33, .int (nI (i + 5))]) dL_law_984 rfl rfl (b := 5) rfl rfl rfl (by decide) rfl ?_
  refine j_goto (tgt := 18) dL_law_987 rfl ?_
  exact hk _ _ _ _ _ _ ⟨hC1.cf hF2, hm2, gd_oValley hG⟩
set_option maxHeartbeats 4000000 in
set_option maxRecDepth 100000 in
theorem law_1 {X : jX} {r i yb n : Nat} {I : HI} {J : HJ} {i0 i1 : Option Nat} {S : SS} (hX : X.1 ≤ 320) (hi : i + 5 ≤ X.1) (hyb : yb ≤ 2 ^ 12) (hL : LI S yb n i0 i1 I J) (hk : LK X r i yb) : Rj X 64 (11 * (r + 1)) (178 * (r + 1)) mL_law LQ 189 [.ref 1200, .ref 0, .ref 33, .int (nI i)] [] n I J (Pg i0 i1) := by
  obtain ⟨hC, hm, hG⟩ := hL
  refine j_less (Nat.mul_le_mul_left 11 (Nat.le_succ r)) (Nat.mul_le_mul_left 178 (Nat.le_succ r)) ?_
  refine j_aload_n dL_law_189 rfl rfl rfl ?_
  refine j_aload_n dL_law_190 rfl rfl rfl ?_
  refine j_iload_n dL_law_191 rfl rfl rfl ?_
  refine j_iconst (v := nI 1) dL_law_192 rfl rfl ?_
  refine j_iaddN (c := i + 1) dL_law_193 rfl rfl ?_
  refine j_sldN (i := i + 1) dL_law_194 rfl (by omega) hX ?_
  refine j_callVw (As := [.int (X.2 (i + 1))]) dL_law_195 rfl cL_18 (by decide) rfl rfl (by decide) rfl (by decide) rfl rfl (f_damp hC hG.1 hyb (fun n1 j0 j1 I1 J1 hC1 hF1 => ?_))
  show Rj _ _ _ _ _ _ 198 [.ref 1200, .ref 0, .ref 33, .int (nI i)] [.int ((oDamp 1 S (X.2 (i + 1))).2)] n1 I1 J1 (Pg j0 j1)
  refine j_aload_n dL_law_198 rfl rfl rfl ?_
  refine j_aload_n dL_law_199 rfl rfl rfl ?_
  refine j_iload_n dL_law_200 rfl rfl rfl ?_
  refine j_iconst (v := nI 1) dL_law_201 rfl rfl ?_
  refine j_iaddN (c := i + 1) dL_law_202 rfl rfl ?_
  refine j_sldN (i := i + 1) dL_law_203 rfl (by omega) hX ?_
  refine j_callVw (As := [.int (X.2 (i + 1))]) dL_law_204 rfl cL_22 (by decide) rfl rfl (by decide) rfl (Nat.le_of_ble_eq_true rfl) rfl rfl (g_damp (hm.mf hF1) hG.1 hyb (fun I2 J2 hm2 hF2 => ?_))
  show Rj _ _ _ _ _ _ 207 [.ref 1200, .ref 0, .ref 33, .int (nI i)] [.int ((oDamp 1 S (X.2 (i + 1))).2), .int ((oDamp 1 S (X.2 (i + 1))).2)] n1 I2 J2 (Pg j0 j1)
  refine j_icmpeq (tgt := 984) dL_law_207 rfl rfl (fun h1 => ?_) (fun h1 => by exfalso; exact h1 rfl)
  refine j_iincN (L' := [.ref 1200, .ref 0, .ref 33, .int (nI (i + 5))]) dL_law_984 rfl rfl (b := 5) rfl rfl rfl (by decide) rfl ?_
  refine j_goto (tgt := 18) dL_law_987 rfl ?_
  exact hk _ _ _ _ _ _ ⟨hC1.cf hF2, hm2, gd_oDamp (by omega) (by omega) hG⟩
set_option maxHeartbeats 4000000 in
set_option maxRecDepth 100000 in
theorem law_2 {X : jX} {r i yb n : Nat} {I : HI} {J : HJ} {i0 i1 : Option Nat} {S : SS} (hX : X.1 ≤ 320) (hi : i + 5 ≤ X.1) (hyb : yb ≤ 2 ^ 12) (hL : LI S yb n i0 i1 I J) (hk : LK X r i yb) : Rj X 64 (11 * (r + 1)) (178 * (r + 1)) mL_law LQ 212 [.ref 1200, .ref 0, .ref 33, .int (nI i)] [] n I J (Pg i0 i1) := by
  obtain ⟨hC, hm, hG⟩ := hL
  refine j_less (Nat.mul_le_mul_left 11 (Nat.le_succ r)) (Nat.mul_le_mul_left 178 (Nat.le_succ r)) ?_
  refine j_aload_n dL_law_212 rfl rfl rfl ?_
  refine j_aload_n dL_law_213 rfl rfl rfl ?_
  refine j_iload_n dL_law_214 rfl rfl rfl ?_
  refine j_iconst (v := nI 1) dL_law_215 rfl rfl ?_
  refine j_iaddN (c := i + 1) dL_law_216 rfl rfl ?_
  refine j_sldN (i := i + 1) dL_law_217 rfl (by omega) hX ?_
  refine j_callVw (As := [.int (X.2 (i + 1))]) dL_law_218 rfl cL_23 (by decide) rfl rfl (by decide) rfl (by decide) rfl rfl (f_dry hC hG.1 hyb (fun n1 j0 j1 I1 J1 hC1 hF1 => ?_))
  show Rj _ _ _ _ _ _ 221 [.ref 1200, .ref 0, .ref 33, .int (nI i)] [.int ((oDamp 2 S (X.2 (i + 1))).2)] n1 I1 J1 (Pg j0 j1)
  refine j_aload_n dL_law_221 rfl rfl rfl ?_
  refine j_aload_n dL_law_222 rfl rfl rfl ?_
  refine j_iload_n dL_law_223 rfl rfl rfl ?_
  refine j_iconst (v := nI 1) dL_law_224 rfl rfl ?_
  refine j_iaddN (c := i + 1) dL_law_225 rfl rfl ?_
  refine j_sldN (i := i + 1) dL_law_226 rfl (by omega) hX ?_
  refine j_callVw (As := [.int (X.2 (i + 1))]) dL_law_227 rfl cL_26 (by decide) rfl rfl (by decide) rfl (Nat.le_of_ble_eq_true rfl) rfl rfl (g_dry (hm.mf hF1) hG.1 hyb (fun I2 J2 hm2 hF2 => ?_))
  show Rj _ _ _ _ _ _ 230 [.ref 1200, .ref 0, .ref 33, .int (nI i)] [.int ((oDamp 2 S (X.2 (i + 1))).2), .int ((oDamp 2 S (X.2 (i + 1))).2)] n1 I2 J2 (Pg j0 j1)
  refine j_icmpeq (tgt := 984) dL_law_230 rfl rfl (fun h1 => ?_) (fun h1 => by exfalso; exact h1 rfl)
  refine j_iincN (L' := [.ref 1200, .ref 0, .ref 33, .int (nI (i + 5))]) dL_law_984 rfl rfl (b := 5) rfl rfl rfl (by decide) rfl ?_
  refine j_goto (tgt := 18) dL_law_987 rfl ?_
  exact hk _ _ _ _ _ _ ⟨hC1.cf hF2, hm2, gd_oDamp (by omega) (by omega) hG⟩
set_option maxHeartbeats 4000000 in
set_option maxRecDepth 100000 in
theorem law_3 {X : jX} {r i yb n : Nat} {I : HI} {J : HJ} {i0 i1 : Option Nat} {S : SS} (hX : X.1 ≤ 320) (hi : i + 5 ≤ X.1) (hyb : yb ≤ 2 ^ 12) (hL : LI S yb n i0 i1 I J) (hk : LK X r i yb) : Rj X 64 (11 * (r + 1)) (178 * (r + 1)) mL_law LQ 235 [.ref 1200, .ref 0, .ref 33, .int (nI i)] [] n I J (Pg i0 i1) := by
  obtain ⟨hC, hm, hG⟩ := hL
  refine j_less (Nat.mul_le_mul_left 11 (Nat.le_succ r)) (Nat.mul_le_mul_left 178 (Nat.le_succ r)) ?_
  refine j_aload_n dL_law_235 rfl rfl rfl ?_
  refine j_aload_n dL_law_236 rfl rfl rfl ?_
  refine j_iload_n dL_law_237 rfl rfl rfl ?_
  refine j_iconst (v := nI 1) dL_law_238 rfl rfl ?_
  refine j_iaddN (c := i + 1) dL_law_239 rfl rfl ?_
  refine j_sldN (i := i + 1) dL_law_240 rfl (by omega) hX ?_
  refine j_aload_n dL_law_241 rfl rfl rfl ?_
  refine j_iload_n dL_law_242 rfl rfl rfl ?_
  refine j_iconst (v := nI 2) dL_law_243 rfl rfl ?_
  refine j_iaddN (c := i + 2) dL_law_244 rfl rfl ?_
  refine j_sldN (i := i + 2) dL_law_245 rfl (by omega) hX ?_
  refine j_callVw (As := [.int (X.2 (i + 1)), .int (X.2 (i + 2))]) dL_law_246 rfl cL_27 (by decide) rfl rfl (by decide) rfl (by decide) rfl rfl (f_pair hC hG.1 hyb (fun n1 j0 j1 I1 J1 hC1 hF1 => ?_))
  show Rj _ _ _ _ _ _ 249 [.ref 1200, .ref 0, .ref 33, .int (nI i)] [.int ((oPair S (X.2 (i + 1)) (X.2 (i + 2))).2)] n1 I1 J1 (Pg j0 j1)
  refine j_aload_n dL_law_249 rfl rfl rfl ?_
  refine j_aload_n dL_law_250 rfl rfl rfl ?_
  refine j_iload_n dL_law_251 rfl rfl rfl ?_
  refine j_iconst (v := nI 1) dL_law_252 rfl rfl ?_
  refine j_iaddN (c := i + 1) dL_law_253 rfl rfl ?_
  refine j_sldN (i := i + 1) dL_law_254 rfl (by omega) hX ?_
  refine j_aload_n dL_law_255 rfl rfl rfl ?_
  refine j_iload_n dL_law_256 rfl rfl rfl ?_
  refine j_iconst (v := nI 2) dL_law_257 rfl rfl ?_
  refine j_iaddN (c := i + 2) dL_law_258 rfl rfl ?_
  refine j_sldN (i := i + 2) dL_law_259 rfl (by omega) hX ?_
  refine j_callVw (As := [.int (X.2 (i + 1)), .int (X.2 (i + 2))]) dL_law_260 rfl cL_31 (by decide) rfl rfl (by decide) rfl (Nat.le_of_ble_eq_true rfl) rfl rfl (g_pair (hm.mf hF1) hG.1 hyb (fun I2 J2 hm2 hF2 => ?_))
  show Rj _ _ _ _ _ _ 263 [.ref 1200, .ref 0, .ref 33, .int (nI i)] [.int ((oPair S (X.2 (i + 1)) (X.2 (i + 2))).2), .int ((oPair S (X.2 (i + 1)) (X.2 (i + 2))).2)] n1 I2 J2 (Pg j0 j1)
  refine j_icmpeq (tgt := 984) dL_law_263 rfl rfl (fun h1 => ?_) (fun h1 => by exfalso; exact h1 rfl)
  refine j_iincN (L' := [.ref 1200, .ref 0, .ref 33, .int (nI (i + 5))]) dL_law_984 rfl rfl (b := 5) rfl rfl rfl (by decide) rfl ?_
  refine j_goto (tgt := 18) dL_law_987 rfl ?_
  exact hk _ _ _ _ _ _ ⟨hC1.cf hF2, hm2, gd_oPair hG⟩
set_option maxHeartbeats 4000000 in
set_option maxRecDepth 100000 in
theorem law_4 {X : jX} {r i yb n : Nat} {I : HI} {J : HJ} {i0 i1 : Option Nat} {S : SS} (hX : X.1 ≤ 320) (hi : i + 5 ≤ X.1) (hyb : yb ≤ 2 ^ 12) (hL : LI S yb n i0 i1 I J) (hk : LK X r i yb) : Rj X 64 (11 * (r + 1)) (178 * (r + 1)) mL_law LQ 268 [.ref 1200, .ref 0, .ref 33, .int (nI i)] [] n I J (Pg i0 i1) := by
  obtain ⟨hC, hm, hG⟩ := hL
  refine j_less (Nat.mul_le_mul_left 11 (Nat.le_succ r)) (Nat.mul_le_mul_left 178 (Nat.le_succ r)) ?_
  refine j_aload_n dL_law_268 rfl rfl rfl ?_
  refine j_aload_n dL_law_269 rfl rfl rfl ?_
  refine j_iload_n dL_law_270 rfl rfl rfl ?_
  refine j_iconst (v := nI 1) dL_law_271 rfl rfl ?_
  refine j_iaddN (c := i + 1) dL_law_272 rfl rfl ?_
  refine j_sldN (i := i + 1) dL_law_273 rfl (by omega) hX ?_
  refine j_callVw (As := [.int (X.2 (i + 1))]) dL_law_274 rfl cL_32 (by decide) rfl rfl (by decide) rfl (by decide) rfl rfl (f_kin hC hG.1 hyb (fun n1 j0 j1 I1 J1 hC1 hF1 => ?_))
  show Rj _ _ _ _ _ _ 277 [.ref 1200, .ref 0, .ref 33, .int (nI i)] [.int ((oKin S (X.2 (i + 1))).2)] n1 I1 J1 (Pg j0 j1)
  refine j_aload_n dL_law_277 rfl rfl rfl ?_
  refine j_aload_n dL_law_278 rfl rfl rfl ?_
  refine j_iload_n dL_law_279 rfl rfl rfl ?_
  refine j_iconst (v := nI 1) dL_law_280 rfl rfl ?_
  refine j_iaddN (c := i + 1) dL_law_281 rfl rfl ?_
  refine j_sldN (i := i + 1) dL_law_282 rfl (by omega) hX ?_
  refine j_callVw (As := [.int (X.2 (i + 1))]) dL_law_283 rfl cL_35 (by decide) rfl rfl (by decide) rfl (Nat.le_of_ble_eq_true rfl) rfl rfl (g_kin (hm.mf hF1) hG.1 hyb (fun I2 J2 hm2 hF2 => ?_))
  show Rj _ _ _ _ _ _ 286 [.ref 1200, .ref 0, .ref 33, .int (nI i)] [.int ((oKin S (X.2 (i + 1))).2), .int ((oKin S (X.2 (i + 1))).2)] n1 I2 J2 (Pg j0 j1)
  refine j_icmpeq (tgt := 984) dL_law_286 rfl rfl (fun h1 => ?_) (fun h1 => by exfalso; exact h1 rfl)
  refine j_iincN (L' := [.ref 1200, .ref 0, .ref 33, .int (nI (i + 5))]) dL_law_984 rfl rfl (b := 5) rfl rfl rfl (by decide) rfl ?_
  refine j_goto (tgt := 18) dL_law_987 rfl ?_
  exact hk _ _ _ _ _ _ ⟨hC1.cf hF2, hm2, gd_oKin hG⟩
set_option maxHeartbeats 4000000 in
set_option maxRecDepth 100000 in
theorem law_5 {X : jX} {r i yb n : Nat} {I : HI} {J : HJ} {i0 i1 : Option Nat} {S : SS} (hX : X.1 ≤ 320) (hi : i + 5 ≤ X.1) (hyb : yb ≤ 2 ^ 12) (hL : LI S yb n i0 i1 I J) (hk : LK X r i yb) : Rj X 64 (11 * (r + 1)) (178 * (r + 1)) mL_law LQ 291 [.ref 1200, .ref 0, .ref 33, .int (nI i)] [] n I J (Pg i0 i1) := by
  obtain ⟨hC, hm, hG⟩ := hL
  refine j_less (Nat.mul_le_mul_left 11 (Nat.le_succ r)) (Nat.mul_le_mul_left 178 (Nat.le_succ r)) ?_
  refine j_aload_n dL_law_291 rfl rfl rfl ?_
  refine j_aload_n dL_law_292 rfl rfl rfl ?_
  refine j_iload_n dL_law_293 rfl rfl rfl ?_
  refine j_iconst (v := nI 1) dL_law_294 rfl rfl ?_
  refine j_iaddN (c := i + 1) dL_law_295 rfl rfl ?_
  refine j_sldN (i := i + 1) dL_law_296 rfl (by omega) hX ?_
  refine j_callVw (As := [.int (X.2 (i + 1))]) dL_law_297 rfl cL_36 (by decide) rfl rfl (by decide) rfl (by decide) rfl rfl (f_type hC hG.1 hyb (fun n1 j0 j1 I1 J1 hC1 hF1 => ?_))
  show Rj _ _ _ _ _ _ 300 [.ref 1200, .ref 0, .ref 33, .int (nI i)] [.int ((oType S (X.2 (i + 1))).2)] n1 I1 J1 (Pg j0 j1)
  refine j_aload_n dL_law_300 rfl rfl rfl ?_
  refine j_aload_n dL_law_301 rfl rfl rfl ?_
  refine j_iload_n dL_law_302 rfl rfl rfl ?_
  refine j_iconst (v := nI 1) dL_law_303 rfl rfl ?_
  refine j_iaddN (c := i + 1) dL_law_304 rfl rfl ?_
  refine j_sldN (i := i + 1) dL_law_305 rfl (by omega) hX ?_
  refine j_callVw (As := [.int (X.2 (i + 1))]) dL_law_306 rfl cL_39 (by decide) rfl rfl (by decide) rfl (Nat.le_of_ble_eq_true rfl) rfl rfl (g_type (hm.mf hF1) hG.1 hyb (fun I2 J2 hm2 hF2 => ?_))
  show Rj _ _ _ _ _ _ 309 [.ref 1200, .ref 0, .ref 33, .int (nI i)] [.int ((oType S (X.2 (i + 1))).2), .int ((oType S (X.2 (i + 1))).2)] n1 I2 J2 (Pg j0 j1)
  refine j_icmpeq (tgt := 984) dL_law_309 rfl rfl (fun h1 => ?_) (fun h1 => by exfalso; exact h1 rfl)
  refine j_iincN (L' := [.ref 1200, .ref 0, .ref 33, .int (nI (i + 5))]) dL_law_984 rfl rfl (b := 5) rfl rfl rfl (by decide) rfl ?_
  refine j_goto (tgt := 18) dL_law_987 rfl ?_
  exact hk _ _ _ _ _ _ ⟨hC1.cf hF2, hm2, gd_oType hG⟩
set_option maxHeartbeats 4000000 in
set_option maxRecDepth 100000 in
theorem law_6 {X : jX} {r i yb n : Nat} {I : HI} {J : HJ} {i0 i1 : Option Nat} {S : SS} (hX : X.1 ≤ 320) (hi : i + 5 ≤ X.1) (hyb : yb ≤ 2 ^ 12) (hL : LI S yb n i0 i1 I J) (hk : LK X r i yb) : Rj X 64 (11 * (r + 1)) (178 * (r + 1)) mL_law LQ 314 [.ref 1200, .ref 0, .ref 33, .int (nI i)] [] n I J (Pg i0 i1) := by
  obtain ⟨hC, hm, hG⟩ := hL
  refine j_less (Nat.mul_le_mul_left 11 (Nat.le_succ r)) (Nat.mul_le_mul_left 178 (Nat.le_succ r)) ?_
  refine j_aload_n dL_law_314 rfl rfl rfl ?_
  refine j_callVw (As := []) dL_law_315 rfl cL_40 (by decide) rfl rfl (by decide) rfl (by decide) rfl rfl (f_clear hC hG.1 hyb (fun n1 j0 j1 I1 J1 hC1 hF1 => ?_))
  show Rj _ _ _ _ _ _ 318 [.ref 1200, .ref 0, .ref 33, .int (nI i)] [.int ((oClear S ).2)] n1 I1 J1 (Pg j0 j1)
  refine j_aload_n dL_law_318 rfl rfl rfl ?_
  refine j_callVw (As := []) dL_law_319 rfl cL_43 (by decide) rfl rfl (by decide) rfl (Nat.le_of_ble_eq_true rfl) rfl rfl (g_clear (hm.mf hF1) hG.1 hyb (fun I2 J2 hm2 hF2 => ?_))
  show Rj _ _ _ _ _ _ 322 [.ref 1200, .ref 0, .ref 33, .int (nI i)] [.int ((oClear S ).2), .int ((oClear S ).2)] n1 I2 J2 (Pg j0 j1)
  refine j_icmpeq (tgt := 984) dL_law_322 rfl rfl (fun h1 => ?_) (fun h1 => by exfalso; exact h1 rfl)
  refine j_iincN (L' := [.ref 1200, .ref 0, .ref 33, .int (nI (i + 5))]) dL_law_984 rfl rfl (b := 5) rfl rfl rfl (by decide) rfl ?_
  refine j_goto (tgt := 18) dL_law_987 rfl ?_
  exact hk _ _ _ _ _ _ ⟨hC1.cf hF2, hm2, gd_oClear hG⟩
set_option maxHeartbeats 4000000 in
set_option maxRecDepth 100000 in
theorem law_7 {X : jX} {r i yb n : Nat} {I : HI} {J : HJ} {i0 i1 : Option Nat} {S : SS} (hX : X.1 ≤ 320) (hi : i + 5 ≤ X.1) (hyb : yb ≤ 2 ^ 12) (hL : LI S yb n i0 i1 I J) (hk : LK X r i yb) : Rj X 64 (11 * (r + 1)) (178 * (r + 1)) mL_law LQ 327 [.ref 1200, .ref 0, .ref 33, .int (nI i)] [] n I J (Pg i0 i1) := by
  obtain ⟨hC, hm, hG⟩ := hL
  refine j_less (Nat.mul_le_mul_left 11 (Nat.le_succ r)) (Nat.mul_le_mul_left 178 (Nat.le_succ r)) ?_
  refine j_aload_n dL_law_327 rfl rfl rfl ?_
  refine j_callVw (As := []) dL_law_328 rfl cL_44 (by decide) rfl rfl (by decide) rfl (by decide) rfl rfl (f_read hC hG.1 hyb (fun n1 j0 j1 I1 J1 hC1 hF1 => ?_))
  show Rj _ _ _ _ _ _ 331 [.ref 1200, .ref 0, .ref 33, .int (nI i)] [.int ((oRead S ).2)] n1 I1 J1 (Pg j0 j1)
  refine j_aload_n dL_law_331 rfl rfl rfl ?_
  refine j_callVw (As := []) dL_law_332 rfl cL_47 (by decide) rfl rfl (by decide) rfl (Nat.le_of_ble_eq_true rfl) rfl rfl (g_read (hm.mf hF1) hG.1 hyb (fun I2 J2 hm2 hF2 => ?_))
  show Rj _ _ _ _ _ _ 335 [.ref 1200, .ref 0, .ref 33, .int (nI i)] [.int ((oRead S ).2), .int ((oRead S ).2)] n1 I2 J2 (Pg j0 j1)
  refine j_icmpeq (tgt := 984) dL_law_335 rfl rfl (fun h1 => ?_) (fun h1 => by exfalso; exact h1 rfl)
  refine j_iincN (L' := [.ref 1200, .ref 0, .ref 33, .int (nI (i + 5))]) dL_law_984 rfl rfl (b := 5) rfl rfl rfl (by decide) rfl ?_
  refine j_goto (tgt := 18) dL_law_987 rfl ?_
  exact hk _ _ _ _ _ _ ⟨hC1.cf hF2, hm2, gd_oRead hG⟩
set_option maxHeartbeats 4000000 in
set_option maxRecDepth 100000 in
theorem law_8 {X : jX} {r i yb n : Nat} {I : HI} {J : HJ} {i0 i1 : Option Nat} {S : SS} (hX : X.1 ≤ 320) (hi : i + 5 ≤ X.1) (hyb : yb ≤ 2 ^ 12) (hL : LI S yb n i0 i1 I J) (hk : LK X r i yb) : Rj X 64 (11 * (r + 1)) (178 * (r + 1)) mL_law LQ 340 [.ref 1200, .ref 0, .ref 33, .int (nI i)] [] n I J (Pg i0 i1) := by
  obtain ⟨hC, hm, hG⟩ := hL
  refine j_less (Nat.mul_le_mul_left 11 (Nat.le_succ r)) (Nat.mul_le_mul_left 178 (Nat.le_succ r)) ?_
  refine j_aload_n dL_law_340 rfl rfl rfl ?_
  refine j_aload_n dL_law_341 rfl rfl rfl ?_
  refine j_iload_n dL_law_342 rfl rfl rfl ?_
  refine j_iconst (v := nI 1) dL_law_343 rfl rfl ?_
  refine j_iaddN (c := i + 1) dL_law_344 rfl rfl ?_
  refine j_sldN (i := i + 1) dL_law_345 rfl (by omega) hX ?_
  refine j_callVw (As := [.int (X.2 (i + 1))]) dL_law_346 rfl cL_48 (by decide) rfl rfl (by decide) rfl (by decide) rfl rfl (f_year hC hG.1 hyb (fun n1 j0 j1 I1 J1 hC1 hF1 => ?_))
  show Rj _ _ _ _ _ _ 349 [.ref 1200, .ref 0, .ref 33, .int (nI i)] [.int ((oYear S (X.2 (i + 1))).2)] n1 I1 J1 (Pg j0 j1)
  refine j_aload_n dL_law_349 rfl rfl rfl ?_
  refine j_aload_n dL_law_350 rfl rfl rfl ?_
  refine j_iload_n dL_law_351 rfl rfl rfl ?_
  refine j_iconst (v := nI 1) dL_law_352 rfl rfl ?_
  refine j_iaddN (c := i + 1) dL_law_353 rfl rfl ?_
  refine j_sldN (i := i + 1) dL_law_354 rfl (by omega) hX ?_
  refine j_callVw (As := [.int (X.2 (i + 1))]) dL_law_355 rfl cL_51 (by decide) rfl rfl (by decide) rfl (Nat.le_of_ble_eq_true rfl) rfl rfl (g_year (hm.mf hF1) hG.1 hyb (fun I2 J2 hm2 hF2 => ?_))
  show Rj _ _ _ _ _ _ 358 [.ref 1200, .ref 0, .ref 33, .int (nI i)] [.int ((oYear S (X.2 (i + 1))).2), .int ((oYear S (X.2 (i + 1))).2)] n1 I2 J2 (Pg j0 j1)
  refine j_icmpeq (tgt := 984) dL_law_358 rfl rfl (fun h1 => ?_) (fun h1 => by exfalso; exact h1 rfl)
  refine j_iincN (L' := [.ref 1200, .ref 0, .ref 33, .int (nI (i + 5))]) dL_law_984 rfl rfl (b := 5) rfl rfl rfl (by decide) rfl ?_
  refine j_goto (tgt := 18) dL_law_987 rfl ?_
  exact hk _ _ _ _ _ _ ⟨hC1.cf hF2, hm2, gd_oYear hG⟩
set_option maxHeartbeats 4000000 in
set_option maxRecDepth 100000 in
theorem law_9 {X : jX} {r i yb n : Nat} {I : HI} {J : HJ} {i0 i1 : Option Nat} {S : SS} (hX : X.1 ≤ 320) (hi : i + 5 ≤ X.1) (hyb : yb ≤ 2 ^ 12) (hL : LI S yb n i0 i1 I J) (hk : LK X r i yb) : Rj X 64 (11 * (r + 1)) (178 * (r + 1)) mL_law LQ 363 [.ref 1200, .ref 0, .ref 33, .int (nI i)] [] n I J (Pg i0 i1) := by
  obtain ⟨hC, hm, hG⟩ := hL
  refine j_less (Nat.mul_le_mul_left 11 (Nat.le_succ r)) (Nat.mul_le_mul_left 178 (Nat.le_succ r)) ?_
  refine j_aload_n dL_law_363 rfl rfl rfl ?_
  refine j_aload_n dL_law_364 rfl rfl rfl ?_
  refine j_iload_n dL_law_365 rfl rfl rfl ?_
  refine j_iconst (v := nI 1) dL_law_366 rfl rfl ?_
  refine j_iaddN (c := i + 1) dL_law_367 rfl rfl ?_
  refine j_sldN (i := i + 1) dL_law_368 rfl (by omega) hX ?_
  refine j_aload_n dL_law_369 rfl rfl rfl ?_
  refine j_iload_n dL_law_370 rfl rfl rfl ?_
  refine j_iconst (v := nI 2) dL_law_371 rfl rfl ?_
  refine j_iaddN (c := i + 2) dL_law_372 rfl rfl ?_
  refine j_sldN (i := i + 2) dL_law_373 rfl (by omega) hX ?_
  refine j_callVw (As := [.int (X.2 (i + 1)), .int (X.2 (i + 2))]) dL_law_374 rfl cL_52 (by decide) rfl rfl (by decide) rfl (by decide) rfl rfl (f_give hC hG.1 hyb (fun n1 j0 j1 I1 J1 hC1 hF1 => ?_))
  show Rj _ _ _ _ _ _ 377 [.ref 1200, .ref 0, .ref 33, .int (nI i)] [.int ((oGive S (X.2 (i + 1)) (X.2 (i + 2))).2)] n1 I1 J1 (Pg j0 j1)
  refine j_aload_n dL_law_377 rfl rfl rfl ?_
  refine j_aload_n dL_law_378 rfl rfl rfl ?_
  refine j_iload_n dL_law_379 rfl rfl rfl ?_
  refine j_iconst (v := nI 1) dL_law_380 rfl rfl ?_
  refine j_iaddN (c := i + 1) dL_law_381 rfl rfl ?_
  refine j_sldN (i := i + 1) dL_law_382 rfl (by omega) hX ?_
  refine j_aload_n dL_law_383 rfl rfl rfl ?_
  refine j_iload_n dL_law_384 rfl rfl rfl ?_
  refine j_iconst (v := nI 2) dL_law_385 rfl rfl ?_
  refine j_iaddN (c := i + 2) dL_law_386 rfl rfl ?_
  refine j_sldN (i := i + 2) dL_law_387 rfl (by omega) hX ?_
  refine j_callVw (As := [.int (X.2 (i + 1)), .int (X.2 (i + 2))]) dL_law_388 rfl cL_55 (by decide) rfl rfl (by decide) rfl (Nat.le_of_ble_eq_true rfl) rfl rfl (g_give (hm.mf hF1) hG.1 hyb (fun I2 J2 hm2 hF2 => ?_))
  show Rj _ _ _ _ _ _ 391 [.ref 1200, .ref 0, .ref 33, .int (nI i)] [.int ((oGive S (X.2 (i + 1)) (X.2 (i + 2))).2), .int ((oGive S (X.2 (i + 1)) (X.2 (i + 2))).2)] n1 I2 J2 (Pg j0 j1)
  refine j_icmpeq (tgt := 984) dL_law_391 rfl rfl (fun h1 => ?_) (fun h1 => by exfalso; exact h1 rfl)
  refine j_iincN (L' := [.ref 1200, .ref 0, .ref 33, .int (nI (i + 5))]) dL_law_984 rfl rfl (b := 5) rfl rfl rfl (by decide) rfl ?_
  refine j_goto (tgt := 18) dL_law_987 rfl ?_
  exact hk _ _ _ _ _ _ ⟨hC1.cf hF2, hm2, gd_oGive hG⟩
set_option maxHeartbeats 4000000 in
set_option maxRecDepth 100000 in
theorem law_10 {X : jX} {r i yb n : Nat} {I : HI} {J : HJ} {i0 i1 : Option Nat} {S : SS} (hX : X.1 ≤ 320) (hi : i + 5 ≤ X.1) (hyb : yb ≤ 2 ^ 12) (hL : LI S yb n i0 i1 I J) (hk : LK X r i yb) : Rj X 64 (11 * (r + 1)) (178 * (r + 1)) mL_law LQ 396 [.ref 1200, .ref 0, .ref 33, .int (nI i)] [] n I J (Pg i0 i1) := by
  obtain ⟨hC, hm, hG⟩ := hL
  refine j_less (Nat.mul_le_mul_left 11 (Nat.le_succ r)) (Nat.mul_le_mul_left 178 (Nat.le_succ r)) ?_
  refine j_aload_n dL_law_396 rfl rfl rfl ?_
  refine j_callVw (As := []) dL_law_397 rfl cL_56 (by decide) rfl rfl (by decide) rfl (by decide) rfl rfl (f_undo hC hG.1 hyb (fun n1 j0 j1 I1 J1 hC1 hF1 => ?_))
  show Rj _ _ _ _ _ _ 400 [.ref 1200, .ref 0, .ref 33, .int (nI i)] [.int ((oUndo S ).2)] n1 I1 J1 (Pg j0 j1)
  refine j_aload_n dL_law_400 rfl rfl rfl ?_
  refine j_callVw (As := []) dL_law_401 rfl cL_59 (by decide) rfl rfl (by decide) rfl (Nat.le_of_ble_eq_true rfl) rfl rfl (g_undo (hm.mf hF1) hG.1 hyb (fun I2 J2 hm2 hF2 => ?_))
  show Rj _ _ _ _ _ _ 404 [.ref 1200, .ref 0, .ref 33, .int (nI i)] [.int ((oUndo S ).2), .int ((oUndo S ).2)] n1 I2 J2 (Pg j0 j1)
  refine j_icmpeq (tgt := 984) dL_law_404 rfl rfl (fun h1 => ?_) (fun h1 => by exfalso; exact h1 rfl)
  refine j_iincN (L' := [.ref 1200, .ref 0, .ref 33, .int (nI (i + 5))]) dL_law_984 rfl rfl (b := 5) rfl rfl rfl (by decide) rfl ?_
  refine j_goto (tgt := 18) dL_law_987 rfl ?_
  exact hk _ _ _ _ _ _ ⟨hC1.cf hF2, hm2, gd_oUndo hG⟩
set_option maxHeartbeats 4000000 in
set_option maxRecDepth 100000 in
theorem law_11 {X : jX} {r i yb n : Nat} {I : HI} {J : HJ} {i0 i1 : Option Nat} {S : SS} (hX : X.1 ≤ 320) (hi : i + 5 ≤ X.1) (hyb : yb ≤ 2 ^ 12) (hL : LI S yb n i0 i1 I J) (hk : LK X r i yb) : Rj X 64 (11 * (r + 1)) (178 * (r + 1)) mL_law LQ 409 [.ref 1200, .ref 0, .ref 33, .int (nI i)] [] n I J (Pg i0 i1) := by
  obtain ⟨hC, hm, hG⟩ := hL
  refine j_less (Nat.mul_le_mul_left 11 (Nat.le_succ r)) (Nat.mul_le_mul_left 178 (Nat.le_succ r)) ?_
  refine j_aload_n dL_law_409 rfl rfl rfl ?_
  refine j_aload_n dL_law_410 rfl rfl rfl ?_
  refine j_iload_n dL_law_411 rfl rfl rfl ?_
  refine j_iconst (v := nI 1) dL_law_412 rfl rfl ?_
  refine j_iaddN (c := i + 1) dL_law_413 rfl rfl ?_
  refine j_sldN (i := i + 1) dL_law_414 rfl (by omega) hX ?_
  refine j_aload_n dL_law_415 rfl rfl rfl ?_
  refine j_iload_n dL_law_416 rfl rfl rfl ?_
  refine j_iconst (v := nI 2) dL_law_417 rfl rfl ?_
  refine j_iaddN (c := i + 2) dL_law_418 rfl rfl ?_
  refine j_sldN (i := i + 2) dL_law_419 rfl (by omega) hX ?_
  refine j_callVw (As := [.int (X.2 (i + 1)), .int (X.2 (i + 2))]) dL_law_420 rfl cL_60 (by decide) rfl rfl (by decide) rfl (by decide) rfl rfl (f_of hC hG.1 hyb (fun n1 j0 j1 I1 J1 hC1 hF1 => ?_))
  show Rj _ _ _ _ _ _ 423 [.ref 1200, .ref 0, .ref 33, .int (nI i)] [.int ((oOf S (X.2 (i + 1)) (X.2 (i + 2))).2)] n1 I1 J1 (Pg j0 j1)
  refine j_aload_n dL_law_423 rfl rfl rfl ?_
  refine j_aload_n dL_law_424 rfl rfl rfl ?_
  refine j_iload_n dL_law_425 rfl rfl rfl ?_
  refine j_iconst (v := nI 1) dL_law_426 rfl rfl ?_
  refine j_iaddN (c := i + 1) dL_law_427 rfl rfl ?_
  refine j_sldN (i := i + 1) dL_law_428 rfl (by omega) hX ?_
  refine j_aload_n dL_law_429 rfl rfl rfl ?_
  refine j_iload_n dL_law_430 rfl rfl rfl ?_
  refine j_iconst (v := nI 2) dL_law_431 rfl rfl ?_
  refine j_iaddN (c := i + 2) dL_law_432 rfl rfl ?_
  refine j_sldN (i := i + 2) dL_law_433 rfl (by omega) hX ?_
  refine j_callVw (As := [.int (X.2 (i + 1)), .int (X.2 (i + 2))]) dL_law_434 rfl cL_63 (by decide) rfl rfl (by decide) rfl (Nat.le_of_ble_eq_true rfl) rfl rfl (g_of (hm.mf hF1) hG.1 hyb (fun I2 J2 hm2 hF2 => ?_))
  show Rj _ _ _ _ _ _ 437 [.ref 1200, .ref 0, .ref 33, .int (nI i)] [.int ((oOf S (X.2 (i + 1)) (X.2 (i + 2))).2), .int ((oOf S (X.2 (i + 1)) (X.2 (i + 2))).2)] n1 I2 J2 (Pg j0 j1)
  refine j_icmpeq (tgt := 984) dL_law_437 rfl rfl (fun h1 => ?_) (fun h1 => by exfalso; exact h1 rfl)
  refine j_iincN (L' := [.ref 1200, .ref 0, .ref 33, .int (nI (i + 5))]) dL_law_984 rfl rfl (b := 5) rfl rfl rfl (by decide) rfl ?_
  refine j_goto (tgt := 18) dL_law_987 rfl ?_
  exact hk _ _ _ _ _ _ ⟨hC1.cf hF2, hm2, gd_oOf hG⟩
set_option maxHeartbeats 4000000 in
set_option maxRecDepth 100000 in
theorem law_12 {X : jX} {r i yb n : Nat} {I : HI} {J : HJ} {i0 i1 : Option Nat} {S : SS} (hX : X.1 ≤ 320) (hi : i + 5 ≤ X.1) (hyb : yb ≤ 2 ^ 12) (hL : LI S yb n i0 i1 I J) (hk : LK X r i yb) : Rj X 64 (11 * (r + 1)) (178 * (r + 1)) mL_law LQ 442 [.ref 1200, .ref 0, .ref 33, .int (nI i)] [] n I J (Pg i0 i1) := by
  obtain ⟨hC, hm, hG⟩ := hL
  refine j_less (Nat.mul_le_mul_left 11 (Nat.le_succ r)) (Nat.mul_le_mul_left 178 (Nat.le_succ r)) ?_
  refine j_aload_n dL_law_442 rfl rfl rfl ?_
  refine j_aload_n dL_law_443 rfl rfl rfl ?_
  refine j_iload_n dL_law_444 rfl rfl rfl ?_
  refine j_iconst (v := nI 1) dL_law_445 rfl rfl ?_
  refine j_iaddN (c := i + 1) dL_law_446 rfl rfl ?_
  refine j_sldN (i := i + 1) dL_law_447 rfl (by omega) hX ?_
  refine j_aload_n dL_law_448 rfl rfl rfl ?_
  refine j_iload_n dL_law_449 rfl rfl rfl ?_
  refine j_iconst (v := nI 2) dL_law_450 rfl rfl ?_
  refine j_iaddN (c := i + 2) dL_law_451 rfl rfl ?_
  refine j_sldN (i := i + 2) dL_law_452 rfl (by omega) hX ?_
  refine j_callVw (As := [.int (X.2 (i + 1)), .int (X.2 (i + 2))]) dL_law_453 rfl cL_64 (by decide) rfl rfl (by decide) rfl (by decide) rfl rfl (f_left hC hG.1 hyb (fun n1 j0 j1 I1 J1 hC1 hF1 => ?_))
  show Rj _ _ _ _ _ _ 456 [.ref 1200, .ref 0, .ref 33, .int (nI i)] [.int ((oLeft S (X.2 (i + 1)) (X.2 (i + 2))).2)] n1 I1 J1 (Pg j0 j1)
  refine j_aload_n dL_law_456 rfl rfl rfl ?_
  refine j_aload_n dL_law_457 rfl rfl rfl ?_
  refine j_iload_n dL_law_458 rfl rfl rfl ?_
  refine j_iconst (v := nI 1) dL_law_459 rfl rfl ?_
  refine j_iaddN (c := i + 1) dL_law_460 rfl rfl ?_
  refine j_sldN (i := i + 1) dL_law_461 rfl (by omega) hX ?_
  refine j_aload_n dL_law_462 rfl rfl rfl ?_
  refine j_iload_n dL_law_463 rfl rfl rfl ?_
  refine j_iconst (v := nI 2) dL_law_464 rfl rfl ?_
  refine j_iaddN (c := i + 2) dL_law_465 rfl rfl ?_
  refine j_sldN (i := i + 2) dL_law_466 rfl (by omega) hX ?_
  refine j_callVw (As := [.int (X.2 (i + 1)), .int (X.2 (i + 2))]) dL_law_467 rfl cL_67 (by decide) rfl rfl (by decide) rfl (Nat.le_of_ble_eq_true rfl) rfl rfl (g_left (hm.mf hF1) hG.1 hyb (fun I2 J2 hm2 hF2 => ?_))
  show Rj _ _ _ _ _ _ 470 [.ref 1200, .ref 0, .ref 33, .int (nI i)] [.int ((oLeft S (X.2 (i + 1)) (X.2 (i + 2))).2), .int ((oLeft S (X.2 (i + 1)) (X.2 (i + 2))).2)] n1 I2 J2 (Pg j0 j1)
  refine j_icmpeq (tgt := 984) dL_law_470 rfl rfl (fun h1 => ?_) (fun h1 => by exfalso; exact h1 rfl)
  refine j_iincN (L' := [.ref 1200, .ref 0, .ref 33, .int (nI (i + 5))]) dL_law_984 rfl rfl (b := 5) rfl rfl rfl (by decide) rfl ?_
  refine j_goto (tgt := 18) dL_law_987 rfl ?_
  exact hk _ _ _ _ _ _ ⟨hC1.cf hF2, hm2, gd_oLeft hG⟩
set_option maxHeartbeats 4000000 in
set_option maxRecDepth 100000 in
theorem law_13 {X : jX} {r i yb n : Nat} {I : HI} {J : HJ} {i0 i1 : Option Nat} {S : SS} (hX : X.1 ≤ 320) (hi : i + 5 ≤ X.1) (hyb : yb ≤ 2 ^ 12) (hL : LI S yb n i0 i1 I J) (hk : LK X r i yb) : Rj X 64 (11 * (r + 1)) (178 * (r + 1)) mL_law LQ 475 [.ref 1200, .ref 0, .ref 33, .int (nI i)] [] n I J (Pg i0 i1) := by
  obtain ⟨hC, hm, hG⟩ := hL
  refine j_less (Nat.mul_le_mul_left 11 (Nat.le_succ r)) (Nat.mul_le_mul_left 178 (Nat.le_succ r)) ?_
  refine j_aload_n dL_law_475 rfl rfl rfl ?_
  refine j_aload_n dL_law_476 rfl rfl rfl ?_
  refine j_iload_n dL_law_477 rfl rfl rfl ?_
  refine j_iconst (v := nI 1) dL_law_478 rfl rfl ?_
  refine j_iaddN (c := i + 1) dL_law_479 rfl rfl ?_
  refine j_sldN (i := i + 1) dL_law_480 rfl (by omega) hX ?_
  refine j_callVw (As := [.int (X.2 (i + 1))]) dL_law_481 rfl cL_68 (by decide) rfl rfl (by decide) rfl (by decide) rfl rfl (f_till hC hG.1 hyb (fun n1 j0 j1 I1 J1 hC1 hF1 => ?_))
  show Rj _ _ _ _ _ _ 484 [.ref 1200, .ref 0, .ref 33, .int (nI i)] [.int ((oTill S (X.2 (i + 1))).2)] n1 I1 J1 (Pg j0 j1)
  refine j_aload_n dL_law_484 rfl rfl rfl ?_
  refine j_aload_n dL_law_485 rfl rfl rfl ?_
  refine j_iload_n dL_law_486 rfl rfl rfl ?_
  refine j_iconst (v := nI 1) dL_law_487 rfl rfl ?_
  refine j_iaddN (c := i + 1) dL_law_488 rfl rfl ?_
  refine j_sldN (i := i + 1) dL_law_489 rfl (by omega) hX ?_
  refine j_callVw (As := [.int (X.2 (i + 1))]) dL_law_490 rfl cL_71 (by decide) rfl rfl (by decide) rfl (Nat.le_of_ble_eq_true rfl) rfl rfl (g_till (hm.mf hF1) hG.1 hyb (fun I2 J2 hm2 hF2 => ?_))
  show Rj _ _ _ _ _ _ 493 [.ref 1200, .ref 0, .ref 33, .int (nI i)] [.int ((oTill S (X.2 (i + 1))).2), .int ((oTill S (X.2 (i + 1))).2)] n1 I2 J2 (Pg j0 j1)
  refine j_icmpeq (tgt := 984) dL_law_493 rfl rfl (fun h1 => ?_) (fun h1 => by exfalso; exact h1 rfl)
  refine j_iincN (L' := [.ref 1200, .ref 0, .ref 33, .int (nI (i + 5))]) dL_law_984 rfl rfl (b := 5) rfl rfl rfl (by decide) rfl ?_
  refine j_goto (tgt := 18) dL_law_987 rfl ?_
  exact hk _ _ _ _ _ _ ⟨hC1.cf hF2, hm2, gd_oTill hG⟩
set_option maxHeartbeats 4000000 in
set_option maxRecDepth 100000 in
theorem law_14 {X : jX} {r i yb n : Nat} {I : HI} {J : HJ} {i0 i1 : Option Nat} {S : SS} (hX : X.1 ≤ 320) (hi : i + 5 ≤ X.1) (hyb : yb ≤ 2 ^ 12) (hL : LI S yb n i0 i1 I J) (hk : LK X r i yb) : Rj X 64 (11 * (r + 1)) (178 * (r + 1)) mL_law LQ 498 [.ref 1200, .ref 0, .ref 33, .int (nI i)] [] n I J (Pg i0 i1) := by
  obtain ⟨hC, hm, hG⟩ := hL
  refine j_less (Nat.mul_le_mul_left 11 (Nat.le_succ r)) (Nat.mul_le_mul_left 178 (Nat.le_succ r)) ?_
  refine j_aload_n dL_law_498 rfl rfl rfl ?_
  refine j_aload_n dL_law_499 rfl rfl rfl ?_
  refine j_iload_n dL_law_500 rfl rfl rfl ?_
  refine j_iconst (v := nI 1) dL_law_501 rfl rfl ?_
  refine j_iaddN (c := i + 1) dL_law_502 rfl rfl ?_
  refine j_sldN (i := i + 1) dL_law_503 rfl (by omega) hX ?_
  refine j_callVw (As := [.int (X.2 (i + 1))]) dL_law_504 rfl cL_72 (by decide) rfl rfl (by decide) rfl (by decide) rfl rfl (f_together hC hG.1 hyb (fun n1 j0 j1 I1 J1 hC1 hF1 => ?_))
  show Rj _ _ _ _ _ _ 507 [.ref 1200, .ref 0, .ref 33, .int (nI i)] [.int ((oTog S (X.2 (i + 1))).2)] n1 I1 J1 (Pg j0 j1)
  refine j_aload_n dL_law_507 rfl rfl rfl ?_
  refine j_aload_n dL_law_508 rfl rfl rfl ?_
  refine j_iload_n dL_law_509 rfl rfl rfl ?_
  refine j_iconst (v := nI 1) dL_law_510 rfl rfl ?_
  refine j_iaddN (c := i + 1) dL_law_511 rfl rfl ?_
  refine j_sldN (i := i + 1) dL_law_512 rfl (by omega) hX ?_
  refine j_callVw (As := [.int (X.2 (i + 1))]) dL_law_513 rfl cL_75 (by decide) rfl rfl (by decide) rfl (Nat.le_of_ble_eq_true rfl) rfl rfl (g_together (hm.mf hF1) hG.1 hyb (fun I2 J2 hm2 hF2 => ?_))
  show Rj _ _ _ _ _ _ 516 [.ref 1200, .ref 0, .ref 33, .int (nI i)] [.int ((oTog S (X.2 (i + 1))).2), .int ((oTog S (X.2 (i + 1))).2)] n1 I2 J2 (Pg j0 j1)
  refine j_icmpeq (tgt := 984) dL_law_516 rfl rfl (fun h1 => ?_) (fun h1 => by exfalso; exact h1 rfl)
  refine j_iincN (L' := [.ref 1200, .ref 0, .ref 33, .int (nI (i + 5))]) dL_law_984 rfl rfl (b := 5) rfl rfl rfl (by decide) rfl ?_
  refine j_goto (tgt := 18) dL_law_987 rfl ?_
  exact hk _ _ _ _ _ _ ⟨hC1.cf hF2, hm2, gd_oTog hG⟩
set_option maxHeartbeats 4000000 in
set_option maxRecDepth 100000 in
theorem law_15 {X : jX} {r i yb n : Nat} {I : HI} {J : HJ} {i0 i1 : Option Nat} {S : SS} (hX : X.1 ≤ 320) (hi : i + 5 ≤ X.1) (hyb : yb ≤ 2 ^ 12) (hL : LI S yb n i0 i1 I J) (hk : LK X r i yb) : Rj X 64 (11 * (r + 1)) (178 * (r + 1)) mL_law LQ 521 [.ref 1200, .ref 0, .ref 33, .int (nI i)] [] n I J (Pg i0 i1) := by
  obtain ⟨hC, hm, hG⟩ := hL
  refine j_less (Nat.mul_le_mul_left 11 (Nat.le_succ r)) (Nat.mul_le_mul_left 178 (Nat.le_succ r)) ?_
  refine j_aload_n dL_law_521 rfl rfl rfl ?_
  refine j_aload_n dL_law_522 rfl rfl rfl ?_
  refine j_iload_n dL_law_523 rfl rfl rfl ?_
  refine j_iconst (v := nI 1) dL_law_524 rfl rfl ?_
  refine j_iaddN (c := i + 1) dL_law_525 rfl rfl ?_
  refine j_sldN (i := i + 1) dL_law_526 rfl (by omega) hX ?_
  refine j_aload_n dL_law_527 rfl rfl rfl ?_
  refine j_iload_n dL_law_528 rfl rfl rfl ?_
  refine j_iconst (v := nI 2) dL_law_529 rfl rfl ?_
  refine j_iaddN (c := i + 2) dL_law_530 rfl rfl ?_
  refine j_sldN (i := i + 2) dL_law_531 rfl (by omega) hX ?_
  refine j_aload_n dL_law_532 rfl rfl rfl ?_
  refine j_iload_n dL_law_533 rfl rfl rfl ?_
  refine j_iconst (v := nI 3) dL_law_534 rfl rfl ?_
  refine j_iaddN (c := i + 3) dL_law_535 rfl rfl ?_
  refine j_sldN (i := i + 3) dL_law_536 rfl (by omega) hX ?_
  refine j_aload_n dL_law_537 rfl rfl rfl ?_
  refine j_iload_n dL_law_538 rfl rfl rfl ?_
  refine j_iconst (v := nI 4) dL_law_539 rfl rfl ?_
  refine j_iaddN (c := i + 4) dL_law_540 rfl rfl ?_
  refine j_sldN (i := i + 4) dL_law_541 rfl (by omega) hX ?_
  refine j_callVw (As := [.int (X.2 (i + 1)), .int (X.2 (i + 2)), .int (X.2 (i + 3)), .int (X.2 (i + 4))]) dL_law_542 rfl cL_76 (by decide) rfl rfl (by decide) rfl (by decide) rfl rfl (f_gifts hC hG.1 hyb (fun n1 j0 j1 I1 J1 hC1 hF1 => ?_))
  show Rj _ _ _ _ _ _ 545 [.ref 1200, .ref 0, .ref 33, .int (nI i)] [.int ((oGifts S (X.2 (i + 1)) (X.2 (i + 2)) (X.2 (i + 3)) (X.2 (i + 4))).2)] n1 I1 J1 (Pg j0 j1)
  refine j_aload_n dL_law_545 rfl rfl rfl ?_
  refine j_aload_n dL_law_546 rfl rfl rfl ?_
  refine j_iload_n dL_law_547 rfl rfl rfl ?_
  refine j_iconst (v := nI 1) dL_law_548 rfl rfl ?_
  refine j_iaddN (c := i + 1) dL_law_549 rfl rfl ?_
  refine j_sldN (i := i + 1) dL_law_550 rfl (by omega) hX ?_
  refine j_aload_n dL_law_551 rfl rfl rfl ?_
  refine j_iload_n dL_law_552 rfl rfl rfl ?_
  refine j_iconst (v := nI 2) dL_law_553 rfl rfl ?_
  refine j_iaddN (c := i + 2) dL_law_554 rfl rfl ?_
  refine j_sldN (i := i + 2) dL_law_555 rfl (by omega) hX ?_
  refine j_aload_n dL_law_556 rfl rfl rfl ?_
  refine j_iload_n dL_law_557 rfl rfl rfl ?_
  refine j_iconst (v := nI 3) dL_law_558 rfl rfl ?_
  refine j_iaddN (c := i + 3) dL_law_559 rfl rfl ?_
  refine j_sldN (i := i + 3) dL_law_560 rfl (by omega) hX ?_
  refine j_aload_n dL_law_561 rfl rfl rfl ?_
  refine j_iload_n dL_law_562 rfl rfl rfl ?_
  refine j_iconst (v := nI 4) dL_law_563 rfl rfl ?_
  refine j_iaddN (c := i + 4) dL_law_564 rfl rfl ?_
  refine j_sldN (i := i + 4) dL_law_565 rfl (by omega) hX ?_
  refine j_callVw (As := [.int (X.2 (i + 1)), .int (X.2 (i + 2)), .int (X.2 (i + 3)), .int (X.2 (i + 4))]) dL_law_566 rfl cL_80 (by decide) rfl rfl (by decide) rfl (Nat.le_of_ble_eq_true rfl) rfl rfl (g_gifts (hm.mf hF1) hG.1 hyb (fun I2 J2 hm2 hF2 => ?_))
  show Rj _ _ _ _ _ _ 569 [.ref 1200, .ref 0, .ref 33, .int (nI i)] [.int ((oGifts S (X.2 (i + 1)) (X.2 (i + 2)) (X.2 (i + 3)) (X.2 (i + 4))).2), .int ((oGifts S (X.2 (i + 1)) (X.2 (i + 2)) (X.2 (i + 3)) (X.2 (i + 4))).2)] n1 I2 J2 (Pg j0 j1)
  refine j_icmpeq (tgt := 984) dL_law_569 rfl rfl (fun h1 => ?_) (fun h1 => by exfalso; exact h1 rfl)
  refine j_iincN (L' := [.ref 1200, .ref 0, .ref 33, .int (nI (i + 5))]) dL_law_984 rfl rfl (b := 5) rfl rfl rfl (by decide) rfl ?_
  refine j_goto (tgt := 18) dL_law_987 rfl ?_
  exact hk _ _ _ _ _ _ ⟨hC1.cf hF2, hm2, gd_oGifts hG⟩
set_option maxHeartbeats 4000000 in
set_option maxRecDepth 100000 in
theorem law_16 {X : jX} {r i yb n : Nat} {I : HI} {J : HJ} {i0 i1 : Option Nat} {S : SS} (hX : X.1 ≤ 320) (hi : i + 5 ≤ X.1) (hyb : yb ≤ 2 ^ 12) (hL : LI S yb n i0 i1 I J) (hk : LK X r i yb) : Rj X 64 (11 * (r + 1)) (178 * (r + 1)) mL_law LQ 574 [.ref 1200, .ref 0, .ref 33, .int (nI i)] [] n I J (Pg i0 i1) := by
  obtain ⟨hC, hm, hG⟩ := hL
  refine j_less (Nat.mul_le_mul_left 11 (Nat.le_succ r)) (Nat.mul_le_mul_left 178 (Nat.le_succ r)) ?_
  refine j_aload_n dL_law_574 rfl rfl rfl ?_
  refine j_aload_n dL_law_575 rfl rfl rfl ?_
  refine j_iload_n dL_law_576 rfl rfl rfl ?_
  refine j_iconst (v := nI 1) dL_law_577 rfl rfl ?_
  refine j_iaddN (c := i + 1) dL_law_578 rfl rfl ?_
  refine j_sldN (i := i + 1) dL_law_579 rfl (by omega) hX ?_
  refine j_callVw (As := [.int (X.2 (i + 1))]) dL_law_580 rfl cL_81 (by decide) rfl rfl (by decide) rfl (by decide) rfl rfl (f_drought hC hG.1 hyb (fun n1 j0 j1 I1 J1 hC1 hF1 => ?_))
  show Rj _ _ _ _ _ _ 583 [.ref 1200, .ref 0, .ref 33, .int (nI i)] [.int ((oDrt S (X.2 (i + 1))).2)] n1 I1 J1 (Pg j0 j1)
  refine j_aload_n dL_law_583 rfl rfl rfl ?_
  refine j_aload_n dL_law_584 rfl rfl rfl ?_
  refine j_iload_n dL_law_585 rfl rfl rfl ?_
  refine j_iconst (v := nI 1) dL_law_586 rfl rfl ?_
  refine j_iaddN (c := i + 1) dL_law_587 rfl rfl ?_
  refine j_sldN (i := i + 1) dL_law_588 rfl (by omega) hX ?_
  refine j_callVw (As := [.int (X.2 (i + 1))]) dL_law_589 rfl cL_84 (by decide) rfl rfl (by decide) rfl (Nat.le_of_ble_eq_true rfl) rfl rfl (g_drought (hm.mf hF1) hG.1 hyb (fun I2 J2 hm2 hF2 => ?_))
  show Rj _ _ _ _ _ _ 592 [.ref 1200, .ref 0, .ref 33, .int (nI i)] [.int ((oDrt S (X.2 (i + 1))).2), .int ((oDrt S (X.2 (i + 1))).2)] n1 I2 J2 (Pg j0 j1)
  refine j_icmpeq (tgt := 984) dL_law_592 rfl rfl (fun h1 => ?_) (fun h1 => by exfalso; exact h1 rfl)
  refine j_iincN (L' := [.ref 1200, .ref 0, .ref 33, .int (nI (i + 5))]) dL_law_984 rfl rfl (b := 5) rfl rfl rfl (by decide) rfl ?_
  refine j_goto (tgt := 18) dL_law_987 rfl ?_
  exact hk _ _ _ _ _ _ ⟨hC1.cf hF2, hm2, gd_oDrt hG⟩
set_option maxHeartbeats 4000000 in
set_option maxRecDepth 100000 in
theorem law_17 {X : jX} {r i yb n : Nat} {I : HI} {J : HJ} {i0 i1 : Option Nat} {S : SS} (hX : X.1 ≤ 320) (hi : i + 5 ≤ X.1) (hyb : yb ≤ 2 ^ 12) (hL : LI S yb n i0 i1 I J) (hk : LK X r i yb) : Rj X 64 (11 * (r + 1)) (178 * (r + 1)) mL_law LQ 597 [.ref 1200, .ref 0, .ref 33, .int (nI i)] [] n I J (Pg i0 i1) := by
  obtain ⟨hC, hm, hG⟩ := hL
  refine j_less (Nat.mul_le_mul_left 11 (Nat.le_succ r)) (Nat.mul_le_mul_left 178 (Nat.le_succ r)) ?_
  refine j_aload_n dL_law_597 rfl rfl rfl ?_
  refine j_aload_n dL_law_598 rfl rfl rfl ?_
  refine j_iload_n dL_law_599 rfl rfl rfl ?_
  refine j_iconst (v := nI 1) dL_law_600 rfl rfl ?_
  refine j_iaddN (c := i + 1) dL_law_601 rfl rfl ?_
  refine j_sldN (i := i + 1) dL_law_602 rfl (by omega) hX ?_
  refine j_aload_n dL_law_603 rfl rfl rfl ?_
  refine j_iload_n dL_law_604 rfl rfl rfl ?_
  refine j_iconst (v := nI 2) dL_law_605 rfl rfl ?_
  refine j_iaddN (c := i + 2) dL_law_606 rfl rfl ?_
  refine j_sldN (i := i + 2) dL_law_607 rfl (by omega) hX ?_
  refine j_aload_n dL_law_608 rfl rfl rfl ?_
  refine j_iload_n dL_law_609 rfl rfl rfl ?_
  refine j_iconst (v := nI 3) dL_law_610 rfl rfl ?_
  refine j_iaddN (c := i + 3) dL_law_611 rfl rfl ?_
  refine j_sldN (i := i + 3) dL_law_612 rfl (by omega) hX ?_
  refine j_callVw (As := [.int (X.2 (i + 1)), .int (X.2 (i + 2)), .int (X.2 (i + 3))]) dL_law_613 rfl cL_85 (by decide) rfl rfl (by decide) rfl (by decide) rfl rfl (f_counted hC hG.1 hyb (fun n1 j0 j1 I1 J1 hC1 hF1 => ?_))
  show Rj _ _ _ _ _ _ 616 [.ref 1200, .ref 0, .ref 33, .int (nI i)] [.int ((oCnt S (X.2 (i + 1)) (X.2 (i + 2)) (X.2 (i + 3))).2)] n1 I1 J1 (Pg j0 j1)
  refine j_aload_n dL_law_616 rfl rfl rfl ?_
  refine j_aload_n dL_law_617 rfl rfl rfl ?_
  refine j_iload_n dL_law_618 rfl rfl rfl ?_
  refine j_iconst (v := nI 1) dL_law_619 rfl rfl ?_
  refine j_iaddN (c := i + 1) dL_law_620 rfl rfl ?_
  refine j_sldN (i := i + 1) dL_law_621 rfl (by omega) hX ?_
  refine j_aload_n dL_law_622 rfl rfl rfl ?_
  refine j_iload_n dL_law_623 rfl rfl rfl ?_
  refine j_iconst (v := nI 2) dL_law_624 rfl rfl ?_
  refine j_iaddN (c := i + 2) dL_law_625 rfl rfl ?_
  refine j_sldN (i := i + 2) dL_law_626 rfl (by omega) hX ?_
  refine j_aload_n dL_law_627 rfl rfl rfl ?_
  refine j_iload_n dL_law_628 rfl rfl rfl ?_
  refine j_iconst (v := nI 3) dL_law_629 rfl rfl ?_
  refine j_iaddN (c := i + 3) dL_law_630 rfl rfl ?_
  refine j_sldN (i := i + 3) dL_law_631 rfl (by omega) hX ?_
  refine j_callVw (As := [.int (X.2 (i + 1)), .int (X.2 (i + 2)), .int (X.2 (i + 3))]) dL_law_632 rfl cL_89 (by decide) rfl rfl (by decide) rfl (Nat.le_of_ble_eq_true rfl) rfl rfl (g_counted (hm.mf hF1) hG.1 hyb (fun I2 J2 hm2 hF2 => ?_))
  show Rj _ _ _ _ _ _ 635 [.ref 1200, .ref 0, .ref 33, .int (nI i)] [.int ((oCnt S (X.2 (i + 1)) (X.2 (i + 2)) (X.2 (i + 3))).2), .int ((oCnt S (X.2 (i + 1)) (X.2 (i + 2)) (X.2 (i + 3))).2)] n1 I2 J2 (Pg j0 j1)
  refine j_icmpeq (tgt := 984) dL_law_635 rfl rfl (fun h1 => ?_) (fun h1 => by exfalso; exact h1 rfl)
  refine j_iincN (L' := [.ref 1200, .ref 0, .ref 33, .int (nI (i + 5))]) dL_law_984 rfl rfl (b := 5) rfl rfl rfl (by decide) rfl ?_
  refine j_goto (tgt := 18) dL_law_987 rfl ?_
  exact hk _ _ _ _ _ _ ⟨hC1.cf hF2, hm2, gd_oCnt hG⟩
set_option maxHeartbeats 4000000 in
set_option maxRecDepth 100000 in
theorem law_18 {X : jX} {r i yb n : Nat} {I : HI} {J : HJ} {i0 i1 : Option Nat} {S : SS} (hX : X.1 ≤ 320) (hi : i + 5 ≤ X.1) (hyb : yb ≤ 2 ^ 12) (hL : LI S yb n i0 i1 I J) (hk : LK X r i yb) : Rj X 64 (11 * (r + 1)) (178 * (r + 1)) mL_law LQ 640 [.ref 1200, .ref 0, .ref 33, .int (nI i)] [] n I J (Pg i0 i1) := by
  obtain ⟨hC, hm, hG⟩ := hL
  refine j_less (Nat.mul_le_mul_left 11 (Nat.le_succ r)) (Nat.mul_le_mul_left 178 (Nat.le_succ r)) ?_
  refine j_aload_n dL_law_640 rfl rfl rfl ?_
  refine j_callVw (As := []) dL_law_641 rfl cL_90 (by decide) rfl rfl (by decide) rfl (by decide) rfl rfl (f_forget hC hG.1 hyb (fun n1 j0 j1 I1 J1 hC1 hF1 => ?_))
  show Rj _ _ _ _ _ _ 644 [.ref 1200, .ref 0, .ref 33, .int (nI i)] [.int ((oForget S ).2)] n1 I1 J1 (Pg j0 j1)
  refine j_aload_n dL_law_644 rfl rfl rfl ?_
  refine j_callVw (As := []) dL_law_645 rfl cL_93 (by decide) rfl rfl (by decide) rfl (Nat.le_of_ble_eq_true rfl) rfl rfl (g_forget (hm.mf hF1) hG.1 hyb (fun I2 J2 hm2 hF2 => ?_))
  show Rj _ _ _ _ _ _ 648 [.ref 1200, .ref 0, .ref 33, .int (nI i)] [.int ((oForget S ).2), .int ((oForget S ).2)] n1 I2 J2 (Pg j0 j1)
  refine j_icmpeq (tgt := 984) dL_law_648 rfl rfl (fun h1 => ?_) (fun h1 => by exfalso; exact h1 rfl)
  refine j_iincN (L' := [.ref 1200, .ref 0, .ref 33, .int (nI (i + 5))]) dL_law_984 rfl rfl (b := 5) rfl rfl rfl (by decide) rfl ?_
  refine j_goto (tgt := 18) dL_law_987 rfl ?_
  exact hk _ _ _ _ _ _ ⟨hC1.cf hF2, hm2, gd_oForget hG⟩
set_option maxHeartbeats 4000000 in
set_option maxRecDepth 100000 in
theorem law_19 {X : jX} {r i yb n : Nat} {I : HI} {J : HJ} {i0 i1 : Option Nat} {S : SS} (hX : X.1 ≤ 320) (hi : i + 5 ≤ X.1) (hyb : yb ≤ 2 ^ 12) (hL : LI S yb n i0 i1 I J) (hk : LK X r i yb) : Rj X 64 (11 * (r + 1)) (178 * (r + 1)) mL_law LQ 653 [.ref 1200, .ref 0, .ref 33, .int (nI i)] [] n I J (Pg i0 i1) := by
  obtain ⟨hC, hm, hG⟩ := hL
  refine j_less (Nat.mul_le_mul_left 11 (Nat.le_succ r)) (Nat.mul_le_mul_left 178 (Nat.le_succ r)) ?_
  refine j_aload_n dL_law_653 rfl rfl rfl ?_
  refine j_aload_n dL_law_654 rfl rfl rfl ?_
  refine j_iload_n dL_law_655 rfl rfl rfl ?_
  refine j_iconst (v := nI 1) dL_law_656 rfl rfl ?_
  refine j_iaddN (c := i + 1) dL_law_657 rfl rfl ?_
  refine j_sldN (i := i + 1) dL_law_658 rfl (by omega) hX ?_
  refine j_callVw (As := [.int (X.2 (i + 1))]) dL_law_659 rfl cL_94 (by decide) rfl rfl (by decide) rfl (by decide) rfl rfl (f_is hC hG.1 hyb (fun n1 j0 j1 I1 J1 hC1 hF1 => ?_))
  show Rj _ _ _ _ _ _ 662 [.ref 1200, .ref 0, .ref 33, .int (nI i)] [.int ((oIs S (X.2 (i + 1))).2)] n1 I1 J1 (Pg j0 j1)
  refine j_aload_n dL_law_662 rfl rfl rfl ?_
  refine j_aload_n dL_law_663 rfl rfl rfl ?_
  refine j_iload_n dL_law_664 rfl rfl rfl ?_
  refine j_iconst (v := nI 1) dL_law_665 rfl rfl ?_
  refine j_iaddN (c := i + 1) dL_law_666 rfl rfl ?_
  refine j_sldN (i := i + 1) dL_law_667 rfl (by omega) hX ?_
  refine j_callVw (As := [.int (X.2 (i + 1))]) dL_law_668 rfl cL_97 (by decide) rfl rfl (by decide) rfl (Nat.le_of_ble_eq_true rfl) rfl rfl (g_is (hm.mf hF1) hG.1 hyb (fun I2 J2 hm2 hF2 => ?_))
  show Rj _ _ _ _ _ _ 671 [.ref 1200, .ref 0, .ref 33, .int (nI i)] [.int ((oIs S (X.2 (i + 1))).2), .int ((oIs S (X.2 (i + 1))).2)] n1 I2 J2 (Pg j0 j1)
  refine j_icmpeq (tgt := 984) dL_law_671 rfl rfl (fun h1 => ?_) (fun h1 => by exfalso; exact h1 rfl)
  refine j_iincN (L' := [.ref 1200, .ref 0, .ref 33, .int (nI (i + 5))]) dL_law_984 rfl rfl (b := 5) rfl rfl rfl (by decide) rfl ?_
  refine j_goto (tgt := 18) dL_law_987 rfl ?_
  exact hk _ _ _ _ _ _ ⟨hC1.cf hF2, hm2, gd_oIs hG⟩
set_option maxHeartbeats 4000000 in
set_option maxRecDepth 100000 in
theorem law_20 {X : jX} {r i yb n : Nat} {I : HI} {J : HJ} {i0 i1 : Option Nat} {S : SS} (hX : X.1 ≤ 320) (hi : i + 5 ≤ X.1) (hyb : yb ≤ 2 ^ 12) (hL : LI S yb n i0 i1 I J) (hk : LK X r i yb) : Rj X 64 (11 * (r + 1)) (178 * (r + 1)) mL_law LQ 676 [.ref 1200, .ref 0, .ref 33, .int (nI i)] [] n I J (Pg i0 i1) := by
  obtain ⟨hC, hm, hG⟩ := hL
  refine j_less (Nat.mul_le_mul_left 11 (Nat.le_succ r)) (Nat.mul_le_mul_left 178 (Nat.le_succ r)) ?_
  refine j_aload_n dL_law_676 rfl rfl rfl ?_
  refine j_aload_n dL_law_677 rfl rfl rfl ?_
  refine j_iload_n dL_law_678 rfl rfl rfl ?_
  refine j_iconst (v := nI 1) dL_law_679 rfl rfl ?_
  refine j_iaddN (c := i + 1) dL_law_680 rfl rfl ?_
  refine j_sldN (i := i + 1) dL_law_681 rfl (by omega) hX ?_
  refine j_callVw (As := [.int (X.2 (i + 1))]) dL_law_682 rfl cL_98 (by decide) rfl rfl (by decide) rfl (by decide) rfl rfl (f_next hC hG.1 hyb (fun n1 j0 j1 I1 J1 hC1 hF1 => ?_))
  show Rj _ _ _ _ _ _ 685 [.ref 1200, .ref 0, .ref 33, .int (nI i)] [.int ((oNext S (X.2 (i + 1))).2)] n1 I1 J1 (Pg j0 j1)
  refine j_aload_n dL_law_685 rfl rfl rfl ?_
  refine j_aload_n dL_law_686 rfl rfl rfl ?_
  refine j_iload_n dL_law_687 rfl rfl rfl ?_
  refine j_iconst (v := nI 1) dL_law_688 rfl rfl ?_
  refine j_iaddN (c := i + 1) dL_law_689 rfl rfl ?_
  refine j_sldN (i := i + 1) dL_law_690 rfl (by omega) hX ?_
  refine j_callVw (As := [.int (X.2 (i + 1))]) dL_law_691 rfl cL_101 (by decide) rfl rfl (by decide) rfl (Nat.le_of_ble_eq_true rfl) rfl rfl (g_next (hm.mf hF1) hG.1 hyb (fun I2 J2 hm2 hF2 => ?_))
  show Rj _ _ _ _ _ _ 694 [.ref 1200, .ref 0, .ref 33, .int (nI i)] [.int ((oNext S (X.2 (i + 1))).2), .int ((oNext S (X.2 (i + 1))).2)] n1 I2 J2 (Pg j0 j1)
  refine j_icmpeq (tgt := 984) dL_law_694 rfl rfl (fun h1 => ?_) (fun h1 => by exfalso; exact h1 rfl)
  refine j_iincN (L' := [.ref 1200, .ref 0, .ref 33, .int (nI (i + 5))]) dL_law_984 rfl rfl (b := 5) rfl rfl rfl (by decide) rfl ?_
  refine j_goto (tgt := 18) dL_law_987 rfl ?_
  exact hk _ _ _ _ _ _ ⟨hC1.cf hF2, hm2, gd_oNext hG⟩
set_option maxHeartbeats 4000000 in
set_option maxRecDepth 100000 in
theorem law_21 {X : jX} {r i yb n : Nat} {I : HI} {J : HJ} {i0 i1 : Option Nat} {S : SS} (hX : X.1 ≤ 320) (hi : i + 5 ≤ X.1) (hyb : yb ≤ 2 ^ 12) (hL : LI S yb n i0 i1 I J) (hk : LK X r i yb) : Rj X 64 (11 * (r + 1)) (178 * (r + 1)) mL_law LQ 699 [.ref 1200, .ref 0, .ref 33, .int (nI i)] [] n I J (Pg i0 i1) := by
  obtain ⟨hC, hm, hG⟩ := hL
  refine j_less (Nat.mul_le_mul_left 11 (Nat.le_succ r)) (Nat.mul_le_mul_left 178 (Nat.le_succ r)) ?_
  refine j_aload_n dL_law_699 rfl rfl rfl ?_
  refine j_aload_n dL_law_700 rfl rfl rfl ?_
  refine j_iload_n dL_law_701 rfl rfl rfl ?_
  refine j_iconst (v := nI 1) dL_law_702 rfl rfl ?_
  refine j_iaddN (c := i + 1) dL_law_703 rfl rfl ?_
  refine j_sldN (i := i + 1) dL_law_704 rfl (by omega) hX ?_
  refine j_callVw (As := [.int (X.2 (i + 1))]) dL_law_705 rfl cL_102 (by decide) rfl rfl (by decide) rfl (by decide) rfl rfl (f_swapped hC hG.1 hyb (fun n1 j0 j1 I1 J1 hC1 hF1 => ?_))
  show Rj _ _ _ _ _ _ 708 [.ref 1200, .ref 0, .ref 33, .int (nI i)] [.int ((oSwap S (X.2 (i + 1))).2)] n1 I1 J1 (Pg j0 j1)
  refine j_aload_n dL_law_708 rfl rfl rfl ?_
  refine j_aload_n dL_law_709 rfl rfl rfl ?_
  refine j_iload_n dL_law_710 rfl rfl rfl ?_
  refine j_iconst (v := nI 1) dL_law_711 rfl rfl ?_
  refine j_iaddN (c := i + 1) dL_law_712 rfl rfl ?_
  refine j_sldN (i := i + 1) dL_law_713 rfl (by omega) hX ?_
  refine j_callVw (As := [.int (X.2 (i + 1))]) dL_law_714 rfl cL_105 (by decide) rfl rfl (by decide) rfl (Nat.le_of_ble_eq_true rfl) rfl rfl (g_swapped (hm.mf hF1) hG.1 hyb (fun I2 J2 hm2 hF2 => ?_))
  show Rj _ _ _ _ _ _ 717 [.ref 1200, .ref 0, .ref 33, .int (nI i)] [.int ((oSwap S (X.2 (i + 1))).2), .int ((oSwap S (X.2 (i + 1))).2)] n1 I2 J2 (Pg j0 j1)
  refine j_icmpeq (tgt := 984) dL_law_717 rfl rfl (fun h1 => ?_) (fun h1 => by exfalso; exact h1 rfl)
  refine j_iincN (L' := [.ref 1200, .ref 0, .ref 33, .int (nI (i + 5))]) dL_law_984 rfl rfl (b := 5) rfl rfl rfl (by decide) rfl ?_
  refine j_goto (tgt := 18) dL_law_987 rfl ?_
  exact hk _ _ _ _ _ _ ⟨hC1.cf hF2, hm2, gd_oSwap hG⟩
set_option maxHeartbeats 4000000 in
set_option maxRecDepth 100000 in
theorem law_22 {X : jX} {r i yb n : Nat} {I : HI} {J : HJ} {i0 i1 : Option Nat} {S : SS} (hX : X.1 ≤ 320) (hi : i + 5 ≤ X.1) (hyb : yb ≤ 2 ^ 12) (hL : LI S yb n i0 i1 I J) (hk : LK X r i yb) : Rj X 64 (11 * (r + 1)) (178 * (r + 1)) mL_law LQ 722 [.ref 1200, .ref 0, .ref 33, .int (nI i)] [] n I J (Pg i0 i1) := by
  obtain ⟨hC, hm, hG⟩ := hL
  refine j_less (Nat.mul_le_mul_left 11 (Nat.le_succ r)) (Nat.mul_le_mul_left 178 (Nat.le_succ r)) ?_
  refine j_aload_n dL_law_722 rfl rfl rfl ?_
  refine j_callVw (As := []) dL_law_723 rfl cL_106 (by decide) rfl rfl (by decide) rfl (by decide) rfl rfl (f_back hC hG.1 hyb (fun n1 j0 j1 I1 J1 hC1 hF1 => ?_))
  show Rj _ _ _ _ _ _ 726 [.ref 1200, .ref 0, .ref 33, .int (nI i)] [.int ((oBack S ).2)] n1 I1 J1 (Pg j0 j1)
  refine j_aload_n dL_law_726 rfl rfl rfl ?_
  refine j_callVw (As := []) dL_law_727 rfl cL_109 (by decide) rfl rfl (by decide) rfl (Nat.le_of_ble_eq_true rfl) rfl rfl (g_back (hm.mf hF1) hG.1 hyb (fun I2 J2 hm2 hF2 => ?_))
  show Rj _ _ _ _ _ _ 730 [.ref 1200, .ref 0, .ref 33, .int (nI i)] [.int ((oBack S ).2), .int ((oBack S ).2)] n1 I2 J2 (Pg j0 j1)
  refine j_icmpeq (tgt := 984) dL_law_730 rfl rfl (fun h1 => ?_) (fun h1 => by exfalso; exact h1 rfl)
  refine j_iincN (L' := [.ref 1200, .ref 0, .ref 33, .int (nI (i + 5))]) dL_law_984 rfl rfl (b := 5) rfl rfl rfl (by decide) rfl ?_
  refine j_goto (tgt := 18) dL_law_987 rfl ?_
  exact hk _ _ _ _ _ _ ⟨hC1.cf hF2, hm2, gd_oBack hG⟩
set_option maxHeartbeats 4000000 in
set_option maxRecDepth 100000 in
theorem law_23 {X : jX} {r i yb n : Nat} {I : HI} {J : HJ} {i0 i1 : Option Nat} {S : SS} (hX : X.1 ≤ 320) (hi : i + 5 ≤ X.1) (hyb : yb ≤ 2 ^ 12) (hL : LI S yb n i0 i1 I J) (hk : LK X r i yb) : Rj X 64 (11 * (r + 1)) (178 * (r + 1)) mL_law LQ 735 [.ref 1200, .ref 0, .ref 33, .int (nI i)] [] n I J (Pg i0 i1) := by
  obtain ⟨hC, hm, hG⟩ := hL
  refine j_less (Nat.mul_le_mul_left 11 (Nat.le_succ r)) (Nat.mul_le_mul_left 178 (Nat.le_succ r)) ?_
  refine j_aload_n dL_law_735 rfl rfl rfl ?_
  refine j_aload_n dL_law_736 rfl rfl rfl ?_
  refine j_iload_n dL_law_737 rfl rfl rfl ?_
  refine j_iconst (v := nI 1) dL_law_738 rfl rfl ?_
  refine j_iaddN (c := i + 1) dL_law_739 rfl rfl ?_
  refine j_sldN (i := i + 1) dL_law_740 rfl (by omega) hX ?_
  refine j_aload_n dL_law_741 rfl rfl rfl ?_
  refine j_iload_n dL_law_742 rfl rfl rfl ?_
  refine j_iconst (v := nI 2) dL_law_743 rfl rfl ?_
  refine j_iaddN (c := i + 2) dL_law_744 rfl rfl ?_
  refine j_sldN (i := i + 2) dL_law_745 rfl (by omega) hX ?_
  refine j_callVw (As := [.int (X.2 (i + 1)), .int (X.2 (i + 2))]) dL_law_746 rfl cL_110 (by decide) rfl rfl (by decide) rfl (by decide) rfl rfl (f_crusts hC hG.1 hyb (fun n1 j0 j1 I1 J1 hC1 hF1 => ?_))
  show Rj _ _ _ _ _ _ 749 [.ref 1200, .ref 0, .ref 33, .int (nI i)] [.int ((oCrusts S (X.2 (i + 1)) (X.2 (i + 2))).2)] n1 I1 J1 (Pg j0 j1)
  refine j_aload_n dL_law_749 rfl rfl rfl ?_
  refine j_aload_n dL_law_750 rfl rfl rfl ?_
  refine j_iload_n dL_law_751 rfl rfl rfl ?_
  refine j_iconst (v := nI 1) dL_law_752 rfl rfl ?_
  refine j_iaddN (c := i + 1) dL_law_753 rfl rfl ?_
  refine j_sldN (i := i + 1) dL_law_754 rfl (by omega) hX ?_
  refine j_aload_n dL_law_755 rfl rfl rfl ?_
  refine j_iload_n dL_law_756 rfl rfl rfl ?_
  refine j_iconst (v := nI 2) dL_law_757 rfl rfl ?_
  refine j_iaddN (c := i + 2) dL_law_758 rfl rfl ?_
  refine j_sldN (i := i + 2) dL_law_759 rfl (by omega) hX ?_
  refine j_callVw (As := [.int (X.2 (i + 1)), .int (X.2 (i + 2))]) dL_law_760 rfl cL_113 (by decide) rfl rfl (by decide) rfl (Nat.le_of_ble_eq_true rfl) rfl rfl (g_crusts (hm.mf hF1) hG.1 hyb (fun I2 J2 hm2 hF2 => ?_))
  show Rj _ _ _ _ _ _ 763 [.ref 1200, .ref 0, .ref 33, .int (nI i)] [.int ((oCrusts S (X.2 (i + 1)) (X.2 (i + 2))).2), .int ((oCrusts S (X.2 (i + 1)) (X.2 (i + 2))).2)] n1 I2 J2 (Pg j0 j1)
  refine j_icmpeq (tgt := 984) dL_law_763 rfl rfl (fun h1 => ?_) (fun h1 => by exfalso; exact h1 rfl)
  refine j_iincN (L' := [.ref 1200, .ref 0, .ref 33, .int (nI (i + 5))]) dL_law_984 rfl rfl (b := 5) rfl rfl rfl (by decide) rfl ?_
  refine j_goto (tgt := 18) dL_law_987 rfl ?_
  exact hk _ _ _ _ _ _ ⟨hC1.cf hF2, hm2, gd_oCrusts hG⟩
set_option maxHeartbeats 4000000 in
set_option maxRecDepth 100000 in
theorem law_24 {X : jX} {r i yb n : Nat} {I : HI} {J : HJ} {i0 i1 : Option Nat} {S : SS} (hX : X.1 ≤ 320) (hi : i + 5 ≤ X.1) (hyb : yb ≤ 2 ^ 12) (hL : LI S yb n i0 i1 I J) (hk : LK X r i yb) : Rj X 64 (11 * (r + 1)) (178 * (r + 1)) mL_law LQ 768 [.ref 1200, .ref 0, .ref 33, .int (nI i)] [] n I J (Pg i0 i1) := by
  obtain ⟨hC, hm, hG⟩ := hL
  refine j_less (Nat.mul_le_mul_left 11 (Nat.le_succ r)) (Nat.mul_le_mul_left 178 (Nat.le_succ r)) ?_
  refine j_aload_n dL_law_768 rfl rfl rfl ?_
  refine j_aload_n dL_law_769 rfl rfl rfl ?_
  refine j_iload_n dL_law_770 rfl rfl rfl ?_
  refine j_iconst (v := nI 1) dL_law_771 rfl rfl ?_
  refine j_iaddN (c := i + 1) dL_law_772 rfl rfl ?_
  refine j_sldN (i := i + 1) dL_law_773 rfl (by omega) hX ?_
  refine j_aload_n dL_law_774 rfl rfl rfl ?_
  refine j_iload_n dL_law_775 rfl rfl rfl ?_
  refine j_iconst (v := nI 2) dL_law_776 rfl rfl ?_
  refine j_iaddN (c := i + 2) dL_law_777 rfl rfl ?_
  refine j_sldN (i := i + 2) dL_law_778 rfl (by omega) hX ?_
  refine j_aload_n dL_law_779 rfl rfl rfl ?_
  refine j_iload_n dL_law_780 rfl rfl rfl ?_
  refine j_iconst (v := nI 3) dL_law_781 rfl rfl ?_
  refine j_iaddN (c := i + 3) dL_law_782 rfl rfl ?_
  refine j_sldN (i := i + 3) dL_law_783 rfl (by omega) hX ?_
  refine j_callVw (As := [.int (X.2 (i + 1)), .int (X.2 (i + 2)), .int (X.2 (i + 3))]) dL_law_784 rfl cL_114 (by decide) rfl rfl (by decide) rfl (by decide) rfl rfl (f_mice hC hG.1 hyb (fun n1 j0 j1 I1 J1 hC1 hF1 => ?_))
  show Rj _ _ _ _ _ _ 787 [.ref 1200, .ref 0, .ref 33, .int (nI i)] [.int ((oMice S (X.2 (i + 1)) (X.2 (i + 2)) (X.2 (i + 3))).2)] n1 I1 J1 (Pg j0 j1)
  refine j_aload_n dL_law_787 rfl rfl rfl ?_
  refine j_aload_n dL_law_788 rfl rfl rfl ?_
  refine j_iload_n dL_law_789 rfl rfl rfl ?_
  refine j_iconst (v := nI 1) dL_law_790 rfl rfl ?_
  refine j_iaddN (c := i + 1) dL_law_791 rfl rfl ?_
  refine j_sldN (i := i + 1) dL_law_792 rfl (by omega) hX ?_
  refine j_aload_n dL_law_793 rfl rfl rfl ?_
  refine j_iload_n dL_law_794 rfl rfl rfl ?_
  refine j_iconst (v := nI 2) dL_law_795 rfl rfl ?_
  refine j_iaddN (c := i + 2) dL_law_796 rfl rfl ?_
  refine j_sldN (i := i + 2) dL_law_797 rfl (by omega) hX ?_
  refine j_aload_n dL_law_798 rfl rfl rfl ?_
  refine j_iload_n dL_law_799 rfl rfl rfl ?_
  refine j_iconst (v := nI 3) dL_law_800 rfl rfl ?_
  refine j_iaddN (c := i + 3) dL_law_801 rfl rfl ?_
  refine j_sldN (i := i + 3) dL_law_802 rfl (by omega) hX ?_
  refine j_callVw (As := [.int (X.2 (i + 1)), .int (X.2 (i + 2)), .int (X.2 (i + 3))]) dL_law_803 rfl cL_117 (by decide) rfl rfl (by decide) rfl (Nat.le_of_ble_eq_true rfl) rfl rfl (g_mice (hm.mf hF1) hG.1 hyb (fun I2 J2 hm2 hF2 => ?_))
  show Rj _ _ _ _ _ _ 806 [.ref 1200, .ref 0, .ref 33, .int (nI i)] [.int ((oMice S (X.2 (i + 1)) (X.2 (i + 2)) (X.2 (i + 3))).2), .int ((oMice S (X.2 (i + 1)) (X.2 (i + 2)) (X.2 (i + 3))).2)] n1 I2 J2 (Pg j0 j1)
  refine j_icmpeq (tgt := 984) dL_law_806 rfl rfl (fun h1 => ?_) (fun h1 => by exfalso; exact h1 rfl)
  refine j_iincN (L' := [.ref 1200, .ref 0, .ref 33, .int (nI (i + 5))]) dL_law_984 rfl rfl (b := 5) rfl rfl rfl (by decide) rfl ?_
  refine j_goto (tgt := 18) dL_law_987 rfl ?_
  exact hk _ _ _ _ _ _ ⟨hC1.cf hF2, hm2, gd_oMice hG⟩
set_option maxHeartbeats 4000000 in
set_option maxRecDepth 100000 in
theorem law_25 {X : jX} {r i yb n : Nat} {I : HI} {J : HJ} {i0 i1 : Option Nat} {S : SS} (hX : X.1 ≤ 320) (hi : i + 5 ≤ X.1) (hyb : yb ≤ 2 ^ 12) (hL : LI S yb n i0 i1 I J) (hk : LK X r i yb) : Rj X 64 (11 * (r + 1)) (178 * (r + 1)) mL_law LQ 811 [.ref 1200, .ref 0, .ref 33, .int (nI i)] [] n I J (Pg i0 i1) := by
  obtain ⟨hC, hm, hG⟩ := hL
  refine j_less (Nat.mul_le_mul_left 11 (Nat.le_succ r)) (Nat.mul_le_mul_left 178 (Nat.le_succ r)) ?_
  refine j_aload_n dL_law_811 rfl rfl rfl ?_
  refine j_aload_n dL_law_812 rfl rfl rfl ?_
  refine j_iload_n dL_law_813 rfl rfl rfl ?_
  refine j_iconst (v := nI 1) dL_law_814 rfl rfl ?_
  refine j_iaddN (c := i + 1) dL_law_815 rfl rfl ?_
  refine j_sldN (i := i + 1) dL_law_816 rfl (by omega) hX ?_
  refine j_aload_n dL_law_817 rfl rfl rfl ?_
  refine j_iload_n dL_law_818 rfl rfl rfl ?_
  refine j_iconst (v := nI 2) dL_law_819 rfl rfl ?_
  refine j_iaddN (c := i + 2) dL_law_820 rfl rfl ?_
  refine j_sldN (i := i + 2) dL_law_821 rfl (by omega) hX ?_
  refine j_aload_n dL_law_822 rfl rfl rfl ?_
  refine j_iload_n dL_law_823 rfl rfl rfl ?_
  refine j_iconst (v := nI 3) dL_law_824 rfl rfl ?_
  refine j_iaddN (c := i + 3) dL_law_825 rfl rfl ?_
  refine j_sldN (i := i + 3) dL_law_826 rfl (by omega) hX ?_
  refine j_callVw (As := [.int (X.2 (i + 1)), .int (X.2 (i + 2)), .int (X.2 (i + 3))]) dL_law_827 rfl cL_118 (by decide) rfl rfl (by decide) rfl (by decide) rfl rfl (f_years hC hG.1 hyb (fun n1 j0 j1 I1 J1 hC1 hF1 => ?_))
  show Rj _ _ _ _ _ _ 830 [.ref 1200, .ref 0, .ref 33, .int (nI i)] [.int ((oYears S (X.2 (i + 1)) (X.2 (i + 2)) (X.2 (i + 3))).2)] n1 I1 J1 (Pg j0 j1)
  refine j_aload_n dL_law_830 rfl rfl rfl ?_
  refine j_aload_n dL_law_831 rfl rfl rfl ?_
  refine j_iload_n dL_law_832 rfl rfl rfl ?_
  refine j_iconst (v := nI 1) dL_law_833 rfl rfl ?_
  refine j_iaddN (c := i + 1) dL_law_834 rfl rfl ?_
  refine j_sldN (i := i + 1) dL_law_835 rfl (by omega) hX ?_
  refine j_aload_n dL_law_836 rfl rfl rfl ?_
  refine j_iload_n dL_law_837 rfl rfl rfl ?_
  refine j_iconst (v := nI 2) dL_law_838 rfl rfl ?_
  refine j_iaddN (c := i + 2) dL_law_839 rfl rfl ?_
  refine j_sldN (i := i + 2) dL_law_840 rfl (by omega) hX ?_
  refine j_aload_n dL_law_841 rfl rfl rfl ?_
  refine j_iload_n dL_law_842 rfl rfl rfl ?_
  refine j_iconst (v := nI 3) dL_law_843 rfl rfl ?_
  refine j_iaddN (c := i + 3) dL_law_844 rfl rfl ?_
  refine j_sldN (i := i + 3) dL_law_845 rfl (by omega) hX ?_
  refine j_callVw (As := [.int (X.2 (i + 1)), .int (X.2 (i + 2)), .int (X.2 (i + 3))]) dL_law_846 rfl cL_121 (by decide) rfl rfl (by decide) rfl (Nat.le_of_ble_eq_true rfl) rfl rfl (g_years (hm.mf hF1) hG.1 hyb (fun I2 J2 hm2 hF2 => ?_))
  show Rj _ _ _ _ _ _ 849 [.ref 1200, .ref 0, .ref 33, .int (nI i)] [.int ((oYears S (X.2 (i + 1)) (X.2 (i + 2)) (X.2 (i + 3))).2), .int ((oYears S (X.2 (i + 1)) (X.2 (i + 2)) (X.2 (i + 3))).2)] n1 I2 J2 (Pg j0 j1)
  refine j_icmpeq (tgt := 984) dL_law_849 rfl rfl (fun h1 => ?_) (fun h1 => by exfalso; exact h1 rfl)
  refine j_iincN (L' := [.ref 1200, .ref 0, .ref 33, .int (nI (i + 5))]) dL_law_984 rfl rfl (b := 5) rfl rfl rfl (by decide) rfl ?_
  refine j_goto (tgt := 18) dL_law_987 rfl ?_
  exact hk _ _ _ _ _ _ ⟨hC1.cf hF2, hm2, gd_oYears hG⟩
set_option maxHeartbeats 4000000 in
set_option maxRecDepth 100000 in
theorem law_26 {X : jX} {r i yb n : Nat} {I : HI} {J : HJ} {i0 i1 : Option Nat} {S : SS} (hX : X.1 ≤ 320) (hi : i + 5 ≤ X.1) (hyb : yb ≤ 2 ^ 12) (hL : LI S yb n i0 i1 I J) (hk : LK X r i yb) : Rj X 64 (11 * (r + 1)) (178 * (r + 1)) mL_law LQ 854 [.ref 1200, .ref 0, .ref 33, .int (nI i)] [] n I J (Pg i0 i1) := by
  obtain ⟨hC, hm, hG⟩ := hL
  refine j_less (Nat.mul_le_mul_left 11 (Nat.le_succ r)) (Nat.mul_le_mul_left 178 (Nat.le_succ r)) ?_
  refine j_aload_n dL_law_854 rfl rfl rfl ?_
  refine j_aload_n dL_law_855 rfl rfl rfl ?_
  refine j_iload_n dL_law_856 rfl rfl rfl ?_
  refine j_iconst (v := nI 1) dL_law_857 rfl rfl ?_
  refine j_iaddN (c := i + 1) dL_law_858 rfl rfl ?_
  refine j_sldN (i := i + 1) dL_law_859 rfl (by omega) hX ?_
  refine j_callVw (As := [.int (X.2 (i + 1))]) dL_law_860 rfl cL_122 (by decide) rfl rfl (by decide) rfl (by decide) rfl rfl (f_part hC hG.1 hyb (fun n1 j0 j1 I1 J1 hC1 hF1 => ?_))
  show Rj _ _ _ _ _ _ 863 [.ref 1200, .ref 0, .ref 33, .int (nI i)] [.long ((oPart S (X.2 (i + 1))).2)] n1 I1 J1 (Pg j0 j1)
  refine j_aload_n dL_law_863 rfl rfl rfl ?_
  refine j_aload_n dL_law_864 rfl rfl rfl ?_
  refine j_iload_n dL_law_865 rfl rfl rfl ?_
  refine j_iconst (v := nI 1) dL_law_866 rfl rfl ?_
  refine j_iaddN (c := i + 1) dL_law_867 rfl rfl ?_
  refine j_sldN (i := i + 1) dL_law_868 rfl (by omega) hX ?_
  refine j_callVw (As := [.int (X.2 (i + 1))]) dL_law_869 rfl cL_126 (by decide) rfl rfl (by decide) rfl (Nat.le_of_ble_eq_true rfl) rfl rfl (g_part (hm.mf hF1) hG.1 hyb (fun I2 J2 hm2 hF2 => ?_))
  show Rj _ _ _ _ _ _ 872 [.ref 1200, .ref 0, .ref 33, .int (nI i)] [.long ((oPart S (X.2 (i + 1))).2), .long ((oPart S (X.2 (i + 1))).2)] n1 I2 J2 (Pg j0 j1)
  refine j_lcmp dL_law_872 rfl ?_
  refine j_ifeq (tgt := 984) dL_law_873 rfl rfl (fun h1 => ?_) (fun h1 => by exfalso; exact h1 ((lg_cmp_eq _ _).mpr rfl))
  refine j_iincN (L' := [.ref 1200, .ref 0, .ref 33, .int (nI (i + 5))]) dL_law_984 rfl rfl (b := 5) rfl rfl rfl (by decide) rfl ?_
  refine j_goto (tgt := 18) dL_law_987 rfl ?_
  exact hk _ _ _ _ _ _ ⟨hC1.cf hF2, hm2, gd_oPart hG⟩
set_option maxHeartbeats 4000000 in
set_option maxRecDepth 100000 in
theorem law_27 {X : jX} {r i yb n : Nat} {I : HI} {J : HJ} {i0 i1 : Option Nat} {S : SS} (hX : X.1 ≤ 320) (hi : i + 5 ≤ X.1) (hyb : yb ≤ 2 ^ 12) (hL : LI S yb n i0 i1 I J) (hk : LK X r i yb) : Rj X 64 (11 * (r + 1)) (178 * (r + 1)) mL_law LQ 878 [.ref 1200, .ref 0, .ref 33, .int (nI i)] [] n I J (Pg i0 i1) := by
  obtain ⟨hC, hm, hG⟩ := hL
  refine j_aload_n dL_law_878 rfl rfl rfl ?_
  refine j_aload_n dL_law_879 rfl rfl rfl ?_
  refine j_iload_n dL_law_880 rfl rfl rfl ?_
  refine j_iconst (v := nI 1) dL_law_881 rfl rfl ?_
  refine j_iaddN (c := i + 1) dL_law_882 rfl rfl ?_
  refine j_sldN (i := i + 1) dL_law_883 rfl (by omega) hX ?_
  refine j_callVw (As := [.int (X.2 (i + 1))]) dL_law_884 rfl cL_127 (by decide) rfl rfl (by decide) rfl (by decide) rfl rfl (f_image hC hG.1 hyb (fun n1 j0 j1 I1 J1 hC1 hF1 => ?_))
  show Rj _ _ _ _ _ _ 887 [.ref 1200, .ref 0, .ref 33, .int (nI i)] [.int ((oImage S (X.2 (i + 1))).2)] n1 I1 J1 (Pg j0 j1)
  refine j_aload_n dL_law_887 rfl rfl rfl ?_
  refine j_aload_n dL_law_888 rfl rfl rfl ?_
  refine j_iload_n dL_law_889 rfl rfl rfl ?_
  refine j_iconst (v := nI 1) dL_law_890 rfl rfl ?_
  refine j_iaddN (c := i + 1) dL_law_891 rfl rfl ?_
  refine j_sldN (i := i + 1) dL_law_892 rfl (by omega) hX ?_
  refine j_callVw (As := [.int (X.2 (i + 1))]) dL_law_893 rfl cL_130 (by decide) rfl rfl (by decide) rfl (Nat.le_of_ble_eq_true rfl) rfl rfl (g_image (hm.mf hF1) hG.1 hyb hG.2 (fun I2 J2 hm2 hF2 => ?_))
  show Rj _ _ _ _ _ _ 896 [.ref 1200, .ref 0, .ref 33, .int (nI i)] [.int ((oImage S (X.2 (i + 1))).2), .int ((oImage S (X.2 (i + 1))).2)] n1 I2 J2 (Pg j0 j1)
  refine j_icmpeq (tgt := 984) dL_law_896 rfl rfl (fun h1 => ?_) (fun h1 => by exfalso; exact h1 rfl)
  refine j_iincN (L' := [.ref 1200, .ref 0, .ref 33, .int (nI (i + 5))]) dL_law_984 rfl rfl (b := 5) rfl rfl rfl (by decide) rfl ?_
  refine j_goto (tgt := 18) dL_law_987 rfl ?_
  exact hk _ _ _ _ _ _ ⟨hC1.cf hF2, hm2, gd_oImage hG⟩
set_option maxHeartbeats 4000000 in
set_option maxRecDepth 100000 in
theorem law_28 {X : jX} {r i yb n : Nat} {I : HI} {J : HJ} {i0 i1 : Option Nat} {S : SS} (hX : X.1 ≤ 320) (hi : i + 5 ≤ X.1) (hyb : yb ≤ 2 ^ 12) (hL : LI S yb n i0 i1 I J) (hk : LK X r i yb) : Rj X 64 (11 * (r + 1)) (178 * (r + 1)) mL_law LQ 901 [.ref 1200, .ref 0, .ref 33, .int (nI i)] [] n I J (Pg i0 i1) := by
  obtain ⟨hC, hm, hG⟩ := hL
  refine j_less (Nat.mul_le_mul_left 11 (Nat.le_succ r)) (Nat.mul_le_mul_left 178 (Nat.le_succ r)) ?_
  refine j_aload_n dL_law_901 rfl rfl rfl ?_
  refine j_aload_n dL_law_902 rfl rfl rfl ?_
  refine j_iload_n dL_law_903 rfl rfl rfl ?_
  refine j_iconst (v := nI 1) dL_law_904 rfl rfl ?_
  refine j_iaddN (c := i + 1) dL_law_905 rfl rfl ?_
  refine j_sldN (i := i + 1) dL_law_906 rfl (by omega) hX ?_
  refine j_callVw (As := [.int (X.2 (i + 1))]) dL_law_907 rfl cL_131 (by decide) rfl rfl (by decide) rfl (by decide) rfl rfl (f_from hC hG.1 hyb (fun u hu => (hG.2 u hu).few) (fun n1 j0 j1 I1 J1 hC1 hF1 => ?_))
  show Rj _ _ _ _ _ _ 910 [.ref 1200, .ref 0, .ref 33, .int (nI i)] [.int ((oFrom S (X.2 (i + 1))).2)] n1 I1 J1 (Pg j0 j1)
  refine j_aload_n dL_law_910 rfl rfl rfl ?_
  refine j_aload_n dL_law_911 rfl rfl rfl ?_
  refine j_iload_n dL_law_912 rfl rfl rfl ?_
  refine j_iconst (v := nI 1) dL_law_913 rfl rfl ?_
  refine j_iaddN (c := i + 1) dL_law_914 rfl rfl ?_
  refine j_sldN (i := i + 1) dL_law_915 rfl (by omega) hX ?_
  refine j_callVw (As := [.int (X.2 (i + 1))]) dL_law_916 rfl cL_134 (by decide) rfl rfl (by decide) rfl (Nat.le_of_ble_eq_true rfl) rfl rfl (g_from (hm.mf hF1) hG.1 hyb hG.2 (fun I2 J2 hm2 hF2 => ?_))
  show Rj _ _ _ _ _ _ 919 [.ref 1200, .ref 0, .ref 33, .int (nI i)] [.int ((oFrom S (X.2 (i + 1))).2), .int ((oFrom S (X.2 (i + 1))).2)] n1 I2 J2 (Pg j0 j1)
  refine j_icmpeq (tgt := 984) dL_law_919 rfl rfl (fun h1 => ?_) (fun h1 => by exfalso; exact h1 rfl)
  refine j_iincN (L' := [.ref 1200, .ref 0, .ref 33, .int (nI (i + 5))]) dL_law_984 rfl rfl (b := 5) rfl rfl rfl (by decide) rfl ?_
  refine j_goto (tgt := 18) dL_law_987 rfl ?_
  exact hk _ _ _ _ _ _ ⟨hC1.cf hF2, hm2, gd_oFrom hG⟩
set_option maxHeartbeats 4000000 in
set_option maxRecDepth 100000 in
theorem law_29 {X : jX} {r i yb n : Nat} {I : HI} {J : HJ} {i0 i1 : Option Nat} {S : SS} (hX : X.1 ≤ 320) (hi : i + 5 ≤ X.1) (hyb : yb ≤ 2 ^ 12) (hL : LI S yb n i0 i1 I J) (hk : LK X r i yb) : Rj X 64 (11 * (r + 1)) (178 * (r + 1)) mL_law LQ 924 [.ref 1200, .ref 0, .ref 33, .int (nI i)] [] n I J (Pg i0 i1) := by
  obtain ⟨hC, hm, hG⟩ := hL
  refine j_less (Nat.mul_le_mul_left 11 (Nat.le_succ r)) (Nat.mul_le_mul_left 178 (Nat.le_succ r)) ?_
  refine j_aload_n dL_law_924 rfl rfl rfl ?_
  refine j_aload_n dL_law_925 rfl rfl rfl ?_
  refine j_iload_n dL_law_926 rfl rfl rfl ?_
  refine j_iconst (v := nI 1) dL_law_927 rfl rfl ?_
  refine j_iaddN (c := i + 1) dL_law_928 rfl rfl ?_
  refine j_sldN (i := i + 1) dL_law_929 rfl (by omega) hX ?_
  refine j_callVw (As := [.int (X.2 (i + 1))]) dL_law_930 rfl cL_135 (by decide) rfl rfl (by decide) rfl (by decide) rfl rfl (f_status hC hG.1 hyb (fun n1 j0 j1 I1 J1 hC1 hF1 => ?_))
  show Rj _ _ _ _ _ _ 933 [.ref 1200, .ref 0, .ref 33, .int (nI i)] [.int ((oStatus S (X.2 (i + 1))).2)] n1 I1 J1 (Pg j0 j1)
  refine j_aload_n dL_law_933 rfl rfl rfl ?_
  refine j_aload_n dL_law_934 rfl rfl rfl ?_
  refine j_iload_n dL_law_935 rfl rfl rfl ?_
  refine j_iconst (v := nI 1) dL_law_936 rfl rfl ?_
  refine j_iaddN (c := i + 1) dL_law_937 rfl rfl ?_
  refine j_sldN (i := i + 1) dL_law_938 rfl (by omega) hX ?_
  refine j_callVw (As := [.int (X.2 (i + 1))]) dL_law_939 rfl cL_138 (by decide) rfl rfl (by decide) rfl (Nat.le_of_ble_eq_true rfl) rfl rfl (g_status (hm.mf hF1) hG.1 hyb (fun I2 J2 hm2 hF2 => ?_))
  show Rj _ _ _ _ _ _ 942 [.ref 1200, .ref 0, .ref 33, .int (nI i)] [.int ((oStatus S (X.2 (i + 1))).2), .int ((oStatus S (X.2 (i + 1))).2)] n1 I2 J2 (Pg j0 j1)
  refine j_icmpeq (tgt := 984) dL_law_942 rfl rfl (fun h1 => ?_) (fun h1 => by exfalso; exact h1 rfl)
  refine j_iincN (L' := [.ref 1200, .ref 0, .ref 33, .int (nI (i + 5))]) dL_law_984 rfl rfl (b := 5) rfl rfl rfl (by decide) rfl ?_
  refine j_goto (tgt := 18) dL_law_987 rfl ?_
  exact hk _ _ _ _ _ _ ⟨hC1.cf hF2, hm2, gd_oStatus hG⟩
set_option maxHeartbeats 4000000 in
set_option maxRecDepth 100000 in
theorem law_30 {X : jX} {r i yb n : Nat} {I : HI} {J : HJ} {i0 i1 : Option Nat} {S : SS} (hX : X.1 ≤ 320) (hi : i + 5 ≤ X.1) (hyb : yb ≤ 2 ^ 12) (hL : LI S yb n i0 i1 I J) (hk : LK X r i yb) : Rj X 64 (11 * (r + 1)) (178 * (r + 1)) mL_law LQ 947 [.ref 1200, .ref 0, .ref 33, .int (nI i)] [] n I J (Pg i0 i1) := by
  obtain ⟨hC, hm, hG⟩ := hL
  refine j_less (Nat.mul_le_mul_left 11 (Nat.le_succ r)) (Nat.mul_le_mul_left 178 (Nat.le_succ r)) ?_
  refine j_aload_n dL_law_947 rfl rfl rfl ?_
  refine j_aload_n dL_law_948 rfl rfl rfl ?_
  refine j_iload_n dL_law_949 rfl rfl rfl ?_
  refine j_iconst (v := nI 1) dL_law_950 rfl rfl ?_
  refine j_iaddN (c := i + 1) dL_law_951 rfl rfl ?_
  refine j_sldN (i := i + 1) dL_law_952 rfl (by omega) hX ?_
  refine j_callVw (As := [.int (X.2 (i + 1))]) dL_law_953 rfl cL_139 (by decide) rfl rfl (by decide) rfl (by decide) rfl rfl (f_count hC hG.1 hyb (fun n1 j0 j1 I1 J1 hC1 hF1 => ?_))
  show Rj _ _ _ _ _ _ 956 [.ref 1200, .ref 0, .ref 33, .int (nI i)] [.int ((oCount S (X.2 (i + 1))).2)] n1 I1 J1 (Pg j0 j1)
  refine j_aload_n dL_law_956 rfl rfl rfl ?_
  refine j_aload_n dL_law_957 rfl rfl rfl ?_
  refine j_iload_n dL_law_958 rfl rfl rfl ?_
  refine j_iconst (v := nI 1) dL_law_959 rfl rfl ?_
  refine j_iaddN (c := i + 1) dL_law_960 rfl rfl ?_
  refine j_sldN (i := i + 1) dL_law_961 rfl (by omega) hX ?_
  refine j_callVw (As := [.int (X.2 (i + 1))]) dL_law_962 rfl cL_142 (by decide) rfl rfl (by decide) rfl (Nat.le_of_ble_eq_true rfl) rfl rfl (g_count (hm.mf hF1) hG.1 hyb (fun I2 J2 hm2 hF2 => ?_))
  show Rj _ _ _ _ _ _ 965 [.ref 1200, .ref 0, .ref 33, .int (nI i)] [.int ((oCount S (X.2 (i + 1))).2), .int ((oCount S (X.2 (i + 1))).2)] n1 I2 J2 (Pg j0 j1)
  refine j_icmpeq (tgt := 984) dL_law_965 rfl rfl (fun h1 => ?_) (fun h1 => by exfalso; exact h1 rfl)
  refine j_iincN (L' := [.ref 1200, .ref 0, .ref 33, .int (nI (i + 5))]) dL_law_984 rfl rfl (b := 5) rfl rfl rfl (by decide) rfl ?_
  refine j_goto (tgt := 18) dL_law_987 rfl ?_
  exact hk _ _ _ _ _ _ ⟨hC1.cf hF2, hm2, gd_oCount hG⟩
set_option maxHeartbeats 4000000 in
set_option maxRecDepth 100000 in
theorem law_31 {X : jX} {r i yb n : Nat} {I : HI} {J : HJ} {i0 i1 : Option Nat} {S : SS} (hX : X.1 ≤ 320) (hi : i + 5 ≤ X.1) (hyb : yb ≤ 2 ^ 12) (hL : LI S yb n i0 i1 I J) (hk : LK X r i yb) : Rj X 64 (11 * (r + 1)) (178 * (r + 1)) mL_law LQ 970 [.ref 1200, .ref 0, .ref 33, .int (nI i)] [] n I J (Pg i0 i1) := by
  obtain ⟨hC, hm, hG⟩ := hL
  refine j_less (Nat.mul_le_mul_left 11 (Nat.le_succ r)) (Nat.mul_le_mul_left 178 (Nat.le_succ r)) ?_
  refine j_aload_n dL_law_970 rfl rfl rfl ?_
  refine j_callVw (As := []) dL_law_971 rfl cL_143 (by decide) rfl rfl (by decide) rfl (by decide) rfl rfl (f_digest hC hG.1 hyb ?_)
  show Rj _ _ _ _ _ _ 974 [.ref 1200, .ref 0, .ref 33, .int (nI i)] [.long (oDigest S)] n I J (Pg i0 i1)
  refine j_aload_n dL_law_974 rfl rfl rfl ?_
  refine j_callVw (As := []) dL_law_975 rfl cL_147 (by decide) rfl rfl (by decide) rfl (Nat.le_of_ble_eq_true rfl) rfl rfl (g_digest hm hG.1 hyb (fun I2 J2 hm2 hF2 => ?_))
  show Rj _ _ _ _ _ _ 978 [.ref 1200, .ref 0, .ref 33, .int (nI i)] [.long (oDigest S), .long (oDigest S)] n I2 J2 (Pg i0 i1)
  refine j_lcmp dL_law_978 rfl ?_
  refine j_ifeq (tgt := 984) dL_law_979 rfl rfl (fun h1 => ?_) (fun h1 => by exfalso; exact h1 ((lg_cmp_eq _ _).mpr rfl))
  refine j_iincN (L' := [.ref 1200, .ref 0, .ref 33, .int (nI (i + 5))]) dL_law_984 rfl rfl (b := 5) rfl rfl rfl (by decide) rfl ?_
  refine j_goto (tgt := 18) dL_law_987 rfl ?_
  exact hk _ _ _ _ _ _ ⟨hC.cf hF2, hm2, hG.up⟩
