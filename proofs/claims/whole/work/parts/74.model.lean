theorem bor {x k : Nat} (h : x < 2 ^ k) : x ||| 2 ^ k < 2 ^ (k + 1) := Nat.or_lt_two_pow (Nat.lt_trans h (Nat.pow_lt_pow_right (by omega) (by omega))) (Nat.pow_lt_pow_right (by omega) (by omega))
set_option maxHeartbeats 4000000 in
set_option maxRecDepth 100000 in
theorem c_mlayGifts {X : jX} {d n : Nat} {I : HI} {J : HJ} {i0 i1 : Option Nat} {Q : jPost} {S : SS} {yb : Nat} (hm : MI S I J) (hW : WF yb S.v) (hyb : yb ≤ 2 ^ 12) {a b t : Nat} (ha : a < S.v 0 3) (hb0 : b < S.v 0 3) (ht : t ≤ 60) (hQ : ∀ I', (∀ a, a ≠ 33 → I' a = I a) → (∀ k, k < 17 → I' 33 k = I 33 k) → I' 33 17 = nI (shV S.v a b t).1 - 1 → (¬ (shV S.v a b t).1 = 0 → I' 33 18 = nI (shV S.v a b t).2.1 - 1 ∧ I' 33 19 = nI (shV S.v a b t).2.2 - 1) → ((shV S.v a b t).1 = 0 → shV S.v a b t = (0, 0, 0)) → (shV S.v a b t).1 ≤ 400 → Q none n I' J (Pg i0 i1)) : Cj X (d + 3) 0 0 mX10_layGifts [.ref 33, .int (nI a), .int (nI b), .int (nI t)] n I J (Pg i0 i1) Q := by
  refine Cj.intro rfl (Nat.le_of_ble_eq_true rfl) (L := [.ref 33, .int (nI a), .int (nI b), .int (nI t), jU, jU, jU, jU, jU, jU, jU, jU, jU]) rfl ?_
  obtain ⟨⟨w0, w1, w2, w3, w4, w5, w6⟩, wp, wk, wc, wb⟩ := id hW
  obtain ⟨w, hw⟩ : ∃ w, w = 3 ^ (S.v 0 4) := ⟨_, rfl⟩
  have hw8 : w ≤ 3 ^ 8 := by rw [hw]; exact Nat.pow_le_pow_right (by omega) w4
  have inner : ∀ (r k u gA gB tA tB c : Nat) (s : Nat × Nat × Nat) (z12 : Value) (Ia : HI), k + r = S.v 0 4 → u = 3 ^ r → gA ≤ 20 * k → gB ≤ 20 * k → tA < 2 ^ k → tB < 2 ^ k → c < w → gIn (S.v 5) c (S.v 0 4) 0 0 0 0 0 = gIn (S.v 5) c r k gA gB tA tB → (∀ a, a ≠ 33 → Ia a = I a) → (∀ k, k < 17 → Ia 33 k = I 33 k) → Ia 33 17 = nI s.1 - 1 → (¬ s.1 = 0 → Ia 33 18 = nI s.2.1 - 1 ∧ Ia 33 19 = nI s.2.2 - 1) → (s.1 = 0 → s = (0, 0, 0)) → s.1 ≤ 400 → (∀ (s2 : Nat × Nat × Nat) (I2 : HI) (z6 z7 z8 z9 z10 z11 z12 : Value), (∀ a, a ≠ 33 → I2 a = I a) → (∀ k, k < 17 → I2 33 k = I 33 k) → I2 33 17 = nI s2.1 - 1 → (¬ s2.1 = 0 → I2 33 18 = nI s2.2.1 - 1 ∧ I2 33 19 = nI s2.2.2 - 1) → (s2.1 = 0 → s2 = (0, 0, 0)) → s2.1 ≤ 400 → s2 = (fun c s => gLf (nedF S.v a t) (nedF S.v b t) (gIn (S.v 5) c (S.v 0 4) 0 0 0 0 0) s) c s → Rj X (d + 3) 0 0 mX10_layGifts Q 37 [.ref 33, .int (nI a), .int (nI b), .int (nI t), .int (nI w), .int (nI (c + 1)), z6, z7, z8, z9, z10, z11, z12] [] n I2 J (Pg i0 i1)) → Rj X (d + 3) 0 0 mX10_layGifts Q 63 [.ref 33, .int (nI a), .int (nI b), .int (nI t), .int (nI w), .int (nI c), .int (nI u), .int (nI gA), .int (nI gB), .int (nI tA), .int (nI tB), .int (nI k), z12] [] n Ia J (Pg i0 i1) := by
    intro r
    induction r with
    | zero =>
      intro k u gA gB tA tB c s z12 Ia hkr hu hga hgb hta htb hc hG hO hI3 hl hq hz hb hk
      have hM : VM 34 0 Ia S.v := hm.v.congr (hO 34 (by omega))
      have h2a := (wp a ha).2.1
      have h2b := (wp b hb0).2.1
      have hfin : (gA, gB, tA, tB) = gIn (S.v 5) c 0 k gA gB tA tB := rfl
      have hpk : 2 ^ k ≤ 2 ^ 8 := Nat.pow_le_pow_right (by omega) (by omega)
      refine j_iload dX10_layGifts_63 rfl rfl ?_
      refine j_aload_n dX10_layGifts_65 rfl rfl rfl ?_
      refine j_getP (b := 34) dX10_layGifts_66 rfl fX10_7 rfl (by decide) rfl rfl ?_
      refine j_iconst (v := nI 1) dX10_layGifts_69 rfl rfl ?_
      refine j_iald (j := 1) (v := nI (S.v 0 4)) dX10_layGifts_70 rfl rfl (by decide) rfl (by decide) (by decide) hM.mk ?_
      refine j_icmpgeN (tgt := 183) dX10_layGifts_71 rfl rfl (by omega) (by omega) (fun h1 => ?_) (fun h1 => by exfalso; omega)
      refine j_aload_n dX10_layGifts_183 rfl rfl rfl ?_
      refine j_getIv (v := nI s.1 - 1) dX10_layGifts_184 rfl fX10_148 rfl (by decide) rfl hl ?_
      suffices K3 : Rj X (d + 3) 0 0 mX10_layGifts Q 207 [.ref 33, .int (nI a), .int (nI b), .int (nI t), .int (nI w), .int (nI c), .int (nI u), .int (nI gA), .int (nI gB), .int (nI tA), .int (nI tB), .int (nI k), z12] [.int (bI (((nI s.1 - 1) < 0) ∨ (¬ ((nI s.1 - 1) ≤ (nI (gA + gB))))))] n Ia J (Pg i0 i1) by
        refine j_iflt (tgt := 202) dX10_layGifts_187 rfl rfl (fun h2 => ?_) (fun h2 => ?_)
        · refine j_iconst (v := nI 1) dX10_layGifts_202 rfl rfl ?_
          refine j_goto (tgt := 207) dX10_layGifts_203 rfl ?_
          rw [bI_t (Or.inl h2)] at K3; exact K3
        · refine j_iload dX10_layGifts_190 rfl rfl ?_
          refine j_iload dX10_layGifts_192 rfl rfl ?_
          refine j_iaddN (c := gA + gB) dX10_layGifts_194 rfl rfl ?_
          refine j_aload_n dX10_layGifts_195 rfl rfl rfl ?_
          refine j_getIv (v := nI s.1 - 1) dX10_layGifts_196 rfl fX10_148 rfl (by decide) rfl hl ?_
          refine j_icmpge (tgt := 206) dX10_layGifts_199 rfl rfl (fun h4 => ?_) (fun h4 => ?_)
          · refine j_iconst (v := nI 0) dX10_layGifts_206 rfl rfl ?_
            rw [bI_f (fun q => q.elim h2 (fun q => q h4))] at K3; exact K3
          · refine j_iconst (v := nI 1) dX10_layGifts_202 rfl rfl ?_
            refine j_goto (tgt := 207) dX10_layGifts_203 rfl ?_
            rw [bI_t (Or.inr h4)] at K3; exact K3
      refine j_istore (L' := [.ref 33, .int (nI a), .int (nI b), .int (nI t), .int (nI w), .int (nI c), .int (nI u), .int (nI gA), .int (nI gB), .int (nI tA), .int (nI tB), .int (bI (((nI s.1 - 1) < 0) ∨ (¬ ((nI s.1 - 1) ≤ (nI (gA + gB)))))), z12]) dX10_layGifts_207 rfl rfl (by decide) rfl ?_
      refine j_iload dX10_layGifts_209 rfl rfl ?_
      refine j_ifeqB (tgt := 305) dX10_layGifts_211 rfl rfl (fun h5 => ?_) (fun h5 => ?_)
      · refine j_iincN (L' := [.ref 33, .int (nI a), .int (nI b), .int (nI t), .int (nI w), .int (nI (c + 1)), .int (nI u), .int (nI gA), .int (nI gB), .int (nI tA), .int (nI tB), .int (bI (((nI s.1 - 1) < 0) ∨ (¬ ((nI s.1 - 1) ≤ (nI (gA + gB)))))), z12]) dX10_layGifts_305 rfl rfl (b := 1) rfl rfl rfl (by decide) rfl ?_
        refine j_goto (tgt := 37) dX10_layGifts_308 rfl ?_
        have hcode : (fun c s => gLf (nedF S.v a t) (nedF S.v b t) (gIn (S.v 5) c (S.v 0 4) 0 0 0 0 0) s) c s = gLf (nedF S.v a t) (nedF S.v b t) (gA, gB, tA, tB) s := by show gLf _ _ (gIn (S.v 5) c (S.v 0 4) 0 0 0 0 0) s = _; rw [hG, ← hfin]
        have na := nedF_iff S.v a t gA
        have nb := nedF_iff S.v b t gB
        have e : gLf (nedF S.v a t) (nedF S.v b t) (gA, gB, tA, tB) s = s := by
          unfold gLf
          rw [if_neg]
          rintro ⟨k1, k2, k3⟩
          have k1 : s.1 = 0 ∨ gA + gB + 1 < s.1 := k1
          first
            | (have := na.mpr k2; omega)
            | (have := nb.mpr k3; omega)
            | (have hb2 : ¬ (nI s.1 - 1 < 0 ∨ ¬ nI s.1 - 1 ≤ nI (gA + gB)) := by assumption
               rw [m1_neg (by omega), m1_leN (by omega) (by omega)] at hb2
               omega)
        exact hk s Ia _ _ _ _ _ _ _ hO hI3 hl hq hz hb (by rw [hcode, e])
      · refine j_aload_n dX10_layGifts_214 rfl rfl rfl ?_
        refine j_aload_n dX10_layGifts_215 rfl rfl rfl ?_
        refine j_getP (b := 34) dX10_layGifts_216 rfl fX10_7 rfl (by decide) rfl rfl ?_
        refine j_bipush (v := nI 7) dX10_layGifts_219 rfl rfl ?_
        refine j_iload_n dX10_layGifts_221 rfl rfl rfl ?_
        refine j_iaddN (c := 7 + a) dX10_layGifts_222 rfl rfl ?_
        refine j_iald (j := 7 + a) (v := nI (S.v 1 a)) dX10_layGifts_223 rfl rfl (by decide) rfl (by omega) (by decide) (hM.kd (by omega)) ?_
        refine j_aload_n dX10_layGifts_224 rfl rfl rfl ?_
        refine j_getP (b := 34) dX10_layGifts_225 rfl fX10_7 rfl (by decide) rfl rfl ?_
        refine j_bipush (v := nI 13) dX10_layGifts_228 rfl rfl ?_
        refine j_iload_n dX10_layGifts_230 rfl rfl rfl ?_
        refine j_iaddN (c := 13 + a) dX10_layGifts_231 rfl rfl ?_
        refine j_iald (j := 13 + a) (v := nI (S.v 2 a)) dX10_layGifts_232 rfl rfl (by decide) rfl (by omega) (by decide) (hM.lv (by omega)) ?_
        refine j_iload dX10_layGifts_233 rfl rfl ?_
        refine j_iaddN (c := (S.v 2 a) + gA) dX10_layGifts_235 rfl rfl ?_
        refine j_iload_n dX10_layGifts_236 rfl rfl rfl ?_
        refine j_aload_n dX10_layGifts_237 rfl rfl rfl ?_
        refine j_getP (b := 34) dX10_layGifts_238 rfl fX10_7 rfl (by decide) rfl rfl ?_
        refine j_iconst (v := nI 4) dX10_layGifts_241 rfl rfl ?_
        refine j_iald (j := 4) (v := nI (S.v 0 2)) dX10_layGifts_242 rfl rfl (by decide) rfl (by decide) (by decide) hM.mr ?_
        refine j_callVw (As := [.int (nI (S.v 1 a)), .int (nI ((S.v 2 a) + gA)), .int (nI t), .int (nI (S.v 0 2))]) dX10_layGifts_243 rfl cX10_130 (by decide) rfl rfl (by decide) rfl (by decide) rfl rfl (c_mleftOf hM (wp a ha).1 (by have := (wp a ha).2.1; omega) (by omega) (by omega) w1 w2 ?_)
        have hlla := lft_le (S.v 1 a) (S.v 0 1) (S.v 0 2) t (S.v 0 0) (S.v 2 a + gA)
        show Rj _ _ _ _ _ _ 246 [.ref 33, .int (nI a), .int (nI b), .int (nI t), .int (nI w), .int (nI c), .int (nI u), .int (nI gA), .int (nI gB), .int (nI tA), .int (nI tB), .int (bI (((nI s.1 - 1) < 0) ∨ (¬ ((nI s.1 - 1) ≤ (nI (gA + gB)))))), z12] [.int (nI (lft (S.v 1 a) (S.v 0 1) (S.v 0 2) (S.v 0 0) (S.v 2 a + gA) t))] n Ia J (Pg i0 i1)
        refine j_ifleN (tgt := 305) dX10_layGifts_246 rfl rfl (by omega) (fun h6 => ?_) (fun h6 => ?_)
        · refine j_iincN (L' := [.ref 33, .int (nI a), .int (nI b), .int (nI t), .int (nI w), .int (nI (c + 1)), .int (nI u), .int (nI gA), .int (nI gB), .int (nI tA), .int (nI tB), .int (bI (((nI s.1 - 1) < 0) ∨ (¬ ((nI s.1 - 1) ≤ (nI (gA + gB)))))), z12]) dX10_layGifts_305 rfl rfl (b := 1) rfl rfl rfl (by decide) rfl ?_
          refine j_goto (tgt := 37) dX10_layGifts_308 rfl ?_
          have hcode : (fun c s => gLf (nedF S.v a t) (nedF S.v b t) (gIn (S.v 5) c (S.v 0 4) 0 0 0 0 0) s) c s = gLf (nedF S.v a t) (nedF S.v b t) (gA, gB, tA, tB) s := by show gLf _ _ (gIn (S.v 5) c (S.v 0 4) 0 0 0 0 0) s = _; rw [hG, ← hfin]
          have na := nedF_iff S.v a t gA
          have nb := nedF_iff S.v b t gB
          have e : gLf (nedF S.v a t) (nedF S.v b t) (gA, gB, tA, tB) s = s := by
            unfold gLf
            rw [if_neg]
            rintro ⟨k1, k2, k3⟩
            have k1 : s.1 = 0 ∨ gA + gB + 1 < s.1 := k1
            first
              | (have := na.mpr k2; omega)
              | (have := nb.mpr k3; omega)
              | (have hb2 : ¬ (nI s.1 - 1 < 0 ∨ ¬ nI s.1 - 1 ≤ nI (gA + gB)) := by assumption
                 rw [m1_neg (by omega), m1_leN (by omega) (by omega)] at hb2
                 omega)
          exact hk s Ia _ _ _ _ _ _ _ hO hI3 hl hq hz hb (by rw [hcode, e])
        · refine j_aload_n dX10_layGifts_249 rfl rfl rfl ?_
          refine j_aload_n dX10_layGifts_250 rfl rfl rfl ?_
          refine j_getP (b := 34) dX10_layGifts_251 rfl fX10_7 rfl (by decide) rfl rfl ?_
          refine j_bipush (v := nI 7) dX10_layGifts_254 rfl rfl ?_
          refine j_iload_n dX10_layGifts_256 rfl rfl rfl ?_
          refine j_iaddN (c := 7 + b) dX10_layGifts_257 rfl rfl ?_
          refine j_iald (j := 7 + b) (v := nI (S.v 1 b)) dX10_layGifts_258 rfl rfl (by decide) rfl (by omega) (by decide) (hM.kd (by omega)) ?_
          refine j_aload_n dX10_layGifts_259 rfl rfl rfl ?_
          refine j_getP (b := 34) dX10_layGifts_260 rfl fX10_7 rfl (by decide) rfl rfl ?_
          refine j_bipush (v := nI 13) dX10_layGifts_263 rfl rfl ?_
          refine j_iload_n dX10_layGifts_265 rfl rfl rfl ?_
          refine j_iaddN (c := 13 + b) dX10_layGifts_266 rfl rfl ?_
          refine j_iald (j := 13 + b) (v := nI (S.v 2 b)) dX10_layGifts_267 rfl rfl (by decide) rfl (by omega) (by decide) (hM.lv (by omega)) ?_
          refine j_iload dX10_layGifts_268 rfl rfl ?_
          refine j_iaddN (c := (S.v 2 b) + gB) dX10_layGifts_270 rfl rfl ?_
          refine j_iload_n dX10_layGifts_271 rfl rfl rfl ?_
          refine j_aload_n dX10_layGifts_272 rfl rfl rfl ?_
          refine j_getP (b := 34) dX10_layGifts_273 rfl fX10_7 rfl (by decide) rfl rfl ?_
          refine j_iconst (v := nI 4) dX10_layGifts_276 rfl rfl ?_
          refine j_iald (j := 4) (v := nI (S.v 0 2)) dX10_layGifts_277 rfl rfl (by decide) rfl (by decide) (by decide) hM.mr ?_
          refine j_callVw (As := [.int (nI (S.v 1 b)), .int (nI ((S.v 2 b) + gB)), .int (nI t), .int (nI (S.v 0 2))]) dX10_layGifts_278 rfl cX10_130 (by decide) rfl rfl (by decide) rfl (by decide) rfl rfl (c_mleftOf hM (wp b hb0).1 (by have := (wp b hb0).2.1; omega) (by omega) (by omega) w1 w2 ?_)
          have hllb := lft_le (S.v 1 b) (S.v 0 1) (S.v 0 2) t (S.v 0 0) (S.v 2 b + gB)
          show Rj _ _ _ _ _ _ 281 [.ref 33, .int (nI a), .int (nI b), .int (nI t), .int (nI w), .int (nI c), .int (nI u), .int (nI gA), .int (nI gB), .int (nI tA), .int (nI tB), .int (bI (((nI s.1 - 1) < 0) ∨ (¬ ((nI s.1 - 1) ≤ (nI (gA + gB)))))), z12] [.int (nI (lft (S.v 1 b) (S.v 0 1) (S.v 0 2) (S.v 0 0) (S.v 2 b + gB) t))] n Ia J (Pg i0 i1)
          refine j_ifleN (tgt := 305) dX10_layGifts_281 rfl rfl (by omega) (fun h7 => ?_) (fun h7 => ?_)
          · refine j_iincN (L' := [.ref 33, .int (nI a), .int (nI b), .int (nI t), .int (nI w), .int (nI (c + 1)), .int (nI u), .int (nI gA), .int (nI gB), .int (nI tA), .int (nI tB), .int (bI (((nI s.1 - 1) < 0) ∨ (¬ ((nI s.1 - 1) ≤ (nI (gA + gB)))))), z12]) dX10_layGifts_305 rfl rfl (b := 1) rfl rfl rfl (by decide) rfl ?_
            refine j_goto (tgt := 37) dX10_layGifts_308 rfl ?_
            have hcode : (fun c s => gLf (nedF S.v a t) (nedF S.v b t) (gIn (S.v 5) c (S.v 0 4) 0 0 0 0 0) s) c s = gLf (nedF S.v a t) (nedF S.v b t) (gA, gB, tA, tB) s := by show gLf _ _ (gIn (S.v 5) c (S.v 0 4) 0 0 0 0 0) s = _; rw [hG, ← hfin]
            have na := nedF_iff S.v a t gA
            have nb := nedF_iff S.v b t gB
            have e : gLf (nedF S.v a t) (nedF S.v b t) (gA, gB, tA, tB) s = s := by
              unfold gLf
              rw [if_neg]
              rintro ⟨k1, k2, k3⟩
              have k1 : s.1 = 0 ∨ gA + gB + 1 < s.1 := k1
              first
                | (have := na.mpr k2; omega)
                | (have := nb.mpr k3; omega)
                | (have hb2 : ¬ (nI s.1 - 1 < 0 ∨ ¬ nI s.1 - 1 ≤ nI (gA + gB)) := by assumption
                   rw [m1_neg (by omega), m1_leN (by omega) (by omega)] at hb2
                   omega)
            exact hk s Ia _ _ _ _ _ _ _ hO hI3 hl hq hz hb (by rw [hcode, e])
          · refine j_aload_n dX10_layGifts_284 rfl rfl rfl ?_
            refine j_iload dX10_layGifts_285 rfl rfl ?_
            refine j_iload dX10_layGifts_287 rfl rfl ?_
            refine j_iaddN (c := gA + gB) dX10_layGifts_289 rfl rfl ?_
            refine j_putI dX10_layGifts_290 rfl fX10_148 rfl (by decide) rfl rfl ?_
            refine j_aload_n dX10_layGifts_293 rfl rfl rfl ?_
            refine j_iload dX10_layGifts_294 rfl rfl ?_
            refine j_putI dX10_layGifts_296 rfl fX10_151 rfl (by decide) rfl rfl ?_
            refine j_aload_n dX10_layGifts_299 rfl rfl rfl ?_
            refine j_iload dX10_layGifts_300 rfl rfl ?_
            refine j_putI dX10_layGifts_302 rfl fX10_154 rfl (by decide) rfl rfl ?_
            refine j_iincN (L' := [.ref 33, .int (nI a), .int (nI b), .int (nI t), .int (nI w), .int (nI (c + 1)), .int (nI u), .int (nI gA), .int (nI gB), .int (nI tA), .int (nI tB), .int (bI (((nI s.1 - 1) < 0) ∨ (¬ ((nI s.1 - 1) ≤ (nI (gA + gB)))))), z12]) dX10_layGifts_305 rfl rfl (b := 1) rfl rfl rfl (by decide) rfl ?_
            refine j_goto (tgt := 37) dX10_layGifts_308 rfl ?_
            have hcode : (fun c s => gLf (nedF S.v a t) (nedF S.v b t) (gIn (S.v 5) c (S.v 0 4) 0 0 0 0 0) s) c s = gLf (nedF S.v a t) (nedF S.v b t) (gA, gB, tA, tB) s := by show gLf _ _ (gIn (S.v 5) c (S.v 0 4) 0 0 0 0 0) s = _; rw [hG, ← hfin]
            have na := nedF_iff S.v a t gA
            have nb := nedF_iff S.v b t gB
            have hb2 : nI s.1 - 1 < 0 ∨ ¬ nI s.1 - 1 ≤ nI (gA + gB) := by assumption
            rw [m1_neg (by omega), m1_leN (by omega) (by omega)] at hb2
            have e : gLf (nedF S.v a t) (nedF S.v b t) (gA, gB, tA, tB) s = (gA + gB + 1, tA + 1, tB + 1) := by unfold gLf; rw [if_pos (by refine ⟨?_, na.mp (by omega), nb.mp (by omega)⟩; show s.1 = 0 ∨ gA + gB + 1 < s.1; omega)]
            refine hk (gA + gB + 1, tA + 1, tB + 1) _ _ _ _ _ _ _ _ (fun a ha => by rw [u2_ne _ _ _ ha, u2_ne _ _ _ ha, u2_ne _ _ _ ha]; exact hO a ha) (fun k hk => by rw [u2_ne2 _ _ _ (by omega), u2_ne2 _ _ _ (by omega), u2_ne2 _ _ _ (by omega)]; exact hI3 k hk) ?_ (fun _ => ⟨?_, ?_⟩) (fun q => absurd q (Nat.succ_ne_zero _)) (by show gA + gB + 1 ≤ 400; omega) (by rw [hcode, e])
            · rw [u2_ne2 _ _ _ (by omega), u2_ne2 _ _ _ (by omega), u2_self]; exact (nI_pred _).symm
            · rw [u2_ne2 _ _ _ (by omega), u2_self]; exact (nI_pred _).symm
            · rw [u2_self]; exact (nI_pred _).symm
    | succ r ih =>
      intro k u gA gB tA tB c s z12 Ia hkr hu hga hgb hta htb hc hG hO hI3 hl hq hz hb hk
      have hM : VM 34 0 Ia S.v := hm.v.congr (hO 34 (by omega))
      have h2a := (wp a ha).2.1
      have h2b := (wp b hb0).2.1
      obtain ⟨wq, hw1⟩ : ∃ wq, wq = 3 ^ r := ⟨_, rfl⟩
      have hu3 : u / 3 = wq := by rw [hu, hw1, Nat.pow_succ, Nat.mul_div_cancel _ (by decide)]
      have hw0 : 0 < wq := by rw [hw1]; exact Nat.pow_pos (by decide)
      have hw9 : u = wq * 3 := by rw [hu, hw1, Nat.pow_succ]
      have hu8 : u ≤ 3 ^ 8 := by rw [hu]; exact Nat.pow_le_pow_right (by omega) (by omega)
      have hpk : 2 ^ k ≤ 2 ^ 8 := Nat.pow_le_pow_right (by omega) (by omega)
      have hf5 := wk k (by omega)
      have hcw : c / wq ≤ c := Nat.div_le_self _ _
      rcases (show c / wq % 3 = 0 ∨ c / wq % 3 = 1 ∨ c / wq % 3 = 2 by omega) with hto | hto | hto
      · skip
        refine j_iload dX10_layGifts_63 rfl rfl ?_
        refine j_aload_n dX10_layGifts_65 rfl rfl rfl ?_
        refine j_getP (b := 34) dX10_layGifts_66 rfl fX10_7 rfl (by decide) rfl rfl ?_
        refine j_iconst (v := nI 1) dX10_layGifts_69 rfl rfl ?_
        refine j_iald (j := 1) (v := nI (S.v 0 4)) dX10_layGifts_70 rfl rfl (by decide) rfl (by decide) (by decide) hM.mk ?_
        refine j_icmpgeN (tgt := 183) dX10_layGifts_71 rfl rfl (by omega) (by omega) (fun h1 => by exfalso; omega) (fun h1 => ?_)
        refine j_iload dX10_layGifts_74 rfl rfl ?_
        refine j_iconst (v := nI 3) dX10_layGifts_76 rfl rfl ?_
        refine j_idivN (c := u / 3) dX10_layGifts_77 rfl (by omega) (by decide) (by decide) rfl ?_
        rw [hu3]
        refine j_istore (L' := [.ref 33, .int (nI a), .int (nI b), .int (nI t), .int (nI w), .int (nI c), .int (nI wq), .int (nI gA), .int (nI gB), .int (nI tA), .int (nI tB), .int (nI k), z12]) dX10_layGifts_78 rfl rfl (by decide) rfl ?_
        refine j_iload dX10_layGifts_80 rfl rfl ?_
        refine j_iload dX10_layGifts_82 rfl rfl ?_
        refine j_idivN (c := c / wq) dX10_layGifts_84 rfl (by omega) (by omega) (by omega) rfl ?_
        refine j_iconst (v := nI 3) dX10_layGifts_85 rfl rfl ?_
        refine j_iremN (c := (c / wq) % 3) dX10_layGifts_86 rfl (by omega) (by decide) (by decide) rfl ?_
        rw [hto]
        refine j_istore (L' := [.ref 33, .int (nI a), .int (nI b), .int (nI t), .int (nI w), .int (nI c), .int (nI wq), .int (nI gA), .int (nI gB), .int (nI tA), .int (nI tB), .int (nI k), .int (nI 0)]) dX10_layGifts_87 rfl rfl (by decide) rfl ?_
        refine j_iload dX10_layGifts_89 rfl rfl ?_
        refine j_iload dX10_layGifts_91 rfl rfl ?_
        refine j_iconst (v := nI 1) dX10_layGifts_93 rfl rfl ?_
        refine j_icmpneN (tgt := 110) dX10_layGifts_94 rfl rfl (by decide) (by decide) (fun h2 => ?_) (fun h2 => by exfalso; omega)
        refine j_iconst (v := nI 0) dX10_layGifts_110 rfl rfl ?_
        refine j_iaddN (c := gA) dX10_layGifts_111 rfl rfl ?_
        refine j_istore (L' := [.ref 33, .int (nI a), .int (nI b), .int (nI t), .int (nI w), .int (nI c), .int (nI wq), .int (nI gA), .int (nI gB), .int (nI tA), .int (nI tB), .int (nI k), .int (nI 0)]) dX10_layGifts_112 rfl rfl (by decide) rfl ?_
        refine j_iload dX10_layGifts_114 rfl rfl ?_
        refine j_iload dX10_layGifts_116 rfl rfl ?_
        refine j_iconst (v := nI 2) dX10_layGifts_118 rfl rfl ?_
        refine j_icmpneN (tgt := 135) dX10_layGifts_119 rfl rfl (by decide) (by decide) (fun h3 => ?_) (fun h3 => by exfalso; omega)
        refine j_iconst (v := nI 0) dX10_layGifts_135 rfl rfl ?_
        refine j_iaddN (c := gB) dX10_layGifts_136 rfl rfl ?_
        refine j_istore (L' := [.ref 33, .int (nI a), .int (nI b), .int (nI t), .int (nI w), .int (nI c), .int (nI wq), .int (nI gA), .int (nI gB), .int (nI tA), .int (nI tB), .int (nI k), .int (nI 0)]) dX10_layGifts_137 rfl rfl (by decide) rfl ?_
        refine j_iload dX10_layGifts_139 rfl rfl ?_
        refine j_iload dX10_layGifts_141 rfl rfl ?_
        refine j_iconst (v := nI 1) dX10_layGifts_143 rfl rfl ?_
        refine j_icmpneN (tgt := 154) dX10_layGifts_144 rfl rfl (by decide) (by decide) (fun h4 => ?_) (fun h4 => by exfalso; omega)
        refine j_iconst (v := nI 0) dX10_layGifts_154 rfl rfl ?_
        refine j_iorN (c := tA ||| 0) dX10_layGifts_155 rfl rfl ?_
        refine j_istore (L' := [.ref 33, .int (nI a), .int (nI b), .int (nI t), .int (nI w), .int (nI c), .int (nI wq), .int (nI gA), .int (nI gB), .int (nI (tA ||| 0)), .int (nI tB), .int (nI k), .int (nI 0)]) dX10_layGifts_156 rfl rfl (by decide) rfl ?_
        refine j_iload dX10_layGifts_158 rfl rfl ?_
        refine j_iload dX10_layGifts_160 rfl rfl ?_
        refine j_iconst (v := nI 2) dX10_layGifts_162 rfl rfl ?_
        refine j_icmpneN (tgt := 173) dX10_layGifts_163 rfl rfl (by decide) (by decide) (fun h5 => ?_) (fun h5 => by exfalso; omega)
        refine j_iconst (v := nI 0) dX10_layGifts_173 rfl rfl ?_
        refine j_iorN (c := tB ||| 0) dX10_layGifts_174 rfl rfl ?_
        refine j_istore (L' := [.ref 33, .int (nI a), .int (nI b), .int (nI t), .int (nI w), .int (nI c), .int (nI wq), .int (nI gA), .int (nI gB), .int (nI (tA ||| 0)), .int (nI (tB ||| 0)), .int (nI k), .int (nI 0)]) dX10_layGifts_175 rfl rfl (by decide) rfl ?_
        refine j_iincN (L' := [.ref 33, .int (nI a), .int (nI b), .int (nI t), .int (nI w), .int (nI c), .int (nI wq), .int (nI gA), .int (nI gB), .int (nI (tA ||| 0)), .int (nI (tB ||| 0)), .int (nI (k + 1)), .int (nI 0)]) dX10_layGifts_177 rfl rfl (b := 1) rfl rfl rfl (by decide) rfl ?_
        refine j_goto (tgt := 63) dX10_layGifts_180 rfl ?_
        have e : gIn (S.v 5) c (r + 1) k gA gB tA tB = gIn (S.v 5) c r (k + 1) gA gB tA tB := by
          show (if _ then _ else if _ then _ else _) = _
          rw [← hw1, hto]
          rfl
        rw [e] at hG
        simp only [Nat.or_zero]
        refine ih (k + 1) _ _ _ _ _ c s _ Ia (by omega) hw1 (by omega) (by omega) ?_ ?_ hc hG hO hI3 hl hq hz hb hk
        · exact Nat.lt_trans hta (Nat.pow_lt_pow_right (by omega) (by omega))
        · exact Nat.lt_trans htb (Nat.pow_lt_pow_right (by omega) (by omega))
      · skip
        refine j_iload dX10_layGifts_63 rfl rfl ?_
        refine j_aload_n dX10_layGifts_65 rfl rfl rfl ?_
        refine j_getP (b := 34) dX10_layGifts_66 rfl fX10_7 rfl (by decide) rfl rfl ?_
        refine j_iconst (v := nI 1) dX10_layGifts_69 rfl rfl ?_
        refine j_iald (j := 1) (v := nI (S.v 0 4)) dX10_layGifts_70 rfl rfl (by decide) rfl (by decide) (by decide) hM.mk ?_
        refine j_icmpgeN (tgt := 183) dX10_layGifts_71 rfl rfl (by omega) (by omega) (fun h1 => by exfalso; omega) (fun h1 => ?_)
        refine j_iload dX10_layGifts_74 rfl rfl ?_
        refine j_iconst (v := nI 3) dX10_layGifts_76 rfl rfl ?_
        refine j_idivN (c := u / 3) dX10_layGifts_77 rfl (by omega) (by decide) (by decide) rfl ?_
        rw [hu3]
        refine j_istore (L' := [.ref 33, .int (nI a), .int (nI b), .int (nI t), .int (nI w), .int (nI c), .int (nI wq), .int (nI gA), .int (nI gB), .int (nI tA), .int (nI tB), .int (nI k), z12]) dX10_layGifts_78 rfl rfl (by decide) rfl ?_
        refine j_iload dX10_layGifts_80 rfl rfl ?_
        refine j_iload dX10_layGifts_82 rfl rfl ?_
        refine j_idivN (c := c / wq) dX10_layGifts_84 rfl (by omega) (by omega) (by omega) rfl ?_
        refine j_iconst (v := nI 3) dX10_layGifts_85 rfl rfl ?_
        refine j_iremN (c := (c / wq) % 3) dX10_layGifts_86 rfl (by omega) (by decide) (by decide) rfl ?_
        rw [hto]
        refine j_istore (L' := [.ref 33, .int (nI a), .int (nI b), .int (nI t), .int (nI w), .int (nI c), .int (nI wq), .int (nI gA), .int (nI gB), .int (nI tA), .int (nI tB), .int (nI k), .int (nI 1)]) dX10_layGifts_87 rfl rfl (by decide) rfl ?_
        refine j_iload dX10_layGifts_89 rfl rfl ?_
        refine j_iload dX10_layGifts_91 rfl rfl ?_
        refine j_iconst (v := nI 1) dX10_layGifts_93 rfl rfl ?_
        refine j_icmpneN (tgt := 110) dX10_layGifts_94 rfl rfl (by decide) (by decide) (fun h2 => by exfalso; omega) (fun h2 => ?_)
        refine j_aload_n dX10_layGifts_97 rfl rfl rfl ?_
        refine j_getP (b := 34) dX10_layGifts_98 rfl fX10_7 rfl (by decide) rfl rfl ?_
        refine j_bipush (v := nI 31) dX10_layGifts_101 rfl rfl ?_
        refine j_iload dX10_layGifts_103 rfl rfl ?_
        refine j_iaddN (c := 31 + k) dX10_layGifts_105 rfl rfl ?_
        refine j_iald (j := 31 + k) (v := nI (S.v 5 k)) dX10_layGifts_106 rfl rfl (by decide) rfl (by omega) (by decide) (hM.fl (by omega)) ?_
        refine j_goto (tgt := 111) dX10_layGifts_107 rfl ?_
        refine j_iaddN (c := gA + (S.v 5 k)) dX10_layGifts_111 rfl rfl ?_
        refine j_istore (L' := [.ref 33, .int (nI a), .int (nI b), .int (nI t), .int (nI w), .int (nI c), .int (nI wq), .int (nI (gA + (S.v 5 k))), .int (nI gB), .int (nI tA), .int (nI tB), .int (nI k), .int (nI 1)]) dX10_layGifts_112 rfl rfl (by decide) rfl ?_
        refine j_iload dX10_layGifts_114 rfl rfl ?_
        refine j_iload dX10_layGifts_116 rfl rfl ?_
        refine j_iconst (v := nI 2) dX10_layGifts_118 rfl rfl ?_
        refine j_icmpneN (tgt := 135) dX10_layGifts_119 rfl rfl (by decide) (by decide) (fun h3 => ?_) (fun h3 => by exfalso; omega)
        refine j_iconst (v := nI 0) dX10_layGifts_135 rfl rfl ?_
        refine j_iaddN (c := gB) dX10_layGifts_136 rfl rfl ?_
        refine j_istore (L' := [.ref 33, .int (nI a), .int (nI b), .int (nI t), .int (nI w), .int (nI c), .int (nI wq), .int (nI (gA + (S.v 5 k))), .int (nI gB), .int (nI tA), .int (nI tB), .int (nI k), .int (nI 1)]) dX10_layGifts_137 rfl rfl (by decide) rfl ?_
        refine j_iload dX10_layGifts_139 rfl rfl ?_
        refine j_iload dX10_layGifts_141 rfl rfl ?_
        refine j_iconst (v := nI 1) dX10_layGifts_143 rfl rfl ?_
        refine j_icmpneN (tgt := 154) dX10_layGifts_144 rfl rfl (by decide) (by decide) (fun h4 => by exfalso; omega) (fun h4 => ?_)
        refine j_iconst (v := nI 1) dX10_layGifts_147 rfl rfl ?_
        refine j_iload dX10_layGifts_148 rfl rfl ?_
        refine j_ishlN (c := 2 ^ k) dX10_layGifts_150 rfl (by omega) (Nat.one_mul _) ?_
        refine j_goto (tgt := 155) dX10_layGifts_151 rfl ?_
        refine j_iorN (c := tA ||| (2 ^ k)) dX10_layGifts_155 rfl rfl ?_
        refine j_istore (L' := [.ref 33, .int (nI a), .int (nI b), .int (nI t), .int (nI w), .int (nI c), .int (nI wq), .int (nI (gA + (S.v 5 k))), .int (nI gB), .int (nI (tA ||| (2 ^ k))), .int (nI tB), .int (nI k), .int (nI 1)]) dX10_layGifts_156 rfl rfl (by decide) rfl ?_
        refine j_iload dX10_layGifts_158 rfl rfl ?_
        refine j_iload dX10_layGifts_160 rfl rfl ?_
        refine j_iconst (v := nI 2) dX10_layGifts_162 rfl rfl ?_
        refine j_icmpneN (tgt := 173) dX10_layGifts_163 rfl rfl (by decide) (by decide) (fun h5 => ?_) (fun h5 => by exfalso; omega)
        refine j_iconst (v := nI 0) dX10_layGifts_173 rfl rfl ?_
        refine j_iorN (c := tB ||| 0) dX10_layGifts_174 rfl rfl ?_
        refine j_istore (L' := [.ref 33, .int (nI a), .int (nI b), .int (nI t), .int (nI w), .int (nI c), .int (nI wq), .int (nI (gA + (S.v 5 k))), .int (nI gB), .int (nI (tA ||| (2 ^ k))), .int (nI (tB ||| 0)), .int (nI k), .int (nI 1)]) dX10_layGifts_175 rfl rfl (by decide) rfl ?_
        refine j_iincN (L' := [.ref 33, .int (nI a), .int (nI b), .int (nI t), .int (nI w), .int (nI c), .int (nI wq), .int (nI (gA + (S.v 5 k))), .int (nI gB), .int (nI (tA ||| (2 ^ k))), .int (nI (tB ||| 0)), .int (nI (k + 1)), .int (nI 1)]) dX10_layGifts_177 rfl rfl (b := 1) rfl rfl rfl (by decide) rfl ?_
        refine j_goto (tgt := 63) dX10_layGifts_180 rfl ?_
        have e : gIn (S.v 5) c (r + 1) k gA gB tA tB = gIn (S.v 5) c r (k + 1) (gA + S.v 5 k) gB (tA ||| 2 ^ k) tB := by
          show (if _ then _ else if _ then _ else _) = _
          rw [← hw1, hto]
          rfl
        rw [e] at hG
        simp only [Nat.or_zero]
        refine ih (k + 1) _ _ _ _ _ c s _ Ia (by omega) hw1 (by omega) (by omega) ?_ ?_ hc hG hO hI3 hl hq hz hb hk
        · exact bor hta
        · exact Nat.lt_trans htb (Nat.pow_lt_pow_right (by omega) (by omega))
      · skip
        refine j_iload dX10_layGifts_63 rfl rfl ?_
        refine j_aload_n dX10_layGifts_65 rfl rfl rfl ?_
        refine j_getP (b := 34) dX10_layGifts_66 rfl fX10_7 rfl (by decide) rfl rfl ?_
        refine j_iconst (v := nI 1) dX10_layGifts_69 rfl rfl ?_
        refine j_iald (j := 1) (v := nI (S.v 0 4)) dX10_layGifts_70 rfl rfl (by decide) rfl (by decide) (by decide) hM.mk ?_
        refine j_icmpgeN (tgt := 183) dX10_layGifts_71 rfl rfl (by omega) (by omega) (fun h1 => by exfalso; omega) (fun h1 => ?_)
        refine j_iload dX10_layGifts_74 rfl rfl ?_
        refine j_iconst (v := nI 3) dX10_layGifts_76 rfl rfl ?_
        refine j_idivN (c := u / 3) dX10_layGifts_77 rfl (by omega) (by decide) (by decide) rfl ?_
        rw [hu3]
        refine j_istore (L' := [.ref 33, .int (nI a), .int (nI b), .int (nI t), .int (nI w), .int (nI c), .int (nI wq), .int (nI gA), .int (nI gB), .int (nI tA), .int (nI tB), .int (nI k), z12]) dX10_layGifts_78 rfl rfl (by decide) rfl ?_
        refine j_iload dX10_layGifts_80 rfl rfl ?_
        refine j_iload dX10_layGifts_82 rfl rfl ?_
        refine j_idivN (c := c / wq) dX10_layGifts_84 rfl (by omega) (by omega) (by omega) rfl ?_
        refine j_iconst (v := nI 3) dX10_layGifts_85 rfl rfl ?_
        refine j_iremN (c := (c / wq) % 3) dX10_layGifts_86 rfl (by omega) (by decide) (by decide) rfl ?_
        rw [hto]
        refine j_istore (L' := [.ref 33, .int (nI a), .int (nI b), .int (nI t), .int (nI w), .int (nI c), .int (nI wq), .int (nI gA), .int (nI gB), .int (nI tA), .int (nI tB), .int (nI k), .int (nI 2)]) dX10_layGifts_87 rfl rfl (by decide) rfl ?_
        refine j_iload dX10_layGifts_89 rfl rfl ?_
        refine j_iload dX10_layGifts_91 rfl rfl ?_
        refine j_iconst (v := nI 1) dX10_layGifts_93 rfl rfl ?_
        refine j_icmpneN (tgt := 110) dX10_layGifts_94 rfl rfl (by decide) (by decide) (fun h2 => ?_) (fun h2 => by exfalso; omega)
        refine j_iconst (v := nI 0) dX10_layGifts_110 rfl rfl ?_
        refine j_iaddN (c := gA) dX10_layGifts_111 rfl rfl ?_
        refine j_istore (L' := [.ref 33, .int (nI a), .int (nI b), .int (nI t), .int (nI w), .int (nI c), .int (nI wq), .int (nI gA), .int (nI gB), .int (nI tA), .int (nI tB), .int (nI k), .int (nI 2)]) dX10_layGifts_112 rfl rfl (by decide) rfl ?_
        refine j_iload dX10_layGifts_114 rfl rfl ?_
        refine j_iload dX10_layGifts_116 rfl rfl ?_
        refine j_iconst (v := nI 2) dX10_layGifts_118 rfl rfl ?_
        refine j_icmpneN (tgt := 135) dX10_layGifts_119 rfl rfl (by decide) (by decide) (fun h3 => by exfalso; omega) (fun h3 => ?_)
        refine j_aload_n dX10_layGifts_122 rfl rfl rfl ?_
        refine j_getP (b := 34) dX10_layGifts_123 rfl fX10_7 rfl (by decide) rfl rfl ?_
        refine j_bipush (v := nI 31) dX10_layGifts_126 rfl rfl ?_
        refine j_iload dX10_layGifts_128 rfl rfl ?_
        refine j_iaddN (c := 31 + k) dX10_layGifts_130 rfl rfl ?_
        refine j_iald (j := 31 + k) (v := nI (S.v 5 k)) dX10_layGifts_131 rfl rfl (by decide) rfl (by omega) (by decide) (hM.fl (by omega)) ?_
        refine j_goto (tgt := 136) dX10_layGifts_132 rfl ?_
        refine j_iaddN (c := gB + (S.v 5 k)) dX10_layGifts_136 rfl rfl ?_
        refine j_istore (L' := [.ref 33, .int (nI a), .int (nI b), .int (nI t), .int (nI w), .int (nI c), .int (nI wq), .int (nI gA), .int (nI (gB + (S.v 5 k))), .int (nI tA), .int (nI tB), .int (nI k), .int (nI 2)]) dX10_layGifts_137 rfl rfl (by decide) rfl ?_
        refine j_iload dX10_layGifts_139 rfl rfl ?_
        refine j_iload dX10_layGifts_141 rfl rfl ?_
        refine j_iconst (v := nI 1) dX10_layGifts_143 rfl rfl ?_
        refine j_icmpneN (tgt := 154) dX10_layGifts_144 rfl rfl (by decide) (by decide) (fun h4 => ?_) (fun h4 => by exfalso; omega)
        refine j_iconst (v := nI 0) dX10_layGifts_154 rfl rfl ?_
        refine j_iorN (c := tA ||| 0) dX10_layGifts_155 rfl rfl ?_
        refine j_istore (L' := [.ref 33, .int (nI a), .int (nI b), .int (nI t), .int (nI w), .int (nI c), .int (nI wq), .int (nI gA), .int (nI (gB + (S.v 5 k))), .int (nI (tA ||| 0)), .int (nI tB), .int (nI k), .int (nI 2)]) dX10_layGifts_156 rfl rfl (by decide) rfl ?_
        refine j_iload dX10_layGifts_158 rfl rfl ?_
        refine j_iload dX10_layGifts_160 rfl rfl ?_
        refine j_iconst (v := nI 2) dX10_layGifts_162 rfl rfl ?_
        refine j_icmpneN (tgt := 173) dX10_layGifts_163 rfl rfl (by decide) (by decide) (fun h5 => by exfalso; omega) (fun h5 => ?_)
        refine j_iconst (v := nI 1) dX10_layGifts_166 rfl rfl ?_
        refine j_iload dX10_layGifts_167 rfl rfl ?_
        refine j_ishlN (c := 2 ^ k) dX10_layGifts_169 rfl (by omega) (Nat.one_mul _) ?_
        refine j_goto (tgt := 174) dX10_layGifts_170 rfl ?_
        refine j_iorN (c := tB ||| (2 ^ k)) dX10_layGifts_174 rfl rfl ?_
        refine j_istore (L' := [.ref 33, .int (nI a), .int (nI b), .int (nI t), .int (nI w), .int (nI c), .int (nI wq), .int (nI gA), .int (nI (gB + (S.v 5 k))), .int (nI (tA ||| 0)), .int (nI (tB ||| (2 ^ k))), .int (nI k), .int (nI 2)]) dX10_layGifts_175 rfl rfl (by decide) rfl ?_
        refine j_iincN (L' := [.ref 33, .int (nI a), .int (nI b), .int (nI t), .int (nI w), .int (nI c), .int (nI wq), .int (nI gA), .int (nI (gB + (S.v 5 k))), .int (nI (tA ||| 0)), .int (nI (tB ||| (2 ^ k))), .int (nI (k + 1)), .int (nI 2)]) dX10_layGifts_177 rfl rfl (b := 1) rfl rfl rfl (by decide) rfl ?_
        refine j_goto (tgt := 63) dX10_layGifts_180 rfl ?_
        have e : gIn (S.v 5) c (r + 1) k gA gB tA tB = gIn (S.v 5) c r (k + 1) gA (gB + S.v 5 k) tA (tB ||| 2 ^ k) := by
          show (if _ then _ else if _ then _ else _) = _
          rw [← hw1, hto]
          rfl
        rw [e] at hG
        simp only [Nat.or_zero]
        refine ih (k + 1) _ _ _ _ _ c s _ Ia (by omega) hw1 (by omega) (by omega) ?_ ?_ hc hG hO hI3 hl hq hz hb hk
        · exact Nat.lt_trans hta (Nat.pow_lt_pow_right (by omega) (by omega))
        · exact bor htb
  have outer : ∀ (r c : Nat) (s T : Nat × Nat × Nat) (z6 z7 z8 z9 z10 z11 z12 : Value) (Ia : HI), c + r = w → (∀ a, a ≠ 33 → Ia a = I a) → (∀ k, k < 17 → Ia 33 k = I 33 k) → Ia 33 17 = nI s.1 - 1 → (¬ s.1 = 0 → Ia 33 18 = nI s.2.1 - 1 ∧ Ia 33 19 = nI s.2.2 - 1) → (s.1 = 0 → s = (0, 0, 0)) → s.1 ≤ 400 → gRun (fun c s => gLf (nedF S.v a t) (nedF S.v b t) (gIn (S.v 5) c (S.v 0 4) 0 0 0 0 0) s) r c s = T → (∀ I', (∀ a, a ≠ 33 → I' a = I a) → (∀ k, k < 17 → I' 33 k = I 33 k) → I' 33 17 = nI T.1 - 1 → (¬ T.1 = 0 → I' 33 18 = nI T.2.1 - 1 ∧ I' 33 19 = nI T.2.2 - 1) → (T.1 = 0 → T = (0, 0, 0)) → T.1 ≤ 400 → Q none n I' J (Pg i0 i1)) → Rj X (d + 3) 0 0 mX10_layGifts Q 37 [.ref 33, .int (nI a), .int (nI b), .int (nI t), .int (nI w), .int (nI c), z6, z7, z8, z9, z10, z11, z12] [] n Ia J (Pg i0 i1) := by
    intro r
    induction r with
    | zero =>
      intro c s T z6 z7 z8 z9 z10 z11 z12 Ia hcr hO hI3 hl hq hz hb hT hF
      refine j_iload dX10_layGifts_37 rfl rfl ?_
      refine j_iload dX10_layGifts_39 rfl rfl ?_
      refine j_icmpgeN (tgt := 311) dX10_layGifts_41 rfl rfl (by omega) (by omega) (fun h1 => ?_) (fun h1 => by exfalso; omega)
      refine j_vret dX10_layGifts_311 rfl ?_
      subst hT
      exact hF _ hO hI3 hl hq hz hb
    | succ r ih =>
      intro c s T z6 z7 z8 z9 z10 z11 z12 Ia hcr hO hI3 hl hq hz hb hT hF
      refine j_iload dX10_layGifts_37 rfl rfl ?_
      refine j_iload dX10_layGifts_39 rfl rfl ?_
      refine j_icmpgeN (tgt := 311) dX10_layGifts_41 rfl rfl (by omega) (by omega) (fun h1 => by exfalso; omega) (fun h1 => ?_)
      refine j_iload dX10_layGifts_44 rfl rfl ?_
      refine j_istore (L' := [.ref 33, .int (nI a), .int (nI b), .int (nI t), .int (nI w), .int (nI c), .int (nI w), z7, z8, z9, z10, z11, z12]) dX10_layGifts_46 rfl rfl (by decide) rfl ?_
      refine j_iconst (v := nI 0) dX10_layGifts_48 rfl rfl ?_
      refine j_istore (L' := [.ref 33, .int (nI a), .int (nI b), .int (nI t), .int (nI w), .int (nI c), .int (nI w), .int (nI 0), z8, z9, z10, z11, z12]) dX10_layGifts_49 rfl rfl (by decide) rfl ?_
      refine j_iconst (v := nI 0) dX10_layGifts_51 rfl rfl ?_
      refine j_istore (L' := [.ref 33, .int (nI a), .int (nI b), .int (nI t), .int (nI w), .int (nI c), .int (nI w), .int (nI 0), .int (nI 0), z9, z10, z11, z12]) dX10_layGifts_52 rfl rfl (by decide) rfl ?_
      refine j_iconst (v := nI 0) dX10_layGifts_54 rfl rfl ?_
      refine j_istore (L' := [.ref 33, .int (nI a), .int (nI b), .int (nI t), .int (nI w), .int (nI c), .int (nI w), .int (nI 0), .int (nI 0), .int (nI 0), z10, z11, z12]) dX10_layGifts_55 rfl rfl (by decide) rfl ?_
      refine j_iconst (v := nI 0) dX10_layGifts_57 rfl rfl ?_
      refine j_istore (L' := [.ref 33, .int (nI a), .int (nI b), .int (nI t), .int (nI w), .int (nI c), .int (nI w), .int (nI 0), .int (nI 0), .int (nI 0), .int (nI 0), z11, z12]) dX10_layGifts_58 rfl rfl (by decide) rfl ?_
      refine j_iconst (v := nI 0) dX10_layGifts_60 rfl rfl ?_
      refine j_istore (L' := [.ref 33, .int (nI a), .int (nI b), .int (nI t), .int (nI w), .int (nI c), .int (nI w), .int (nI 0), .int (nI 0), .int (nI 0), .int (nI 0), .int (nI 0), z12]) dX10_layGifts_61 rfl rfl (by decide) rfl ?_
      exact inner (S.v 0 4) 0 w 0 0 0 0 c s _ Ia (by omega) hw (by omega) (by omega) (by omega) (by omega) (by omega) rfl hO hI3 hl hq hz hb (fun s2 I2 z6 z7 z8 z9 z10 z11 z12 k1 k2 k3 k4 k5 k6 k7 => ih (c + 1) s2 T z6 z7 z8 z9 z10 z11 z12 I2 (by omega) k1 k2 k3 k4 k5 k6 (by rw [k7]; exact hT) hF)
  have l1 : ∀ (r k w0 : Nat), k + r = S.v 0 4 → w0 = 3 ^ k → Rj X (d + 3) 0 0 mX10_layGifts Q 6 [.ref 33, .int (nI a), .int (nI b), .int (nI t), .int (nI w0), .int (nI k), jU, jU, jU, jU, jU, jU, jU] [] n I J (Pg i0 i1) := by
    intro r
    induction r with
    | zero =>
      intro k w0 hkr hw0
      refine j_iload dX10_layGifts_6 rfl rfl ?_
      refine j_aload_n dX10_layGifts_8 rfl rfl rfl ?_
      refine j_getP (b := 34) dX10_layGifts_9 rfl fX10_7 rfl (by decide) rfl rfl ?_
      refine j_iconst (v := nI 1) dX10_layGifts_12 rfl rfl ?_
      refine j_iald (j := 1) (v := nI (S.v 0 4)) dX10_layGifts_13 rfl rfl (by decide) rfl (by decide) (by decide) hm.v.mk ?_
      refine j_icmpgeN (tgt := 29) dX10_layGifts_14 rfl rfl (by omega) (by omega) (fun h1 => ?_) (fun h1 => by exfalso; omega)
      refine j_aload_n dX10_layGifts_29 rfl rfl rfl ?_
      refine j_iconst (v := (-1)) dX10_layGifts_30 rfl rfl ?_
      refine j_putI dX10_layGifts_31 rfl fX10_148 rfl (by decide) rfl rfl ?_
      refine j_iconst (v := nI 0) dX10_layGifts_34 rfl rfl ?_
      refine j_istore (L' := [.ref 33, .int (nI a), .int (nI b), .int (nI t), .int (nI w0), .int (nI 0), jU, jU, jU, jU, jU, jU, jU]) dX10_layGifts_35 rfl rfl (by decide) rfl ?_
      have hw1 : w0 = w := by rw [hw0, hw, show k = S.v 0 4 by omega]
      subst hw1
      refine outer w0 0 (0, 0, 0) _ _ _ _ _ _ _ _ _ (by omega) (fun a ha => u2_ne _ _ _ ha) (fun k hk => u2_ne2 _ _ _ (by omega)) (by rw [u2_self]; rfl) (fun q => absurd rfl q) (fun _ => rfl) (by show 0 ≤ 400; omega) rfl ?_
      have e := gEn_run (S.v 5) (nedF S.v a t) (nedF S.v b t) (S.v 0 4) 0 0 0 0 0 (0, 0, 0) 0
      rw [Nat.zero_mul, ← hw, ← shr_gEn] at e
      rw [← e]
      exact hQ
    | succ r ih =>
      intro k w0 hkr hw0
      refine j_iload dX10_layGifts_6 rfl rfl ?_
      refine j_aload_n dX10_layGifts_8 rfl rfl rfl ?_
      refine j_getP (b := 34) dX10_layGifts_9 rfl fX10_7 rfl (by decide) rfl rfl ?_
      refine j_iconst (v := nI 1) dX10_layGifts_12 rfl rfl ?_
      refine j_iald (j := 1) (v := nI (S.v 0 4)) dX10_layGifts_13 rfl rfl (by decide) rfl (by decide) (by decide) hm.v.mk ?_
      refine j_icmpgeN (tgt := 29) dX10_layGifts_14 rfl rfl (by omega) (by omega) (fun h1 => by exfalso; omega) (fun h1 => ?_)
      have h38 : w0 ≤ 3 ^ 8 := by rw [hw0]; exact Nat.pow_le_pow_right (by omega) (by omega)
      refine j_iload dX10_layGifts_17 rfl rfl ?_
      refine j_iconst (v := nI 3) dX10_layGifts_19 rfl rfl ?_
      refine j_imulN (c := w0 * 3) dX10_layGifts_20 rfl rfl ?_
      refine j_istore (L' := [.ref 33, .int (nI a), .int (nI b), .int (nI t), .int (nI (w0 * 3)), .int (nI k), jU, jU, jU, jU, jU, jU, jU]) dX10_layGifts_21 rfl rfl (by decide) rfl ?_
      refine j_iincN (L' := [.ref 33, .int (nI a), .int (nI b), .int (nI t), .int (nI (w0 * 3)), .int (nI (k + 1)), jU, jU, jU, jU, jU, jU, jU]) dX10_layGifts_23 rfl rfl (b := 1) rfl rfl rfl (by decide) rfl ?_
      refine j_goto (tgt := 6) dX10_layGifts_26 rfl ?_
      exact ih (k + 1) _ (by omega) (by rw [hw0, Nat.pow_succ])
  refine j_iconst (v := nI 1) dX10_layGifts_0 rfl rfl ?_
  refine j_istore (L' := [.ref 33, .int (nI a), .int (nI b), .int (nI t), .int (nI 1), jU, jU, jU, jU, jU, jU, jU, jU]) dX10_layGifts_1 rfl rfl (by decide) rfl ?_
  refine j_iconst (v := nI 0) dX10_layGifts_3 rfl rfl ?_
  refine j_istore (L' := [.ref 33, .int (nI a), .int (nI b), .int (nI t), .int (nI 1), .int (nI 0), jU, jU, jU, jU, jU, jU, jU]) dX10_layGifts_4 rfl rfl (by decide) rfl ?_
  exact l1 (S.v 0 4) 0 1 (by omega) rfl
