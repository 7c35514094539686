theorem cntV_lt {S : SS} {n : Nat} {i0 i1 : Option Nat} {I : HI} {J : HJ} {yb : Nat} (hC : CI S n i0 i1 I J) (hW : WF yb S.v) (hyb : yb ≤ 2 ^ 12) (k : Nat) : cntV S k < 2 ^ 31 := by
  obtain ⟨⟨w0, w1, w2, w3, w4, w5, w6⟩, wp, wk, wc, wb⟩ := id hW
  have ht := hC.t.2.2.1
  have hs := sumN_60 (f := S.v 2) (S.v 0 3) (fun p hp => (wp p hp).2.1)
  unfold cntV
  split <;> omega
def oFrom (S : SS) (a : Int32) : SS × Int32 := if inA a (nI 0) (nI 1) then (match (if tN a = 0 then S.k0 else S.k1) with
  | some u => (S.set u, nI 1)
  | none => (S.no, -3)) else (S.bad, -2)
theorem imK_n {k : Option VT} {I : HI} (h : imK none k I) : k = none := by
  rcases h with h | ⟨a, u, e, _⟩
  · exact h.2
  · cases e
theorem imK_s {k : Option VT} {I : HI} {b : Nat} (h : imK (some b) k I) : ∃ u, k = some u ∧ VC b I u := by
  rcases h with h | ⟨a, u, e, e2, e3⟩
  · cases h.1
  · cases e; exact ⟨u, e2, e3⟩
theorem oFrom_n {S : SS} {j : Nat} (hj : j ≤ 1) (ha : inR (nI j) (nI 0) (nI 1)) (h : (if j = 0 then S.k0 else S.k1) = none) : oFrom S (nI j) = (S.no, -3) := by
  unfold oFrom
  rw [if_pos (by exact ha), tN_nI (by omega), h]
theorem oFrom_s {S : SS} {j : Nat} {u : VT} (hj : j ≤ 1) (ha : inR (nI j) (nI 0) (nI 1)) (h : (if j = 0 then S.k0 else S.k1) = some u) : oFrom S (nI j) = (S.set u, nI 1) := by
  unfold oFrom
  rw [if_pos (by exact ha), tN_nI (by omega), h]
set_option maxHeartbeats 4000000 in
set_option maxRecDepth 100000 in
theorem f_digest {X : jX} {d n : Nat} {I : HI} {J : HJ} {i0 i1 : Option Nat} {Q : jPost} {S : SS} {yb : Nat} (hC : CI S n i0 i1 I J) (hW : WF yb S.v) (hyb : yb ≤ 2 ^ 12) (hQ : Q (some (.long (oDigest S))) n I J (Pg i0 i1)) : Cj X (d + 3) 0 0 mX9_digest [.ref 0] n I J (Pg i0 i1) Q := by
  refine Cj.intro rfl (Nat.le_of_ble_eq_true rfl) (L := [.ref 0, jU, jU, jU]) rfl ?_
  obtain ⟨T, hT⟩ : ∃ T, oDigest S = T := ⟨_, rfl⟩
  rw [hT] at hQ
  have loop : ∀ (r k : Nat) (mm : Int64), k + r = 7 → dgS (dgS (dgV S.v (dgN S r k mm)) (lN S.up)) (lN S.lo) = T → Rj X (d + 3) 0 0 mX9_digest Q 6 [.ref 0, .long mm, jU, .int (nI k)] [] n I J (Pg i0 i1) := by
    intro r
    induction r with
    | zero =>
      intro k mm hkr hr
      refine j_iload_n dX9_digest_6 rfl rfl rfl ?_
      refine j_bipush (v := nI 6) dX9_digest_7 rfl rfl ?_
      refine j_icmpgtN (tgt := 31) dX9_digest_9 rfl rfl (by omega) (by decide) (fun h1 => ?_) (fun h1 => by exfalso; omega)
      refine j_aload_n dX9_digest_31 rfl rfl rfl ?_
      refine j_getP (b := 1) dX9_digest_32 rfl fX9_10 rfl (by decide) rfl rfl ?_
      refine j_lload_n dX9_digest_35 rfl rfl rfl ?_
      refine j_callVw (As := [.long mm]) dX9_digest_36 rfl cX9_252 (by decide) rfl rfl (by decide) rfl (by decide) rfl rfl (c_digestOn hC.v hW hyb rfl ?_)
      show Rj _ _ _ _ _ _ 39 [.ref 0, .long mm, jU, .int (nI k)] [.long (dgV S.v mm)] n I J (Pg i0 i1)
      refine j_lstore_n (L' := [.ref 0, .long (dgV S.v mm), jU, .int (nI k)]) dX9_digest_39 rfl rfl rfl (by decide) rfl ?_
      refine j_ldc2 (v := lN 31) dX9_digest_40 rfl kX9_247 ?_
      refine j_lload_n dX9_digest_43 rfl rfl rfl ?_
      refine j_lmul dX9_digest_44 rfl ?_
      refine j_aload_n dX9_digest_45 rfl rfl rfl ?_
      refine j_getP (b := 32) dX9_digest_46 rfl fX9_51 rfl (by decide) rfl rfl ?_
      refine j_getJv (v := lN S.up) dX9_digest_49 rfl fX9_226 rfl (by decide) rfl hC.f.1 ?_
      refine j_ladd dX9_digest_52 rfl ?_
      refine j_lstore_n (L' := [.ref 0, .long (((lN 31) * (dgV S.v mm)) + (lN S.up)), jU, .int (nI k)]) dX9_digest_53 rfl rfl rfl (by decide) rfl ?_
      refine j_ldc2 (v := lN 31) dX9_digest_54 rfl kX9_247 ?_
      refine j_lload_n dX9_digest_57 rfl rfl rfl ?_
      refine j_lmul dX9_digest_58 rfl ?_
      refine j_aload_n dX9_digest_59 rfl rfl rfl ?_
      refine j_getP (b := 32) dX9_digest_60 rfl fX9_51 rfl (by decide) rfl rfl ?_
      refine j_getJv (v := lN S.lo) dX9_digest_63 rfl fX9_230 rfl (by decide) rfl hC.f.2 ?_
      refine j_ladd dX9_digest_66 rfl ?_
      refine j_lret dX9_digest_67 rfl ?_
      rw [← hr] at hQ
      exact hQ
    | succ r ih =>
      intro k mm hkr hr
      have hcv := cntV_lt hC hW hyb k
      refine j_iload_n dX9_digest_6 rfl rfl rfl ?_
      refine j_bipush (v := nI 6) dX9_digest_7 rfl rfl ?_
      refine j_icmpgtN (tgt := 31) dX9_digest_9 rfl rfl (by omega) (by decide) (fun h1 => by exfalso; omega) (fun h1 => ?_)
      refine j_ldc2 (v := lN 31) dX9_digest_12 rfl kX9_247 ?_
      refine j_lload_n dX9_digest_15 rfl rfl rfl ?_
      refine j_lmul dX9_digest_16 rfl ?_
      refine j_aload_n dX9_digest_17 rfl rfl rfl ?_
      refine j_iload_n dX9_digest_18 rfl rfl rfl ?_
      refine j_callVw (As := [.int (nI k)]) dX9_digest_19 rfl cX9_249 (by decide) rfl rfl (by decide) rfl (Nat.le_of_ble_eq_true rfl) rfl rfl (c_count hC hW hyb (by omega) ?_)
      show Rj _ _ _ _ _ _ 22 [.ref 0, .long mm, jU, .int (nI k)] [.int (nI (cntV S k)), .long ((lN 31) * mm)] n I J (Pg i0 i1)
      refine j_i2lN dX9_digest_22 rfl (by omega) ?_
      refine j_ladd dX9_digest_23 rfl ?_
      refine j_lstore_n (L' := [.ref 0, .long (((lN 31) * mm) + (lN (cntV S k))), jU, .int (nI k)]) dX9_digest_24 rfl rfl rfl (by decide) rfl ?_
      refine j_iincN (L' := [.ref 0, .long (((lN 31) * mm) + (lN (cntV S k))), jU, .int (nI (k + 1))]) dX9_digest_25 rfl rfl (b := 1) rfl rfl rfl (by decide) rfl ?_
      refine j_goto (tgt := 6) dX9_digest_28 rfl ?_
      exact ih (k + 1) _ (by omega) hr
  refine j_ldc2 (v := lN 1049) dX9_digest_0 rfl kX9_245 ?_
  refine j_lstore_n (L' := [.ref 0, .long (lN 1049), jU, jU]) dX9_digest_3 rfl rfl rfl (by decide) rfl ?_
  refine j_iconst (v := nI 0) dX9_digest_4 rfl rfl ?_
  refine j_istore_n (L' := [.ref 0, .long (lN 1049), jU, .int (nI 0)]) dX9_digest_5 rfl rfl rfl (by decide) rfl ?_
  exact loop 7 0 _ rfl hT
set_option maxHeartbeats 4000000 in
set_option maxRecDepth 100000 in
theorem f_from {X : jX} {d n : Nat} {I : HI} {J : HJ} {i0 i1 : Option Nat} {Q : jPost} {S : SS} {yb : Nat} (hC : CI S n i0 i1 I J) (hW : WF yb S.v) (hyb : yb ≤ 2 ^ 12) {a : Int32} (hFew : ∀ u, (S.k0 = some u ∨ S.k1 = some u) → Few u) (hQ : CP Q (oFrom S a) I J) : Cj X (d + 3) 0 0 mX9_from [.ref 0, .int a] n I J (Pg i0 i1) Q := by
  refine Cj.intro rfl (Nat.le_of_ble_eq_true rfl) (L := [.ref 0, .int a, jU]) rfl ?_
  obtain ⟨⟨w0, w1, w2, w3, w4, w5, w6⟩, wp, wk, wc, wb⟩ := id hW
  refine j_iload_n dX9_from_0 rfl rfl rfl ?_
  refine j_iconst (v := nI 0) dX9_from_1 rfl rfl ?_
  refine j_iconst (v := nI 1) dX9_from_2 rfl rfl ?_
  refine j_callSw (As := [.int a, .int (nI 0), .int (nI 1)]) dX9_from_3 rfl cX9_71 rfl (by decide) rfl rfl (c_within (fun ha => ?_) (fun ha => ?_))
  · obtain ⟨ja, rfl, hal, hau⟩ := inR_nat (by decide) (by decide) ha
    show Rj _ _ _ _ _ _ 6 [.ref 0, .int (nI ja), jU] [.int (nI 1)] n I J (Pg i0 i1)
    refine j_ifneN (tgt := 14) dX9_from_6 rfl rfl (by decide) (fun h1 => ?_) (fun h1 => by exfalso; omega)
    obtain ⟨hk0, hk1, h3⟩ := id hC.k
    rcases (show ja = 0 ∨ ja = 1 by omega) with rfl | rfl
    · rcases h3 with ⟨rfl, rfl, rfl⟩ | ⟨rfl, ⟨rfl, rfl⟩ | ⟨rfl, rfl⟩⟩ | ⟨rfl, ⟨rfl, rfl⟩ | ⟨rfl, rfl⟩⟩
      · have e := oFrom_n (S := S) (by omega) ha (imK_n hk0)
        refine j_aload_n dX9_from_14 rfl rfl rfl ?_
        refine j_getP (b := 12) dX9_from_15 rfl fX9_16 rfl (by decide) rfl rfl ?_
        refine j_iload_n dX9_from_18 rfl rfl rfl ?_
        refine j_aaload (r := none) dX9_from_19 rfl rfl (by decide) (jin (j := 0) rfl (by decide) (by decide)).1 (by rw [(jin (j := 0) (len := 2) rfl (by decide) (by decide)).2]; rfl) ?_
        show Rj _ _ _ _ _ _ 20 [.ref 0, .int (nI 0), jU] [.null] 44 I J (Pg none none)
        refine j_astore_nN (L' := [.ref 0, .int (nI 0), .null]) dX9_from_20 rfl rfl rfl (by decide) rfl ?_
        refine j_aload_nN dX9_from_21 rfl rfl rfl ?_
        refine j_ifnonnullN dX9_from_22 rfl ?_
        refine j_aload_n dX9_from_25 rfl rfl rfl ?_
        refine j_callVw (As := []) dX9_from_26 rfl cX9_120 (by decide) rfl rfl (by decide) rfl (by decide) rfl rfl (c_no ?_)
        show Rj _ _ _ _ _ _ 29 [.ref 0, .int (nI 0), .null] [.int (-3)] 44 (u2 I 0 8 (I 0 8 + nI 1)) J (Pg none none)
        refine j_iret dX9_from_29 rfl rfl ?_
        rw [e] at hQ
        exact hQ _ _ _ _ _ hC.no MF.sta
      · obtain ⟨u, hu, hVu⟩ := imK_s hk0
        have e := oFrom_s (S := S) (u := u) (by omega) ha hu
        have hf := hFew u (Or.inl hu)
        refine j_aload_n dX9_from_14 rfl rfl rfl ?_
        refine j_getP (b := 12) dX9_from_15 rfl fX9_16 rfl (by decide) rfl rfl ?_
        refine j_iload_n dX9_from_18 rfl rfl rfl ?_
        refine j_aaload (r := some 44) dX9_from_19 rfl rfl (by decide) (jin (j := 0) rfl (by decide) (by decide)).1 (by rw [(jin (j := 0) (len := 2) rfl (by decide) (by decide)).2]; rfl) ?_
        show Rj _ _ _ _ _ _ 20 [.ref 0, .int (nI 0), jU] [.ref 44] 55 I J (Pg (some 44) none)
        refine j_astore_n (L' := [.ref 0, .int (nI 0), .ref 44]) dX9_from_20 rfl rfl rfl (by decide) rfl ?_
        refine j_aload_n dX9_from_21 rfl rfl rfl ?_
        refine j_ifnonnull (tgt := 30) dX9_from_22 rfl ?_
        refine j_aload_n dX9_from_30 rfl rfl rfl ?_
        refine j_getP (b := 1) dX9_from_31 rfl fX9_10 rfl (by decide) rfl rfl ?_
        refine j_aload_n dX9_from_34 rfl rfl rfl ?_
        refine j_callVw (As := [.ref 44]) dX9_from_35 rfl cX9_233 (by decide) rfl rfl (by decide) rfl (by decide) rfl rfl (c_copy1_44 hVu hf.1 hf.2.1 hf.2.2 (fun I1 hV1 ho1 => ?_))
        show Rj _ _ _ _ _ _ 38 [.ref 0, .int (nI 0), .ref 44] [] 55 I1 J (Pg (some 44) none)
        refine j_iconst (v := nI 1) dX9_from_38 rfl rfl ?_
        refine j_iret dX9_from_39 rfl rfl ?_
        rw [e] at hQ
        exact hQ _ _ _ _ _ (hC.one hV1 ho1) ho1.mf
      · have e := oFrom_n (S := S) (by omega) ha (imK_n hk0)
        refine j_aload_n dX9_from_14 rfl rfl rfl ?_
        refine j_getP (b := 12) dX9_from_15 rfl fX9_16 rfl (by decide) rfl rfl ?_
        refine j_iload_n dX9_from_18 rfl rfl rfl ?_
        refine j_aaload (r := none) dX9_from_19 rfl rfl (by decide) (jin (j := 0) rfl (by decide) (by decide)).1 (by rw [(jin (j := 0) (len := 2) rfl (by decide) (by decide)).2]; rfl) ?_
        show Rj _ _ _ _ _ _ 20 [.ref 0, .int (nI 0), jU] [.null] 55 I J (Pg none (some 44))
        refine j_astore_nN (L' := [.ref 0, .int (nI 0), .null]) dX9_from_20 rfl rfl rfl (by decide) rfl ?_
        refine j_aload_nN dX9_from_21 rfl rfl rfl ?_
        refine j_ifnonnullN dX9_from_22 rfl ?_
        refine j_aload_n dX9_from_25 rfl rfl rfl ?_
        refine j_callVw (As := []) dX9_from_26 rfl cX9_120 (by decide) rfl rfl (by decide) rfl (by decide) rfl rfl (c_no ?_)
        show Rj _ _ _ _ _ _ 29 [.ref 0, .int (nI 0), .null] [.int (-3)] 55 (u2 I 0 8 (I 0 8 + nI 1)) J (Pg none (some 44))
        refine j_iret dX9_from_29 rfl rfl ?_
        rw [e] at hQ
        exact hQ _ _ _ _ _ hC.no MF.sta
      · obtain ⟨u, hu, hVu⟩ := imK_s hk0
        have e := oFrom_s (S := S) (u := u) (by omega) ha hu
        have hf := hFew u (Or.inl hu)
        refine j_aload_n dX9_from_14 rfl rfl rfl ?_
        refine j_getP (b := 12) dX9_from_15 rfl fX9_16 rfl (by decide) rfl rfl ?_
        refine j_iload_n dX9_from_18 rfl rfl rfl ?_
        refine j_aaload (r := some 44) dX9_from_19 rfl rfl (by decide) (jin (j := 0) rfl (by decide) (by decide)).1 (by rw [(jin (j := 0) (len := 2) rfl (by decide) (by decide)).2]; rfl) ?_
        show Rj _ _ _ _ _ _ 20 [.ref 0, .int (nI 0), jU] [.ref 44] 66 I J (Pg (some 44) (some 55))
        refine j_astore_n (L' := [.ref 0, .int (nI 0), .ref 44]) dX9_from_20 rfl rfl rfl (by decide) rfl ?_
        refine j_aload_n dX9_from_21 rfl rfl rfl ?_
        refine j_ifnonnull (tgt := 30) dX9_from_22 rfl ?_
        refine j_aload_n dX9_from_30 rfl rfl rfl ?_
        refine j_getP (b := 1) dX9_from_31 rfl fX9_10 rfl (by decide) rfl rfl ?_
        refine j_aload_n dX9_from_34 rfl rfl rfl ?_
        refine j_callVw (As := [.ref 44]) dX9_from_35 rfl cX9_233 (by decide) rfl rfl (by decide) rfl (by decide) rfl rfl (c_copy1_44 hVu hf.1 hf.2.1 hf.2.2 (fun I1 hV1 ho1 => ?_))
        show Rj _ _ _ _ _ _ 38 [.ref 0, .int (nI 0), .ref 44] [] 66 I1 J (Pg (some 44) (some 55))
        refine j_iconst (v := nI 1) dX9_from_38 rfl rfl ?_
        refine j_iret dX9_from_39 rfl rfl ?_
        rw [e] at hQ
        exact hQ _ _ _ _ _ (hC.one hV1 ho1) ho1.mf
      · obtain ⟨u, hu, hVu⟩ := imK_s hk0
        have e := oFrom_s (S := S) (u := u) (by omega) ha hu
        have hf := hFew u (Or.inl hu)
        refine j_aload_n dX9_from_14 rfl rfl rfl ?_
        refine j_getP (b := 12) dX9_from_15 rfl fX9_16 rfl (by decide) rfl rfl ?_
        refine j_iload_n dX9_from_18 rfl rfl rfl ?_
        refine j_aaload (r := some 55) dX9_from_19 rfl rfl (by decide) (jin (j := 0) rfl (by decide) (by decide)).1 (by rw [(jin (j := 0) (len := 2) rfl (by decide) (by decide)).2]; rfl) ?_
        show Rj _ _ _ _ _ _ 20 [.ref 0, .int (nI 0), jU] [.ref 55] 66 I J (Pg (some 55) (some 44))
        refine j_astore_n (L' := [.ref 0, .int (nI 0), .ref 55]) dX9_from_20 rfl rfl rfl (by decide) rfl ?_
        refine j_aload_n dX9_from_21 rfl rfl rfl ?_
        refine j_ifnonnull (tgt := 30) dX9_from_22 rfl ?_
        refine j_aload_n dX9_from_30 rfl rfl rfl ?_
        refine j_getP (b := 1) dX9_from_31 rfl fX9_10 rfl (by decide) rfl rfl ?_
        refine j_aload_n dX9_from_34 rfl rfl rfl ?_
        refine j_callVw (As := [.ref 55]) dX9_from_35 rfl cX9_233 (by decide) rfl rfl (by decide) rfl (by decide) rfl rfl (c_copy1_55 hVu hf.1 hf.2.1 hf.2.2 (fun I1 hV1 ho1 => ?_))
        show Rj _ _ _ _ _ _ 38 [.ref 0, .int (nI 0), .ref 55] [] 66 I1 J (Pg (some 55) (some 44))
        refine j_iconst (v := nI 1) dX9_from_38 rfl rfl ?_
        refine j_iret dX9_from_39 rfl rfl ?_
        rw [e] at hQ
        exact hQ _ _ _ _ _ (hC.one hV1 ho1) ho1.mf
    · rcases h3 with ⟨rfl, rfl, rfl⟩ | ⟨rfl, ⟨rfl, rfl⟩ | ⟨rfl, rfl⟩⟩ | ⟨rfl, ⟨rfl, rfl⟩ | ⟨rfl, rfl⟩⟩
      · have e := oFrom_n (S := S) (by omega) ha (imK_n hk1)
        refine j_aload_n dX9_from_14 rfl rfl rfl ?_
        refine j_getP (b := 12) dX9_from_15 rfl fX9_16 rfl (by decide) rfl rfl ?_
        refine j_iload_n dX9_from_18 rfl rfl rfl ?_
        refine j_aaload (r := none) dX9_from_19 rfl rfl (by decide) (jin (j := 1) rfl (by decide) (by decide)).1 (by rw [(jin (j := 1) (len := 2) rfl (by decide) (by decide)).2]; rfl) ?_
        show Rj _ _ _ _ _ _ 20 [.ref 0, .int (nI 1), jU] [.null] 44 I J (Pg none none)
        refine j_astore_nN (L' := [.ref 0, .int (nI 1), .null]) dX9_from_20 rfl rfl rfl (by decide) rfl ?_
        refine j_aload_nN dX9_from_21 rfl rfl rfl ?_
        refine j_ifnonnullN dX9_from_22 rfl ?_
        refine j_aload_n dX9_from_25 rfl rfl rfl ?_
        refine j_callVw (As := []) dX9_from_26 rfl cX9_120 (by decide) rfl rfl (by decide) rfl (by decide) rfl rfl (c_no ?_)
        show Rj _ _ _ _ _ _ 29 [.ref 0, .int (nI 1), .null] [.int (-3)] 44 (u2 I 0 8 (I 0 8 + nI 1)) J (Pg none none)
        refine j_iret dX9_from_29 rfl rfl ?_
        rw [e] at hQ
        exact hQ _ _ _ _ _ hC.no MF.sta
      · have e := oFrom_n (S := S) (by omega) ha (imK_n hk1)
        refine j_aload_n dX9_from_14 rfl rfl rfl ?_
        refine j_getP (b := 12) dX9_from_15 rfl fX9_16 rfl (by decide) rfl rfl ?_
        refine j_iload_n dX9_from_18 rfl rfl rfl ?_
        refine j_aaload (r := none) dX9_from_19 rfl rfl (by decide) (jin (j := 1) rfl (by decide) (by decide)).1 (by rw [(jin (j := 1) (len := 2) rfl (by decide) (by decide)).2]; rfl) ?_
        show Rj _ _ _ _ _ _ 20 [.ref 0, .int (nI 1), jU] [.null] 55 I J (Pg (some 44) none)
        refine j_astore_nN (L' := [.ref 0, .int (nI 1), .null]) dX9_from_20 rfl rfl rfl (by decide) rfl ?_
        refine j_aload_nN dX9_from_21 rfl rfl rfl ?_
        refine j_ifnonnullN dX9_from_22 rfl ?_
        refine j_aload_n dX9_from_25 rfl rfl rfl ?_
        refine j_callVw (As := []) dX9_from_26 rfl cX9_120 (by decide) rfl rfl (by decide) rfl (by decide) rfl rfl (c_no ?_)
        show Rj _ _ _ _ _ _ 29 [.ref 0, .int (nI 1), .null] [.int (-3)] 55 (u2 I 0 8 (I 0 8 + nI 1)) J (Pg (some 44) none)
        refine j_iret dX9_from_29 rfl rfl ?_
        rw [e] at hQ
        exact hQ _ _ _ _ _ hC.no MF.sta
      · obtain ⟨u, hu, hVu⟩ := imK_s hk1
        have e := oFrom_s (S := S) (u := u) (by omega) ha hu
        have hf := hFew u (Or.inr hu)
        refine j_aload_n dX9_from_14 rfl rfl rfl ?_
        refine j_getP (b := 12) dX9_from_15 rfl fX9_16 rfl (by decide) rfl rfl ?_
        refine j_iload_n dX9_from_18 rfl rfl rfl ?_
        refine j_aaload (r := some 44) dX9_from_19 rfl rfl (by decide) (jin (j := 1) rfl (by decide) (by decide)).1 (by rw [(jin (j := 1) (len := 2) rfl (by decide) (by decide)).2]; rfl) ?_
        show Rj _ _ _ _ _ _ 20 [.ref 0, .int (nI 1), jU] [.ref 44] 55 I J (Pg none (some 44))
        refine j_astore_n (L' := [.ref 0, .int (nI 1), .ref 44]) dX9_from_20 rfl rfl rfl (by decide) rfl ?_
        refine j_aload_n dX9_from_21 rfl rfl rfl ?_
        refine j_ifnonnull (tgt := 30) dX9_from_22 rfl ?_
        refine j_aload_n dX9_from_30 rfl rfl rfl ?_
        refine j_getP (b := 1) dX9_from_31 rfl fX9_10 rfl (by decide) rfl rfl ?_
        refine j_aload_n dX9_from_34 rfl rfl rfl ?_
        refine j_callVw (As := [.ref 44]) dX9_from_35 rfl cX9_233 (by decide) rfl rfl (by decide) rfl (by decide) rfl rfl (c_copy1_44 hVu hf.1 hf.2.1 hf.2.2 (fun I1 hV1 ho1 => ?_))
        show Rj _ _ _ _ _ _ 38 [.ref 0, .int (nI 1), .ref 44] [] 55 I1 J (Pg none (some 44))
        refine j_iconst (v := nI 1) dX9_from_38 rfl rfl ?_
        refine j_iret dX9_from_39 rfl rfl ?_
        rw [e] at hQ
        exact hQ _ _ _ _ _ (hC.one hV1 ho1) ho1.mf
      · obtain ⟨u, hu, hVu⟩ := imK_s hk1
        have e := oFrom_s (S := S) (u := u) (by omega) ha hu
        have hf := hFew u (Or.inr hu)
        refine j_aload_n dX9_from_14 rfl rfl rfl ?_
        refine j_getP (b := 12) dX9_from_15 rfl fX9_16 rfl (by decide) rfl rfl ?_
        refine j_iload_n dX9_from_18 rfl rfl rfl ?_
        refine j_aaload (r := some 55) dX9_from_19 rfl rfl (by decide) (jin (j := 1) rfl (by decide) (by decide)).1 (by rw [(jin (j := 1) (len := 2) rfl (by decide) (by decide)).2]; rfl) ?_
        show Rj _ _ _ _ _ _ 20 [.ref 0, .int (nI 1), jU] [.ref 55] 66 I J (Pg (some 44) (some 55))
        refine j_astore_n (L' := [.ref 0, .int (nI 1), .ref 55]) dX9_from_20 rfl rfl rfl (by decide) rfl ?_
        refine j_aload_n dX9_from_21 rfl rfl rfl ?_
        refine j_ifnonnull (tgt := 30) dX9_from_22 rfl ?_
        refine j_aload_n dX9_from_30 rfl rfl rfl ?_
        refine j_getP (b := 1) dX9_from_31 rfl fX9_10 rfl (by decide) rfl rfl ?_
        refine j_aload_n dX9_from_34 rfl rfl rfl ?_
        refine j_callVw (As := [.ref 55]) dX9_from_35 rfl cX9_233 (by decide) rfl rfl (by decide) rfl (by decide) rfl rfl (c_copy1_55 hVu hf.1 hf.2.1 hf.2.2 (fun I1 hV1 ho1 => ?_))
        show Rj _ _ _ _ _ _ 38 [.ref 0, .int (nI 1), .ref 55] [] 66 I1 J (Pg (some 44) (some 55))
        refine j_iconst (v := nI 1) dX9_from_38 rfl rfl ?_
        refine j_iret dX9_from_39 rfl rfl ?_
        rw [e] at hQ
        exact hQ _ _ _ _ _ (hC.one hV1 ho1) ho1.mf
      · obtain ⟨u, hu, hVu⟩ := imK_s hk1
        have e := oFrom_s (S := S) (u := u) (by omega) ha hu
        have hf := hFew u (Or.inr hu)
        refine j_aload_n dX9_from_14 rfl rfl rfl ?_
        refine j_getP (b := 12) dX9_from_15 rfl fX9_16 rfl (by decide) rfl rfl ?_
        refine j_iload_n dX9_from_18 rfl rfl rfl ?_
        refine j_aaload (r := some 44) dX9_from_19 rfl rfl (by decide) (jin (j := 1) rfl (by decide) (by decide)).1 (by rw [(jin (j := 1) (len := 2) rfl (by decide) (by decide)).2]; rfl) ?_
        show Rj _ _ _ _ _ _ 20 [.ref 0, .int (nI 1), jU] [.ref 44] 66 I J (Pg (some 55) (some 44))
        refine j_astore_n (L' := [.ref 0, .int (nI 1), .ref 44]) dX9_from_20 rfl rfl rfl (by decide) rfl ?_
        refine j_aload_n dX9_from_21 rfl rfl rfl ?_
        refine j_ifnonnull (tgt := 30) dX9_from_22 rfl ?_
        refine j_aload_n dX9_from_30 rfl rfl rfl ?_
        refine j_getP (b := 1) dX9_from_31 rfl fX9_10 rfl (by decide) rfl rfl ?_
        refine j_aload_n dX9_from_34 rfl rfl rfl ?_
        refine j_callVw (As := [.ref 44]) dX9_from_35 rfl cX9_233 (by decide) rfl rfl (by decide) rfl (by decide) rfl rfl (c_copy1_44 hVu hf.1 hf.2.1 hf.2.2 (fun I1 hV1 ho1 => ?_))
        show Rj _ _ _ _ _ _ 38 [.ref 0, .int (nI 1), .ref 44] [] 66 I1 J (Pg (some 55) (some 44))
        refine j_iconst (v := nI 1) dX9_from_38 rfl rfl ?_
        refine j_iret dX9_from_39 rfl rfl ?_
        rw [e] at hQ
        exact hQ _ _ _ _ _ (hC.one hV1 ho1) ho1.mf
  · show Rj _ _ _ _ _ _ 6 [.ref 0, .int a, jU] [.int (nI 0)] n I J (Pg i0 i1)
    refine j_ifneN (tgt := 14) dX9_from_6 rfl rfl (by decide) (fun h2 => by exfalso; omega) (fun h2 => ?_)
    refine j_aload_n dX9_from_9 rfl rfl rfl ?_
    refine j_callVw (As := []) dX9_from_10 rfl cX9_75 (by decide) rfl rfl (by decide) rfl (by decide) rfl rfl (c_bad ?_)
    show Rj _ _ _ _ _ _ 13 [.ref 0, .int a, jU] [.int (-2)] n (u2 I 0 7 (I 0 7 + nI 1)) J (Pg i0 i1)
    refine j_iret dX9_from_13 rfl rfl ?_
    have e : oFrom S a = (S.bad, -2) := by unfold oFrom; rw [if_neg (by exact ha)]
    rw [e] at hQ
    exact hQ _ _ _ _ _ hC.bad MF.sta
