theorem nI_m4 {f : Nat} (hf : f < 2 ^ 31) : ¬ nI f = -4 := by
  intro h
  have h2 := nI_toInt hf
  rw [h] at h2
  have h3 : (-4 : Int32).toInt = -4 := rfl
  omega
theorem c_addPairX {X : jX} {d n : Nat} {I : HI} {J : HJ} {i0 i1 : Option Nat} {Q : jPost} {v : VT} {k l : Nat} (hV : VC 1 I v) (h6 : v 0 3 ≤ 6) (hQ1 : ¬ v 0 3 = 6 → ∀ I', VC 1 I' (vPair v k l) → Ot 1 I I' → Q (some (.int (nI (v 0 3)))) n I' J (Pg i0 i1)) (hQ0 : v 0 3 = 6 → Q (some (.int (-4))) n I J (Pg i0 i1)) : Cj X d 0 0 mX8_addPair [.ref 1, .int (nI k), .int (nI l)] n I J (Pg i0 i1) Q := by
  by_cases h : v 0 3 = 6
  · exact c_addPairF hV h (hQ0 h)
  · exact c_addPair1 hV (by omega) (hQ1 h)
theorem c_addKinX {X : jX} {d n : Nat} {I : HI} {J : HJ} {i0 i1 : Option Nat} {Q : jPost} {v : VT} {x : Nat} (hV : VC 1 I v) (h6 : v 0 4 ≤ 8) (hQ1 : ¬ v 0 4 = 8 → ∀ I', VC 1 I' (vKin v x) → Ot 1 I I' → Q (some (.int (nI (v 0 4)))) n I' J (Pg i0 i1)) (hQ0 : v 0 4 = 8 → Q (some (.int (-4))) n I J (Pg i0 i1)) : Cj X d 0 0 mX8_addKin [.ref 1, .int (nI x)] n I J (Pg i0 i1) Q := by
  by_cases h : v 0 4 = 8
  · exact c_addKinF hV h (hQ0 h)
  · exact c_addKin1 hV (by omega) (hQ1 h)
theorem c_addCountedX {X : jX} {d n : Nat} {I : HI} {J : HJ} {i0 i1 : Option Nat} {Q : jPost} {v : VT} {p m x : Nat} (hV : VC 1 I v) (h6 : v 0 5 ≤ 8) (hQ1 : ¬ v 0 5 = 8 → ∀ I', VC 1 I' (vCnt v p m x) → Ot 1 I I' → Q (some (.int (nI (v 0 5 + 1)))) n I' J (Pg i0 i1)) (hQ0 : v 0 5 = 8 → Q (some (.int (-4))) n I J (Pg i0 i1)) : Cj X d 0 0 mX8_addCounted [.ref 1, .int (nI p), .int (nI m), .int (nI x)] n I J (Pg i0 i1) Q := by
  by_cases h : v 0 5 = 8
  · exact c_addCountedF hV h (hQ0 h)
  · exact c_addCounted hV (by omega) (hQ1 h)
theorem Ot1.u2 {I : HI} {k : Nat} {x : Int32} : Ot 1 I (u2 I 1 k x) := fun a ha => u2_ne _ _ _ (by omega)
theorem VC_set5 {I : HI} {v : VT} (h : VC 1 I v) : VC 1 (u2 I 1 5 (nI 0)) (vSet v 5 0) := by
  obtain ⟨⟨s0, s1, s2, s3, s4, s5⟩, h2, h3, h4, h5⟩ := h
  have e : ∀ i, 1 ≤ i → u2 I 1 5 (nI 0) (1 + i) = I (1 + i) := fun i hi => u2_ne _ _ _ (by omega)
  refine ⟨⟨?_, ?_, ?_, ?_, ?_, ?_⟩, ?_, ?_, ?_, ?_⟩
  · rw [u2_ne2 _ _ _ (by omega)]; exact s0
  · rw [u2_ne2 _ _ _ (by omega)]; exact s1
  · rw [u2_ne2 _ _ _ (by omega)]; exact s2
  · rw [u2_ne2 _ _ _ (by omega)]; exact s3
  · rw [u2_ne2 _ _ _ (by omega)]; exact s4
  · rw [u2_self]; rfl
  · rw [e 1 (by omega), e 2 (by omega), e 3 (by omega), e 4 (by omega)]; exact h2
  · rw [e 5 (by omega)]; exact h3
  · intro c hc; exact absurd hc (Nat.not_lt_zero _)
  · rw [e 9 (by omega), e 10 (by omega)]
    obtain ⟨fr, c1, c2, c3, c4⟩ := h5
    refine ⟨fr, c1, c2, c3, fun j hj => ?_⟩
    have ev : ∀ i, vSet v 5 0 (10 + j) i = v (10 + j) i := fun i => by unfold vSet; rw [if_neg (by omega)]
    obtain ⟨d0, d1⟩ := c4 j hj
    exact ⟨by rw [ev]; exact d0, fun q hq => by rw [ev, ev]; exact d1 q hq⟩
set_option maxHeartbeats 4000000 in
set_option maxRecDepth 100000 in
theorem f_valley {X : jX} {d n : Nat} {I : HI} {J : HJ} {i0 i1 : Option Nat} {Q : jPost} {S : SS} {yb : Nat} (hC : CI S n i0 i1 I J) (hW : WF yb S.v) (hyb : yb ≤ 2 ^ 12) (hQ : CP Q (oValley S ) I J) : Cj X (d + 2) 0 0 mX9_valley [.ref 0] n I J (Pg i0 i1) Q := by
  refine Cj.intro rfl (Nat.le_of_ble_eq_true rfl) (L := [.ref 0, jU]) rfl ?_
  obtain ⟨⟨w0, w1, w2, w3, w4, w5, w6⟩, wp, wk, wc, wb⟩ := id hW
  refine j_aload_n dX9_valley_0 rfl rfl rfl ?_
  refine j_getP (b := 1) dX9_valley_1 rfl fX9_10 rfl (by decide) rfl rfl ?_
  refine j_getIv (v := nI (S.v 0 3)) dX9_valley_4 rfl fX9_65 rfl (by decide) rfl hC.v.pairs ?_
  refine j_istore_n (L' := [.ref 0, .int (nI (S.v 0 3))]) dX9_valley_7 rfl rfl rfl (by decide) rfl ?_
  refine j_aload_n dX9_valley_8 rfl rfl rfl ?_
  refine j_getP (b := 1) dX9_valley_9 rfl fX9_10 rfl (by decide) rfl rfl ?_
  refine j_callVw (As := []) dX9_valley_12 rfl cX9_68 (by decide) rfl rfl (by decide) rfl (by decide) rfl rfl (c_begin1 hC.v (fun I1 hV1 ho1 => ?_))
  show Rj _ _ _ _ _ _ 15 [.ref 0, .int (nI (S.v 0 3))] [] n I1 J (Pg i0 i1)
  refine j_iload_n dX9_valley_15 rfl rfl rfl ?_
  refine j_iret dX9_valley_16 rfl rfl ?_
  exact hQ _ _ _ _ _ (hC.one hV1 ho1) ho1.mf
set_option maxHeartbeats 4000000 in
set_option maxRecDepth 100000 in
theorem f_damp {X : jX} {d n : Nat} {I : HI} {J : HJ} {i0 i1 : Option Nat} {Q : jPost} {S : SS} {yb : Nat} (hC : CI S n i0 i1 I J) (hW : WF yb S.v) (hyb : yb ≤ 2 ^ 12) {a : Int32} (hQ : CP Q (oDamp 1 S a) I J) : Cj X (d + 2) 0 0 mX9_damp [.ref 0, .int a] n I J (Pg i0 i1) Q := by
  refine Cj.intro rfl (Nat.le_of_ble_eq_true rfl) (L := [.ref 0, .int a, jU]) rfl ?_
  obtain ⟨⟨w0, w1, w2, w3, w4, w5, w6⟩, wp, wk, wc, wb⟩ := id hW
  refine j_iload_n dX9_damp_0 rfl rfl rfl ?_
  refine j_iconst (v := nI 0) dX9_damp_1 rfl rfl ?_
  refine j_sipush (v := nI 4095) dX9_damp_2 rfl rfl ?_
  refine j_callSw (As := [.int a, .int (nI 0), .int (nI 4095)]) dX9_damp_5 rfl cX9_71 rfl (by decide) rfl rfl (c_within (fun ha => ?_) (fun ha => ?_))
  · obtain ⟨ja, rfl, hal, hau⟩ := inR_nat (by decide) (by decide) ha
    show Rj _ _ _ _ _ _ 8 [.ref 0, .int (nI ja), jU] [.int (nI 1)] n I J (Pg i0 i1)
    refine j_ifneN (tgt := 16) dX9_damp_8 rfl rfl (by decide) (fun h1 => ?_) (fun h1 => by exfalso; omega)
    refine j_aload_n dX9_damp_16 rfl rfl rfl ?_
    refine j_getP (b := 1) dX9_damp_17 rfl fX9_10 rfl (by decide) rfl rfl ?_
    refine j_getIv (v := nI (S.v 0 1)) dX9_damp_20 rfl fX9_79 rfl (by decide) rfl hC.v.damp ?_
    refine j_istore_n (L' := [.ref 0, .int (nI ja), .int (nI (S.v 0 1))]) dX9_damp_23 rfl rfl rfl (by decide) rfl ?_
    refine j_aload_n dX9_damp_24 rfl rfl rfl ?_
    refine j_getP (b := 1) dX9_damp_25 rfl fX9_10 rfl (by decide) rfl rfl ?_
    refine j_iload_n dX9_damp_28 rfl rfl rfl ?_
    refine j_putI dX9_damp_29 rfl fX9_79 rfl (by decide) rfl rfl ?_
    refine j_iload_n dX9_damp_32 rfl rfl rfl ?_
    refine j_iret dX9_damp_33 rfl rfl ?_
    have e : oDamp 1 S (nI ja) = (S.set (vSet S.v 1 ja), nI (S.v 0 1)) := by unfold oDamp; rw [if_pos (by exact ha), tN_nI (by omega)]
    rw [e] at hQ
    exact hQ _ _ _ _ _ (hC.one (VC_set1 hC.v) Ot1.u2) Ot1.u2.mf
  · show Rj _ _ _ _ _ _ 8 [.ref 0, .int a, jU] [.int (nI 0)] n I J (Pg i0 i1)
    refine j_ifneN (tgt := 16) dX9_damp_8 rfl rfl (by decide) (fun h2 => by exfalso; omega) (fun h2 => ?_)
    refine j_aload_n dX9_damp_11 rfl rfl rfl ?_
    refine j_callVw (As := []) dX9_damp_12 rfl cX9_75 (by decide) rfl rfl (by decide) rfl (by decide) rfl rfl (c_bad ?_)
    show Rj _ _ _ _ _ _ 15 [.ref 0, .int a, jU] [.int (-2)] n (u2 I 0 7 (I 0 7 + nI 1)) J (Pg i0 i1)
    refine j_iret dX9_damp_15 rfl rfl ?_
    have e : oDamp 1 S a = (S.bad, -2) := by unfold oDamp; rw [if_neg (by exact ha)]
    rw [e] at hQ
    exact hQ _ _ _ _ _ hC.bad MF.sta
set_option maxHeartbeats 4000000 in
set_option maxRecDepth 100000 in
theorem f_dry {X : jX} {d n : Nat} {I : HI} {J : HJ} {i0 i1 : Option Nat} {Q : jPost} {S : SS} {yb : Nat} (hC : CI S n i0 i1 I J) (hW : WF yb S.v) (hyb : yb ≤ 2 ^ 12) {a : Int32} (hQ : CP Q (oDamp 2 S a) I J) : Cj X (d + 2) 0 0 mX9_dry [.ref 0, .int a] n I J (Pg i0 i1) Q := by
  refine Cj.intro rfl (Nat.le_of_ble_eq_true rfl) (L := [.ref 0, .int a, jU]) rfl ?_
  obtain ⟨⟨w0, w1, w2, w3, w4, w5, w6⟩, wp, wk, wc, wb⟩ := id hW
  refine j_iload_n dX9_dry_0 rfl rfl rfl ?_
  refine j_iconst (v := nI 0) dX9_dry_1 rfl rfl ?_
  refine j_sipush (v := nI 4095) dX9_dry_2 rfl rfl ?_
  refine j_callSw (As := [.int a, .int (nI 0), .int (nI 4095)]) dX9_dry_5 rfl cX9_71 rfl (by decide) rfl rfl (c_within (fun ha => ?_) (fun ha => ?_))
  · obtain ⟨ja, rfl, hal, hau⟩ := inR_nat (by decide) (by decide) ha
    show Rj _ _ _ _ _ _ 8 [.ref 0, .int (nI ja), jU] [.int (nI 1)] n I J (Pg i0 i1)
    refine j_ifneN (tgt := 16) dX9_dry_8 rfl rfl (by decide) (fun h1 => ?_) (fun h1 => by exfalso; omega)
    refine j_aload_n dX9_dry_16 rfl rfl rfl ?_
    refine j_getP (b := 1) dX9_dry_17 rfl fX9_10 rfl (by decide) rfl rfl ?_
    refine j_getIv (v := nI (S.v 0 2)) dX9_dry_20 rfl fX9_82 rfl (by decide) rfl hC.v.dry ?_
    refine j_istore_n (L' := [.ref 0, .int (nI ja), .int (nI (S.v 0 2))]) dX9_dry_23 rfl rfl rfl (by decide) rfl ?_
    refine j_aload_n dX9_dry_24 rfl rfl rfl ?_
    refine j_getP (b := 1) dX9_dry_25 rfl fX9_10 rfl (by decide) rfl rfl ?_
    refine j_iload_n dX9_dry_28 rfl rfl rfl ?_
    refine j_putI dX9_dry_29 rfl fX9_82 rfl (by decide) rfl rfl ?_
    refine j_iload_n dX9_dry_32 rfl rfl rfl ?_
    refine j_iret dX9_dry_33 rfl rfl ?_
    have e : oDamp 2 S (nI ja) = (S.set (vSet S.v 2 ja), nI (S.v 0 2)) := by unfold oDamp; rw [if_pos (by exact ha), tN_nI (by omega)]
    rw [e] at hQ
    exact hQ _ _ _ _ _ (hC.one (VC_set2 hC.v) Ot1.u2) Ot1.u2.mf
  · show Rj _ _ _ _ _ _ 8 [.ref 0, .int a, jU] [.int (nI 0)] n I J (Pg i0 i1)
    refine j_ifneN (tgt := 16) dX9_dry_8 rfl rfl (by decide) (fun h2 => by exfalso; omega) (fun h2 => ?_)
    refine j_aload_n dX9_dry_11 rfl rfl rfl ?_
    refine j_callVw (As := []) dX9_dry_12 rfl cX9_75 (by decide) rfl rfl (by decide) rfl (by decide) rfl rfl (c_bad ?_)
    show Rj _ _ _ _ _ _ 15 [.ref 0, .int a, jU] [.int (-2)] n (u2 I 0 7 (I 0 7 + nI 1)) J (Pg i0 i1)
    refine j_iret dX9_dry_15 rfl rfl ?_
    have e : oDamp 2 S a = (S.bad, -2) := by unfold oDamp; rw [if_neg (by exact ha)]
    rw [e] at hQ
    exact hQ _ _ _ _ _ hC.bad MF.sta
set_option maxHeartbeats 4000000 in
set_option maxRecDepth 100000 in
theorem f_pair {X : jX} {d n : Nat} {I : HI} {J : HJ} {i0 i1 : Option Nat} {Q : jPost} {S : SS} {yb : Nat} (hC : CI S n i0 i1 I J) (hW : WF yb S.v) (hyb : yb ≤ 2 ^ 12) {a b : Int32} (hQ : CP Q (oPair S a b) I J) : Cj X (d + 2) 0 0 mX9_pair [.ref 0, .int a, .int b] n I J (Pg i0 i1) Q := by
  refine Cj.intro rfl (Nat.le_of_ble_eq_true rfl) (L := [.ref 0, .int a, .int b, jU]) rfl ?_
  obtain ⟨⟨w0, w1, w2, w3, w4, w5, w6⟩, wp, wk, wc, wb⟩ := id hW
  refine j_iload_n dX9_pair_0 rfl rfl rfl ?_
  refine j_iconst (v := nI 0) dX9_pair_1 rfl rfl ?_
  refine j_iconst (v := nI 5) dX9_pair_2 rfl rfl ?_
  refine j_callSw (As := [.int a, .int (nI 0), .int (nI 5)]) dX9_pair_3 rfl cX9_71 rfl (by decide) rfl rfl (c_within (fun ha => ?_) (fun ha => ?_))
  · obtain ⟨ja, rfl, hal, hau⟩ := inR_nat (by decide) (by decide) ha
    show Rj _ _ _ _ _ _ 6 [.ref 0, .int (nI ja), .int b, jU] [.int (nI 1)] n I J (Pg i0 i1)
    refine j_ifeqN (tgt := 19) dX9_pair_6 rfl rfl (by decide) (fun h1 => by exfalso; omega) (fun h1 => ?_)
    refine j_iload_n dX9_pair_9 rfl rfl rfl ?_
    refine j_iconst (v := nI 0) dX9_pair_10 rfl rfl ?_
    refine j_bipush (v := nI 60) dX9_pair_11 rfl rfl ?_
    refine j_callSw (As := [.int b, .int (nI 0), .int (nI 60)]) dX9_pair_13 rfl cX9_71 rfl (by decide) rfl rfl (c_within (fun hb => ?_) (fun hb => ?_))
    · obtain ⟨jb, rfl, hbl, hbu⟩ := inR_nat (by decide) (by decide) hb
      show Rj _ _ _ _ _ _ 16 [.ref 0, .int (nI ja), .int (nI jb), jU] [.int (nI 1)] n I J (Pg i0 i1)
      refine j_ifneN (tgt := 24) dX9_pair_16 rfl rfl (by decide) (fun h2 => ?_) (fun h2 => by exfalso; omega)
      refine j_aload_n dX9_pair_24 rfl rfl rfl ?_
      refine j_getP (b := 1) dX9_pair_25 rfl fX9_10 rfl (by decide) rfl rfl ?_
      refine j_iload_n dX9_pair_28 rfl rfl rfl ?_
      refine j_iload_n dX9_pair_29 rfl rfl rfl ?_
      refine j_callVw (As := [.int (nI ja), .int (nI jb)]) dX9_pair_30 rfl cX9_85 (by decide) rfl rfl (by decide) rfl (by decide) rfl rfl (c_addPairX hC.v w3 (fun hf I1 hV1 ho1 => ?_) (fun hf => ?_))
      · show Rj _ _ _ _ _ _ 33 [.ref 0, .int (nI ja), .int (nI jb), jU] [.int (nI (S.v 0 3))] n I1 J (Pg i0 i1)
        refine j_istore_n (L' := [.ref 0, .int (nI ja), .int (nI jb), .int (nI (S.v 0 3))]) dX9_pair_33 rfl rfl rfl (by decide) rfl ?_
        refine j_iload_n dX9_pair_34 rfl rfl rfl ?_
        refine j_bipush (v := (-4)) dX9_pair_35 rfl rfl ?_
        refine j_icmpne (tgt := 47) dX9_pair_37 rfl rfl (fun h3 => ?_) (fun h3 => by exfalso; exact nI_m4 (show _ < 2 ^ 31 by omega) h3)
        refine j_iload_n dX9_pair_47 rfl rfl rfl ?_
        refine j_iret dX9_pair_48 rfl rfl ?_
        have e : oPair S (nI ja) (nI jb) = (S.set (vPair S.v ja jb), nI (S.v 0 3)) := by unfold oPair; rw [if_pos (by exact ⟨ha, hb⟩), if_neg (by exact hf), tN_nI (show ja < 2 ^ 30 by omega), tN_nI (show jb < 2 ^ 30 by omega)]
        rw [e] at hQ
        exact hQ _ _ _ _ _ (hC.one hV1 ho1) ho1.mf
      · show Rj _ _ _ _ _ _ 33 [.ref 0, .int (nI ja), .int (nI jb), jU] [.int (-4)] n I J (Pg i0 i1)
        refine j_istore_n (L' := [.ref 0, .int (nI ja), .int (nI jb), .int (-4)]) dX9_pair_33 rfl rfl rfl (by decide) rfl ?_
        refine j_iload_n dX9_pair_34 rfl rfl rfl ?_
        refine j_bipush (v := (-4)) dX9_pair_35 rfl rfl ?_
        refine j_icmpne (tgt := 47) dX9_pair_37 rfl rfl (fun h4 => by exfalso; exact h4 rfl) (fun h4 => ?_)
        refine j_aload_n dX9_pair_40 rfl rfl rfl ?_
        refine j_callVw (As := []) dX9_pair_41 rfl cX9_89 (by decide) rfl rfl (by decide) rfl (by decide) rfl rfl (c_full ?_)
        show Rj _ _ _ _ _ _ 44 [.ref 0, .int (nI ja), .int (nI jb), .int (-4)] [.int (-4)] n (u2 I 0 9 (I 0 9 + nI 1)) J (Pg i0 i1)
        refine j_goto (tgt := 48) dX9_pair_44 rfl ?_
        refine j_iret dX9_pair_48 rfl rfl ?_
        have e : oPair S (nI ja) (nI jb) = (S.full, -4) := by unfold oPair; rw [if_pos (by exact ⟨ha, hb⟩), if_pos (by exact hf)]
        rw [e] at hQ
        exact hQ _ _ _ _ _ hC.full MF.sta
    · show Rj _ _ _ _ _ _ 16 [.ref 0, .int (nI ja), .int b, jU] [.int (nI 0)] n I J (Pg i0 i1)
      refine j_ifneN (tgt := 24) dX9_pair_16 rfl rfl (by decide) (fun h5 => by exfalso; omega) (fun h5 => ?_)
      refine j_aload_n dX9_pair_19 rfl rfl rfl ?_
      refine j_callVw (As := []) dX9_pair_20 rfl cX9_75 (by decide) rfl rfl (by decide) rfl (by decide) rfl rfl (c_bad ?_)
      show Rj _ _ _ _ _ _ 23 [.ref 0, .int (nI ja), .int b, jU] [.int (-2)] n (u2 I 0 7 (I 0 7 + nI 1)) J (Pg i0 i1)
      refine j_iret dX9_pair_23 rfl rfl ?_
      have e : oPair S (nI ja) b = (S.bad, -2) := by unfold oPair; rw [if_neg (by first | exact ha | exact fun q => ha q.1 | exact fun q => hb q.2)]
      rw [e] at hQ
      exact hQ _ _ _ _ _ hC.bad MF.sta
  · show Rj _ _ _ _ _ _ 6 [.ref 0, .int a, .int b, jU] [.int (nI 0)] n I J (Pg i0 i1)
    refine j_ifeqN (tgt := 19) dX9_pair_6 rfl rfl (by decide) (fun h6 => ?_) (fun h6 => by exfalso; omega)
    refine j_aload_n dX9_pair_19 rfl rfl rfl ?_
    refine j_callVw (As := []) dX9_pair_20 rfl cX9_75 (by decide) rfl rfl (by decide) rfl (by decide) rfl rfl (c_bad ?_)
    show Rj _ _ _ _ _ _ 23 [.ref 0, .int a, .int b, jU] [.int (-2)] n (u2 I 0 7 (I 0 7 + nI 1)) J (Pg i0 i1)
    refine j_iret dX9_pair_23 rfl rfl ?_
    have e : oPair S a b = (S.bad, -2) := by unfold oPair; rw [if_neg (by first | exact ha | exact fun q => ha q.1 | exact fun q => hb q.2)]
    rw [e] at hQ
    exact hQ _ _ _ _ _ hC.bad MF.sta
set_option maxHeartbeats 4000000 in
set_option maxRecDepth 100000 in
theorem f_kin {X : jX} {d n : Nat} {I : HI} {J : HJ} {i0 i1 : Option Nat} {Q : jPost} {S : SS} {yb : Nat} (hC : CI S n i0 i1 I J) (hW : WF yb S.v) (hyb : yb ≤ 2 ^ 12) {a : Int32} (hQ : CP Q (oKin S a) I J) : Cj X (d + 2) 0 0 mX9_kin [.ref 0, .int a] n I J (Pg i0 i1) Q := by
  refine Cj.intro rfl (Nat.le_of_ble_eq_true rfl) (L := [.ref 0, .int a, jU]) rfl ?_
  obtain ⟨⟨w0, w1, w2, w3, w4, w5, w6⟩, wp, wk, wc, wb⟩ := id hW
  refine j_iload_n dX9_kin_0 rfl rfl rfl ?_
  refine j_iconst (v := nI 1) dX9_kin_1 rfl rfl ?_
  refine j_bipush (v := nI 20) dX9_kin_2 rfl rfl ?_
  refine j_callSw (As := [.int a, .int (nI 1), .int (nI 20)]) dX9_kin_4 rfl cX9_71 rfl (by decide) rfl rfl (c_within (fun ha => ?_) (fun ha => ?_))
  · obtain ⟨ja, rfl, hal, hau⟩ := inR_nat (by decide) (by decide) ha
    show Rj _ _ _ _ _ _ 7 [.ref 0, .int (nI ja), jU] [.int (nI 1)] n I J (Pg i0 i1)
    refine j_ifneN (tgt := 15) dX9_kin_7 rfl rfl (by decide) (fun h1 => ?_) (fun h1 => by exfalso; omega)
    refine j_aload_n dX9_kin_15 rfl rfl rfl ?_
    refine j_getP (b := 1) dX9_kin_16 rfl fX9_10 rfl (by decide) rfl rfl ?_
    refine j_iload_n dX9_kin_19 rfl rfl rfl ?_
    refine j_callVw (As := [.int (nI ja)]) dX9_kin_20 rfl cX9_92 (by decide) rfl rfl (by decide) rfl (by decide) rfl rfl (c_addKinX hC.v w4 (fun hf I1 hV1 ho1 => ?_) (fun hf => ?_))
    · show Rj _ _ _ _ _ _ 23 [.ref 0, .int (nI ja), jU] [.int (nI (S.v 0 4))] n I1 J (Pg i0 i1)
      refine j_istore_n (L' := [.ref 0, .int (nI ja), .int (nI (S.v 0 4))]) dX9_kin_23 rfl rfl rfl (by decide) rfl ?_
      refine j_iload_n dX9_kin_24 rfl rfl rfl ?_
      refine j_bipush (v := (-4)) dX9_kin_25 rfl rfl ?_
      refine j_icmpne (tgt := 37) dX9_kin_27 rfl rfl (fun h2 => ?_) (fun h2 => by exfalso; exact nI_m4 (show _ < 2 ^ 31 by omega) h2)
      refine j_iload_n dX9_kin_37 rfl rfl rfl ?_
      refine j_iret dX9_kin_38 rfl rfl ?_
      have e : oKin S (nI ja) = (S.set (vKin S.v ja), nI (S.v 0 4)) := by unfold oKin; rw [if_pos (by exact ha), if_neg (by exact hf), tN_nI (show ja < 2 ^ 30 by omega)]
      rw [e] at hQ
      exact hQ _ _ _ _ _ (hC.one hV1 ho1) ho1.mf
    · show Rj _ _ _ _ _ _ 23 [.ref 0, .int (nI ja), jU] [.int (-4)] n I J (Pg i0 i1)
      refine j_istore_n (L' := [.ref 0, .int (nI ja), .int (-4)]) dX9_kin_23 rfl rfl rfl (by decide) rfl ?_
      refine j_iload_n dX9_kin_24 rfl rfl rfl ?_
      refine j_bipush (v := (-4)) dX9_kin_25 rfl rfl ?_
      refine j_icmpne (tgt := 37) dX9_kin_27 rfl rfl (fun h3 => by exfalso; exact h3 rfl) (fun h3 => ?_)
      refine j_aload_n dX9_kin_30 rfl rfl rfl ?_
      refine j_callVw (As := []) dX9_kin_31 rfl cX9_89 (by decide) rfl rfl (by decide) rfl (by decide) rfl rfl (c_full ?_)
      show Rj _ _ _ _ _ _ 34 [.ref 0, .int (nI ja), .int (-4)] [.int (-4)] n (u2 I 0 9 (I 0 9 + nI 1)) J (Pg i0 i1)
      refine j_goto (tgt := 38) dX9_kin_34 rfl ?_
      refine j_iret dX9_kin_38 rfl rfl ?_
      have e : oKin S (nI ja) = (S.full, -4) := by unfold oKin; rw [if_pos (by exact ha), if_pos (by exact hf)]
      rw [e] at hQ
      exact hQ _ _ _ _ _ hC.full MF.sta
  · show Rj _ _ _ _ _ _ 7 [.ref 0, .int a, jU] [.int (nI 0)] n I J (Pg i0 i1)
    refine j_ifneN (tgt := 15) dX9_kin_7 rfl rfl (by decide) (fun h4 => by exfalso; omega) (fun h4 => ?_)
    refine j_aload_n dX9_kin_10 rfl rfl rfl ?_
    refine j_callVw (As := []) dX9_kin_11 rfl cX9_75 (by decide) rfl rfl (by decide) rfl (by decide) rfl rfl (c_bad ?_)
    show Rj _ _ _ _ _ _ 14 [.ref 0, .int a, jU] [.int (-2)] n (u2 I 0 7 (I 0 7 + nI 1)) J (Pg i0 i1)
    refine j_iret dX9_kin_14 rfl rfl ?_
    have e : oKin S a = (S.bad, -2) := by unfold oKin; rw [if_neg (by first | exact ha | exact fun q => ha q.1 | exact fun q => hb q.2)]
    rw [e] at hQ
    exact hQ _ _ _ _ _ hC.bad MF.sta
