set_option maxHeartbeats 4000000 in
set_option maxRecDepth 100000 in
theorem g_pair {X : jX} {d n : Nat} {I : HI} {J : HJ} {i0 i1 : Option Nat} {Q : jPost} {S : SS} {yb : Nat} (hm : MI S I J) (hW : WF yb S.v) (hyb : yb ≤ 2 ^ 12) {a b : Int32} (hQ : MP Q (oPair S a b) n I J (Pg i0 i1)) : Cj X (d + 1) 0 0 mX10_pair [.ref 33, .int a, .int b] n I J (Pg i0 i1) Q := by
  refine Cj.intro rfl (Nat.le_of_ble_eq_true rfl) (L := [.ref 33, .int a, .int b]) rfl ?_
  obtain ⟨⟨w0, w1, w2, w3, w4, w5, w6⟩, wp, wk, wc, wb⟩ := id hW
  refine j_iload_n dX10_pair_0 rfl rfl rfl ?_
  refine j_iconst (v := nI 0) dX10_pair_1 rfl rfl ?_
  refine j_iconst (v := nI 5) dX10_pair_2 rfl rfl ?_
  refine j_callSw (As := [.int a, .int (nI 0), .int (nI 5)]) dX10_pair_3 rfl cX10_50 rfl (by decide) rfl rfl (c_min (fun ha => ?_) (fun ha => ?_))
  · obtain ⟨ja, rfl, hal, hau⟩ := inR_nat (by decide) (by decide) ha
    show Rj _ _ _ _ _ _ 6 [.ref 33, .int (nI ja), .int b] [.int (nI 1)] n I J (Pg i0 i1)
    refine j_ifeqN (tgt := 19) dX10_pair_6 rfl rfl (by decide) (fun h1 => by exfalso; omega) (fun h1 => ?_)
    refine j_iload_n dX10_pair_9 rfl rfl rfl ?_
    refine j_iconst (v := nI 0) dX10_pair_10 rfl rfl ?_
    refine j_bipush (v := nI 60) dX10_pair_11 rfl rfl ?_
    refine j_callSw (As := [.int b, .int (nI 0), .int (nI 60)]) dX10_pair_13 rfl cX10_50 rfl (by decide) rfl rfl (c_min (fun hb => ?_) (fun hb => ?_))
    · obtain ⟨jb, rfl, hbl, hbu⟩ := inR_nat (by decide) (by decide) hb
      show Rj _ _ _ _ _ _ 16 [.ref 33, .int (nI ja), .int (nI jb)] [.int (nI 1)] n I J (Pg i0 i1)
      refine j_ifneN (tgt := 26) dX10_pair_16 rfl rfl (by decide) (fun h2 => ?_) (fun h2 => by exfalso; omega)
      refine j_aload_n dX10_pair_26 rfl rfl rfl ?_
      refine j_getP (b := 34) dX10_pair_27 rfl fX10_7 rfl (by decide) rfl rfl ?_
      refine j_iconst (v := nI 0) dX10_pair_30 rfl rfl ?_
      refine j_iald (j := 0) (v := nI (S.v 0 3)) dX10_pair_31 rfl rfl (by decide) rfl (by decide) (by decide) hm.v.mp ?_
      refine j_bipush (v := nI 6) dX10_pair_32 rfl rfl ?_
      refine j_icmpneN (tgt := 46) dX10_pair_34 rfl rfl (by omega) (by decide) (fun h3 => ?_) (fun h3 => ?_)
      · refine j_aload_n dX10_pair_46 rfl rfl rfl ?_
        refine j_getP (b := 34) dX10_pair_47 rfl fX10_7 rfl (by decide) rfl rfl ?_
        refine j_iload_n dX10_pair_50 rfl rfl rfl ?_
        refine j_iload_n dX10_pair_51 rfl rfl rfl ?_
        refine j_callSw (As := [.ref 34, .int (nI ja), .int (nI jb)]) dX10_pair_52 rfl cX10_58 rfl (by decide) rfl rfl (c_maddP34 hm.v (by omega) (fun I1 hV1 ho1 => ?_))
        show Rj _ _ _ _ _ _ 55 [.ref 33, .int (nI ja), .int (nI jb)] [.int (nI (S.v 0 3))] n I1 J (Pg i0 i1)
        refine j_iret dX10_pair_55 rfl rfl ?_
        have e : oPair S (nI ja) (nI jb) = (S.set (vPair S.v ja jb), nI (S.v 0 3)) := by unfold oPair; rw [if_pos (by exact ⟨ha, hb⟩), if_neg (by assumption), tN_nI (show ja < 2 ^ 30 by omega), tN_nI (show jb < 2 ^ 30 by omega)]
        rw [e] at hQ
        exact hQ _ _ (hm.one hV1 ho1) (fun b hb => ⟨ho1 b (by omega), rfl⟩)
      · refine j_aload_n dX10_pair_37 rfl rfl rfl ?_
        refine j_bipush (v := (-4)) dX10_pair_38 rfl rfl ?_
        refine j_callVw (As := [.int (-4)]) dX10_pair_40 rfl cX10_54 (by decide) rfl rfl (by decide) rfl (by decide) rfl rfl (c_mfull ?_)
        show Rj _ _ _ _ _ _ 43 [.ref 33, .int (nI ja), .int (nI jb)] [.int (-4)] n (u2 I 39 2 (I 39 2 + nI 1)) J (Pg i0 i1)
        refine j_goto (tgt := 55) dX10_pair_43 rfl ?_
        refine j_iret dX10_pair_55 rfl rfl ?_
        have e : oPair S (nI ja) (nI jb) = (S.full, -4) := by unfold oPair; rw [if_pos (by exact ⟨ha, hb⟩), if_pos (by assumption)]
        rw [e] at hQ
        exact hQ _ _ hm.full (CF.u2 (by omega) (by omega))
    · show Rj _ _ _ _ _ _ 16 [.ref 33, .int (nI ja), .int b] [.int (nI 0)] n I J (Pg i0 i1)
      refine j_ifneN (tgt := 26) dX10_pair_16 rfl rfl (by decide) (fun h4 => by exfalso; omega) (fun h4 => ?_)
      refine j_aload_n dX10_pair_19 rfl rfl rfl ?_
      refine j_bipush (v := (-2)) dX10_pair_20 rfl rfl ?_
      refine j_callVw (As := [.int (-2)]) dX10_pair_22 rfl cX10_54 (by decide) rfl rfl (by decide) rfl (by decide) rfl rfl (c_mbad ?_)
      show Rj _ _ _ _ _ _ 25 [.ref 33, .int (nI ja), .int b] [.int (-2)] n (u2 I 39 0 (I 39 0 + nI 1)) J (Pg i0 i1)
      refine j_iret dX10_pair_25 rfl rfl ?_
      have e : oPair S (nI ja) b = (S.bad, -2) := by unfold oPair; rw [if_neg (by first | exact fun q => ha q.1 | exact fun q => hb q.2)]
      rw [e] at hQ
      exact hQ _ _ hm.bad (CF.u2 (by omega) (by omega))
  · show Rj _ _ _ _ _ _ 6 [.ref 33, .int a, .int b] [.int (nI 0)] n I J (Pg i0 i1)
    refine j_ifeqN (tgt := 19) dX10_pair_6 rfl rfl (by decide) (fun h5 => ?_) (fun h5 => by exfalso; omega)
    refine j_aload_n dX10_pair_19 rfl rfl rfl ?_
    refine j_bipush (v := (-2)) dX10_pair_20 rfl rfl ?_
    refine j_callVw (As := [.int (-2)]) dX10_pair_22 rfl cX10_54 (by decide) rfl rfl (by decide) rfl (by decide) rfl rfl (c_mbad ?_)
    show Rj _ _ _ _ _ _ 25 [.ref 33, .int a, .int b] [.int (-2)] n (u2 I 39 0 (I 39 0 + nI 1)) J (Pg i0 i1)
    refine j_iret dX10_pair_25 rfl rfl ?_
    have e : oPair S a b = (S.bad, -2) := by unfold oPair; rw [if_neg (by first | exact fun q => ha q.1 | exact fun q => hb q.2)]
    rw [e] at hQ
    exact hQ _ _ hm.bad (CF.u2 (by omega) (by omega))
