set_option maxHeartbeats 4000000 in
set_option maxRecDepth 100000 in
theorem g_left {X : jX} {d n : Nat} {I : HI} {J : HJ} {i0 i1 : Option Nat} {Q : jPost} {S : SS} {yb : Nat} (hm : MI S I J) (hW : WF yb S.v) (hyb : yb ≤ 2 ^ 12) {a b : Int32} (hQ : MP Q (oLeft S a b) n I J (Pg i0 i1)) : Cj X (d + 4) 0 0 mX10_left [.ref 33, .int a, .int b] n I J (Pg i0 i1) Q := by
  refine Cj.intro rfl (Nat.le_of_ble_eq_true rfl) (L := [.ref 33, .int a, .int b]) rfl ?_
  obtain ⟨⟨w0, w1, w2, w3, w4, w5, w6⟩, wp, wk, wc, wb⟩ := id hW
  refine j_aload_n dX10_left_0 rfl rfl rfl ?_
  refine j_iload_n dX10_left_1 rfl rfl rfl ?_
  refine j_callVw (As := [.int a]) dX10_left_2 rfl cX10_141 (by decide) rfl rfl (by decide) rfl (by decide) rfl rfl (c_misP hm.v w3 (fun ha => ?_) (fun ha => ?_))
  · obtain ⟨ja, rfl, hau⟩ := hasP_nat (by omega) ha
    show Rj _ _ _ _ _ _ 5 [.ref 33, .int (nI ja), .int b] [.int (nI 1)] n I J (Pg i0 i1)
    refine j_ifeqN (tgt := 27) dX10_left_5 rfl rfl (by decide) (fun h1 => by exfalso; omega) (fun h1 => ?_)
    refine j_iload_n dX10_left_8 rfl rfl rfl ?_
    refine j_iconst (v := nI 0) dX10_left_9 rfl rfl ?_
    refine j_bipush (v := nI 99) dX10_left_10 rfl rfl ?_
    refine j_callSw (As := [.int b, .int (nI 0), .int (nI 99)]) dX10_left_12 rfl cX10_50 rfl (by decide) rfl rfl (c_min (fun hb => ?_) (fun hb => ?_))
    · obtain ⟨jb, rfl, hbl, hbu⟩ := inR_nat (by decide) (by decide) hb
      show Rj _ _ _ _ _ _ 15 [.ref 33, .int (nI ja), .int (nI jb)] [.int (nI 1)] n I J (Pg i0 i1)
      refine j_ifeqN (tgt := 27) dX10_left_15 rfl rfl (by decide) (fun h2 => by exfalso; omega) (fun h2 => ?_)
      refine j_aload_n dX10_left_18 rfl rfl rfl ?_
      refine j_iload_n dX10_left_19 rfl rfl rfl ?_
      refine j_iload_n dX10_left_20 rfl rfl rfl ?_
      refine j_callVw (As := [.int (nI ja), .int (nI jb)]) dX10_left_21 rfl cX10_137 (by decide) rfl rfl (by decide) rfl (by decide) rfl rfl (c_mleftBy hm.v hW hyb hau hbu ?_)
      show Rj _ _ _ _ _ _ 24 [.ref 33, .int (nI ja), .int (nI jb)] [.int (nI (lft (S.v 1 ja) (S.v 0 1) (S.v 0 2) (S.v 0 0) (S.v 2 ja) jb))] n I J (Pg i0 i1)
      refine j_goto (tgt := 33) dX10_left_24 rfl ?_
      refine j_iret dX10_left_33 rfl rfl ?_
      have e : oLeft S (nI ja) (nI jb) = (S, nI (lft (S.v 1 ja) (S.v 0 1) (S.v 0 2) (S.v 0 0) (S.v 2 ja) jb)) := by unfold oLeft; rw [if_pos (by exact ⟨ha, hb⟩), tN_nI (show ja < 2 ^ 30 by omega), tN_nI (show jb < 2 ^ 30 by omega)]
      rw [e] at hQ
      exact hQ _ _ hm CF.rf
    · show Rj _ _ _ _ _ _ 15 [.ref 33, .int (nI ja), .int b] [.int (nI 0)] n I J (Pg i0 i1)
      refine j_ifeqN (tgt := 27) dX10_left_15 rfl rfl (by decide) (fun h3 => ?_) (fun h3 => by exfalso; omega)
      refine j_aload_n dX10_left_27 rfl rfl rfl ?_
      refine j_bipush (v := (-2)) dX10_left_28 rfl rfl ?_
      refine j_callVw (As := [.int (-2)]) dX10_left_30 rfl cX10_54 (by decide) rfl rfl (by decide) rfl (by decide) rfl rfl (c_mbad ?_)
      show Rj _ _ _ _ _ _ 33 [.ref 33, .int (nI ja), .int b] [.int (-2)] n (u2 I 39 0 (I 39 0 + nI 1)) J (Pg i0 i1)
      refine j_iret dX10_left_33 rfl rfl ?_
      have e : oLeft S (nI ja) b = (S.bad, -2) := by unfold oLeft; rw [if_neg (by first | exact ha | exact fun q => ha q.1 | exact fun q => hb q.2 | exact fun q => hb q.2.1 | exact fun q => hc q.2.2 | exact fun q => ha q.1.1 | exact fun q => hb q.1.2.1 | exact fun q => q.1.2.2 (congrArg nI (by assumption)) | exact fun q => hc q.2.1 | exact fun q => he q.2.2)]
      rw [e] at hQ
      exact hQ _ _ hm.bad (CF.u2 (by omega) (by omega))
  · show Rj _ _ _ _ _ _ 5 [.ref 33, .int a, .int b] [.int (nI 0)] n I J (Pg i0 i1)
    refine j_ifeqN (tgt := 27) dX10_left_5 rfl rfl (by decide) (fun h4 => ?_) (fun h4 => by exfalso; omega)
    refine j_aload_n dX10_left_27 rfl rfl rfl ?_
    refine j_bipush (v := (-2)) dX10_left_28 rfl rfl ?_
    refine j_callVw (As := [.int (-2)]) dX10_left_30 rfl cX10_54 (by decide) rfl rfl (by decide) rfl (by decide) rfl rfl (c_mbad ?_)
    show Rj _ _ _ _ _ _ 33 [.ref 33, .int a, .int b] [.int (-2)] n (u2 I 39 0 (I 39 0 + nI 1)) J (Pg i0 i1)
    refine j_iret dX10_left_33 rfl rfl ?_
    have e : oLeft S a b = (S.bad, -2) := by unfold oLeft; rw [if_neg (by first | exact ha | exact fun q => ha q.1 | exact fun q => hb q.2 | exact fun q => hb q.2.1 | exact fun q => hc q.2.2 | exact fun q => ha q.1.1 | exact fun q => hb q.1.2.1 | exact fun q => q.1.2.2 (congrArg nI (by assumption)) | exact fun q => hc q.2.1 | exact fun q => he q.2.2)]
    rw [e] at hQ
    exact hQ _ _ hm.bad (CF.u2 (by omega) (by omega))
set_option maxHeartbeats 4000000 in
set_option maxRecDepth 100000 in
theorem g_crusts {X : jX} {d n : Nat} {I : HI} {J : HJ} {i0 i1 : Option Nat} {Q : jPost} {S : SS} {yb : Nat} (hm : MI S I J) (hW : WF yb S.v) (hyb : yb ≤ 2 ^ 12) {a b : Int32} (hQ : MP Q (oCrusts S a b) n I J (Pg i0 i1)) : Cj X (d + 2) 0 0 mX10_crusts [.ref 33, .int a, .int b] n I J (Pg i0 i1) Q := by
  refine Cj.intro rfl (Nat.le_of_ble_eq_true rfl) (L := [.ref 33, .int a, .int b, jU, jU]) rfl ?_
  obtain ⟨⟨w0, w1, w2, w3, w4, w5, w6⟩, wp, wk, wc, wb⟩ := id hW
  refine j_aload_n dX10_crusts_0 rfl rfl rfl ?_
  refine j_iload_n dX10_crusts_1 rfl rfl rfl ?_
  refine j_callVw (As := [.int a]) dX10_crusts_2 rfl cX10_141 (by decide) rfl rfl (by decide) rfl (by decide) rfl rfl (c_misP hm.v w3 (fun ha => ?_) (fun ha => ?_))
  · obtain ⟨ja, rfl, hau⟩ := hasP_nat (by omega) ha
    show Rj _ _ _ _ _ _ 5 [.ref 33, .int (nI ja), .int b, jU, jU] [.int (nI 1)] n I J (Pg i0 i1)
    refine j_ifeqN (tgt := 17) dX10_crusts_5 rfl rfl (by decide) (fun h1 => by exfalso; omega) (fun h1 => ?_)
    refine j_iload_n dX10_crusts_8 rfl rfl rfl ?_
    refine j_iconst (v := nI 0) dX10_crusts_9 rfl rfl ?_
    refine j_iconst (v := nI 1) dX10_crusts_10 rfl rfl ?_
    refine j_callSw (As := [.int b, .int (nI 0), .int (nI 1)]) dX10_crusts_11 rfl cX10_50 rfl (by decide) rfl rfl (c_min (fun hb => ?_) (fun hb => ?_))
    · obtain ⟨jb, rfl, hbl, hbu⟩ := inR_nat (by decide) (by decide) hb
      show Rj _ _ _ _ _ _ 14 [.ref 33, .int (nI ja), .int (nI jb), jU, jU] [.int (nI 1)] n I J (Pg i0 i1)
      refine j_ifneN (tgt := 24) dX10_crusts_14 rfl rfl (by decide) (fun h2 => ?_) (fun h2 => by exfalso; omega)
      obtain ⟨q1, q2, q3, q4, q5⟩ := wp ja hau
      refine j_aload_n dX10_crusts_24 rfl rfl rfl ?_
      refine j_getP (b := 34) dX10_crusts_25 rfl fX10_7 rfl (by decide) rfl rfl ?_
      refine j_bipush (v := nI 13) dX10_crusts_28 rfl rfl ?_
      refine j_iload_n dX10_crusts_30 rfl rfl rfl ?_
      refine j_iaddN (c := 13 + ja) dX10_crusts_31 rfl rfl ?_
      refine j_iald (j := 13 + ja) (v := nI (S.v 2 ja)) dX10_crusts_32 rfl rfl (by decide) rfl (by omega) (by decide) (hm.v.lv (by omega)) ?_
      refine j_istore_n (L' := [.ref 33, .int (nI ja), .int (nI jb), .int (nI (S.v 2 ja)), jU]) dX10_crusts_33 rfl rfl rfl (by decide) rfl ?_
      refine j_iload_n dX10_crusts_34 rfl rfl rfl ?_
      refine j_iconst (v := nI 4) dX10_crusts_35 rfl rfl ?_
      refine j_iremN (c := (S.v 2 ja) % 4) dX10_crusts_36 rfl (by omega) (by decide) (by decide) rfl ?_
      refine j_iconst (v := nI 1) dX10_crusts_37 rfl rfl ?_
      refine j_icmpeqN (tgt := 45) dX10_crusts_38 rfl rfl (by omega) (by decide) (fun h3 => ?_) (fun h3 => ?_)
      · refine j_iconst (v := nI 0) dX10_crusts_45 rfl rfl ?_
        refine j_istore (L' := [.ref 33, .int (nI ja), .int (nI jb), .int (nI (S.v 2 ja)), .int (nI 0)]) dX10_crusts_46 rfl rfl (by decide) rfl ?_
        refine j_iload_n dX10_crusts_48 rfl rfl rfl ?_
        refine j_ifneN (tgt := 65) dX10_crusts_49 rfl rfl (by omega) (fun h4 => ?_) (fun h4 => ?_)
        · refine j_iload_n dX10_crusts_65 rfl rfl rfl ?_
          refine j_ifeqN (tgt := 74) dX10_crusts_66 rfl rfl (by omega) (fun h5 => ?_) (fun h5 => ?_)
          · refine j_iconst (v := nI 0) dX10_crusts_74 rfl rfl ?_
            refine j_goto (tgt := 83) dX10_crusts_75 rfl ?_
            refine j_iret dX10_crusts_83 rfl rfl ?_
            have e : oCrusts S (nI ja) (nI jb) = (S, nI (0)) := by unfold oCrusts crW crF; rw [if_pos (by exact ⟨ha, hb⟩), tN_nI (show jb < 2 ^ 30 by omega), tN_nI (show ja < 2 ^ 30 by omega)]; congr 1; (repeat' split) <;> first | rfl | (congr 1; omega) | (exfalso; omega)
            rw [e] at hQ
            exact hQ _ _ hm CF.rf
          · refine j_iload dX10_crusts_69 rfl rfl ?_
            refine j_ifneN (tgt := 78) dX10_crusts_71 rfl rfl (by decide) (fun h6 => by exfalso; omega) (fun h6 => ?_)
            refine j_iconst (v := nI 0) dX10_crusts_74 rfl rfl ?_
            refine j_goto (tgt := 83) dX10_crusts_75 rfl ?_
            refine j_iret dX10_crusts_83 rfl rfl ?_
            have e : oCrusts S (nI ja) (nI jb) = (S, nI (0)) := by unfold oCrusts crW crF; rw [if_pos (by exact ⟨ha, hb⟩), tN_nI (show jb < 2 ^ 30 by omega), tN_nI (show ja < 2 ^ 30 by omega)]; congr 1; (repeat' split) <;> first | rfl | (congr 1; omega) | (exfalso; omega)
            rw [e] at hQ
            exact hQ _ _ hm CF.rf
        · refine j_iload dX10_crusts_52 rfl rfl ?_
          refine j_ifeqN (tgt := 61) dX10_crusts_54 rfl rfl (by decide) (fun h7 => ?_) (fun h7 => by exfalso; omega)
          refine j_iconst (v := nI 0) dX10_crusts_61 rfl rfl ?_
          refine j_goto (tgt := 83) dX10_crusts_62 rfl ?_
          refine j_iret dX10_crusts_83 rfl rfl ?_
          have e : oCrusts S (nI ja) (nI jb) = (S, nI (0)) := by unfold oCrusts crW crF; rw [if_pos (by exact ⟨ha, hb⟩), tN_nI (show jb < 2 ^ 30 by omega), tN_nI (show ja < 2 ^ 30 by omega)]; congr 1; (repeat' split) <;> first | rfl | (congr 1; omega) | (exfalso; omega)
          rw [e] at hQ
          exact hQ _ _ hm CF.rf
      · refine j_iconst (v := nI 1) dX10_crusts_41 rfl rfl ?_
        refine j_goto (tgt := 46) dX10_crusts_42 rfl ?_
        refine j_istore (L' := [.ref 33, .int (nI ja), .int (nI jb), .int (nI (S.v 2 ja)), .int (nI 1)]) dX10_crusts_46 rfl rfl (by decide) rfl ?_
        refine j_iload_n dX10_crusts_48 rfl rfl rfl ?_
        refine j_ifneN (tgt := 65) dX10_crusts_49 rfl rfl (by omega) (fun h8 => ?_) (fun h8 => ?_)
        · refine j_iload_n dX10_crusts_65 rfl rfl rfl ?_
          refine j_ifeqN (tgt := 74) dX10_crusts_66 rfl rfl (by omega) (fun h9 => ?_) (fun h9 => ?_)
          · refine j_iconst (v := nI 0) dX10_crusts_74 rfl rfl ?_
            refine j_goto (tgt := 83) dX10_crusts_75 rfl ?_
            refine j_iret dX10_crusts_83 rfl rfl ?_
            have e : oCrusts S (nI ja) (nI jb) = (S, nI (0)) := by unfold oCrusts crW crF; rw [if_pos (by exact ⟨ha, hb⟩), tN_nI (show jb < 2 ^ 30 by omega), tN_nI (show ja < 2 ^ 30 by omega)]; congr 1; (repeat' split) <;> first | rfl | (congr 1; omega) | (exfalso; omega)
            rw [e] at hQ
            exact hQ _ _ hm CF.rf
          · refine j_iload dX10_crusts_69 rfl rfl ?_
            refine j_ifneN (tgt := 78) dX10_crusts_71 rfl rfl (by decide) (fun h10 => ?_) (fun h10 => by exfalso; omega)
            refine j_iload_n dX10_crusts_78 rfl rfl rfl ?_
            refine j_iconst (v := nI 3) dX10_crusts_79 rfl rfl ?_
            refine j_iaddN (c := (S.v 2 ja) + 3) dX10_crusts_80 rfl rfl ?_
            refine j_iconst (v := nI 4) dX10_crusts_81 rfl rfl ?_
            refine j_iremN (c := ((S.v 2 ja) + 3) % 4) dX10_crusts_82 rfl (by omega) (by decide) (by decide) rfl ?_
            refine j_iret dX10_crusts_83 rfl rfl ?_
            have e : oCrusts S (nI ja) (nI jb) = (S, nI (((S.v 2 ja) + 3) % 4)) := by unfold oCrusts crW crF; rw [if_pos (by exact ⟨ha, hb⟩), tN_nI (show jb < 2 ^ 30 by omega), tN_nI (show ja < 2 ^ 30 by omega)]; congr 1; (repeat' split) <;> first | rfl | (congr 1; omega) | (exfalso; omega)
            rw [e] at hQ
            exact hQ _ _ hm CF.rf
        · refine j_iload dX10_crusts_52 rfl rfl ?_
          refine j_ifeqN (tgt := 61) dX10_crusts_54 rfl rfl (by decide) (fun h11 => by exfalso; omega) (fun h11 => ?_)
          refine j_iconst (v := nI 1) dX10_crusts_57 rfl rfl ?_
          refine j_goto (tgt := 83) dX10_crusts_58 rfl ?_
          refine j_iret dX10_crusts_83 rfl rfl ?_
          have e : oCrusts S (nI ja) (nI jb) = (S, nI (1)) := by unfold oCrusts crW crF; rw [if_pos (by exact ⟨ha, hb⟩), tN_nI (show jb < 2 ^ 30 by omega), tN_nI (show ja < 2 ^ 30 by omega)]; congr 1; (repeat' split) <;> first | rfl | (congr 1; omega) | (exfalso; omega)
          rw [e] at hQ
          exact hQ _ _ hm CF.rf
    · show Rj _ _ _ _ _ _ 14 [.ref 33, .int (nI ja), .int b, jU, jU] [.int (nI 0)] n I J (Pg i0 i1)
      refine j_ifneN (tgt := 24) dX10_crusts_14 rfl rfl (by decide) (fun h12 => by exfalso; omega) (fun h12 => ?_)
      refine j_aload_n dX10_crusts_17 rfl rfl rfl ?_
      refine j_bipush (v := (-2)) dX10_crusts_18 rfl rfl ?_
      refine j_callVw (As := [.int (-2)]) dX10_crusts_20 rfl cX10_54 (by decide) rfl rfl (by decide) rfl (by decide) rfl rfl (c_mbad ?_)
      show Rj _ _ _ _ _ _ 23 [.ref 33, .int (nI ja), .int b, jU, jU] [.int (-2)] n (u2 I 39 0 (I 39 0 + nI 1)) J (Pg i0 i1)
      refine j_iret dX10_crusts_23 rfl rfl ?_
      have e : oCrusts S (nI ja) b = (S.bad, -2) := by unfold oCrusts; rw [if_neg (by first | exact ha | exact fun q => ha q.1 | exact fun q => hb q.2 | exact fun q => hb q.2.1 | exact fun q => hc q.2.2 | exact fun q => ha q.1.1 | exact fun q => hb q.1.2.1 | exact fun q => q.1.2.2 (congrArg nI (by assumption)) | exact fun q => hc q.2.1 | exact fun q => he q.2.2)]
      rw [e] at hQ
      exact hQ _ _ hm.bad (CF.u2 (by omega) (by omega))
  · show Rj _ _ _ _ _ _ 5 [.ref 33, .int a, .int b, jU, jU] [.int (nI 0)] n I J (Pg i0 i1)
    refine j_ifeqN (tgt := 17) dX10_crusts_5 rfl rfl (by decide) (fun h13 => ?_) (fun h13 => by exfalso; omega)
    refine j_aload_n dX10_crusts_17 rfl rfl rfl ?_
    refine j_bipush (v := (-2)) dX10_crusts_18 rfl rfl ?_
    refine j_callVw (As := [.int (-2)]) dX10_crusts_20 rfl cX10_54 (by decide) rfl rfl (by decide) rfl (by decide) rfl rfl (c_mbad ?_)
    show Rj _ _ _ _ _ _ 23 [.ref 33, .int a, .int b, jU, jU] [.int (-2)] n (u2 I 39 0 (I 39 0 + nI 1)) J (Pg i0 i1)
    refine j_iret dX10_crusts_23 rfl rfl ?_
    have e : oCrusts S a b = (S.bad, -2) := by unfold oCrusts; rw [if_neg (by first | exact ha | exact fun q => ha q.1 | exact fun q => hb q.2 | exact fun q => hb q.2.1 | exact fun q => hc q.2.2 | exact fun q => ha q.1.1 | exact fun q => hb q.1.2.1 | exact fun q => q.1.2.2 (congrArg nI (by assumption)) | exact fun q => hc q.2.1 | exact fun q => he q.2.2)]
    rw [e] at hQ
    exact hQ _ _ hm.bad (CF.u2 (by omega) (by omega))
set_option maxHeartbeats 4000000 in
set_option maxRecDepth 100000 in
theorem g_status {X : jX} {d n : Nat} {I : HI} {J : HJ} {i0 i1 : Option Nat} {Q : jPost} {S : SS} {yb : Nat} (hm : MI S I J) (hW : WF yb S.v) (hyb : yb ≤ 2 ^ 12) {a : Int32} (hQ : MP Q (oStatus S a) n I J (Pg i0 i1)) : Cj X (d + 1) 0 0 mX10_status [.ref 33, .int a] n I J (Pg i0 i1) Q := by
  refine Cj.intro rfl (Nat.le_of_ble_eq_true rfl) (L := [.ref 33, .int a]) rfl ?_
  by_cases ha : inR a (nI 0) (nI 2)
  · obtain ⟨ja, rfl, hal, hau⟩ := inR_nat (by decide) (by decide) ha
    rcases (show ja = 0 ∨ ja = 1 ∨ ja = 2 by omega) with rfl | rfl | rfl
    · skip
      refine j_iload_n dX10_status_0 rfl rfl rfl ?_
      refine j_iconst (v := nI 0) dX10_status_1 rfl rfl ?_
      refine j_iconst (v := nI 2) dX10_status_2 rfl rfl ?_
      refine j_callSw (As := [.int (nI 0), .int (nI 0), .int (nI 2)]) dX10_status_3 rfl cX10_50 rfl (by decide) rfl rfl (c_min (fun _ => ?_) (fun q => absurd ha q))
      show Rj _ _ _ _ _ _ 6 [.ref 33, .int (nI 0)] [.int (nI 1)] n I J (Pg i0 i1)
      refine j_ifneN (tgt := 18) dX10_status_6 rfl rfl (by decide) (fun h1 => ?_) (fun h1 => by exfalso; omega)
      refine j_aload_n dX10_status_18 rfl rfl rfl ?_
      refine j_getP (b := 39) dX10_status_19 rfl fX10_30 rfl (by decide) rfl rfl ?_
      refine j_iload_n dX10_status_22 rfl rfl rfl ?_
      refine j_iald (j := 0) (v := S.r0) dX10_status_23 rfl rfl (by decide) rfl (by decide) (by decide) hm.2.2.1.1 ?_
      refine j_iret dX10_status_24 rfl rfl ?_
      have e : oStatus S (nI 0) = (S, S.r0) := by unfold oStatus; rw [if_pos (by exact ha)]; rfl
      rw [e] at hQ
      exact hQ _ _ hm CF.rf
    · skip
      refine j_iload_n dX10_status_0 rfl rfl rfl ?_
      refine j_iconst (v := nI 0) dX10_status_1 rfl rfl ?_
      refine j_iconst (v := nI 2) dX10_status_2 rfl rfl ?_
      refine j_callSw (As := [.int (nI 1), .int (nI 0), .int (nI 2)]) dX10_status_3 rfl cX10_50 rfl (by decide) rfl rfl (c_min (fun _ => ?_) (fun q => absurd ha q))
      show Rj _ _ _ _ _ _ 6 [.ref 33, .int (nI 1)] [.int (nI 1)] n I J (Pg i0 i1)
      refine j_ifneN (tgt := 18) dX10_status_6 rfl rfl (by decide) (fun h1 => ?_) (fun h1 => by exfalso; omega)
      refine j_aload_n dX10_status_18 rfl rfl rfl ?_
      refine j_getP (b := 39) dX10_status_19 rfl fX10_30 rfl (by decide) rfl rfl ?_
      refine j_iload_n dX10_status_22 rfl rfl rfl ?_
      refine j_iald (j := 1) (v := S.r1) dX10_status_23 rfl rfl (by decide) rfl (by decide) (by decide) hm.2.2.1.2.1 ?_
      refine j_iret dX10_status_24 rfl rfl ?_
      have e : oStatus S (nI 1) = (S, S.r1) := by unfold oStatus; rw [if_pos (by exact ha)]; rfl
      rw [e] at hQ
      exact hQ _ _ hm CF.rf
    · skip
      refine j_iload_n dX10_status_0 rfl rfl rfl ?_
      refine j_iconst (v := nI 0) dX10_status_1 rfl rfl ?_
      refine j_iconst (v := nI 2) dX10_status_2 rfl rfl ?_
      refine j_callSw (As := [.int (nI 2), .int (nI 0), .int (nI 2)]) dX10_status_3 rfl cX10_50 rfl (by decide) rfl rfl (c_min (fun _ => ?_) (fun q => absurd ha q))
      show Rj _ _ _ _ _ _ 6 [.ref 33, .int (nI 2)] [.int (nI 1)] n I J (Pg i0 i1)
      refine j_ifneN (tgt := 18) dX10_status_6 rfl rfl (by decide) (fun h1 => ?_) (fun h1 => by exfalso; omega)
      refine j_aload_n dX10_status_18 rfl rfl rfl ?_
      refine j_getP (b := 39) dX10_status_19 rfl fX10_30 rfl (by decide) rfl rfl ?_
      refine j_iload_n dX10_status_22 rfl rfl rfl ?_
      refine j_iald (j := 2) (v := S.r2) dX10_status_23 rfl rfl (by decide) rfl (by decide) (by decide) hm.2.2.1.2.2 ?_
      refine j_iret dX10_status_24 rfl rfl ?_
      have e : oStatus S (nI 2) = (S, S.r2) := by unfold oStatus; rw [if_pos (by exact ha)]; rfl
      rw [e] at hQ
      exact hQ _ _ hm CF.rf
  · skip
    refine j_iload_n dX10_status_0 rfl rfl rfl ?_
    refine j_iconst (v := nI 0) dX10_status_1 rfl rfl ?_
    refine j_iconst (v := nI 2) dX10_status_2 rfl rfl ?_
    refine j_callSw (As := [.int a, .int (nI 0), .int (nI 2)]) dX10_status_3 rfl cX10_50 rfl (by decide) rfl rfl (c_min (fun q => absurd q ha) (fun _ => ?_))
    show Rj _ _ _ _ _ _ 6 [.ref 33, .int a] [.int (nI 0)] n I J (Pg i0 i1)
    refine j_ifneN (tgt := 18) dX10_status_6 rfl rfl (by decide) (fun h1 => by exfalso; omega) (fun h1 => ?_)
    refine j_aload_n dX10_status_9 rfl rfl rfl ?_
    refine j_bipush (v := (-2)) dX10_status_10 rfl rfl ?_
    refine j_callVw (As := [.int (-2)]) dX10_status_12 rfl cX10_54 (by decide) rfl rfl (by decide) rfl (by decide) rfl rfl (c_mbad ?_)
    show Rj _ _ _ _ _ _ 15 [.ref 33, .int a] [.int (-2)] n (u2 I 39 0 (I 39 0 + nI 1)) J (Pg i0 i1)
    refine j_pop dX10_status_15 rfl rfl ?_
    refine j_iconst (v := (-1)) dX10_status_16 rfl rfl ?_
    refine j_iret dX10_status_17 rfl rfl ?_
    have e : oStatus S a = (S.bad, -1) := by unfold oStatus; rw [if_neg (by first | exact ha | exact fun q => ha q.1 | exact fun q => hb q.2 | exact fun q => hb q.2.1 | exact fun q => hc q.2.2 | exact fun q => ha q.1.1 | exact fun q => hb q.1.2.1 | exact fun q => q.1.2.2 (congrArg nI (by assumption)) | exact fun q => hc q.2.1 | exact fun q => he q.2.2)]
    rw [e] at hQ
    exact hQ _ _ hm.bad (CF.u2 (by omega) (by omega))
