set_option maxHeartbeats 4000000 in
set_option maxRecDepth 100000 in
theorem c_beginnerWins {X : jX} {d n : Nat} {I : HI} {J : HJ} {i0 i1 : Option Nat} {Q : jPost} {l : Nat} (hl : l ≤ 60) (hQ : Q (some (.int (nI (crW l)))) n I J (Pg i0 i1)) : Cj X d 0 0 mX0_beginnerWins [.int (nI l)] n I J (Pg i0 i1) Q := by
  refine Cj.intro rfl (Nat.le_of_ble_eq_true rfl) (L := [.int (nI l)]) rfl ?_
  refine j_iload_n dX0_beginnerWins_0 rfl rfl rfl ?_
  refine j_iconst (v := nI 4) dX0_beginnerWins_1 rfl rfl ?_
  refine j_iremN (c := l % 4) dX0_beginnerWins_2 rfl (by omega) (by decide) (by decide) rfl ?_
  refine j_iconst (v := nI 1) dX0_beginnerWins_3 rfl rfl ?_
  refine j_icmpneN (tgt := 11) dX0_beginnerWins_4 rfl rfl (by omega) (by decide) (fun h1 => ?_) (fun h1 => ?_)
  · refine j_iconst (v := nI 1) dX0_beginnerWins_11 rfl rfl ?_
    refine j_iret dX0_beginnerWins_12 rfl rfl ?_
    have e : crW l = 1 := by unfold crW; first | (rw [if_pos (by omega)]) | (rw [if_neg (by omega)])
    rw [e] at hQ
    exact hQ
  · refine j_iconst (v := nI 0) dX0_beginnerWins_7 rfl rfl ?_
    refine j_goto (tgt := 12) dX0_beginnerWins_8 rfl ?_
    refine j_iret dX0_beginnerWins_12 rfl rfl ?_
    have e : crW l = 0 := by unfold crW; first | (rw [if_pos (by omega)]) | (rw [if_neg (by omega)])
    rw [e] at hQ
    exact hQ
set_option maxHeartbeats 4000000 in
set_option maxRecDepth 100000 in
theorem c_firstBroken {X : jX} {d n : Nat} {I : HI} {J : HJ} {i0 i1 : Option Nat} {Q : jPost} {l : Nat} (hl : l ≤ 60) (hQ : Q (some (.int (nI (crF l)))) n I J (Pg i0 i1)) : Cj X d 0 0 mX0_firstBroken [.int (nI l)] n I J (Pg i0 i1) Q := by
  refine Cj.intro rfl (Nat.le_of_ble_eq_true rfl) (L := [.int (nI l)]) rfl ?_
  refine j_iload_n dX0_firstBroken_0 rfl rfl rfl ?_
  refine j_ifneN (tgt := 8) dX0_firstBroken_1 rfl rfl (by omega) (fun h1 => ?_) (fun h1 => ?_)
  · refine j_iload_n dX0_firstBroken_8 rfl rfl rfl ?_
    refine j_iconst (v := nI 1) dX0_firstBroken_9 rfl rfl ?_
    refine j_isubN (c := l - 1) dX0_firstBroken_10 rfl (by omega) rfl ?_
    refine j_iconst (v := nI 4) dX0_firstBroken_11 rfl rfl ?_
    refine j_iremN (c := (l - 1) % 4) dX0_firstBroken_12 rfl (by omega) (by decide) (by decide) rfl ?_
    refine j_iret dX0_firstBroken_13 rfl rfl ?_
    have e : crF l = (l - 1) % 4 := by unfold crF; first | (rw [if_pos (by omega)]) | (rw [if_neg (by omega)])
    rw [e] at hQ
    exact hQ
  · refine j_iconst (v := nI 0) dX0_firstBroken_4 rfl rfl ?_
    refine j_goto (tgt := 13) dX0_firstBroken_5 rfl ?_
    refine j_iret dX0_firstBroken_13 rfl rfl ?_
    have e : crF l = 0 := by unfold crF; first | (rw [if_pos (by omega)]) | (rw [if_neg (by omega)])
    rw [e] at hQ
    exact hQ
set_option maxHeartbeats 4000000 in
set_option maxRecDepth 100000 in
theorem f_of {X : jX} {d n : Nat} {I : HI} {J : HJ} {i0 i1 : Option Nat} {Q : jPost} {S : SS} {yb : Nat} (hC : CI S n i0 i1 I J) (hW : WF yb S.v) (hyb : yb ≤ 2 ^ 12) {a b : Int32} (hQ : CP Q (oOf S a b) I J) : Cj X (d + 4) 0 0 mX9_of [.ref 0, .int a, .int b] n I J (Pg i0 i1) Q := by
  refine Cj.intro rfl (Nat.le_of_ble_eq_true rfl) (L := [.ref 0, .int a, .int b]) rfl ?_
  obtain ⟨⟨w0, w1, w2, w3, w4, w5, w6⟩, wp, wk, wc, wb⟩ := id hW
  by_cases hb : inR b (nI 0) (nI 4)
  · obtain ⟨jb, rfl, hbl, hbu⟩ := inR_nat (by decide) (by decide) hb
    refine j_aload_n dX9_of_0 rfl rfl rfl ?_
    refine j_getP (b := 1) dX9_of_1 rfl fX9_10 rfl (by decide) rfl rfl ?_
    refine j_iload_n dX9_of_4 rfl rfl rfl ?_
    refine j_callVw (As := [.int a]) dX9_of_5 rfl cX9_109 (by decide) rfl rfl (by decide) rfl (by decide) rfl rfl (c_hasPair hC.v (fun ha => ?_) (fun ha => ?_))
    · obtain ⟨ja, rfl, hau⟩ := hasP_nat (by omega) ha
      show Rj _ _ _ _ _ _ 8 [.ref 0, .int (nI ja), .int (nI jb)] [.int (nI 1)] n I J (Pg i0 i1)
      refine j_ifneN (tgt := 16) dX9_of_8 rfl rfl (by decide) (fun h1 => ?_) (fun h1 => by exfalso; omega)
      obtain ⟨q1, q2, q3, q4, q5⟩ := wp ja hau
      refine j_iload_n dX9_of_16 rfl rfl rfl ?_
      rcases (show jb = 0 ∨ jb = 1 ∨ jb = 2 ∨ jb = 3 ∨ jb = 4 by omega) with rfl | rfl | rfl | rfl | rfl
      · refine j_tabN (a := 0) (k := 0) (off := 35) (tgt := 52) dX9_of_17 (by decide) rfl (by decide) (by decide) rfl rfl ?_
        refine j_aload_n dX9_of_52 rfl rfl rfl ?_
        refine j_getP (b := 1) dX9_of_53 rfl fX9_10 rfl (by decide) rfl rfl ?_
        refine j_getP (b := 2) dX9_of_56 rfl fX9_142 rfl (by decide) rfl rfl ?_
        refine j_iload_n dX9_of_59 rfl rfl rfl ?_
        refine j_iald (j := ja) (v := nI (S.v 1 ja)) dX9_of_60 rfl rfl (by decide) rfl (by omega) (by decide) (hC.v.kd (by omega)) ?_
        refine j_iret dX9_of_61 rfl rfl ?_
        have e : oOf S (nI ja) (nI 0) = (S, nI (S.v 1 ja)) := by unfold oOf; rw [if_pos (by exact ⟨ha, hb⟩), tN_nI (show ja < 2 ^ 30 by omega)]; rfl
        rw [e] at hQ
        exact hQ _ _ _ _ _ hC MF.rf
      · refine j_tabN (a := 1) (k := 0) (off := 45) (tgt := 62) dX9_of_17 (by decide) rfl (by decide) (by decide) rfl rfl ?_
        refine j_aload_n dX9_of_62 rfl rfl rfl ?_
        refine j_getP (b := 1) dX9_of_63 rfl fX9_10 rfl (by decide) rfl rfl ?_
        refine j_getP (b := 3) dX9_of_66 rfl fX9_116 rfl (by decide) rfl rfl ?_
        refine j_iload_n dX9_of_69 rfl rfl rfl ?_
        refine j_iald (j := ja) (v := nI (S.v 2 ja)) dX9_of_70 rfl rfl (by decide) rfl (by omega) (by decide) (hC.v.lv (by omega)) ?_
        refine j_iret dX9_of_71 rfl rfl ?_
        have e : oOf S (nI ja) (nI 1) = (S, nI (S.v 2 ja)) := by unfold oOf; rw [if_pos (by exact ⟨ha, hb⟩), tN_nI (show ja < 2 ^ 30 by omega)]; rfl
        rw [e] at hQ
        exact hQ _ _ _ _ _ hC MF.rf
      · refine j_tabN (a := 2) (k := 0) (off := 55) (tgt := 72) dX9_of_17 (by decide) rfl (by decide) (by decide) rfl rfl ?_
        refine j_aload_n dX9_of_72 rfl rfl rfl ?_
        refine j_getP (b := 1) dX9_of_73 rfl fX9_10 rfl (by decide) rfl rfl ?_
        refine j_getP (b := 4) dX9_of_76 rfl fX9_145 rfl (by decide) rfl rfl ?_
        refine j_iload_n dX9_of_79 rfl rfl rfl ?_
        refine j_iald (j := ja) (v := nI (S.v 3 ja)) dX9_of_80 rfl rfl (by decide) rfl (by omega) (by decide) (hC.v.sn (by omega)) ?_
        refine j_iret dX9_of_81 rfl rfl ?_
        have e : oOf S (nI ja) (nI 2) = (S, nI (S.v 3 ja)) := by unfold oOf; rw [if_pos (by exact ⟨ha, hb⟩), tN_nI (show ja < 2 ^ 30 by omega)]; rfl
        rw [e] at hQ
        exact hQ _ _ _ _ _ hC MF.rf
      · refine j_tabN (a := 3) (k := 0) (off := 65) (tgt := 82) dX9_of_17 (by decide) rfl (by decide) (by decide) rfl rfl ?_
        refine j_aload_n dX9_of_82 rfl rfl rfl ?_
        refine j_getP (b := 1) dX9_of_83 rfl fX9_10 rfl (by decide) rfl rfl ?_
        refine j_getP (b := 5) dX9_of_86 rfl fX9_148 rfl (by decide) rfl rfl ?_
        refine j_iload_n dX9_of_89 rfl rfl rfl ?_
        refine j_iald (j := ja) (v := nI (S.v 4 ja) - 1) dX9_of_90 rfl rfl (by decide) rfl (by omega) (by decide) (hC.v.en (by omega)) ?_
        refine j_iret dX9_of_91 rfl rfl ?_
        have e : oOf S (nI ja) (nI 3) = (S, nI (S.v 4 ja) - 1) := by unfold oOf; rw [if_pos (by exact ⟨ha, hb⟩), tN_nI (show ja < 2 ^ 30 by omega)]; rfl
        rw [e] at hQ
        exact hQ _ _ _ _ _ hC MF.rf
      · refine j_tabN (a := 4) (k := 0) (off := 75) (tgt := 92) dX9_of_17 (by decide) rfl (by decide) (by decide) rfl rfl ?_
        refine j_aload_n dX9_of_92 rfl rfl rfl ?_
        refine j_getP (b := 1) dX9_of_93 rfl fX9_10 rfl (by decide) rfl rfl ?_
        refine j_getP (b := 2) dX9_of_96 rfl fX9_142 rfl (by decide) rfl rfl ?_
        refine j_iload_n dX9_of_99 rfl rfl rfl ?_
        refine j_iald (j := ja) (v := nI (S.v 1 ja)) dX9_of_100 rfl rfl (by decide) rfl (by omega) (by decide) (hC.v.kd (by omega)) ?_
        refine j_aload_n dX9_of_101 rfl rfl rfl ?_
        refine j_getP (b := 1) dX9_of_102 rfl fX9_10 rfl (by decide) rfl rfl ?_
        refine j_getIv (v := nI (S.v 0 0)) dX9_of_105 rfl fX9_139 rfl (by decide) rfl hC.v.year ?_
        refine j_aload_n dX9_of_108 rfl rfl rfl ?_
        refine j_getP (b := 1) dX9_of_109 rfl fX9_10 rfl (by decide) rfl rfl ?_
        refine j_getIv (v := nI (S.v 0 1)) dX9_of_112 rfl fX9_79 rfl (by decide) rfl hC.v.damp ?_
        refine j_aload_n dX9_of_115 rfl rfl rfl ?_
        refine j_getP (b := 1) dX9_of_116 rfl fX9_10 rfl (by decide) rfl rfl ?_
        refine j_getIv (v := nI (S.v 0 2)) dX9_of_119 rfl fX9_82 rfl (by decide) rfl hC.v.dry ?_
        refine j_callSw (As := [.int (nI (S.v 1 ja)), .int (nI (S.v 0 0)), .int (nI (S.v 0 1)), .int (nI (S.v 0 2))]) dX9_of_122 rfl cX9_151 rfl (by decide) rfl rfl (c_goes (by omega) (by omega) (by omega) (by omega) ?_)
        show Rj _ _ _ _ _ _ 125 [.ref 0, .int (nI ja), .int (nI 4)] [.int (nI (gos (S.v 1 ja) (S.v 0 0) (S.v 0 1) (S.v 0 2)))] n I J (Pg i0 i1)
        refine j_iret dX9_of_125 rfl rfl ?_
        have e : oOf S (nI ja) (nI 4) = (S, nI (gos (S.v 1 ja) (S.v 0 0) (S.v 0 1) (S.v 0 2))) := by unfold oOf; rw [if_pos (by exact ⟨ha, hb⟩), tN_nI (show ja < 2 ^ 30 by omega)]; rfl
        rw [e] at hQ
        exact hQ _ _ _ _ _ hC MF.rf
    · show Rj _ _ _ _ _ _ 8 [.ref 0, .int a, .int (nI jb)] [.int (nI 0)] n I J (Pg i0 i1)
      refine j_ifneN (tgt := 16) dX9_of_8 rfl rfl (by decide) (fun h2 => by exfalso; omega) (fun h2 => ?_)
      refine j_aload_n dX9_of_11 rfl rfl rfl ?_
      refine j_callVw (As := []) dX9_of_12 rfl cX9_113 (by decide) rfl rfl (by decide) rfl (by decide) rfl rfl (c_badTen ?_)
      show Rj _ _ _ _ _ _ 15 [.ref 0, .int a, .int (nI jb)] [.int (-10)] n (u2 I 0 7 (I 0 7 + nI 1)) J (Pg i0 i1)
      refine j_iret dX9_of_15 rfl rfl ?_
      have e : oOf S a (nI jb) = (S.bad, -10) := by unfold oOf; rw [if_neg (by first | exact ha | exact fun q => ha q.1 | exact fun q => hb q.2 | exact fun q => ha q.1.1 | exact fun q => hb q.1.2.1 | exact fun q => q.1.2.2 (by assumption) | exact fun q => q.1.2.2 rfl | exact fun q => hc q.2.1 | exact fun q => he q.2.2)]
      rw [e] at hQ
      exact hQ _ _ _ _ _ hC.bad MF.sta
  · skip
    refine j_aload_n dX9_of_0 rfl rfl rfl ?_
    refine j_getP (b := 1) dX9_of_1 rfl fX9_10 rfl (by decide) rfl rfl ?_
    refine j_iload_n dX9_of_4 rfl rfl rfl ?_
    refine j_callVw (As := [.int a]) dX9_of_5 rfl cX9_109 (by decide) rfl rfl (by decide) rfl (by decide) rfl rfl (c_hasPair hC.v (fun ha => ?_) (fun ha => ?_))
    · obtain ⟨ja, rfl, hau⟩ := hasP_nat (by omega) ha
      show Rj _ _ _ _ _ _ 8 [.ref 0, .int (nI ja), .int b] [.int (nI 1)] n I J (Pg i0 i1)
      refine j_ifneN (tgt := 16) dX9_of_8 rfl rfl (by decide) (fun h1 => ?_) (fun h1 => by exfalso; omega)
      refine j_iload_n dX9_of_16 rfl rfl rfl ?_
      refine j_tabOut (tgt := 126) dX9_of_17 (inR_out (by decide) hb) rfl ?_
      refine j_aload_n dX9_of_126 rfl rfl rfl ?_
      refine j_callVw (As := []) dX9_of_127 rfl cX9_113 (by decide) rfl rfl (by decide) rfl (by decide) rfl rfl (c_badTen ?_)
      show Rj _ _ _ _ _ _ 130 [.ref 0, .int (nI ja), .int b] [.int (-10)] n (u2 I 0 7 (I 0 7 + nI 1)) J (Pg i0 i1)
      refine j_iret dX9_of_130 rfl rfl ?_
      have e : oOf S (nI ja) b = (S.bad, -10) := by unfold oOf; rw [if_neg (by first | exact ha | exact fun q => ha q.1 | exact fun q => hb q.2 | exact fun q => ha q.1.1 | exact fun q => hb q.1.2.1 | exact fun q => q.1.2.2 (by assumption) | exact fun q => q.1.2.2 rfl | exact fun q => hc q.2.1 | exact fun q => he q.2.2)]
      rw [e] at hQ
      exact hQ _ _ _ _ _ hC.bad MF.sta
    · show Rj _ _ _ _ _ _ 8 [.ref 0, .int a, .int b] [.int (nI 0)] n I J (Pg i0 i1)
      refine j_ifneN (tgt := 16) dX9_of_8 rfl rfl (by decide) (fun h2 => by exfalso; omega) (fun h2 => ?_)
      refine j_aload_n dX9_of_11 rfl rfl rfl ?_
      refine j_callVw (As := []) dX9_of_12 rfl cX9_113 (by decide) rfl rfl (by decide) rfl (by decide) rfl rfl (c_badTen ?_)
      show Rj _ _ _ _ _ _ 15 [.ref 0, .int a, .int b] [.int (-10)] n (u2 I 0 7 (I 0 7 + nI 1)) J (Pg i0 i1)
      refine j_iret dX9_of_15 rfl rfl ?_
      have e : oOf S a b = (S.bad, -10) := by unfold oOf; rw [if_neg (by first | exact ha | exact fun q => ha q.1 | exact fun q => hb q.2 | exact fun q => ha q.1.1 | exact fun q => hb q.1.2.1 | exact fun q => q.1.2.2 (by assumption) | exact fun q => q.1.2.2 rfl | exact fun q => hc q.2.1 | exact fun q => he q.2.2)]
      rw [e] at hQ
      exact hQ _ _ _ _ _ hC.bad MF.sta
set_option maxHeartbeats 4000000 in
set_option maxRecDepth 100000 in
theorem f_counted {X : jX} {d n : Nat} {I : HI} {J : HJ} {i0 i1 : Option Nat} {Q : jPost} {S : SS} {yb : Nat} (hC : CI S n i0 i1 I J) (hW : WF yb S.v) (hyb : yb ≤ 2 ^ 12) {a b c : Int32} (hQ : CP Q (oCnt S a b c) I J) : Cj X (d + 2) 0 0 mX9_counted [.ref 0, .int a, .int b, .int c] n I J (Pg i0 i1) Q := by
  refine Cj.intro rfl (Nat.le_of_ble_eq_true rfl) (L := [.ref 0, .int a, .int b, .int c, jU]) rfl ?_
  obtain ⟨⟨w0, w1, w2, w3, w4, w5, w6⟩, wp, wk, wc, wb⟩ := id hW
  refine j_aload_n dX9_counted_0 rfl rfl rfl ?_
  refine j_getP (b := 1) dX9_counted_1 rfl fX9_10 rfl (by decide) rfl rfl ?_
  refine j_iload_n dX9_counted_4 rfl rfl rfl ?_
  refine j_callVw (As := [.int a]) dX9_counted_5 rfl cX9_109 (by decide) rfl rfl (by decide) rfl (by decide) rfl rfl (c_hasPair hC.v (fun ha => ?_) (fun ha => ?_))
  · obtain ⟨ja, rfl, hau⟩ := hasP_nat (by omega) ha
    show Rj _ _ _ _ _ _ 8 [.ref 0, .int (nI ja), .int b, .int c, jU] [.int (nI 1)] n I J (Pg i0 i1)
    refine j_ifeqN (tgt := 31) dX9_counted_8 rfl rfl (by decide) (fun h1 => by exfalso; omega) (fun h1 => ?_)
    refine j_iload_n dX9_counted_11 rfl rfl rfl ?_
    refine j_iconst (v := nI 0) dX9_counted_12 rfl rfl ?_
    refine j_bipush (v := nI 60) dX9_counted_13 rfl rfl ?_
    refine j_callSw (As := [.int b, .int (nI 0), .int (nI 60)]) dX9_counted_15 rfl cX9_71 rfl (by decide) rfl rfl (c_within (fun hb => ?_) (fun hb => ?_))
    · obtain ⟨jb, rfl, hbl, hbu⟩ := inR_nat (by decide) (by decide) hb
      show Rj _ _ _ _ _ _ 18 [.ref 0, .int (nI ja), .int (nI jb), .int c, jU] [.int (nI 1)] n I J (Pg i0 i1)
      refine j_ifeqN (tgt := 31) dX9_counted_18 rfl rfl (by decide) (fun h2 => by exfalso; omega) (fun h2 => ?_)
      refine j_iload_n dX9_counted_21 rfl rfl rfl ?_
      refine j_iconst (v := nI 0) dX9_counted_22 rfl rfl ?_
      refine j_bipush (v := nI 60) dX9_counted_23 rfl rfl ?_
      refine j_callSw (As := [.int c, .int (nI 0), .int (nI 60)]) dX9_counted_25 rfl cX9_71 rfl (by decide) rfl rfl (c_within (fun hc => ?_) (fun hc => ?_))
      · obtain ⟨jc, rfl, hcl, hcu⟩ := inR_nat (by decide) (by decide) hc
        show Rj _ _ _ _ _ _ 28 [.ref 0, .int (nI ja), .int (nI jb), .int (nI jc), jU] [.int (nI 1)] n I J (Pg i0 i1)
        refine j_ifneN (tgt := 36) dX9_counted_28 rfl rfl (by decide) (fun h3 => ?_) (fun h3 => by exfalso; omega)
        refine j_aload_n dX9_counted_36 rfl rfl rfl ?_
        refine j_getP (b := 1) dX9_counted_37 rfl fX9_10 rfl (by decide) rfl rfl ?_
        refine j_iload_n dX9_counted_40 rfl rfl rfl ?_
        refine j_iload_n dX9_counted_41 rfl rfl rfl ?_
        refine j_iload_n dX9_counted_42 rfl rfl rfl ?_
        refine j_callVw (As := [.int (nI ja), .int (nI jb), .int (nI jc)]) dX9_counted_43 rfl cX9_190 (by decide) rfl rfl (by decide) rfl (by decide) rfl rfl (c_addCountedX hC.v w5 (fun hf I1 hV1 ho1 => ?_) (fun hf => ?_))
        · show Rj _ _ _ _ _ _ 46 [.ref 0, .int (nI ja), .int (nI jb), .int (nI jc), jU] [.int (nI (S.v 0 5 + 1))] n I1 J (Pg i0 i1)
          refine j_istore (L' := [.ref 0, .int (nI ja), .int (nI jb), .int (nI jc), .int (nI (S.v 0 5 + 1))]) dX9_counted_46 rfl rfl (by decide) rfl ?_
          refine j_iload dX9_counted_48 rfl rfl ?_
          refine j_bipush (v := (-4)) dX9_counted_50 rfl rfl ?_
          refine j_icmpne (tgt := 62) dX9_counted_52 rfl rfl (fun h4 => ?_) (fun h4 => by exfalso; exact nI_m4 (show _ < 2 ^ 31 by omega) h4)
          refine j_iload dX9_counted_62 rfl rfl ?_
          refine j_iret dX9_counted_64 rfl rfl ?_
          have e : oCnt S (nI ja) (nI jb) (nI jc) = (S.set (vCnt S.v ja jb jc), nI (S.v 0 5 + 1)) := by unfold oCnt; rw [if_pos (by exact ⟨ha, hb, hc⟩), if_neg (by exact hf), tN_nI (show ja < 2 ^ 30 by omega), tN_nI (show jb < 2 ^ 30 by omega), tN_nI (show jc < 2 ^ 30 by omega)]
          rw [e] at hQ
          exact hQ _ _ _ _ _ (hC.one hV1 ho1) ho1.mf
        · show Rj _ _ _ _ _ _ 46 [.ref 0, .int (nI ja), .int (nI jb), .int (nI jc), jU] [.int (-4)] n I J (Pg i0 i1)
          refine j_istore (L' := [.ref 0, .int (nI ja), .int (nI jb), .int (nI jc), .int (-4)]) dX9_counted_46 rfl rfl (by decide) rfl ?_
          refine j_iload dX9_counted_48 rfl rfl ?_
          refine j_bipush (v := (-4)) dX9_counted_50 rfl rfl ?_
          refine j_icmpne (tgt := 62) dX9_counted_52 rfl rfl (fun h5 => by exfalso; exact h5 rfl) (fun h5 => ?_)
          refine j_aload_n dX9_counted_55 rfl rfl rfl ?_
          refine j_callVw (As := []) dX9_counted_56 rfl cX9_89 (by decide) rfl rfl (by decide) rfl (by decide) rfl rfl (c_full ?_)
          show Rj _ _ _ _ _ _ 59 [.ref 0, .int (nI ja), .int (nI jb), .int (nI jc), .int (-4)] [.int (-4)] n (u2 I 0 9 (I 0 9 + nI 1)) J (Pg i0 i1)
          refine j_goto (tgt := 64) dX9_counted_59 rfl ?_
          refine j_iret dX9_counted_64 rfl rfl ?_
          have e : oCnt S (nI ja) (nI jb) (nI jc) = (S.full, -4) := by unfold oCnt; rw [if_pos (by exact ⟨ha, hb, hc⟩), if_pos (by exact hf)]
          rw [e] at hQ
          exact hQ _ _ _ _ _ hC.full MF.sta
      · show Rj _ _ _ _ _ _ 28 [.ref 0, .int (nI ja), .int (nI jb), .int c, jU] [.int (nI 0)] n I J (Pg i0 i1)
        refine j_ifneN (tgt := 36) dX9_counted_28 rfl rfl (by decide) (fun h6 => by exfalso; omega) (fun h6 => ?_)
        refine j_aload_n dX9_counted_31 rfl rfl rfl ?_
        refine j_callVw (As := []) dX9_counted_32 rfl cX9_75 (by decide) rfl rfl (by decide) rfl (by decide) rfl rfl (c_bad ?_)
        show Rj _ _ _ _ _ _ 35 [.ref 0, .int (nI ja), .int (nI jb), .int c, jU] [.int (-2)] n (u2 I 0 7 (I 0 7 + nI 1)) J (Pg i0 i1)
        refine j_iret dX9_counted_35 rfl rfl ?_
        have e : oCnt S (nI ja) (nI jb) c = (S.bad, -2) := by unfold oCnt; rw [if_neg (by first | exact ha | exact fun q => ha q.1 | exact fun q => hb q.2.1 | exact fun q => hc q.2.2 | exact fun q => ha q.1.1 | exact fun q => hb q.1.2.1 | exact fun q => q.1.2.2 (by assumption) | exact fun q => q.1.2.2 rfl | exact fun q => hc q.2.1 | exact fun q => he q.2.2)]
        rw [e] at hQ
        exact hQ _ _ _ _ _ hC.bad MF.sta
    · show Rj _ _ _ _ _ _ 18 [.ref 0, .int (nI ja), .int b, .int c, jU] [.int (nI 0)] n I J (Pg i0 i1)
      refine j_ifeqN (tgt := 31) dX9_counted_18 rfl rfl (by decide) (fun h7 => ?_) (fun h7 => by exfalso; omega)
      refine j_aload_n dX9_counted_31 rfl rfl rfl ?_
      refine j_callVw (As := []) dX9_counted_32 rfl cX9_75 (by decide) rfl rfl (by decide) rfl (by decide) rfl rfl (c_bad ?_)
      show Rj _ _ _ _ _ _ 35 [.ref 0, .int (nI ja), .int b, .int c, jU] [.int (-2)] n (u2 I 0 7 (I 0 7 + nI 1)) J (Pg i0 i1)
      refine j_iret dX9_counted_35 rfl rfl ?_
      have e : oCnt S (nI ja) b c = (S.bad, -2) := by unfold oCnt; rw [if_neg (by first | exact ha | exact fun q => ha q.1 | exact fun q => hb q.2.1 | exact fun q => hc q.2.2 | exact fun q => ha q.1.1 | exact fun q => hb q.1.2.1 | exact fun q => q.1.2.2 (by assumption) | exact fun q => q.1.2.2 rfl | exact fun q => hc q.2.1 | exact fun q => he q.2.2)]
      rw [e] at hQ
      exact hQ _ _ _ _ _ hC.bad MF.sta
  · show Rj _ _ _ _ _ _ 8 [.ref 0, .int a, .int b, .int c, jU] [.int (nI 0)] n I J (Pg i0 i1)
    refine j_ifeqN (tgt := 31) dX9_counted_8 rfl rfl (by decide) (fun h8 => ?_) (fun h8 => by exfalso; omega)
    refine j_aload_n dX9_counted_31 rfl rfl rfl ?_
    refine j_callVw (As := []) dX9_counted_32 rfl cX9_75 (by decide) rfl rfl (by decide) rfl (by decide) rfl rfl (c_bad ?_)
    show Rj _ _ _ _ _ _ 35 [.ref 0, .int a, .int b, .int c, jU] [.int (-2)] n (u2 I 0 7 (I 0 7 + nI 1)) J (Pg i0 i1)
    refine j_iret dX9_counted_35 rfl rfl ?_
    have e : oCnt S a b c = (S.bad, -2) := by unfold oCnt; rw [if_neg (by first | exact ha | exact fun q => ha q.1 | exact fun q => hb q.2.1 | exact fun q => hc q.2.2 | exact fun q => ha q.1.1 | exact fun q => hb q.1.2.1 | exact fun q => q.1.2.2 (by assumption) | exact fun q => q.1.2.2 rfl | exact fun q => hc q.2.1 | exact fun q => he q.2.2)]
    rw [e] at hQ
    exact hQ _ _ _ _ _ hC.bad MF.sta
set_option maxHeartbeats 4000000 in
set_option maxRecDepth 100000 in
theorem f_forget {X : jX} {d n : Nat} {I : HI} {J : HJ} {i0 i1 : Option Nat} {Q : jPost} {S : SS} {yb : Nat} (hC : CI S n i0 i1 I J) (hW : WF yb S.v) (hyb : yb ≤ 2 ^ 12) (hQ : CP Q (oForget S ) I J) : Cj X (d + 1) 0 0 mX9_forget [.ref 0] n I J (Pg i0 i1) Q := by
  refine Cj.intro rfl (Nat.le_of_ble_eq_true rfl) (L := [.ref 0, jU]) rfl ?_
  obtain ⟨⟨w0, w1, w2, w3, w4, w5, w6⟩, wp, wk, wc, wb⟩ := id hW
  refine j_aload_n dX9_forget_0 rfl rfl rfl ?_
  refine j_getP (b := 1) dX9_forget_1 rfl fX9_10 rfl (by decide) rfl rfl ?_
  refine j_getIv (v := nI (S.v 0 5)) dX9_forget_4 rfl fX9_194 rfl (by decide) rfl hC.v.cnt ?_
  refine j_istore_n (L' := [.ref 0, .int (nI (S.v 0 5))]) dX9_forget_7 rfl rfl rfl (by decide) rfl ?_
  refine j_aload_n dX9_forget_8 rfl rfl rfl ?_
  refine j_getP (b := 1) dX9_forget_9 rfl fX9_10 rfl (by decide) rfl rfl ?_
  refine j_iconst (v := nI 0) dX9_forget_12 rfl rfl ?_
  refine j_putI dX9_forget_13 rfl fX9_194 rfl (by decide) rfl rfl ?_
  refine j_iload_n dX9_forget_16 rfl rfl rfl ?_
  refine j_iret dX9_forget_17 rfl rfl ?_
  exact hQ _ _ _ _ _ (hC.one (VC_set5 hC.v) Ot1.u2) Ot1.u2.mf
set_option maxHeartbeats 4000000 in
set_option maxRecDepth 100000 in
theorem f_is {X : jX} {d n : Nat} {I : HI} {J : HJ} {i0 i1 : Option Nat} {Q : jPost} {S : SS} {yb : Nat} (hC : CI S n i0 i1 I J) (hW : WF yb S.v) (hyb : yb ≤ 2 ^ 12) {a : Int32} (hQ : CP Q (oIs S a) I J) : Cj X (d + 5) 0 0 mX9_is [.ref 0, .int a] n I J (Pg i0 i1) Q := by
  refine Cj.intro rfl (Nat.le_of_ble_eq_true rfl) (L := [.ref 0, .int a]) rfl ?_
  obtain ⟨⟨w0, w1, w2, w3, w4, w5, w6⟩, wp, wk, wc, wb⟩ := id hW
  refine j_aload_n dX9_is_0 rfl rfl rfl ?_
  refine j_getP (b := 1) dX9_is_1 rfl fX9_10 rfl (by decide) rfl rfl ?_
  refine j_iload_n dX9_is_4 rfl rfl rfl ?_
  refine j_callVw (As := [.int a]) dX9_is_5 rfl cX9_109 (by decide) rfl rfl (by decide) rfl (by decide) rfl rfl (c_hasPair hC.v (fun ha => ?_) (fun ha => ?_))
  · obtain ⟨ja, rfl, hau⟩ := hasP_nat (by omega) ha
    show Rj _ _ _ _ _ _ 8 [.ref 0, .int (nI ja)] [.int (nI 1)] n I J (Pg i0 i1)
    refine j_ifneN (tgt := 16) dX9_is_8 rfl rfl (by decide) (fun h1 => ?_) (fun h1 => by exfalso; omega)
    refine j_aload_n dX9_is_16 rfl rfl rfl ?_
    refine j_getP (b := 1) dX9_is_17 rfl fX9_10 rfl (by decide) rfl rfl ?_
    refine j_iload_n dX9_is_20 rfl rfl rfl ?_
    refine j_callSw (As := [.ref 1, .int (nI ja)]) dX9_is_21 rfl cX9_197 rfl (by decide) rfl rfl (c_kindsThatFit hC.v hW (by omega) hau ?_)
    show Rj _ _ _ _ _ _ 24 [.ref 0, .int (nI ja)] [.int (nI (fitV S.v ja))] n I J (Pg i0 i1)
    refine j_iret dX9_is_24 rfl rfl ?_
    have e : oIs S (nI ja) = (S, nI (fitV S.v ja)) := by unfold oIs; rw [if_pos (by exact ha), tN_nI (show ja < 2 ^ 30 by omega)]
    rw [e] at hQ
    exact hQ _ _ _ _ _ hC MF.rf
  · show Rj _ _ _ _ _ _ 8 [.ref 0, .int a] [.int (nI 0)] n I J (Pg i0 i1)
    refine j_ifneN (tgt := 16) dX9_is_8 rfl rfl (by decide) (fun h2 => by exfalso; omega) (fun h2 => ?_)
    refine j_aload_n dX9_is_11 rfl rfl rfl ?_
    refine j_callVw (As := []) dX9_is_12 rfl cX9_75 (by decide) rfl rfl (by decide) rfl (by decide) rfl rfl (c_bad ?_)
    show Rj _ _ _ _ _ _ 15 [.ref 0, .int a] [.int (-2)] n (u2 I 0 7 (I 0 7 + nI 1)) J (Pg i0 i1)
    refine j_iret dX9_is_15 rfl rfl ?_
    have e : oIs S a = (S.bad, -2) := by unfold oIs; rw [if_neg (by first | exact ha | exact fun q => ha q.1 | exact fun q => hb q.2 | exact fun q => ha q.1.1 | exact fun q => hb q.1.2.1 | exact fun q => q.1.2.2 (by assumption) | exact fun q => q.1.2.2 rfl | exact fun q => hc q.2.1 | exact fun q => he q.2.2)]
    rw [e] at hQ
    exact hQ _ _ _ _ _ hC.bad MF.sta
theorem c_nextX {X : jX} {d n : Nat} {I : HI} {J : HJ} {i0 i1 : Option Nat} {Q : jPost} {v : VT} {yb : Nat} (hV : VC 1 I v) (hW : WF yb v) (hyb : yb ≤ 2 ^ 20) {p : Nat} (hp : p < v 0 3) (hQ : ∀ I1, (∀ a, a ≠ 31 → I1 a = I a) → Q (some (.int (nxV v p))) n I1 J (Pg i0 i1)) : Cj X (d + 5) 0 0 mX7_countNext [.ref 30, .ref 1, .int (nI p)] n I J (Pg i0 i1) Q := by
  refine c_countNext hV hW hyb hp (fit := fitV v p) rfl (fun h => ?_) (fun h f => ?_)
  · have := hQ I (fun _ _ => rfl)
    unfold nxV at this
    rw [if_pos h] at this
    exact this
  · have := hQ (ur I 31 f) (fun a ha => ur_ne _ _ ha)
    unfold nxV at this
    rw [if_neg h] at this
    exact this
set_option maxHeartbeats 4000000 in
set_option maxRecDepth 100000 in
theorem f_next {X : jX} {d n : Nat} {I : HI} {J : HJ} {i0 i1 : Option Nat} {Q : jPost} {S : SS} {yb : Nat} (hC : CI S n i0 i1 I J) (hW : WF yb S.v) (hyb : yb ≤ 2 ^ 12) {a : Int32} (hQ : CP Q (oNext S a) I J) : Cj X (d + 6) 0 0 mX9_next [.ref 0, .int a] n I J (Pg i0 i1) Q := by
  refine Cj.intro rfl (Nat.le_of_ble_eq_true rfl) (L := [.ref 0, .int a]) rfl ?_
  obtain ⟨⟨w0, w1, w2, w3, w4, w5, w6⟩, wp, wk, wc, wb⟩ := id hW
  refine j_aload_n dX9_next_0 rfl rfl rfl ?_
  refine j_getP (b := 1) dX9_next_1 rfl fX9_10 rfl (by decide) rfl rfl ?_
  refine j_iload_n dX9_next_4 rfl rfl rfl ?_
  refine j_callVw (As := [.int a]) dX9_next_5 rfl cX9_109 (by decide) rfl rfl (by decide) rfl (by decide) rfl rfl (c_hasPair hC.v (fun ha => ?_) (fun ha => ?_))
  · obtain ⟨ja, rfl, hau⟩ := hasP_nat (by omega) ha
    show Rj _ _ _ _ _ _ 8 [.ref 0, .int (nI ja)] [.int (nI 1)] n I J (Pg i0 i1)
    refine j_ifneN (tgt := 16) dX9_next_8 rfl rfl (by decide) (fun h1 => ?_) (fun h1 => by exfalso; omega)
    refine j_aload_n dX9_next_16 rfl rfl rfl ?_
    refine j_getP (b := 30) dX9_next_17 rfl fX9_44 rfl (by decide) rfl rfl ?_
    refine j_aload_n dX9_next_20 rfl rfl rfl ?_
    refine j_getP (b := 1) dX9_next_21 rfl fX9_10 rfl (by decide) rfl rfl ?_
    refine j_iload_n dX9_next_24 rfl rfl rfl ?_
    refine j_callVw (As := [.ref 1, .int (nI ja)]) dX9_next_25 rfl cX9_200 (by decide) rfl rfl (by decide) rfl (by decide) rfl rfl (c_nextX hC.v hW (by omega) hau (fun I1 hk1 => ?_))
    show Rj _ _ _ _ _ _ 28 [.ref 0, .int (nI ja)] [.int (nxV S.v ja)] n I1 J (Pg i0 i1)
    refine j_iret dX9_next_28 rfl rfl ?_
    have e : oNext S (nI ja) = (S, nxV S.v ja) := by unfold oNext; rw [if_pos (by exact ha), tN_nI (show ja < 2 ^ 30 by omega)]
    rw [e] at hQ
    exact hQ _ _ _ _ _ (hC.congr (fun a ha => hk1 a (by omega)) rfl) (MF.of (fun a h1 h2 => hk1 a (by omega)))
  · show Rj _ _ _ _ _ _ 8 [.ref 0, .int a] [.int (nI 0)] n I J (Pg i0 i1)
    refine j_ifneN (tgt := 16) dX9_next_8 rfl rfl (by decide) (fun h2 => by exfalso; omega) (fun h2 => ?_)
    refine j_aload_n dX9_next_11 rfl rfl rfl ?_
    refine j_callVw (As := []) dX9_next_12 rfl cX9_75 (by decide) rfl rfl (by decide) rfl (by decide) rfl rfl (c_bad ?_)
    show Rj _ _ _ _ _ _ 15 [.ref 0, .int a] [.int (-2)] n (u2 I 0 7 (I 0 7 + nI 1)) J (Pg i0 i1)
    refine j_iret dX9_next_15 rfl rfl ?_
    have e : oNext S a = (S.bad, -2) := by unfold oNext; rw [if_neg (by first | exact ha | exact fun q => ha q.1 | exact fun q => hb q.2 | exact fun q => ha q.1.1 | exact fun q => hb q.1.2.1 | exact fun q => q.1.2.2 (by assumption) | exact fun q => q.1.2.2 rfl | exact fun q => hc q.2.1 | exact fun q => he q.2.2)]
    rw [e] at hQ
    exact hQ _ _ _ _ _ hC.bad MF.sta
set_option maxHeartbeats 4000000 in
set_option maxRecDepth 100000 in
theorem f_swapped {X : jX} {d n : Nat} {I : HI} {J : HJ} {i0 i1 : Option Nat} {Q : jPost} {S : SS} {yb : Nat} (hC : CI S n i0 i1 I J) (hW : WF yb S.v) (hyb : yb ≤ 2 ^ 12) {a : Int32} (hQ : CP Q (oSwap S a) I J) : Cj X (d + 5) 0 0 mX9_swapped [.ref 0, .int a] n I J (Pg i0 i1) Q := by
  refine Cj.intro rfl (Nat.le_of_ble_eq_true rfl) (L := [.ref 0, .int a]) rfl ?_
  obtain ⟨⟨w0, w1, w2, w3, w4, w5, w6⟩, wp, wk, wc, wb⟩ := id hW
  by_cases ha : a < -1
  · skip
    refine j_iload_n dX9_swapped_0 rfl rfl rfl ?_
    refine j_iconst (v := (-1)) dX9_swapped_1 rfl rfl ?_
    refine j_icmpge (tgt := 10) dX9_swapped_2 rfl rfl (fun h1 => by exfalso; exact absurd ha (Int32.not_lt.mpr h1)) (fun h1 => ?_)
    refine j_aload_n dX9_swapped_5 rfl rfl rfl ?_
    refine j_callVw (As := []) dX9_swapped_6 rfl cX9_113 (by decide) rfl rfl (by decide) rfl (by decide) rfl rfl (c_badTen ?_)
    show Rj _ _ _ _ _ _ 9 [.ref 0, .int a] [.int (-10)] n (u2 I 0 7 (I 0 7 + nI 1)) J (Pg i0 i1)
    refine j_iret dX9_swapped_9 rfl rfl ?_
    have e : oSwap S a = (S.bad, -10) := by unfold oSwap; rw [if_pos ha]
    rw [e] at hQ
    exact hQ _ _ _ _ _ hC.bad MF.sta
  · by_cases h1m : a = -1
    · subst h1m
      refine j_iload_n dX9_swapped_0 rfl rfl rfl ?_
      refine j_iconst (v := (-1)) dX9_swapped_1 rfl rfl ?_
      refine j_icmpge (tgt := 10) dX9_swapped_2 rfl rfl (fun h1 => ?_) (fun h1 => by exfalso; exact h1 (by decide))
      refine j_aload_n dX9_swapped_10 rfl rfl rfl ?_
      refine j_getP (b := 1) dX9_swapped_11 rfl fX9_10 rfl (by decide) rfl rfl ?_
      refine j_iload_n dX9_swapped_14 rfl rfl rfl ?_
      refine j_callSw (As := [.ref 1, .int (-1)]) dX9_swapped_15 rfl cX9_203 rfl (by decide) rfl rfl (c_swaps_all hC.v hW (by omega) ?_)
      show Rj _ _ _ _ _ _ 18 [.ref 0, .int (-1)] [.int (nI ((swI S.v (S.v 0 3) 0).length))] n I J (Pg i0 i1)
      refine j_iret dX9_swapped_18 rfl rfl ?_
      have e : oSwap S (-1) = (S, nI (swI S.v (S.v 0 3) 0).length) := by unfold oSwap; rw [if_neg ha, if_pos rfl]
      rw [e] at hQ
      exact hQ _ _ _ _ _ hC MF.rf
    · obtain ⟨kk, hkk, rfl⟩ := m1_of ha h1m
      refine j_iload_n dX9_swapped_0 rfl rfl rfl ?_
      refine j_iconst (v := (-1)) dX9_swapped_1 rfl rfl ?_
      refine j_icmpge (tgt := 10) dX9_swapped_2 rfl rfl (fun h1 => ?_) (fun h1 => by exfalso; exact h1 (nI_m1le hkk))
      refine j_aload_n dX9_swapped_10 rfl rfl rfl ?_
      refine j_getP (b := 1) dX9_swapped_11 rfl fX9_10 rfl (by decide) rfl rfl ?_
      refine j_iload_n dX9_swapped_14 rfl rfl rfl ?_
      refine j_callSw (As := [.ref 1, .int (nI kk)]) dX9_swapped_15 rfl cX9_203 rfl (by decide) rfl rfl (c_swaps_k hC.v hW (by omega) hkk ?_)
      show Rj _ _ _ _ _ _ 18 [.ref 0, .int (nI kk)] [.int (pickL (swI S.v (S.v 0 3) 0) kk)] n I J (Pg i0 i1)
      refine j_iret dX9_swapped_18 rfl rfl ?_
      have e : oSwap S (nI kk) = (S, pickL (swI S.v (S.v 0 3) 0) kk) := by unfold oSwap; rw [if_neg ha, if_neg h1m]; rw [show tN (nI kk) = kk from nI_clamp hkk]
      rw [e] at hQ
      exact hQ _ _ _ _ _ hC MF.rf
set_option maxHeartbeats 4000000 in
set_option maxRecDepth 100000 in
theorem f_back {X : jX} {d n : Nat} {I : HI} {J : HJ} {i0 i1 : Option Nat} {Q : jPost} {S : SS} {yb : Nat} (hC : CI S n i0 i1 I J) (hW : WF yb S.v) (hyb : yb ≤ 2 ^ 12) (hQ : CP Q (oBack S ) I J) : Cj X (d + 6) 0 0 mX9_back [.ref 0] n I J (Pg i0 i1) Q := by
  refine Cj.intro rfl (Nat.le_of_ble_eq_true rfl) (L := [.ref 0]) rfl ?_
  obtain ⟨⟨w0, w1, w2, w3, w4, w5, w6⟩, wp, wk, wc, wb⟩ := id hW
  refine j_aload_n dX9_back_0 rfl rfl rfl ?_
  refine j_getP (b := 1) dX9_back_1 rfl fX9_10 rfl (by decide) rfl rfl ?_
  refine j_callSw (As := [.ref 1]) dX9_back_4 rfl cX9_206 rfl (by decide) rfl rfl (c_pairsPutBack hC.v hW (by omega) ?_)
  show Rj _ _ _ _ _ _ 7 [.ref 0] [.int (nI (bitsOf (fun p => decide (pbF S.v p)) (S.v 0 3)))] n I J (Pg i0 i1)
  refine j_iret dX9_back_7 rfl rfl ?_
  exact hQ _ _ _ _ _ hC MF.rf
set_option maxHeartbeats 4000000 in
set_option maxRecDepth 100000 in
theorem f_crusts {X : jX} {d n : Nat} {I : HI} {J : HJ} {i0 i1 : Option Nat} {Q : jPost} {S : SS} {yb : Nat} (hC : CI S n i0 i1 I J) (hW : WF yb S.v) (hyb : yb ≤ 2 ^ 12) {a b : Int32} (hQ : CP Q (oCrusts S a b) I J) : Cj X (d + 2) 0 0 mX9_crusts [.ref 0, .int a, .int b] n I J (Pg i0 i1) Q := by
  refine Cj.intro rfl (Nat.le_of_ble_eq_true rfl) (L := [.ref 0, .int a, .int b, jU]) rfl ?_
  obtain ⟨⟨w0, w1, w2, w3, w4, w5, w6⟩, wp, wk, wc, wb⟩ := id hW
  refine j_aload_n dX9_crusts_0 rfl rfl rfl ?_
  refine j_getP (b := 1) dX9_crusts_1 rfl fX9_10 rfl (by decide) rfl rfl ?_
  refine j_iload_n dX9_crusts_4 rfl rfl rfl ?_
  refine j_callVw (As := [.int a]) dX9_crusts_5 rfl cX9_109 (by decide) rfl rfl (by decide) rfl (by decide) rfl rfl (c_hasPair hC.v (fun ha => ?_) (fun ha => ?_))
  · obtain ⟨ja, rfl, hau⟩ := hasP_nat (by omega) ha
    show Rj _ _ _ _ _ _ 8 [.ref 0, .int (nI ja), .int b, jU] [.int (nI 1)] n I J (Pg i0 i1)
    refine j_ifeqN (tgt := 20) dX9_crusts_8 rfl rfl (by decide) (fun h1 => by exfalso; omega) (fun h1 => ?_)
    refine j_iload_n dX9_crusts_11 rfl rfl rfl ?_
    refine j_iconst (v := nI 0) dX9_crusts_12 rfl rfl ?_
    refine j_iconst (v := nI 1) dX9_crusts_13 rfl rfl ?_
    refine j_callSw (As := [.int b, .int (nI 0), .int (nI 1)]) dX9_crusts_14 rfl cX9_71 rfl (by decide) rfl rfl (c_within (fun hb => ?_) (fun hb => ?_))
    · obtain ⟨jb, rfl, hbl, hbu⟩ := inR_nat (by decide) (by decide) hb
      show Rj _ _ _ _ _ _ 17 [.ref 0, .int (nI ja), .int (nI jb), jU] [.int (nI 1)] n I J (Pg i0 i1)
      refine j_ifneN (tgt := 25) dX9_crusts_17 rfl rfl (by decide) (fun h2 => ?_) (fun h2 => by exfalso; omega)
      obtain ⟨q1, q2, q3, q4, q5⟩ := wp ja hau
      refine j_aload_n dX9_crusts_25 rfl rfl rfl ?_
      refine j_getP (b := 1) dX9_crusts_26 rfl fX9_10 rfl (by decide) rfl rfl ?_
      refine j_getP (b := 3) dX9_crusts_29 rfl fX9_116 rfl (by decide) rfl rfl ?_
      refine j_iload_n dX9_crusts_32 rfl rfl rfl ?_
      refine j_iald (j := ja) (v := nI (S.v 2 ja)) dX9_crusts_33 rfl rfl (by decide) rfl (by omega) (by decide) (hC.v.lv (by omega)) ?_
      refine j_istore_n (L' := [.ref 0, .int (nI ja), .int (nI jb), .int (nI (S.v 2 ja))]) dX9_crusts_34 rfl rfl rfl (by decide) rfl ?_
      refine j_iload_n dX9_crusts_35 rfl rfl rfl ?_
      refine j_ifneN (tgt := 46) dX9_crusts_36 rfl rfl (by omega) (fun h3 => ?_) (fun h3 => ?_)
      · refine j_iload_n dX9_crusts_46 rfl rfl rfl ?_
        refine j_callSw (As := [.int (nI (S.v 2 ja))]) dX9_crusts_47 rfl cX9_214 rfl (by decide) rfl rfl (c_firstBroken q2 ?_)
        show Rj _ _ _ _ _ _ 50 [.ref 0, .int (nI ja), .int (nI jb), .int (nI (S.v 2 ja))] [.int (nI (crF (S.v 2 ja)))] n I J (Pg i0 i1)
        refine j_iret dX9_crusts_50 rfl rfl ?_
        have e : oCrusts S (nI ja) (nI jb) = (S, nI (crF (S.v 2 ja))) := by unfold oCrusts; rw [if_pos (by exact ⟨ha, hb⟩), tN_nI (show jb < 2 ^ 30 by omega), tN_nI (show ja < 2 ^ 30 by omega), if_neg (by assumption)]
        rw [e] at hQ
        exact hQ _ _ _ _ _ hC MF.rf
      · refine j_iload_n dX9_crusts_39 rfl rfl rfl ?_
        refine j_callSw (As := [.int (nI (S.v 2 ja))]) dX9_crusts_40 rfl cX9_209 rfl (by decide) rfl rfl (c_beginnerWins q2 ?_)
        show Rj _ _ _ _ _ _ 43 [.ref 0, .int (nI ja), .int (nI jb), .int (nI (S.v 2 ja))] [.int (nI (crW (S.v 2 ja)))] n I J (Pg i0 i1)
        refine j_goto (tgt := 50) dX9_crusts_43 rfl ?_
        refine j_iret dX9_crusts_50 rfl rfl ?_
        have e : oCrusts S (nI ja) (nI jb) = (S, nI (crW (S.v 2 ja))) := by unfold oCrusts; rw [if_pos (by exact ⟨ha, hb⟩), tN_nI (show jb < 2 ^ 30 by omega), tN_nI (show ja < 2 ^ 30 by omega), if_pos (by assumption)]
        rw [e] at hQ
        exact hQ _ _ _ _ _ hC MF.rf
    · show Rj _ _ _ _ _ _ 17 [.ref 0, .int (nI ja), .int b, jU] [.int (nI 0)] n I J (Pg i0 i1)
      refine j_ifneN (tgt := 25) dX9_crusts_17 rfl rfl (by decide) (fun h4 => by exfalso; omega) (fun h4 => ?_)
      refine j_aload_n dX9_crusts_20 rfl rfl rfl ?_
      refine j_callVw (As := []) dX9_crusts_21 rfl cX9_75 (by decide) rfl rfl (by decide) rfl (by decide) rfl rfl (c_bad ?_)
      show Rj _ _ _ _ _ _ 24 [.ref 0, .int (nI ja), .int b, jU] [.int (-2)] n (u2 I 0 7 (I 0 7 + nI 1)) J (Pg i0 i1)
      refine j_iret dX9_crusts_24 rfl rfl ?_
      have e : oCrusts S (nI ja) b = (S.bad, -2) := by unfold oCrusts; rw [if_neg (by first | exact ha | exact fun q => ha q.1 | exact fun q => hb q.2 | exact fun q => ha q.1.1 | exact fun q => hb q.1.2.1 | exact fun q => q.1.2.2 (by assumption) | exact fun q => q.1.2.2 rfl | exact fun q => hc q.2.1 | exact fun q => he q.2.2)]
      rw [e] at hQ
      exact hQ _ _ _ _ _ hC.bad MF.sta
  · show Rj _ _ _ _ _ _ 8 [.ref 0, .int a, .int b, jU] [.int (nI 0)] n I J (Pg i0 i1)
    refine j_ifeqN (tgt := 20) dX9_crusts_8 rfl rfl (by decide) (fun h5 => ?_) (fun h5 => by exfalso; omega)
    refine j_aload_n dX9_crusts_20 rfl rfl rfl ?_
    refine j_callVw (As := []) dX9_crusts_21 rfl cX9_75 (by decide) rfl rfl (by decide) rfl (by decide) rfl rfl (c_bad ?_)
    show Rj _ _ _ _ _ _ 24 [.ref 0, .int a, .int b, jU] [.int (-2)] n (u2 I 0 7 (I 0 7 + nI 1)) J (Pg i0 i1)
    refine j_iret dX9_crusts_24 rfl rfl ?_
    have e : oCrusts S a b = (S.bad, -2) := by unfold oCrusts; rw [if_neg (by first | exact ha | exact fun q => ha q.1 | exact fun q => hb q.2 | exact fun q => ha q.1.1 | exact fun q => hb q.1.2.1 | exact fun q => q.1.2.2 (by assumption) | exact fun q => q.1.2.2 rfl | exact fun q => hc q.2.1 | exact fun q => he q.2.2)]
    rw [e] at hQ
    exact hQ _ _ _ _ _ hC.bad MF.sta
