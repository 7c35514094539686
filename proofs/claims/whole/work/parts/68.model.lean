def MPL (Q : jPost) (T : SS × Int64) (n : Nat) (I : HI) (J : HJ) (P : HP) : Prop := ∀ I' J', MI T.1 I' J' → CF I J I' J' → Q (some (.long T.2)) n I' J' P
theorem VM_cnt {I I' : HI} {v : VT} {p m x : Nat} (h : VM 34 0 I v) (h8 : v 0 5 < 8) (h4 : v 0 4 ≤ 8) (h3 : v 0 3 ≤ 6) (e0 : I' 34 5 = nI (v 0 5 + 1)) (e7 : I' 34 (39 + 3 * v 0 5) = nI p) (e13 : I' 34 (40 + 3 * v 0 5) = nI m) (e19 : I' 34 (41 + 3 * v 0 5) = nI x)
    (e : ∀ i, i ≠ 5 → i ≠ 39 + 3 * v 0 5 → i ≠ 40 + 3 * v 0 5 → i ≠ 41 + 3 * v 0 5 → I' 34 i = I 34 i) : VM 34 0 I' (vCnt v p m x) := by
  obtain ⟨⟨s0, s1, s2, s3, s4, s5, s6⟩, c1, c2, c3, c7⟩ := h
  have g0 : ∀ i, i ≠ 5 → vCnt v p m x 0 i = v 0 i := fun i hi => by unfold vCnt; rw [if_pos rfl, if_neg hi]
  have g : ∀ f i, f ≠ 0 → ¬ (6 ≤ f ∧ f ≤ 8) → vCnt v p m x f i = v f i := fun f i h1 h2 => by unfold vCnt; rw [if_neg h1, if_neg (by omega), if_neg (by omega), if_neg (by omega)]
  refine ⟨⟨?_, ?_, ?_, ?_, ?_, e0, ?_⟩, fun q hq => ?_, fun q hq => ?_, fun q hq => ?_, fun j hj => ?_⟩
  · rw [e _ (by omega) (by omega) (by omega) (by omega)]; exact s0
  · rw [e _ (by omega) (by omega) (by omega) (by omega)]; exact s1
  · rw [e _ (by omega) (by omega) (by omega) (by omega)]; exact s2
  · rw [e _ (by omega) (by omega) (by omega) (by omega)]; exact s3
  · rw [e _ (by omega) (by omega) (by omega) (by omega)]; exact s4
  · rw [e _ (by omega) (by omega) (by omega) (by omega)]; exact s6
  · have hq' : q < v 0 3 := hq
    rw [g 1 q (by omega) (by omega), g 2 q (by omega) (by omega), g 3 q (by omega) (by omega), g 4 q (by omega) (by omega), e (0 + 7 + q) (by omega) (by omega) (by omega) (by omega), e (0 + 13 + q) (by omega) (by omega) (by omega) (by omega), e (0 + 19 + q) (by omega) (by omega) (by omega) (by omega), e (0 + 25 + q) (by omega) (by omega) (by omega) (by omega)]
    exact c1 q hq'
  · have hq' : q < v 0 4 := hq
    rw [g 5 q (by omega) (by omega), e _ (by omega) (by omega) (by omega) (by omega)]
    exact c2 q hq'
  · have hq' : q < v 0 5 + 1 := hq
    by_cases hc : q = v 0 5
    · subst hc
      have k6 : vCnt v p m x 6 (v 0 5) = p := by unfold vCnt; rw [if_neg (by omega), if_pos ⟨rfl, rfl⟩]
      have k7 : vCnt v p m x 7 (v 0 5) = m := by unfold vCnt; rw [if_neg (by omega), if_neg (by omega), if_pos ⟨rfl, rfl⟩]
      have k8 : vCnt v p m x 8 (v 0 5) = x := by unfold vCnt; rw [if_neg (by omega), if_neg (by omega), if_neg (by omega), if_pos ⟨rfl, rfl⟩]
      rw [k6, k7, k8, show 0 + 39 + 3 * v 0 5 = 39 + 3 * v 0 5 by omega, show 0 + 40 + 3 * v 0 5 = 40 + 3 * v 0 5 by omega, show 0 + 41 + 3 * v 0 5 = 41 + 3 * v 0 5 by omega]
      exact ⟨e7, e13, e19⟩
    · have k : ∀ f, f ≠ 0 → vCnt v p m x f q = v f q := fun f h1 => by unfold vCnt; rw [if_neg h1, if_neg (by omega), if_neg (by omega), if_neg (by omega)]
      rw [k 6 (by omega), k 7 (by omega), k 8 (by omega), e (0 + 39 + 3 * q) (by omega) (by omega) (by omega) (by omega), e (0 + 40 + 3 * q) (by omega) (by omega) (by omega) (by omega), e (0 + 41 + 3 * q) (by omega) (by omega) (by omega) (by omega)]
      exact c3 q (by omega)
  · have hj' : j < v 0 6 := hj
    have k : ∀ i, vCnt v p m x (10 + j) i = v (10 + j) i := fun i => g _ i (by omega) (by omega)
    rw [k, show vCnt v p m x 0 6 = v 0 6 from rfl, e _ (by omega) (by omega) (by omega) (by omega)]
    refine ⟨(c7 j hj').1, fun q hq => ?_⟩
    rw [k, k, e (0 + 64 + 13 * (v 0 6 - 1 - j) + q) (by omega) (by omega) (by omega) (by omega), e (0 + 70 + 13 * (v 0 6 - 1 - j) + q) (by omega) (by omega) (by omega) (by omega)]
    exact (c7 j hj').2 q hq
theorem VM_fgt {I : HI} {v : VT} (h : VM 34 0 I v) : VM 34 0 (u2 I 34 5 (nI 0)) (vSet v 5 0) := by
  obtain ⟨⟨s0, s1, s2, s3, s4, s5, s6⟩, c1, c2, c3, c7⟩ := h
  have e : ∀ i, i ≠ 5 → u2 I 34 5 (nI 0) 34 i = I 34 i := fun i hi => u2_ne2 _ _ _ hi
  have ev : ∀ f i, 1 ≤ f → vSet v 5 0 f i = v f i := fun f i hf => by unfold vSet; rw [if_neg (by omega)]
  refine ⟨⟨?_, ?_, ?_, ?_, ?_, ?_, ?_⟩, fun p hp => ?_, fun p hp => ?_, fun p hp => absurd hp (Nat.not_lt_zero _), fun j hj => ?_⟩
  · rw [e _ (by omega)]; exact s0
  · rw [e _ (by omega)]; exact s1
  · rw [e _ (by omega)]; exact s2
  · rw [e _ (by omega)]; exact s3
  · rw [e _ (by omega)]; exact s4
  · exact u2_self _ _ _ _
  · rw [e _ (by omega)]; exact s6
  · rw [e (0 + 7 + p) (by omega), e (0 + 13 + p) (by omega), e (0 + 19 + p) (by omega), e (0 + 25 + p) (by omega), ev 1 p (by omega), ev 2 p (by omega), ev 3 p (by omega), ev 4 p (by omega)]
    exact c1 p hp
  · rw [e _ (by omega), ev 5 p (by omega)]
    exact c2 p hp
  · have k : ∀ i, vSet v 5 0 (10 + j) i = v (10 + j) i := fun i => ev _ i (by omega)
    rw [k, show vSet v 5 0 0 6 = v 0 6 from rfl, e _ (by omega)]
    refine ⟨(c7 j hj).1, fun q hq => ?_⟩
    rw [k, k, e (0 + 64 + 13 * (v 0 6 - 1 - j) + q) (by omega), e (0 + 70 + 13 * (v 0 6 - 1 - j) + q) (by omega)]
    exact (c7 j hj).2 q hq
set_option maxHeartbeats 4000000 in
set_option maxRecDepth 100000 in
theorem g_type {X : jX} {d n : Nat} {I : HI} {J : HJ} {i0 i1 : Option Nat} {Q : jPost} {S : SS} {yb : Nat} (hm : MI S I J) (hW : WF yb S.v) (hyb : yb ≤ 2 ^ 12) {a : Int32} (hQ : MP Q (oType S a) n I J (Pg i0 i1)) : Cj X (d + 1) 0 0 mX10_type [.ref 33, .int a] n I J (Pg i0 i1) Q := by
  refine Cj.intro rfl (Nat.le_of_ble_eq_true rfl) (L := [.ref 33, .int a]) rfl ?_
  obtain ⟨⟨w0, w1, w2, w3, w4, w5, w6⟩, wp, wk, wc, wb⟩ := id hW
  have htl : S.tl ≤ 150 := hm.2.1.2.2.1
  refine j_iload_n dX10_type_0 rfl rfl rfl ?_
  refine j_iconst (v := nI 0) dX10_type_1 rfl rfl ?_
  refine j_bipush (v := nI 127) dX10_type_2 rfl rfl ?_
  refine j_callSw (As := [.int a, .int (nI 0), .int (nI 127)]) dX10_type_4 rfl cX10_50 rfl (by decide) rfl rfl (c_min (fun ha => ?_) (fun ha => ?_))
  · obtain ⟨ja, rfl, hal, hau⟩ := inR_nat (by decide) (by decide) ha
    show Rj _ _ _ _ _ _ 7 [.ref 33, .int (nI ja)] [.int (nI 1)] n I J (Pg i0 i1)
    refine j_ifneN (tgt := 17) dX10_type_7 rfl rfl (by decide) (fun h1 => ?_) (fun h1 => by exfalso; omega)
    refine j_aload_n dX10_type_17 rfl rfl rfl ?_
    refine j_getIv (v := nI S.tl) dX10_type_18 rfl fX10_66 rfl (by decide) rfl hm.2.1.1 ?_
    refine j_sipush (v := nI 150) dX10_type_21 rfl rfl ?_
    refine j_icmpneN (tgt := 34) dX10_type_24 rfl rfl (by omega) (by decide) (fun h2 => ?_) (fun h2 => ?_)
    · refine j_aload_n dX10_type_34 rfl rfl rfl ?_
      refine j_getP (b := 38) dX10_type_35 rfl fX10_23 rfl (by decide) rfl rfl ?_
      refine j_aload_n dX10_type_38 rfl rfl rfl ?_
      refine j_getIv (v := nI S.tl) dX10_type_39 rfl fX10_66 rfl (by decide) rfl hm.2.1.1 ?_
      refine j_iload_n dX10_type_42 rfl rfl rfl ?_
      refine j_iast (j := S.tl) dX10_type_43 rfl rfl (by decide) rfl (by omega) (by decide) ?_
      refine j_aload_n dX10_type_44 rfl rfl rfl ?_
      refine j_dup dX10_type_45 rfl rfl ?_
      refine j_getIv (v := nI S.tl) dX10_type_46 rfl fX10_66 rfl (by decide) rfl hm.2.1.1 ?_
      refine j_iconst (v := nI 1) dX10_type_49 rfl rfl ?_
      refine j_iaddN (c := S.tl + 1) dX10_type_50 rfl rfl ?_
      refine j_putI dX10_type_51 rfl fX10_66 rfl (by decide) rfl rfl ?_
      refine j_aload_n dX10_type_54 rfl rfl rfl ?_
      refine j_getIv (v := nI (S.tl + 1)) dX10_type_55 rfl fX10_66 rfl (by decide) rfl rfl ?_
      refine j_iret dX10_type_58 rfl rfl ?_
      have e : oType S (nI ja) = (S.txt (S.tl + 1) (fun i => if i = S.tl then ja else S.tx i), nI (S.tl + 1)) := by unfold oType; rw [if_pos (by exact ha), if_neg (by assumption), tN_nI (show ja < 2 ^ 30 by omega)]
      rw [e] at hQ
      obtain ⟨m1, m2, m3, m4⟩ := hm.2.1
      refine hQ _ _ (hm.txt (fun a h8 h9 => by rw [u2_ne _ _ _ h8, u2_ne _ _ _ h9]) ⟨by rw [u2_self], fun i hi => ?_, by omega, fun i hi => ?_⟩) (CF.trans (CF.u2 (by omega) (by omega)) (CF.u2 (by omega) (by omega)))
      · rw [u2_ne _ _ _ (by omega)]
        by_cases hq : i = S.tl
        · rw [if_pos hq, hq, u2_self]
        · rw [if_neg hq, u2_ne2 _ _ _ hq]; exact m2 i (by omega)
      · by_cases hq : i = S.tl
        · simp only [if_pos hq]; omega
        · simp only [if_neg hq]; exact m4 i (by omega)
    · refine j_aload_n dX10_type_27 rfl rfl rfl ?_
      refine j_bipush (v := (-4)) dX10_type_28 rfl rfl ?_
      refine j_callVw (As := [.int (-4)]) dX10_type_30 rfl cX10_54 (by decide) rfl rfl (by decide) rfl (by decide) rfl rfl (c_mfull ?_)
      show Rj _ _ _ _ _ _ 33 [.ref 33, .int (nI ja)] [.int (-4)] n (u2 I 39 2 (I 39 2 + nI 1)) J (Pg i0 i1)
      refine j_iret dX10_type_33 rfl rfl ?_
      have e : oType S (nI ja) = (S.full, -4) := by unfold oType; rw [if_pos (by exact ha), if_pos (by assumption)]
      rw [e] at hQ
      exact hQ _ _ hm.full (CF.u2 (by omega) (by omega))
  · show Rj _ _ _ _ _ _ 7 [.ref 33, .int a] [.int (nI 0)] n I J (Pg i0 i1)
    refine j_ifneN (tgt := 17) dX10_type_7 rfl rfl (by decide) (fun h3 => by exfalso; omega) (fun h3 => ?_)
    refine j_aload_n dX10_type_10 rfl rfl rfl ?_
    refine j_bipush (v := (-2)) dX10_type_11 rfl rfl ?_
    refine j_callVw (As := [.int (-2)]) dX10_type_13 rfl cX10_54 (by decide) rfl rfl (by decide) rfl (by decide) rfl rfl (c_mbad ?_)
    show Rj _ _ _ _ _ _ 16 [.ref 33, .int a] [.int (-2)] n (u2 I 39 0 (I 39 0 + nI 1)) J (Pg i0 i1)
    refine j_iret dX10_type_16 rfl rfl ?_
    have e : oType S a = (S.bad, -2) := by unfold oType; rw [if_neg (by first | exact ha | exact fun q => ha q.1 | exact fun q => hb q.2 | exact fun q => hb q.2.1 | exact fun q => hc q.2.2 | exact fun q => ha q.1.1 | exact fun q => hb q.1.2.1 | exact fun q => q.1.2.2 (congrArg nI (by assumption)) | exact fun q => hc q.2.1 | exact fun q => he q.2.2)]
    rw [e] at hQ
    exact hQ _ _ hm.bad (CF.u2 (by omega) (by omega))
set_option maxHeartbeats 4000000 in
set_option maxRecDepth 100000 in
theorem g_of {X : jX} {d n : Nat} {I : HI} {J : HJ} {i0 i1 : Option Nat} {Q : jPost} {S : SS} {yb : Nat} (hm : MI S I J) (hW : WF yb S.v) (hyb : yb ≤ 2 ^ 12) {a b : Int32} (hQ : MP Q (oOf S a b) n I J (Pg i0 i1)) : Cj X (d + 3) 0 0 mX10_of [.ref 33, .int a, .int b] n I J (Pg i0 i1) Q := by
  refine Cj.intro rfl (Nat.le_of_ble_eq_true rfl) (L := [.ref 33, .int a, .int b]) rfl ?_
  obtain ⟨⟨w0, w1, w2, w3, w4, w5, w6⟩, wp, wk, wc, wb⟩ := id hW
  refine j_aload_n dX10_of_0 rfl rfl rfl ?_
  refine j_iload_n dX10_of_1 rfl rfl rfl ?_
  refine j_callVw (As := [.int a]) dX10_of_2 rfl cX10_141 (by decide) rfl rfl (by decide) rfl (by decide) rfl rfl (c_misP hm.v w3 (fun ha => ?_) (fun ha => ?_))
  · obtain ⟨ja, rfl, hau⟩ := hasP_nat (by omega) ha
    show Rj _ _ _ _ _ _ 5 [.ref 33, .int (nI ja), .int b] [.int (nI 1)] n I J (Pg i0 i1)
    refine j_ifeqN (tgt := 17) dX10_of_5 rfl rfl (by decide) (fun h1 => by exfalso; omega) (fun h1 => ?_)
    refine j_iload_n dX10_of_8 rfl rfl rfl ?_
    refine j_iconst (v := nI 0) dX10_of_9 rfl rfl ?_
    refine j_iconst (v := nI 4) dX10_of_10 rfl rfl ?_
    refine j_callSw (As := [.int b, .int (nI 0), .int (nI 4)]) dX10_of_11 rfl cX10_50 rfl (by decide) rfl rfl (c_min (fun hb => ?_) (fun hb => ?_))
    · obtain ⟨jb, rfl, hbl, hbu⟩ := inR_nat (by decide) (by decide) hb
      show Rj _ _ _ _ _ _ 14 [.ref 33, .int (nI ja), .int (nI jb)] [.int (nI 1)] n I J (Pg i0 i1)
      refine j_ifneN (tgt := 24) dX10_of_14 rfl rfl (by decide) (fun h2 => ?_) (fun h2 => by exfalso; omega)
      obtain ⟨q1, q2, q3, q4, q5⟩ := wp ja hau
      refine j_iload_n dX10_of_24 rfl rfl rfl ?_
      refine j_iconst (v := nI 4) dX10_of_25 rfl rfl ?_
      refine j_icmpgeN (tgt := 46) dX10_of_26 rfl rfl (by omega) (by decide) (fun h3 => ?_) (fun h3 => ?_)
      · refine j_aload_n dX10_of_46 rfl rfl rfl ?_
        refine j_aload_n dX10_of_47 rfl rfl rfl ?_
        refine j_getP (b := 34) dX10_of_48 rfl fX10_7 rfl (by decide) rfl rfl ?_
        refine j_bipush (v := nI 7) dX10_of_51 rfl rfl ?_
        refine j_iload_n dX10_of_53 rfl rfl rfl ?_
        refine j_iaddN (c := 7 + ja) dX10_of_54 rfl rfl ?_
        refine j_iald (j := 7 + ja) (v := nI (S.v 1 ja)) dX10_of_55 rfl rfl (by decide) rfl (by omega) (by decide) (hm.v.kd (by omega)) ?_
        refine j_aload_n dX10_of_56 rfl rfl rfl ?_
        refine j_getP (b := 34) dX10_of_57 rfl fX10_7 rfl (by decide) rfl rfl ?_
        refine j_iconst (v := nI 2) dX10_of_60 rfl rfl ?_
        refine j_iald (j := 2) (v := nI (S.v 0 0)) dX10_of_61 rfl rfl (by decide) rfl (by decide) (by decide) hm.v.my ?_
        refine j_aload_n dX10_of_62 rfl rfl rfl ?_
        refine j_getP (b := 34) dX10_of_63 rfl fX10_7 rfl (by decide) rfl rfl ?_
        refine j_iconst (v := nI 4) dX10_of_66 rfl rfl ?_
        refine j_iald (j := 4) (v := nI (S.v 0 2)) dX10_of_67 rfl rfl (by decide) rfl (by decide) (by decide) hm.v.mr ?_
        refine j_callVw (As := [.int (nI (S.v 1 ja)), .int (nI (S.v 0 0)), .int (nI (S.v 0 2))]) dX10_of_68 rfl cX10_126 (by decide) rfl rfl (by decide) rfl (by decide) rfl rfl (c_mgoes hm.v q1 (by omega) w1 w2 ?_)
        show Rj _ _ _ _ _ _ 71 [.ref 33, .int (nI ja), .int (nI jb)] [.int (nI (gos (S.v 1 ja) (S.v 0 0) (S.v 0 1) (S.v 0 2)))] n I J (Pg i0 i1)
        refine j_iret dX10_of_71 rfl rfl ?_
        have e : oOf S (nI ja) (nI jb) = (S, nI (gos (S.v 1 ja) (S.v 0 0) (S.v 0 1) (S.v 0 2))) := by unfold oOf; rw [if_pos (by exact ⟨ha, hb⟩), tN_nI (show ja < 2 ^ 30 by omega), tN_nI (show jb < 2 ^ 30 by omega), show jb = 4 by omega]; rfl
        rw [e] at hQ
        exact hQ _ _ hm CF.rf
      · refine j_aload_n dX10_of_29 rfl rfl rfl ?_
        refine j_getP (b := 34) dX10_of_30 rfl fX10_7 rfl (by decide) rfl rfl ?_
        refine j_bipush (v := nI 7) dX10_of_33 rfl rfl ?_
        refine j_bipush (v := nI 6) dX10_of_35 rfl rfl ?_
        refine j_iload_n dX10_of_37 rfl rfl rfl ?_
        refine j_imulN (c := 6 * jb) dX10_of_38 rfl rfl ?_
        refine j_iaddN (c := 7 + (6 * jb)) dX10_of_39 rfl rfl ?_
        refine j_iload_n dX10_of_40 rfl rfl rfl ?_
        refine j_iaddN (c := (7 + (6 * jb)) + ja) dX10_of_41 rfl rfl ?_
        refine j_iald (j := (7 + (6 * jb)) + ja) (v := I 34 ((7 + (6 * jb)) + ja)) dX10_of_42 rfl rfl (by decide) rfl (by omega) (by decide) rfl ?_
        refine j_goto (tgt := 71) dX10_of_43 rfl ?_
        refine j_iret dX10_of_71 rfl rfl ?_
        have e : oOf S (nI ja) (nI jb) = (S, I 34 ((7 + (6 * jb)) + ja)) := by
          unfold oOf
          rw [if_pos (by exact ⟨ha, hb⟩), tN_nI (show ja < 2 ^ 30 by omega), tN_nI (show jb < 2 ^ 30 by omega)]
          congr 1
          rcases (show jb = 0 ∨ jb = 1 ∨ jb = 2 ∨ jb = 3 by omega) with rfl | rfl | rfl | rfl
          · exact (hm.v.kd hau).symm
          · exact (hm.v.lv hau).symm
          · exact (hm.v.sn hau).symm
          · exact (hm.v.en hau).symm
        rw [e] at hQ
        exact hQ _ _ hm CF.rf
    · show Rj _ _ _ _ _ _ 14 [.ref 33, .int (nI ja), .int b] [.int (nI 0)] n I J (Pg i0 i1)
      refine j_ifneN (tgt := 24) dX10_of_14 rfl rfl (by decide) (fun h4 => by exfalso; omega) (fun h4 => ?_)
      refine j_aload_n dX10_of_17 rfl rfl rfl ?_
      refine j_bipush (v := (-10)) dX10_of_18 rfl rfl ?_
      refine j_callVw (As := [.int (-10)]) dX10_of_20 rfl cX10_54 (by decide) rfl rfl (by decide) rfl (by decide) rfl rfl (c_mten ?_)
      show Rj _ _ _ _ _ _ 23 [.ref 33, .int (nI ja), .int b] [.int (-10)] n (u2 I 39 0 (I 39 0 + nI 1)) J (Pg i0 i1)
      refine j_iret dX10_of_23 rfl rfl ?_
      have e : oOf S (nI ja) b = (S.bad, -10) := by unfold oOf; rw [if_neg (by first | exact ha | exact fun q => ha q.1 | exact fun q => hb q.2 | exact fun q => hb q.2.1 | exact fun q => hc q.2.2 | exact fun q => ha q.1.1 | exact fun q => hb q.1.2.1 | exact fun q => q.1.2.2 (congrArg nI (by assumption)) | exact fun q => hc q.2.1 | exact fun q => he q.2.2)]
      rw [e] at hQ
      exact hQ _ _ hm.bad (CF.u2 (by omega) (by omega))
  · show Rj _ _ _ _ _ _ 5 [.ref 33, .int a, .int b] [.int (nI 0)] n I J (Pg i0 i1)
    refine j_ifeqN (tgt := 17) dX10_of_5 rfl rfl (by decide) (fun h5 => ?_) (fun h5 => by exfalso; omega)
    refine j_aload_n dX10_of_17 rfl rfl rfl ?_
    refine j_bipush (v := (-10)) dX10_of_18 rfl rfl ?_
    refine j_callVw (As := [.int (-10)]) dX10_of_20 rfl cX10_54 (by decide) rfl rfl (by decide) rfl (by decide) rfl rfl (c_mten ?_)
    show Rj _ _ _ _ _ _ 23 [.ref 33, .int a, .int b] [.int (-10)] n (u2 I 39 0 (I 39 0 + nI 1)) J (Pg i0 i1)
    refine j_iret dX10_of_23 rfl rfl ?_
    have e : oOf S a b = (S.bad, -10) := by unfold oOf; rw [if_neg (by first | exact ha | exact fun q => ha q.1 | exact fun q => hb q.2 | exact fun q => hb q.2.1 | exact fun q => hc q.2.2 | exact fun q => ha q.1.1 | exact fun q => hb q.1.2.1 | exact fun q => q.1.2.2 (congrArg nI (by assumption)) | exact fun q => hc q.2.1 | exact fun q => he q.2.2)]
    rw [e] at hQ
    exact hQ _ _ hm.bad (CF.u2 (by omega) (by omega))
set_option maxHeartbeats 4000000 in
set_option maxRecDepth 100000 in
theorem c_mcountOf {X : jX} {d n : Nat} {I : HI} {J : HJ} {i0 i1 : Option Nat} {Q : jPost} {S : SS} {yb : Nat} (hm : MI S I J) (hW : WF yb S.v) (hyb : yb ≤ 2 ^ 12) {k : Nat} (hk : k ≤ 6) (hQ : Q (some (.int (nI (cntV S k)))) n I J (Pg i0 i1)) : Cj X d 0 0 mX10_countOf [.ref 33, .int (nI k)] n I J (Pg i0 i1) Q := by
  refine Cj.intro rfl (Nat.le_of_ble_eq_true rfl) (L := [.ref 33, .int (nI k), jU, jU]) rfl ?_
  obtain ⟨⟨w0, w1, w2, w3, w4, w5, w6⟩, wp, wk, wc, wb⟩ := id hW
  have loop : ∀ (r p a : Nat), p + r = S.v 0 3 → a = sumN (S.v 2) p → Rj X d 0 0 mX10_countOf Q 4 [.ref 33, .int (nI k), .int (nI a), .int (nI p)] [] n I J (Pg i0 i1) := by
    intro r
    induction r with
    | zero =>
      intro p a hpr ha
      refine j_iload_n dX10_countOf_4 rfl rfl rfl ?_
      refine j_aload_n dX10_countOf_5 rfl rfl rfl ?_
      refine j_getP (b := 34) dX10_countOf_6 rfl fX10_7 rfl (by decide) rfl rfl ?_
      refine j_iconst (v := nI 0) dX10_countOf_9 rfl rfl ?_
      refine j_iald (j := 0) (v := nI (S.v 0 3)) dX10_countOf_10 rfl rfl (by decide) rfl (by decide) (by decide) hm.v.mp ?_
      refine j_icmpgeN (tgt := 32) dX10_countOf_11 rfl rfl (by omega) (by omega) (fun h1 => ?_) (fun h1 => by exfalso; omega)
      refine j_iload_n dX10_countOf_32 rfl rfl rfl ?_
      rcases (show k = 0 ∨ k = 1 ∨ k = 2 ∨ k = 3 ∨ k = 4 ∨ k = 5 ∨ k = 6 by omega) with rfl | rfl | rfl | rfl | rfl | rfl | rfl
      · refine j_tabN (a := 0) (k := 0) (off := 39) (tgt := 72) dX10_countOf_33 (by decide) rfl (by decide) (by decide) rfl rfl ?_
        refine j_aload_n dX10_countOf_72 rfl rfl rfl ?_
        refine j_getP (b := 34) dX10_countOf_73 rfl fX10_7 rfl (by decide) rfl rfl ?_
        refine j_iconst (v := nI 0) dX10_countOf_76 rfl rfl ?_
        refine j_iald (j := 0) (v := nI (S.v 0 3)) dX10_countOf_77 rfl rfl (by decide) rfl (by decide) (by decide) hm.v.mp ?_
        refine j_iret dX10_countOf_78 rfl rfl ?_
        exact hQ
      · refine j_tabN (a := 1) (k := 0) (off := 46) (tgt := 79) dX10_countOf_33 (by decide) rfl (by decide) (by decide) rfl rfl ?_
        refine j_aload_n dX10_countOf_79 rfl rfl rfl ?_
        refine j_getP (b := 34) dX10_countOf_80 rfl fX10_7 rfl (by decide) rfl rfl ?_
        refine j_iconst (v := nI 1) dX10_countOf_83 rfl rfl ?_
        refine j_iald (j := 1) (v := nI (S.v 0 4)) dX10_countOf_84 rfl rfl (by decide) rfl (by decide) (by decide) hm.v.mk ?_
        refine j_iret dX10_countOf_85 rfl rfl ?_
        exact hQ
      · refine j_tabN (a := 2) (k := 0) (off := 53) (tgt := 86) dX10_countOf_33 (by decide) rfl (by decide) (by decide) rfl rfl ?_
        refine j_aload_n dX10_countOf_86 rfl rfl rfl ?_
        refine j_getP (b := 34) dX10_countOf_87 rfl fX10_7 rfl (by decide) rfl rfl ?_
        refine j_iconst (v := nI 2) dX10_countOf_90 rfl rfl ?_
        refine j_iald (j := 2) (v := nI (S.v 0 0)) dX10_countOf_91 rfl rfl (by decide) rfl (by decide) (by decide) hm.v.my ?_
        refine j_iret dX10_countOf_92 rfl rfl ?_
        exact hQ
      · refine j_tabN (a := 3) (k := 0) (off := 60) (tgt := 93) dX10_countOf_33 (by decide) rfl (by decide) (by decide) rfl rfl ?_
        refine j_iload_n dX10_countOf_93 rfl rfl rfl ?_
        refine j_iret dX10_countOf_94 rfl rfl ?_
        have hp : p = S.v 0 3 := by omega
        subst hp
        subst ha
        exact hQ
      · refine j_tabN (a := 4) (k := 0) (off := 62) (tgt := 95) dX10_countOf_33 (by decide) rfl (by decide) (by decide) rfl rfl ?_
        refine j_aload_n dX10_countOf_95 rfl rfl rfl ?_
        refine j_getP (b := 34) dX10_countOf_96 rfl fX10_7 rfl (by decide) rfl rfl ?_
        refine j_iconst (v := nI 5) dX10_countOf_99 rfl rfl ?_
        refine j_iald (j := 5) (v := nI (S.v 0 5)) dX10_countOf_100 rfl rfl (by decide) rfl (by decide) (by decide) hm.v.mc ?_
        refine j_iret dX10_countOf_101 rfl rfl ?_
        exact hQ
      · refine j_tabN (a := 5) (k := 0) (off := 69) (tgt := 102) dX10_countOf_33 (by decide) rfl (by decide) (by decide) rfl rfl ?_
        refine j_aload_n dX10_countOf_102 rfl rfl rfl ?_
        refine j_getP (b := 34) dX10_countOf_103 rfl fX10_7 rfl (by decide) rfl rfl ?_
        refine j_bipush (v := nI 6) dX10_countOf_106 rfl rfl ?_
        refine j_iald (j := 6) (v := nI (S.v 0 6)) dX10_countOf_108 rfl rfl (by decide) rfl (by decide) (by decide) hm.v.mb ?_
        refine j_iret dX10_countOf_109 rfl rfl ?_
        exact hQ
      · refine j_tabD (a := 6) (tgt := 110) dX10_countOf_33 (by decide) (by decide) rfl ?_
        refine j_aload_n dX10_countOf_110 rfl rfl rfl ?_
        refine j_getIv (v := nI S.tl) dX10_countOf_111 rfl fX10_66 rfl (by decide) rfl hm.2.1.1 ?_
        refine j_iret dX10_countOf_114 rfl rfl ?_
        exact hQ
    | succ r ih =>
      intro p a hpr ha
      refine j_iload_n dX10_countOf_4 rfl rfl rfl ?_
      refine j_aload_n dX10_countOf_5 rfl rfl rfl ?_
      refine j_getP (b := 34) dX10_countOf_6 rfl fX10_7 rfl (by decide) rfl rfl ?_
      refine j_iconst (v := nI 0) dX10_countOf_9 rfl rfl ?_
      refine j_iald (j := 0) (v := nI (S.v 0 3)) dX10_countOf_10 rfl rfl (by decide) rfl (by decide) (by decide) hm.v.mp ?_
      refine j_icmpgeN (tgt := 32) dX10_countOf_11 rfl rfl (by omega) (by omega) (fun h1 => by exfalso; omega) (fun h1 => ?_)
      have ha6 : a ≤ 60 * p := by subst ha; exact sumN_60 p (fun q hq => (wp q (by omega)).2.1)
      have hl6 := (wp p (by omega)).2.1
      refine j_iload_n dX10_countOf_14 rfl rfl rfl ?_
      refine j_aload_n dX10_countOf_15 rfl rfl rfl ?_
      refine j_getP (b := 34) dX10_countOf_16 rfl fX10_7 rfl (by decide) rfl rfl ?_
      refine j_bipush (v := nI 13) dX10_countOf_19 rfl rfl ?_
      refine j_iload_n dX10_countOf_21 rfl rfl rfl ?_
      refine j_iaddN (c := 13 + p) dX10_countOf_22 rfl rfl ?_
      refine j_iald (j := 13 + p) (v := nI (S.v 2 p)) dX10_countOf_23 rfl rfl (by decide) rfl (by omega) (by decide) (hm.v.lv (by omega)) ?_
      refine j_iaddN (c := a + (S.v 2 p)) dX10_countOf_24 rfl rfl ?_
      refine j_istore_n (L' := [.ref 33, .int (nI k), .int (nI (a + (S.v 2 p))), .int (nI p)]) dX10_countOf_25 rfl rfl rfl (by decide) rfl ?_
      refine j_iincN (L' := [.ref 33, .int (nI k), .int (nI (a + (S.v 2 p))), .int (nI (p + 1))]) dX10_countOf_26 rfl rfl (b := 1) rfl rfl rfl (by decide) rfl ?_
      refine j_goto (tgt := 4) dX10_countOf_29 rfl ?_
      exact ih (p + 1) _ (by omega) (by subst ha; rfl)
  refine j_iconst (v := nI 0) dX10_countOf_0 rfl rfl ?_
  refine j_istore_n (L' := [.ref 33, .int (nI k), .int (nI 0), jU]) dX10_countOf_1 rfl rfl rfl (by decide) rfl ?_
  refine j_iconst (v := nI 0) dX10_countOf_2 rfl rfl ?_
  refine j_istore_n (L' := [.ref 33, .int (nI k), .int (nI 0), .int (nI 0)]) dX10_countOf_3 rfl rfl rfl (by decide) rfl ?_
  exact loop (S.v 0 3) 0 0 (by omega) rfl
set_option maxHeartbeats 4000000 in
set_option maxRecDepth 100000 in
theorem g_count {X : jX} {d n : Nat} {I : HI} {J : HJ} {i0 i1 : Option Nat} {Q : jPost} {S : SS} {yb : Nat} (hm : MI S I J) (hW : WF yb S.v) (hyb : yb ≤ 2 ^ 12) {a : Int32} (hQ : MP Q (oCount S a) n I J (Pg i0 i1)) : Cj X (d + 2) 0 0 mX10_count [.ref 33, .int a] n I J (Pg i0 i1) Q := by
  refine Cj.intro rfl (Nat.le_of_ble_eq_true rfl) (L := [.ref 33, .int a]) rfl ?_
  obtain ⟨⟨w0, w1, w2, w3, w4, w5, w6⟩, wp, wk, wc, wb⟩ := id hW
  refine j_iload_n dX10_count_0 rfl rfl rfl ?_
  refine j_iconst (v := nI 0) dX10_count_1 rfl rfl ?_
  refine j_bipush (v := nI 6) dX10_count_2 rfl rfl ?_
  refine j_callSw (As := [.int a, .int (nI 0), .int (nI 6)]) dX10_count_4 rfl cX10_50 rfl (by decide) rfl rfl (c_min (fun ha => ?_) (fun ha => ?_))
  · obtain ⟨ja, rfl, hal, hau⟩ := inR_nat (by decide) (by decide) ha
    show Rj _ _ _ _ _ _ 7 [.ref 33, .int (nI ja)] [.int (nI 1)] n I J (Pg i0 i1)
    refine j_ifeqN (tgt := 18) dX10_count_7 rfl rfl (by decide) (fun h1 => by exfalso; omega) (fun h1 => ?_)
    refine j_aload_n dX10_count_10 rfl rfl rfl ?_
    refine j_iload_n dX10_count_11 rfl rfl rfl ?_
    refine j_callVw (As := [.int (nI ja)]) dX10_count_12 rfl cX10_190 (by decide) rfl rfl (by decide) rfl (by decide) rfl rfl (c_mcountOf hm hW hyb hau ?_)
    show Rj _ _ _ _ _ _ 15 [.ref 33, .int (nI ja)] [.int (nI (cntV S ja))] n I J (Pg i0 i1)
    refine j_goto (tgt := 24) dX10_count_15 rfl ?_
    refine j_iret dX10_count_24 rfl rfl ?_
    have e : oCount S (nI ja) = (S, nI (cntV S ja)) := by unfold oCount; rw [if_pos (by exact ha), tN_nI (show ja < 2 ^ 30 by omega)]
    rw [e] at hQ
    exact hQ _ _ hm CF.rf
  · show Rj _ _ _ _ _ _ 7 [.ref 33, .int a] [.int (nI 0)] n I J (Pg i0 i1)
    refine j_ifeqN (tgt := 18) dX10_count_7 rfl rfl (by decide) (fun h2 => ?_) (fun h2 => by exfalso; omega)
    refine j_aload_n dX10_count_18 rfl rfl rfl ?_
    refine j_bipush (v := (-2)) dX10_count_19 rfl rfl ?_
    refine j_callVw (As := [.int (-2)]) dX10_count_21 rfl cX10_54 (by decide) rfl rfl (by decide) rfl (by decide) rfl rfl (c_mbad ?_)
    show Rj _ _ _ _ _ _ 24 [.ref 33, .int a] [.int (-2)] n (u2 I 39 0 (I 39 0 + nI 1)) J (Pg i0 i1)
    refine j_iret dX10_count_24 rfl rfl ?_
    have e : oCount S a = (S.bad, -2) := by unfold oCount; rw [if_neg (by first | exact ha | exact fun q => ha q.1 | exact fun q => hb q.2 | exact fun q => hb q.2.1 | exact fun q => hc q.2.2 | exact fun q => ha q.1.1 | exact fun q => hb q.1.2.1 | exact fun q => q.1.2.2 (congrArg nI (by assumption)) | exact fun q => hc q.2.1 | exact fun q => he q.2.2)]
    rw [e] at hQ
    exact hQ _ _ hm.bad (CF.u2 (by omega) (by omega))
set_option maxHeartbeats 4000000 in
set_option maxRecDepth 100000 in
theorem g_forget {X : jX} {d n : Nat} {I : HI} {J : HJ} {i0 i1 : Option Nat} {Q : jPost} {S : SS} {yb : Nat} (hm : MI S I J) (hW : WF yb S.v) (hyb : yb ≤ 2 ^ 12) (hQ : MP Q (oForget S ) n I J (Pg i0 i1)) : Cj X (d + 1) 0 0 mX10_forget [.ref 33] n I J (Pg i0 i1) Q := by
  refine Cj.intro rfl (Nat.le_of_ble_eq_true rfl) (L := [.ref 33, jU]) rfl ?_
  obtain ⟨⟨w0, w1, w2, w3, w4, w5, w6⟩, wp, wk, wc, wb⟩ := id hW
  refine j_aload_n dX10_forget_0 rfl rfl rfl ?_
  refine j_getP (b := 34) dX10_forget_1 rfl fX10_7 rfl (by decide) rfl rfl ?_
  refine j_iconst (v := nI 5) dX10_forget_4 rfl rfl ?_
  refine j_iald (j := 5) (v := nI (S.v 0 5)) dX10_forget_5 rfl rfl (by decide) rfl (by decide) (by decide) hm.v.mc ?_
  refine j_istore_n (L' := [.ref 33, .int (nI (S.v 0 5))]) dX10_forget_6 rfl rfl rfl (by decide) rfl ?_
  refine j_aload_n dX10_forget_7 rfl rfl rfl ?_
  refine j_getP (b := 34) dX10_forget_8 rfl fX10_7 rfl (by decide) rfl rfl ?_
  refine j_iconst (v := nI 5) dX10_forget_11 rfl rfl ?_
  refine j_iconst (v := nI 0) dX10_forget_12 rfl rfl ?_
  refine j_iast (j := 5) dX10_forget_13 rfl rfl (by decide) rfl (by decide) (by decide) ?_
  refine j_iload_n dX10_forget_14 rfl rfl rfl ?_
  refine j_iret dX10_forget_15 rfl rfl ?_
  exact hQ _ _ (hm.one (VM_fgt hm.v) (fun a ha => u2_ne _ _ _ ha)) (CF.u2 (by omega) (by omega))
set_option maxHeartbeats 4000000 in
set_option maxRecDepth 100000 in
theorem g_counted {X : jX} {d n : Nat} {I : HI} {J : HJ} {i0 i1 : Option Nat} {Q : jPost} {S : SS} {yb : Nat} (hm : MI S I J) (hW : WF yb S.v) (hyb : yb ≤ 2 ^ 12) {a b c : Int32} (hQ : MP Q (oCnt S a b c) n I J (Pg i0 i1)) : Cj X (d + 2) 0 0 mX10_counted [.ref 33, .int a, .int b, .int c] n I J (Pg i0 i1) Q := by
  refine Cj.intro rfl (Nat.le_of_ble_eq_true rfl) (L := [.ref 33, .int a, .int b, .int c, jU]) rfl ?_
  obtain ⟨⟨w0, w1, w2, w3, w4, w5, w6⟩, wp, wk, wc, wb⟩ := id hW
  refine j_aload_n dX10_counted_0 rfl rfl rfl ?_
  refine j_iload_n dX10_counted_1 rfl rfl rfl ?_
  refine j_callVw (As := [.int a]) dX10_counted_2 rfl cX10_141 (by decide) rfl rfl (by decide) rfl (by decide) rfl rfl (c_misP hm.v w3 (fun ha => ?_) (fun ha => ?_))
  · obtain ⟨ja, rfl, hau⟩ := hasP_nat (by omega) ha
    show Rj _ _ _ _ _ _ 5 [.ref 33, .int (nI ja), .int b, .int c, jU] [.int (nI 1)] n I J (Pg i0 i1)
    refine j_ifeqN (tgt := 28) dX10_counted_5 rfl rfl (by decide) (fun h1 => by exfalso; omega) (fun h1 => ?_)
    refine j_iload_n dX10_counted_8 rfl rfl rfl ?_
    refine j_iconst (v := nI 0) dX10_counted_9 rfl rfl ?_
    refine j_bipush (v := nI 60) dX10_counted_10 rfl rfl ?_
    refine j_callSw (As := [.int b, .int (nI 0), .int (nI 60)]) dX10_counted_12 rfl cX10_50 rfl (by decide) rfl rfl (c_min (fun hb => ?_) (fun hb => ?_))
    · obtain ⟨jb, rfl, hbl, hbu⟩ := inR_nat (by decide) (by decide) hb
      show Rj _ _ _ _ _ _ 15 [.ref 33, .int (nI ja), .int (nI jb), .int c, jU] [.int (nI 1)] n I J (Pg i0 i1)
      refine j_ifeqN (tgt := 28) dX10_counted_15 rfl rfl (by decide) (fun h2 => by exfalso; omega) (fun h2 => ?_)
      refine j_iload_n dX10_counted_18 rfl rfl rfl ?_
      refine j_iconst (v := nI 0) dX10_counted_19 rfl rfl ?_
      refine j_bipush (v := nI 60) dX10_counted_20 rfl rfl ?_
      refine j_callSw (As := [.int c, .int (nI 0), .int (nI 60)]) dX10_counted_22 rfl cX10_50 rfl (by decide) rfl rfl (c_min (fun hc => ?_) (fun hc => ?_))
      · obtain ⟨jc, rfl, hcl, hcu⟩ := inR_nat (by decide) (by decide) hc
        show Rj _ _ _ _ _ _ 25 [.ref 33, .int (nI ja), .int (nI jb), .int (nI jc), jU] [.int (nI 1)] n I J (Pg i0 i1)
        refine j_ifneN (tgt := 35) dX10_counted_25 rfl rfl (by decide) (fun h3 => ?_) (fun h3 => by exfalso; omega)
        refine j_aload_n dX10_counted_35 rfl rfl rfl ?_
        refine j_getP (b := 34) dX10_counted_36 rfl fX10_7 rfl (by decide) rfl rfl ?_
        refine j_iconst (v := nI 5) dX10_counted_39 rfl rfl ?_
        refine j_iald (j := 5) (v := nI (S.v 0 5)) dX10_counted_40 rfl rfl (by decide) rfl (by decide) (by decide) hm.v.mc ?_
        refine j_bipush (v := nI 8) dX10_counted_41 rfl rfl ?_
        refine j_icmpneN (tgt := 53) dX10_counted_43 rfl rfl (by omega) (by decide) (fun h4 => ?_) (fun h4 => ?_)
        · refine j_bipush (v := nI 39) dX10_counted_53 rfl rfl ?_
          refine j_iconst (v := nI 3) dX10_counted_55 rfl rfl ?_
          refine j_aload_n dX10_counted_56 rfl rfl rfl ?_
          refine j_getP (b := 34) dX10_counted_57 rfl fX10_7 rfl (by decide) rfl rfl ?_
          refine j_iconst (v := nI 5) dX10_counted_60 rfl rfl ?_
          refine j_iald (j := 5) (v := nI (S.v 0 5)) dX10_counted_61 rfl rfl (by decide) rfl (by decide) (by decide) hm.v.mc ?_
          refine j_imulN (c := 3 * (S.v 0 5)) dX10_counted_62 rfl rfl ?_
          refine j_iaddN (c := 39 + (3 * (S.v 0 5))) dX10_counted_63 rfl rfl ?_
          refine j_istore (L' := [.ref 33, .int (nI ja), .int (nI jb), .int (nI jc), .int (nI (39 + (3 * (S.v 0 5))))]) dX10_counted_64 rfl rfl (by decide) rfl ?_
          refine j_aload_n dX10_counted_66 rfl rfl rfl ?_
          refine j_getP (b := 34) dX10_counted_67 rfl fX10_7 rfl (by decide) rfl rfl ?_
          refine j_iload dX10_counted_70 rfl rfl ?_
          refine j_iload_n dX10_counted_72 rfl rfl rfl ?_
          refine j_iast (j := 39 + (3 * (S.v 0 5))) dX10_counted_73 rfl rfl (by decide) rfl (by omega) (by decide) ?_
          refine j_aload_n dX10_counted_74 rfl rfl rfl ?_
          refine j_getP (b := 34) dX10_counted_75 rfl fX10_7 rfl (by decide) rfl rfl ?_
          refine j_iload dX10_counted_78 rfl rfl ?_
          refine j_iconst (v := nI 1) dX10_counted_80 rfl rfl ?_
          refine j_iaddN (c := (39 + (3 * (S.v 0 5))) + 1) dX10_counted_81 rfl rfl ?_
          refine j_iload_n dX10_counted_82 rfl rfl rfl ?_
          refine j_iast (j := (39 + (3 * (S.v 0 5))) + 1) dX10_counted_83 rfl rfl (by decide) rfl (by omega) (by decide) ?_
          refine j_aload_n dX10_counted_84 rfl rfl rfl ?_
          refine j_getP (b := 34) dX10_counted_85 rfl fX10_7 rfl (by decide) rfl rfl ?_
          refine j_iload dX10_counted_88 rfl rfl ?_
          refine j_iconst (v := nI 2) dX10_counted_90 rfl rfl ?_
          refine j_iaddN (c := (39 + (3 * (S.v 0 5))) + 2) dX10_counted_91 rfl rfl ?_
          refine j_iload_n dX10_counted_92 rfl rfl rfl ?_
          refine j_iast (j := (39 + (3 * (S.v 0 5))) + 2) dX10_counted_93 rfl rfl (by decide) rfl (by omega) (by decide) ?_
          refine j_aload_n dX10_counted_94 rfl rfl rfl ?_
          refine j_getP (b := 34) dX10_counted_95 rfl fX10_7 rfl (by decide) rfl rfl ?_
          refine j_iconst (v := nI 5) dX10_counted_98 rfl rfl ?_
          refine j_dup2 dX10_counted_99 rfl rfl rfl ?_
          refine j_iald (j := 5) (v := nI (S.v 0 5)) dX10_counted_100 rfl rfl (by decide) rfl (by decide) (by decide) (by rw [u2_ne2 _ _ _ (by omega), u2_ne2 _ _ _ (by omega), u2_ne2 _ _ _ (by omega)]; exact hm.v.mc) ?_
          refine j_iconst (v := nI 1) dX10_counted_101 rfl rfl ?_
          refine j_iaddN (c := (S.v 0 5) + 1) dX10_counted_102 rfl rfl ?_
          refine j_iast (j := 5) dX10_counted_103 rfl rfl (by decide) rfl (by decide) (by decide) ?_
          refine j_aload_n dX10_counted_104 rfl rfl rfl ?_
          refine j_getP (b := 34) dX10_counted_105 rfl fX10_7 rfl (by decide) rfl rfl ?_
          refine j_iconst (v := nI 5) dX10_counted_108 rfl rfl ?_
          refine j_iald (j := 5) (v := nI ((S.v 0 5) + 1)) dX10_counted_109 rfl rfl (by decide) rfl (by decide) (by decide) rfl ?_
          refine j_iret dX10_counted_110 rfl rfl ?_
          have e : oCnt S (nI ja) (nI jb) (nI jc) = (S.set (vCnt S.v ja jb jc), nI (S.v 0 5 + 1)) := by unfold oCnt; rw [if_pos (by exact ⟨ha, hb, hc⟩), if_neg (by assumption), tN_nI (show ja < 2 ^ 30 by omega), tN_nI (show jb < 2 ^ 30 by omega), tN_nI (show jc < 2 ^ 30 by omega)]
          rw [e] at hQ
          refine hQ _ _ (hm.one (VM_cnt hm.v (by omega) w4 w3 (u2_self _ _ _ _) ?_ ?_ ?_ (fun i k1 k2 k3 k4 => by rw [u2_ne2 _ _ _ k1, u2_ne2 _ _ _ (by omega), u2_ne2 _ _ _ (by omega), u2_ne2 _ _ _ k2])) (fun a ha => by rw [u2_ne _ _ _ ha, u2_ne _ _ _ ha, u2_ne _ _ _ ha, u2_ne _ _ _ ha])) (fun b hb => ⟨by rw [u2_ne _ _ _ (by omega), u2_ne _ _ _ (by omega), u2_ne _ _ _ (by omega), u2_ne _ _ _ (by omega)], rfl⟩)
          · rw [u2_ne2 _ _ _ (by omega), u2_ne2 _ _ _ (by omega), u2_ne2 _ _ _ (by omega), u2_self]
          · rw [show 40 + 3 * S.v 0 5 = 39 + 3 * S.v 0 5 + 1 by omega, u2_ne2 _ _ _ (by omega), u2_ne2 _ _ _ (by omega), u2_self]
          · rw [show 41 + 3 * S.v 0 5 = 39 + 3 * S.v 0 5 + 2 by omega, u2_ne2 _ _ _ (by omega), u2_self]
        · refine j_aload_n dX10_counted_46 rfl rfl rfl ?_
          refine j_bipush (v := (-4)) dX10_counted_47 rfl rfl ?_
          refine j_callVw (As := [.int (-4)]) dX10_counted_49 rfl cX10_54 (by decide) rfl rfl (by decide) rfl (by decide) rfl rfl (c_mfull ?_)
          show Rj _ _ _ _ _ _ 52 [.ref 33, .int (nI ja), .int (nI jb), .int (nI jc), jU] [.int (-4)] n (u2 I 39 2 (I 39 2 + nI 1)) J (Pg i0 i1)
          refine j_iret dX10_counted_52 rfl rfl ?_
          have e : oCnt S (nI ja) (nI jb) (nI jc) = (S.full, -4) := by unfold oCnt; rw [if_pos (by exact ⟨ha, hb, hc⟩), if_pos (by assumption)]
          rw [e] at hQ
          exact hQ _ _ hm.full (CF.u2 (by omega) (by omega))
      · show Rj _ _ _ _ _ _ 25 [.ref 33, .int (nI ja), .int (nI jb), .int c, jU] [.int (nI 0)] n I J (Pg i0 i1)
        refine j_ifneN (tgt := 35) dX10_counted_25 rfl rfl (by decide) (fun h5 => by exfalso; omega) (fun h5 => ?_)
        refine j_aload_n dX10_counted_28 rfl rfl rfl ?_
        refine j_bipush (v := (-2)) dX10_counted_29 rfl rfl ?_
        refine j_callVw (As := [.int (-2)]) dX10_counted_31 rfl cX10_54 (by decide) rfl rfl (by decide) rfl (by decide) rfl rfl (c_mbad ?_)
        show Rj _ _ _ _ _ _ 34 [.ref 33, .int (nI ja), .int (nI jb), .int c, jU] [.int (-2)] n (u2 I 39 0 (I 39 0 + nI 1)) J (Pg i0 i1)
        refine j_iret dX10_counted_34 rfl rfl ?_
        have e : oCnt S (nI ja) (nI jb) c = (S.bad, -2) := by unfold oCnt; rw [if_neg (by first | exact ha | exact fun q => ha q.1 | exact fun q => hb q.2 | exact fun q => hb q.2.1 | exact fun q => hc q.2.2 | exact fun q => ha q.1.1 | exact fun q => hb q.1.2.1 | exact fun q => q.1.2.2 (congrArg nI (by assumption)) | exact fun q => hc q.2.1 | exact fun q => he q.2.2)]
        rw [e] at hQ
        exact hQ _ _ hm.bad (CF.u2 (by omega) (by omega))
    · show Rj _ _ _ _ _ _ 15 [.ref 33, .int (nI ja), .int b, .int c, jU] [.int (nI 0)] n I J (Pg i0 i1)
      refine j_ifeqN (tgt := 28) dX10_counted_15 rfl rfl (by decide) (fun h6 => ?_) (fun h6 => by exfalso; omega)
      refine j_aload_n dX10_counted_28 rfl rfl rfl ?_
      refine j_bipush (v := (-2)) dX10_counted_29 rfl rfl ?_
      refine j_callVw (As := [.int (-2)]) dX10_counted_31 rfl cX10_54 (by decide) rfl rfl (by decide) rfl (by decide) rfl rfl (c_mbad ?_)
      show Rj _ _ _ _ _ _ 34 [.ref 33, .int (nI ja), .int b, .int c, jU] [.int (-2)] n (u2 I 39 0 (I 39 0 + nI 1)) J (Pg i0 i1)
      refine j_iret dX10_counted_34 rfl rfl ?_
      have e : oCnt S (nI ja) b c = (S.bad, -2) := by unfold oCnt; rw [if_neg (by first | exact ha | exact fun q => ha q.1 | exact fun q => hb q.2 | exact fun q => hb q.2.1 | exact fun q => hc q.2.2 | exact fun q => ha q.1.1 | exact fun q => hb q.1.2.1 | exact fun q => q.1.2.2 (congrArg nI (by assumption)) | exact fun q => hc q.2.1 | exact fun q => he q.2.2)]
      rw [e] at hQ
      exact hQ _ _ hm.bad (CF.u2 (by omega) (by omega))
  · show Rj _ _ _ _ _ _ 5 [.ref 33, .int a, .int b, .int c, jU] [.int (nI 0)] n I J (Pg i0 i1)
    refine j_ifeqN (tgt := 28) dX10_counted_5 rfl rfl (by decide) (fun h7 => ?_) (fun h7 => by exfalso; omega)
    refine j_aload_n dX10_counted_28 rfl rfl rfl ?_
    refine j_bipush (v := (-2)) dX10_counted_29 rfl rfl ?_
    refine j_callVw (As := [.int (-2)]) dX10_counted_31 rfl cX10_54 (by decide) rfl rfl (by decide) rfl (by decide) rfl rfl (c_mbad ?_)
    show Rj _ _ _ _ _ _ 34 [.ref 33, .int a, .int b, .int c, jU] [.int (-2)] n (u2 I 39 0 (I 39 0 + nI 1)) J (Pg i0 i1)
    refine j_iret dX10_counted_34 rfl rfl ?_
    have e : oCnt S a b c = (S.bad, -2) := by unfold oCnt; rw [if_neg (by first | exact ha | exact fun q => ha q.1 | exact fun q => hb q.2 | exact fun q => hb q.2.1 | exact fun q => hc q.2.2 | exact fun q => ha q.1.1 | exact fun q => hb q.1.2.1 | exact fun q => q.1.2.2 (congrArg nI (by assumption)) | exact fun q => hc q.2.1 | exact fun q => he q.2.2)]
    rw [e] at hQ
    exact hQ _ _ hm.bad (CF.u2 (by omega) (by omega))
set_option maxHeartbeats 4000000 in
set_option maxRecDepth 100000 in
theorem g_part {X : jX} {d n : Nat} {I : HI} {J : HJ} {i0 i1 : Option Nat} {Q : jPost} {S : SS} {yb : Nat} (hm : MI S I J) (hW : WF yb S.v) (hyb : yb ≤ 2 ^ 12) {a : Int32} (hQ : MPL Q (oPart S a) n I J (Pg i0 i1)) : Cj X (d + 1) 0 0 mX10_part [.ref 33, .int a] n I J (Pg i0 i1) Q := by
  refine Cj.intro rfl (Nat.le_of_ble_eq_true rfl) (L := [.ref 33, .int a]) rfl ?_
  by_cases h0 : a = nI 0
  · subst h0
    refine j_iload_n dX10_part_0 rfl rfl rfl ?_
    refine j_ifneN (tgt := 11) dX10_part_1 rfl rfl (by decide) (fun h1 => by exfalso; omega) (fun h1 => ?_)
    refine j_aload_n dX10_part_4 rfl rfl rfl ?_
    refine j_getJv (v := lN S.up) dX10_part_5 rfl fX10_170 rfl (by decide) rfl hm.2.2.2.1.1 ?_
    refine j_goto (tgt := 30) dX10_part_8 rfl ?_
    refine j_lret dX10_part_30 rfl ?_
    have e : oPart S (nI 0) = (S, lN S.up) := by unfold oPart; rw [if_pos (by decide)]; rfl
    rw [e] at hQ
    exact hQ _ _ hm CF.rf
  by_cases h0' : a = nI 1
  · subst h0'
    refine j_iload_n dX10_part_0 rfl rfl rfl ?_
    refine j_ifneN (tgt := 11) dX10_part_1 rfl rfl (by decide) (fun h1 => ?_) (fun h1 => by exfalso; omega)
    refine j_iload_n dX10_part_11 rfl rfl rfl ?_
    refine j_iconst (v := nI 1) dX10_part_12 rfl rfl ?_
    refine j_icmpneN (tgt := 23) dX10_part_13 rfl rfl (by decide) (by decide) (fun h2 => by exfalso; omega) (fun h2 => ?_)
    refine j_aload_n dX10_part_16 rfl rfl rfl ?_
    refine j_getJv (v := lN S.lo) dX10_part_17 rfl fX10_26 rfl (by decide) rfl hm.2.2.2.1.2 ?_
    refine j_goto (tgt := 30) dX10_part_20 rfl ?_
    refine j_lret dX10_part_30 rfl ?_
    have e : oPart S (nI 1) = (S, lN S.lo) := by unfold oPart; rw [if_pos (by decide)]; rfl
    rw [e] at hQ
    exact hQ _ _ hm CF.rf
  refine j_iload_n dX10_part_0 rfl rfl rfl ?_
  refine j_ifne (tgt := 11) dX10_part_1 rfl rfl (fun h1 => ?_) (fun h1 => by exfalso; exact h0 (h1.trans nI_0.symm))
  refine j_iload_n dX10_part_11 rfl rfl rfl ?_
  refine j_iconst (v := nI 1) dX10_part_12 rfl rfl ?_
  refine j_icmpne (tgt := 23) dX10_part_13 rfl rfl (fun h2 => ?_) (fun h2 => by exfalso; exact h0' h2)
  refine j_aload_n dX10_part_23 rfl rfl rfl ?_
  refine j_bipush (v := (-2)) dX10_part_24 rfl rfl ?_
  refine j_callVw (As := [.int (-2)]) dX10_part_26 rfl cX10_54 (by decide) rfl rfl (by decide) rfl (by decide) rfl rfl (c_mbad ?_)
  show Rj _ _ _ _ _ _ 29 [.ref 33, .int a] [.int (-2)] n (u2 I 39 0 (I 39 0 + nI 1)) J (Pg i0 i1)
  refine j_i2l dX10_part_29 rfl ?_
  refine j_lret dX10_part_30 rfl ?_
  have e : oPart S a = (S.bad, (-2 : Int32).toInt64) := by
    unfold oPart
    rw [if_neg (fun q => ?_)]
    obtain ⟨ja, rfl, g1, g2⟩ := inR_nat (by decide) (by decide) (show inR a (nI 0) (nI 1) from q)
    rcases (show ja = 0 ∨ ja = 1 by omega) with rfl | rfl
    · exact h0 rfl
    · exact h0' rfl
  rw [e] at hQ
  exact hQ _ _ hm.bad (CF.u2 (by omega) (by omega))
