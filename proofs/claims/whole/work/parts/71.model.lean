theorem VM_give {I I' : HI} {v : VT} {p x : Nat} (h : VM 34 0 I (vPush v)) (h3 : v 0 3 ≤ 6) (h4 : v 0 4 ≤ 8) (h5 : v 0 5 ≤ 8) (hp : p < v 0 3) (e1 : I' 34 (13 + p) = nI x) (he : ∀ i, i ≠ 13 + p → I' 34 i = I 34 i) : VM 34 0 I' (vGive v p x) := by
  have hb := h.2.2.2.2
  have gk : ∀ f i, ¬ (f = 2 ∧ i = p) → vGive v p x f i = vPush v f i := fun f i hf => by unfold vGive; rw [if_neg hf]
  refine h.chg (fun i _ _ => ?_) ?_ ?_ h3 h4 h5 (fun q hq => ?_) (fun f i q1 q2 => ?_) (fun i q1 q2 q3 q4 => ?_) (fun j hj => ?_)
  · rw [gk _ _ (by omega)]
  · rw [he _ (by omega)]; exact h.my
  · rw [he _ (by omega)]; exact h.mb
  · have hq : q < v 0 3 := hq
    rw [he _ (by omega), he (19 + q) (by omega), he (25 + q) (by omega), h.kd hq, h.sn hq, h.en hq, gk 1 q (by omega), gk 3 q (by omega), gk 4 q (by omega)]
    by_cases e : q = p
    · subst e
      have e2 : vGive v q x 2 q = x := by unfold vGive; rw [if_pos ⟨rfl, rfl⟩]
      rw [e2]
      exact ⟨rfl, e1, rfl, rfl⟩
    · rw [he _ (by omega), h.lv hq, gk 2 q (by omega)]
      exact ⟨rfl, rfl, rfl, rfl⟩
  · rw [gk _ _ (by omega)]
  · exact he i (by omega)
  · have e6 : vGive v p x 0 6 = vPush v 0 6 := gk 0 6 (by omega)
    rw [e6] at hj ⊢
    have := hb j hj
    simp only [Nat.zero_add] at this
    refine ⟨?_, fun q hq => ?_⟩
    · rw [he _ (by omega), this.1, gk _ _ (by omega)]
    · rw [he _ (by omega), he _ (by omega), (this.2 q hq).1, (this.2 q hq).2, gk _ _ (by omega), gk _ _ (by omega)]
      exact ⟨rfl, rfl⟩
theorem VM_pop {I I' : HI} {v : VT} (h : VM 34 0 I v) (h3 : v 0 3 ≤ 6) (h4 : v 0 4 ≤ 8) (h5 : v 0 5 ≤ 8) (h6 : 0 < v 0 6) (e6 : I' 34 6 = nI (v 0 6 - 1)) (ey : I' 34 2 = I 34 (63 + 13 * (v 0 6 - 1))) (ep : ∀ q, q < 6 → I' 34 (13 + q) = I 34 (64 + 13 * (v 0 6 - 1) + q) ∧ I' 34 (25 + q) = I 34 (70 + 13 * (v 0 6 - 1) + q)) (he : ∀ i, i ≠ 2 → i ≠ 6 → (i < 13 ∨ 31 ≤ i ∨ (19 ≤ i ∧ i < 25)) → I' 34 i = I 34 i) : VM 34 0 I' (vPop v) := by
  have hb := h.2.2.2.2
  have b0 := hb 0 h6
  simp only [Nat.zero_add, Nat.sub_zero] at b0
  have gk : ∀ f i, 1 ≤ f → f < 10 → f ≠ 2 → f ≠ 4 → vPop v f i = v f i := fun f i k1 k2 k3 k4 => by unfold vPop; rw [if_neg (by omega), if_neg k3, if_neg k4, if_neg (by omega)]
  have gb : ∀ j i, vPop v (10 + j) i = v (10 + (j + 1)) i := fun j i => by unfold vPop; rw [if_neg (by omega), if_neg (by omega), if_neg (by omega), if_pos (by omega)]; rfl
  refine h.chg (fun i k1 k2 => ?_) ?_ e6 h3 h4 h5 (fun q hq => ?_) (fun f i q1 q2 => gk f i (by omega) q2 (by omega) (by omega)) (fun i q1 q2 q3 q4 => he i q1 q2 (by omega)) (fun j hj => ?_)
  · show (if i = 6 then _ else if i = 0 then _ else v 0 i) = _
    rw [if_neg (by omega), if_neg k1]
  · rw [ey]; exact b0.1
  · rw [he (7 + q) (by omega) (by omega) (by omega), he (19 + q) (by omega) (by omega) (by omega), h.kd hq, h.sn hq, gk 1 q (by omega) (by omega) (by omega) (by omega), gk 3 q (by omega) (by omega) (by omega) (by omega), (ep q (by omega)).1, (ep q (by omega)).2]
    exact ⟨rfl, (b0.2 q hq).1, rfl, (b0.2 q hq).2⟩
  · have w6 : vPop v 0 6 = v 0 6 - 1 := rfl
    rw [w6] at hj ⊢
    have := hb (j + 1) (by omega)
    simp only [Nat.zero_add] at this
    rw [show v 0 6 - 1 - (j + 1) = v 0 6 - 1 - 1 - j by omega] at this
    refine ⟨?_, fun q hq => ?_⟩
    · rw [he _ (by omega) (by omega) (by omega), this.1, gb]
    · rw [he _ (by omega) (by omega) (by omega), he _ (by omega) (by omega) (by omega), (this.2 q hq).1, (this.2 q hq).2, gb, gb]
      exact ⟨rfl, rfl⟩
set_option maxHeartbeats 4000000 in
set_option maxRecDepth 100000 in
theorem g_give {X : jX} {d n : Nat} {I : HI} {J : HJ} {i0 i1 : Option Nat} {Q : jPost} {S : SS} {yb : Nat} (hm : MI S I J) (hW : WF yb S.v) (hyb : yb ≤ 2 ^ 12) {a b : Int32} (hQ : MP Q (oGive S a b) n I J (Pg i0 i1)) : Cj X (d + 2) 0 0 mX10_give [.ref 33, .int a, .int b] n I J (Pg i0 i1) Q := by
  refine Cj.intro rfl (Nat.le_of_ble_eq_true rfl) (L := [.ref 33, .int a, .int b, jU]) rfl ?_
  obtain ⟨⟨w0, w1, w2, w3, w4, w5, w6⟩, wp, wk, wc, wb⟩ := id hW
  refine j_aload_n dX10_give_0 rfl rfl rfl ?_
  refine j_iload_n dX10_give_1 rfl rfl rfl ?_
  refine j_callVw (As := [.int a]) dX10_give_2 rfl cX10_141 (by decide) rfl rfl (by decide) rfl (by decide) rfl rfl (c_misP hm.v w3 (fun ha => ?_) (fun ha => ?_))
  · obtain ⟨ja, rfl, hau⟩ := hasP_nat (by omega) ha
    show Rj _ _ _ _ _ _ 5 [.ref 33, .int (nI ja), .int b, jU] [.int (nI 1)] n I J (Pg i0 i1)
    refine j_ifeqN (tgt := 19) dX10_give_5 rfl rfl (by decide) (fun h1 => by exfalso; omega) (fun h1 => ?_)
    refine j_iload_n dX10_give_8 rfl rfl rfl ?_
    refine j_bipush (v := (-60)) dX10_give_9 rfl rfl ?_
    refine j_bipush (v := nI 60) dX10_give_11 rfl rfl ?_
    refine j_callSw (As := [.int b, .int (-60), .int (nI 60)]) dX10_give_13 rfl cX10_50 rfl (by decide) rfl rfl (c_min (fun hb => ?_) (fun hb => ?_))
    · show Rj _ _ _ _ _ _ 16 [.ref 33, .int (nI ja), .int b, jU] [.int (nI 1)] n I J (Pg i0 i1)
      refine j_ifneN (tgt := 26) dX10_give_16 rfl rfl (by decide) (fun h2 => ?_) (fun h2 => by exfalso; omega)
      obtain ⟨q1, q2, q3, q4, q5⟩ := wp ja hau
      refine j_aload_n dX10_give_26 rfl rfl rfl ?_
      refine j_getP (b := 34) dX10_give_27 rfl fX10_7 rfl (by decide) rfl rfl ?_
      refine j_bipush (v := nI 13) dX10_give_30 rfl rfl ?_
      refine j_iload_n dX10_give_32 rfl rfl rfl ?_
      refine j_iaddN (c := 13 + ja) dX10_give_33 rfl rfl ?_
      refine j_iald (j := 13 + ja) (v := nI (S.v 2 ja)) dX10_give_34 rfl rfl (by decide) rfl (by omega) (by decide) (hm.v.lv (by omega)) ?_
      refine j_iload_n dX10_give_35 rfl rfl rfl ?_
      refine j_iadd dX10_give_36 rfl ?_
      refine j_istore_n (L' := [.ref 33, .int (nI ja), .int b, .int ((nI (S.v 2 ja)) + b)]) dX10_give_37 rfl rfl rfl (by decide) rfl ?_
      refine j_aload_n dX10_give_38 rfl rfl rfl ?_
      refine j_getP (b := 34) dX10_give_39 rfl fX10_7 rfl (by decide) rfl rfl ?_
      refine j_bipush (v := nI 13) dX10_give_42 rfl rfl ?_
      refine j_iload_n dX10_give_44 rfl rfl rfl ?_
      refine j_iaddN (c := 13 + ja) dX10_give_45 rfl rfl ?_
      refine j_iald (j := 13 + ja) (v := nI (S.v 2 ja)) dX10_give_46 rfl rfl (by decide) rfl (by omega) (by decide) (hm.v.lv (by omega)) ?_
      refine j_ifeqN (tgt := 61) dX10_give_47 rfl rfl (by omega) (fun h3 => ?_) (fun h3 => ?_)
      · refine j_aload_n dX10_give_61 rfl rfl rfl ?_
        refine j_bipush (v := (-3)) dX10_give_62 rfl rfl ?_
        refine j_callVw (As := [.int (-3)]) dX10_give_64 rfl cX10_54 (by decide) rfl rfl (by decide) rfl (by decide) rfl rfl (c_mno ?_)
        show Rj _ _ _ _ _ _ 67 [.ref 33, .int (nI ja), .int b, .int ((nI (S.v 2 ja)) + b)] [.int (-3)] n (u2 I 39 1 (I 39 1 + nI 1)) J (Pg i0 i1)
        refine j_iret dX10_give_67 rfl rfl ?_
        have e : oGive S (nI ja) b = (S.no, -3) := by unfold oGive; rw [if_pos (by exact ⟨ha, hb⟩), tN_nI (by omega), if_pos (by first | exact Or.inl (by assumption) | exact Or.inr (fun q => q.1 (by assumption)) | exact Or.inr (fun q => q.2 (Int32.not_le.mp (by assumption))))]
        rw [e] at hQ
        exact hQ _ _ hm.no (CF.u2 (by omega) (by omega))
      · refine j_iload_n dX10_give_50 rfl rfl rfl ?_
        refine j_iconst (v := nI 1) dX10_give_51 rfl rfl ?_
        refine j_icmplt (tgt := 61) dX10_give_52 rfl rfl (fun h4 => ?_) (fun h4 => ?_)
        · refine j_aload_n dX10_give_61 rfl rfl rfl ?_
          refine j_bipush (v := (-3)) dX10_give_62 rfl rfl ?_
          refine j_callVw (As := [.int (-3)]) dX10_give_64 rfl cX10_54 (by decide) rfl rfl (by decide) rfl (by decide) rfl rfl (c_mno ?_)
          show Rj _ _ _ _ _ _ 67 [.ref 33, .int (nI ja), .int b, .int ((nI (S.v 2 ja)) + b)] [.int (-3)] n (u2 I 39 1 (I 39 1 + nI 1)) J (Pg i0 i1)
          refine j_iret dX10_give_67 rfl rfl ?_
          have e : oGive S (nI ja) b = (S.no, -3) := by unfold oGive; rw [if_pos (by exact ⟨ha, hb⟩), tN_nI (by omega), if_pos (by first | exact Or.inl (by assumption) | exact Or.inr (fun q => q.1 (by assumption)) | exact Or.inr (fun q => q.2 (Int32.not_le.mp (by assumption))))]
          rw [e] at hQ
          exact hQ _ _ hm.no (CF.u2 (by omega) (by omega))
        · refine j_iload_n dX10_give_55 rfl rfl rfl ?_
          refine j_bipush (v := nI 60) dX10_give_56 rfl rfl ?_
          refine j_icmple (tgt := 68) dX10_give_58 rfl rfl (fun h5 => ?_) (fun h5 => ?_)
          · refine j_aload_n dX10_give_68 rfl rfl rfl ?_
            refine j_callVw (As := []) dX10_give_69 rfl cX10_134 (by decide) rfl rfl (by decide) rfl (by decide) rfl rfl (c_mnote hm.v hW (fun I1 hV1 ho1 => ?_))
            show Rj _ _ _ _ _ _ 72 [.ref 33, .int (nI ja), .int b, .int ((nI (S.v 2 ja)) + b)] [] n I1 J (Pg i0 i1)
            refine j_aload_n dX10_give_72 rfl rfl rfl ?_
            refine j_getP (b := 34) dX10_give_73 rfl fX10_7 rfl (by decide) rfl rfl ?_
            refine j_bipush (v := nI 13) dX10_give_76 rfl rfl ?_
            refine j_iload_n dX10_give_78 rfl rfl rfl ?_
            refine j_iaddN (c := 13 + ja) dX10_give_79 rfl rfl ?_
            refine j_iload_n dX10_give_80 rfl rfl rfl ?_
            refine j_iast (j := 13 + ja) dX10_give_81 rfl rfl (by decide) rfl (by omega) (by decide) ?_
            refine j_iload_n dX10_give_82 rfl rfl rfl ?_
            refine j_iret dX10_give_83 rfl rfl ?_
            have hc : inR (nI (S.v 2 ja) + b) (nI 1) (nI 60) := ⟨by assumption, fun q => absurd (by assumption) (Int32.not_le.mpr q)⟩
            obtain ⟨jc, hce, hcl, hcu⟩ := inR_nat (by decide) (by decide) hc
            have e : oGive S (nI ja) b = (S.set (vGive S.v ja jc), nI (S.v 2 ja) + b) := by unfold oGive; rw [if_pos (by exact ⟨ha, hb⟩), tN_nI (show ja < 2 ^ 30 by omega), if_neg (by exact fun q => q.elim (by assumption) (fun q2 => q2 hc)), hce, tN_nI (show jc < 2 ^ 30 by omega)]
            rw [e] at hQ
            exact hQ _ _ (hm.one (VM_give hV1 w3 w4 w5 hau (by rw [u2_self, hce]) (fun i hi => u2_ne2 _ _ _ hi)) (fun a ha => by rw [u2_ne _ _ _ ha]; exact ho1 a ha)) (fun b hb => ⟨by rw [u2_ne _ _ _ (by omega)]; exact ho1 b (by omega), rfl⟩)
          · refine j_aload_n dX10_give_61 rfl rfl rfl ?_
            refine j_bipush (v := (-3)) dX10_give_62 rfl rfl ?_
            refine j_callVw (As := [.int (-3)]) dX10_give_64 rfl cX10_54 (by decide) rfl rfl (by decide) rfl (by decide) rfl rfl (c_mno ?_)
            show Rj _ _ _ _ _ _ 67 [.ref 33, .int (nI ja), .int b, .int ((nI (S.v 2 ja)) + b)] [.int (-3)] n (u2 I 39 1 (I 39 1 + nI 1)) J (Pg i0 i1)
            refine j_iret dX10_give_67 rfl rfl ?_
            have e : oGive S (nI ja) b = (S.no, -3) := by unfold oGive; rw [if_pos (by exact ⟨ha, hb⟩), tN_nI (by omega), if_pos (by first | exact Or.inl (by assumption) | exact Or.inr (fun q => q.1 (by assumption)) | exact Or.inr (fun q => q.2 (Int32.not_le.mp (by assumption))))]
            rw [e] at hQ
            exact hQ _ _ hm.no (CF.u2 (by omega) (by omega))
    · show Rj _ _ _ _ _ _ 16 [.ref 33, .int (nI ja), .int b, jU] [.int (nI 0)] n I J (Pg i0 i1)
      refine j_ifneN (tgt := 26) dX10_give_16 rfl rfl (by decide) (fun h6 => by exfalso; omega) (fun h6 => ?_)
      refine j_aload_n dX10_give_19 rfl rfl rfl ?_
      refine j_bipush (v := (-10)) dX10_give_20 rfl rfl ?_
      refine j_callVw (As := [.int (-10)]) dX10_give_22 rfl cX10_54 (by decide) rfl rfl (by decide) rfl (by decide) rfl rfl (c_mten ?_)
      show Rj _ _ _ _ _ _ 25 [.ref 33, .int (nI ja), .int b, jU] [.int (-10)] n (u2 I 39 0 (I 39 0 + nI 1)) J (Pg i0 i1)
      refine j_iret dX10_give_25 rfl rfl ?_
      have e : oGive S (nI ja) b = (S.bad, -10) := by unfold oGive; rw [if_neg (by first | exact ha | exact fun q => ha q.1 | exact fun q => hb q.2 | exact fun q => hb q.2.1 | exact fun q => hc q.2.2 | exact fun q => ha q.1.1 | exact fun q => hb q.1.2.1 | exact fun q => q.1.2.2 (congrArg nI (by assumption)) | exact fun q => hc q.2.1 | exact fun q => he q.2.2)]
      rw [e] at hQ
      exact hQ _ _ hm.bad (CF.u2 (by omega) (by omega))
  · show Rj _ _ _ _ _ _ 5 [.ref 33, .int a, .int b, jU] [.int (nI 0)] n I J (Pg i0 i1)
    refine j_ifeqN (tgt := 19) dX10_give_5 rfl rfl (by decide) (fun h7 => ?_) (fun h7 => by exfalso; omega)
    refine j_aload_n dX10_give_19 rfl rfl rfl ?_
    refine j_bipush (v := (-10)) dX10_give_20 rfl rfl ?_
    refine j_callVw (As := [.int (-10)]) dX10_give_22 rfl cX10_54 (by decide) rfl rfl (by decide) rfl (by decide) rfl rfl (c_mten ?_)
    show Rj _ _ _ _ _ _ 25 [.ref 33, .int a, .int b, jU] [.int (-10)] n (u2 I 39 0 (I 39 0 + nI 1)) J (Pg i0 i1)
    refine j_iret dX10_give_25 rfl rfl ?_
    have e : oGive S a b = (S.bad, -10) := by unfold oGive; rw [if_neg (by first | exact ha | exact fun q => ha q.1 | exact fun q => hb q.2 | exact fun q => hb q.2.1 | exact fun q => hc q.2.2 | exact fun q => ha q.1.1 | exact fun q => hb q.1.2.1 | exact fun q => q.1.2.2 (congrArg nI (by assumption)) | exact fun q => hc q.2.1 | exact fun q => he q.2.2)]
    rw [e] at hQ
    exact hQ _ _ hm.bad (CF.u2 (by omega) (by omega))
set_option maxHeartbeats 4000000 in
set_option maxRecDepth 100000 in
theorem g_undo {X : jX} {d n : Nat} {I : HI} {J : HJ} {i0 i1 : Option Nat} {Q : jPost} {S : SS} {yb : Nat} (hm : MI S I J) (hW : WF yb S.v) (hyb : yb ≤ 2 ^ 12) (hQ : MP Q (oUndo S) n I J (Pg i0 i1)) : Cj X (d + 1) 0 0 mX10_undo [.ref 33] n I J (Pg i0 i1) Q := by
  refine Cj.intro rfl (Nat.le_of_ble_eq_true rfl) (L := [.ref 33, jU, jU]) rfl ?_
  obtain ⟨⟨w0, w1, w2, w3, w4, w5, w6⟩, wp, wk, wc, wb⟩ := id hW
  by_cases hz6 : S.v 0 6 = 0
  · have e : oUndo S = (S.no, -3) := by unfold oUndo; rw [if_pos hz6]
    rw [e] at hQ
    refine j_aload_n dX10_undo_0 rfl rfl rfl ?_
    refine j_getP (b := 34) dX10_undo_1 rfl fX10_7 rfl (by decide) rfl rfl ?_
    refine j_bipush (v := nI 6) dX10_undo_4 rfl rfl ?_
    refine j_iald (j := 6) (v := nI (S.v 0 6)) dX10_undo_6 rfl rfl (by decide) rfl (by decide) (by decide) hm.v.mb ?_
    refine j_ifneN (tgt := 17) dX10_undo_7 rfl rfl (by omega) (fun h1 => by exfalso; omega) (fun h1 => ?_)
    refine j_aload_n dX10_undo_10 rfl rfl rfl ?_
    refine j_bipush (v := (-3)) dX10_undo_11 rfl rfl ?_
    refine j_callVw (As := [.int (-3)]) dX10_undo_13 rfl cX10_54 (by decide) rfl rfl (by decide) rfl (by decide) rfl rfl (c_mno ?_)
    show Rj _ _ _ _ _ _ 16 [.ref 33, jU, jU] [.int (-3)] n (u2 I 39 1 (I 39 1 + nI 1)) J (Pg i0 i1)
    refine j_iret dX10_undo_16 rfl rfl ?_
    exact hQ _ _ hm.no (CF.u2 (by omega) (by omega))
  · have e : oUndo S = (S.set (vPop S.v), nI (S.v 10 0)) := by unfold oUndo; rw [if_neg hz6]
    rw [e] at hQ
    have hz : I 34 (63 + 13 * (S.v 0 6 - 1)) = nI (S.v 10 0) := by
      have := (hm.v.2.2.2.2 0 (by omega)).1
      simp only [Nat.zero_add, Nat.sub_zero] at this
      exact this
    have loop : ∀ (r p : Nat) (Ia : HI), p + r = 6 → Ia 34 6 = nI (S.v 0 6 - 1) → Ia 34 2 = nI (S.v 10 0) → (∀ a, a ≠ 34 → Ia a = I a) → (∀ q, q < p → Ia 34 (13 + q) = I 34 (64 + 13 * (S.v 0 6 - 1) + q) ∧ Ia 34 (25 + q) = I 34 (70 + 13 * (S.v 0 6 - 1) + q)) → (∀ i, i ≠ 2 → i ≠ 6 → (i < 13 ∨ 31 ≤ i ∨ (19 ≤ i ∧ i < 25)) → Ia 34 i = I 34 i) → Rj X (d + 1) 0 0 mX10_undo Q 56 [.ref 33, .int (nI (63 + (13 * (S.v 0 6 - 1)))), .int (nI p)] [] n Ia J (Pg i0 i1) := by
      intro r
      induction r with
      | zero =>
        intro p Ia hpr h6 hy hO hP hE
        refine j_iload_n dX10_undo_56 rfl rfl rfl ?_
        refine j_bipush (v := nI 6) dX10_undo_57 rfl rfl ?_
        refine j_icmpgeN (tgt := 107) dX10_undo_59 rfl rfl (by omega) (by decide) (fun h1 => ?_) (fun h1 => by exfalso; omega)
        refine j_aload_n dX10_undo_107 rfl rfl rfl ?_
        refine j_getP (b := 34) dX10_undo_108 rfl fX10_7 rfl (by decide) rfl rfl ?_
        refine j_iconst (v := nI 2) dX10_undo_111 rfl rfl ?_
        refine j_iald (j := 2) (v := nI (S.v 10 0)) dX10_undo_112 rfl rfl (by decide) rfl (by decide) (by decide) hy ?_
        refine j_iret dX10_undo_113 rfl rfl ?_
        exact hQ _ _ (hm.one (VM_pop hm.v w3 w4 w5 (by omega) h6 (hy.trans hz.symm) (fun q hq => hP q (by omega)) hE) hO) (fun b hb => ⟨hO b (by omega), rfl⟩)
      | succ r ih =>
        intro p Ia hpr h6 hy hO hP hE
        refine j_iload_n dX10_undo_56 rfl rfl rfl ?_
        refine j_bipush (v := nI 6) dX10_undo_57 rfl rfl ?_
        refine j_icmpgeN (tgt := 107) dX10_undo_59 rfl rfl (by omega) (by decide) (fun h1 => by exfalso; omega) (fun h1 => ?_)
        refine j_aload_n dX10_undo_62 rfl rfl rfl ?_
        refine j_getP (b := 34) dX10_undo_63 rfl fX10_7 rfl (by decide) rfl rfl ?_
        refine j_bipush (v := nI 13) dX10_undo_66 rfl rfl ?_
        refine j_iload_n dX10_undo_68 rfl rfl rfl ?_
        refine j_iaddN (c := 13 + p) dX10_undo_69 rfl rfl ?_
        refine j_aload_n dX10_undo_70 rfl rfl rfl ?_
        refine j_getP (b := 34) dX10_undo_71 rfl fX10_7 rfl (by decide) rfl rfl ?_
        refine j_iload_n dX10_undo_74 rfl rfl rfl ?_
        refine j_iconst (v := nI 1) dX10_undo_75 rfl rfl ?_
        refine j_iaddN (c := (63 + (13 * (S.v 0 6 - 1))) + 1) dX10_undo_76 rfl rfl ?_
        refine j_iload_n dX10_undo_77 rfl rfl rfl ?_
        refine j_iaddN (c := ((63 + (13 * (S.v 0 6 - 1))) + 1) + p) dX10_undo_78 rfl rfl ?_
        refine j_iald (j := ((63 + (13 * (S.v 0 6 - 1))) + 1) + p) (v := Ia 34 (((63 + (13 * (S.v 0 6 - 1))) + 1) + p)) dX10_undo_79 rfl rfl (by decide) rfl (by omega) (by decide) rfl ?_
        refine j_iast (j := 13 + p) dX10_undo_80 rfl rfl (by decide) rfl (by omega) (by decide) ?_
        refine j_aload_n dX10_undo_81 rfl rfl rfl ?_
        refine j_getP (b := 34) dX10_undo_82 rfl fX10_7 rfl (by decide) rfl rfl ?_
        refine j_bipush (v := nI 25) dX10_undo_85 rfl rfl ?_
        refine j_iload_n dX10_undo_87 rfl rfl rfl ?_
        refine j_iaddN (c := 25 + p) dX10_undo_88 rfl rfl ?_
        refine j_aload_n dX10_undo_89 rfl rfl rfl ?_
        refine j_getP (b := 34) dX10_undo_90 rfl fX10_7 rfl (by decide) rfl rfl ?_
        refine j_iload_n dX10_undo_93 rfl rfl rfl ?_
        refine j_bipush (v := nI 7) dX10_undo_94 rfl rfl ?_
        refine j_iaddN (c := (63 + (13 * (S.v 0 6 - 1))) + 7) dX10_undo_96 rfl rfl ?_
        refine j_iload_n dX10_undo_97 rfl rfl rfl ?_
        refine j_iaddN (c := ((63 + (13 * (S.v 0 6 - 1))) + 7) + p) dX10_undo_98 rfl rfl ?_
        refine j_iald (j := ((63 + (13 * (S.v 0 6 - 1))) + 7) + p) (v := (u2 Ia 34 (13 + p) (Ia 34 (((63 + (13 * (S.v 0 6 - 1))) + 1) + p))) 34 (((63 + (13 * (S.v 0 6 - 1))) + 7) + p)) dX10_undo_99 rfl rfl (by decide) rfl (by omega) (by decide) rfl ?_
        refine j_iast (j := 25 + p) dX10_undo_100 rfl rfl (by decide) rfl (by omega) (by decide) ?_
        refine j_iincN (L' := [.ref 33, .int (nI (63 + (13 * (S.v 0 6 - 1)))), .int (nI (p + 1))]) dX10_undo_101 rfl rfl (b := 1) rfl rfl rfl (by decide) rfl ?_
        refine j_goto (tgt := 56) dX10_undo_104 rfl ?_
        refine ih (p + 1) _ (by omega) ?_ ?_ (fun a ha => by rw [u2_ne _ _ _ ha, u2_ne _ _ _ ha]; exact hO a ha) (fun q hq => ?_) (fun i k1 k2 k3 => by rw [u2_ne2 _ _ _ (by omega), u2_ne2 _ _ _ (by omega)]; exact hE i k1 k2 k3)
        · rw [u2_ne2 _ _ _ (by omega), u2_ne2 _ _ _ (by omega)]; exact h6
        · rw [u2_ne2 _ _ _ (by omega), u2_ne2 _ _ _ (by omega)]; exact hy
        · by_cases e : q = p
          · subst e
            rw [u2_self, u2_ne2 _ _ _ (by omega), u2_self, u2_ne2 _ _ _ (by omega), hE _ (by omega) (by omega) (by omega), hE _ (by omega) (by omega) (by omega)]
            rw [show 63 + 13 * (S.v 0 6 - 1) + 1 + q = 64 + 13 * (S.v 0 6 - 1) + q by omega, show 63 + 13 * (S.v 0 6 - 1) + 7 + q = 70 + 13 * (S.v 0 6 - 1) + q by omega]
            exact ⟨rfl, rfl⟩
          · rw [u2_ne2 _ _ _ (by omega), u2_ne2 _ _ _ (by omega), u2_ne2 _ _ _ (by omega), u2_ne2 _ _ _ (by omega)]
            exact hP q (by omega)
    refine j_aload_n dX10_undo_0 rfl rfl rfl ?_
    refine j_getP (b := 34) dX10_undo_1 rfl fX10_7 rfl (by decide) rfl rfl ?_
    refine j_bipush (v := nI 6) dX10_undo_4 rfl rfl ?_
    refine j_iald (j := 6) (v := nI (S.v 0 6)) dX10_undo_6 rfl rfl (by decide) rfl (by decide) (by decide) hm.v.mb ?_
    refine j_ifneN (tgt := 17) dX10_undo_7 rfl rfl (by omega) (fun h1 => ?_) (fun h1 => by exfalso; omega)
    refine j_aload_n dX10_undo_17 rfl rfl rfl ?_
    refine j_getP (b := 34) dX10_undo_18 rfl fX10_7 rfl (by decide) rfl rfl ?_
    refine j_bipush (v := nI 6) dX10_undo_21 rfl rfl ?_
    refine j_dup2 dX10_undo_23 rfl rfl rfl ?_
    refine j_iald (j := 6) (v := nI (S.v 0 6)) dX10_undo_24 rfl rfl (by decide) rfl (by decide) (by decide) hm.v.mb ?_
    refine j_iconst (v := nI 1) dX10_undo_25 rfl rfl ?_
    refine j_isubN (c := (S.v 0 6) - 1) dX10_undo_26 rfl (by omega) rfl ?_
    refine j_iast (j := 6) dX10_undo_27 rfl rfl (by decide) rfl (by decide) (by decide) ?_
    refine j_bipush (v := nI 63) dX10_undo_28 rfl rfl ?_
    refine j_bipush (v := nI 13) dX10_undo_30 rfl rfl ?_
    refine j_aload_n dX10_undo_32 rfl rfl rfl ?_
    refine j_getP (b := 34) dX10_undo_33 rfl fX10_7 rfl (by decide) rfl rfl ?_
    refine j_bipush (v := nI 6) dX10_undo_36 rfl rfl ?_
    refine j_iald (j := 6) (v := nI ((S.v 0 6) - 1)) dX10_undo_38 rfl rfl (by decide) rfl (by decide) (by decide) rfl ?_
    refine j_imulN (c := 13 * ((S.v 0 6) - 1)) dX10_undo_39 rfl rfl ?_
    refine j_iaddN (c := 63 + (13 * ((S.v 0 6) - 1))) dX10_undo_40 rfl rfl ?_
    refine j_istore_n (L' := [.ref 33, .int (nI (63 + (13 * ((S.v 0 6) - 1)))), jU]) dX10_undo_41 rfl rfl rfl (by decide) rfl ?_
    refine j_aload_n dX10_undo_42 rfl rfl rfl ?_
    refine j_getP (b := 34) dX10_undo_43 rfl fX10_7 rfl (by decide) rfl rfl ?_
    refine j_iconst (v := nI 2) dX10_undo_46 rfl rfl ?_
    refine j_aload_n dX10_undo_47 rfl rfl rfl ?_
    refine j_getP (b := 34) dX10_undo_48 rfl fX10_7 rfl (by decide) rfl rfl ?_
    refine j_iload_n dX10_undo_51 rfl rfl rfl ?_
    refine j_iald (j := 63 + (13 * ((S.v 0 6) - 1))) (v := nI (S.v 10 0)) dX10_undo_52 rfl rfl (by decide) rfl (by omega) (by decide) (by rw [u2_ne2 _ _ _ (by omega)]; exact hz) ?_
    refine j_iast (j := 2) dX10_undo_53 rfl rfl (by decide) rfl (by decide) (by decide) ?_
    refine j_iconst (v := nI 0) dX10_undo_54 rfl rfl ?_
    refine j_istore_n (L' := [.ref 33, .int (nI (63 + (13 * ((S.v 0 6) - 1)))), .int (nI 0)]) dX10_undo_55 rfl rfl rfl (by decide) rfl ?_
    refine loop 6 0 _ (by omega) ?_ (u2_self _ _ _ _) (fun a ha => by rw [u2_ne _ _ _ ha, u2_ne _ _ _ ha]) (fun q hq => absurd hq (Nat.not_lt_zero _)) (fun i k1 k2 k3 => by rw [u2_ne2 _ _ _ k1, u2_ne2 _ _ _ k2])
    rw [u2_ne2 _ _ _ (by omega), u2_self]
set_option maxHeartbeats 4000000 in
set_option maxRecDepth 100000 in
theorem c_mendOf {X : jX} {d n : Nat} {I : HI} {J : HJ} {i0 i1 : Option Nat} {Q : jPost} {v : VT} {p yb : Nat} (hM : VM 34 0 I v) (hW : WF yb v) (hyb : yb ≤ 2 ^ 12) (hp : p < v 0 3) (hQ : Q (some (.int (nI (endY (v 1 p) (v 0 1) (v 0 2) 99 (v 0 0) (v 2 p)) - 1))) n I J (Pg i0 i1)) : Cj X (d + 4) 0 0 mX10_endOf [.ref 33, .int (nI p)] n I J (Pg i0 i1) Q := by
  refine Cj.intro rfl (Nat.le_of_ble_eq_true rfl) (L := [.ref 33, .int (nI p), jU]) rfl ?_
  obtain ⟨⟨w0, w1, w2, w3, w4, w5, w6⟩, wp, wk, wc, wb⟩ := id hW
  obtain ⟨q1, q2, q3, q4, q5⟩ := wp p hp
  have loop : ∀ (r k T : Nat), k + r = 99 → ¬ lft (v 1 p) (v 0 1) (v 0 2) (v 0 0) (v 2 p) k = 0 → endY (v 1 p) (v 0 1) (v 0 2) r (v 0 0 + k) (lft (v 1 p) (v 0 1) (v 0 2) (v 0 0) (v 2 p) k) = T → Q (some (.int (nI T - 1))) n I J (Pg i0 i1) → Rj X (d + 4) 0 0 mX10_endOf Q 16 [.ref 33, .int (nI p), .int (nI (k + 1))] [] n I J (Pg i0 i1) := by
    intro r
    induction r with
    | zero =>
      intro k T hkr hn hT hQ
      refine j_iload_n dX10_endOf_16 rfl rfl rfl ?_
      refine j_bipush (v := nI 100) dX10_endOf_17 rfl rfl ?_
      refine j_icmpgeN (tgt := 48) dX10_endOf_19 rfl rfl (by omega) (by decide) (fun h1 => ?_) (fun h1 => by exfalso; omega)
      refine j_iconst (v := (-1)) dX10_endOf_48 rfl rfl ?_
      refine j_iret dX10_endOf_49 rfl rfl ?_
      subst hT
      exact hQ
    | succ r ih =>
      intro k T hkr hn hT hQ
      refine j_iload_n dX10_endOf_16 rfl rfl rfl ?_
      refine j_bipush (v := nI 100) dX10_endOf_17 rfl rfl ?_
      refine j_icmpgeN (tgt := 48) dX10_endOf_19 rfl rfl (by omega) (by decide) (fun h1 => by exfalso; omega) (fun h1 => ?_)
      refine j_aload_n dX10_endOf_22 rfl rfl rfl ?_
      refine j_iload_n dX10_endOf_23 rfl rfl rfl ?_
      refine j_iload_n dX10_endOf_24 rfl rfl rfl ?_
      refine j_callVw (As := [.int (nI p), .int (nI (k + 1))]) dX10_endOf_25 rfl cX10_137 (by decide) rfl rfl (by decide) rfl (by decide) rfl rfl (c_mleftBy hM hW hyb hp (by omega) ?_)
      have hs := lft_succ (v 1 p) (v 0 1) (v 0 2) k (v 0 0) (v 2 p)
      have hle := lft_le (v 1 p) (v 0 1) (v 0 2) k (v 0 0) (v 2 p)
      show Rj _ _ _ _ _ _ 28 [.ref 33, .int (nI p), .int (nI (k + 1))] [.int (nI (lft (v 1 p) (v 0 1) (v 0 2) (v 0 0) (v 2 p) (k + 1)))] n I J (Pg i0 i1)
      refine j_ifneN (tgt := 42) dX10_endOf_28 rfl rfl (by omega) (fun h2 => ?_) (fun h2 => ?_)
      · refine j_iincN (L' := [.ref 33, .int (nI p), .int (nI (k + 1 + 1))]) dX10_endOf_42 rfl rfl (b := 1) rfl rfl rfl (by decide) rfl ?_
        refine j_goto (tgt := 16) dX10_endOf_45 rfl ?_
        unfold endY at hT
        rw [if_neg hn, if_neg (by omega), ← hs] at hT
        exact ih (k + 1) T (by omega) (by omega) hT hQ
      · refine j_aload_n dX10_endOf_31 rfl rfl rfl ?_
        refine j_getP (b := 34) dX10_endOf_32 rfl fX10_7 rfl (by decide) rfl rfl ?_
        refine j_iconst (v := nI 2) dX10_endOf_35 rfl rfl ?_
        refine j_iald (j := 2) (v := nI (v 0 0)) dX10_endOf_36 rfl rfl (by decide) rfl (by decide) (by decide) hM.my ?_
        refine j_iload_n dX10_endOf_37 rfl rfl rfl ?_
        refine j_iaddN (c := (v 0 0) + (k + 1)) dX10_endOf_38 rfl rfl ?_
        refine j_iconst (v := nI 1) dX10_endOf_39 rfl rfl ?_
        refine j_isubN (c := ((v 0 0) + (k + 1)) - 1) dX10_endOf_40 rfl (by omega) rfl ?_
        refine j_iret dX10_endOf_41 rfl rfl ?_
        unfold endY at hT
        rw [if_neg hn, if_pos (by omega)] at hT
        subst hT
        rw [nI_pred] at hQ
        exact hQ
  refine j_aload_n dX10_endOf_0 rfl rfl rfl ?_
  refine j_getP (b := 34) dX10_endOf_1 rfl fX10_7 rfl (by decide) rfl rfl ?_
  refine j_bipush (v := nI 13) dX10_endOf_4 rfl rfl ?_
  refine j_iload_n dX10_endOf_6 rfl rfl rfl ?_
  refine j_iaddN (c := 13 + p) dX10_endOf_7 rfl rfl ?_
  refine j_iald (j := 13 + p) (v := nI (v 2 p)) dX10_endOf_8 rfl rfl (by decide) rfl (by omega) (by decide) (hM.lv (by omega)) ?_
  refine j_ifneN (tgt := 14) dX10_endOf_9 rfl rfl (by omega) (fun h1 => ?_) (fun h1 => ?_)
  · refine j_iconst (v := nI 1) dX10_endOf_14 rfl rfl ?_
    refine j_istore_n (L' := [.ref 33, .int (nI p), .int (nI 1)]) dX10_endOf_15 rfl rfl rfl (by decide) rfl ?_
    exact loop 99 0 _ (by omega) (by assumption) rfl hQ
  · refine j_iconst (v := (-1)) dX10_endOf_12 rfl rfl ?_
    refine j_iret dX10_endOf_13 rfl rfl ?_
    have e : endY (v 1 p) (v 0 1) (v 0 2) 99 (v 0 0) (v 2 p) = 0 := by unfold endY; rw [if_pos (by assumption)]
    rw [e] at hQ
    exact hQ
set_option maxHeartbeats 4000000 in
set_option maxRecDepth 100000 in
theorem g_till {X : jX} {d n : Nat} {I : HI} {J : HJ} {i0 i1 : Option Nat} {Q : jPost} {S : SS} {yb : Nat} (hm : MI S I J) (hW : WF yb S.v) (hyb : yb ≤ 2 ^ 12) {a : Int32} (hQ : MP Q (oTill S a) n I J (Pg i0 i1)) : Cj X (d + 5) 0 0 mX10_till [.ref 33, .int a] n I J (Pg i0 i1) Q := by
  refine Cj.intro rfl (Nat.le_of_ble_eq_true rfl) (L := [.ref 33, .int a]) rfl ?_
  obtain ⟨⟨w0, w1, w2, w3, w4, w5, w6⟩, wp, wk, wc, wb⟩ := id hW
  refine j_aload_n dX10_till_0 rfl rfl rfl ?_
  refine j_iload_n dX10_till_1 rfl rfl rfl ?_
  refine j_callVw (As := [.int a]) dX10_till_2 rfl cX10_141 (by decide) rfl rfl (by decide) rfl (by decide) rfl rfl (c_misP hm.v w3 (fun ha => ?_) (fun ha => ?_))
  · obtain ⟨ja, rfl, hau⟩ := hasP_nat (by omega) ha
    show Rj _ _ _ _ _ _ 5 [.ref 33, .int (nI ja)] [.int (nI 1)] n I J (Pg i0 i1)
    refine j_ifneN (tgt := 15) dX10_till_5 rfl rfl (by decide) (fun h1 => ?_) (fun h1 => by exfalso; omega)
    obtain ⟨q1, q2, q3, q4, q5⟩ := wp ja hau
    refine j_aload_n dX10_till_15 rfl rfl rfl ?_
    refine j_getP (b := 34) dX10_till_16 rfl fX10_7 rfl (by decide) rfl rfl ?_
    refine j_bipush (v := nI 13) dX10_till_19 rfl rfl ?_
    refine j_iload_n dX10_till_21 rfl rfl rfl ?_
    refine j_iaddN (c := 13 + ja) dX10_till_22 rfl rfl ?_
    refine j_iald (j := 13 + ja) (v := nI (S.v 2 ja)) dX10_till_23 rfl rfl (by decide) rfl (by omega) (by decide) (hm.v.lv (by omega)) ?_
    refine j_ifneN (tgt := 39) dX10_till_24 rfl rfl (by omega) (fun h2 => ?_) (fun h2 => ?_)
    · refine j_aload_n dX10_till_39 rfl rfl rfl ?_
      refine j_iload_n dX10_till_40 rfl rfl rfl ?_
      refine j_callVw (As := [.int (nI ja)]) dX10_till_41 rfl cX10_145 (by decide) rfl rfl (by decide) rfl (by decide) rfl rfl (c_mendOf hm.v hW hyb hau ?_)
      show Rj _ _ _ _ _ _ 44 [.ref 33, .int (nI ja)] [.int (nI (endY (S.v 1 ja) (S.v 0 1) (S.v 0 2) 99 (S.v 0 0) (S.v 2 ja)) - 1)] n I J (Pg i0 i1)
      refine j_iret dX10_till_44 rfl rfl ?_
      have e : oTill S (nI ja) = (S, nI (endY (S.v 1 ja) (S.v 0 1) (S.v 0 2) 99 (S.v 0 0) (S.v 2 ja)) - 1) := by
        unfold oTill tilV
        rw [if_pos (by exact ha), tN_nI (show ja < 2 ^ 30 by omega)]
        congr 1
        by_cases hz : S.v 4 ja = 0
        · rw [if_pos hz]; skip
        · rw [if_neg hz]; exfalso; omega
      rw [e] at hQ
      exact hQ _ _ hm CF.rf
    · refine j_aload_n dX10_till_27 rfl rfl rfl ?_
      refine j_getP (b := 34) dX10_till_28 rfl fX10_7 rfl (by decide) rfl rfl ?_
      refine j_bipush (v := nI 25) dX10_till_31 rfl rfl ?_
      refine j_iload_n dX10_till_33 rfl rfl rfl ?_
      refine j_iaddN (c := 25 + ja) dX10_till_34 rfl rfl ?_
      refine j_iald (j := 25 + ja) (v := nI (S.v 4 ja) - 1) dX10_till_35 rfl rfl (by decide) rfl (by omega) (by decide) (hm.v.en (by omega)) ?_
      refine j_goto (tgt := 44) dX10_till_36 rfl ?_
      refine j_iret dX10_till_44 rfl rfl ?_
      have e : oTill S (nI ja) = (S, nI (S.v 4 ja) - 1) := by
        unfold oTill tilV
        rw [if_pos (by exact ha), tN_nI (show ja < 2 ^ 30 by omega)]
        congr 1
        by_cases hz : S.v 4 ja = 0
        · rw [if_pos hz]; rw [hz]; unfold endY; rw [if_pos (by assumption)]
        · rw [if_neg hz]; skip
      rw [e] at hQ
      exact hQ _ _ hm CF.rf
  · show Rj _ _ _ _ _ _ 5 [.ref 33, .int a] [.int (nI 0)] n I J (Pg i0 i1)
    refine j_ifneN (tgt := 15) dX10_till_5 rfl rfl (by decide) (fun h3 => by exfalso; omega) (fun h3 => ?_)
    refine j_aload_n dX10_till_8 rfl rfl rfl ?_
    refine j_bipush (v := (-2)) dX10_till_9 rfl rfl ?_
    refine j_callVw (As := [.int (-2)]) dX10_till_11 rfl cX10_54 (by decide) rfl rfl (by decide) rfl (by decide) rfl rfl (c_mbad ?_)
    show Rj _ _ _ _ _ _ 14 [.ref 33, .int a] [.int (-2)] n (u2 I 39 0 (I 39 0 + nI 1)) J (Pg i0 i1)
    refine j_iret dX10_till_14 rfl rfl ?_
    have e : oTill S a = (S.bad, -2) := by unfold oTill; rw [if_neg (by first | exact ha | exact fun q => ha q.1 | exact fun q => hb q.2 | exact fun q => hb q.2.1 | exact fun q => hc q.2.2 | exact fun q => ha q.1.1 | exact fun q => hb q.1.2.1 | exact fun q => q.1.2.2 (congrArg nI (by assumption)) | exact fun q => hc q.2.1 | exact fun q => he q.2.2)]
    rw [e] at hQ
    exact hQ _ _ hm.bad (CF.u2 (by omega) (by omega))
