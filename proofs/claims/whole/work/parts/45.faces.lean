def yrN : Nat → VT → Nat → VT × Nat
  | 0, v, e => (v, e)
  | r + 1, v, e => yrN r (vYear v) (e ||| endB v 0 (v 2) (v 0 3))
def oYear (S : SS) (a : Int32) : SS × Int32 := if inA a (nI 1) (nI 60) then (S.set (yrN (tN a) S.v 0).1, nI (yrN (tN a) S.v 0).2) else (S.bad, -2)
def oGive (S : SS) (a b : Int32) : SS × Int32 := if hasA a (S.v 0 3) ∧ inA b (-60) (nI 60) then (if S.v 2 (tN a) = 0 ∨ ¬ inA (nI (S.v 2 (tN a)) + b) (nI 1) (nI 60) then (S.no, -3) else (S.set (vGive S.v (tN a) (tN (nI (S.v 2 (tN a)) + b))), nI (S.v 2 (tN a)) + b)) else (S.bad, -10)
def oUndo (S : SS) : SS × Int32 := if S.v 0 6 = 0 then (S.no, -3) else (S.set (vPop S.v), nI (S.v 10 0))
def ofV (v : VT) (p : Nat) : Nat → Int32
  | 0 => nI (v 1 p)
  | 1 => nI (v 2 p)
  | 2 => nI (v 3 p)
  | 3 => nI (v 4 p) - 1
  | _ => nI (gos (v 1 p) (v 0 0) (v 0 1) (v 0 2))
def oOf (S : SS) (a b : Int32) : SS × Int32 := if hasA a (S.v 0 3) ∧ inA b (nI 0) (nI 4) then (S, ofV S.v (tN a) (tN b)) else (S.bad, -10)
def oLeft (S : SS) (a b : Int32) : SS × Int32 := if hasA a (S.v 0 3) ∧ inA b (nI 0) (nI 99) then (S, nI (lft (S.v 1 (tN a)) (S.v 0 1) (S.v 0 2) (S.v 0 0) (S.v 2 (tN a)) (tN b))) else (S.bad, -2)
def tilV (v : VT) (p : Nat) : Int32 := if v 4 p = 0 then nI (endY (v 1 p) (v 0 1) (v 0 2) 99 (v 0 0) (v 2 p)) - 1 else nI (v 4 p) - 1
def oTill (S : SS) (a : Int32) : SS × Int32 := if hasA a (S.v 0 3) then (S, tilV S.v (tN a)) else (S.bad, -2)
def oTog (S : SS) (a : Int32) : SS × Int32 := if inA a (nI 0) (nI 1) then (S, if tN a = 0 then nI (tog (ebY S.v) (S.v 0 0) 99 0 1 0 0).1 - 1 else nI (tog (ebY S.v) (S.v 0 0) 99 0 1 0 0).2 - 1) else (S.bad, -2)
abbrev shV (v : VT) (a b t : Nat) : Nat × Nat × Nat := shr (v 5) (nedF v a t) (nedF v b t) (v 0 4) 0 0 0 0 0 (0, 0, 0)
def oGifts (S : SS) (a b c e : Int32) : SS × Int32 := if (hasA a (S.v 0 3) ∧ hasA b (S.v 0 3) ∧ ¬ a = b) ∧ inA c (nI 1) (nI 60) ∧ inA e (nI 0) (nI 2) then (S, if tN e = 0 then nI (shV S.v (tN a) (tN b) (tN c)).1 - 1 else if tN e = 1 then nI (shV S.v (tN a) (tN b) (tN c)).2.1 - 1 else nI (shV S.v (tN a) (tN b) (tN c)).2.2 - 1) else (S.bad, -2)
def oDrt (S : SS) (a : Int32) : SS × Int32 := if inA a (nI 0) (nI 60) then (S, nI (drt (S.v 0 2) (lbD S.v (tN a)) 12 0 0 0) - 1) else (S.bad, -2)
theorem inR_out {a : Int32} {h : Nat} (hh : h < 2 ^ 31) (q : ¬ inR a (nI 0) (nI h)) : a.toInt < 0 ∨ (h : Int) < a.toInt := by
  by_cases h1 : a < nI 0
  · left
    rw [Int32.lt_iff_toInt_lt, nI_toInt (by omega)] at h1
    omega
  · right
    have h2 : nI h < a := by
      by_cases h3 : nI h < a
      · exact h3
      · exact absurd ⟨h1, h3⟩ q
    rw [Int32.lt_iff_toInt_lt, nI_toInt hh] at h2
    exact h2
theorem c_lookX {X : jX} {d n : Nat} {I : HI} {J : HJ} {i0 i1 : Option Nat} {Q : jPost} {v : VT} {yb : Nat} (hV : VC 1 I v) (hW : WF yb v) (hyb : yb ≤ 2 ^ 20) (hQ : ∀ I1, (∀ a, (a ≤ 25 ∨ 28 ≤ a) → I1 a = I a) → I1 26 2 = nI (tog (ebY v) (v 0 0) 99 0 1 0 0).1 - 1 → I1 26 3 = nI (tog (ebY v) (v 0 0) 99 0 1 0 0).2 - 1 → Q none n I1 J (Pg i0 i1)) : Cj X (d + 4) 0 0 mX1_lookForEnds [.ref 26, .ref 1] n I J (Pg i0 i1) Q :=
  c_lookForEnds hV hW hyb (T1 := (tog (ebY v) (v 0 0) 99 0 1 0 0).1) (T2 := (tog (ebY v) (v 0 0) 99 0 1 0 0).2) rfl (fun f => hQ _ (fun a ha => by unfold fsH; rw [ur_ne _ _ (by omega), u2_ne _ _ _ (by omega), u2_ne _ _ _ (by omega)]) (by unfold fsH; rw [ur_ne _ _ (by omega), u2_ne2 _ _ _ (by omega), u2_self]) (by unfold fsH; rw [ur_ne _ _ (by omega), u2_self]))
theorem c_searchX {X : jX} {d n : Nat} {I : HI} {J : HJ} {i0 i1 : Option Nat} {Q : jPost} {v : VT} {yb : Nat} (hV : VC 1 I v) (hW : WF yb v) (hyb : yb ≤ 2 ^ 20) {a b t : Nat} (ha : a < v 0 3) (hb : b < v 0 3) (ht : t ≤ 60) (hQ : ∀ I1, (∀ a, a ≠ 29 → I1 a = I a) → I1 29 2 = nI (shV v a b t).1 - 1 → I1 29 3 = nI (shV v a b t).2.1 - 1 → I1 29 4 = nI (shV v a b t).2.2 - 1 → Q none n I1 J (Pg i0 i1)) : Cj X (d + 9) 0 0 mX3_search [.ref 29, .ref 1, .int (nI a), .int (nI b), .int (nI t)] n I J (Pg i0 i1) Q :=
  c_search hV hW hyb ha hb ht (hQ _ (fun a ha => by unfold gH; rw [u2_ne _ _ _ ha, u2_ne _ _ _ ha, u2_ne _ _ _ ha, u2_ne _ _ _ ha, u2_ne _ _ _ ha]) (by unfold gH; rw [u2_ne2 _ _ _ (by omega), u2_ne2 _ _ _ (by omega), u2_self]) (by unfold gH; rw [u2_ne2 _ _ _ (by omega), u2_self]) (by unfold gH; rw [u2_self]))
theorem c_endOfX {X : jX} {d n : Nat} {I : HI} {J : HJ} {i0 i1 : Option Nat} {Q : jPost} {v : VT} {yb : Nat} (hV : VC 1 I v) (hW : WF yb v) (hyb : yb ≤ 2 ^ 20) {p : Nat} (hp : p < v 0 3) (hQ : Q (some (.int (tilV v p))) n I J (Pg i0 i1)) : Cj X (d + 3) 0 0 mX1_endOf [.ref 1, .int (nI p)] n I J (Pg i0 i1) Q := by
  by_cases h : v 4 p = 0
  · refine c_endOf_go hV hW hyb hp h ?_
    unfold tilV at hQ
    rw [if_pos h] at hQ
    exact hQ
  · refine c_endOf_was hV hW hyb hp h ?_
    unfold tilV at hQ
    rw [if_neg h] at hQ
    exact hQ
set_option maxHeartbeats 4000000 in
set_option maxRecDepth 100000 in
theorem f_year {X : jX} {d n : Nat} {I : HI} {J : HJ} {i0 i1 : Option Nat} {Q : jPost} {S : SS} {yb : Nat} (hC : CI S n i0 i1 I J) (hW : WF yb S.v) (hyb : yb ≤ 2 ^ 12) {a : Int32} (hQ : CP Q (oYear S a) I J) : Cj X (d + 3) 0 0 mX9_year [.ref 0, .int a] n I J (Pg i0 i1) Q := by
  refine Cj.intro rfl (Nat.le_of_ble_eq_true rfl) (L := [.ref 0, .int a, jU, jU]) rfl ?_
  have loop : ∀ (r q e ja : Nat) (v1 : VT) (I1 : HI) (T : VT × Nat), q + r = ja → ja ≤ 60 → CI (S.set v1) n i0 i1 I1 J → MF I J I1 J → WF (yb + q) v1 → yrN r v1 e = T → CP Q (S.set T.1, nI T.2) I J → Rj X (d + 3) 0 0 mX9_year Q 19 [.ref 0, .int (nI ja), .int (nI e), .int (nI q)] [] n I1 J (Pg i0 i1) := by
    intro r
    induction r with
    | zero =>
      intro q e ja v1 I1 T hqr hj hC1 hM hW1 hr hF
      refine j_iload_n dX9_year_19 rfl rfl rfl ?_
      refine j_iload_n dX9_year_20 rfl rfl rfl ?_
      refine j_icmpgeN (tgt := 40) dX9_year_21 rfl rfl (by omega) (by omega) (fun h1 => ?_) (fun h1 => by exfalso; omega)
      refine j_iload_n dX9_year_40 rfl rfl rfl ?_
      refine j_iret dX9_year_41 rfl rfl ?_
      subst hr
      exact hF _ _ _ _ _ hC1 hM
    | succ r ih =>
      intro q e ja v1 I1 T hqr hj hC1 hM hW1 hr hF
      have hV1 : VC 1 I1 v1 := hC1.v
      refine j_iload_n dX9_year_19 rfl rfl rfl ?_
      refine j_iload_n dX9_year_20 rfl rfl rfl ?_
      refine j_icmpgeN (tgt := 40) dX9_year_21 rfl rfl (by omega) (by omega) (fun h1 => by exfalso; omega) (fun h1 => ?_)
      refine j_iload_n dX9_year_24 rfl rfl rfl ?_
      refine j_aload_n dX9_year_25 rfl rfl rfl ?_
      refine j_getP (b := 1) dX9_year_26 rfl fX9_10 rfl (by decide) rfl rfl ?_
      refine j_callVw (As := []) dX9_year_29 rfl cX9_106 (by decide) rfl rfl (by decide) rfl (Nat.le_of_ble_eq_true rfl) rfl rfl (c_passYear hV1 hW1 (by omega) (fun I2 hV2 ho2 => ?_))
      show Rj _ _ _ _ _ _ 32 [.ref 0, .int (nI ja), .int (nI e), .int (nI q)] [.int (nI (endB v1 0 (v1 2) (v1 0 3))), .int (nI e)] n I2 J (Pg i0 i1)
      refine j_iorN (c := e ||| (endB v1 0 (v1 2) (v1 0 3))) dX9_year_32 rfl rfl ?_
      refine j_istore_n (L' := [.ref 0, .int (nI ja), .int (nI (e ||| (endB v1 0 (v1 2) (v1 0 3)))), .int (nI q)]) dX9_year_33 rfl rfl rfl (by decide) rfl ?_
      refine j_iincN (L' := [.ref 0, .int (nI ja), .int (nI (e ||| (endB v1 0 (v1 2) (v1 0 3)))), .int (nI (q + 1))]) dX9_year_34 rfl rfl (b := 1) rfl rfl rfl (by decide) rfl ?_
      refine j_goto (tgt := 19) dX9_year_37 rfl ?_
      exact ih (q + 1) _ ja _ _ T (by omega) hj (hC1.one hV2 ho2) (hM.trans ho2.mf) (WF_year hW1) hr hF
  refine j_iload_n dX9_year_0 rfl rfl rfl ?_
  refine j_iconst (v := nI 1) dX9_year_1 rfl rfl ?_
  refine j_bipush (v := nI 60) dX9_year_2 rfl rfl ?_
  refine j_callSw (As := [.int a, .int (nI 1), .int (nI 60)]) dX9_year_4 rfl cX9_71 rfl (by decide) rfl rfl (c_within (fun ha => ?_) (fun ha => ?_))
  · obtain ⟨ja, rfl, hal, hau⟩ := inR_nat (by decide) (by decide) ha
    show Rj _ _ _ _ _ _ 7 [.ref 0, .int (nI ja), jU, jU] [.int (nI 1)] n I J (Pg i0 i1)
    refine j_ifneN (tgt := 15) dX9_year_7 rfl rfl (by decide) (fun h1 => ?_) (fun h1 => by exfalso; omega)
    refine j_iconst (v := nI 0) dX9_year_15 rfl rfl ?_
    refine j_istore_n (L' := [.ref 0, .int (nI ja), .int (nI 0), jU]) dX9_year_16 rfl rfl rfl (by decide) rfl ?_
    refine j_iconst (v := nI 0) dX9_year_17 rfl rfl ?_
    refine j_istore_n (L' := [.ref 0, .int (nI ja), .int (nI 0), .int (nI 0)]) dX9_year_18 rfl rfl rfl (by decide) rfl ?_
    have e : oYear S (nI ja) = (S.set (yrN ja S.v 0).1, nI (yrN ja S.v 0).2) := by unfold oYear; rw [if_pos (by exact ha), tN_nI (by omega)]
    rw [e] at hQ
    exact loop ja 0 0 ja S.v I _ (by omega) (by omega) hC MF.rf hW rfl hQ
  · show Rj _ _ _ _ _ _ 7 [.ref 0, .int a, jU, jU] [.int (nI 0)] n I J (Pg i0 i1)
    refine j_ifneN (tgt := 15) dX9_year_7 rfl rfl (by decide) (fun h2 => by exfalso; omega) (fun h2 => ?_)
    refine j_aload_n dX9_year_10 rfl rfl rfl ?_
    refine j_callVw (As := []) dX9_year_11 rfl cX9_75 (by decide) rfl rfl (by decide) rfl (by decide) rfl rfl (c_bad ?_)
    show Rj _ _ _ _ _ _ 14 [.ref 0, .int a, jU, jU] [.int (-2)] n (u2 I 0 7 (I 0 7 + nI 1)) J (Pg i0 i1)
    refine j_iret dX9_year_14 rfl rfl ?_
    have e : oYear S a = (S.bad, -2) := by unfold oYear; rw [if_neg (by first | exact ha | exact fun q => ha q.1 | exact fun q => hb q.2 | exact fun q => ha q.1.1 | exact fun q => hb q.1.2.1 | exact fun q => q.1.2.2 (by assumption) | exact fun q => q.1.2.2 rfl | exact fun q => hc q.2.1 | exact fun q => he q.2.2)]
    rw [e] at hQ
    exact hQ _ _ _ _ _ hC.bad MF.sta
set_option maxHeartbeats 4000000 in
set_option maxRecDepth 100000 in
theorem f_give {X : jX} {d n : Nat} {I : HI} {J : HJ} {i0 i1 : Option Nat} {Q : jPost} {S : SS} {yb : Nat} (hC : CI S n i0 i1 I J) (hW : WF yb S.v) (hyb : yb ≤ 2 ^ 12) {a b : Int32} (hQ : CP Q (oGive S a b) I J) : Cj X (d + 4) 0 0 mX9_give [.ref 0, .int a, .int b] n I J (Pg i0 i1) Q := by
  refine Cj.intro rfl (Nat.le_of_ble_eq_true rfl) (L := [.ref 0, .int a, .int b, jU]) rfl ?_
  obtain ⟨⟨w0, w1, w2, w3, w4, w5, w6⟩, wp, wk, wc, wb⟩ := id hW
  refine j_aload_n dX9_give_0 rfl rfl rfl ?_
  refine j_getP (b := 1) dX9_give_1 rfl fX9_10 rfl (by decide) rfl rfl ?_
  refine j_iload_n dX9_give_4 rfl rfl rfl ?_
  refine j_callVw (As := [.int a]) dX9_give_5 rfl cX9_109 (by decide) rfl rfl (by decide) rfl (by decide) rfl rfl (c_hasPair hC.v (fun ha => ?_) (fun ha => ?_))
  · obtain ⟨ja, rfl, hau⟩ := hasP_nat (by omega) ha
    show Rj _ _ _ _ _ _ 8 [.ref 0, .int (nI ja), .int b, jU] [.int (nI 1)] n I J (Pg i0 i1)
    refine j_ifeqN (tgt := 22) dX9_give_8 rfl rfl (by decide) (fun h1 => by exfalso; omega) (fun h1 => ?_)
    refine j_iload_n dX9_give_11 rfl rfl rfl ?_
    refine j_bipush (v := (-60)) dX9_give_12 rfl rfl ?_
    refine j_bipush (v := nI 60) dX9_give_14 rfl rfl ?_
    refine j_callSw (As := [.int b, .int (-60), .int (nI 60)]) dX9_give_16 rfl cX9_71 rfl (by decide) rfl rfl (c_within (fun hb => ?_) (fun hb => ?_))
    · show Rj _ _ _ _ _ _ 19 [.ref 0, .int (nI ja), .int b, jU] [.int (nI 1)] n I J (Pg i0 i1)
      refine j_ifneN (tgt := 27) dX9_give_19 rfl rfl (by decide) (fun h2 => ?_) (fun h2 => by exfalso; omega)
      obtain ⟨q1, q2, q3, q4, q5⟩ := wp ja hau
      refine j_aload_n dX9_give_27 rfl rfl rfl ?_
      refine j_getP (b := 1) dX9_give_28 rfl fX9_10 rfl (by decide) rfl rfl ?_
      refine j_getP (b := 3) dX9_give_31 rfl fX9_116 rfl (by decide) rfl rfl ?_
      refine j_iload_n dX9_give_34 rfl rfl rfl ?_
      refine j_iald (j := ja) (v := nI (S.v 2 ja)) dX9_give_35 rfl rfl (by decide) rfl (by omega) (by decide) (hC.v.lv (by omega)) ?_
      refine j_istore_n (L' := [.ref 0, .int (nI ja), .int b, .int (nI (S.v 2 ja))]) dX9_give_36 rfl rfl rfl (by decide) rfl ?_
      refine j_iload_n dX9_give_37 rfl rfl rfl ?_
      refine j_ifeqN (tgt := 53) dX9_give_38 rfl rfl (by omega) (fun h3 => ?_) (fun h3 => ?_)
      · refine j_aload_n dX9_give_53 rfl rfl rfl ?_
        refine j_callVw (As := []) dX9_give_54 rfl cX9_120 (by decide) rfl rfl (by decide) rfl (by decide) rfl rfl (c_no ?_)
        show Rj _ _ _ _ _ _ 57 [.ref 0, .int (nI ja), .int b, .int (nI (S.v 2 ja))] [.int (-3)] n (u2 I 0 8 (I 0 8 + nI 1)) J (Pg i0 i1)
        refine j_iret dX9_give_57 rfl rfl ?_
        have e : oGive S (nI ja) b = (S.no, -3) := by unfold oGive; rw [if_pos (by exact ⟨ha, hb⟩), tN_nI (by omega), if_pos (by first | exact Or.inl (by assumption) | exact Or.inr hc)]
        rw [e] at hQ
        exact hQ _ _ _ _ _ hC.no MF.sta
      · refine j_iload_n dX9_give_41 rfl rfl rfl ?_
        refine j_iload_n dX9_give_42 rfl rfl rfl ?_
        refine j_iadd dX9_give_43 rfl ?_
        refine j_iconst (v := nI 1) dX9_give_44 rfl rfl ?_
        refine j_bipush (v := nI 60) dX9_give_45 rfl rfl ?_
        refine j_callSw (As := [.int ((nI (S.v 2 ja)) + b), .int (nI 1), .int (nI 60)]) dX9_give_47 rfl cX9_71 rfl (by decide) rfl rfl (c_within (fun hc => ?_) (fun hc => ?_))
        · obtain ⟨jc, hce, hcl, hcu⟩ := inR_nat (by decide) (by decide) hc
          show Rj _ _ _ _ _ _ 50 [.ref 0, .int (nI ja), .int b, .int (nI (S.v 2 ja))] [.int (nI 1)] n I J (Pg i0 i1)
          refine j_ifneN (tgt := 58) dX9_give_50 rfl rfl (by decide) (fun h4 => ?_) (fun h4 => by exfalso; omega)
          refine j_aload_n dX9_give_58 rfl rfl rfl ?_
          refine j_getP (b := 1) dX9_give_59 rfl fX9_10 rfl (by decide) rfl rfl ?_
          refine j_iload_n dX9_give_62 rfl rfl rfl ?_
          refine j_iload_n dX9_give_63 rfl rfl rfl ?_
          refine j_iload_n dX9_give_64 rfl rfl rfl ?_
          refine j_iadd dX9_give_65 rfl ?_
          rw [hce]
          refine j_callVw (As := [.int (nI ja), .int (nI jc)]) dX9_give_66 rfl cX9_123 (by decide) rfl rfl (by decide) rfl (by decide) rfl rfl (c_setLoaves hC.v w3 w6 (by omega) hau (fun I1 hV1 ho1 => ?_))
          show Rj _ _ _ _ _ _ 69 [.ref 0, .int (nI ja), .int b, .int (nI (S.v 2 ja))] [] n I1 J (Pg i0 i1)
          refine j_iload_n dX9_give_69 rfl rfl rfl ?_
          refine j_iload_n dX9_give_70 rfl rfl rfl ?_
          refine j_iadd dX9_give_71 rfl ?_
          refine j_iret dX9_give_72 rfl rfl ?_
          have e : oGive S (nI ja) b = (S.set (vGive S.v ja jc), nI (S.v 2 ja) + b) := by unfold oGive; rw [if_pos (by exact ⟨ha, hb⟩), tN_nI (show ja < 2 ^ 30 by omega), if_neg (by exact fun q => q.elim (by assumption) (fun q2 => q2 hc)), hce, tN_nI (show jc < 2 ^ 30 by omega)]
          rw [e] at hQ
          exact hQ _ _ _ _ _ (hC.one hV1 ho1) ho1.mf
        · show Rj _ _ _ _ _ _ 50 [.ref 0, .int (nI ja), .int b, .int (nI (S.v 2 ja))] [.int (nI 0)] n I J (Pg i0 i1)
          refine j_ifneN (tgt := 58) dX9_give_50 rfl rfl (by decide) (fun h5 => by exfalso; omega) (fun h5 => ?_)
          refine j_aload_n dX9_give_53 rfl rfl rfl ?_
          refine j_callVw (As := []) dX9_give_54 rfl cX9_120 (by decide) rfl rfl (by decide) rfl (by decide) rfl rfl (c_no ?_)
          show Rj _ _ _ _ _ _ 57 [.ref 0, .int (nI ja), .int b, .int (nI (S.v 2 ja))] [.int (-3)] n (u2 I 0 8 (I 0 8 + nI 1)) J (Pg i0 i1)
          refine j_iret dX9_give_57 rfl rfl ?_
          have e : oGive S (nI ja) b = (S.no, -3) := by unfold oGive; rw [if_pos (by exact ⟨ha, hb⟩), tN_nI (by omega), if_pos (by first | exact Or.inl (by assumption) | exact Or.inr hc)]
          rw [e] at hQ
          exact hQ _ _ _ _ _ hC.no MF.sta
    · show Rj _ _ _ _ _ _ 19 [.ref 0, .int (nI ja), .int b, jU] [.int (nI 0)] n I J (Pg i0 i1)
      refine j_ifneN (tgt := 27) dX9_give_19 rfl rfl (by decide) (fun h6 => by exfalso; omega) (fun h6 => ?_)
      refine j_aload_n dX9_give_22 rfl rfl rfl ?_
      refine j_callVw (As := []) dX9_give_23 rfl cX9_113 (by decide) rfl rfl (by decide) rfl (by decide) rfl rfl (c_badTen ?_)
      show Rj _ _ _ _ _ _ 26 [.ref 0, .int (nI ja), .int b, jU] [.int (-10)] n (u2 I 0 7 (I 0 7 + nI 1)) J (Pg i0 i1)
      refine j_iret dX9_give_26 rfl rfl ?_
      have e : oGive S (nI ja) b = (S.bad, -10) := by unfold oGive; rw [if_neg (by first | exact ha | exact fun q => ha q.1 | exact fun q => hb q.2 | exact fun q => ha q.1.1 | exact fun q => hb q.1.2.1 | exact fun q => q.1.2.2 (by assumption) | exact fun q => q.1.2.2 rfl | exact fun q => hc q.2.1 | exact fun q => he q.2.2)]
      rw [e] at hQ
      exact hQ _ _ _ _ _ hC.bad MF.sta
  · show Rj _ _ _ _ _ _ 8 [.ref 0, .int a, .int b, jU] [.int (nI 0)] n I J (Pg i0 i1)
    refine j_ifeqN (tgt := 22) dX9_give_8 rfl rfl (by decide) (fun h7 => ?_) (fun h7 => by exfalso; omega)
    refine j_aload_n dX9_give_22 rfl rfl rfl ?_
    refine j_callVw (As := []) dX9_give_23 rfl cX9_113 (by decide) rfl rfl (by decide) rfl (by decide) rfl rfl (c_badTen ?_)
    show Rj _ _ _ _ _ _ 26 [.ref 0, .int a, .int b, jU] [.int (-10)] n (u2 I 0 7 (I 0 7 + nI 1)) J (Pg i0 i1)
    refine j_iret dX9_give_26 rfl rfl ?_
    have e : oGive S a b = (S.bad, -10) := by unfold oGive; rw [if_neg (by first | exact ha | exact fun q => ha q.1 | exact fun q => hb q.2 | exact fun q => ha q.1.1 | exact fun q => hb q.1.2.1 | exact fun q => q.1.2.2 (by assumption) | exact fun q => q.1.2.2 rfl | exact fun q => hc q.2.1 | exact fun q => he q.2.2)]
    rw [e] at hQ
    exact hQ _ _ _ _ _ hC.bad MF.sta
set_option maxHeartbeats 4000000 in
set_option maxRecDepth 100000 in
theorem f_undo {X : jX} {d n : Nat} {I : HI} {J : HJ} {i0 i1 : Option Nat} {Q : jPost} {S : SS} {yb : Nat} (hC : CI S n i0 i1 I J) (hW : WF yb S.v) (hyb : yb ≤ 2 ^ 12) (hQ : CP Q (oUndo S ) I J) : Cj X (d + 4) 0 0 mX9_undo [.ref 0] n I J (Pg i0 i1) Q := by
  refine Cj.intro rfl (Nat.le_of_ble_eq_true rfl) (L := [.ref 0]) rfl ?_
  obtain ⟨⟨w0, w1, w2, w3, w4, w5, w6⟩, wp, wk, wc, wb⟩ := id hW
  refine j_aload_n dX9_undo_0 rfl rfl rfl ?_
  refine j_getP (b := 1) dX9_undo_1 rfl fX9_10 rfl (by decide) rfl rfl ?_
  refine j_getP (b := 10) dX9_undo_4 rfl fX9_127 rfl (by decide) rfl rfl ?_
  refine j_getIv (v := nI (S.v 0 6)) dX9_undo_7 rfl fX9_131 rfl (by decide) rfl hC.v.siz ?_
  refine j_ifneN (tgt := 18) dX9_undo_10 rfl rfl (by omega) (fun h1 => ?_) (fun h1 => ?_)
  · refine j_aload_n dX9_undo_18 rfl rfl rfl ?_
    refine j_getP (b := 1) dX9_undo_19 rfl fX9_10 rfl (by decide) rfl rfl ?_
    refine j_callVw (As := []) dX9_undo_22 rfl cX9_136 (by decide) rfl rfl (by decide) rfl (by decide) rfl rfl (c_goBack hC.v w3 w6 (by omega) (fun I1 hV1 ho1 => ?_))
    show Rj _ _ _ _ _ _ 25 [.ref 0] [] n I1 J (Pg i0 i1)
    refine j_aload_n dX9_undo_25 rfl rfl rfl ?_
    refine j_getP (b := 1) dX9_undo_26 rfl fX9_10 rfl (by decide) rfl rfl ?_
    refine j_getIv (v := nI (S.v 10 0)) dX9_undo_29 rfl fX9_139 rfl (by decide) rfl hV1.year ?_
    refine j_iret dX9_undo_32 rfl rfl ?_
    have e : oUndo S = (S.set (vPop S.v), nI (S.v 10 0)) := by unfold oUndo; rw [if_neg (by assumption)]
    rw [e] at hQ
    exact hQ _ _ _ _ _ (hC.one hV1 ho1) ho1.mf
  · refine j_aload_n dX9_undo_13 rfl rfl rfl ?_
    refine j_callVw (As := []) dX9_undo_14 rfl cX9_120 (by decide) rfl rfl (by decide) rfl (by decide) rfl rfl (c_no ?_)
    show Rj _ _ _ _ _ _ 17 [.ref 0] [.int (-3)] n (u2 I 0 8 (I 0 8 + nI 1)) J (Pg i0 i1)
    refine j_iret dX9_undo_17 rfl rfl ?_
    have e : oUndo S = (S.no, -3) := by unfold oUndo; rw [if_pos (by assumption)]
    rw [e] at hQ
    exact hQ _ _ _ _ _ hC.no MF.sta
set_option maxHeartbeats 4000000 in
set_option maxRecDepth 100000 in
theorem f_left {X : jX} {d n : Nat} {I : HI} {J : HJ} {i0 i1 : Option Nat} {Q : jPost} {S : SS} {yb : Nat} (hC : CI S n i0 i1 I J) (hW : WF yb S.v) (hyb : yb ≤ 2 ^ 12) {a b : Int32} (hQ : CP Q (oLeft S a b) I J) : Cj X (d + 4) 0 0 mX9_left [.ref 0, .int a, .int b] n I J (Pg i0 i1) Q := by
  refine Cj.intro rfl (Nat.le_of_ble_eq_true rfl) (L := [.ref 0, .int a, .int b]) rfl ?_
  obtain ⟨⟨w0, w1, w2, w3, w4, w5, w6⟩, wp, wk, wc, wb⟩ := id hW
  refine j_aload_n dX9_left_0 rfl rfl rfl ?_
  refine j_getP (b := 1) dX9_left_1 rfl fX9_10 rfl (by decide) rfl rfl ?_
  refine j_iload_n dX9_left_4 rfl rfl rfl ?_
  refine j_callVw (As := [.int a]) dX9_left_5 rfl cX9_109 (by decide) rfl rfl (by decide) rfl (by decide) rfl rfl (c_hasPair hC.v (fun ha => ?_) (fun ha => ?_))
  · obtain ⟨ja, rfl, hau⟩ := hasP_nat (by omega) ha
    show Rj _ _ _ _ _ _ 8 [.ref 0, .int (nI ja), .int b] [.int (nI 1)] n I J (Pg i0 i1)
    refine j_ifeqN (tgt := 21) dX9_left_8 rfl rfl (by decide) (fun h1 => by exfalso; omega) (fun h1 => ?_)
    refine j_iload_n dX9_left_11 rfl rfl rfl ?_
    refine j_iconst (v := nI 0) dX9_left_12 rfl rfl ?_
    refine j_bipush (v := nI 99) dX9_left_13 rfl rfl ?_
    refine j_callSw (As := [.int b, .int (nI 0), .int (nI 99)]) dX9_left_15 rfl cX9_71 rfl (by decide) rfl rfl (c_within (fun hb => ?_) (fun hb => ?_))
    · obtain ⟨jb, rfl, hbl, hbu⟩ := inR_nat (by decide) (by decide) hb
      show Rj _ _ _ _ _ _ 18 [.ref 0, .int (nI ja), .int (nI jb)] [.int (nI 1)] n I J (Pg i0 i1)
      refine j_ifneN (tgt := 26) dX9_left_18 rfl rfl (by decide) (fun h2 => ?_) (fun h2 => by exfalso; omega)
      obtain ⟨q1, q2, q3, q4, q5⟩ := wp ja hau
      refine j_aload_n dX9_left_26 rfl rfl rfl ?_
      refine j_getP (b := 1) dX9_left_27 rfl fX9_10 rfl (by decide) rfl rfl ?_
      refine j_aload_n dX9_left_30 rfl rfl rfl ?_
      refine j_getP (b := 1) dX9_left_31 rfl fX9_10 rfl (by decide) rfl rfl ?_
      refine j_getP (b := 2) dX9_left_34 rfl fX9_142 rfl (by decide) rfl rfl ?_
      refine j_iload_n dX9_left_37 rfl rfl rfl ?_
      refine j_iald (j := ja) (v := nI (S.v 1 ja)) dX9_left_38 rfl rfl (by decide) rfl (by omega) (by decide) (hC.v.kd (by omega)) ?_
      refine j_aload_n dX9_left_39 rfl rfl rfl ?_
      refine j_getP (b := 1) dX9_left_40 rfl fX9_10 rfl (by decide) rfl rfl ?_
      refine j_getP (b := 3) dX9_left_43 rfl fX9_116 rfl (by decide) rfl rfl ?_
      refine j_iload_n dX9_left_46 rfl rfl rfl ?_
      refine j_iald (j := ja) (v := nI (S.v 2 ja)) dX9_left_47 rfl rfl (by decide) rfl (by omega) (by decide) (hC.v.lv (by omega)) ?_
      refine j_iload_n dX9_left_48 rfl rfl rfl ?_
      refine j_aload_n dX9_left_49 rfl rfl rfl ?_
      refine j_getP (b := 1) dX9_left_50 rfl fX9_10 rfl (by decide) rfl rfl ?_
      refine j_getIv (v := nI (S.v 0 2)) dX9_left_53 rfl fX9_82 rfl (by decide) rfl hC.v.dry ?_
      refine j_callVw (As := [.int (nI (S.v 1 ja)), .int (nI (S.v 2 ja)), .int (nI jb), .int (nI (S.v 0 2))]) dX9_left_56 rfl cX9_157 (by decide) rfl rfl (by decide) rfl (by decide) rfl rfl (c_leftAs hC.v (by omega) (by omega) hbu (by omega) w1 w2 ?_)
      show Rj _ _ _ _ _ _ 59 [.ref 0, .int (nI ja), .int (nI jb)] [.int (nI (lft (S.v 1 ja) (S.v 0 1) (S.v 0 2) (S.v 0 0) (S.v 2 ja) jb))] n I J (Pg i0 i1)
      refine j_iret dX9_left_59 rfl rfl ?_
      have e : oLeft S (nI ja) (nI jb) = (S, nI (lft (S.v 1 ja) (S.v 0 1) (S.v 0 2) (S.v 0 0) (S.v 2 ja) jb)) := by unfold oLeft; rw [if_pos (by exact ⟨ha, hb⟩), tN_nI (show ja < 2 ^ 30 by omega), tN_nI (show jb < 2 ^ 30 by omega)]
      rw [e] at hQ
      exact hQ _ _ _ _ _ hC MF.rf
    · show Rj _ _ _ _ _ _ 18 [.ref 0, .int (nI ja), .int b] [.int (nI 0)] n I J (Pg i0 i1)
      refine j_ifneN (tgt := 26) dX9_left_18 rfl rfl (by decide) (fun h3 => by exfalso; omega) (fun h3 => ?_)
      refine j_aload_n dX9_left_21 rfl rfl rfl ?_
      refine j_callVw (As := []) dX9_left_22 rfl cX9_75 (by decide) rfl rfl (by decide) rfl (by decide) rfl rfl (c_bad ?_)
      show Rj _ _ _ _ _ _ 25 [.ref 0, .int (nI ja), .int b] [.int (-2)] n (u2 I 0 7 (I 0 7 + nI 1)) J (Pg i0 i1)
      refine j_iret dX9_left_25 rfl rfl ?_
      have e : oLeft S (nI ja) b = (S.bad, -2) := by unfold oLeft; rw [if_neg (by first | exact ha | exact fun q => ha q.1 | exact fun q => hb q.2 | exact fun q => ha q.1.1 | exact fun q => hb q.1.2.1 | exact fun q => q.1.2.2 (by assumption) | exact fun q => q.1.2.2 rfl | exact fun q => hc q.2.1 | exact fun q => he q.2.2)]
      rw [e] at hQ
      exact hQ _ _ _ _ _ hC.bad MF.sta
  · show Rj _ _ _ _ _ _ 8 [.ref 0, .int a, .int b] [.int (nI 0)] n I J (Pg i0 i1)
    refine j_ifeqN (tgt := 21) dX9_left_8 rfl rfl (by decide) (fun h4 => ?_) (fun h4 => by exfalso; omega)
    refine j_aload_n dX9_left_21 rfl rfl rfl ?_
    refine j_callVw (As := []) dX9_left_22 rfl cX9_75 (by decide) rfl rfl (by decide) rfl (by decide) rfl rfl (c_bad ?_)
    show Rj _ _ _ _ _ _ 25 [.ref 0, .int a, .int b] [.int (-2)] n (u2 I 0 7 (I 0 7 + nI 1)) J (Pg i0 i1)
    refine j_iret dX9_left_25 rfl rfl ?_
    have e : oLeft S a b = (S.bad, -2) := by unfold oLeft; rw [if_neg (by first | exact ha | exact fun q => ha q.1 | exact fun q => hb q.2 | exact fun q => ha q.1.1 | exact fun q => hb q.1.2.1 | exact fun q => q.1.2.2 (by assumption) | exact fun q => q.1.2.2 rfl | exact fun q => hc q.2.1 | exact fun q => he q.2.2)]
    rw [e] at hQ
    exact hQ _ _ _ _ _ hC.bad MF.sta
set_option maxHeartbeats 4000000 in
set_option maxRecDepth 100000 in
theorem f_till {X : jX} {d n : Nat} {I : HI} {J : HJ} {i0 i1 : Option Nat} {Q : jPost} {S : SS} {yb : Nat} (hC : CI S n i0 i1 I J) (hW : WF yb S.v) (hyb : yb ≤ 2 ^ 12) {a : Int32} (hQ : CP Q (oTill S a) I J) : Cj X (d + 4) 0 0 mX9_till [.ref 0, .int a] n I J (Pg i0 i1) Q := by
  refine Cj.intro rfl (Nat.le_of_ble_eq_true rfl) (L := [.ref 0, .int a]) rfl ?_
  obtain ⟨⟨w0, w1, w2, w3, w4, w5, w6⟩, wp, wk, wc, wb⟩ := id hW
  refine j_aload_n dX9_till_0 rfl rfl rfl ?_
  refine j_getP (b := 1) dX9_till_1 rfl fX9_10 rfl (by decide) rfl rfl ?_
  refine j_iload_n dX9_till_4 rfl rfl rfl ?_
  refine j_callVw (As := [.int a]) dX9_till_5 rfl cX9_109 (by decide) rfl rfl (by decide) rfl (by decide) rfl rfl (c_hasPair hC.v (fun ha => ?_) (fun ha => ?_))
  · obtain ⟨ja, rfl, hau⟩ := hasP_nat (by omega) ha
    show Rj _ _ _ _ _ _ 8 [.ref 0, .int (nI ja)] [.int (nI 1)] n I J (Pg i0 i1)
    refine j_ifneN (tgt := 16) dX9_till_8 rfl rfl (by decide) (fun h1 => ?_) (fun h1 => by exfalso; omega)
    refine j_aload_n dX9_till_16 rfl rfl rfl ?_
    refine j_getP (b := 1) dX9_till_17 rfl fX9_10 rfl (by decide) rfl rfl ?_
    refine j_iload_n dX9_till_20 rfl rfl rfl ?_
    refine j_callSw (As := [.ref 1, .int (nI ja)]) dX9_till_21 rfl cX9_160 rfl (by decide) rfl rfl (c_endOfX hC.v hW (by omega) hau ?_)
    show Rj _ _ _ _ _ _ 24 [.ref 0, .int (nI ja)] [.int (tilV S.v ja)] n I J (Pg i0 i1)
    refine j_iret dX9_till_24 rfl rfl ?_
    have e : oTill S (nI ja) = (S, tilV S.v ja) := by unfold oTill; rw [if_pos (by exact ha), tN_nI (show ja < 2 ^ 30 by omega)]
    rw [e] at hQ
    exact hQ _ _ _ _ _ hC MF.rf
  · show Rj _ _ _ _ _ _ 8 [.ref 0, .int a] [.int (nI 0)] n I J (Pg i0 i1)
    refine j_ifneN (tgt := 16) dX9_till_8 rfl rfl (by decide) (fun h2 => by exfalso; omega) (fun h2 => ?_)
    refine j_aload_n dX9_till_11 rfl rfl rfl ?_
    refine j_callVw (As := []) dX9_till_12 rfl cX9_75 (by decide) rfl rfl (by decide) rfl (by decide) rfl rfl (c_bad ?_)
    show Rj _ _ _ _ _ _ 15 [.ref 0, .int a] [.int (-2)] n (u2 I 0 7 (I 0 7 + nI 1)) J (Pg i0 i1)
    refine j_iret dX9_till_15 rfl rfl ?_
    have e : oTill S a = (S.bad, -2) := by unfold oTill; rw [if_neg (by first | exact ha | exact fun q => ha q.1 | exact fun q => hb q.2 | exact fun q => ha q.1.1 | exact fun q => hb q.1.2.1 | exact fun q => q.1.2.2 (by assumption) | exact fun q => q.1.2.2 rfl | exact fun q => hc q.2.1 | exact fun q => he q.2.2)]
    rw [e] at hQ
    exact hQ _ _ _ _ _ hC.bad MF.sta
