def oCnt (S : SS) (a b c : Int32) : SS × Int32 := if hasA a (S.v 0 3) ∧ inA b (nI 0) (nI 60) ∧ inA c (nI 0) (nI 60) then (if S.v 0 5 = 8 then (S.full, -4) else (S.set (vCnt S.v (tN a) (tN b) (tN c)), nI (S.v 0 5 + 1))) else (S.bad, -2)
def oForget (S : SS) : SS × Int32 := (S.set (vSet S.v 5 0), nI (S.v 0 5))
def fitV (v : VT) (p : Nat) : Nat := bitsOf (fun k => decide (fitK v p k)) 6
def oIs (S : SS) (a : Int32) : SS × Int32 := if hasA a (S.v 0 3) then (S, nI (fitV S.v (tN a))) else (S.bad, -2)
def nxV (v : VT) (p : Nat) : Int32 := if fitV v p = 0 then -1 else nI (nxt (fun m => maL (fitV v p) (fun k => lft k (v 0 1) (v 0 2) (v 0 0) (v 2 p) m) 6) 60 1 0 ((fun m => maL (fitV v p) (fun k => lft k (v 0 1) (v 0 2) (v 0 0) (v 2 p) m) 6) 0))
def oNext (S : SS) (a : Int32) : SS × Int32 := if hasA a (S.v 0 3) then (S, nxV S.v (tN a)) else (S.bad, -2)
def oSwap (S : SS) (a : Int32) : SS × Int32 := if a < -1 then (S.bad, -10) else (S, if a = -1 then nI (swI S.v (S.v 0 3) 0).length else pickL (swI S.v (S.v 0 3) 0) (tN a))
def oBack (S : SS) : SS × Int32 := (S, nI (bitsOf (fun p => decide (pbF S.v p)) (S.v 0 3)))
def crW (l : Nat) : Nat := if l % 4 = 1 then 0 else 1
def crF (l : Nat) : Nat := if l = 0 then 0 else (l - 1) % 4
def oCrusts (S : SS) (a b : Int32) : SS × Int32 := if hasA a (S.v 0 3) ∧ inA b (nI 0) (nI 1) then (S, if tN b = 0 then nI (crW (S.v 2 (tN a))) else nI (crF (S.v 2 (tN a)))) else (S.bad, -2)
def micU (v : VT) (p t c : Nat) : Nat := (10 ^ t - chN v p c t 0) / Nat.gcd (10 ^ t - chN v p c t 0) (10 ^ t)
def micL (v : VT) (p t c : Nat) : Nat := 10 ^ t / Nat.gcd (10 ^ t - chN v p c t 0) (10 ^ t)
def oMice (S : SS) (a b c : Int32) : SS × Int32 := if hasA a (S.v 0 3) ∧ inA b (nI 0) (nI 12) ∧ inA c (nI 0) (nI 10) then (S.frc (micU S.v (tN a) (tN b) (tN c)) (micL S.v (tN a) (tN b) (tN c)), nI 1) else (S.bad, -2)
def oYears (S : SS) (a b c : Int32) : SS × Int32 := if inA a (nI 0) (nI 999999) ∧ inA b (nI 0) (nI 60) ∧ inA c (nI 0) (nI 100) then (S, nI (sumN (sdY S.v (tN c) (tN b) 0 (tN a) (S.v 2)).2 (S.v 0 3))) else (S.bad, -2)
theorem CI.frc {S : SS} {n : Nat} {i0 i1 : Option Nat} {I : HI} {J J' : HJ} {a b : Nat} (h : CI S n i0 i1 I J) (ha : J' 32 0 = lN a) (hb : J' 32 1 = lN b) : CI (S.frc a b) n i0 i1 I J' := ⟨h.v, h.w, h.t, h.r, ⟨ha, hb⟩, h.k⟩
theorem nI_m1le {k : Nat} (h : k < 2 ^ 31) : (-1 : Int32) ≤ nI k := by
  rw [Int32.le_iff_toInt_le, nI_toInt h]
  have : (-1 : Int32).toInt = -1 := rfl
  omega
theorem m1_of {a : Int32} (h : ¬ a < -1) (h2 : ¬ a = -1) : ∃ k, k < 2 ^ 31 ∧ a = nI k := by
  refine nI_of (fun q => ?_)
  rw [Int32.lt_iff_toInt_lt] at h q
  have e : (-1 : Int32).toInt = -1 := rfl
  have e0 : (0 : Int32).toInt = 0 := rfl
  exact h2 (Int32.toInt_inj.mp (by omega))
set_option maxHeartbeats 4000000 in
set_option maxRecDepth 100000 in
theorem f_together {X : jX} {d n : Nat} {I : HI} {J : HJ} {i0 i1 : Option Nat} {Q : jPost} {S : SS} {yb : Nat} (hC : CI S n i0 i1 I J) (hW : WF yb S.v) (hyb : yb ≤ 2 ^ 12) {a : Int32} (hQ : CP Q (oTog S a) I J) : Cj X (d + 5) 0 0 mX9_together [.ref 0, .int a] n I J (Pg i0 i1) Q := by
  refine Cj.intro rfl (Nat.le_of_ble_eq_true rfl) (L := [.ref 0, .int a]) rfl ?_
  obtain ⟨⟨w0, w1, w2, w3, w4, w5, w6⟩, wp, wk, wc, wb⟩ := id hW
  refine j_iload_n dX9_together_0 rfl rfl rfl ?_
  refine j_iconst (v := nI 0) dX9_together_1 rfl rfl ?_
  refine j_iconst (v := nI 1) dX9_together_2 rfl rfl ?_
  refine j_callSw (As := [.int a, .int (nI 0), .int (nI 1)]) dX9_together_3 rfl cX9_71 rfl (by decide) rfl rfl (c_within (fun ha => ?_) (fun ha => ?_))
  · obtain ⟨ja, rfl, hal, hau⟩ := inR_nat (by decide) (by decide) ha
    show Rj _ _ _ _ _ _ 6 [.ref 0, .int (nI ja)] [.int (nI 1)] n I J (Pg i0 i1)
    refine j_ifneN (tgt := 14) dX9_together_6 rfl rfl (by decide) (fun h1 => ?_) (fun h1 => by exfalso; omega)
    refine j_aload_n dX9_together_14 rfl rfl rfl ?_
    refine j_getP (b := 26) dX9_together_15 rfl fX9_30 rfl (by decide) rfl rfl ?_
    refine j_aload_n dX9_together_18 rfl rfl rfl ?_
    refine j_getP (b := 1) dX9_together_19 rfl fX9_10 rfl (by decide) rfl rfl ?_
    refine j_callVw (As := [.ref 1]) dX9_together_22 rfl cX9_164 (by decide) rfl rfl (by decide) rfl (by decide) rfl rfl (c_lookX hC.v hW (by omega) (fun I1 hk1 hk2 hk3 => ?_))
    show Rj _ _ _ _ _ _ 25 [.ref 0, .int (nI ja)] [] n I1 J (Pg i0 i1)
    refine j_iload_n dX9_together_25 rfl rfl rfl ?_
    refine j_ifneN (tgt := 39) dX9_together_26 rfl rfl (by omega) (fun h2 => ?_) (fun h2 => ?_)
    · refine j_aload_n dX9_together_39 rfl rfl rfl ?_
      refine j_getP (b := 26) dX9_together_40 rfl fX9_30 rfl (by decide) rfl rfl ?_
      refine j_getIv (v := nI (tog (ebY S.v) (S.v 0 0) 99 0 1 0 0).2 - 1) dX9_together_43 rfl fX9_171 rfl (by decide) rfl hk3 ?_
      refine j_iret dX9_together_46 rfl rfl ?_
      have e : oTog S (nI ja) = (S, nI (tog (ebY S.v) (S.v 0 0) 99 0 1 0 0).2 - 1) := by unfold oTog; rw [if_pos (by exact ha), tN_nI (show ja < 2 ^ 30 by omega), if_neg (by assumption)]
      rw [e] at hQ
      exact hQ _ _ _ _ _ (hC.congr (fun a ha => hk1 a (by omega)) rfl) (MF.of (fun a h1 h2 => hk1 a (by omega)))
    · refine j_aload_n dX9_together_29 rfl rfl rfl ?_
      refine j_getP (b := 26) dX9_together_30 rfl fX9_30 rfl (by decide) rfl rfl ?_
      refine j_getIv (v := nI (tog (ebY S.v) (S.v 0 0) 99 0 1 0 0).1 - 1) dX9_together_33 rfl fX9_168 rfl (by decide) rfl hk2 ?_
      refine j_goto (tgt := 46) dX9_together_36 rfl ?_
      refine j_iret dX9_together_46 rfl rfl ?_
      have e : oTog S (nI ja) = (S, nI (tog (ebY S.v) (S.v 0 0) 99 0 1 0 0).1 - 1) := by unfold oTog; rw [if_pos (by exact ha), tN_nI (show ja < 2 ^ 30 by omega), if_pos (by assumption)]
      rw [e] at hQ
      exact hQ _ _ _ _ _ (hC.congr (fun a ha => hk1 a (by omega)) rfl) (MF.of (fun a h1 h2 => hk1 a (by omega)))
  · show Rj _ _ _ _ _ _ 6 [.ref 0, .int a] [.int (nI 0)] n I J (Pg i0 i1)
    refine j_ifneN (tgt := 14) dX9_together_6 rfl rfl (by decide) (fun h3 => by exfalso; omega) (fun h3 => ?_)
    refine j_aload_n dX9_together_9 rfl rfl rfl ?_
    refine j_callVw (As := []) dX9_together_10 rfl cX9_75 (by decide) rfl rfl (by decide) rfl (by decide) rfl rfl (c_bad ?_)
    show Rj _ _ _ _ _ _ 13 [.ref 0, .int a] [.int (-2)] n (u2 I 0 7 (I 0 7 + nI 1)) J (Pg i0 i1)
    refine j_iret dX9_together_13 rfl rfl ?_
    have e : oTog S a = (S.bad, -2) := by unfold oTog; rw [if_neg (by first | exact ha | exact fun q => ha q.1 | exact fun q => hb q.2 | exact fun q => ha q.1.1 | exact fun q => hb q.1.2.1 | exact fun q => q.1.2.2 (by assumption) | exact fun q => q.1.2.2 rfl | exact fun q => hc q.2.1 | exact fun q => he q.2.2)]
    rw [e] at hQ
    exact hQ _ _ _ _ _ hC.bad MF.sta
set_option maxHeartbeats 4000000 in
set_option maxRecDepth 100000 in
theorem f_drought {X : jX} {d n : Nat} {I : HI} {J : HJ} {i0 i1 : Option Nat} {Q : jPost} {S : SS} {yb : Nat} (hC : CI S n i0 i1 I J) (hW : WF yb S.v) (hyb : yb ≤ 2 ^ 12) {a : Int32} (hQ : CP Q (oDrt S a) I J) : Cj X (d + 5) 0 0 mX9_drought [.ref 0, .int a] n I J (Pg i0 i1) Q := by
  refine Cj.intro rfl (Nat.le_of_ble_eq_true rfl) (L := [.ref 0, .int a]) rfl ?_
  obtain ⟨⟨w0, w1, w2, w3, w4, w5, w6⟩, wp, wk, wc, wb⟩ := id hW
  refine j_iload_n dX9_drought_0 rfl rfl rfl ?_
  refine j_iconst (v := nI 0) dX9_drought_1 rfl rfl ?_
  refine j_bipush (v := nI 60) dX9_drought_2 rfl rfl ?_
  refine j_callSw (As := [.int a, .int (nI 0), .int (nI 60)]) dX9_drought_4 rfl cX9_71 rfl (by decide) rfl rfl (c_within (fun ha => ?_) (fun ha => ?_))
  · obtain ⟨ja, rfl, hal, hau⟩ := inR_nat (by decide) (by decide) ha
    show Rj _ _ _ _ _ _ 7 [.ref 0, .int (nI ja)] [.int (nI 1)] n I J (Pg i0 i1)
    refine j_ifneN (tgt := 15) dX9_drought_7 rfl rfl (by decide) (fun h1 => ?_) (fun h1 => by exfalso; omega)
    refine j_aload_n dX9_drought_15 rfl rfl rfl ?_
    refine j_getP (b := 1) dX9_drought_16 rfl fX9_10 rfl (by decide) rfl rfl ?_
    refine j_iload_n dX9_drought_19 rfl rfl rfl ?_
    refine j_callSw (As := [.ref 1, .int (nI ja)]) dX9_drought_20 rfl cX9_187 rfl (by decide) rfl rfl (c_worstDrought hC.v hW (by omega) hau rfl ?_)
    show Rj _ _ _ _ _ _ 23 [.ref 0, .int (nI ja)] [.int (nI (drt (S.v 0 2) (lbD S.v ja) 12 0 0 0) - 1)] n I J (Pg i0 i1)
    refine j_iret dX9_drought_23 rfl rfl ?_
    have e : oDrt S (nI ja) = (S, nI (drt (S.v 0 2) (lbD S.v ja) 12 0 0 0) - 1) := by unfold oDrt; rw [if_pos (by exact ha), tN_nI (show ja < 2 ^ 30 by omega)]
    rw [e] at hQ
    exact hQ _ _ _ _ _ hC MF.rf
  · show Rj _ _ _ _ _ _ 7 [.ref 0, .int a] [.int (nI 0)] n I J (Pg i0 i1)
    refine j_ifneN (tgt := 15) dX9_drought_7 rfl rfl (by decide) (fun h2 => by exfalso; omega) (fun h2 => ?_)
    refine j_aload_n dX9_drought_10 rfl rfl rfl ?_
    refine j_callVw (As := []) dX9_drought_11 rfl cX9_75 (by decide) rfl rfl (by decide) rfl (by decide) rfl rfl (c_bad ?_)
    show Rj _ _ _ _ _ _ 14 [.ref 0, .int a] [.int (-2)] n (u2 I 0 7 (I 0 7 + nI 1)) J (Pg i0 i1)
    refine j_iret dX9_drought_14 rfl rfl ?_
    have e : oDrt S a = (S.bad, -2) := by unfold oDrt; rw [if_neg (by first | exact ha | exact fun q => ha q.1 | exact fun q => hb q.2 | exact fun q => ha q.1.1 | exact fun q => hb q.1.2.1 | exact fun q => q.1.2.2 (by assumption) | exact fun q => q.1.2.2 rfl | exact fun q => hc q.2.1 | exact fun q => he q.2.2)]
    rw [e] at hQ
    exact hQ _ _ _ _ _ hC.bad MF.sta
set_option maxHeartbeats 4000000 in
set_option maxRecDepth 100000 in
theorem f_gifts {X : jX} {d n : Nat} {I : HI} {J : HJ} {i0 i1 : Option Nat} {Q : jPost} {S : SS} {yb : Nat} (hC : CI S n i0 i1 I J) (hW : WF yb S.v) (hyb : yb ≤ 2 ^ 12) {a b c e : Int32} (hQ : CP Q (oGifts S a b c e) I J) : Cj X (d + 10) 0 0 mX9_gifts [.ref 0, .int a, .int b, .int c, .int e] n I J (Pg i0 i1) Q := by
  refine Cj.intro rfl (Nat.le_of_ble_eq_true rfl) (L := [.ref 0, .int a, .int b, .int c, .int e]) rfl ?_
  obtain ⟨⟨w0, w1, w2, w3, w4, w5, w6⟩, wp, wk, wc, wb⟩ := id hW
  refine j_aload_n dX9_gifts_0 rfl rfl rfl ?_
  refine j_getP (b := 1) dX9_gifts_1 rfl fX9_10 rfl (by decide) rfl rfl ?_
  refine j_iload_n dX9_gifts_4 rfl rfl rfl ?_
  refine j_callVw (As := [.int a]) dX9_gifts_5 rfl cX9_109 (by decide) rfl rfl (by decide) rfl (by decide) rfl rfl (c_hasPair hC.v (fun ha => ?_) (fun ha => ?_))
  · obtain ⟨ja, rfl, hau⟩ := hasP_nat (by omega) ha
    show Rj _ _ _ _ _ _ 8 [.ref 0, .int (nI ja), .int b, .int c, .int e] [.int (nI 1)] n I J (Pg i0 i1)
    refine j_ifeqN (tgt := 27) dX9_gifts_8 rfl rfl (by decide) (fun h1 => by exfalso; omega) (fun h1 => ?_)
    refine j_aload_n dX9_gifts_11 rfl rfl rfl ?_
    refine j_getP (b := 1) dX9_gifts_12 rfl fX9_10 rfl (by decide) rfl rfl ?_
    refine j_iload_n dX9_gifts_15 rfl rfl rfl ?_
    refine j_callVw (As := [.int b]) dX9_gifts_16 rfl cX9_109 (by decide) rfl rfl (by decide) rfl (by decide) rfl rfl (c_hasPair hC.v (fun hb => ?_) (fun hb => ?_))
    · obtain ⟨jb, rfl, hbu⟩ := hasP_nat (by omega) hb
      show Rj _ _ _ _ _ _ 19 [.ref 0, .int (nI ja), .int (nI jb), .int c, .int e] [.int (nI 1)] n I J (Pg i0 i1)
      refine j_ifeqN (tgt := 27) dX9_gifts_19 rfl rfl (by decide) (fun h2 => by exfalso; omega) (fun h2 => ?_)
      refine j_iload_n dX9_gifts_22 rfl rfl rfl ?_
      refine j_iload_n dX9_gifts_23 rfl rfl rfl ?_
      refine j_icmpneN (tgt := 32) dX9_gifts_24 rfl rfl (by omega) (by omega) (fun h3 => ?_) (fun h3 => ?_)
      · refine j_iload_n dX9_gifts_32 rfl rfl rfl ?_
        refine j_iconst (v := nI 1) dX9_gifts_33 rfl rfl ?_
        refine j_bipush (v := nI 60) dX9_gifts_34 rfl rfl ?_
        refine j_callSw (As := [.int c, .int (nI 1), .int (nI 60)]) dX9_gifts_36 rfl cX9_71 rfl (by decide) rfl rfl (c_within (fun hc => ?_) (fun hc => ?_))
        · obtain ⟨jc, rfl, hcl, hcu⟩ := inR_nat (by decide) (by decide) hc
          show Rj _ _ _ _ _ _ 39 [.ref 0, .int (nI ja), .int (nI jb), .int (nI jc), .int e] [.int (nI 1)] n I J (Pg i0 i1)
          refine j_ifeqN (tgt := 52) dX9_gifts_39 rfl rfl (by decide) (fun h4 => by exfalso; omega) (fun h4 => ?_)
          refine j_iload dX9_gifts_42 rfl rfl ?_
          refine j_iconst (v := nI 0) dX9_gifts_44 rfl rfl ?_
          refine j_iconst (v := nI 2) dX9_gifts_45 rfl rfl ?_
          refine j_callSw (As := [.int e, .int (nI 0), .int (nI 2)]) dX9_gifts_46 rfl cX9_71 rfl (by decide) rfl rfl (c_within (fun he => ?_) (fun he => ?_))
          · obtain ⟨je, rfl, hel, heu⟩ := inR_nat (by decide) (by decide) he
            show Rj _ _ _ _ _ _ 49 [.ref 0, .int (nI ja), .int (nI jb), .int (nI jc), .int (nI je)] [.int (nI 1)] n I J (Pg i0 i1)
            refine j_ifneN (tgt := 57) dX9_gifts_49 rfl rfl (by decide) (fun h5 => ?_) (fun h5 => by exfalso; omega)
            refine j_aload_n dX9_gifts_57 rfl rfl rfl ?_
            refine j_getP (b := 29) dX9_gifts_58 rfl fX9_37 rfl (by decide) rfl rfl ?_
            refine j_aload_n dX9_gifts_61 rfl rfl rfl ?_
            refine j_getP (b := 1) dX9_gifts_62 rfl fX9_10 rfl (by decide) rfl rfl ?_
            refine j_iload_n dX9_gifts_65 rfl rfl rfl ?_
            refine j_iload_n dX9_gifts_66 rfl rfl rfl ?_
            refine j_iload_n dX9_gifts_67 rfl rfl rfl ?_
            refine j_callVw (As := [.ref 1, .int (nI ja), .int (nI jb), .int (nI jc)]) dX9_gifts_68 rfl cX9_174 (by decide) rfl rfl (by decide) rfl (by decide) rfl rfl (c_searchX hC.v hW (by omega) hau hbu hcu (fun I1 hk1 hk2 hk3 hk4 => ?_))
            show Rj _ _ _ _ _ _ 71 [.ref 0, .int (nI ja), .int (nI jb), .int (nI jc), .int (nI je)] [] n I1 J (Pg i0 i1)
            refine j_iload dX9_gifts_71 rfl rfl ?_
            refine j_ifneN (tgt := 84) dX9_gifts_73 rfl rfl (by omega) (fun h6 => ?_) (fun h6 => ?_)
            · refine j_iload dX9_gifts_84 rfl rfl ?_
              refine j_iconst (v := nI 1) dX9_gifts_86 rfl rfl ?_
              refine j_icmpneN (tgt := 100) dX9_gifts_87 rfl rfl (by omega) (by decide) (fun h7 => ?_) (fun h7 => ?_)
              · refine j_aload_n dX9_gifts_100 rfl rfl rfl ?_
                refine j_getP (b := 29) dX9_gifts_101 rfl fX9_37 rfl (by decide) rfl rfl ?_
                refine j_getIv (v := nI (shV S.v ja jb jc).2.2 - 1) dX9_gifts_104 rfl fX9_184 rfl (by decide) rfl hk4 ?_
                refine j_iret dX9_gifts_107 rfl rfl ?_
                have e : oGifts S (nI ja) (nI jb) (nI jc) (nI je) = (S, nI (shV S.v ja jb jc).2.2 - 1) := by unfold oGifts; rw [if_pos (by exact ⟨⟨ha, hb, fun q => absurd ((nI_eq (by omega) (by omega)).mp q) (by assumption)⟩, hc, he⟩), tN_nI (show je < 2 ^ 30 by omega), tN_nI (show ja < 2 ^ 30 by omega), tN_nI (show jb < 2 ^ 30 by omega), tN_nI (show jc < 2 ^ 30 by omega), if_neg (by assumption), if_neg (by assumption)]
                rw [e] at hQ
                exact hQ _ _ _ _ _ (hC.congr (fun a ha => hk1 a (by omega)) rfl) (MF.of (fun a h1 h2 => hk1 a (by omega)))
              · refine j_aload_n dX9_gifts_90 rfl rfl rfl ?_
                refine j_getP (b := 29) dX9_gifts_91 rfl fX9_37 rfl (by decide) rfl rfl ?_
                refine j_getIv (v := nI (shV S.v ja jb jc).2.1 - 1) dX9_gifts_94 rfl fX9_181 rfl (by decide) rfl hk3 ?_
                refine j_goto (tgt := 107) dX9_gifts_97 rfl ?_
                refine j_iret dX9_gifts_107 rfl rfl ?_
                have e : oGifts S (nI ja) (nI jb) (nI jc) (nI je) = (S, nI (shV S.v ja jb jc).2.1 - 1) := by unfold oGifts; rw [if_pos (by exact ⟨⟨ha, hb, fun q => absurd ((nI_eq (by omega) (by omega)).mp q) (by assumption)⟩, hc, he⟩), tN_nI (show je < 2 ^ 30 by omega), tN_nI (show ja < 2 ^ 30 by omega), tN_nI (show jb < 2 ^ 30 by omega), tN_nI (show jc < 2 ^ 30 by omega), if_neg (by assumption), if_pos (by assumption)]
                rw [e] at hQ
                exact hQ _ _ _ _ _ (hC.congr (fun a ha => hk1 a (by omega)) rfl) (MF.of (fun a h1 h2 => hk1 a (by omega)))
            · refine j_aload_n dX9_gifts_76 rfl rfl rfl ?_
              refine j_getP (b := 29) dX9_gifts_77 rfl fX9_37 rfl (by decide) rfl rfl ?_
              refine j_getIv (v := nI (shV S.v ja jb jc).1 - 1) dX9_gifts_80 rfl fX9_178 rfl (by decide) rfl hk2 ?_
              refine j_iret dX9_gifts_83 rfl rfl ?_
              have e : oGifts S (nI ja) (nI jb) (nI jc) (nI je) = (S, nI (shV S.v ja jb jc).1 - 1) := by unfold oGifts; rw [if_pos (by exact ⟨⟨ha, hb, fun q => absurd ((nI_eq (by omega) (by omega)).mp q) (by assumption)⟩, hc, he⟩), tN_nI (show je < 2 ^ 30 by omega), tN_nI (show ja < 2 ^ 30 by omega), tN_nI (show jb < 2 ^ 30 by omega), tN_nI (show jc < 2 ^ 30 by omega), if_pos (by assumption)]
              rw [e] at hQ
              exact hQ _ _ _ _ _ (hC.congr (fun a ha => hk1 a (by omega)) rfl) (MF.of (fun a h1 h2 => hk1 a (by omega)))
          · show Rj _ _ _ _ _ _ 49 [.ref 0, .int (nI ja), .int (nI jb), .int (nI jc), .int e] [.int (nI 0)] n I J (Pg i0 i1)
            refine j_ifneN (tgt := 57) dX9_gifts_49 rfl rfl (by decide) (fun h8 => by exfalso; omega) (fun h8 => ?_)
            refine j_aload_n dX9_gifts_52 rfl rfl rfl ?_
            refine j_callVw (As := []) dX9_gifts_53 rfl cX9_75 (by decide) rfl rfl (by decide) rfl (by decide) rfl rfl (c_bad ?_)
            show Rj _ _ _ _ _ _ 56 [.ref 0, .int (nI ja), .int (nI jb), .int (nI jc), .int e] [.int (-2)] n (u2 I 0 7 (I 0 7 + nI 1)) J (Pg i0 i1)
            refine j_iret dX9_gifts_56 rfl rfl ?_
            have e : oGifts S (nI ja) (nI jb) (nI jc) e = (S.bad, -2) := by unfold oGifts; rw [if_neg (by first | exact ha | exact fun q => ha q.1 | exact fun q => hb q.2 | exact fun q => ha q.1.1 | exact fun q => hb q.1.2.1 | exact fun q => q.1.2.2 (by assumption) | exact fun q => q.1.2.2 (congrArg nI (by assumption)) | exact fun q => hc q.2.1 | exact fun q => he q.2.2)]
            rw [e] at hQ
            exact hQ _ _ _ _ _ hC.bad MF.sta
        · show Rj _ _ _ _ _ _ 39 [.ref 0, .int (nI ja), .int (nI jb), .int c, .int e] [.int (nI 0)] n I J (Pg i0 i1)
          refine j_ifeqN (tgt := 52) dX9_gifts_39 rfl rfl (by decide) (fun h9 => ?_) (fun h9 => by exfalso; omega)
          refine j_aload_n dX9_gifts_52 rfl rfl rfl ?_
          refine j_callVw (As := []) dX9_gifts_53 rfl cX9_75 (by decide) rfl rfl (by decide) rfl (by decide) rfl rfl (c_bad ?_)
          show Rj _ _ _ _ _ _ 56 [.ref 0, .int (nI ja), .int (nI jb), .int c, .int e] [.int (-2)] n (u2 I 0 7 (I 0 7 + nI 1)) J (Pg i0 i1)
          refine j_iret dX9_gifts_56 rfl rfl ?_
          have e : oGifts S (nI ja) (nI jb) c e = (S.bad, -2) := by unfold oGifts; rw [if_neg (by first | exact ha | exact fun q => ha q.1 | exact fun q => hb q.2 | exact fun q => ha q.1.1 | exact fun q => hb q.1.2.1 | exact fun q => q.1.2.2 (by assumption) | exact fun q => q.1.2.2 (congrArg nI (by assumption)) | exact fun q => hc q.2.1 | exact fun q => he q.2.2)]
          rw [e] at hQ
          exact hQ _ _ _ _ _ hC.bad MF.sta
      · refine j_aload_n dX9_gifts_27 rfl rfl rfl ?_
        refine j_callVw (As := []) dX9_gifts_28 rfl cX9_75 (by decide) rfl rfl (by decide) rfl (by decide) rfl rfl (c_bad ?_)
        show Rj _ _ _ _ _ _ 31 [.ref 0, .int (nI ja), .int (nI jb), .int c, .int e] [.int (-2)] n (u2 I 0 7 (I 0 7 + nI 1)) J (Pg i0 i1)
        refine j_iret dX9_gifts_31 rfl rfl ?_
        have e : oGifts S (nI ja) (nI jb) c e = (S.bad, -2) := by unfold oGifts; rw [if_neg (by first | exact ha | exact fun q => ha q.1 | exact fun q => hb q.2 | exact fun q => ha q.1.1 | exact fun q => hb q.1.2.1 | exact fun q => q.1.2.2 (by assumption) | exact fun q => q.1.2.2 (congrArg nI (by assumption)) | exact fun q => hc q.2.1 | exact fun q => he q.2.2)]
        rw [e] at hQ
        exact hQ _ _ _ _ _ hC.bad MF.sta
    · show Rj _ _ _ _ _ _ 19 [.ref 0, .int (nI ja), .int b, .int c, .int e] [.int (nI 0)] n I J (Pg i0 i1)
      refine j_ifeqN (tgt := 27) dX9_gifts_19 rfl rfl (by decide) (fun h10 => ?_) (fun h10 => by exfalso; omega)
      refine j_aload_n dX9_gifts_27 rfl rfl rfl ?_
      refine j_callVw (As := []) dX9_gifts_28 rfl cX9_75 (by decide) rfl rfl (by decide) rfl (by decide) rfl rfl (c_bad ?_)
      show Rj _ _ _ _ _ _ 31 [.ref 0, .int (nI ja), .int b, .int c, .int e] [.int (-2)] n (u2 I 0 7 (I 0 7 + nI 1)) J (Pg i0 i1)
      refine j_iret dX9_gifts_31 rfl rfl ?_
      have e : oGifts S (nI ja) b c e = (S.bad, -2) := by unfold oGifts; rw [if_neg (by first | exact ha | exact fun q => ha q.1 | exact fun q => hb q.2 | exact fun q => ha q.1.1 | exact fun q => hb q.1.2.1 | exact fun q => q.1.2.2 (by assumption) | exact fun q => q.1.2.2 (congrArg nI (by assumption)) | exact fun q => hc q.2.1 | exact fun q => he q.2.2)]
      rw [e] at hQ
      exact hQ _ _ _ _ _ hC.bad MF.sta
  · show Rj _ _ _ _ _ _ 8 [.ref 0, .int a, .int b, .int c, .int e] [.int (nI 0)] n I J (Pg i0 i1)
    refine j_ifeqN (tgt := 27) dX9_gifts_8 rfl rfl (by decide) (fun h11 => ?_) (fun h11 => by exfalso; omega)
    refine j_aload_n dX9_gifts_27 rfl rfl rfl ?_
    refine j_callVw (As := []) dX9_gifts_28 rfl cX9_75 (by decide) rfl rfl (by decide) rfl (by decide) rfl rfl (c_bad ?_)
    show Rj _ _ _ _ _ _ 31 [.ref 0, .int a, .int b, .int c, .int e] [.int (-2)] n (u2 I 0 7 (I 0 7 + nI 1)) J (Pg i0 i1)
    refine j_iret dX9_gifts_31 rfl rfl ?_
    have e : oGifts S a b c e = (S.bad, -2) := by unfold oGifts; rw [if_neg (by first | exact ha | exact fun q => ha q.1 | exact fun q => hb q.2 | exact fun q => ha q.1.1 | exact fun q => hb q.1.2.1 | exact fun q => q.1.2.2 (by assumption) | exact fun q => q.1.2.2 (congrArg nI (by assumption)) | exact fun q => hc q.2.1 | exact fun q => he q.2.2)]
    rw [e] at hQ
    exact hQ _ _ _ _ _ hC.bad MF.sta
