theorem c_miceX {X : jX} {d n : Nat} {I : HI} {J : HJ} {i0 i1 : Option Nat} {Q : jPost} {v : VT} {yb : Nat} (hV : VC 1 I v) (hW : WF yb v) (hyb : yb ≤ 2 ^ 20) {p t c : Nat} (hp : p < v 0 3) (ht : t ≤ 12) (hc : c ≤ 10) (hQ : ∀ J1, (∀ a, a ≠ 28 → a ≠ 32 → J1 a = J a) → J1 32 0 = lN (micU v p t c) → J1 32 1 = lN (micL v p t c) → Q none n I J1 (Pg i0 i1)) : Cj X (d + 4) 0 0 mX1_chanceWithMice [.ref 26, .ref 1, .int (nI p), .int (nI t), .int (nI c), .ref 32] n I J (Pg i0 i1) Q :=
  c_chanceWithMice hV hW hyb hp ht hc (fun F => hQ _ (fun a h1 h2 => by rw [u2_ne _ _ _ h2, u2_ne _ _ _ h2, ur_ne _ _ h1]) (by rw [u2_ne2 _ _ _ (by omega), u2_self]; rfl) (by rw [u2_self]; rfl))
def cntV (S : SS) : Nat → Nat
  | 0 => S.v 0 3
  | 1 => S.v 0 4
  | 2 => S.v 0 0
  | 3 => sumN (S.v 2) (S.v 0 3)
  | 4 => S.v 0 5
  | 5 => S.v 0 6
  | _ => S.tl
def oCount (S : SS) (a : Int32) : SS × Int32 := if inA a (nI 0) (nI 6) then (S, nI (cntV S (tN a))) else (S.bad, -2)
def staV (S : SS) : Nat → Int32
  | 0 => S.r0
  | 1 => S.r1
  | _ => S.r2
def oStatus (S : SS) (a : Int32) : SS × Int32 := if inA a (nI 0) (nI 2) then (S, staV S (tN a)) else (S.bad, -1)
def oPart (S : SS) (a : Int32) : SS × Int64 := if inA a (nI 0) (nI 1) then (S, if tN a = 0 then lN S.up else lN S.lo) else (S.bad, (-2 : Int32).toInt64)
def CPL (Q : jPost) (T : SS × Int64) (I : HI) (J : HJ) : Prop := ∀ n i0 i1 I' J', CI T.1 n i0 i1 I' J' → MF I J I' J' → Q (some (.long T.2)) n I' J' (Pg i0 i1)
abbrev dgS (m x : Int64) : Int64 := lN 31 * m + x
def dgP (v : VT) : Nat → Nat → Int64 → Int64
  | 0, _, m => m
  | r + 1, p, m => dgP v r (p + 1) (dgS (dgS (dgS (dgS m (lN (v 1 p))) (lN (v 2 p))) (lN (v 3 p))) ((nI (v 4 p) - 1).toInt64))
def dgK (v : VT) : Nat → Nat → Int64 → Int64
  | 0, _, m => m
  | r + 1, p, m => dgK v r (p + 1) (dgS m (lN (v 5 p)))
def dgC (v : VT) : Nat → Nat → Int64 → Int64
  | 0, _, m => m
  | r + 1, p, m => dgC v r (p + 1) (dgS (dgS (dgS m (lN (v 6 p))) (lN (v 7 p))) (lN (v 8 p)))
def dgV (v : VT) (m : Int64) : Int64 := dgC v (v 0 5) 0 (dgK v (v 0 4) 0 (dgP v (v 0 3) 0 (dgS (dgS m (lN (v 0 1))) (lN (v 0 2)))))
def dgN (S : SS) : Nat → Nat → Int64 → Int64
  | 0, _, m => m
  | r + 1, k, m => dgN S r (k + 1) (dgS m (lN (cntV S k)))
def oDigest (S : SS) : Int64 := dgS (dgS (dgV S.v (dgN S 7 0 (lN 1049))) (lN S.up)) (lN S.lo)
theorem sumN_60 {f : Nat → Nat} : ∀ k, (∀ p, p < k → f p ≤ 60) → sumN f k ≤ 60 * k
  | 0, _ => Nat.le_refl _
  | k + 1, h => by
    have := sumN_60 k (fun p hp => h p (by omega))
    have := h k (by omega)
    simp only [sumN]
    omega
set_option maxHeartbeats 4000000 in
set_option maxRecDepth 100000 in
theorem f_mice {X : jX} {d n : Nat} {I : HI} {J : HJ} {i0 i1 : Option Nat} {Q : jPost} {S : SS} {yb : Nat} (hC : CI S n i0 i1 I J) (hW : WF yb S.v) (hyb : yb ≤ 2 ^ 12) {a b c : Int32} (hQ : CP Q (oMice S a b c) I J) : Cj X (d + 5) 0 0 mX9_mice [.ref 0, .int a, .int b, .int c] n I J (Pg i0 i1) Q := by
  refine Cj.intro rfl (Nat.le_of_ble_eq_true rfl) (L := [.ref 0, .int a, .int b, .int c]) rfl ?_
  obtain ⟨⟨w0, w1, w2, w3, w4, w5, w6⟩, wp, wk, wc, wb⟩ := id hW
  refine j_aload_n dX9_mice_0 rfl rfl rfl ?_
  refine j_getP (b := 1) dX9_mice_1 rfl fX9_10 rfl (by decide) rfl rfl ?_
  refine j_iload_n dX9_mice_4 rfl rfl rfl ?_
  refine j_callVw (As := [.int a]) dX9_mice_5 rfl cX9_109 (by decide) rfl rfl (by decide) rfl (by decide) rfl rfl (c_hasPair hC.v (fun ha => ?_) (fun ha => ?_))
  · obtain ⟨ja, rfl, hau⟩ := hasP_nat (by omega) ha
    show Rj _ _ _ _ _ _ 8 [.ref 0, .int (nI ja), .int b, .int c] [.int (nI 1)] n I J (Pg i0 i1)
    refine j_ifeqN (tgt := 31) dX9_mice_8 rfl rfl (by decide) (fun h1 => by exfalso; omega) (fun h1 => ?_)
    refine j_iload_n dX9_mice_11 rfl rfl rfl ?_
    refine j_iconst (v := nI 0) dX9_mice_12 rfl rfl ?_
    refine j_bipush (v := nI 12) dX9_mice_13 rfl rfl ?_
    refine j_callSw (As := [.int b, .int (nI 0), .int (nI 12)]) dX9_mice_15 rfl cX9_71 rfl (by decide) rfl rfl (c_within (fun hb => ?_) (fun hb => ?_))
    · obtain ⟨jb, rfl, hbl, hbu⟩ := inR_nat (by decide) (by decide) hb
      show Rj _ _ _ _ _ _ 18 [.ref 0, .int (nI ja), .int (nI jb), .int c] [.int (nI 1)] n I J (Pg i0 i1)
      refine j_ifeqN (tgt := 31) dX9_mice_18 rfl rfl (by decide) (fun h2 => by exfalso; omega) (fun h2 => ?_)
      refine j_iload_n dX9_mice_21 rfl rfl rfl ?_
      refine j_iconst (v := nI 0) dX9_mice_22 rfl rfl ?_
      refine j_bipush (v := nI 10) dX9_mice_23 rfl rfl ?_
      refine j_callSw (As := [.int c, .int (nI 0), .int (nI 10)]) dX9_mice_25 rfl cX9_71 rfl (by decide) rfl rfl (c_within (fun hc => ?_) (fun hc => ?_))
      · obtain ⟨jc, rfl, hcl, hcu⟩ := inR_nat (by decide) (by decide) hc
        show Rj _ _ _ _ _ _ 28 [.ref 0, .int (nI ja), .int (nI jb), .int (nI jc)] [.int (nI 1)] n I J (Pg i0 i1)
        refine j_ifneN (tgt := 36) dX9_mice_28 rfl rfl (by decide) (fun h3 => ?_) (fun h3 => by exfalso; omega)
        refine j_aload_n dX9_mice_36 rfl rfl rfl ?_
        refine j_getP (b := 26) dX9_mice_37 rfl fX9_30 rfl (by decide) rfl rfl ?_
        refine j_aload_n dX9_mice_40 rfl rfl rfl ?_
        refine j_getP (b := 1) dX9_mice_41 rfl fX9_10 rfl (by decide) rfl rfl ?_
        refine j_iload_n dX9_mice_44 rfl rfl rfl ?_
        refine j_iload_n dX9_mice_45 rfl rfl rfl ?_
        refine j_iload_n dX9_mice_46 rfl rfl rfl ?_
        refine j_aload_n dX9_mice_47 rfl rfl rfl ?_
        refine j_getP (b := 32) dX9_mice_48 rfl fX9_51 rfl (by decide) rfl rfl ?_
        refine j_callVw (As := [.ref 1, .int (nI ja), .int (nI jb), .int (nI jc), .ref 32]) dX9_mice_51 rfl cX9_217 (by decide) rfl rfl (by decide) rfl (by decide) rfl rfl (c_miceX hC.v hW (by omega) hau hbu hcu (fun J1 hk1 hk2 hk3 => ?_))
        show Rj _ _ _ _ _ _ 54 [.ref 0, .int (nI ja), .int (nI jb), .int (nI jc)] [] n I J1 (Pg i0 i1)
        refine j_iconst (v := nI 1) dX9_mice_54 rfl rfl ?_
        refine j_iret dX9_mice_55 rfl rfl ?_
        have e : oMice S (nI ja) (nI jb) (nI jc) = (S.frc (micU S.v ja jb jc) (micL S.v ja jb jc), nI 1) := by unfold oMice; rw [if_pos (by exact ⟨ha, hb, hc⟩), tN_nI (show ja < 2 ^ 30 by omega), tN_nI (show jb < 2 ^ 30 by omega), tN_nI (show jc < 2 ^ 30 by omega)]
        rw [e] at hQ
        exact hQ _ _ _ _ _ (hC.frc hk2 hk3) (fun a h1 h2 => ⟨rfl, hk1 a (by omega) (by omega)⟩)
      · show Rj _ _ _ _ _ _ 28 [.ref 0, .int (nI ja), .int (nI jb), .int c] [.int (nI 0)] n I J (Pg i0 i1)
        refine j_ifneN (tgt := 36) dX9_mice_28 rfl rfl (by decide) (fun h4 => by exfalso; omega) (fun h4 => ?_)
        refine j_aload_n dX9_mice_31 rfl rfl rfl ?_
        refine j_callVw (As := []) dX9_mice_32 rfl cX9_75 (by decide) rfl rfl (by decide) rfl (by decide) rfl rfl (c_bad ?_)
        show Rj _ _ _ _ _ _ 35 [.ref 0, .int (nI ja), .int (nI jb), .int c] [.int (-2)] n (u2 I 0 7 (I 0 7 + nI 1)) J (Pg i0 i1)
        refine j_iret dX9_mice_35 rfl rfl ?_
        have e : oMice S (nI ja) (nI jb) c = (S.bad, -2) := by unfold oMice; rw [if_neg (by first | exact ha | exact fun q => ha q.1 | exact fun q => hb q.2.1 | exact fun q => hc q.2.2 | exact fun q => ha q.1.1 | exact fun q => hb q.1.2.1 | exact fun q => q.1.2.2 (by assumption) | exact fun q => q.1.2.2 rfl | exact fun q => hc q.2.1 | exact fun q => he q.2.2)]
        rw [e] at hQ
        exact hQ _ _ _ _ _ hC.bad MF.sta
    · show Rj _ _ _ _ _ _ 18 [.ref 0, .int (nI ja), .int b, .int c] [.int (nI 0)] n I J (Pg i0 i1)
      refine j_ifeqN (tgt := 31) dX9_mice_18 rfl rfl (by decide) (fun h5 => ?_) (fun h5 => by exfalso; omega)
      refine j_aload_n dX9_mice_31 rfl rfl rfl ?_
      refine j_callVw (As := []) dX9_mice_32 rfl cX9_75 (by decide) rfl rfl (by decide) rfl (by decide) rfl rfl (c_bad ?_)
      show Rj _ _ _ _ _ _ 35 [.ref 0, .int (nI ja), .int b, .int c] [.int (-2)] n (u2 I 0 7 (I 0 7 + nI 1)) J (Pg i0 i1)
      refine j_iret dX9_mice_35 rfl rfl ?_
      have e : oMice S (nI ja) b c = (S.bad, -2) := by unfold oMice; rw [if_neg (by first | exact ha | exact fun q => ha q.1 | exact fun q => hb q.2.1 | exact fun q => hc q.2.2 | exact fun q => ha q.1.1 | exact fun q => hb q.1.2.1 | exact fun q => q.1.2.2 (by assumption) | exact fun q => q.1.2.2 rfl | exact fun q => hc q.2.1 | exact fun q => he q.2.2)]
      rw [e] at hQ
      exact hQ _ _ _ _ _ hC.bad MF.sta
  · show Rj _ _ _ _ _ _ 8 [.ref 0, .int a, .int b, .int c] [.int (nI 0)] n I J (Pg i0 i1)
    refine j_ifeqN (tgt := 31) dX9_mice_8 rfl rfl (by decide) (fun h6 => ?_) (fun h6 => by exfalso; omega)
    refine j_aload_n dX9_mice_31 rfl rfl rfl ?_
    refine j_callVw (As := []) dX9_mice_32 rfl cX9_75 (by decide) rfl rfl (by decide) rfl (by decide) rfl rfl (c_bad ?_)
    show Rj _ _ _ _ _ _ 35 [.ref 0, .int a, .int b, .int c] [.int (-2)] n (u2 I 0 7 (I 0 7 + nI 1)) J (Pg i0 i1)
    refine j_iret dX9_mice_35 rfl rfl ?_
    have e : oMice S a b c = (S.bad, -2) := by unfold oMice; rw [if_neg (by first | exact ha | exact fun q => ha q.1 | exact fun q => hb q.2.1 | exact fun q => hc q.2.2 | exact fun q => ha q.1.1 | exact fun q => hb q.1.2.1 | exact fun q => q.1.2.2 (by assumption) | exact fun q => q.1.2.2 rfl | exact fun q => hc q.2.1 | exact fun q => he q.2.2)]
    rw [e] at hQ
    exact hQ _ _ _ _ _ hC.bad MF.sta
set_option maxHeartbeats 4000000 in
set_option maxRecDepth 100000 in
theorem f_years {X : jX} {d n : Nat} {I : HI} {J : HJ} {i0 i1 : Option Nat} {Q : jPost} {S : SS} {yb : Nat} (hC : CI S n i0 i1 I J) (hW : WF yb S.v) (hyb : yb ≤ 2 ^ 12) {a b c : Int32} (hQ : CP Q (oYears S a b c) I J) : Cj X (d + 4) 0 0 mX9_years [.ref 0, .int a, .int b, .int c] n I J (Pg i0 i1) Q := by
  refine Cj.intro rfl (Nat.le_of_ble_eq_true rfl) (L := [.ref 0, .int a, .int b, .int c]) rfl ?_
  obtain ⟨⟨w0, w1, w2, w3, w4, w5, w6⟩, wp, wk, wc, wb⟩ := id hW
  refine j_iload_n dX9_years_0 rfl rfl rfl ?_
  refine j_iconst (v := nI 0) dX9_years_1 rfl rfl ?_
  refine j_ldc (v := nI 999999) dX9_years_2 rfl kX9_221 ?_
  refine j_callSw (As := [.int a, .int (nI 0), .int (nI 999999)]) dX9_years_4 rfl cX9_71 rfl (by decide) rfl rfl (c_within (fun ha => ?_) (fun ha => ?_))
  · obtain ⟨ja, rfl, hal, hau⟩ := inR_nat (by decide) (by decide) ha
    show Rj _ _ _ _ _ _ 7 [.ref 0, .int (nI ja), .int b, .int c] [.int (nI 1)] n I J (Pg i0 i1)
    refine j_ifeqN (tgt := 30) dX9_years_7 rfl rfl (by decide) (fun h1 => by exfalso; omega) (fun h1 => ?_)
    refine j_iload_n dX9_years_10 rfl rfl rfl ?_
    refine j_iconst (v := nI 0) dX9_years_11 rfl rfl ?_
    refine j_bipush (v := nI 60) dX9_years_12 rfl rfl ?_
    refine j_callSw (As := [.int b, .int (nI 0), .int (nI 60)]) dX9_years_14 rfl cX9_71 rfl (by decide) rfl rfl (c_within (fun hb => ?_) (fun hb => ?_))
    · obtain ⟨jb, rfl, hbl, hbu⟩ := inR_nat (by decide) (by decide) hb
      show Rj _ _ _ _ _ _ 17 [.ref 0, .int (nI ja), .int (nI jb), .int c] [.int (nI 1)] n I J (Pg i0 i1)
      refine j_ifeqN (tgt := 30) dX9_years_17 rfl rfl (by decide) (fun h2 => by exfalso; omega) (fun h2 => ?_)
      refine j_iload_n dX9_years_20 rfl rfl rfl ?_
      refine j_iconst (v := nI 0) dX9_years_21 rfl rfl ?_
      refine j_bipush (v := nI 100) dX9_years_22 rfl rfl ?_
      refine j_callSw (As := [.int c, .int (nI 0), .int (nI 100)]) dX9_years_24 rfl cX9_71 rfl (by decide) rfl rfl (c_within (fun hc => ?_) (fun hc => ?_))
      · obtain ⟨jc, rfl, hcl, hcu⟩ := inR_nat (by decide) (by decide) hc
        show Rj _ _ _ _ _ _ 27 [.ref 0, .int (nI ja), .int (nI jb), .int (nI jc)] [.int (nI 1)] n I J (Pg i0 i1)
        refine j_ifneN (tgt := 35) dX9_years_27 rfl rfl (by decide) (fun h3 => ?_) (fun h3 => by exfalso; omega)
        refine j_aload_n dX9_years_35 rfl rfl rfl ?_
        refine j_getP (b := 26) dX9_years_36 rfl fX9_30 rfl (by decide) rfl rfl ?_
        refine j_aload_n dX9_years_39 rfl rfl rfl ?_
        refine j_getP (b := 1) dX9_years_40 rfl fX9_10 rfl (by decide) rfl rfl ?_
        refine j_iload_n dX9_years_43 rfl rfl rfl ?_
        refine j_iload_n dX9_years_44 rfl rfl rfl ?_
        refine j_iload_n dX9_years_45 rfl rfl rfl ?_
        refine j_callVw (As := [.ref 1, .int (nI ja), .int (nI jb), .int (nI jc)]) dX9_years_46 rfl cX9_222 (by decide) rfl rfl (by decide) rfl (by decide) rfl rfl (c_loavesBySeed hC.v hW (by omega) hau hbu hcu rfl (fun f => ?_))
        show Rj _ _ _ _ _ _ 49 [.ref 0, .int (nI ja), .int (nI jb), .int (nI jc)] [.int (nI (sumN (sdY S.v jc jb 0 ja (S.v 2)).2 (S.v 0 3)))] n (ur I 27 f) J (Pg i0 i1)
        refine j_iret dX9_years_49 rfl rfl ?_
        have e : oYears S (nI ja) (nI jb) (nI jc) = (S, nI (sumN (sdY S.v jc jb 0 ja (S.v 2)).2 (S.v 0 3))) := by unfold oYears; rw [if_pos (by exact ⟨ha, hb, hc⟩), tN_nI (show jc < 2 ^ 30 by omega), tN_nI (show jb < 2 ^ 30 by omega), tN_nI (show ja < 2 ^ 30 by omega)]
        rw [e] at hQ
        exact hQ _ _ _ _ _ (hC.congr (fun a ha => ur_ne _ _ (by omega)) rfl) (MF.of (fun a h1 h2 => ur_ne _ _ (by omega)))
      · show Rj _ _ _ _ _ _ 27 [.ref 0, .int (nI ja), .int (nI jb), .int c] [.int (nI 0)] n I J (Pg i0 i1)
        refine j_ifneN (tgt := 35) dX9_years_27 rfl rfl (by decide) (fun h4 => by exfalso; omega) (fun h4 => ?_)
        refine j_aload_n dX9_years_30 rfl rfl rfl ?_
        refine j_callVw (As := []) dX9_years_31 rfl cX9_75 (by decide) rfl rfl (by decide) rfl (by decide) rfl rfl (c_bad ?_)
        show Rj _ _ _ _ _ _ 34 [.ref 0, .int (nI ja), .int (nI jb), .int c] [.int (-2)] n (u2 I 0 7 (I 0 7 + nI 1)) J (Pg i0 i1)
        refine j_iret dX9_years_34 rfl rfl ?_
        have e : oYears S (nI ja) (nI jb) c = (S.bad, -2) := by unfold oYears; rw [if_neg (by first | exact ha | exact fun q => ha q.1 | exact fun q => hb q.2.1 | exact fun q => hc q.2.2 | exact fun q => ha q.1.1 | exact fun q => hb q.1.2.1 | exact fun q => q.1.2.2 (by assumption) | exact fun q => q.1.2.2 rfl | exact fun q => hc q.2.1 | exact fun q => he q.2.2)]
        rw [e] at hQ
        exact hQ _ _ _ _ _ hC.bad MF.sta
    · show Rj _ _ _ _ _ _ 17 [.ref 0, .int (nI ja), .int b, .int c] [.int (nI 0)] n I J (Pg i0 i1)
      refine j_ifeqN (tgt := 30) dX9_years_17 rfl rfl (by decide) (fun h5 => ?_) (fun h5 => by exfalso; omega)
      refine j_aload_n dX9_years_30 rfl rfl rfl ?_
      refine j_callVw (As := []) dX9_years_31 rfl cX9_75 (by decide) rfl rfl (by decide) rfl (by decide) rfl rfl (c_bad ?_)
      show Rj _ _ _ _ _ _ 34 [.ref 0, .int (nI ja), .int b, .int c] [.int (-2)] n (u2 I 0 7 (I 0 7 + nI 1)) J (Pg i0 i1)
      refine j_iret dX9_years_34 rfl rfl ?_
      have e : oYears S (nI ja) b c = (S.bad, -2) := by unfold oYears; rw [if_neg (by first | exact ha | exact fun q => ha q.1 | exact fun q => hb q.2.1 | exact fun q => hc q.2.2 | exact fun q => ha q.1.1 | exact fun q => hb q.1.2.1 | exact fun q => q.1.2.2 (by assumption) | exact fun q => q.1.2.2 rfl | exact fun q => hc q.2.1 | exact fun q => he q.2.2)]
      rw [e] at hQ
      exact hQ _ _ _ _ _ hC.bad MF.sta
  · show Rj _ _ _ _ _ _ 7 [.ref 0, .int a, .int b, .int c] [.int (nI 0)] n I J (Pg i0 i1)
    refine j_ifeqN (tgt := 30) dX9_years_7 rfl rfl (by decide) (fun h6 => ?_) (fun h6 => by exfalso; omega)
    refine j_aload_n dX9_years_30 rfl rfl rfl ?_
    refine j_callVw (As := []) dX9_years_31 rfl cX9_75 (by decide) rfl rfl (by decide) rfl (by decide) rfl rfl (c_bad ?_)
    show Rj _ _ _ _ _ _ 34 [.ref 0, .int a, .int b, .int c] [.int (-2)] n (u2 I 0 7 (I 0 7 + nI 1)) J (Pg i0 i1)
    refine j_iret dX9_years_34 rfl rfl ?_
    have e : oYears S a b c = (S.bad, -2) := by unfold oYears; rw [if_neg (by first | exact ha | exact fun q => ha q.1 | exact fun q => hb q.2.1 | exact fun q => hc q.2.2 | exact fun q => ha q.1.1 | exact fun q => hb q.1.2.1 | exact fun q => q.1.2.2 (by assumption) | exact fun q => q.1.2.2 rfl | exact fun q => hc q.2.1 | exact fun q => he q.2.2)]
    rw [e] at hQ
    exact hQ _ _ _ _ _ hC.bad MF.sta
set_option maxHeartbeats 4000000 in
set_option maxRecDepth 100000 in
theorem f_part {X : jX} {d n : Nat} {I : HI} {J : HJ} {i0 i1 : Option Nat} {Q : jPost} {S : SS} {yb : Nat} (hC : CI S n i0 i1 I J) (hW : WF yb S.v) (hyb : yb ≤ 2 ^ 12) {a : Int32} (hQ : CPL Q (oPart S a) I J) : Cj X (d + 2) 0 0 mX9_part [.ref 0, .int a] n I J (Pg i0 i1) Q := by
  refine Cj.intro rfl (Nat.le_of_ble_eq_true rfl) (L := [.ref 0, .int a]) rfl ?_
  obtain ⟨⟨w0, w1, w2, w3, w4, w5, w6⟩, wp, wk, wc, wb⟩ := id hW
  refine j_iload_n dX9_part_0 rfl rfl rfl ?_
  refine j_iconst (v := nI 0) dX9_part_1 rfl rfl ?_
  refine j_iconst (v := nI 1) dX9_part_2 rfl rfl ?_
  refine j_callSw (As := [.int a, .int (nI 0), .int (nI 1)]) dX9_part_3 rfl cX9_71 rfl (by decide) rfl rfl (c_within (fun ha => ?_) (fun ha => ?_))
  · obtain ⟨ja, rfl, hal, hau⟩ := inR_nat (by decide) (by decide) ha
    show Rj _ _ _ _ _ _ 6 [.ref 0, .int (nI ja)] [.int (nI 1)] n I J (Pg i0 i1)
    refine j_ifneN (tgt := 15) dX9_part_6 rfl rfl (by decide) (fun h1 => ?_) (fun h1 => by exfalso; omega)
    refine j_iload_n dX9_part_15 rfl rfl rfl ?_
    refine j_ifneN (tgt := 29) dX9_part_16 rfl rfl (by omega) (fun h2 => ?_) (fun h2 => ?_)
    · refine j_aload_n dX9_part_29 rfl rfl rfl ?_
      refine j_getP (b := 32) dX9_part_30 rfl fX9_51 rfl (by decide) rfl rfl ?_
      refine j_getJv (v := lN S.lo) dX9_part_33 rfl fX9_230 rfl (by decide) rfl hC.f.2 ?_
      refine j_lret dX9_part_36 rfl ?_
      have e : oPart S (nI ja) = (S, lN S.lo) := by unfold oPart; rw [if_pos (by exact ha), tN_nI (show ja < 2 ^ 30 by omega), if_neg (by assumption)]
      rw [e] at hQ
      exact hQ _ _ _ _ _ hC MF.rf
    · refine j_aload_n dX9_part_19 rfl rfl rfl ?_
      refine j_getP (b := 32) dX9_part_20 rfl fX9_51 rfl (by decide) rfl rfl ?_
      refine j_getJv (v := lN S.up) dX9_part_23 rfl fX9_226 rfl (by decide) rfl hC.f.1 ?_
      refine j_goto (tgt := 36) dX9_part_26 rfl ?_
      refine j_lret dX9_part_36 rfl ?_
      have e : oPart S (nI ja) = (S, lN S.up) := by unfold oPart; rw [if_pos (by exact ha), tN_nI (show ja < 2 ^ 30 by omega), if_pos (by assumption)]
      rw [e] at hQ
      exact hQ _ _ _ _ _ hC MF.rf
  · show Rj _ _ _ _ _ _ 6 [.ref 0, .int a] [.int (nI 0)] n I J (Pg i0 i1)
    refine j_ifneN (tgt := 15) dX9_part_6 rfl rfl (by decide) (fun h3 => by exfalso; omega) (fun h3 => ?_)
    refine j_aload_n dX9_part_9 rfl rfl rfl ?_
    refine j_callVw (As := []) dX9_part_10 rfl cX9_75 (by decide) rfl rfl (by decide) rfl (by decide) rfl rfl (c_bad ?_)
    show Rj _ _ _ _ _ _ 13 [.ref 0, .int a] [.int (-2)] n (u2 I 0 7 (I 0 7 + nI 1)) J (Pg i0 i1)
    refine j_i2l dX9_part_13 rfl ?_
    refine j_lret dX9_part_14 rfl ?_
    have e : oPart S a = (S.bad, (-2 : Int32).toInt64) := by unfold oPart; rw [if_neg (by first | exact ha | exact fun q => ha q.1 | exact fun q => hb q.2 | exact fun q => ha q.1.1 | exact fun q => hb q.1.2.1 | exact fun q => q.1.2.2 (by assumption) | exact fun q => q.1.2.2 rfl | exact fun q => hc q.2.1 | exact fun q => he q.2.2)]
    rw [e] at hQ
    exact hQ _ _ _ _ _ hC.bad MF.sta
set_option maxHeartbeats 4000000 in
set_option maxRecDepth 100000 in
theorem f_status {X : jX} {d n : Nat} {I : HI} {J : HJ} {i0 i1 : Option Nat} {Q : jPost} {S : SS} {yb : Nat} (hC : CI S n i0 i1 I J) (hW : WF yb S.v) (hyb : yb ≤ 2 ^ 12) {a : Int32} (hQ : CP Q (oStatus S a) I J) : Cj X (d + 1) 0 0 mX9_status [.ref 0, .int a] n I J (Pg i0 i1) Q := by
  refine Cj.intro rfl (Nat.le_of_ble_eq_true rfl) (L := [.ref 0, .int a]) rfl ?_
  by_cases ha : inR a (nI 0) (nI 2)
  · obtain ⟨ja, rfl, hal, hau⟩ := inR_nat (by decide) (by decide) ha
    refine j_iload_n dX9_status_0 rfl rfl rfl ?_
    rcases (show ja = 0 ∨ ja = 1 ∨ ja = 2 by omega) with rfl | rfl | rfl
    · refine j_tabN (a := 0) (k := 0) (off := 27) (tgt := 28) dX9_status_1 (by decide) rfl (by decide) (by decide) rfl rfl ?_
      refine j_aload_n dX9_status_28 rfl rfl rfl ?_
      refine j_getIv (v := S.r0) dX9_status_29 rfl fX9_55 rfl (by decide) rfl hC.r.1 ?_
      refine j_iret dX9_status_32 rfl rfl ?_
      have e : oStatus S (nI 0) = (S, S.r0) := by unfold oStatus; rw [if_pos (by exact ha)]; rfl
      rw [e] at hQ
      exact hQ _ _ _ _ _ hC MF.rf
    · refine j_tabN (a := 1) (k := 0) (off := 32) (tgt := 33) dX9_status_1 (by decide) rfl (by decide) (by decide) rfl rfl ?_
      refine j_aload_n dX9_status_33 rfl rfl rfl ?_
      refine j_getIv (v := S.r1) dX9_status_34 rfl fX9_59 rfl (by decide) rfl hC.r.2.1 ?_
      refine j_iret dX9_status_37 rfl rfl ?_
      have e : oStatus S (nI 1) = (S, S.r1) := by unfold oStatus; rw [if_pos (by exact ha)]; rfl
      rw [e] at hQ
      exact hQ _ _ _ _ _ hC MF.rf
    · refine j_tabN (a := 2) (k := 0) (off := 37) (tgt := 38) dX9_status_1 (by decide) rfl (by decide) (by decide) rfl rfl ?_
      refine j_aload_n dX9_status_38 rfl rfl rfl ?_
      refine j_getIv (v := S.r2) dX9_status_39 rfl fX9_62 rfl (by decide) rfl hC.r.2.2 ?_
      refine j_iret dX9_status_42 rfl rfl ?_
      have e : oStatus S (nI 2) = (S, S.r2) := by unfold oStatus; rw [if_pos (by exact ha)]; rfl
      rw [e] at hQ
      exact hQ _ _ _ _ _ hC MF.rf
  · skip
    refine j_iload_n dX9_status_0 rfl rfl rfl ?_
    refine j_tabOut (tgt := 43) dX9_status_1 (inR_out (by decide) ha) rfl ?_
    refine j_aload_n dX9_status_43 rfl rfl rfl ?_
    refine j_dup dX9_status_44 rfl rfl ?_
    refine j_getIv (v := I 0 7) dX9_status_45 rfl fX9_55 rfl (by decide) rfl rfl ?_
    refine j_iconst (v := nI 1) dX9_status_48 rfl rfl ?_
    refine j_iadd dX9_status_49 rfl ?_
    refine j_putI dX9_status_50 rfl fX9_55 rfl (by decide) rfl rfl ?_
    refine j_iconst (v := (-1)) dX9_status_53 rfl rfl ?_
    refine j_iret dX9_status_54 rfl rfl ?_
    have e : oStatus S a = (S.bad, -1) := by unfold oStatus; rw [if_neg (by exact ha)]
    rw [e] at hQ
    exact hQ _ _ _ _ _ hC.bad MF.sta
set_option maxHeartbeats 4000000 in
set_option maxRecDepth 100000 in
theorem c_count {X : jX} {d n : Nat} {I : HI} {J : HJ} {i0 i1 : Option Nat} {Q : jPost} {S : SS} {yb : Nat} (hC : CI S n i0 i1 I J) (hW : WF yb S.v) (hyb : yb ≤ 2 ^ 12) {k : Nat} (hk : k ≤ 6) (hQ : Q (some (.int (nI (cntV S k)))) n I J (Pg i0 i1)) : Cj X (d + 2) 0 0 mX9_count [.ref 0, .int (nI k)] n I J (Pg i0 i1) Q := by
  refine Cj.intro rfl (Nat.le_of_ble_eq_true rfl) (L := [.ref 0, .int (nI k)]) rfl ?_
  refine j_iload_n dX9_count_0 rfl rfl rfl ?_
  rcases (show k = 0 ∨ k = 1 ∨ k = 2 ∨ k = 3 ∨ k = 4 ∨ k = 5 ∨ k = 6 by omega) with rfl | rfl | rfl | rfl | rfl | rfl | rfl
  · refine j_tabN (a := 0) (k := 0) (off := 43) (tgt := 44) dX9_count_1 (by decide) rfl (by decide) (by decide) rfl rfl ?_
    refine j_aload_n dX9_count_44 rfl rfl rfl ?_
    refine j_getP (b := 1) dX9_count_45 rfl fX9_10 rfl (by decide) rfl rfl ?_
    refine j_getIv (v := nI (S.v 0 3)) dX9_count_48 rfl fX9_65 rfl (by decide) rfl hC.v.pairs ?_
    refine j_iret dX9_count_51 rfl rfl ?_
    exact hQ
  · refine j_tabN (a := 1) (k := 0) (off := 51) (tgt := 52) dX9_count_1 (by decide) rfl (by decide) (by decide) rfl rfl ?_
    refine j_aload_n dX9_count_52 rfl rfl rfl ?_
    refine j_getP (b := 1) dX9_count_53 rfl fX9_10 rfl (by decide) rfl rfl ?_
    refine j_getIv (v := nI (S.v 0 4)) dX9_count_56 rfl fX9_236 rfl (by decide) rfl hC.v.kin ?_
    refine j_iret dX9_count_59 rfl rfl ?_
    exact hQ
  · refine j_tabN (a := 2) (k := 0) (off := 59) (tgt := 60) dX9_count_1 (by decide) rfl (by decide) (by decide) rfl rfl ?_
    refine j_aload_n dX9_count_60 rfl rfl rfl ?_
    refine j_getP (b := 1) dX9_count_61 rfl fX9_10 rfl (by decide) rfl rfl ?_
    refine j_getIv (v := nI (S.v 0 0)) dX9_count_64 rfl fX9_139 rfl (by decide) rfl hC.v.year ?_
    refine j_iret dX9_count_67 rfl rfl ?_
    exact hQ
  · refine j_tabN (a := 3) (k := 0) (off := 67) (tgt := 68) dX9_count_1 (by decide) rfl (by decide) (by decide) rfl rfl ?_
    refine j_aload_n dX9_count_68 rfl rfl rfl ?_
    refine j_getP (b := 1) dX9_count_69 rfl fX9_10 rfl (by decide) rfl rfl ?_
    refine j_callVw (As := []) dX9_count_72 rfl cX9_239 (by decide) rfl rfl (by decide) rfl (by decide) rfl rfl (c_allLoaves hC.v hW (by omega) ?_)
    show Rj _ _ _ _ _ _ 75 [.ref 0, .int (nI 3)] [.int (nI (sumN (S.v 2) (S.v 0 3)))] n I J (Pg i0 i1)
    refine j_iret dX9_count_75 rfl rfl ?_
    exact hQ
  · refine j_tabN (a := 4) (k := 0) (off := 75) (tgt := 76) dX9_count_1 (by decide) rfl (by decide) (by decide) rfl rfl ?_
    refine j_aload_n dX9_count_76 rfl rfl rfl ?_
    refine j_getP (b := 1) dX9_count_77 rfl fX9_10 rfl (by decide) rfl rfl ?_
    refine j_getIv (v := nI (S.v 0 5)) dX9_count_80 rfl fX9_194 rfl (by decide) rfl hC.v.cnt ?_
    refine j_iret dX9_count_83 rfl rfl ?_
    exact hQ
  · refine j_tabN (a := 5) (k := 0) (off := 83) (tgt := 84) dX9_count_1 (by decide) rfl (by decide) (by decide) rfl rfl ?_
    refine j_aload_n dX9_count_84 rfl rfl rfl ?_
    refine j_getP (b := 1) dX9_count_85 rfl fX9_10 rfl (by decide) rfl rfl ?_
    refine j_getP (b := 10) dX9_count_88 rfl fX9_127 rfl (by decide) rfl rfl ?_
    refine j_getIv (v := nI (S.v 0 6)) dX9_count_91 rfl fX9_131 rfl (by decide) rfl hC.v.siz ?_
    refine j_iret dX9_count_94 rfl rfl ?_
    exact hQ
  · refine j_tabN (a := 6) (k := 0) (off := 94) (tgt := 95) dX9_count_1 (by decide) rfl (by decide) (by decide) rfl rfl ?_
    refine j_aload_n dX9_count_95 rfl rfl rfl ?_
    refine j_getP (b := 13) dX9_count_96 rfl fX9_23 rfl (by decide) rfl rfl ?_
    refine j_getIv (v := nI S.tl) dX9_count_99 rfl fX9_242 rfl (by decide) rfl hC.t.1 ?_
    refine j_iret dX9_count_102 rfl rfl ?_
    exact hQ
set_option maxHeartbeats 4000000 in
set_option maxRecDepth 100000 in
theorem f_count {X : jX} {d n : Nat} {I : HI} {J : HJ} {i0 i1 : Option Nat} {Q : jPost} {S : SS} {yb : Nat} (hC : CI S n i0 i1 I J) (hW : WF yb S.v) (hyb : yb ≤ 2 ^ 12) {a : Int32} (hQ : CP Q (oCount S a) I J) : Cj X (d + 2) 0 0 mX9_count [.ref 0, .int a] n I J (Pg i0 i1) Q := by
  by_cases ha : inR a (nI 0) (nI 6)
  · obtain ⟨ja, rfl, hal, hau⟩ := inR_nat (by decide) (by decide) ha
    have e : oCount S (nI ja) = (S, nI (cntV S ja)) := by unfold oCount; rw [if_pos (by exact ha), tN_nI (by omega)]
    rw [e] at hQ
    exact c_count hC hW hyb hau (hQ _ _ _ _ _ hC MF.rf)
  · refine Cj.intro rfl (Nat.le_of_ble_eq_true rfl) (L := [.ref 0, .int a]) rfl ?_
    refine j_iload_n dX9_count_0 rfl rfl rfl ?_
    refine j_tabOut (tgt := 103) dX9_count_1 (inR_out (by decide) ha) rfl ?_
    refine j_aload_n dX9_count_103 rfl rfl rfl ?_
    refine j_callVw (As := []) dX9_count_104 rfl cX9_75 (by decide) rfl rfl (by decide) rfl (by decide) rfl rfl (c_bad ?_)
    show Rj _ _ _ _ _ _ 107 [.ref 0, .int a] [.int (-2)] n (u2 I 0 7 (I 0 7 + nI 1)) J (Pg i0 i1)
    refine j_iret dX9_count_107 rfl rfl ?_
    have e : oCount S a = (S.bad, -2) := by unfold oCount; rw [if_neg (by exact ha)]
    rw [e] at hQ
    exact hQ _ _ _ _ _ hC.bad MF.sta
set_option maxHeartbeats 4000000 in
set_option maxRecDepth 100000 in
theorem c_digestOn {X : jX} {d n : Nat} {I : HI} {J : HJ} {i0 i1 : Option Nat} {Q : jPost} {v : VT} {yb : Nat} (hV : VC 1 I v) (hW : WF yb v) (hyb : yb ≤ 2 ^ 12) {m0 T : Int64} (hT : dgV v m0 = T) (hQ : Q (some (.long T)) n I J (Pg i0 i1)) : Cj X d 0 0 mX8_digestOn [.ref 1, .long m0] n I J (Pg i0 i1) Q := by
  refine Cj.intro rfl (Nat.le_of_ble_eq_true rfl) (L := [.ref 1, .long m0, jU, jU, jU, jU]) rfl ?_
  obtain ⟨⟨w0, w1, w2, w3, w4, w5, w6⟩, wp, wk, wc, wb⟩ := id hW
  have loop3 : ∀ (r p : Nat) (mm : Int64), p + r = v 0 5 → dgC v r p mm = T → Rj X d 0 0 mX8_digestOn Q 138 [.ref 1, .long m0, jU, .long mm, jU, .int (nI p)] [] n I J (Pg i0 i1) := by
    intro r
    induction r with
    | zero =>
      intro p mm hpr hr
      refine j_iload dX8_digestOn_138 rfl rfl ?_
      refine j_aload_n dX8_digestOn_140 rfl rfl rfl ?_
      refine j_getIv (v := nI (v 0 5)) dX8_digestOn_141 rfl fX8_27 rfl (by decide) rfl hV.cnt ?_
      refine j_icmpgeN (tgt := 198) dX8_digestOn_144 rfl rfl (by omega) (by omega) (fun h1 => ?_) (fun h1 => by exfalso; omega)
      refine j_lload_n dX8_digestOn_198 rfl rfl rfl ?_
      refine j_lret dX8_digestOn_199 rfl ?_
      have hr : mm = T := hr
      rw [hr]
      exact hQ
    | succ r ih =>
      intro p mm hpr hr
      obtain ⟨c1, c2, c3⟩ := wc p (by omega)
      refine j_iload dX8_digestOn_138 rfl rfl ?_
      refine j_aload_n dX8_digestOn_140 rfl rfl rfl ?_
      refine j_getIv (v := nI (v 0 5)) dX8_digestOn_141 rfl fX8_27 rfl (by decide) rfl hV.cnt ?_
      refine j_icmpgeN (tgt := 198) dX8_digestOn_144 rfl rfl (by omega) (by omega) (fun h1 => by exfalso; omega) (fun h1 => ?_)
      refine j_ldc2 (v := lN 31) dX8_digestOn_147 rfl kX8_89 ?_
      refine j_lload_n dX8_digestOn_150 rfl rfl rfl ?_
      refine j_lmul dX8_digestOn_151 rfl ?_
      refine j_aload_n dX8_digestOn_152 rfl rfl rfl ?_
      refine j_getP (b := 7) dX8_digestOn_153 rfl fX8_46 rfl (by decide) rfl rfl ?_
      refine j_iload dX8_digestOn_156 rfl rfl ?_
      refine j_iald (j := p) (v := nI (v 6 p)) dX8_digestOn_158 rfl rfl (by decide) rfl (by omega) (by decide) (hV.cp (by omega)) ?_
      refine j_i2lN dX8_digestOn_159 rfl (by omega) ?_
      refine j_ladd dX8_digestOn_160 rfl ?_
      refine j_lstore_n (L' := [.ref 1, .long m0, jU, .long (((lN 31) * mm) + (lN (v 6 p))), jU, .int (nI p)]) dX8_digestOn_161 rfl rfl rfl (by decide) rfl ?_
      refine j_ldc2 (v := lN 31) dX8_digestOn_162 rfl kX8_89 ?_
      refine j_lload_n dX8_digestOn_165 rfl rfl rfl ?_
      refine j_lmul dX8_digestOn_166 rfl ?_
      refine j_aload_n dX8_digestOn_167 rfl rfl rfl ?_
      refine j_getP (b := 8) dX8_digestOn_168 rfl fX8_49 rfl (by decide) rfl rfl ?_
      refine j_iload dX8_digestOn_171 rfl rfl ?_
      refine j_iald (j := p) (v := nI (v 7 p)) dX8_digestOn_173 rfl rfl (by decide) rfl (by omega) (by decide) (hV.cm (by omega)) ?_
      refine j_i2lN dX8_digestOn_174 rfl (by omega) ?_
      refine j_ladd dX8_digestOn_175 rfl ?_
      refine j_lstore_n (L' := [.ref 1, .long m0, jU, .long (((lN 31) * (((lN 31) * mm) + (lN (v 6 p)))) + (lN (v 7 p))), jU, .int (nI p)]) dX8_digestOn_176 rfl rfl rfl (by decide) rfl ?_
      refine j_ldc2 (v := lN 31) dX8_digestOn_177 rfl kX8_89 ?_
      refine j_lload_n dX8_digestOn_180 rfl rfl rfl ?_
      refine j_lmul dX8_digestOn_181 rfl ?_
      refine j_aload_n dX8_digestOn_182 rfl rfl rfl ?_
      refine j_getP (b := 9) dX8_digestOn_183 rfl fX8_52 rfl (by decide) rfl rfl ?_
      refine j_iload dX8_digestOn_186 rfl rfl ?_
      refine j_iald (j := p) (v := nI (v 8 p)) dX8_digestOn_188 rfl rfl (by decide) rfl (by omega) (by decide) (hV.cv (by omega)) ?_
      refine j_i2lN dX8_digestOn_189 rfl (by omega) ?_
      refine j_ladd dX8_digestOn_190 rfl ?_
      refine j_lstore_n (L' := [.ref 1, .long m0, jU, .long (((lN 31) * (((lN 31) * (((lN 31) * mm) + (lN (v 6 p)))) + (lN (v 7 p)))) + (lN (v 8 p))), jU, .int (nI p)]) dX8_digestOn_191 rfl rfl rfl (by decide) rfl ?_
      refine j_iincN (L' := [.ref 1, .long m0, jU, .long (((lN 31) * (((lN 31) * (((lN 31) * mm) + (lN (v 6 p)))) + (lN (v 7 p)))) + (lN (v 8 p))), jU, .int (nI (p + 1))]) dX8_digestOn_192 rfl rfl (b := 1) rfl rfl rfl (by decide) rfl ?_
      refine j_goto (tgt := 138) dX8_digestOn_195 rfl ?_
      exact ih (p + 1) _ (by omega) hr
  have loop2 : ∀ (r p : Nat) (mm : Int64), p + r = v 0 4 → dgC v (v 0 5) 0 (dgK v r p mm) = T → Rj X d 0 0 mX8_digestOn Q 105 [.ref 1, .long m0, jU, .long mm, jU, .int (nI p)] [] n I J (Pg i0 i1) := by
    intro r
    induction r with
    | zero =>
      intro p mm hpr hr
      refine j_iload dX8_digestOn_105 rfl rfl ?_
      refine j_aload_n dX8_digestOn_107 rfl rfl rfl ?_
      refine j_getIv (v := nI (v 0 4)) dX8_digestOn_108 rfl fX8_24 rfl (by decide) rfl hV.kin ?_
      refine j_icmpgeN (tgt := 135) dX8_digestOn_111 rfl rfl (by omega) (by omega) (fun h1 => ?_) (fun h1 => by exfalso; omega)
      refine j_iconst (v := nI 0) dX8_digestOn_135 rfl rfl ?_
      refine j_istore (L' := [.ref 1, .long m0, jU, .long mm, jU, .int (nI 0)]) dX8_digestOn_136 rfl rfl (by decide) rfl ?_
      exact loop3 (v 0 5) 0 _ (by omega) hr
    | succ r ih =>
      intro p mm hpr hr
      have k1 := (wk p (by omega)).2
      refine j_iload dX8_digestOn_105 rfl rfl ?_
      refine j_aload_n dX8_digestOn_107 rfl rfl rfl ?_
      refine j_getIv (v := nI (v 0 4)) dX8_digestOn_108 rfl fX8_24 rfl (by decide) rfl hV.kin ?_
      refine j_icmpgeN (tgt := 135) dX8_digestOn_111 rfl rfl (by omega) (by omega) (fun h1 => by exfalso; omega) (fun h1 => ?_)
      refine j_ldc2 (v := lN 31) dX8_digestOn_114 rfl kX8_89 ?_
      refine j_lload_n dX8_digestOn_117 rfl rfl rfl ?_
      refine j_lmul dX8_digestOn_118 rfl ?_
      refine j_aload_n dX8_digestOn_119 rfl rfl rfl ?_
      refine j_getP (b := 6) dX8_digestOn_120 rfl fX8_43 rfl (by decide) rfl rfl ?_
      refine j_iload dX8_digestOn_123 rfl rfl ?_
      refine j_iald (j := p) (v := nI (v 5 p)) dX8_digestOn_125 rfl rfl (by decide) rfl (by omega) (by decide) (hV.fl (by omega)) ?_
      refine j_i2lN dX8_digestOn_126 rfl (by omega) ?_
      refine j_ladd dX8_digestOn_127 rfl ?_
      refine j_lstore_n (L' := [.ref 1, .long m0, jU, .long (((lN 31) * mm) + (lN (v 5 p))), jU, .int (nI p)]) dX8_digestOn_128 rfl rfl rfl (by decide) rfl ?_
      refine j_iincN (L' := [.ref 1, .long m0, jU, .long (((lN 31) * mm) + (lN (v 5 p))), jU, .int (nI (p + 1))]) dX8_digestOn_129 rfl rfl (b := 1) rfl rfl rfl (by decide) rfl ?_
      refine j_goto (tgt := 105) dX8_digestOn_132 rfl ?_
      exact ih (p + 1) _ (by omega) hr
  have loop1 : ∀ (r p : Nat) (mm : Int64), p + r = v 0 3 → dgC v (v 0 5) 0 (dgK v (v 0 4) 0 (dgP v r p mm)) = T → Rj X d 0 0 mX8_digestOn Q 27 [.ref 1, .long m0, jU, .long mm, jU, .int (nI p)] [] n I J (Pg i0 i1) := by
    intro r
    induction r with
    | zero =>
      intro p mm hpr hr
      refine j_iload dX8_digestOn_27 rfl rfl ?_
      refine j_aload_n dX8_digestOn_29 rfl rfl rfl ?_
      refine j_getIv (v := nI (v 0 3)) dX8_digestOn_30 rfl fX8_21 rfl (by decide) rfl hV.pairs ?_
      refine j_icmpgeN (tgt := 102) dX8_digestOn_33 rfl rfl (by omega) (by omega) (fun h1 => ?_) (fun h1 => by exfalso; omega)
      refine j_iconst (v := nI 0) dX8_digestOn_102 rfl rfl ?_
      refine j_istore (L' := [.ref 1, .long m0, jU, .long mm, jU, .int (nI 0)]) dX8_digestOn_103 rfl rfl (by decide) rfl ?_
      exact loop2 (v 0 4) 0 _ (by omega) hr
    | succ r ih =>
      intro p mm hpr hr
      obtain ⟨q1, q2, q3, q4, q5⟩ := wp p (by omega)
      refine j_iload dX8_digestOn_27 rfl rfl ?_
      refine j_aload_n dX8_digestOn_29 rfl rfl rfl ?_
      refine j_getIv (v := nI (v 0 3)) dX8_digestOn_30 rfl fX8_21 rfl (by decide) rfl hV.pairs ?_
      refine j_icmpgeN (tgt := 102) dX8_digestOn_33 rfl rfl (by omega) (by omega) (fun h1 => by exfalso; omega) (fun h1 => ?_)
      refine j_ldc2 (v := lN 31) dX8_digestOn_36 rfl kX8_89 ?_
      refine j_lload_n dX8_digestOn_39 rfl rfl rfl ?_
      refine j_lmul dX8_digestOn_40 rfl ?_
      refine j_aload_n dX8_digestOn_41 rfl rfl rfl ?_
      refine j_getP (b := 2) dX8_digestOn_42 rfl fX8_30 rfl (by decide) rfl rfl ?_
      refine j_iload dX8_digestOn_45 rfl rfl ?_
      refine j_iald (j := p) (v := nI (v 1 p)) dX8_digestOn_47 rfl rfl (by decide) rfl (by omega) (by decide) (hV.kd (by omega)) ?_
      refine j_i2lN dX8_digestOn_48 rfl (by omega) ?_
      refine j_ladd dX8_digestOn_49 rfl ?_
      refine j_lstore_n (L' := [.ref 1, .long m0, jU, .long (((lN 31) * mm) + (lN (v 1 p))), jU, .int (nI p)]) dX8_digestOn_50 rfl rfl rfl (by decide) rfl ?_
      refine j_ldc2 (v := lN 31) dX8_digestOn_51 rfl kX8_89 ?_
      refine j_lload_n dX8_digestOn_54 rfl rfl rfl ?_
      refine j_lmul dX8_digestOn_55 rfl ?_
      refine j_aload_n dX8_digestOn_56 rfl rfl rfl ?_
      refine j_getP (b := 3) dX8_digestOn_57 rfl fX8_34 rfl (by decide) rfl rfl ?_
      refine j_iload dX8_digestOn_60 rfl rfl ?_
      refine j_iald (j := p) (v := nI (v 2 p)) dX8_digestOn_62 rfl rfl (by decide) rfl (by omega) (by decide) (hV.lv (by omega)) ?_
      refine j_i2lN dX8_digestOn_63 rfl (by omega) ?_
      refine j_ladd dX8_digestOn_64 rfl ?_
      refine j_lstore_n (L' := [.ref 1, .long m0, jU, .long (((lN 31) * (((lN 31) * mm) + (lN (v 1 p)))) + (lN (v 2 p))), jU, .int (nI p)]) dX8_digestOn_65 rfl rfl rfl (by decide) rfl ?_
      refine j_ldc2 (v := lN 31) dX8_digestOn_66 rfl kX8_89 ?_
      refine j_lload_n dX8_digestOn_69 rfl rfl rfl ?_
      refine j_lmul dX8_digestOn_70 rfl ?_
      refine j_aload_n dX8_digestOn_71 rfl rfl rfl ?_
      refine j_getP (b := 4) dX8_digestOn_72 rfl fX8_37 rfl (by decide) rfl rfl ?_
      refine j_iload dX8_digestOn_75 rfl rfl ?_
      refine j_iald (j := p) (v := nI (v 3 p)) dX8_digestOn_77 rfl rfl (by decide) rfl (by omega) (by decide) (hV.sn (by omega)) ?_
      refine j_i2lN dX8_digestOn_78 rfl (by omega) ?_
      refine j_ladd dX8_digestOn_79 rfl ?_
      refine j_lstore_n (L' := [.ref 1, .long m0, jU, .long (((lN 31) * (((lN 31) * (((lN 31) * mm) + (lN (v 1 p)))) + (lN (v 2 p)))) + (lN (v 3 p))), jU, .int (nI p)]) dX8_digestOn_80 rfl rfl rfl (by decide) rfl ?_
      refine j_ldc2 (v := lN 31) dX8_digestOn_81 rfl kX8_89 ?_
      refine j_lload_n dX8_digestOn_84 rfl rfl rfl ?_
      refine j_lmul dX8_digestOn_85 rfl ?_
      refine j_aload_n dX8_digestOn_86 rfl rfl rfl ?_
      refine j_getP (b := 5) dX8_digestOn_87 rfl fX8_40 rfl (by decide) rfl rfl ?_
      refine j_iload dX8_digestOn_90 rfl rfl ?_
      refine j_iald (j := p) (v := nI (v 4 p) - 1) dX8_digestOn_92 rfl rfl (by decide) rfl (by omega) (by decide) (hV.en (by omega)) ?_
      refine j_i2l dX8_digestOn_93 rfl ?_
      refine j_ladd dX8_digestOn_94 rfl ?_
      refine j_lstore_n (L' := [.ref 1, .long m0, jU, .long (((lN 31) * (((lN 31) * (((lN 31) * (((lN 31) * mm) + (lN (v 1 p)))) + (lN (v 2 p)))) + (lN (v 3 p)))) + ((nI (v 4 p) - 1 : Int32).toInt64)), jU, .int (nI p)]) dX8_digestOn_95 rfl rfl rfl (by decide) rfl ?_
      refine j_iincN (L' := [.ref 1, .long m0, jU, .long (((lN 31) * (((lN 31) * (((lN 31) * (((lN 31) * mm) + (lN (v 1 p)))) + (lN (v 2 p)))) + (lN (v 3 p)))) + ((nI (v 4 p) - 1 : Int32).toInt64)), jU, .int (nI (p + 1))]) dX8_digestOn_96 rfl rfl (b := 1) rfl rfl rfl (by decide) rfl ?_
      refine j_goto (tgt := 27) dX8_digestOn_99 rfl ?_
      exact ih (p + 1) _ (by omega) hr
  refine j_ldc2 (v := lN 31) dX8_digestOn_0 rfl kX8_89 ?_
  refine j_lload_n dX8_digestOn_3 rfl rfl rfl ?_
  refine j_lmul dX8_digestOn_4 rfl ?_
  refine j_aload_n dX8_digestOn_5 rfl rfl rfl ?_
  refine j_getIv (v := nI (v 0 1)) dX8_digestOn_6 rfl fX8_15 rfl (by decide) rfl hV.damp ?_
  refine j_i2lN dX8_digestOn_9 rfl (by omega) ?_
  refine j_ladd dX8_digestOn_10 rfl ?_
  refine j_lstore_n (L' := [.ref 1, .long m0, jU, .long (((lN 31) * m0) + (lN (v 0 1))), jU, jU]) dX8_digestOn_11 rfl rfl rfl (by decide) rfl ?_
  refine j_ldc2 (v := lN 31) dX8_digestOn_12 rfl kX8_89 ?_
  refine j_lload_n dX8_digestOn_15 rfl rfl rfl ?_
  refine j_lmul dX8_digestOn_16 rfl ?_
  refine j_aload_n dX8_digestOn_17 rfl rfl rfl ?_
  refine j_getIv (v := nI (v 0 2)) dX8_digestOn_18 rfl fX8_18 rfl (by decide) rfl hV.dry ?_
  refine j_i2lN dX8_digestOn_21 rfl (by omega) ?_
  refine j_ladd dX8_digestOn_22 rfl ?_
  refine j_lstore_n (L' := [.ref 1, .long m0, jU, .long (((lN 31) * (((lN 31) * m0) + (lN (v 0 1)))) + (lN (v 0 2))), jU, jU]) dX8_digestOn_23 rfl rfl rfl (by decide) rfl ?_
  refine j_iconst (v := nI 0) dX8_digestOn_24 rfl rfl ?_
  refine j_istore (L' := [.ref 1, .long m0, jU, .long (((lN 31) * (((lN 31) * m0) + (lN (v 0 1)))) + (lN (v 0 2))), jU, .int (nI 0)]) dX8_digestOn_25 rfl rfl (by decide) rfl ?_
  exact loop1 (v 0 3) 0 _ (by omega) hT
