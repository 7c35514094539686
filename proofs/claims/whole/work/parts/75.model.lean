set_option maxHeartbeats 4000000 in
set_option maxRecDepth 100000 in
theorem g_gifts {X : jX} {d n : Nat} {I : HI} {J : HJ} {i0 i1 : Option Nat} {Q : jPost} {S : SS} {yb : Nat} (hm : MI S I J) (hW : WF yb S.v) (hyb : yb ≤ 2 ^ 12) {a b c e : Int32} (hQ : MP Q (oGifts S a b c e) n I J (Pg i0 i1)) : Cj X (d + 4) 0 0 mX10_gifts [.ref 33, .int a, .int b, .int c, .int e] n I J (Pg i0 i1) Q := by
  refine Cj.intro rfl (Nat.le_of_ble_eq_true rfl) (L := [.ref 33, .int a, .int b, .int c, .int e]) rfl ?_
  obtain ⟨⟨w0, w1, w2, w3, w4, w5, w6⟩, wp, wk, wc, wb⟩ := id hW
  refine j_aload_n dX10_gifts_0 rfl rfl rfl ?_
  refine j_iload_n dX10_gifts_1 rfl rfl rfl ?_
  refine j_callVw (As := [.int a]) dX10_gifts_2 rfl cX10_141 (by decide) rfl rfl (by decide) rfl (by decide) rfl rfl (c_misP hm.v w3 (fun ha => ?_) (fun ha => ?_))
  · obtain ⟨ja, rfl, hau⟩ := hasP_nat (by omega) ha
    show Rj _ _ _ _ _ _ 5 [.ref 33, .int (nI ja), .int b, .int c, .int e] [.int (nI 1)] n I J (Pg i0 i1)
    refine j_ifeqN (tgt := 41) dX10_gifts_5 rfl rfl (by decide) (fun h1 => by exfalso; omega) (fun h1 => ?_)
    refine j_aload_n dX10_gifts_8 rfl rfl rfl ?_
    refine j_iload_n dX10_gifts_9 rfl rfl rfl ?_
    refine j_callVw (As := [.int b]) dX10_gifts_10 rfl cX10_141 (by decide) rfl rfl (by decide) rfl (by decide) rfl rfl (c_misP hm.v w3 (fun hb => ?_) (fun hb => ?_))
    · obtain ⟨jb, rfl, hbu⟩ := hasP_nat (by omega) hb
      show Rj _ _ _ _ _ _ 13 [.ref 33, .int (nI ja), .int (nI jb), .int c, .int e] [.int (nI 1)] n I J (Pg i0 i1)
      refine j_ifeqN (tgt := 41) dX10_gifts_13 rfl rfl (by decide) (fun h2 => by exfalso; omega) (fun h2 => ?_)
      refine j_iload_n dX10_gifts_16 rfl rfl rfl ?_
      refine j_iload_n dX10_gifts_17 rfl rfl rfl ?_
      refine j_icmpeqN (tgt := 41) dX10_gifts_18 rfl rfl (by omega) (by omega) (fun h3 => ?_) (fun h3 => ?_)
      · refine j_aload_n dX10_gifts_41 rfl rfl rfl ?_
        refine j_bipush (v := (-2)) dX10_gifts_42 rfl rfl ?_
        refine j_callVw (As := [.int (-2)]) dX10_gifts_44 rfl cX10_54 (by decide) rfl rfl (by decide) rfl (by decide) rfl rfl (c_mbad ?_)
        show Rj _ _ _ _ _ _ 47 [.ref 33, .int (nI ja), .int (nI jb), .int c, .int e] [.int (-2)] n (u2 I 39 0 (I 39 0 + nI 1)) J (Pg i0 i1)
        refine j_iret dX10_gifts_47 rfl rfl ?_
        have e : oGifts S (nI ja) (nI jb) c e = (S.bad, -2) := by unfold oGifts; rw [if_neg (by first | exact ha | exact fun q => ha q.1 | exact fun q => hb q.2 | exact fun q => hb q.2.1 | exact fun q => hc q.2.2 | exact fun q => ha q.1.1 | exact fun q => hb q.1.2.1 | exact fun q => q.1.2.2 (congrArg nI (by assumption)) | exact fun q => hc q.2.1 | exact fun q => he q.2.2)]
        rw [e] at hQ
        exact hQ _ _ hm.bad (CF.u2 (by omega) (by omega))
      · refine j_iload_n dX10_gifts_21 rfl rfl rfl ?_
        refine j_iconst (v := nI 1) dX10_gifts_22 rfl rfl ?_
        refine j_bipush (v := nI 60) dX10_gifts_23 rfl rfl ?_
        refine j_callSw (As := [.int c, .int (nI 1), .int (nI 60)]) dX10_gifts_25 rfl cX10_50 rfl (by decide) rfl rfl (c_min (fun hc => ?_) (fun hc => ?_))
        · obtain ⟨jc, rfl, hcl, hcu⟩ := inR_nat (by decide) (by decide) hc
          show Rj _ _ _ _ _ _ 28 [.ref 33, .int (nI ja), .int (nI jb), .int (nI jc), .int e] [.int (nI 1)] n I J (Pg i0 i1)
          refine j_ifeqN (tgt := 41) dX10_gifts_28 rfl rfl (by decide) (fun h4 => by exfalso; omega) (fun h4 => ?_)
          refine j_iload dX10_gifts_31 rfl rfl ?_
          refine j_iconst (v := nI 0) dX10_gifts_33 rfl rfl ?_
          refine j_iconst (v := nI 2) dX10_gifts_34 rfl rfl ?_
          refine j_callSw (As := [.int e, .int (nI 0), .int (nI 2)]) dX10_gifts_35 rfl cX10_50 rfl (by decide) rfl rfl (c_min (fun he => ?_) (fun he => ?_))
          · obtain ⟨je, rfl, hel, heu⟩ := inR_nat (by decide) (by decide) he
            show Rj _ _ _ _ _ _ 38 [.ref 33, .int (nI ja), .int (nI jb), .int (nI jc), .int (nI je)] [.int (nI 1)] n I J (Pg i0 i1)
            refine j_ifneN (tgt := 48) dX10_gifts_38 rfl rfl (by decide) (fun h5 => ?_) (fun h5 => by exfalso; omega)
            refine j_aload_n dX10_gifts_48 rfl rfl rfl ?_
            refine j_iload_n dX10_gifts_49 rfl rfl rfl ?_
            refine j_iload_n dX10_gifts_50 rfl rfl rfl ?_
            refine j_iload_n dX10_gifts_51 rfl rfl rfl ?_
            refine j_callVw (As := [.int (nI ja), .int (nI jb), .int (nI jc)]) dX10_gifts_52 rfl cX10_157 (by decide) rfl rfl (by decide) rfl (by decide) rfl rfl (c_mlayGifts hm hW hyb hau hbu hcu (fun I1 k1 k2 k3 k4 k5 k6 => ?_))
            show Rj _ _ _ _ _ _ 55 [.ref 33, .int (nI ja), .int (nI jb), .int (nI jc), .int (nI je)] [] n I1 J (Pg i0 i1)
            refine j_aload_n dX10_gifts_55 rfl rfl rfl ?_
            refine j_getIv (v := nI (shV S.v ja jb jc).1 - 1) dX10_gifts_56 rfl fX10_148 rfl (by decide) rfl k3 ?_
            refine j_ifge (tgt := 66) dX10_gifts_59 rfl rfl (fun h6 => ?_) (fun h6 => ?_)
            · have hnz : ¬ (shV S.v ja jb jc).1 = 0 := fun z => by
                have h0 : (0 : Int32) ≤ nI (shV S.v ja jb jc).1 - 1 := by assumption
                rw [z] at h0
                exact absurd h0 (by decide)
              refine j_iload dX10_gifts_66 rfl rfl ?_
              refine j_ifneN (tgt := 78) dX10_gifts_68 rfl rfl (by omega) (fun h7 => ?_) (fun h7 => ?_)
              · refine j_iload dX10_gifts_78 rfl rfl ?_
                refine j_iconst (v := nI 1) dX10_gifts_80 rfl rfl ?_
                refine j_icmpneN (tgt := 91) dX10_gifts_81 rfl rfl (by omega) (by decide) (fun h8 => ?_) (fun h8 => ?_)
                · refine j_aload_n dX10_gifts_91 rfl rfl rfl ?_
                  refine j_getIv (v := nI (shV S.v ja jb jc).2.2 - 1) dX10_gifts_92 rfl fX10_154 rfl (by decide) rfl (k4 hnz).2 ?_
                  refine j_iret dX10_gifts_95 rfl rfl ?_
                  have e : oGifts S (nI ja) (nI jb) (nI jc) (nI je) = (S, nI (shV S.v ja jb jc).2.2 - 1) := by
                    unfold oGifts
                    rw [if_pos (by exact ⟨⟨ha, hb, fun q => absurd ((nI_eq (by omega) (by omega)).mp q) (by assumption)⟩, hc, he⟩), tN_nI (show ja < 2 ^ 30 by omega), tN_nI (show jb < 2 ^ 30 by omega), tN_nI (show jc < 2 ^ 30 by omega), tN_nI (show je < 2 ^ 30 by omega)]
                    congr 1
                    rw [if_neg (by assumption), if_neg (by assumption)]
                  rw [e] at hQ
                  exact hQ _ _ (hm.scr (fun a _ _ _ => k1 a (by omega)) (k2 4 (by omega)) rfl rfl) (fun b hb => ⟨k1 b (by omega), rfl⟩)
                · refine j_aload_n dX10_gifts_84 rfl rfl rfl ?_
                  refine j_getIv (v := nI (shV S.v ja jb jc).2.1 - 1) dX10_gifts_85 rfl fX10_151 rfl (by decide) rfl (k4 hnz).1 ?_
                  refine j_goto (tgt := 95) dX10_gifts_88 rfl ?_
                  refine j_iret dX10_gifts_95 rfl rfl ?_
                  have e : oGifts S (nI ja) (nI jb) (nI jc) (nI je) = (S, nI (shV S.v ja jb jc).2.1 - 1) := by
                    unfold oGifts
                    rw [if_pos (by exact ⟨⟨ha, hb, fun q => absurd ((nI_eq (by omega) (by omega)).mp q) (by assumption)⟩, hc, he⟩), tN_nI (show ja < 2 ^ 30 by omega), tN_nI (show jb < 2 ^ 30 by omega), tN_nI (show jc < 2 ^ 30 by omega), tN_nI (show je < 2 ^ 30 by omega)]
                    congr 1
                    rw [if_neg (by assumption), if_pos (by assumption)]
                  rw [e] at hQ
                  exact hQ _ _ (hm.scr (fun a _ _ _ => k1 a (by omega)) (k2 4 (by omega)) rfl rfl) (fun b hb => ⟨k1 b (by omega), rfl⟩)
              · refine j_aload_n dX10_gifts_71 rfl rfl rfl ?_
                refine j_getIv (v := nI (shV S.v ja jb jc).1 - 1) dX10_gifts_72 rfl fX10_148 rfl (by decide) rfl k3 ?_
                refine j_goto (tgt := 95) dX10_gifts_75 rfl ?_
                refine j_iret dX10_gifts_95 rfl rfl ?_
                have e : oGifts S (nI ja) (nI jb) (nI jc) (nI je) = (S, nI (shV S.v ja jb jc).1 - 1) := by
                  unfold oGifts
                  rw [if_pos (by exact ⟨⟨ha, hb, fun q => absurd ((nI_eq (by omega) (by omega)).mp q) (by assumption)⟩, hc, he⟩), tN_nI (show ja < 2 ^ 30 by omega), tN_nI (show jb < 2 ^ 30 by omega), tN_nI (show jc < 2 ^ 30 by omega), tN_nI (show je < 2 ^ 30 by omega)]
                  congr 1
                  rw [if_pos (by assumption)]
                rw [e] at hQ
                exact hQ _ _ (hm.scr (fun a _ _ _ => k1 a (by omega)) (k2 4 (by omega)) rfl rfl) (fun b hb => ⟨k1 b (by omega), rfl⟩)
            · refine j_iconst (v := (-1)) dX10_gifts_62 rfl rfl ?_
              refine j_goto (tgt := 95) dX10_gifts_63 rfl ?_
              refine j_iret dX10_gifts_95 rfl rfl ?_
              have e : oGifts S (nI ja) (nI jb) (nI jc) (nI je) = (S, (-1)) := by
                unfold oGifts
                rw [if_pos (by exact ⟨⟨ha, hb, fun q => absurd ((nI_eq (by omega) (by omega)).mp q) (by assumption)⟩, hc, he⟩), tN_nI (show ja < 2 ^ 30 by omega), tN_nI (show jb < 2 ^ 30 by omega), tN_nI (show jc < 2 ^ 30 by omega), tN_nI (show je < 2 ^ 30 by omega)]
                congr 1
                rw [k5 ((m1_neg (by omega)).mp (Int32.not_le.mp (by assumption)))]; (repeat' split) <;> rfl
              rw [e] at hQ
              exact hQ _ _ (hm.scr (fun a _ _ _ => k1 a (by omega)) (k2 4 (by omega)) rfl rfl) (fun b hb => ⟨k1 b (by omega), rfl⟩)
          · show Rj _ _ _ _ _ _ 38 [.ref 33, .int (nI ja), .int (nI jb), .int (nI jc), .int e] [.int (nI 0)] n I J (Pg i0 i1)
            refine j_ifneN (tgt := 48) dX10_gifts_38 rfl rfl (by decide) (fun h9 => by exfalso; omega) (fun h9 => ?_)
            refine j_aload_n dX10_gifts_41 rfl rfl rfl ?_
            refine j_bipush (v := (-2)) dX10_gifts_42 rfl rfl ?_
            refine j_callVw (As := [.int (-2)]) dX10_gifts_44 rfl cX10_54 (by decide) rfl rfl (by decide) rfl (by decide) rfl rfl (c_mbad ?_)
            show Rj _ _ _ _ _ _ 47 [.ref 33, .int (nI ja), .int (nI jb), .int (nI jc), .int e] [.int (-2)] n (u2 I 39 0 (I 39 0 + nI 1)) J (Pg i0 i1)
            refine j_iret dX10_gifts_47 rfl rfl ?_
            have e : oGifts S (nI ja) (nI jb) (nI jc) e = (S.bad, -2) := by unfold oGifts; rw [if_neg (by first | exact ha | exact fun q => ha q.1 | exact fun q => hb q.2 | exact fun q => hb q.2.1 | exact fun q => hc q.2.2 | exact fun q => ha q.1.1 | exact fun q => hb q.1.2.1 | exact fun q => q.1.2.2 (congrArg nI (by assumption)) | exact fun q => hc q.2.1 | exact fun q => he q.2.2)]
            rw [e] at hQ
            exact hQ _ _ hm.bad (CF.u2 (by omega) (by omega))
        · show Rj _ _ _ _ _ _ 28 [.ref 33, .int (nI ja), .int (nI jb), .int c, .int e] [.int (nI 0)] n I J (Pg i0 i1)
          refine j_ifeqN (tgt := 41) dX10_gifts_28 rfl rfl (by decide) (fun h10 => ?_) (fun h10 => by exfalso; omega)
          refine j_aload_n dX10_gifts_41 rfl rfl rfl ?_
          refine j_bipush (v := (-2)) dX10_gifts_42 rfl rfl ?_
          refine j_callVw (As := [.int (-2)]) dX10_gifts_44 rfl cX10_54 (by decide) rfl rfl (by decide) rfl (by decide) rfl rfl (c_mbad ?_)
          show Rj _ _ _ _ _ _ 47 [.ref 33, .int (nI ja), .int (nI jb), .int c, .int e] [.int (-2)] n (u2 I 39 0 (I 39 0 + nI 1)) J (Pg i0 i1)
          refine j_iret dX10_gifts_47 rfl rfl ?_
          have e : oGifts S (nI ja) (nI jb) c e = (S.bad, -2) := by unfold oGifts; rw [if_neg (by first | exact ha | exact fun q => ha q.1 | exact fun q => hb q.2 | exact fun q => hb q.2.1 | exact fun q => hc q.2.2 | exact fun q => ha q.1.1 | exact fun q => hb q.1.2.1 | exact fun q => q.1.2.2 (congrArg nI (by assumption)) | exact fun q => hc q.2.1 | exact fun q => he q.2.2)]
          rw [e] at hQ
          exact hQ _ _ hm.bad (CF.u2 (by omega) (by omega))
    · show Rj _ _ _ _ _ _ 13 [.ref 33, .int (nI ja), .int b, .int c, .int e] [.int (nI 0)] n I J (Pg i0 i1)
      refine j_ifeqN (tgt := 41) dX10_gifts_13 rfl rfl (by decide) (fun h11 => ?_) (fun h11 => by exfalso; omega)
      refine j_aload_n dX10_gifts_41 rfl rfl rfl ?_
      refine j_bipush (v := (-2)) dX10_gifts_42 rfl rfl ?_
      refine j_callVw (As := [.int (-2)]) dX10_gifts_44 rfl cX10_54 (by decide) rfl rfl (by decide) rfl (by decide) rfl rfl (c_mbad ?_)
      show Rj _ _ _ _ _ _ 47 [.ref 33, .int (nI ja), .int b, .int c, .int e] [.int (-2)] n (u2 I 39 0 (I 39 0 + nI 1)) J (Pg i0 i1)
      refine j_iret dX10_gifts_47 rfl rfl ?_
      have e : oGifts S (nI ja) b c e = (S.bad, -2) := by unfold oGifts; rw [if_neg (by first | exact ha | exact fun q => ha q.1 | exact fun q => hb q.2 | exact fun q => hb q.2.1 | exact fun q => hc q.2.2 | exact fun q => ha q.1.1 | exact fun q => hb q.1.2.1 | exact fun q => q.1.2.2 (congrArg nI (by assumption)) | exact fun q => hc q.2.1 | exact fun q => he q.2.2)]
      rw [e] at hQ
      exact hQ _ _ hm.bad (CF.u2 (by omega) (by omega))
  · show Rj _ _ _ _ _ _ 5 [.ref 33, .int a, .int b, .int c, .int e] [.int (nI 0)] n I J (Pg i0 i1)
    refine j_ifeqN (tgt := 41) dX10_gifts_5 rfl rfl (by decide) (fun h12 => ?_) (fun h12 => by exfalso; omega)
    refine j_aload_n dX10_gifts_41 rfl rfl rfl ?_
    refine j_bipush (v := (-2)) dX10_gifts_42 rfl rfl ?_
    refine j_callVw (As := [.int (-2)]) dX10_gifts_44 rfl cX10_54 (by decide) rfl rfl (by decide) rfl (by decide) rfl rfl (c_mbad ?_)
    show Rj _ _ _ _ _ _ 47 [.ref 33, .int a, .int b, .int c, .int e] [.int (-2)] n (u2 I 39 0 (I 39 0 + nI 1)) J (Pg i0 i1)
    refine j_iret dX10_gifts_47 rfl rfl ?_
    have e : oGifts S a b c e = (S.bad, -2) := by unfold oGifts; rw [if_neg (by first | exact ha | exact fun q => ha q.1 | exact fun q => hb q.2 | exact fun q => hb q.2.1 | exact fun q => hc q.2.2 | exact fun q => ha q.1.1 | exact fun q => hb q.1.2.1 | exact fun q => q.1.2.2 (congrArg nI (by assumption)) | exact fun q => hc q.2.1 | exact fun q => he q.2.2)]
    rw [e] at hQ
    exact hQ _ _ hm.bad (CF.u2 (by omega) (by omega))
theorem all_succ {n : Nat} {p : Nat → Prop} : (∀ m, m < n + 1 → p m) ↔ (∀ m, m < n → p m) ∧ p n :=
  ⟨fun h => ⟨fun m hm => h m (by omega), h n (by omega)⟩, fun h m hm => by
    by_cases e : m = n
    · rw [e]; exact h.2
    · exact h.1 m (by omega)⟩
set_option maxHeartbeats 4000000 in
set_option maxRecDepth 100000 in
theorem c_mkindsOf {X : jX} {d n : Nat} {I : HI} {J : HJ} {i0 i1 : Option Nat} {Q : jPost} {S : SS} {yb : Nat} (hm : MI S I J) (hW : WF yb S.v) (hyb : yb ≤ 2 ^ 12) {p : Nat} (hp : p < S.v 0 3) (hQ : Q (some (.int (nI (fitV S.v p)))) n I J (Pg i0 i1)) : Cj X (d + 3) 0 0 mX10_kindsOf [.ref 33, .int (nI p)] n I J (Pg i0 i1) Q := by
  refine Cj.intro rfl (Nat.le_of_ble_eq_true rfl) (L := [.ref 33, .int (nI p), jU, jU, jU, jU, jU]) rfl ?_
  obtain ⟨⟨w0, w1, w2, w3, w4, w5, w6⟩, wp, wk, wc, wb⟩ := id hW
  obtain ⟨q1, q2, q3, q4, q5⟩ := wp p hp
  have inner : ∀ (r c i kd st : Nat) (z6 : Value), c + r = S.v 0 5 → kd < 6 → st = bitsOf (fun k => decide (fitK S.v p k)) kd → (i ≤ 1 ∧ (i = 1 ↔ (∀ b, b < c → S.v 6 b = p → lft kd (S.v 0 1) (S.v 0 2) (S.v 0 0) (S.v 2 p) (S.v 7 b) = S.v 8 b))) → (∀ (st2 : Nat) (z4 z5 z6 : Value), st2 = bitsOf (fun k => decide (fitK S.v p k)) (kd + 1) → Rj X (d + 3) 0 0 mX10_kindsOf Q 4 [.ref 33, .int (nI p), .int (nI st2), .int (nI (kd + 1)), z4, z5, z6] [] n I J (Pg i0 i1)) → Rj X (d + 3) 0 0 mX10_kindsOf Q 16 [.ref 33, .int (nI p), .int (nI st), .int (nI kd), .int (nI i), .int (nI c), z6] [] n I J (Pg i0 i1) := by
    intro r
    induction r with
    | zero =>
      intro c i kd st z6 hcr hkd hst hi hk
      have hsb : st < 2 ^ kd := by rw [hst]; exact bitsOf_lt _ _
      refine j_iload dX10_kindsOf_16 rfl rfl ?_
      refine j_aload_n dX10_kindsOf_18 rfl rfl rfl ?_
      refine j_getP (b := 34) dX10_kindsOf_19 rfl fX10_7 rfl (by decide) rfl rfl ?_
      refine j_iconst (v := nI 5) dX10_kindsOf_22 rfl rfl ?_
      refine j_iald (j := 5) (v := nI (S.v 0 5)) dX10_kindsOf_23 rfl rfl (by decide) rfl (by decide) (by decide) hm.v.mc ?_
      refine j_icmpgeN (tgt := 106) dX10_kindsOf_24 rfl rfl (by omega) (by omega) (fun h1 => ?_) (fun h1 => by exfalso; omega)
      refine j_iload_n dX10_kindsOf_106 rfl rfl rfl ?_
      refine j_iload dX10_kindsOf_107 rfl rfl ?_
      refine j_ifeqN (tgt := 118) dX10_kindsOf_109 rfl rfl (by omega) (fun h2 => ?_) (fun h2 => ?_)
      · refine j_iconst (v := nI 0) dX10_kindsOf_118 rfl rfl ?_
        refine j_iorN (c := st ||| 0) dX10_kindsOf_119 rfl rfl ?_
        refine j_istore_n (L' := [.ref 33, .int (nI p), .int (nI (st ||| 0)), .int (nI kd), .int (nI i), .int (nI c), z6]) dX10_kindsOf_120 rfl rfl rfl (by decide) rfl ?_
        refine j_iincN (L' := [.ref 33, .int (nI p), .int (nI (st ||| 0)), .int (nI (kd + 1)), .int (nI i), .int (nI c), z6]) dX10_kindsOf_121 rfl rfl (b := 1) rfl rfl rfl (by decide) rfl ?_
        refine j_goto (tgt := 4) dX10_kindsOf_124 rfl ?_
        refine hk _ _ _ _ ?_
        have hc5 : c = S.v 0 5 := by omega
        subst hc5
        show _ = (if decide (fitK S.v p kd) = true then _ else _)
        rw [if_neg (fun q => by have := hi.2.mpr (of_decide_eq_true q); omega), Nat.or_zero]; exact hst
      · refine j_iconst (v := nI 1) dX10_kindsOf_112 rfl rfl ?_
        refine j_iload_n dX10_kindsOf_113 rfl rfl rfl ?_
        refine j_ishlN (c := 2 ^ kd) dX10_kindsOf_114 rfl (by omega) (Nat.one_mul _) ?_
        refine j_goto (tgt := 119) dX10_kindsOf_115 rfl ?_
        refine j_iorN (c := st ||| (2 ^ kd)) dX10_kindsOf_119 rfl rfl ?_
        refine j_istore_n (L' := [.ref 33, .int (nI p), .int (nI (st ||| (2 ^ kd))), .int (nI kd), .int (nI i), .int (nI c), z6]) dX10_kindsOf_120 rfl rfl rfl (by decide) rfl ?_
        refine j_iincN (L' := [.ref 33, .int (nI p), .int (nI (st ||| (2 ^ kd))), .int (nI (kd + 1)), .int (nI i), .int (nI c), z6]) dX10_kindsOf_121 rfl rfl (b := 1) rfl rfl rfl (by decide) rfl ?_
        refine j_goto (tgt := 4) dX10_kindsOf_124 rfl ?_
        refine hk _ _ _ _ ?_
        have hc5 : c = S.v 0 5 := by omega
        subst hc5
        show _ = (if decide (fitK S.v p kd) = true then _ else _)
        rw [if_pos (decide_eq_true (hi.2.mp (by omega))), ← hst]
    | succ r ih =>
      intro c i kd st z6 hcr hkd hst hi hk
      obtain ⟨g1, g2, g3⟩ := wc c (by omega)
      refine j_iload dX10_kindsOf_16 rfl rfl ?_
      refine j_aload_n dX10_kindsOf_18 rfl rfl rfl ?_
      refine j_getP (b := 34) dX10_kindsOf_19 rfl fX10_7 rfl (by decide) rfl rfl ?_
      refine j_iconst (v := nI 5) dX10_kindsOf_22 rfl rfl ?_
      refine j_iald (j := 5) (v := nI (S.v 0 5)) dX10_kindsOf_23 rfl rfl (by decide) rfl (by decide) (by decide) hm.v.mc ?_
      refine j_icmpgeN (tgt := 106) dX10_kindsOf_24 rfl rfl (by omega) (by omega) (fun h1 => by exfalso; omega) (fun h1 => ?_)
      refine j_bipush (v := nI 39) dX10_kindsOf_27 rfl rfl ?_
      refine j_iconst (v := nI 3) dX10_kindsOf_29 rfl rfl ?_
      refine j_iload dX10_kindsOf_30 rfl rfl ?_
      refine j_imulN (c := 3 * c) dX10_kindsOf_32 rfl rfl ?_
      refine j_iaddN (c := 39 + (3 * c)) dX10_kindsOf_33 rfl rfl ?_
      refine j_istore (L' := [.ref 33, .int (nI p), .int (nI st), .int (nI kd), .int (nI i), .int (nI c), .int (nI (39 + (3 * c)))]) dX10_kindsOf_34 rfl rfl (by decide) rfl ?_
      refine j_iload dX10_kindsOf_36 rfl rfl ?_
      refine j_ifeqN (tgt := 97) dX10_kindsOf_38 rfl rfl (by omega) (fun h2 => ?_) (fun h2 => ?_)
      · refine j_iconst (v := nI 0) dX10_kindsOf_97 rfl rfl ?_
        refine j_istore (L' := [.ref 33, .int (nI p), .int (nI st), .int (nI kd), .int (nI 0), .int (nI c), .int (nI (39 + (3 * c)))]) dX10_kindsOf_98 rfl rfl (by decide) rfl ?_
        refine j_iincN (L' := [.ref 33, .int (nI p), .int (nI st), .int (nI kd), .int (nI 0), .int (nI (c + 1)), .int (nI (39 + (3 * c)))]) dX10_kindsOf_100 rfl rfl (b := 1) rfl rfl rfl (by decide) rfl ?_
        refine j_goto (tgt := 16) dX10_kindsOf_103 rfl ?_
        refine ih (c + 1) 0 kd st _ (by omega) (by omega) hst ⟨by omega, ?_⟩ hk
        have ho := @all_succ c (fun b => S.v 6 b = p → lft kd (S.v 0 1) (S.v 0 2) (S.v 0 0) (S.v 2 p) (S.v 7 b) = S.v 8 b)
        rw [ho]
        refine ⟨fun q => absurd q (by omega), fun q => ?_⟩
        first | (have := hi.2.mpr q.1; omega) | exact absurd (q.2 (by assumption)) (by assumption)
      · refine j_aload_n dX10_kindsOf_41 rfl rfl rfl ?_
        refine j_getP (b := 34) dX10_kindsOf_42 rfl fX10_7 rfl (by decide) rfl rfl ?_
        refine j_iload dX10_kindsOf_45 rfl rfl ?_
        refine j_iald (j := 39 + (3 * c)) (v := nI (S.v 6 c)) dX10_kindsOf_47 rfl rfl (by decide) rfl (by omega) (by decide) (hm.v.cp (by omega)) ?_
        refine j_iload_n dX10_kindsOf_48 rfl rfl rfl ?_
        refine j_icmpneN (tgt := 93) dX10_kindsOf_49 rfl rfl (by omega) (by omega) (fun h3 => ?_) (fun h3 => ?_)
        · refine j_iconst (v := nI 1) dX10_kindsOf_93 rfl rfl ?_
          refine j_goto (tgt := 98) dX10_kindsOf_94 rfl ?_
          refine j_istore (L' := [.ref 33, .int (nI p), .int (nI st), .int (nI kd), .int (nI 1), .int (nI c), .int (nI (39 + (3 * c)))]) dX10_kindsOf_98 rfl rfl (by decide) rfl ?_
          refine j_iincN (L' := [.ref 33, .int (nI p), .int (nI st), .int (nI kd), .int (nI 1), .int (nI (c + 1)), .int (nI (39 + (3 * c)))]) dX10_kindsOf_100 rfl rfl (b := 1) rfl rfl rfl (by decide) rfl ?_
          refine j_goto (tgt := 16) dX10_kindsOf_103 rfl ?_
          refine ih (c + 1) 1 kd st _ (by omega) (by omega) hst ⟨by omega, ?_⟩ hk
          have ho := @all_succ c (fun b => S.v 6 b = p → lft kd (S.v 0 1) (S.v 0 2) (S.v 0 0) (S.v 2 p) (S.v 7 b) = S.v 8 b)
          rw [ho]
          refine ⟨fun _ => ⟨hi.2.mp (by omega), fun q => ?_⟩, fun _ => rfl⟩
          first | assumption | exact absurd q (by assumption)
        · refine j_aload_n dX10_kindsOf_52 rfl rfl rfl ?_
          refine j_iload_n dX10_kindsOf_53 rfl rfl rfl ?_
          refine j_aload_n dX10_kindsOf_54 rfl rfl rfl ?_
          refine j_getP (b := 34) dX10_kindsOf_55 rfl fX10_7 rfl (by decide) rfl rfl ?_
          refine j_bipush (v := nI 13) dX10_kindsOf_58 rfl rfl ?_
          refine j_iload_n dX10_kindsOf_60 rfl rfl rfl ?_
          refine j_iaddN (c := 13 + p) dX10_kindsOf_61 rfl rfl ?_
          refine j_iald (j := 13 + p) (v := nI (S.v 2 p)) dX10_kindsOf_62 rfl rfl (by decide) rfl (by omega) (by decide) (hm.v.lv (by omega)) ?_
          refine j_aload_n dX10_kindsOf_63 rfl rfl rfl ?_
          refine j_getP (b := 34) dX10_kindsOf_64 rfl fX10_7 rfl (by decide) rfl rfl ?_
          refine j_iload dX10_kindsOf_67 rfl rfl ?_
          refine j_iconst (v := nI 1) dX10_kindsOf_69 rfl rfl ?_
          refine j_iaddN (c := (39 + (3 * c)) + 1) dX10_kindsOf_70 rfl rfl ?_
          refine j_iald (j := (39 + (3 * c)) + 1) (v := nI (S.v 7 c)) dX10_kindsOf_71 rfl rfl (by decide) rfl (by omega) (by decide) (by rw [show 39 + 3 * c + 1 = 40 + 3 * c by omega]; exact hm.v.cm (by omega)) ?_
          refine j_aload_n dX10_kindsOf_72 rfl rfl rfl ?_
          refine j_getP (b := 34) dX10_kindsOf_73 rfl fX10_7 rfl (by decide) rfl rfl ?_
          refine j_iconst (v := nI 4) dX10_kindsOf_76 rfl rfl ?_
          refine j_iald (j := 4) (v := nI (S.v 0 2)) dX10_kindsOf_77 rfl rfl (by decide) rfl (by decide) (by decide) hm.v.mr ?_
          refine j_callVw (As := [.int (nI kd), .int (nI (S.v 2 p)), .int (nI (S.v 7 c)), .int (nI (S.v 0 2))]) dX10_kindsOf_78 rfl cX10_130 (by decide) rfl rfl (by decide) rfl (by decide) rfl rfl (c_mleftOf hm.v (by omega) (by omega) (by omega) (by omega) w1 w2 ?_)
          have hll := lft_le kd (S.v 0 1) (S.v 0 2) (S.v 7 c) (S.v 0 0) (S.v 2 p)
          show Rj _ _ _ _ _ _ 81 [.ref 33, .int (nI p), .int (nI st), .int (nI kd), .int (nI i), .int (nI c), .int (nI (39 + (3 * c)))] [.int (nI (lft kd (S.v 0 1) (S.v 0 2) (S.v 0 0) (S.v 2 p) (S.v 7 c)))] n I J (Pg i0 i1)
          refine j_aload_n dX10_kindsOf_81 rfl rfl rfl ?_
          refine j_getP (b := 34) dX10_kindsOf_82 rfl fX10_7 rfl (by decide) rfl rfl ?_
          refine j_iload dX10_kindsOf_85 rfl rfl ?_
          refine j_iconst (v := nI 2) dX10_kindsOf_87 rfl rfl ?_
          refine j_iaddN (c := (39 + (3 * c)) + 2) dX10_kindsOf_88 rfl rfl ?_
          refine j_iald (j := (39 + (3 * c)) + 2) (v := nI (S.v 8 c)) dX10_kindsOf_89 rfl rfl (by decide) rfl (by omega) (by decide) (by rw [show 39 + 3 * c + 2 = 41 + 3 * c by omega]; exact hm.v.cv (by omega)) ?_
          refine j_icmpneN (tgt := 97) dX10_kindsOf_90 rfl rfl (by omega) (by omega) (fun h4 => ?_) (fun h4 => ?_)
          · refine j_iconst (v := nI 0) dX10_kindsOf_97 rfl rfl ?_
            refine j_istore (L' := [.ref 33, .int (nI p), .int (nI st), .int (nI kd), .int (nI 0), .int (nI c), .int (nI (39 + (3 * c)))]) dX10_kindsOf_98 rfl rfl (by decide) rfl ?_
            refine j_iincN (L' := [.ref 33, .int (nI p), .int (nI st), .int (nI kd), .int (nI 0), .int (nI (c + 1)), .int (nI (39 + (3 * c)))]) dX10_kindsOf_100 rfl rfl (b := 1) rfl rfl rfl (by decide) rfl ?_
            refine j_goto (tgt := 16) dX10_kindsOf_103 rfl ?_
            refine ih (c + 1) 0 kd st _ (by omega) (by omega) hst ⟨by omega, ?_⟩ hk
            have ho := @all_succ c (fun b => S.v 6 b = p → lft kd (S.v 0 1) (S.v 0 2) (S.v 0 0) (S.v 2 p) (S.v 7 b) = S.v 8 b)
            rw [ho]
            refine ⟨fun q => absurd q (by omega), fun q => ?_⟩
            first | (have := hi.2.mpr q.1; omega) | exact absurd (q.2 (by assumption)) (by assumption)
          · refine j_iconst (v := nI 1) dX10_kindsOf_93 rfl rfl ?_
            refine j_goto (tgt := 98) dX10_kindsOf_94 rfl ?_
            refine j_istore (L' := [.ref 33, .int (nI p), .int (nI st), .int (nI kd), .int (nI 1), .int (nI c), .int (nI (39 + (3 * c)))]) dX10_kindsOf_98 rfl rfl (by decide) rfl ?_
            refine j_iincN (L' := [.ref 33, .int (nI p), .int (nI st), .int (nI kd), .int (nI 1), .int (nI (c + 1)), .int (nI (39 + (3 * c)))]) dX10_kindsOf_100 rfl rfl (b := 1) rfl rfl rfl (by decide) rfl ?_
            refine j_goto (tgt := 16) dX10_kindsOf_103 rfl ?_
            refine ih (c + 1) 1 kd st _ (by omega) (by omega) hst ⟨by omega, ?_⟩ hk
            have ho := @all_succ c (fun b => S.v 6 b = p → lft kd (S.v 0 1) (S.v 0 2) (S.v 0 0) (S.v 2 p) (S.v 7 b) = S.v 8 b)
            rw [ho]
            refine ⟨fun _ => ⟨hi.2.mp (by omega), fun q => ?_⟩, fun _ => rfl⟩
            first | assumption | exact absurd q (by assumption)
  have outer : ∀ (r kd st : Nat) (z4 z5 z6 : Value), kd + r = 6 → st = bitsOf (fun k => decide (fitK S.v p k)) kd → Rj X (d + 3) 0 0 mX10_kindsOf Q 4 [.ref 33, .int (nI p), .int (nI st), .int (nI kd), z4, z5, z6] [] n I J (Pg i0 i1) := by
    intro r
    induction r with
    | zero =>
      intro kd st z4 z5 z6 hkr hst
      refine j_iload_n dX10_kindsOf_4 rfl rfl rfl ?_
      refine j_bipush (v := nI 6) dX10_kindsOf_5 rfl rfl ?_
      refine j_icmpgeN (tgt := 127) dX10_kindsOf_7 rfl rfl (by omega) (by decide) (fun h1 => ?_) (fun h1 => by exfalso; omega)
      refine j_iload_n dX10_kindsOf_127 rfl rfl rfl ?_
      refine j_iret dX10_kindsOf_128 rfl rfl ?_
      have hk6 : kd = 6 := by omega
      subst hk6
      rw [hst]
      exact hQ
    | succ r ih =>
      intro kd st z4 z5 z6 hkr hst
      refine j_iload_n dX10_kindsOf_4 rfl rfl rfl ?_
      refine j_bipush (v := nI 6) dX10_kindsOf_5 rfl rfl ?_
      refine j_icmpgeN (tgt := 127) dX10_kindsOf_7 rfl rfl (by omega) (by decide) (fun h1 => by exfalso; omega) (fun h1 => ?_)
      refine j_iconst (v := nI 1) dX10_kindsOf_10 rfl rfl ?_
      refine j_istore (L' := [.ref 33, .int (nI p), .int (nI st), .int (nI kd), .int (nI 1), z5, z6]) dX10_kindsOf_11 rfl rfl (by decide) rfl ?_
      refine j_iconst (v := nI 0) dX10_kindsOf_13 rfl rfl ?_
      refine j_istore (L' := [.ref 33, .int (nI p), .int (nI st), .int (nI kd), .int (nI 1), .int (nI 0), z6]) dX10_kindsOf_14 rfl rfl (by decide) rfl ?_
      exact inner (S.v 0 5) 0 1 kd st _ (by omega) (by omega) hst ⟨by omega, fun _ b hb => absurd hb (Nat.not_lt_zero _), fun _ => rfl⟩ (fun st2 z4 z5 z6 k1 => ih (kd + 1) st2 z4 z5 z6 (by omega) k1)
  refine j_iconst (v := nI 0) dX10_kindsOf_0 rfl rfl ?_
  refine j_istore_n (L' := [.ref 33, .int (nI p), .int (nI 0), jU, jU, jU, jU]) dX10_kindsOf_1 rfl rfl rfl (by decide) rfl ?_
  refine j_iconst (v := nI 0) dX10_kindsOf_2 rfl rfl ?_
  refine j_istore_n (L' := [.ref 33, .int (nI p), .int (nI 0), .int (nI 0), jU, jU, jU]) dX10_kindsOf_3 rfl rfl rfl (by decide) rfl ?_
  exact outer 6 0 0 _ _ _ (by omega) rfl
set_option maxHeartbeats 4000000 in
set_option maxRecDepth 100000 in
theorem g_is {X : jX} {d n : Nat} {I : HI} {J : HJ} {i0 i1 : Option Nat} {Q : jPost} {S : SS} {yb : Nat} (hm : MI S I J) (hW : WF yb S.v) (hyb : yb ≤ 2 ^ 12) {a : Int32} (hQ : MP Q (oIs S a) n I J (Pg i0 i1)) : Cj X (d + 4) 0 0 mX10_is [.ref 33, .int a] n I J (Pg i0 i1) Q := by
  refine Cj.intro rfl (Nat.le_of_ble_eq_true rfl) (L := [.ref 33, .int a]) rfl ?_
  obtain ⟨⟨w0, w1, w2, w3, w4, w5, w6⟩, wp, wk, wc, wb⟩ := id hW
  refine j_aload_n dX10_is_0 rfl rfl rfl ?_
  refine j_iload_n dX10_is_1 rfl rfl rfl ?_
  refine j_callVw (As := [.int a]) dX10_is_2 rfl cX10_141 (by decide) rfl rfl (by decide) rfl (by decide) rfl rfl (c_misP hm.v w3 (fun ha => ?_) (fun ha => ?_))
  · obtain ⟨ja, rfl, hau⟩ := hasP_nat (by omega) ha
    show Rj _ _ _ _ _ _ 5 [.ref 33, .int (nI ja)] [.int (nI 1)] n I J (Pg i0 i1)
    refine j_ifeqN (tgt := 16) dX10_is_5 rfl rfl (by decide) (fun h1 => by exfalso; omega) (fun h1 => ?_)
    refine j_aload_n dX10_is_8 rfl rfl rfl ?_
    refine j_iload_n dX10_is_9 rfl rfl rfl ?_
    refine j_callVw (As := [.int (nI ja)]) dX10_is_10 rfl cX10_161 (by decide) rfl rfl (by decide) rfl (by decide) rfl rfl (c_mkindsOf hm hW hyb hau ?_)
    show Rj _ _ _ _ _ _ 13 [.ref 33, .int (nI ja)] [.int (nI (fitV S.v ja))] n I J (Pg i0 i1)
    refine j_goto (tgt := 22) dX10_is_13 rfl ?_
    refine j_iret dX10_is_22 rfl rfl ?_
    have e : oIs S (nI ja) = (S, nI (fitV S.v ja)) := by unfold oIs; rw [if_pos (by exact ha), tN_nI (show ja < 2 ^ 30 by omega)]
    rw [e] at hQ
    exact hQ _ _ hm CF.rf
  · show Rj _ _ _ _ _ _ 5 [.ref 33, .int a] [.int (nI 0)] n I J (Pg i0 i1)
    refine j_ifeqN (tgt := 16) dX10_is_5 rfl rfl (by decide) (fun h2 => ?_) (fun h2 => by exfalso; omega)
    refine j_aload_n dX10_is_16 rfl rfl rfl ?_
    refine j_bipush (v := (-2)) dX10_is_17 rfl rfl ?_
    refine j_callVw (As := [.int (-2)]) dX10_is_19 rfl cX10_54 (by decide) rfl rfl (by decide) rfl (by decide) rfl rfl (c_mbad ?_)
    show Rj _ _ _ _ _ _ 22 [.ref 33, .int a] [.int (-2)] n (u2 I 39 0 (I 39 0 + nI 1)) J (Pg i0 i1)
    refine j_iret dX10_is_22 rfl rfl ?_
    have e : oIs S a = (S.bad, -2) := by unfold oIs; rw [if_neg (by first | exact ha | exact fun q => ha q.1 | exact fun q => hb q.2 | exact fun q => hb q.2.1 | exact fun q => hc q.2.2 | exact fun q => ha q.1.1 | exact fun q => hb q.1.2.1 | exact fun q => q.1.2.2 (congrArg nI (by assumption)) | exact fun q => hc q.2.1 | exact fun q => he q.2.2)]
    rw [e] at hQ
    exact hQ _ _ hm.bad (CF.u2 (by omega) (by omega))
set_option maxHeartbeats 4000000 in
set_option maxRecDepth 100000 in
theorem g_next {X : jX} {d n : Nat} {I : HI} {J : HJ} {i0 i1 : Option Nat} {Q : jPost} {S : SS} {yb : Nat} (hm : MI S I J) (hW : WF yb S.v) (hyb : yb ≤ 2 ^ 12) {a : Int32} (hQ : MP Q (oNext S a) n I J (Pg i0 i1)) : Cj X (d + 4) 0 0 mX10_next [.ref 33, .int a] n I J (Pg i0 i1) Q := by
  refine Cj.intro rfl (Nat.le_of_ble_eq_true rfl) (L := [.ref 33, .int a, jU, jU, jU, jU, jU, jU, jU, jU, jU]) rfl ?_
  obtain ⟨⟨w0, w1, w2, w3, w4, w5, w6⟩, wp, wk, wc, wb⟩ := id hW
  by_cases ha : hasP a (S.v 0 3)
  · obtain ⟨ja, rfl, hau⟩ := hasP_nat (by omega) ha
    obtain ⟨q1, q2, q3, q4, q5⟩ := wp ja hau
    obtain ⟨st, hst⟩ : ∃ st, fitV S.v ja = st := ⟨_, rfl⟩
    have hs6 : st < 2 ^ 6 := by rw [← hst]; exact bitsOf_lt _ _
    have inner : ∀ (r o lk kd mo vv few m : Nat) (bI : Int32), o + r = 6 → kd < 6 → m ≤ 60 → mo = maL st (fun k => lft k (S.v 0 1) (S.v 0 2) (S.v 0 0) (S.v 2 ja) m) kd → vv = lft kd (S.v 0 1) (S.v 0 2) (S.v 0 0) (S.v 2 ja) m → lk = (if st / 2 ^ kd % 2 = 1 then cntL st (fun k => lft k (S.v 0 1) (S.v 0 2) (S.v 0 0) (S.v 2 ja) m) (lft kd (S.v 0 1) (S.v 0 2) (S.v 0 0) (S.v 2 ja) m) o else 0) → (∀ (mo2 : Nat) (z8 z9 z10 : Value), mo2 = maL st (fun k => lft k (S.v 0 1) (S.v 0 2) (S.v 0 0) (S.v 2 ja) m) (kd + 1) → Rj X (d + 4) 0 0 mX10_next Q 47 [.ref 33, .int (nI ja), .int (nI st), .int bI, .int (nI few), .int (nI m), .int (nI mo2), .int (nI (kd + 1)), z8, z9, z10] [] n I J (Pg i0 i1)) → Rj X (d + 4) 0 0 mX10_next Q 85 [.ref 33, .int (nI ja), .int (nI st), .int bI, .int (nI few), .int (nI m), .int (nI mo), .int (nI kd), .int (nI lk), .int (nI vv), .int (nI o)] [] n I J (Pg i0 i1) := by
      intro r
      induction r with
      | zero =>
        intro o lk kd mo vv few m bI hor hkd hm60 hmo hvv hlk hk2
        have hl6 : lk ≤ 6 := by rw [hlk]; have := cntL_le st (fun k => lft k (S.v 0 1) (S.v 0 2) (S.v 0 0) (S.v 2 ja) m) (lft kd (S.v 0 1) (S.v 0 2) (S.v 0 0) (S.v 2 ja) m) o; split <;> omega
        have hmm6 : mo ≤ 6 := by rw [hmo]; exact maL_le _ _ _
        refine j_iload dX10_next_85 rfl rfl ?_
        refine j_bipush (v := nI 6) dX10_next_87 rfl rfl ?_
        refine j_icmpgeN (tgt := 154) dX10_next_89 rfl rfl (by omega) (by decide) (fun h1 => ?_) (fun h1 => by exfalso; omega)
        refine j_iload dX10_next_154 rfl rfl ?_
        refine j_iload dX10_next_156 rfl rfl ?_
        refine j_icmpleN (tgt := 166) dX10_next_158 rfl rfl (by omega) (by omega) (fun h2 => ?_) (fun h2 => ?_)
        · refine j_iload dX10_next_166 rfl rfl ?_
          refine j_istore (L' := [.ref 33, .int (nI ja), .int (nI st), .int bI, .int (nI few), .int (nI m), .int (nI mo), .int (nI kd), .int (nI lk), .int (nI vv), .int (nI o)]) dX10_next_168 rfl rfl (by decide) rfl ?_
          refine j_iincN (L' := [.ref 33, .int (nI ja), .int (nI st), .int bI, .int (nI few), .int (nI m), .int (nI mo), .int (nI (kd + 1)), .int (nI lk), .int (nI vv), .int (nI o)]) dX10_next_170 rfl rfl (b := 1) rfl rfl rfl (by decide) rfl ?_
          refine j_goto (tgt := 47) dX10_next_173 rfl ?_
          refine hk2 _ _ _ _ ?_
          have ho6 : o = 6 := by omega
          subst ho6
          show _ = (if _ then max (maL st _ kd) (cntL st _ _ 6) else maL st _ kd)
          rw [← hmo]
          by_cases hbt : st / 2 ^ kd % 2 = 1
          · rw [if_pos hbt] at hlk ⊢
            show _ = max _ (cntL st (fun k => lft k (S.v 0 1) (S.v 0 2) (S.v 0 0) (S.v 2 ja) m) (lft kd (S.v 0 1) (S.v 0 2) (S.v 0 0) (S.v 2 ja) m) 6)
            rw [← hlk]
            try omega
          · rw [if_neg hbt] at hlk ⊢
            try omega
        · refine j_iload dX10_next_161 rfl rfl ?_
          refine j_goto (tgt := 168) dX10_next_163 rfl ?_
          refine j_istore (L' := [.ref 33, .int (nI ja), .int (nI st), .int bI, .int (nI few), .int (nI m), .int (nI lk), .int (nI kd), .int (nI lk), .int (nI vv), .int (nI o)]) dX10_next_168 rfl rfl (by decide) rfl ?_
          refine j_iincN (L' := [.ref 33, .int (nI ja), .int (nI st), .int bI, .int (nI few), .int (nI m), .int (nI lk), .int (nI (kd + 1)), .int (nI lk), .int (nI vv), .int (nI o)]) dX10_next_170 rfl rfl (b := 1) rfl rfl rfl (by decide) rfl ?_
          refine j_goto (tgt := 47) dX10_next_173 rfl ?_
          refine hk2 _ _ _ _ ?_
          have ho6 : o = 6 := by omega
          subst ho6
          show _ = (if _ then max (maL st _ kd) (cntL st _ _ 6) else maL st _ kd)
          rw [← hmo]
          by_cases hbt : st / 2 ^ kd % 2 = 1
          · rw [if_pos hbt] at hlk ⊢
            show _ = max _ (cntL st (fun k => lft k (S.v 0 1) (S.v 0 2) (S.v 0 0) (S.v 2 ja) m) (lft kd (S.v 0 1) (S.v 0 2) (S.v 0 0) (S.v 2 ja) m) 6)
            rw [← hlk]
            try omega
          · rw [if_neg hbt] at hlk ⊢
            try omega
      | succ r ih =>
        intro o lk kd mo vv few m bI hor hkd hm60 hmo hvv hlk hk2
        have hl6 : lk ≤ 6 := by rw [hlk]; have := cntL_le st (fun k => lft k (S.v 0 1) (S.v 0 2) (S.v 0 0) (S.v 2 ja) m) (lft kd (S.v 0 1) (S.v 0 2) (S.v 0 0) (S.v 2 ja) m) o; split <;> omega
        have hvl := lft_le kd (S.v 0 1) (S.v 0 2) m (S.v 0 0) (S.v 2 ja)
        rw [← hvv] at hvl
        refine j_iload dX10_next_85 rfl rfl ?_
        refine j_bipush (v := nI 6) dX10_next_87 rfl rfl ?_
        refine j_icmpgeN (tgt := 154) dX10_next_89 rfl rfl (by omega) (by decide) (fun h1 => by exfalso; omega) (fun h1 => ?_)
        refine j_iload dX10_next_92 rfl rfl ?_
        refine j_iload_n dX10_next_94 rfl rfl rfl ?_
        refine j_iload dX10_next_95 rfl rfl ?_
        refine j_callSw (As := [.int (nI st), .int (nI kd)]) dX10_next_97 rfl cX10_123 rfl (Nat.le_of_ble_eq_true rfl) rfl rfl (c_mhas (by omega) (by omega) (fun g2 => ?_) (fun g2 => ?_))
        · show Rj _ _ _ _ _ _ 100 [.ref 33, .int (nI ja), .int (nI st), .int bI, .int (nI few), .int (nI m), .int (nI mo), .int (nI kd), .int (nI lk), .int (nI vv), .int (nI o)] [.int (nI 1), .int (nI lk)] n I J (Pg i0 i1)
          refine j_ifeqN (tgt := 144) dX10_next_100 rfl rfl (by decide) (fun h3 => by exfalso; omega) (fun h3 => ?_)
          refine j_iload_n dX10_next_103 rfl rfl rfl ?_
          refine j_iload dX10_next_104 rfl rfl ?_
          refine j_callSw (As := [.int (nI st), .int (nI o)]) dX10_next_106 rfl cX10_123 rfl (Nat.le_of_ble_eq_true rfl) rfl rfl (c_mhas (by omega) (by omega) (fun g4 => ?_) (fun g4 => ?_))
          · show Rj _ _ _ _ _ _ 109 [.ref 33, .int (nI ja), .int (nI st), .int bI, .int (nI few), .int (nI m), .int (nI mo), .int (nI kd), .int (nI lk), .int (nI vv), .int (nI o)] [.int (nI 1), .int (nI lk)] n I J (Pg i0 i1)
            refine j_ifeqN (tgt := 144) dX10_next_109 rfl rfl (by decide) (fun h5 => by exfalso; omega) (fun h5 => ?_)
            refine j_aload_n dX10_next_112 rfl rfl rfl ?_
            refine j_iload dX10_next_113 rfl rfl ?_
            refine j_aload_n dX10_next_115 rfl rfl rfl ?_
            refine j_getP (b := 34) dX10_next_116 rfl fX10_7 rfl (by decide) rfl rfl ?_
            refine j_bipush (v := nI 13) dX10_next_119 rfl rfl ?_
            refine j_iload_n dX10_next_121 rfl rfl rfl ?_
            refine j_iaddN (c := 13 + ja) dX10_next_122 rfl rfl ?_
            refine j_iald (j := 13 + ja) (v := nI (S.v 2 ja)) dX10_next_123 rfl rfl (by decide) rfl (by omega) (by decide) (hm.v.lv (by omega)) ?_
            refine j_iload dX10_next_124 rfl rfl ?_
            refine j_aload_n dX10_next_126 rfl rfl rfl ?_
            refine j_getP (b := 34) dX10_next_127 rfl fX10_7 rfl (by decide) rfl rfl ?_
            refine j_iconst (v := nI 4) dX10_next_130 rfl rfl ?_
            refine j_iald (j := 4) (v := nI (S.v 0 2)) dX10_next_131 rfl rfl (by decide) rfl (by decide) (by decide) hm.v.mr ?_
            refine j_callVw (As := [.int (nI o), .int (nI (S.v 2 ja)), .int (nI m), .int (nI (S.v 0 2))]) dX10_next_132 rfl cX10_130 (by decide) rfl rfl (by decide) rfl (Nat.le_of_ble_eq_true rfl) rfl rfl (c_mleftOf hm.v (by omega) (by omega) (by omega) (by omega) w1 w2 ?_)
            have hllo := lft_le o (S.v 0 1) (S.v 0 2) m (S.v 0 0) (S.v 2 ja)
            show Rj _ _ _ _ _ _ 135 [.ref 33, .int (nI ja), .int (nI st), .int bI, .int (nI few), .int (nI m), .int (nI mo), .int (nI kd), .int (nI lk), .int (nI vv), .int (nI o)] [.int (nI (lft o (S.v 0 1) (S.v 0 2) (S.v 0 0) (S.v 2 ja) m)), .int (nI lk)] n I J (Pg i0 i1)
            refine j_iload dX10_next_135 rfl rfl ?_
            refine j_icmpneN (tgt := 144) dX10_next_137 rfl rfl (by omega) (by omega) (fun h6 => ?_) (fun h6 => ?_)
            · refine j_iconst (v := nI 0) dX10_next_144 rfl rfl ?_
              refine j_iaddN (c := lk) dX10_next_145 rfl rfl ?_
              refine j_istore (L' := [.ref 33, .int (nI ja), .int (nI st), .int bI, .int (nI few), .int (nI m), .int (nI mo), .int (nI kd), .int (nI lk), .int (nI vv), .int (nI o)]) dX10_next_146 rfl rfl (by decide) rfl ?_
              refine j_iincN (L' := [.ref 33, .int (nI ja), .int (nI st), .int bI, .int (nI few), .int (nI m), .int (nI mo), .int (nI kd), .int (nI lk), .int (nI vv), .int (nI (o + 1))]) dX10_next_148 rfl rfl (b := 1) rfl rfl rfl (by decide) rfl ?_
              refine j_goto (tgt := 85) dX10_next_151 rfl ?_
              refine ih (o + 1) _ kd mo vv few m bI (by omega) hkd hm60 hmo hvv ?_ hk2
              rw [hlk]
              show _ = (if _ then (if _ then _ else _) else _)
              first | (rw [if_neg (by assumption), if_neg (by assumption)]) | (rw [if_pos (by assumption), if_pos (by assumption), if_neg (fun q => absurd q.2 (by rw [← hvv]; assumption))]) | (rw [if_pos (by assumption), if_pos (by assumption), if_neg (fun q => absurd q.1 (by assumption))])
            · refine j_iconst (v := nI 1) dX10_next_140 rfl rfl ?_
              refine j_goto (tgt := 145) dX10_next_141 rfl ?_
              refine j_iaddN (c := lk + 1) dX10_next_145 rfl rfl ?_
              refine j_istore (L' := [.ref 33, .int (nI ja), .int (nI st), .int bI, .int (nI few), .int (nI m), .int (nI mo), .int (nI kd), .int (nI (lk + 1)), .int (nI vv), .int (nI o)]) dX10_next_146 rfl rfl (by decide) rfl ?_
              refine j_iincN (L' := [.ref 33, .int (nI ja), .int (nI st), .int bI, .int (nI few), .int (nI m), .int (nI mo), .int (nI kd), .int (nI (lk + 1)), .int (nI vv), .int (nI (o + 1))]) dX10_next_148 rfl rfl (b := 1) rfl rfl rfl (by decide) rfl ?_
              refine j_goto (tgt := 85) dX10_next_151 rfl ?_
              refine ih (o + 1) _ kd mo vv few m bI (by omega) hkd hm60 hmo hvv ?_ hk2
              rw [hlk]
              show _ = (if _ then (if _ then _ else _) else _)
              rw [if_pos (by assumption), if_pos (by assumption), if_pos (by refine ⟨by assumption, ?_⟩; rw [← hvv]; assumption)]
          · show Rj _ _ _ _ _ _ 109 [.ref 33, .int (nI ja), .int (nI st), .int bI, .int (nI few), .int (nI m), .int (nI mo), .int (nI kd), .int (nI lk), .int (nI vv), .int (nI o)] [.int (nI 0), .int (nI lk)] n I J (Pg i0 i1)
            refine j_ifeqN (tgt := 144) dX10_next_109 rfl rfl (by decide) (fun h7 => ?_) (fun h7 => by exfalso; omega)
            refine j_iconst (v := nI 0) dX10_next_144 rfl rfl ?_
            refine j_iaddN (c := lk) dX10_next_145 rfl rfl ?_
            refine j_istore (L' := [.ref 33, .int (nI ja), .int (nI st), .int bI, .int (nI few), .int (nI m), .int (nI mo), .int (nI kd), .int (nI lk), .int (nI vv), .int (nI o)]) dX10_next_146 rfl rfl (by decide) rfl ?_
            refine j_iincN (L' := [.ref 33, .int (nI ja), .int (nI st), .int bI, .int (nI few), .int (nI m), .int (nI mo), .int (nI kd), .int (nI lk), .int (nI vv), .int (nI (o + 1))]) dX10_next_148 rfl rfl (b := 1) rfl rfl rfl (by decide) rfl ?_
            refine j_goto (tgt := 85) dX10_next_151 rfl ?_
            refine ih (o + 1) _ kd mo vv few m bI (by omega) hkd hm60 hmo hvv ?_ hk2
            rw [hlk]
            show _ = (if _ then (if _ then _ else _) else _)
            first | (rw [if_neg (by assumption), if_neg (by assumption)]) | (rw [if_pos (by assumption), if_pos (by assumption), if_neg (fun q => absurd q.2 (by rw [← hvv]; assumption))]) | (rw [if_pos (by assumption), if_pos (by assumption), if_neg (fun q => absurd q.1 (by assumption))])
        · show Rj _ _ _ _ _ _ 100 [.ref 33, .int (nI ja), .int (nI st), .int bI, .int (nI few), .int (nI m), .int (nI mo), .int (nI kd), .int (nI lk), .int (nI vv), .int (nI o)] [.int (nI 0), .int (nI lk)] n I J (Pg i0 i1)
          refine j_ifeqN (tgt := 144) dX10_next_100 rfl rfl (by decide) (fun h8 => ?_) (fun h8 => by exfalso; omega)
          refine j_iconst (v := nI 0) dX10_next_144 rfl rfl ?_
          refine j_iaddN (c := lk) dX10_next_145 rfl rfl ?_
          refine j_istore (L' := [.ref 33, .int (nI ja), .int (nI st), .int bI, .int (nI few), .int (nI m), .int (nI mo), .int (nI kd), .int (nI lk), .int (nI vv), .int (nI o)]) dX10_next_146 rfl rfl (by decide) rfl ?_
          refine j_iincN (L' := [.ref 33, .int (nI ja), .int (nI st), .int bI, .int (nI few), .int (nI m), .int (nI mo), .int (nI kd), .int (nI lk), .int (nI vv), .int (nI (o + 1))]) dX10_next_148 rfl rfl (b := 1) rfl rfl rfl (by decide) rfl ?_
          refine j_goto (tgt := 85) dX10_next_151 rfl ?_
          refine ih (o + 1) _ kd mo vv few m bI (by omega) hkd hm60 hmo hvv ?_ hk2
          rw [hlk]
          show _ = (if _ then (if _ then _ else _) else _)
          first | (rw [if_neg (by assumption), if_neg (by assumption)]) | (rw [if_pos (by assumption), if_pos (by assumption), if_neg (fun q => absurd q.2 (by rw [← hvv]; assumption))]) | (rw [if_pos (by assumption), if_pos (by assumption), if_neg (fun q => absurd q.1 (by assumption))])
    have mid : ∀ (r kd mo few m r0 T : Nat) (bI : Int32) (z8 z9 z10 : Value), kd + r = 6 → m ≤ 60 → few ≤ 9 → mo = maL st (fun k => lft k (S.v 0 1) (S.v 0 2) (S.v 0 0) (S.v 2 ja) m) kd → ((m = 0 ∧ few = 9 ∧ r0 = 60 ∧ nxt (fun m => maL st (fun k => lft k (S.v 0 1) (S.v 0 2) (S.v 0 0) (S.v 2 ja) m) 6) 60 1 0 ((fun m => maL st (fun k => lft k (S.v 0 1) (S.v 0 2) (S.v 0 0) (S.v 2 ja) m) 6) 0) = T) ∨ ∃ b, bI = nI b ∧ nxt (fun m => maL st (fun k => lft k (S.v 0 1) (S.v 0 2) (S.v 0 0) (S.v 2 ja) m) 6) (r0 + 1) m b few = T) → (∀ (few2 : Nat) (bJ : Int32) (z6 z7 z8 z9 z10 : Value), few2 ≤ 9 → (∃ b, bJ = nI b ∧ nxt (fun m => maL st (fun k => lft k (S.v 0 1) (S.v 0 2) (S.v 0 0) (S.v 2 ja) m) 6) r0 (m + 1) b few2 = T) → Rj X (d + 4) 0 0 mX10_next Q 30 [.ref 33, .int (nI ja), .int (nI st), .int bJ, .int (nI few2), .int (nI (m + 1)), z6, z7, z8, z9, z10] [] n I J (Pg i0 i1)) → Rj X (d + 4) 0 0 mX10_next Q 47 [.ref 33, .int (nI ja), .int (nI st), .int bI, .int (nI few), .int (nI m), .int (nI mo), .int (nI kd), z8, z9, z10] [] n I J (Pg i0 i1) := by
      intro r
      induction r with
      | zero =>
        intro kd mo few m r0 T bI z8 z9 z10 hkr hm60 hf9 hmo hB hk3
        have hmm6 : mo ≤ 6 := by rw [hmo]; exact maL_le _ _ _
        refine j_iload dX10_next_47 rfl rfl ?_
        refine j_bipush (v := nI 6) dX10_next_49 rfl rfl ?_
        refine j_icmpgeN (tgt := 176) dX10_next_51 rfl rfl (by omega) (by decide) (fun h1 => ?_) (fun h1 => by exfalso; omega)
        refine j_iload dX10_next_176 rfl rfl ?_
        refine j_iload dX10_next_178 rfl rfl ?_
        refine j_icmpgeN (tgt := 188) dX10_next_180 rfl rfl (by omega) (by omega) (fun h2 => ?_) (fun h2 => ?_)
        · refine j_iload_n dX10_next_188 rfl rfl rfl ?_
          refine j_istore_n (L' := [.ref 33, .int (nI ja), .int (nI st), .int bI, .int (nI few), .int (nI m), .int (nI mo), .int (nI kd), z8, z9, z10]) dX10_next_189 rfl rfl rfl (by decide) rfl ?_
          refine j_iload dX10_next_190 rfl rfl ?_
          refine j_iload dX10_next_192 rfl rfl ?_
          refine j_icmpgeN (tgt := 202) dX10_next_194 rfl rfl (by omega) (by omega) (fun h3 => ?_) (fun h3 => ?_)
          · refine j_iload dX10_next_202 rfl rfl ?_
            refine j_istore (L' := [.ref 33, .int (nI ja), .int (nI st), .int bI, .int (nI few), .int (nI m), .int (nI mo), .int (nI kd), z8, z9, z10]) dX10_next_204 rfl rfl (by decide) rfl ?_
            refine j_iincN (L' := [.ref 33, .int (nI ja), .int (nI st), .int bI, .int (nI few), .int (nI (m + 1)), .int (nI mo), .int (nI kd), z8, z9, z10]) dX10_next_206 rfl rfl (b := 1) rfl rfl rfl (by decide) rfl ?_
            refine j_goto (tgt := 30) dX10_next_209 rfl ?_
            have hk6 : kd = 6 := by omega
            subst hk6
            have hgm : (fun m => maL st (fun k => lft k (S.v 0 1) (S.v 0 2) (S.v 0 0) (S.v 2 ja) m) 6) m = mo := hmo.symm
            refine hk3 few bI _ _ _ _ _ hf9 ?_
            rcases hB with ⟨k1, k2, k3, k4⟩ | ⟨b, k1, k2⟩
            · exfalso; omega
            · refine ⟨b, k1, ?_⟩
              rw [← k2]
              show _ = (if _ then _ else _)
              rw [hgm, if_neg (by omega)]
          · refine j_iload dX10_next_197 rfl rfl ?_
            refine j_goto (tgt := 204) dX10_next_199 rfl ?_
            refine j_istore (L' := [.ref 33, .int (nI ja), .int (nI st), .int bI, .int (nI mo), .int (nI m), .int (nI mo), .int (nI kd), z8, z9, z10]) dX10_next_204 rfl rfl (by decide) rfl ?_
            refine j_iincN (L' := [.ref 33, .int (nI ja), .int (nI st), .int bI, .int (nI mo), .int (nI (m + 1)), .int (nI mo), .int (nI kd), z8, z9, z10]) dX10_next_206 rfl rfl (b := 1) rfl rfl rfl (by decide) rfl ?_
            refine j_goto (tgt := 30) dX10_next_209 rfl ?_
            exfalso; omega
        · refine j_iload dX10_next_183 rfl rfl ?_
          refine j_goto (tgt := 189) dX10_next_185 rfl ?_
          refine j_istore_n (L' := [.ref 33, .int (nI ja), .int (nI st), .int (nI m), .int (nI few), .int (nI m), .int (nI mo), .int (nI kd), z8, z9, z10]) dX10_next_189 rfl rfl rfl (by decide) rfl ?_
          refine j_iload dX10_next_190 rfl rfl ?_
          refine j_iload dX10_next_192 rfl rfl ?_
          refine j_icmpgeN (tgt := 202) dX10_next_194 rfl rfl (by omega) (by omega) (fun h4 => ?_) (fun h4 => ?_)
          · refine j_iload dX10_next_202 rfl rfl ?_
            refine j_istore (L' := [.ref 33, .int (nI ja), .int (nI st), .int (nI m), .int (nI few), .int (nI m), .int (nI mo), .int (nI kd), z8, z9, z10]) dX10_next_204 rfl rfl (by decide) rfl ?_
            refine j_iincN (L' := [.ref 33, .int (nI ja), .int (nI st), .int (nI m), .int (nI few), .int (nI (m + 1)), .int (nI mo), .int (nI kd), z8, z9, z10]) dX10_next_206 rfl rfl (b := 1) rfl rfl rfl (by decide) rfl ?_
            refine j_goto (tgt := 30) dX10_next_209 rfl ?_
            exfalso; omega
          · refine j_iload dX10_next_197 rfl rfl ?_
            refine j_goto (tgt := 204) dX10_next_199 rfl ?_
            refine j_istore (L' := [.ref 33, .int (nI ja), .int (nI st), .int (nI m), .int (nI mo), .int (nI m), .int (nI mo), .int (nI kd), z8, z9, z10]) dX10_next_204 rfl rfl (by decide) rfl ?_
            refine j_iincN (L' := [.ref 33, .int (nI ja), .int (nI st), .int (nI m), .int (nI mo), .int (nI (m + 1)), .int (nI mo), .int (nI kd), z8, z9, z10]) dX10_next_206 rfl rfl (b := 1) rfl rfl rfl (by decide) rfl ?_
            refine j_goto (tgt := 30) dX10_next_209 rfl ?_
            have hk6 : kd = 6 := by omega
            subst hk6
            have hgm : (fun m => maL st (fun k => lft k (S.v 0 1) (S.v 0 2) (S.v 0 0) (S.v 2 ja) m) 6) m = mo := hmo.symm
            refine hk3 mo _ _ _ _ _ _ (by omega) ⟨m, rfl, ?_⟩
            rcases hB with ⟨k1, k2, k3, k4⟩ | ⟨b, k1, k2⟩
            · subst k1; subst k3
              rw [hgm] at k4
              exact k4
            · rw [← k2]
              show _ = (if _ then _ else _)
              rw [hgm, if_pos (by omega)]
      | succ r ih =>
        intro kd mo few m r0 T bI z8 z9 z10 hkr hm60 hf9 hmo hB hk3
        refine j_iload dX10_next_47 rfl rfl ?_
        refine j_bipush (v := nI 6) dX10_next_49 rfl rfl ?_
        refine j_icmpgeN (tgt := 176) dX10_next_51 rfl rfl (by omega) (by decide) (fun h1 => by exfalso; omega) (fun h1 => ?_)
        refine j_iconst (v := nI 0) dX10_next_54 rfl rfl ?_
        refine j_istore (L' := [.ref 33, .int (nI ja), .int (nI st), .int bI, .int (nI few), .int (nI m), .int (nI mo), .int (nI kd), .int (nI 0), z9, z10]) dX10_next_55 rfl rfl (by decide) rfl ?_
        refine j_aload_n dX10_next_57 rfl rfl rfl ?_
        refine j_iload dX10_next_58 rfl rfl ?_
        refine j_aload_n dX10_next_60 rfl rfl rfl ?_
        refine j_getP (b := 34) dX10_next_61 rfl fX10_7 rfl (by decide) rfl rfl ?_
        refine j_bipush (v := nI 13) dX10_next_64 rfl rfl ?_
        refine j_iload_n dX10_next_66 rfl rfl rfl ?_
        refine j_iaddN (c := 13 + ja) dX10_next_67 rfl rfl ?_
        refine j_iald (j := 13 + ja) (v := nI (S.v 2 ja)) dX10_next_68 rfl rfl (by decide) rfl (by omega) (by decide) (hm.v.lv (by omega)) ?_
        refine j_iload dX10_next_69 rfl rfl ?_
        refine j_aload_n dX10_next_71 rfl rfl rfl ?_
        refine j_getP (b := 34) dX10_next_72 rfl fX10_7 rfl (by decide) rfl rfl ?_
        refine j_iconst (v := nI 4) dX10_next_75 rfl rfl ?_
        refine j_iald (j := 4) (v := nI (S.v 0 2)) dX10_next_76 rfl rfl (by decide) rfl (by decide) (by decide) hm.v.mr ?_
        refine j_callVw (As := [.int (nI kd), .int (nI (S.v 2 ja)), .int (nI m), .int (nI (S.v 0 2))]) dX10_next_77 rfl cX10_130 (by decide) rfl rfl (by decide) rfl (by decide) rfl rfl (c_mleftOf hm.v (by omega) (by omega) (by omega) (by omega) w1 w2 ?_)
        have hllkd := lft_le kd (S.v 0 1) (S.v 0 2) m (S.v 0 0) (S.v 2 ja)
        show Rj _ _ _ _ _ _ 80 [.ref 33, .int (nI ja), .int (nI st), .int bI, .int (nI few), .int (nI m), .int (nI mo), .int (nI kd), .int (nI 0), z9, z10] [.int (nI (lft kd (S.v 0 1) (S.v 0 2) (S.v 0 0) (S.v 2 ja) m))] n I J (Pg i0 i1)
        refine j_istore (L' := [.ref 33, .int (nI ja), .int (nI st), .int bI, .int (nI few), .int (nI m), .int (nI mo), .int (nI kd), .int (nI 0), .int (nI (lft kd (S.v 0 1) (S.v 0 2) (S.v 0 0) (S.v 2 ja) m)), z10]) dX10_next_80 rfl rfl (by decide) rfl ?_
        refine j_iconst (v := nI 0) dX10_next_82 rfl rfl ?_
        refine j_istore (L' := [.ref 33, .int (nI ja), .int (nI st), .int bI, .int (nI few), .int (nI m), .int (nI mo), .int (nI kd), .int (nI 0), .int (nI (lft kd (S.v 0 1) (S.v 0 2) (S.v 0 0) (S.v 2 ja) m)), .int (nI 0)]) dX10_next_83 rfl rfl (by decide) rfl ?_
        exact inner 6 0 0 kd mo _ few m bI (by omega) (by omega) hm60 hmo rfl (by show 0 = (if _ then 0 else 0); split <;> rfl) (fun mo2 z8 z9 z10 k1 => ih (kd + 1) mo2 few m r0 T bI z8 z9 z10 (by omega) hm60 hf9 k1 hB hk3)
    have outer : ∀ (r m few T : Nat) (bI : Int32) (z6 z7 z8 z9 z10 : Value), m + r = 61 → ¬ st = 0 → few ≤ 9 → ((m = 0 ∧ few = 9 ∧ nxt (fun m => maL st (fun k => lft k (S.v 0 1) (S.v 0 2) (S.v 0 0) (S.v 2 ja) m) 6) 60 1 0 ((fun m => maL st (fun k => lft k (S.v 0 1) (S.v 0 2) (S.v 0 0) (S.v 2 ja) m) 6) 0) = T) ∨ ∃ b, bI = nI b ∧ nxt (fun m => maL st (fun k => lft k (S.v 0 1) (S.v 0 2) (S.v 0 0) (S.v 2 ja) m) 6) r m b few = T) → Q (some (.int (nI T))) n I J (Pg i0 i1) → Rj X (d + 4) 0 0 mX10_next Q 30 [.ref 33, .int (nI ja), .int (nI st), .int bI, .int (nI few), .int (nI m), z6, z7, z8, z9, z10] [] n I J (Pg i0 i1) := by
      intro r
      induction r with
      | zero =>
        intro m few T bI z6 z7 z8 z9 z10 hmr hs0 hf9 hB hQ
        refine j_iload dX10_next_30 rfl rfl ?_
        refine j_bipush (v := nI 60) dX10_next_32 rfl rfl ?_
        refine j_icmpgtN (tgt := 212) dX10_next_34 rfl rfl (by omega) (by decide) (fun h1 => ?_) (fun h1 => by exfalso; omega)
        refine j_iload_n dX10_next_212 rfl rfl rfl ?_
        refine j_iret dX10_next_213 rfl rfl ?_
        rcases hB with ⟨k1, k2, k3⟩ | ⟨b, k1, k2⟩
        · exfalso; omega
        · rw [k1]; have k2 : b = T := k2; rw [k2]; exact hQ
      | succ r ih =>
        intro m few T bI z6 z7 z8 z9 z10 hmr hs0 hf9 hB hQ
        refine j_iload dX10_next_30 rfl rfl ?_
        refine j_bipush (v := nI 60) dX10_next_32 rfl rfl ?_
        refine j_icmpgtN (tgt := 212) dX10_next_34 rfl rfl (by omega) (by decide) (fun h1 => by exfalso; omega) (fun h1 => ?_)
        refine j_iload_n dX10_next_37 rfl rfl rfl ?_
        refine j_ifeqN (tgt := 212) dX10_next_38 rfl rfl (by omega) (fun h2 => by exfalso; omega) (fun h2 => ?_)
        refine j_iconst (v := nI 0) dX10_next_41 rfl rfl ?_
        refine j_istore (L' := [.ref 33, .int (nI ja), .int (nI st), .int bI, .int (nI few), .int (nI m), .int (nI 0), z7, z8, z9, z10]) dX10_next_42 rfl rfl (by decide) rfl ?_
        refine j_iconst (v := nI 0) dX10_next_44 rfl rfl ?_
        refine j_istore (L' := [.ref 33, .int (nI ja), .int (nI st), .int bI, .int (nI few), .int (nI m), .int (nI 0), .int (nI 0), z8, z9, z10]) dX10_next_45 rfl rfl (by decide) rfl ?_
        refine mid 6 0 0 few m r T bI _ _ _ (by omega) (by omega) hf9 rfl ?_ (fun few2 bJ z6 z7 z8 z9 z10 k1 k2 => ih (m + 1) few2 T bJ z6 z7 z8 z9 z10 (by omega) hs0 k1 (Or.inr k2) hQ)
        rcases hB with ⟨k1, k2, k3⟩ | k
        · exact Or.inl ⟨k1, k2, by omega, k3⟩
        · exact Or.inr k
    by_cases hs0 : st = 0
    · have e : oNext S (nI ja) = (S, -1) := by unfold oNext nxV; rw [if_pos (by exact ha), tN_nI (show ja < 2 ^ 30 by omega), hst, if_pos hs0]
      rw [e] at hQ
      refine j_aload_n dX10_next_0 rfl rfl rfl ?_
      refine j_iload_n dX10_next_1 rfl rfl rfl ?_
      refine j_callVw (As := [.int (nI ja)]) dX10_next_2 rfl cX10_141 (by decide) rfl rfl (by decide) rfl (by decide) rfl rfl (c_misP hm.v w3 (fun _ => ?_) (fun q => absurd ha q))
      show Rj _ _ _ _ _ _ 5 [.ref 33, .int (nI ja), jU, jU, jU, jU, jU, jU, jU, jU, jU] [.int (nI 1)] n I J (Pg i0 i1)
      refine j_ifneN (tgt := 15) dX10_next_5 rfl rfl (by decide) (fun h1 => ?_) (fun h1 => by exfalso; omega)
      refine j_aload_n dX10_next_15 rfl rfl rfl ?_
      refine j_iload_n dX10_next_16 rfl rfl rfl ?_
      refine j_callVw (As := [.int (nI ja)]) dX10_next_17 rfl cX10_161 (by decide) rfl rfl (by decide) rfl (by decide) rfl rfl (c_mkindsOf hm hW hyb hau ?_)
      rw [hst]
      show Rj _ _ _ _ _ _ 20 [.ref 33, .int (nI ja), jU, jU, jU, jU, jU, jU, jU, jU, jU] [.int (nI st)] n I J (Pg i0 i1)
      refine j_istore_n (L' := [.ref 33, .int (nI ja), .int (nI st), jU, jU, jU, jU, jU, jU, jU, jU]) dX10_next_20 rfl rfl rfl (by decide) rfl ?_
      refine j_iconst (v := (-1)) dX10_next_21 rfl rfl ?_
      refine j_istore_n (L' := [.ref 33, .int (nI ja), .int (nI st), .int (-1), jU, jU, jU, jU, jU, jU, jU]) dX10_next_22 rfl rfl rfl (by decide) rfl ?_
      refine j_bipush (v := nI 9) dX10_next_23 rfl rfl ?_
      refine j_istore (L' := [.ref 33, .int (nI ja), .int (nI st), .int (-1), .int (nI 9), jU, jU, jU, jU, jU, jU]) dX10_next_25 rfl rfl (by decide) rfl ?_
      refine j_iconst (v := nI 0) dX10_next_27 rfl rfl ?_
      refine j_istore (L' := [.ref 33, .int (nI ja), .int (nI st), .int (-1), .int (nI 9), .int (nI 0), jU, jU, jU, jU, jU]) dX10_next_28 rfl rfl (by decide) rfl ?_
      refine j_iload dX10_next_30 rfl rfl ?_
      refine j_bipush (v := nI 60) dX10_next_32 rfl rfl ?_
      refine j_icmpgtN (tgt := 212) dX10_next_34 rfl rfl (by decide) (by decide) (fun h2 => by exfalso; omega) (fun h2 => ?_)
      refine j_iload_n dX10_next_37 rfl rfl rfl ?_
      refine j_ifeqN (tgt := 212) dX10_next_38 rfl rfl (by omega) (fun h3 => ?_) (fun h3 => by exfalso; omega)
      refine j_iload_n dX10_next_212 rfl rfl rfl ?_
      refine j_iret dX10_next_213 rfl rfl ?_
      exact hQ _ _ hm CF.rf
    · have e : oNext S (nI ja) = (S, nI (nxt (fun m => maL st (fun k => lft k (S.v 0 1) (S.v 0 2) (S.v 0 0) (S.v 2 ja) m) 6) 60 1 0 ((fun m => maL st (fun k => lft k (S.v 0 1) (S.v 0 2) (S.v 0 0) (S.v 2 ja) m) 6) 0))) := by unfold oNext nxV; rw [if_pos (by exact ha), tN_nI (show ja < 2 ^ 30 by omega), hst, if_neg hs0]
      rw [e] at hQ
      refine j_aload_n dX10_next_0 rfl rfl rfl ?_
      refine j_iload_n dX10_next_1 rfl rfl rfl ?_
      refine j_callVw (As := [.int (nI ja)]) dX10_next_2 rfl cX10_141 (by decide) rfl rfl (by decide) rfl (by decide) rfl rfl (c_misP hm.v w3 (fun _ => ?_) (fun q => absurd ha q))
      show Rj _ _ _ _ _ _ 5 [.ref 33, .int (nI ja), jU, jU, jU, jU, jU, jU, jU, jU, jU] [.int (nI 1)] n I J (Pg i0 i1)
      refine j_ifneN (tgt := 15) dX10_next_5 rfl rfl (by decide) (fun h1 => ?_) (fun h1 => by exfalso; omega)
      refine j_aload_n dX10_next_15 rfl rfl rfl ?_
      refine j_iload_n dX10_next_16 rfl rfl rfl ?_
      refine j_callVw (As := [.int (nI ja)]) dX10_next_17 rfl cX10_161 (by decide) rfl rfl (by decide) rfl (by decide) rfl rfl (c_mkindsOf hm hW hyb hau ?_)
      rw [hst]
      show Rj _ _ _ _ _ _ 20 [.ref 33, .int (nI ja), jU, jU, jU, jU, jU, jU, jU, jU, jU] [.int (nI st)] n I J (Pg i0 i1)
      refine j_istore_n (L' := [.ref 33, .int (nI ja), .int (nI st), jU, jU, jU, jU, jU, jU, jU, jU]) dX10_next_20 rfl rfl rfl (by decide) rfl ?_
      refine j_iconst (v := (-1)) dX10_next_21 rfl rfl ?_
      refine j_istore_n (L' := [.ref 33, .int (nI ja), .int (nI st), .int (-1), jU, jU, jU, jU, jU, jU, jU]) dX10_next_22 rfl rfl rfl (by decide) rfl ?_
      refine j_bipush (v := nI 9) dX10_next_23 rfl rfl ?_
      refine j_istore (L' := [.ref 33, .int (nI ja), .int (nI st), .int (-1), .int (nI 9), jU, jU, jU, jU, jU, jU]) dX10_next_25 rfl rfl (by decide) rfl ?_
      refine j_iconst (v := nI 0) dX10_next_27 rfl rfl ?_
      refine j_istore (L' := [.ref 33, .int (nI ja), .int (nI st), .int (-1), .int (nI 9), .int (nI 0), jU, jU, jU, jU, jU]) dX10_next_28 rfl rfl (by decide) rfl ?_
      exact outer 61 0 9 _ _ _ _ _ _ _ (by omega) hs0 (by omega) (Or.inl ⟨rfl, rfl, rfl⟩) (hQ _ _ hm CF.rf)
  · skip
    refine j_aload_n dX10_next_0 rfl rfl rfl ?_
    refine j_iload_n dX10_next_1 rfl rfl rfl ?_
    refine j_callVw (As := [.int a]) dX10_next_2 rfl cX10_141 (by decide) rfl rfl (by decide) rfl (by decide) rfl rfl (c_misP hm.v w3 (fun q => absurd q ha) (fun _ => ?_))
    show Rj _ _ _ _ _ _ 5 [.ref 33, .int a, jU, jU, jU, jU, jU, jU, jU, jU, jU] [.int (nI 0)] n I J (Pg i0 i1)
    refine j_ifneN (tgt := 15) dX10_next_5 rfl rfl (by decide) (fun h1 => by exfalso; omega) (fun h1 => ?_)
    refine j_aload_n dX10_next_8 rfl rfl rfl ?_
    refine j_bipush (v := (-2)) dX10_next_9 rfl rfl ?_
    refine j_callVw (As := [.int (-2)]) dX10_next_11 rfl cX10_54 (by decide) rfl rfl (by decide) rfl (by decide) rfl rfl (c_mbad ?_)
    show Rj _ _ _ _ _ _ 14 [.ref 33, .int a, jU, jU, jU, jU, jU, jU, jU, jU, jU] [.int (-2)] n (u2 I 39 0 (I 39 0 + nI 1)) J (Pg i0 i1)
    refine j_iret dX10_next_14 rfl rfl ?_
    have e : oNext S a = (S.bad, -2) := by unfold oNext; rw [if_neg (by first | exact ha | exact fun q => ha q.1 | exact fun q => hb q.2 | exact fun q => hb q.2.1 | exact fun q => hc q.2.2 | exact fun q => ha q.1.1 | exact fun q => hb q.1.2.1 | exact fun q => q.1.2.2 (congrArg nI (by assumption)) | exact fun q => hc q.2.1 | exact fun q => he q.2.2)]
    rw [e] at hQ
    exact hQ _ _ hm.bad (CF.u2 (by omega) (by omega))
