theorem or4095 {a b : Nat} (h : a ≤ 4095) (h2 : b ≤ 4095) : a ||| b ≤ 4095 := by
  have := Nat.or_lt_two_pow (n := 12) (show a < 2 ^ 12 by omega) (show b < 2 ^ 12 by omega)
  omega
theorem itm_WF {tx : Nat → Nat} {tl f g y : Nat} {w w1 : VT} {t : Bool} (h : itm tx tl f w = (t, g, w1)) (hW : WF y w) : WF y w1 := by
  have ed : ∀ k, 1 ≤ k → k ≤ 2 → w 0 k ≤ 4095 → itmD tx tl k f w = (t, g, w1) → WF y w1 := by
    intro k h1 h2 h3 e
    unfold itmD at e
    split at e
    · next ys g2 hy =>
      injection e with _ e; injection e with _ e; rw [← e]
      exact WF_set hW h1 h2 (or4095 h3 (yrs_le 151 f 0 _ _ (by omega) hy))
    · injection e with _ e; injection e with _ e; rw [← e]; exact hW
  unfold itm at h
  split at h
  · split at h
    · exact ed 1 (by omega) (by omega) hW.1.2.1 h
    · split at h
      · exact ed 2 (by omega) (by omega) hW.1.2.2.1 h
      · split at h
        · unfold itmP at h
          split at h
          · injection h with _ h; injection h with _ h; rw [← h]; exact hW
          · split at h
            · injection h with _ h; injection h with _ h; rw [← h]; exact hW
            · split at h
              · injection h with _ h; injection h with _ h; rw [← h]; exact hW
              · next h6 h1 h2 =>
                have q1 := of_decide_eq_true (eq_true_of_ne_false h1)
                have q2 := of_decide_eq_true (eq_true_of_ne_false h2)
                injection h with _ h; injection h with _ h; rw [← h]
                exact WF_pair hW (by omega) q1.2.2 q2.2.2
        · split at h
          · unfold itmK at h
            split at h
            · injection h with _ h; injection h with _ h; rw [← h]; exact hW
            · split at h
              · injection h with _ h; injection h with _ h; rw [← h]; exact hW
              · next h6 h1 =>
                have q1 := of_decide_eq_true (eq_true_of_ne_false h1)
                injection h with _ h; injection h with _ h; rw [← h]
                exact WF_kin hW (by omega) q1.2.1 q1.2.2
          · injection h with _ h; injection h with _ h; rw [← h]; exact hW
  · injection h with _ h; injection h with _ h; rw [← h]; exact hW
theorem rdL_WF {tx : Nat → Nat} {tl y : Nat} : ∀ r q f w, WF y w → WF y (rdL tx tl r q f w).2.2
  | 0, q, f, w, h => h
  | r + 1, q, f, w, h => by
    unfold rdL
    split
    · exact h
    · split
      · next g w1 e => exact rdL_WF r (q + 1) g w1 (itm_WF e h)
      · next g w1 e => exact itm_WF e h
theorem rdA_WF {tx : Nat → Nat} {tl y : Nat} {w : VT} (h : WF y w) : WF y (rdA tx tl w).2.2 := by
  unfold rdA
  split
  · exact rdL_WF _ _ _ _ h
  · exact h
theorem yrs_gt {tx : Nat → Nat} {tl : Nat} : ∀ r f ys y g, f ≤ tl → yrs tx tl r f ys = (some y, g) → nx tx tl f ≤ g
  | 0, f, ys, y, g, h, e => by simp [yrs] at e
  | r + 1, f, ys, y, g, h, e => by
    unfold yrs at e
    have h1 := nx_le (tx := tx) h
    split at e
    · injection e with _ e; omega
    · split at e
      · have h2 := yrs_gt r _ _ y g h1.1 e
        have h3 := nx_le (tx := tx) h1.1
        omega
      · simp at e
theorem itm_gt {tx : Nat → Nat} {tl f g : Nat} {w w1 : VT} (h : itm tx tl f w = (true, g, w1)) (hl : f ≤ tl) : f < g := by
  have n1 := nx_le (tx := tx) hl
  have n2 := nx_le (tx := tx) n1.1
  have n3 := nx_le (tx := tx) n2.1
  have ed : ∀ k, f < tl → itmD tx tl k f w = (true, g, w1) → f < g := by
    intro k h1 e
    unfold itmD at e
    split at e
    · next ys g2 hy =>
      have := yrs_gt 151 f 0 _ _ hl hy
      injection e with _ e; injection e with e _
      omega
    · injection e with e _; exact absurd e (by decide)
  unfold itm at h
  split at h
  · next hk =>
    have hf : f < tl := tkK_lt (tx := tx) (by omega)
    split at h
    · exact ed 1 hf h
    · split at h
      · exact ed 2 hf h
      · split at h
        · unfold itmP at h
          split at h
          · injection h with e _; exact absurd e (by decide)
          · split at h
            · injection h with e _; exact absurd e (by decide)
            · split at h
              · injection h with e _; exact absurd e (by decide)
              · injection h with _ h; injection h with h _; omega
        · split at h
          · unfold itmK at h
            split at h
            · injection h with e _; exact absurd e (by decide)
            · split at h
              · injection h with e _; exact absurd e (by decide)
              · injection h with _ h; injection h with h _; omega
          · injection h with e _; exact absurd e (by decide)
  · injection h with e _; exact absurd e (by decide)
def Frd (I : HI) (J : HJ) (I' : HI) (J' : HJ) : Prop := (∀ a, a ≠ 33 → a ≠ 35 → I' a = I a ∧ J' a = J a) ∧ I' 33 4 = I 33 4 ∧ J' 33 12 = J 33 12 ∧ J' 33 13 = J 33 13
theorem Frd.trans {I I1 I2 : HI} {J J1 J2 : HJ} (h : Frd I J I1 J1) (k : Frd I1 J1 I2 J2) : Frd I J I2 J2 := ⟨fun a ha hb => ⟨((k.1 a ha hb).1).trans (h.1 a ha hb).1, ((k.1 a ha hb).2).trans (h.1 a ha hb).2⟩, k.2.1.trans h.2.1, k.2.2.1.trans h.2.2.1, k.2.2.2.trans h.2.2.2⟩
theorem Fit.rdr {I I' : HI} {J J' : HJ} (h : Fit I J I' J') : Frd I J I' J' := ⟨h.1, h.2.1, h.2.2.2⟩
theorem Frd.u2 {I : HI} {J : HJ} {k : Nat} {x : Int32} (h : k ≠ 4) : Frd I J (u2 I 33 k x) J := ⟨fun a h1 _ => ⟨u2_ne _ _ _ h1, rfl⟩, u2_ne2 _ _ _ (Ne.symm h), rfl, rfl⟩
theorem MR.rd {I I' : HI} {J J' : HJ} {tl : Nat} {tx : Nat → Nat} (h : MR I tl tx) (k : Frd I J I' J') : MR I' tl tx := ⟨k.2.1.trans h.1, by rw [(k.1 38 (by omega) (by omega)).1]; exact h.2.1, h.2.2⟩
theorem MI.rd {S : SS} {I I' : HI} {J J' : HJ} (h : MI S I J) (k : Frd I J I' J') : MI S I' J' := h.scr (fun a h1 h2 h3 => (k.1 a (by omega) h3).1) k.2.1 k.2.2.1 k.2.2.2
theorem TM.items {I : HI} {J : HJ} {tx : Nat → Nat} {tl f : Nat} {x : Int32} (h : TM I J tx tl f) : TM (u2 I 33 11 x) J tx tl f := by
  unfold TM
  rw [u2_ne2 _ _ _ (by omega), u2_ne2 _ _ _ (by omega), u2_ne2 _ _ _ (by omega), u2_ne2 _ _ _ (by omega)]
  exact h
set_option maxHeartbeats 4000000 in
set_option maxRecDepth 100000 in
theorem g_read {X : jX} {d n : Nat} {I : HI} {J : HJ} {i0 i1 : Option Nat} {Q : jPost} {S : SS} {yb : Nat} (hm : MI S I J) (hW : WF yb S.v) (hyb : yb ≤ 2 ^ 12) (hQ : MP Q (oRead S) n I J (Pg i0 i1)) : Cj X (d + 4) 0 0 mX10_read [.ref 33] n I J (Pg i0 i1) Q := by
  refine Cj.intro rfl (Nat.le_of_ble_eq_true rfl) (L := [.ref 33]) rfl ?_
  have hR : MR I S.tl S.tx := hm.2.1
  have loop : ∀ (r q f : Nat) (w : VT) (Ia : HI) (Ja : HJ) (T : Option Nat × Nat × VT), 0 < q ∧ q + r ≤ 200 → 150 ≤ f + r → f ≤ S.tl → TM Ia Ja S.tx S.tl (nx S.tx S.tl f) → VM 35 0 Ia w → WF 0 w → Ia 33 11 = nI q → Frd I J Ia Ja → rdL S.tx S.tl (r + 1) q f w = T → MP Q (match T with | (some k, _, w) => (S.set w, nI k) | (none, g, _) => (S, -10 - nI g)) n I J (Pg i0 i1) → Rj X (d + 4) 0 0 mX10_read Q 21 [.ref 33] [] n Ia Ja (Pg i0 i1) := by
    intro r
    induction r with
    | zero =>
      intro q f w Ia Ja T hq1 hfr hfl hT hV hW hb11 hF hr hQ
      have hRa : MR Ia S.tl S.tx := hR.rd hF
      have n1 := nx_le (tx := S.tx) hfl
      have h150 := hR.2.2.1
      have hk4 := tkK_le S.tx S.tl (nx S.tx S.tl f)
      have hm4 := mkT_4 hk4
      have hm5 := mkT_le hk4
      have hk0 : tkK S.tx S.tl (nx S.tx S.tl f) = 0 := by unfold tkK; rw [if_pos (by omega)]
      refine j_aload_n dX10_read_21 rfl rfl rfl ?_
      refine j_getIv (v := nI (mkT (tkK S.tx S.tl (nx S.tx S.tl f)))) dX10_read_22 rfl fX10_79 rfl (by decide) rfl hT.1.2.2 ?_
      refine j_iconst (v := nI 4) dX10_read_25 rfl rfl ?_
      refine j_icmpneN (tgt := 36) dX10_read_26 rfl rfl (by omega) (by decide) (fun h1 => by exfalso; omega) (fun h1 => ?_)
      refine j_aload_n dX10_read_29 rfl rfl rfl ?_
      refine j_getIv (v := nI q) dX10_read_30 rfl fX10_101 rfl (by decide) rfl hb11 ?_
      refine j_ifneN (tgt := 68) dX10_read_33 rfl rfl (by omega) (fun h2 => ?_) (fun h2 => by exfalso; omega)
      refine j_aload_n dX10_read_68 rfl rfl rfl ?_
      refine j_getP (b := 35) dX10_read_69 rfl fX10_13 rfl (by decide) rfl rfl ?_
      refine j_iconst (v := nI 0) dX10_read_72 rfl rfl ?_
      refine j_aload_n dX10_read_73 rfl rfl rfl ?_
      refine j_getP (b := 34) dX10_read_74 rfl fX10_7 rfl (by decide) rfl rfl ?_
      refine j_iconst (v := nI 0) dX10_read_77 rfl rfl ?_
      refine j_callSw (As := [.ref 35, .int (nI 0), .ref 34, .int (nI 0)]) dX10_read_78 rfl cX10_119 rfl (by decide) rfl rfl (c_mcopy_35_0_34_0 (fun g2 hg hh => ?_))
      show Rj _ _ _ _ _ _ 81 [.ref 33] [] n (ur Ia 34 g2) Ja (Pg i0 i1)
      refine j_aload_n dX10_read_81 rfl rfl rfl ?_
      refine j_getIv (v := nI q) dX10_read_82 rfl fX10_101 rfl (by decide) rfl hb11 ?_
      refine j_iret dX10_read_85 rfl rfl ?_
      have hTe : T = (some q, (nx S.tx S.tl f), w) := by rw [← hr]; unfold rdL; rw [if_pos (by omega)]
      rw [hTe] at hQ
      have hm2 := hm.rd hF
      exact hQ _ _ (hm2.one (hV.shift hW.1.2.2.2.1 hW.1.2.2.2.2.1 hW.1.2.2.2.2.2.1 hW.1.2.2.2.2.2.2 (fun k hk => by rw [ur_row]; exact hg k hk)) (fun a ha => ur_ne _ _ ha)) (fun b hb => ⟨by rw [ur_ne _ _ (by omega)]; exact (hF.1 b (by omega) (by omega)).1, (hF.1 b (by omega) (by omega)).2⟩)
    | succ r ih =>
      intro q f w Ia Ja T hq1 hfr hfl hT hV hW hb11 hF hr hQ
      have hRa : MR Ia S.tl S.tx := hR.rd hF
      have n1 := nx_le (tx := S.tx) hfl
      have h150 := hR.2.2.1
      have hk4 := tkK_le S.tx S.tl (nx S.tx S.tl f)
      have hm4 := mkT_4 hk4
      have hm5 := mkT_le hk4
      refine j_aload_n dX10_read_21 rfl rfl rfl ?_
      refine j_getIv (v := nI (mkT (tkK S.tx S.tl (nx S.tx S.tl f)))) dX10_read_22 rfl fX10_79 rfl (by decide) rfl hT.1.2.2 ?_
      refine j_iconst (v := nI 4) dX10_read_25 rfl rfl ?_
      refine j_icmpneN (tgt := 36) dX10_read_26 rfl rfl (by omega) (by decide) (fun h1 => ?_) (fun h1 => ?_)
      · refine j_aload_n dX10_read_36 rfl rfl rfl ?_
        refine j_callVw (As := []) dX10_read_37 rfl cX10_116 (by decide) rfl rfl (by decide) rfl (by decide) rfl rfl (c_misItem0 hRa hT hV hb11 (by omega) hW.1.2.2.2.1 hW.1.2.2.2.2.1 hW.1.2.1 hW.1.2.2.1 rfl (fun g w1 hi I2 J2 hT2 hV2 hF2 => ?_) (fun g w1 hi I2 J2 hT2 hV2 hF2 => ?_))
        · have hc11 : I2 33 11 = nI q := hF2.2.2.1.trans hb11
          show Rj _ _ _ _ _ _ 40 [.ref 33] [.int (nI 1)] n I2 J2 (Pg i0 i1)
          refine j_ifneN (tgt := 51) dX10_read_40 rfl rfl (by decide) (fun h2 => ?_) (fun h2 => by exfalso; omega)
          refine j_aload_n dX10_read_51 rfl rfl rfl ?_
          refine j_dup dX10_read_52 rfl rfl ?_
          refine j_getIv (v := nI q) dX10_read_53 rfl fX10_101 rfl (by decide) rfl hc11 ?_
          refine j_iconst (v := nI 1) dX10_read_56 rfl rfl ?_
          refine j_iaddN (c := q + 1) dX10_read_57 rfl rfl ?_
          refine j_putI dX10_read_58 rfl fX10_101 rfl (by decide) rfl rfl ?_
          refine j_aload_n dX10_read_61 rfl rfl rfl ?_
          refine j_callVw (As := []) dX10_read_62 rfl cX10_94 (by decide) rfl rfl (by decide) rfl (by decide) rfl rfl (c_mtok (b := tkE S.tx S.tl g) ((hRa.rd hF2.rdr).rd (Frd.u2 (J := J2) (by omega))) hT2.items.1.1 (tkE_le hT2.2.2.2).2.1 (fun I3 J3 hT3 hF3 => ?_))
          have hT3 : TM I3 J3 S.tx S.tl (nx S.tx S.tl g) := hT3
          show Rj _ _ _ _ _ _ 65 [.ref 33] [] n I3 J3 (Pg i0 i1)
          refine j_goto (tgt := 21) dX10_read_65 rfl ?_
          have hTe : rdL S.tx S.tl (r + 1) (q + 1) g w1 = T := by
            rw [← hr]; conv => rhs; unfold rdL
            rw [if_neg (by omega), hi]
          have hgt := itm_gt hi n1.1
          have hgl := hT2.2.2.2
          refine ih (q + 1) g w1 I3 J3 T (by omega) (by omega) hgl hT3 ?_ (itm_WF hi hW) ?_ ((hF.trans hF2.rdr).trans ((Frd.u2 (by omega)).trans hF3.it.rdr)) hTe hQ
          · exact (hV2.congr (u2_ne _ _ _ (by omega))).congr (hF3.1 35 (by omega)).1
          · rw [hF3.2.2.1, u2_self]
        · show Rj _ _ _ _ _ _ 40 [.ref 33] [.int (nI 0)] n I2 J2 (Pg i0 i1)
          refine j_ifneN (tgt := 51) dX10_read_40 rfl rfl (by decide) (fun h3 => by exfalso; omega) (fun h3 => ?_)
          refine j_bipush (v := (-10)) dX10_read_43 rfl rfl ?_
          refine j_aload_n dX10_read_45 rfl rfl rfl ?_
          refine j_getIv (v := nI g) dX10_read_46 rfl fX10_76 rfl (by decide) rfl hT2.1.2.1 ?_
          refine j_isub dX10_read_49 rfl ?_
          refine j_iret dX10_read_50 rfl rfl ?_
          have hTe : T = (none, g, w1) := by rw [← hr]; unfold rdL; rw [if_neg (by omega), hi]
          rw [hTe] at hQ
          have hF4 := hF.trans hF2.rdr
          exact hQ _ _ (hm.rd hF4) (fun b hb => hF4.1 b (by omega) (by omega))
      · refine j_aload_n dX10_read_29 rfl rfl rfl ?_
        refine j_getIv (v := nI q) dX10_read_30 rfl fX10_101 rfl (by decide) rfl hb11 ?_
        refine j_ifneN (tgt := 68) dX10_read_33 rfl rfl (by omega) (fun h4 => ?_) (fun h4 => by exfalso; omega)
        refine j_aload_n dX10_read_68 rfl rfl rfl ?_
        refine j_getP (b := 35) dX10_read_69 rfl fX10_13 rfl (by decide) rfl rfl ?_
        refine j_iconst (v := nI 0) dX10_read_72 rfl rfl ?_
        refine j_aload_n dX10_read_73 rfl rfl rfl ?_
        refine j_getP (b := 34) dX10_read_74 rfl fX10_7 rfl (by decide) rfl rfl ?_
        refine j_iconst (v := nI 0) dX10_read_77 rfl rfl ?_
        refine j_callSw (As := [.ref 35, .int (nI 0), .ref 34, .int (nI 0)]) dX10_read_78 rfl cX10_119 rfl (by decide) rfl rfl (c_mcopy_35_0_34_0 (fun g2 hg hh => ?_))
        show Rj _ _ _ _ _ _ 81 [.ref 33] [] n (ur Ia 34 g2) Ja (Pg i0 i1)
        refine j_aload_n dX10_read_81 rfl rfl rfl ?_
        refine j_getIv (v := nI q) dX10_read_82 rfl fX10_101 rfl (by decide) rfl hb11 ?_
        refine j_iret dX10_read_85 rfl rfl ?_
        have hTe : T = (some q, (nx S.tx S.tl f), w) := by rw [← hr]; unfold rdL; rw [if_pos (by omega)]
        rw [hTe] at hQ
        have hm2 := hm.rd hF
        exact hQ _ _ (hm2.one (hV.shift hW.1.2.2.2.1 hW.1.2.2.2.2.1 hW.1.2.2.2.2.2.1 hW.1.2.2.2.2.2.2 (fun k hk => by rw [ur_row]; exact hg k hk)) (fun a ha => ur_ne _ _ ha)) (fun b hb => ⟨by rw [ur_ne _ _ (by omega)]; exact (hF.1 b (by omega) (by omega)).1, (hF.1 b (by omega) (by omega)).2⟩)
  refine j_aload_n dX10_read_0 rfl rfl rfl ?_
  refine j_getP (b := 35) dX10_read_1 rfl fX10_13 rfl (by decide) rfl rfl ?_
  refine j_callSw (As := [.ref 35]) dX10_read_4 rfl cX10_46 rfl (by decide) rfl rfl (c_lay35 (fun g0 hgz hg2 => ?_))
  show Rj _ _ _ _ _ _ 7 [.ref 33] [] n (ur I 35 g0) J (Pg i0 i1)
  refine j_aload_n dX10_read_7 rfl rfl rfl ?_
  refine j_iconst (v := nI 0) dX10_read_8 rfl rfl ?_
  refine j_putI dX10_read_9 rfl fX10_70 rfl (by decide) rfl rfl ?_
  refine j_aload_n dX10_read_12 rfl rfl rfl ?_
  refine j_iconst (v := nI 0) dX10_read_13 rfl rfl ?_
  refine j_putI dX10_read_14 rfl fX10_101 rfl (by decide) rfl rfl ?_
  have hF0 : Frd I J (u2 (u2 (ur I 35 g0) 33 6 (nI 0)) 33 11 (nI 0)) J := ⟨fun a h1 h2 => ⟨by rw [u2_ne _ _ _ h1, u2_ne _ _ _ h1, ur_ne _ _ h2], rfl⟩, by rw [u2_ne2 _ _ _ (by omega), u2_ne2 _ _ _ (by omega), ur_ne _ _ (by omega)], rfl, rfl⟩
  refine j_aload_n dX10_read_17 rfl rfl rfl ?_
  refine j_callVw (As := []) dX10_read_18 rfl cX10_94 (by decide) rfl rfl (by decide) rfl (by decide) rfl rfl (c_mtok (b := 0) (hR.rd hF0) (by rw [u2_ne2 _ _ _ (by omega), u2_self]) (Nat.zero_le _) (fun I1 J1 hT1 hF1 => ?_))
  have hT1 : TM I1 J1 S.tx S.tl (tkF S.tx S.tl 0) := hT1
  have hb11 : I1 33 11 = nI 0 := by rw [hF1.2.2.1, u2_self]
  have hF01 : Frd I J I1 J1 := hF0.trans hF1.it.rdr
  have hk4 := tkK_le S.tx S.tl (tkF S.tx S.tl 0)
  have hm5 := mkT_le hk4
  show Rj _ _ _ _ _ _ 21 [.ref 33] [] n I1 J1 (Pg i0 i1)
  refine j_aload_n dX10_read_21 rfl rfl rfl ?_
  refine j_getIv (v := nI (mkT (tkK S.tx S.tl (tkF S.tx S.tl 0)))) dX10_read_22 rfl fX10_79 rfl (by decide) rfl hT1.1.2.2 ?_
  refine j_iconst (v := nI 4) dX10_read_25 rfl rfl ?_
  refine j_icmpneN (tgt := 36) dX10_read_26 rfl rfl (by omega) (by decide) (fun h1 => ?_) (fun h1 => ?_)
  · refine j_aload_n dX10_read_36 rfl rfl rfl ?_
    refine j_callVw (As := []) dX10_read_37 rfl cX10_116 (by decide) rfl rfl (by decide) rfl (by decide) rfl rfl (c_misItem1 (hR.rd hF01) hT1 hb11 rfl (fun g hi I2 J2 hT2 hF2 => ?_) (fun g hi I2 J2 hT2 hF2 => ?_))
    · have hc11 : I2 33 11 = nI 0 := hF2.2.2.1.trans hb11
      show Rj _ _ _ _ _ _ 40 [.ref 33] [.int (nI 1)] n I2 J2 (Pg i0 i1)
      refine j_ifneN (tgt := 51) dX10_read_40 rfl rfl (by decide) (fun h2 => ?_) (fun h2 => by exfalso; omega)
      refine j_aload_n dX10_read_51 rfl rfl rfl ?_
      refine j_dup dX10_read_52 rfl rfl ?_
      refine j_getIv (v := nI 0) dX10_read_53 rfl fX10_101 rfl (by decide) rfl hc11 ?_
      refine j_iconst (v := nI 1) dX10_read_56 rfl rfl ?_
      refine j_iaddN (c := 1) dX10_read_57 rfl rfl ?_
      refine j_putI dX10_read_58 rfl fX10_101 rfl (by decide) rfl rfl ?_
      refine j_aload_n dX10_read_61 rfl rfl rfl ?_
      refine j_callVw (As := []) dX10_read_62 rfl cX10_94 (by decide) rfl rfl (by decide) rfl (by decide) rfl rfl (c_mtok (b := tkE S.tx S.tl g) (((hR.rd hF01).rd hF2.it.rdr).rd (Frd.u2 (J := J2) (by omega))) hT2.items.1.1 (tkE_le hT2.2.2.2).2.1 (fun I3 J3 hT3 hF3 => ?_))
      have hT3 : TM I3 J3 S.tx S.tl (nx S.tx S.tl g) := hT3
      show Rj _ _ _ _ _ _ 65 [.ref 33] [] n I3 J3 (Pg i0 i1)
      refine j_goto (tgt := 21) dX10_read_65 rfl ?_
      have hA : rdA S.tx S.tl (vZ (fun _ _ => 0)) = rdL S.tx S.tl 150 1 g (vZ (fun _ _ => 0)) := by unfold rdA; rw [show itmV S.tx S.tl (tkF S.tx S.tl 0) = (true, g) from hi]
      unfold oRead at hQ
      rw [hA] at hQ
      have hgl := hT2.2.2.2
      have hg1 : 0 < g := by
        have n1 := nx_le (tx := S.tx) hT1.2.2.2
        unfold itmV at hi
        split at hi
        · next hz =>
          have := tkK_lt (tx := S.tx) (tl := S.tl) (f := (tkF S.tx S.tl 0)) (by omega)
          injection hi with _ hi
          omega
        · injection hi with hi _; exact absurd hi (by decide)
      refine loop 149 1 g _ I3 J3 _ (by omega) (by omega) hgl hT3 ?_ (WF_Z 0 _) ?_ ((hF01.trans hF2.it.rdr).trans ((Frd.u2 (by omega)).trans hF3.it.rdr)) rfl hQ
      · have hV0 : VM 35 0 (u2 (u2 (ur I 35 g0) 33 6 (nI 0)) 33 11 (nI 0)) (vZ (fun _ _ => 0)) := VM_Z (fun k hk => by rw [u2_ne _ _ _ (by omega), u2_ne _ _ _ (by omega), ur_row]; exact hgz k (by omega))
        exact (((hV0.congr (hF1.1 35 (by omega)).1).congr (hF2.1 35 (by omega)).1).congr (u2_ne _ _ _ (by omega))).congr (hF3.1 35 (by omega)).1
      · rw [hF3.2.2.1, u2_self]
    · show Rj _ _ _ _ _ _ 40 [.ref 33] [.int (nI 0)] n I2 J2 (Pg i0 i1)
      refine j_ifneN (tgt := 51) dX10_read_40 rfl rfl (by decide) (fun h3 => by exfalso; omega) (fun h3 => ?_)
      refine j_bipush (v := (-10)) dX10_read_43 rfl rfl ?_
      refine j_aload_n dX10_read_45 rfl rfl rfl ?_
      refine j_getIv (v := nI g) dX10_read_46 rfl fX10_76 rfl (by decide) rfl hT2.1.2.1 ?_
      refine j_isub dX10_read_49 rfl ?_
      refine j_iret dX10_read_50 rfl rfl ?_
      have hA : rdA S.tx S.tl (vZ (fun _ _ => 0)) = (none, g, vZ (fun _ _ => 0)) := by unfold rdA; rw [show itmV S.tx S.tl (tkF S.tx S.tl 0) = (false, g) from hi]
      unfold oRead at hQ
      rw [hA] at hQ
      have hF4 := hF01.trans hF2.it.rdr
      exact hQ _ _ (hm.rd hF4) (fun b hb => hF4.1 b (by omega) (by omega))
  · refine j_aload_n dX10_read_29 rfl rfl rfl ?_
    refine j_getIv (v := nI 0) dX10_read_30 rfl fX10_101 rfl (by decide) rfl hb11 ?_
    refine j_ifneN (tgt := 68) dX10_read_33 rfl rfl (by decide) (fun h4 => by exfalso; omega) (fun h4 => ?_)
    refine j_aload_n dX10_read_36 rfl rfl rfl ?_
    refine j_callVw (As := []) dX10_read_37 rfl cX10_116 (by decide) rfl rfl (by decide) rfl (by decide) rfl rfl (c_misItem1 (hR.rd hF01) hT1 hb11 rfl (fun g hi I2 J2 hT2 hF2 => ?_) (fun g hi I2 J2 hT2 hF2 => ?_))
    · have hc11 : I2 33 11 = nI 0 := hF2.2.2.1.trans hb11
      show Rj _ _ _ _ _ _ 40 [.ref 33] [.int (nI 1)] n I2 J2 (Pg i0 i1)
      refine j_ifneN (tgt := 51) dX10_read_40 rfl rfl (by decide) (fun h5 => ?_) (fun h5 => by exfalso; omega)
      refine j_aload_n dX10_read_51 rfl rfl rfl ?_
      refine j_dup dX10_read_52 rfl rfl ?_
      refine j_getIv (v := nI 0) dX10_read_53 rfl fX10_101 rfl (by decide) rfl hc11 ?_
      refine j_iconst (v := nI 1) dX10_read_56 rfl rfl ?_
      refine j_iaddN (c := 1) dX10_read_57 rfl rfl ?_
      refine j_putI dX10_read_58 rfl fX10_101 rfl (by decide) rfl rfl ?_
      refine j_aload_n dX10_read_61 rfl rfl rfl ?_
      refine j_callVw (As := []) dX10_read_62 rfl cX10_94 (by decide) rfl rfl (by decide) rfl (by decide) rfl rfl (c_mtok (b := tkE S.tx S.tl g) (((hR.rd hF01).rd hF2.it.rdr).rd (Frd.u2 (J := J2) (by omega))) hT2.items.1.1 (tkE_le hT2.2.2.2).2.1 (fun I3 J3 hT3 hF3 => ?_))
      have hT3 : TM I3 J3 S.tx S.tl (nx S.tx S.tl g) := hT3
      show Rj _ _ _ _ _ _ 65 [.ref 33] [] n I3 J3 (Pg i0 i1)
      refine j_goto (tgt := 21) dX10_read_65 rfl ?_
      have hA : rdA S.tx S.tl (vZ (fun _ _ => 0)) = rdL S.tx S.tl 150 1 g (vZ (fun _ _ => 0)) := by unfold rdA; rw [show itmV S.tx S.tl (tkF S.tx S.tl 0) = (true, g) from hi]
      unfold oRead at hQ
      rw [hA] at hQ
      have hgl := hT2.2.2.2
      have hg1 : 0 < g := by
        have n1 := nx_le (tx := S.tx) hT1.2.2.2
        unfold itmV at hi
        split at hi
        · next hz =>
          have := tkK_lt (tx := S.tx) (tl := S.tl) (f := (tkF S.tx S.tl 0)) (by omega)
          injection hi with _ hi
          omega
        · injection hi with hi _; exact absurd hi (by decide)
      refine loop 149 1 g _ I3 J3 _ (by omega) (by omega) hgl hT3 ?_ (WF_Z 0 _) ?_ ((hF01.trans hF2.it.rdr).trans ((Frd.u2 (by omega)).trans hF3.it.rdr)) rfl hQ
      · have hV0 : VM 35 0 (u2 (u2 (ur I 35 g0) 33 6 (nI 0)) 33 11 (nI 0)) (vZ (fun _ _ => 0)) := VM_Z (fun k hk => by rw [u2_ne _ _ _ (by omega), u2_ne _ _ _ (by omega), ur_row]; exact hgz k (by omega))
        exact (((hV0.congr (hF1.1 35 (by omega)).1).congr (hF2.1 35 (by omega)).1).congr (u2_ne _ _ _ (by omega))).congr (hF3.1 35 (by omega)).1
      · rw [hF3.2.2.1, u2_self]
    · show Rj _ _ _ _ _ _ 40 [.ref 33] [.int (nI 0)] n I2 J2 (Pg i0 i1)
      refine j_ifneN (tgt := 51) dX10_read_40 rfl rfl (by decide) (fun h6 => by exfalso; omega) (fun h6 => ?_)
      refine j_bipush (v := (-10)) dX10_read_43 rfl rfl ?_
      refine j_aload_n dX10_read_45 rfl rfl rfl ?_
      refine j_getIv (v := nI g) dX10_read_46 rfl fX10_76 rfl (by decide) rfl hT2.1.2.1 ?_
      refine j_isub dX10_read_49 rfl ?_
      refine j_iret dX10_read_50 rfl rfl ?_
      have hA : rdA S.tx S.tl (vZ (fun _ _ => 0)) = (none, g, vZ (fun _ _ => 0)) := by unfold rdA; rw [show itmV S.tx S.tl (tkF S.tx S.tl 0) = (false, g) from hi]
      unfold oRead at hQ
      rw [hA] at hQ
      have hF4 := hF01.trans hF2.it.rdr
      exact hQ _ _ (hm.rd hF4) (fun b hb => hF4.1 b (by omega) (by omega))
