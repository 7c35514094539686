/-- the items behind the first: how many, or none and where the fault is -/
def rdL (tx : Nat → Nat) (tl : Nat) : Nat → Nat → Nat → VT → Option Nat × Nat × VT
  | 0, _, f, w => (none, f, w)
  | r + 1, q, f, w => if tkK tx tl (nx tx tl f) = 0 then (some q, nx tx tl f, w) else match itm tx tl (nx tx tl f) w with
    | (true, g, w1) => rdL tx tl r (q + 1) g w1
    | (false, g, w1) => (none, g, w1)
def rdA (tx : Nat → Nat) (tl : Nat) (w : VT) : Option Nat × Nat × VT := match itmV tx tl (tkF tx tl 0) with
  | (true, g) => rdL tx tl 150 1 g w
  | (false, g) => (none, g, w)
/-- few enough -/
def Few (w : VT) : Prop := w 0 3 ≤ 6 ∧ w 0 4 ≤ 8 ∧ w 0 5 ≤ 8
theorem itm_few {tx : Nat → Nat} {tl f g : Nat} {w w1 : VT} {t : Bool} (h : itm tx tl f w = (t, g, w1)) (hf : Few w) : Few w1 := by
  have ed : ∀ k, 1 ≤ k → k ≤ 2 → itmD tx tl k f w = (t, g, w1) → Few w1 := by
    intro k h1 h2 e
    unfold itmD at e
    split at e <;> injection e with _ e <;> injection e with _ e <;> rw [← e]
    · unfold Few vSet
      simp only [if_true]
      rw [if_neg (by omega), if_neg (by omega), if_neg (by omega)]
      exact hf
    · exact hf
  have bad : (false, f, w) = (t, g, w1) → Few w1 := by
    intro e
    injection e with _ e
    injection e with _ e
    rw [← e]
    exact hf
  unfold itm at h
  split at h
  · split at h
    · exact ed 1 (by omega) (by omega) h
    · split at h
      · exact ed 2 (by omega) (by omega) h
      · split at h
        · unfold itmP at h
          split at h
          · exact bad h
          · next hp =>
            split at h
            · injection h with _ e
              injection e with _ e
              rw [← e]
              exact hf
            · split at h
              · injection h with _ e
                injection e with _ e
                rw [← e]
                exact hf
              · injection h with _ e
                injection e with _ e
                rw [← e]
                exact ⟨show w 0 3 + 1 ≤ 6 by omega, hf.2⟩
        · split at h
          · unfold itmK at h
            split at h
            · exact bad h
            · next hp =>
              split at h
              · injection h with _ e
                injection e with _ e
                rw [← e]
                exact hf
              · injection h with _ e
                injection e with _ e
                rw [← e]
                exact ⟨hf.1, show w 0 4 + 1 ≤ 8 by omega, hf.2.2⟩
          · exact bad h
  · exact bad h
theorem few_Z (w : VT) : Few (vZ w) := ⟨Nat.zero_le _, Nat.zero_le _, Nat.zero_le _⟩
theorem nI_m10 {g : Nat} : -(10 : Int32) - nI g = -10 - nI g := rfl
set_option maxHeartbeats 4000000 in
set_option maxRecDepth 100000 in
theorem c_readInto {X : jX} {d n : Nat} {I : HI} {J : HJ} {i0 i1 : Option Nat} {Q : jPost} {tl : Nat} {tx : Nat → Nat} {w : VT} (hR : RS I tl tx) (hV : VC 15 I w) {T : Option Nat × Nat × VT} (hA : rdA tx tl (vZ w) = T) (hQ1 : ∀ k g w1, T = (some k, g, w1) → ∀ I1 I2, VC 15 I1 w1 → VC 1 I2 w1 → Rdr I I1 → Ot 1 I1 I2 → Q (some (.int (nI k))) n I2 J (Pg i0 i1)) (hQ0 : ∀ g w1, T = (none, g, w1) → ∀ I1, VC 15 I1 w1 → Rdr I I1 → Q (some (.int (-10 - nI g))) n I1 J (Pg i0 i1)) : Cj X (d + 6) 0 0 mX6_readInto [.ref 13, .ref 1] n I J (Pg i0 i1) Q := by
  refine Cj.intro rfl (Nat.le_of_ble_eq_true rfl) (L := [.ref 13, .ref 1, jU]) rfl ?_
  have loop : ∀ (r q f : Nat) (w1 : VT) (I2 : HI), q + r = 151 → 1 ≤ q → RS I2 tl tx → TF I2 tx tl f → VC 15 I2 w1 → Few w1 → Rdr I I2 → rdL tx tl r q f w1 = T → Rj X (d + 6) 0 0 mX6_readInto Q 14 [.ref 13, .ref 1, .int (nI q)] [] n I2 J (Pg i0 i1) := by
    intro r
    induction r with
    | zero =>
      intro q f w1 I2 hqr hq1 hR2 hT hV2 hF hO hr
      refine j_iload_n dX6_readInto_14 rfl rfl rfl ?_
      refine j_sipush (v := nI 150) dX6_readInto_15 rfl rfl ?_
      refine j_icmpgtN (tgt := 71) dX6_readInto_18 rfl rfl (by omega) (by decide) (fun h1 => ?_) (fun h1 => by exfalso; omega)
      refine j_bipush (v := (-10)) dX6_readInto_71 rfl rfl ?_
      refine j_aload_n dX6_readInto_73 rfl rfl rfl ?_
      refine j_getIv (v := nI f) dX6_readInto_74 rfl fX6_29 rfl (by decide) rfl hT.1.2.1 ?_
      refine j_isub dX6_readInto_77 rfl ?_
      refine j_iret dX6_readInto_78 rfl rfl ?_
      simp only [rdL] at hr
      exact hQ0 _ _ hr.symm _ hV2 hO
    | succ r ih =>
      intro q f w1 I2 hqr hq1 hR2 hT hV2 hF hO hr
      refine j_iload_n dX6_readInto_14 rfl rfl rfl ?_
      refine j_sipush (v := nI 150) dX6_readInto_15 rfl rfl ?_
      refine j_icmpgtN (tgt := 71) dX6_readInto_18 rfl rfl (by omega) (by decide) (fun h1 => by exfalso; omega) (fun h1 => ?_)
      refine j_aload_n dX6_readInto_21 rfl rfl rfl ?_
      refine j_callVw (As := []) dX6_readInto_22 rfl cX6_41 (by decide) rfl rfl (by decide) rfl (by decide) rfl rfl (c_takeToken hR2 hT.1.2.2.1 (tkE_le hT.2).2.1 (fun I3 t1 t2 => ?_))
      have hT3 : TF I3 tx tl (nx tx tl f) := ⟨t1, (nx_le hT.2).1⟩
      have hR3 := hR2.next t2
      have hV3 := hV2.rst t2
      have hk4 := tkK_le tx tl (nx tx tl f)
      show Rj _ _ _ _ _ _ 25 [.ref 13, .ref 1, .int (nI q)] [] n I3 J (Pg i0 i1)
      unfold rdL at hr
      refine j_aload_n dX6_readInto_25 rfl rfl rfl ?_
      refine j_getIv (v := nI (tkK tx tl (nx tx tl f))) dX6_readInto_26 rfl fX6_26 rfl (by decide) rfl hT3.1.1 ?_
      refine j_ifneN (tgt := 46) dX6_readInto_29 rfl rfl (by omega) (fun h2 => ?_) (fun h2 => ?_)
      · refine j_aload_n dX6_readInto_46 rfl rfl rfl ?_
        refine j_iload_n dX6_readInto_47 rfl rfl rfl ?_
        refine j_ifneN (tgt := 55) dX6_readInto_48 rfl rfl (by omega) (fun h3 => ?_) (fun h3 => by exfalso; omega)
        refine j_iconst (v := nI 0) dX6_readInto_55 rfl rfl ?_
        refine j_callVw (As := [.int (nI 0)]) dX6_readInto_56 rfl cX6_48 (by decide) rfl rfl (by decide) rfl (by decide) rfl rfl (c_readItem0 hR3 hT3 hV3 rfl hF.1 hF.2.1 (fun g w2 hy I4 hT4 hV4 hr4 => ?_) (fun g w2 hy I4 hT4 hV4 hr4 => ?_))
        · show Rj _ _ _ _ _ _ 59 [.ref 13, .ref 1, .int (nI q)] [.int (nI 1)] n I4 J (Pg i0 i1)
          refine j_ifneN (tgt := 65) dX6_readInto_59 rfl rfl (by decide) (fun h4 => ?_) (fun h4 => by exfalso; omega)
          refine j_iincN (L' := [.ref 13, .ref 1, .int (nI (q + 1))]) dX6_readInto_65 rfl rfl (b := 1) rfl rfl rfl (by decide) rfl ?_
          refine j_goto (tgt := 14) dX6_readInto_68 rfl ?_
          rw [if_neg (by assumption), hy] at hr
          exact ih (q + 1) g w2 _ (by omega) (by omega) (hR3.rd hr4) hT4 hV4 (itm_few hy hF) ((hO.trans t2.rd).trans hr4) hr
        · show Rj _ _ _ _ _ _ 59 [.ref 13, .ref 1, .int (nI q)] [.int (nI 0)] n I4 J (Pg i0 i1)
          refine j_ifneN (tgt := 65) dX6_readInto_59 rfl rfl (by decide) (fun h5 => by exfalso; omega) (fun h5 => ?_)
          refine j_goto (tgt := 71) dX6_readInto_62 rfl ?_
          refine j_bipush (v := (-10)) dX6_readInto_71 rfl rfl ?_
          refine j_aload_n dX6_readInto_73 rfl rfl rfl ?_
          refine j_getIv (v := nI g) dX6_readInto_74 rfl fX6_29 rfl (by decide) rfl hT4.1.2.1 ?_
          refine j_isub dX6_readInto_77 rfl ?_
          refine j_iret dX6_readInto_78 rfl rfl ?_
          rw [if_neg (by assumption), hy] at hr
          exact hQ0 _ _ hr.symm _ hV4 ((hO.trans t2.rd).trans hr4)
      · refine j_iload_n dX6_readInto_32 rfl rfl rfl ?_
        refine j_ifleN (tgt := 46) dX6_readInto_33 rfl rfl (by omega) (fun h6 => by exfalso; omega) (fun h6 => ?_)
        refine j_aload_n dX6_readInto_36 rfl rfl rfl ?_
        refine j_aload_n dX6_readInto_37 rfl rfl rfl ?_
        refine j_getP (b := 15) dX6_readInto_38 rfl fX6_22 rfl (by decide) rfl rfl ?_
        refine j_callVw (As := [.ref 15]) dX6_readInto_41 rfl cX6_44 (by decide) rfl rfl (by decide) rfl (by decide) rfl rfl (c_copy1_15 hV3 hF.1 hF.2.1 hF.2.2 (fun I4 hV4 ho4 => ?_))
        show Rj _ _ _ _ _ _ 44 [.ref 13, .ref 1, .int (nI q)] [] n I4 J (Pg i0 i1)
        refine j_iload_n dX6_readInto_44 rfl rfl rfl ?_
        refine j_iret dX6_readInto_45 rfl rfl ?_
        rw [if_pos (by assumption)] at hr
        exact hQ1 _ _ _ hr.symm _ _ hV3 hV4 (hO.trans t2.rd) ho4
  refine j_aload_n dX6_readInto_0 rfl rfl rfl ?_
  refine j_getP (b := 15) dX6_readInto_1 rfl fX6_22 rfl (by decide) rfl rfl ?_
  refine j_callVw (As := []) dX6_readInto_4 rfl cX6_38 (by decide) rfl rfl (by decide) rfl (by decide) rfl rfl (c_begin15 hV (fun I1 hV1 ho1 => ?_))
  show Rj _ _ _ _ _ _ 7 [.ref 13, .ref 1, jU] [] n I1 J (Pg i0 i1)
  refine j_aload_n dX6_readInto_7 rfl rfl rfl ?_
  refine j_iconst (v := nI 0) dX6_readInto_8 rfl rfl ?_
  refine j_putI dX6_readInto_9 rfl fX6_32 rfl (by decide) rfl rfl ?_
  have hp : Rst I1 (u2 I1 13 5 (nI 0)) := Rst.put (by decide)
  have hR2 := (hR.rd ho1.rd).next hp
  have hV2 := hV1.rst hp
  have hO2 := ho1.rd.trans hp.rd
  refine j_iconst (v := nI 0) dX6_readInto_12 rfl rfl ?_
  refine j_istore_n (L' := [.ref 13, .ref 1, .int (nI 0)]) dX6_readInto_13 rfl rfl rfl (by decide) rfl ?_
  refine j_iload_n dX6_readInto_14 rfl rfl rfl ?_
  refine j_sipush (v := nI 150) dX6_readInto_15 rfl rfl ?_
  refine j_icmpgtN (tgt := 71) dX6_readInto_18 rfl rfl (by decide) (by decide) (fun h1 => by exfalso; omega) (fun h1 => ?_)
  refine j_aload_n dX6_readInto_21 rfl rfl rfl ?_
  refine j_callVw (As := []) dX6_readInto_22 rfl cX6_41 (by decide) rfl rfl (by decide) rfl (by decide) rfl rfl (c_takeToken hR2 (u2_self _ _ _ _) (Nat.zero_le _) (fun I3 t1 t2 => ?_))
  have hT3 : TF I3 tx tl (tkF tx tl 0) := ⟨t1, (tkF_le (Nat.zero_le _)).2⟩
  have hR3 := hR2.next t2
  have hV3 := hV2.rst t2
  have hk4 := tkK_le tx tl (tkF tx tl 0)
  obtain ⟨f, hf⟩ : ∃ f, tkF tx tl 0 = f := ⟨_, rfl⟩
  rw [hf] at hT3 hk4
  unfold rdA at hA
  rw [hf] at hA
  show Rj _ _ _ _ _ _ 25 [.ref 13, .ref 1, .int (nI 0)] [] n I3 J (Pg i0 i1)
  refine j_aload_n dX6_readInto_25 rfl rfl rfl ?_
  refine j_getIv (v := nI (tkK tx tl f)) dX6_readInto_26 rfl fX6_26 rfl (by decide) rfl hT3.1.1 ?_
  refine j_ifneN (tgt := 46) dX6_readInto_29 rfl rfl (by omega) (fun h2 => ?_) (fun h2 => ?_)
  · refine j_aload_n dX6_readInto_46 rfl rfl rfl ?_
    refine j_iload_n dX6_readInto_47 rfl rfl rfl ?_
    refine j_ifneN (tgt := 55) dX6_readInto_48 rfl rfl (by decide) (fun h3 => by exfalso; omega) (fun h3 => ?_)
    refine j_iconst (v := nI 1) dX6_readInto_51 rfl rfl ?_
    refine j_goto (tgt := 56) dX6_readInto_52 rfl ?_
    refine j_callVw (As := [.int (nI 1)]) dX6_readInto_56 rfl cX6_48 (by decide) rfl rfl (by decide) rfl (by decide) rfl rfl (c_readItem1 hR3 hT3 rfl (fun g hy I4 hT4 hr4 => ?_) (fun g hy I4 hT4 hr4 => ?_))
    · show Rj _ _ _ _ _ _ 59 [.ref 13, .ref 1, .int (nI 0)] [.int (nI 1)] n I4 J (Pg i0 i1)
      refine j_ifneN (tgt := 65) dX6_readInto_59 rfl rfl (by decide) (fun h4 => ?_) (fun h4 => by exfalso; omega)
      refine j_iincN (L' := [.ref 13, .ref 1, .int (nI 1)]) dX6_readInto_65 rfl rfl (b := 1) rfl rfl rfl (by decide) rfl ?_
      rw [hy] at hA
      refine j_goto (tgt := 14) dX6_readInto_68 rfl ?_
      exact loop 150 1 g _ _ rfl (by omega) (hR3.next hr4) hT4 (hV3.rst hr4) (few_Z _) ((hO2.trans t2.rd).trans hr4.rd) hA
    · show Rj _ _ _ _ _ _ 59 [.ref 13, .ref 1, .int (nI 0)] [.int (nI 0)] n I4 J (Pg i0 i1)
      refine j_ifneN (tgt := 65) dX6_readInto_59 rfl rfl (by decide) (fun h5 => by exfalso; omega) (fun h5 => ?_)
      refine j_goto (tgt := 71) dX6_readInto_62 rfl ?_
      refine j_bipush (v := (-10)) dX6_readInto_71 rfl rfl ?_
      refine j_aload_n dX6_readInto_73 rfl rfl rfl ?_
      refine j_getIv (v := nI g) dX6_readInto_74 rfl fX6_29 rfl (by decide) rfl hT4.1.2.1 ?_
      refine j_isub dX6_readInto_77 rfl ?_
      refine j_iret dX6_readInto_78 rfl rfl ?_
      rw [hy] at hA
      exact hQ0 _ _ hA.symm _ (hV3.rst hr4) ((hO2.trans t2.rd).trans hr4.rd)
  · refine j_iload_n dX6_readInto_32 rfl rfl rfl ?_
    refine j_ifleN (tgt := 46) dX6_readInto_33 rfl rfl (by decide) (fun h6 => ?_) (fun h6 => by exfalso; omega)
    refine j_aload_n dX6_readInto_46 rfl rfl rfl ?_
    refine j_iload_n dX6_readInto_47 rfl rfl rfl ?_
    refine j_ifneN (tgt := 55) dX6_readInto_48 rfl rfl (by decide) (fun h7 => by exfalso; omega) (fun h7 => ?_)
    refine j_iconst (v := nI 1) dX6_readInto_51 rfl rfl ?_
    refine j_goto (tgt := 56) dX6_readInto_52 rfl ?_
    refine j_callVw (As := [.int (nI 1)]) dX6_readInto_56 rfl cX6_48 (by decide) rfl rfl (by decide) rfl (by decide) rfl rfl (c_readItem1 hR3 hT3 rfl (fun g hy I4 hT4 hr4 => ?_) (fun g hy I4 hT4 hr4 => ?_))
    · show Rj _ _ _ _ _ _ 59 [.ref 13, .ref 1, .int (nI 0)] [.int (nI 1)] n I4 J (Pg i0 i1)
      refine j_ifneN (tgt := 65) dX6_readInto_59 rfl rfl (by decide) (fun h8 => ?_) (fun h8 => by exfalso; omega)
      refine j_iincN (L' := [.ref 13, .ref 1, .int (nI 1)]) dX6_readInto_65 rfl rfl (b := 1) rfl rfl rfl (by decide) rfl ?_
      rw [hy] at hA
      refine j_goto (tgt := 14) dX6_readInto_68 rfl ?_
      exact loop 150 1 g _ _ rfl (by omega) (hR3.next hr4) hT4 (hV3.rst hr4) (few_Z _) ((hO2.trans t2.rd).trans hr4.rd) hA
    · show Rj _ _ _ _ _ _ 59 [.ref 13, .ref 1, .int (nI 0)] [.int (nI 0)] n I4 J (Pg i0 i1)
      refine j_ifneN (tgt := 65) dX6_readInto_59 rfl rfl (by decide) (fun h9 => by exfalso; omega) (fun h9 => ?_)
      refine j_goto (tgt := 71) dX6_readInto_62 rfl ?_
      refine j_bipush (v := (-10)) dX6_readInto_71 rfl rfl ?_
      refine j_aload_n dX6_readInto_73 rfl rfl rfl ?_
      refine j_getIv (v := nI g) dX6_readInto_74 rfl fX6_29 rfl (by decide) rfl hT4.1.2.1 ?_
      refine j_isub dX6_readInto_77 rfl ?_
      refine j_iret dX6_readInto_78 rfl rfl ?_
      rw [hy] at hA
      exact hQ0 _ _ hA.symm _ (hV3.rst hr4) ((hO2.trans t2.rd).trans hr4.rd)
