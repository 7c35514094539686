theorem VM35_set1 {I : HI} {v : VT} {x : Nat} (h : VM 35 0 I v) : VM 35 0 (u2 I 35 3 (nI x)) (vSet v 1 x) := by
  obtain ⟨⟨s0, s1, s2, s3, s4, s5, s6⟩, c1, c2, c3, c7⟩ := h
  have e : ∀ i, i ≠ 3 → u2 I 35 3 (nI x) 35 i = I 35 i := fun i hi => u2_ne2 _ _ _ hi
  have ev : ∀ f i, 1 ≤ f → vSet v 1 x f i = v f i := fun f i hf => by unfold vSet; rw [if_neg (by omega)]
  refine ⟨⟨?_, ?_, ?_, ?_, ?_, ?_, ?_⟩, fun p hp => ?_, fun p hp => ?_, fun p hp => ?_, fun j hj => ?_⟩
  · rw [e _ (by omega)]; exact s0
  · rw [e _ (by omega)]; exact s1
  · rw [e _ (by omega)]; exact s2
  · exact u2_self _ _ _ _
  · rw [e _ (by omega)]; exact s4
  · rw [e _ (by omega)]; exact s5
  · rw [e _ (by omega)]; exact s6
  · rw [e _ (by omega), e _ (by omega), e _ (by omega), e _ (by omega), ev _ _ (by omega), ev _ _ (by omega), ev _ _ (by omega), ev _ _ (by omega)]; exact c1 p hp
  · rw [e _ (by omega), ev _ _ (by omega)]; exact c2 p hp
  · rw [e _ (by omega), e _ (by omega), e _ (by omega), ev _ _ (by omega), ev _ _ (by omega), ev _ _ (by omega)]; exact c3 p hp
  · have hj' : j < v 0 6 := hj
    obtain ⟨d0, d1⟩ := c7 j hj'
    refine ⟨?_, fun p hp => ⟨?_, ?_⟩⟩
    · rw [e _ (by omega), ev (10 + j) _ (by omega)]; exact d0
    · rw [e _ (by omega), ev (10 + j) _ (by omega)]; exact (d1 p hp).1
    · rw [e _ (by omega), ev (10 + j) _ (by omega)]; exact (d1 p hp).2
theorem VM35_set2 {I : HI} {v : VT} {x : Nat} (h : VM 35 0 I v) : VM 35 0 (u2 I 35 4 (nI x)) (vSet v 2 x) := by
  obtain ⟨⟨s0, s1, s2, s3, s4, s5, s6⟩, c1, c2, c3, c7⟩ := h
  have e : ∀ i, i ≠ 4 → u2 I 35 4 (nI x) 35 i = I 35 i := fun i hi => u2_ne2 _ _ _ hi
  have ev : ∀ f i, 1 ≤ f → vSet v 2 x f i = v f i := fun f i hf => by unfold vSet; rw [if_neg (by omega)]
  refine ⟨⟨?_, ?_, ?_, ?_, ?_, ?_, ?_⟩, fun p hp => ?_, fun p hp => ?_, fun p hp => ?_, fun j hj => ?_⟩
  · rw [e _ (by omega)]; exact s0
  · rw [e _ (by omega)]; exact s1
  · rw [e _ (by omega)]; exact s2
  · rw [e _ (by omega)]; exact s3
  · exact u2_self _ _ _ _
  · rw [e _ (by omega)]; exact s5
  · rw [e _ (by omega)]; exact s6
  · rw [e _ (by omega), e _ (by omega), e _ (by omega), e _ (by omega), ev _ _ (by omega), ev _ _ (by omega), ev _ _ (by omega), ev _ _ (by omega)]; exact c1 p hp
  · rw [e _ (by omega), ev _ _ (by omega)]; exact c2 p hp
  · rw [e _ (by omega), e _ (by omega), e _ (by omega), ev _ _ (by omega), ev _ _ (by omega), ev _ _ (by omega)]; exact c3 p hp
  · have hj' : j < v 0 6 := hj
    obtain ⟨d0, d1⟩ := c7 j hj'
    refine ⟨?_, fun p hp => ⟨?_, ?_⟩⟩
    · rw [e _ (by omega), ev (10 + j) _ (by omega)]; exact d0
    · rw [e _ (by omega), ev (10 + j) _ (by omega)]; exact (d1 p hp).1
    · rw [e _ (by omega), ev (10 + j) _ (by omega)]; exact (d1 p hp).2
theorem TM.congr {I I' : HI} {J J' : HJ} {tx : Nat → Nat} {tl f : Nat} (h : TM I J tx tl f) (hi : I' 33 = I 33) (hj : J' 33 9 = J 33 9) : TM I' J' tx tl f := by
  unfold TM
  rw [hi, hj]
  exact h
def Fit (I : HI) (J : HJ) (I' : HI) (J' : HJ) : Prop := (∀ a, a ≠ 33 → a ≠ 35 → I' a = I a ∧ J' a = J a) ∧ I' 33 4 = I 33 4 ∧ I' 33 11 = I 33 11 ∧ J' 33 12 = J 33 12 ∧ J' 33 13 = J 33 13
theorem Ftk.it {I I' : HI} {J J' : HJ} (h : Ftk I J I' J') : Fit I J I' J' := ⟨fun a h1 _ => h.1 a h1, h.2⟩
theorem Fit.rf {I : HI} {J : HJ} : Fit I J I J := Ftk.rf.it
theorem Fit.trans {I I1 I2 : HI} {J J1 J2 : HJ} (h : Fit I J I1 J1) (k : Fit I1 J1 I2 J2) : Fit I J I2 J2 := ⟨fun a ha hb => ⟨((k.1 a ha hb).1).trans (h.1 a ha hb).1, ((k.1 a ha hb).2).trans (h.1 a ha hb).2⟩, k.2.1.trans h.2.1, k.2.2.1.trans h.2.2.1, k.2.2.2.1.trans h.2.2.2.1, k.2.2.2.2.trans h.2.2.2.2⟩
theorem Fit.row {I I' : HI} {J : HJ} (h : ∀ a, a ≠ 35 → I' a = I a) : Fit I J I' J := ⟨fun a _ ha => ⟨h a ha, rfl⟩, by rw [h 33 (by omega)], by rw [h 33 (by omega)], rfl, rfl⟩
theorem MR.it {I I' : HI} {J J' : HJ} {tl : Nat} {tx : Nat → Nat} (h : MR I tl tx) (k : Fit I J I' J') : MR I' tl tx := ⟨k.2.1.trans h.1, by rw [(k.1 38 (by omega) (by omega)).1]; exact h.2.1, h.2.2⟩
set_option maxHeartbeats 4000000 in
set_option maxRecDepth 100000 in
theorem c_myears {X : jX} {d n : Nat} {I : HI} {J : HJ} {i0 i1 : Option Nat} {Q : jPost} {tl f : Nat} {tx : Nat → Nat} (hR : MR I tl tx) (hT : TM I J tx tl f) {T : Option Nat × Nat} (hY : yrs tx tl 151 f 0 = T) (hQ1 : ∀ ys g, T = (some ys, g) → ∀ I' J', TM I' J' tx tl g → Ftk I J I' J' → Q (some (.int (nI ys))) n I' J' (Pg i0 i1)) (hQ0 : ∀ g, T = (none, g) → ∀ I' J', TM I' J' tx tl g → Ftk I J I' J' → Q (some (.int (-1))) n I' J' (Pg i0 i1)) : Cj X (d + 2) 0 0 mX10_yearsTold [.ref 33] n I J (Pg i0 i1) Q := by
  refine Cj.intro rfl (Nat.le_of_ble_eq_true rfl) (L := [.ref 33, jU]) rfl ?_
  have loop : ∀ (r f ys : Nat) (Ia : HI) (Ja : HJ), f ≤ tl → ys ≤ 4095 → 150 ≤ f + r → TM Ia Ja tx tl (nx tx tl f) → Ftk I J Ia Ja → yrs tx tl (r + 1) f ys = T → Rj X (d + 2) 0 0 mX10_yearsTold Q 6 [.ref 33, .int (nI ys)] [] n Ia Ja (Pg i0 i1) := by
    intro r
    induction r with
    | zero =>
      intro f ys Ia Ja hfl hys hfr hT hF hr
      have hk4 := tkK_le tx tl (nx tx tl f)
      have hm3 := mkT_3 hk4
      have hm5 := mkT_le hk4
      have hn1 := nx_le (tx := tx) hfl
      have h150 := hR.2.2.1
      refine j_aload_n dX10_yearsTold_6 rfl rfl rfl ?_
      refine j_getIv (v := nI (mkT (tkK tx tl (nx tx tl f)))) dX10_yearsTold_7 rfl fX10_79 rfl (by decide) rfl hT.1.2.2 ?_
      refine j_iconst (v := nI 3) dX10_yearsTold_10 rfl rfl ?_
      refine j_icmpeqN (tgt := 42) dX10_yearsTold_11 rfl rfl (by omega) (by decide) (fun h1 => ?_) (fun h1 => ?_)
      · refine j_iload_n dX10_yearsTold_42 rfl rfl rfl ?_
        refine j_iret dX10_yearsTold_43 rfl rfl ?_
        refine hQ1 ys (nx tx tl f) ?_ _ _ hT hF
        rw [← hr]; unfold yrs; rw [if_pos (by omega)]
      · refine j_aload_n dX10_yearsTold_14 rfl rfl rfl ?_
        refine j_iconst (v := nI 0) dX10_yearsTold_15 rfl rfl ?_
        refine j_bipush (v := nI 11) dX10_yearsTold_16 rfl rfl ?_
        refine j_callVw (As := [.int (nI 0), .int (nI 11)]) dX10_yearsTold_18 rfl cX10_97 (by decide) rfl rfl (by decide) rfl (by decide) rfl rfl (c_misNum hT (by omega) (by omega) (fun hnm => ?_) (fun hnm => ?_))
        · show Rj _ _ _ _ _ _ 21 [.ref 33, .int (nI ys)] [.int (nI 1)] n Ia Ja (Pg i0 i1)
          refine j_ifneN (tgt := 26) dX10_yearsTold_21 rfl rfl (by decide) (fun h2 => ?_) (fun h2 => by exfalso; omega)
          have hlt := tkK_lt (tx := tx) (tl := tl) (f := (nx tx tl f)) (by omega)
          exfalso; omega
        · show Rj _ _ _ _ _ _ 21 [.ref 33, .int (nI ys)] [.int (nI 0)] n Ia Ja (Pg i0 i1)
          refine j_ifneN (tgt := 26) dX10_yearsTold_21 rfl rfl (by decide) (fun h3 => by exfalso; omega) (fun h3 => ?_)
          refine j_iconst (v := (-1)) dX10_yearsTold_24 rfl rfl ?_
          refine j_iret dX10_yearsTold_25 rfl rfl ?_
          refine hQ0 (nx tx tl f) ?_ _ _ hT hF
          rw [← hr]; unfold yrs; rw [if_neg (by omega), if_neg (by omega)]
    | succ r ih =>
      intro f ys Ia Ja hfl hys hfr hT hF hr
      have hk4 := tkK_le tx tl (nx tx tl f)
      have hm3 := mkT_3 hk4
      have hm5 := mkT_le hk4
      have hn1 := nx_le (tx := tx) hfl
      have h150 := hR.2.2.1
      refine j_aload_n dX10_yearsTold_6 rfl rfl rfl ?_
      refine j_getIv (v := nI (mkT (tkK tx tl (nx tx tl f)))) dX10_yearsTold_7 rfl fX10_79 rfl (by decide) rfl hT.1.2.2 ?_
      refine j_iconst (v := nI 3) dX10_yearsTold_10 rfl rfl ?_
      refine j_icmpeqN (tgt := 42) dX10_yearsTold_11 rfl rfl (by omega) (by decide) (fun h1 => ?_) (fun h1 => ?_)
      · refine j_iload_n dX10_yearsTold_42 rfl rfl rfl ?_
        refine j_iret dX10_yearsTold_43 rfl rfl ?_
        refine hQ1 ys (nx tx tl f) ?_ _ _ hT hF
        rw [← hr]; unfold yrs; rw [if_pos (by omega)]
      · refine j_aload_n dX10_yearsTold_14 rfl rfl rfl ?_
        refine j_iconst (v := nI 0) dX10_yearsTold_15 rfl rfl ?_
        refine j_bipush (v := nI 11) dX10_yearsTold_16 rfl rfl ?_
        refine j_callVw (As := [.int (nI 0), .int (nI 11)]) dX10_yearsTold_18 rfl cX10_97 (by decide) rfl rfl (by decide) rfl (by decide) rfl rfl (c_misNum hT (by omega) (by omega) (fun hnm => ?_) (fun hnm => ?_))
        · show Rj _ _ _ _ _ _ 21 [.ref 33, .int (nI ys)] [.int (nI 1)] n Ia Ja (Pg i0 i1)
          refine j_ifneN (tgt := 26) dX10_yearsTold_21 rfl rfl (by decide) (fun h2 => ?_) (fun h2 => by exfalso; omega)
          have hpw : 2 ^ tkN tx tl (nx tx tl f) ≤ 2 ^ 11 := Nat.pow_le_pow_right (by omega) (by omega)
          refine j_iload_n dX10_yearsTold_26 rfl rfl rfl ?_
          refine j_iconst (v := nI 1) dX10_yearsTold_27 rfl rfl ?_
          refine j_aload_n dX10_yearsTold_28 rfl rfl rfl ?_
          refine j_getIv (v := nI (tkN tx tl (nx tx tl f))) dX10_yearsTold_29 rfl fX10_91 rfl (by decide) rfl (hT.2.1 hnm.1) ?_
          refine j_ishlN (c := 2 ^ (tkN tx tl (nx tx tl f))) dX10_yearsTold_32 rfl (by omega) (Nat.one_mul _) ?_
          refine j_iorN (c := ys ||| (2 ^ (tkN tx tl (nx tx tl f)))) dX10_yearsTold_33 rfl rfl ?_
          refine j_istore_n (L' := [.ref 33, .int (nI (ys ||| (2 ^ (tkN tx tl (nx tx tl f)))))]) dX10_yearsTold_34 rfl rfl rfl (by decide) rfl ?_
          refine j_aload_n dX10_yearsTold_35 rfl rfl rfl ?_
          refine j_callVw (As := []) dX10_yearsTold_36 rfl cX10_94 (by decide) rfl rfl (by decide) rfl (by decide) rfl rfl (c_mtok (b := tkE tx tl (nx tx tl f)) (hR.fr hF) hT.1.1 (tkE_le hT.2.2.2).2.1 (fun I2 J2 hT2 hF2 => ?_))
          have hT2 : TM I2 J2 tx tl (nx tx tl (nx tx tl f)) := hT2
          show Rj _ _ _ _ _ _ 39 [.ref 33, .int (nI (ys ||| (2 ^ (tkN tx tl (nx tx tl f)))))] [] n I2 J2 (Pg i0 i1)
          refine j_goto (tgt := 6) dX10_yearsTold_39 rfl ?_
          have hlt := tkK_lt (tx := tx) (tl := tl) (f := (nx tx tl f)) (by omega)
          have e : yrs tx tl (r + 1) (nx tx tl f) (ys ||| 2 ^ tkN tx tl (nx tx tl f)) = T := by
            rw [← hr]; conv => rhs; unfold yrs
            rw [if_neg (by omega), if_pos (by omega)]
          exact ih (nx tx tl f) _ _ _ hn1.1 (or12 hys (by omega)) (by omega) hT2 (hF.trans hF2) e
        · show Rj _ _ _ _ _ _ 21 [.ref 33, .int (nI ys)] [.int (nI 0)] n Ia Ja (Pg i0 i1)
          refine j_ifneN (tgt := 26) dX10_yearsTold_21 rfl rfl (by decide) (fun h3 => by exfalso; omega) (fun h3 => ?_)
          refine j_iconst (v := (-1)) dX10_yearsTold_24 rfl rfl ?_
          refine j_iret dX10_yearsTold_25 rfl rfl ?_
          refine hQ0 (nx tx tl f) ?_ _ _ hT hF
          rw [← hr]; unfold yrs; rw [if_neg (by omega), if_neg (by omega)]
  refine j_iconst (v := nI 0) dX10_yearsTold_0 rfl rfl ?_
  refine j_istore_n (L' := [.ref 33, .int (nI 0)]) dX10_yearsTold_1 rfl rfl rfl (by decide) rfl ?_
  refine j_aload_n dX10_yearsTold_2 rfl rfl rfl ?_
  refine j_callVw (As := []) dX10_yearsTold_3 rfl cX10_94 (by decide) rfl rfl (by decide) rfl (by decide) rfl rfl (c_mtok (b := tkE tx tl f) hR hT.1.1 (tkE_le hT.2.2.2).2.1 (fun I1 J1 hT1 hF1 => ?_))
  have hT1 : TM I1 J1 tx tl (nx tx tl f) := hT1
  show Rj _ _ _ _ _ _ 6 [.ref 33, .int (nI 0)] [] n I1 J1 (Pg i0 i1)
  exact loop 150 f 0 I1 J1 hT.2.2.2 (by omega) (by omega) hT1 hF1 hY
