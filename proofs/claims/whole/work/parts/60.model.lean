theorem VM_set1 {I : HI} {v : VT} {x : Nat} (h : VM 34 0 I v) : VM 34 0 (u2 I 34 3 (nI x)) (vSet v 1 x) := by
  obtain ⟨⟨s0, s1, s2, s3, s4, s5, s6⟩, c1, c2, c3, c7⟩ := h
  have e : ∀ i, i ≠ 3 → u2 I 34 3 (nI x) 34 i = I 34 i := fun i hi => u2_ne2 _ _ _ hi
  have ev : ∀ f i, 1 ≤ f → vSet v 1 x f i = v f i := fun f i hf => by unfold vSet; rw [if_neg (by omega)]
  refine ⟨⟨?_, ?_, ?_, ?_, ?_, ?_, ?_⟩, fun p hp => ?_, fun p hp => ?_, fun p hp => ?_, fun j hj => ?_⟩
  · rw [e _ (by omega)]; exact s0
  · rw [e _ (by omega)]; exact s1
  · rw [e _ (by omega)]; exact s2
  · exact u2_self _ _ _ _
  · rw [e _ (by omega)]; exact s4
  · rw [e _ (by omega)]; exact s5
  · rw [e _ (by omega)]; exact s6
  · rw [e _ (by omega), e _ (by omega), e _ (by omega), e _ (by omega), ev _ _ (by omega), ev _ _ (by omega), ev _ _ (by omega), ev _ _ (by omega)]; exact c1 p hp
  · rw [e _ (by omega), ev _ _ (by omega)]; exact c2 p hp
  · rw [e _ (by omega), e _ (by omega), e _ (by omega), ev _ _ (by omega), ev _ _ (by omega), ev _ _ (by omega)]; exact c3 p hp
  · have hj' : j < v 0 6 := hj
    obtain ⟨d0, d1⟩ := c7 j hj'
    refine ⟨?_, fun p hp => ⟨?_, ?_⟩⟩
    · rw [e _ (by omega), ev (10 + j) _ (by omega)]; exact d0
    · rw [e _ (by omega), ev (10 + j) _ (by omega)]; exact (d1 p hp).1
    · rw [e _ (by omega), ev (10 + j) _ (by omega)]; exact (d1 p hp).2
theorem VM_set2 {I : HI} {v : VT} {x : Nat} (h : VM 34 0 I v) : VM 34 0 (u2 I 34 4 (nI x)) (vSet v 2 x) := by
  obtain ⟨⟨s0, s1, s2, s3, s4, s5, s6⟩, c1, c2, c3, c7⟩ := h
  have e : ∀ i, i ≠ 4 → u2 I 34 4 (nI x) 34 i = I 34 i := fun i hi => u2_ne2 _ _ _ hi
  have ev : ∀ f i, 1 ≤ f → vSet v 2 x f i = v f i := fun f i hf => by unfold vSet; rw [if_neg (by omega)]
  refine ⟨⟨?_, ?_, ?_, ?_, ?_, ?_, ?_⟩, fun p hp => ?_, fun p hp => ?_, fun p hp => ?_, fun j hj => ?_⟩
  · rw [e _ (by omega)]; exact s0
  · rw [e _ (by omega)]; exact s1
  · rw [e _ (by omega)]; exact s2
  · rw [e _ (by omega)]; exact s3
  · exact u2_self _ _ _ _
  · rw [e _ (by omega)]; exact s5
  · rw [e _ (by omega)]; exact s6
  · rw [e _ (by omega), e _ (by omega), e _ (by omega), e _ (by omega), ev _ _ (by omega), ev _ _ (by omega), ev _ _ (by omega), ev _ _ (by omega)]; exact c1 p hp
  · rw [e _ (by omega), ev _ _ (by omega)]; exact c2 p hp
  · rw [e _ (by omega), e _ (by omega), e _ (by omega), ev _ _ (by omega), ev _ _ (by omega), ev _ _ (by omega)]; exact c3 p hp
  · have hj' : j < v 0 6 := hj
    obtain ⟨d0, d1⟩ := c7 j hj'
    refine ⟨?_, fun p hp => ⟨?_, ?_⟩⟩
    · rw [e _ (by omega), ev (10 + j) _ (by omega)]; exact d0
    · rw [e _ (by omega), ev (10 + j) _ (by omega)]; exact (d1 p hp).1
    · rw [e _ (by omega), ev (10 + j) _ (by omega)]; exact (d1 p hp).2
set_option maxHeartbeats 4000000 in
set_option maxRecDepth 100000 in
theorem g_damp {X : jX} {d n : Nat} {I : HI} {J : HJ} {i0 i1 : Option Nat} {Q : jPost} {S : SS} {yb : Nat} (hm : MI S I J) (hW : WF yb S.v) (hyb : yb ≤ 2 ^ 12) {a : Int32} (hQ : MP Q (oDamp 1 S a) n I J (Pg i0 i1)) : Cj X (d + 1) 0 0 mX10_damp [.ref 33, .int a] n I J (Pg i0 i1) Q := by
  refine Cj.intro rfl (Nat.le_of_ble_eq_true rfl) (L := [.ref 33, .int a, jU]) rfl ?_
  refine j_iload_n dX10_damp_0 rfl rfl rfl ?_
  refine j_iconst (v := nI 0) dX10_damp_1 rfl rfl ?_
  refine j_sipush (v := nI 4095) dX10_damp_2 rfl rfl ?_
  refine j_callSw (As := [.int a, .int (nI 0), .int (nI 4095)]) dX10_damp_5 rfl cX10_50 rfl (by decide) rfl rfl (c_min (fun ha => ?_) (fun ha => ?_))
  · obtain ⟨ja, rfl, hal, hau⟩ := inR_nat (by decide) (by decide) ha
    show Rj _ _ _ _ _ _ 8 [.ref 33, .int (nI ja), jU] [.int (nI 1)] n I J (Pg i0 i1)
    refine j_ifneN (tgt := 18) dX10_damp_8 rfl rfl (by decide) (fun h1 => ?_) (fun h1 => by exfalso; omega)
    refine j_aload_n dX10_damp_18 rfl rfl rfl ?_
    refine j_getP (b := 34) dX10_damp_19 rfl fX10_7 rfl (by decide) rfl rfl ?_
    refine j_iconst (v := nI 3) dX10_damp_22 rfl rfl ?_
    refine j_iald (j := 3) (v := nI (S.v 0 1)) dX10_damp_23 rfl rfl (by decide) rfl (by decide) (by decide) hm.v.ma ?_
    refine j_istore_n (L' := [.ref 33, .int (nI ja), .int (nI (S.v 0 1))]) dX10_damp_24 rfl rfl rfl (by decide) rfl ?_
    refine j_aload_n dX10_damp_25 rfl rfl rfl ?_
    refine j_getP (b := 34) dX10_damp_26 rfl fX10_7 rfl (by decide) rfl rfl ?_
    refine j_iconst (v := nI 3) dX10_damp_29 rfl rfl ?_
    refine j_iload_n dX10_damp_30 rfl rfl rfl ?_
    refine j_iast (j := 3) dX10_damp_31 rfl rfl (by decide) rfl (by decide) (by decide) ?_
    refine j_iload_n dX10_damp_32 rfl rfl rfl ?_
    refine j_iret dX10_damp_33 rfl rfl ?_
    have e : oDamp 1 S (nI ja) = (S.set (vSet S.v 1 ja), nI (S.v 0 1)) := by unfold oDamp; rw [if_pos (by exact ha), tN_nI (by omega)]
    rw [e] at hQ
    exact hQ _ _ (hm.one (VM_set1 hm.v) (fun a ha => u2_ne _ _ _ ha)) (CF.u2 (by omega) (by omega))
  · show Rj _ _ _ _ _ _ 8 [.ref 33, .int a, jU] [.int (nI 0)] n I J (Pg i0 i1)
    refine j_ifneN (tgt := 18) dX10_damp_8 rfl rfl (by decide) (fun h2 => by exfalso; omega) (fun h2 => ?_)
    refine j_aload_n dX10_damp_11 rfl rfl rfl ?_
    refine j_bipush (v := (-2)) dX10_damp_12 rfl rfl ?_
    refine j_callVw (As := [.int (-2)]) dX10_damp_14 rfl cX10_54 (by decide) rfl rfl (by decide) rfl (by decide) rfl rfl (c_mbad ?_)
    show Rj _ _ _ _ _ _ 17 [.ref 33, .int a, jU] [.int (-2)] n (u2 I 39 0 (I 39 0 + nI 1)) J (Pg i0 i1)
    refine j_iret dX10_damp_17 rfl rfl ?_
    have e : oDamp 1 S a = (S.bad, -2) := by unfold oDamp; rw [if_neg (by exact ha)]
    rw [e] at hQ
    exact hQ _ _ hm.bad (CF.u2 (by omega) (by omega))
set_option maxHeartbeats 4000000 in
set_option maxRecDepth 100000 in
theorem g_dry {X : jX} {d n : Nat} {I : HI} {J : HJ} {i0 i1 : Option Nat} {Q : jPost} {S : SS} {yb : Nat} (hm : MI S I J) (hW : WF yb S.v) (hyb : yb ≤ 2 ^ 12) {a : Int32} (hQ : MP Q (oDamp 2 S a) n I J (Pg i0 i1)) : Cj X (d + 1) 0 0 mX10_dry [.ref 33, .int a] n I J (Pg i0 i1) Q := by
  refine Cj.intro rfl (Nat.le_of_ble_eq_true rfl) (L := [.ref 33, .int a, jU]) rfl ?_
  refine j_iload_n dX10_dry_0 rfl rfl rfl ?_
  refine j_iconst (v := nI 0) dX10_dry_1 rfl rfl ?_
  refine j_sipush (v := nI 4095) dX10_dry_2 rfl rfl ?_
  refine j_callSw (As := [.int a, .int (nI 0), .int (nI 4095)]) dX10_dry_5 rfl cX10_50 rfl (by decide) rfl rfl (c_min (fun ha => ?_) (fun ha => ?_))
  · obtain ⟨ja, rfl, hal, hau⟩ := inR_nat (by decide) (by decide) ha
    show Rj _ _ _ _ _ _ 8 [.ref 33, .int (nI ja), jU] [.int (nI 1)] n I J (Pg i0 i1)
    refine j_ifneN (tgt := 18) dX10_dry_8 rfl rfl (by decide) (fun h1 => ?_) (fun h1 => by exfalso; omega)
    refine j_aload_n dX10_dry_18 rfl rfl rfl ?_
    refine j_getP (b := 34) dX10_dry_19 rfl fX10_7 rfl (by decide) rfl rfl ?_
    refine j_iconst (v := nI 4) dX10_dry_22 rfl rfl ?_
    refine j_iald (j := 4) (v := nI (S.v 0 2)) dX10_dry_23 rfl rfl (by decide) rfl (by decide) (by decide) hm.v.mr ?_
    refine j_istore_n (L' := [.ref 33, .int (nI ja), .int (nI (S.v 0 2))]) dX10_dry_24 rfl rfl rfl (by decide) rfl ?_
    refine j_aload_n dX10_dry_25 rfl rfl rfl ?_
    refine j_getP (b := 34) dX10_dry_26 rfl fX10_7 rfl (by decide) rfl rfl ?_
    refine j_iconst (v := nI 4) dX10_dry_29 rfl rfl ?_
    refine j_iload_n dX10_dry_30 rfl rfl rfl ?_
    refine j_iast (j := 4) dX10_dry_31 rfl rfl (by decide) rfl (by decide) (by decide) ?_
    refine j_iload_n dX10_dry_32 rfl rfl rfl ?_
    refine j_iret dX10_dry_33 rfl rfl ?_
    have e : oDamp 2 S (nI ja) = (S.set (vSet S.v 2 ja), nI (S.v 0 2)) := by unfold oDamp; rw [if_pos (by exact ha), tN_nI (by omega)]
    rw [e] at hQ
    exact hQ _ _ (hm.one (VM_set2 hm.v) (fun a ha => u2_ne _ _ _ ha)) (CF.u2 (by omega) (by omega))
  · show Rj _ _ _ _ _ _ 8 [.ref 33, .int a, jU] [.int (nI 0)] n I J (Pg i0 i1)
    refine j_ifneN (tgt := 18) dX10_dry_8 rfl rfl (by decide) (fun h2 => by exfalso; omega) (fun h2 => ?_)
    refine j_aload_n dX10_dry_11 rfl rfl rfl ?_
    refine j_bipush (v := (-2)) dX10_dry_12 rfl rfl ?_
    refine j_callVw (As := [.int (-2)]) dX10_dry_14 rfl cX10_54 (by decide) rfl rfl (by decide) rfl (by decide) rfl rfl (c_mbad ?_)
    show Rj _ _ _ _ _ _ 17 [.ref 33, .int a, jU] [.int (-2)] n (u2 I 39 0 (I 39 0 + nI 1)) J (Pg i0 i1)
    refine j_iret dX10_dry_17 rfl rfl ?_
    have e : oDamp 2 S a = (S.bad, -2) := by unfold oDamp; rw [if_neg (by exact ha)]
    rw [e] at hQ
    exact hQ _ _ hm.bad (CF.u2 (by omega) (by omega))
