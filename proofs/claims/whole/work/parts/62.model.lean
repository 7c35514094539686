set_option maxHeartbeats 4000000 in
set_option maxRecDepth 100000 in
theorem c_maddK34 {X : jX} {d n : Nat} {I : HI} {J : HJ} {i0 i1 : Option Nat} {Q : jPost} {v : VT} {x : Nat} (hM : VM 34 0 I v) (h6 : v 0 3 ≤ 6) (h8 : v 0 4 < 8) (hQ : ∀ I', VM 34 0 I' (vKin v x) → (∀ a, a ≠ 34 → I' a = I a) → Q (some (.int (nI (v 0 4)))) n I' J (Pg i0 i1)) : Cj X d 0 0 mX10_addKin [.ref 34, .int (nI x)] n I J (Pg i0 i1) Q := by
  refine Cj.intro rfl (Nat.le_of_ble_eq_true rfl) (L := [.ref 34, .int (nI x), jU]) rfl ?_
  refine j_aload_n dX10_addKin_0 rfl rfl rfl ?_
  refine j_iconst (v := nI 1) dX10_addKin_1 rfl rfl ?_
  refine j_iald (j := 1) (v := nI (v 0 4)) dX10_addKin_2 rfl rfl (by decide) rfl (by decide) (by decide) hM.1.2.1 ?_
  refine j_istore_n (L' := [.ref 34, .int (nI x), .int (nI (v 0 4))]) dX10_addKin_3 rfl rfl rfl (by decide) rfl ?_
  refine j_aload_n dX10_addKin_4 rfl rfl rfl ?_
  refine j_bipush (v := nI 31) dX10_addKin_5 rfl rfl ?_
  refine j_iload_n dX10_addKin_7 rfl rfl rfl ?_
  refine j_iaddN (c := 31 + (v 0 4)) dX10_addKin_8 rfl rfl ?_
  refine j_iload_n dX10_addKin_9 rfl rfl rfl ?_
  refine j_iast (j := 31 + (v 0 4)) dX10_addKin_10 rfl rfl (by decide) rfl (by omega) (by decide) ?_
  refine j_aload_n dX10_addKin_11 rfl rfl rfl ?_
  refine j_iconst (v := nI 1) dX10_addKin_12 rfl rfl ?_
  refine j_dup2 dX10_addKin_13 rfl rfl rfl ?_
  refine j_iald (j := 1) (v := (u2 I 34 (31 + (v 0 4)) (nI x)) 34 1) dX10_addKin_14 rfl rfl (by decide) rfl (by decide) (by decide) rfl ?_
  refine j_iconst (v := nI 1) dX10_addKin_15 rfl rfl ?_
  refine j_iadd dX10_addKin_16 rfl ?_
  refine j_iast (j := 1) dX10_addKin_17 rfl rfl (by decide) rfl (by decide) (by decide) ?_
  refine j_iload_n dX10_addKin_18 rfl rfl rfl ?_
  refine j_iret dX10_addKin_19 rfl rfl ?_
  have e0 : I 34 1 = nI (v 0 4) := hM.1.2.1
  have e1 : u2 I 34 (31 + v 0 4) (nI x) 34 1 + nI 1 = nI (v 0 4 + 1) := by rw [u2_ne2 _ _ _ (by omega), e0, nI_add]
  rw [e1]
  exact hQ _ (VM_kin hM h6 h8) (fun a ha => by rw [u2_ne _ _ _ ha, u2_ne _ _ _ ha])
set_option maxHeartbeats 4000000 in
set_option maxRecDepth 100000 in
theorem c_maddK35 {X : jX} {d n : Nat} {I : HI} {J : HJ} {i0 i1 : Option Nat} {Q : jPost} {v : VT} {x : Nat} (hM : VM 35 0 I v) (h6 : v 0 3 ≤ 6) (h8 : v 0 4 < 8) (hQ : ∀ I', VM 35 0 I' (vKin v x) → (∀ a, a ≠ 35 → I' a = I a) → Q (some (.int (nI (v 0 4)))) n I' J (Pg i0 i1)) : Cj X d 0 0 mX10_addKin [.ref 35, .int (nI x)] n I J (Pg i0 i1) Q := by
  refine Cj.intro rfl (Nat.le_of_ble_eq_true rfl) (L := [.ref 35, .int (nI x), jU]) rfl ?_
  refine j_aload_n dX10_addKin_0 rfl rfl rfl ?_
  refine j_iconst (v := nI 1) dX10_addKin_1 rfl rfl ?_
  refine j_iald (j := 1) (v := nI (v 0 4)) dX10_addKin_2 rfl rfl (by decide) rfl (by decide) (by decide) hM.1.2.1 ?_
  refine j_istore_n (L' := [.ref 35, .int (nI x), .int (nI (v 0 4))]) dX10_addKin_3 rfl rfl rfl (by decide) rfl ?_
  refine j_aload_n dX10_addKin_4 rfl rfl rfl ?_
  refine j_bipush (v := nI 31) dX10_addKin_5 rfl rfl ?_
  refine j_iload_n dX10_addKin_7 rfl rfl rfl ?_
  refine j_iaddN (c := 31 + (v 0 4)) dX10_addKin_8 rfl rfl ?_
  refine j_iload_n dX10_addKin_9 rfl rfl rfl ?_
  refine j_iast (j := 31 + (v 0 4)) dX10_addKin_10 rfl rfl (by decide) rfl (by omega) (by decide) ?_
  refine j_aload_n dX10_addKin_11 rfl rfl rfl ?_
  refine j_iconst (v := nI 1) dX10_addKin_12 rfl rfl ?_
  refine j_dup2 dX10_addKin_13 rfl rfl rfl ?_
  refine j_iald (j := 1) (v := (u2 I 35 (31 + (v 0 4)) (nI x)) 35 1) dX10_addKin_14 rfl rfl (by decide) rfl (by decide) (by decide) rfl ?_
  refine j_iconst (v := nI 1) dX10_addKin_15 rfl rfl ?_
  refine j_iadd dX10_addKin_16 rfl ?_
  refine j_iast (j := 1) dX10_addKin_17 rfl rfl (by decide) rfl (by decide) (by decide) ?_
  refine j_iload_n dX10_addKin_18 rfl rfl rfl ?_
  refine j_iret dX10_addKin_19 rfl rfl ?_
  have e0 : I 35 1 = nI (v 0 4) := hM.1.2.1
  have e1 : u2 I 35 (31 + v 0 4) (nI x) 35 1 + nI 1 = nI (v 0 4 + 1) := by rw [u2_ne2 _ _ _ (by omega), e0, nI_add]
  rw [e1]
  exact hQ _ (VM_kin hM h6 h8) (fun a ha => by rw [u2_ne _ _ _ ha, u2_ne _ _ _ ha])
set_option maxHeartbeats 4000000 in
set_option maxRecDepth 100000 in
theorem g_kin {X : jX} {d n : Nat} {I : HI} {J : HJ} {i0 i1 : Option Nat} {Q : jPost} {S : SS} {yb : Nat} (hm : MI S I J) (hW : WF yb S.v) (hyb : yb ≤ 2 ^ 12) {a : Int32} (hQ : MP Q (oKin S a) n I J (Pg i0 i1)) : Cj X (d + 1) 0 0 mX10_kin [.ref 33, .int a] n I J (Pg i0 i1) Q := by
  refine Cj.intro rfl (Nat.le_of_ble_eq_true rfl) (L := [.ref 33, .int a]) rfl ?_
  obtain ⟨⟨w0, w1, w2, w3, w4, w5, w6⟩, wp, wk, wc, wb⟩ := id hW
  refine j_iload_n dX10_kin_0 rfl rfl rfl ?_
  refine j_iconst (v := nI 1) dX10_kin_1 rfl rfl ?_
  refine j_bipush (v := nI 20) dX10_kin_2 rfl rfl ?_
  refine j_callSw (As := [.int a, .int (nI 1), .int (nI 20)]) dX10_kin_4 rfl cX10_50 rfl (by decide) rfl rfl (c_min (fun ha => ?_) (fun ha => ?_))
  · obtain ⟨ja, rfl, hal, hau⟩ := inR_nat (by decide) (by decide) ha
    show Rj _ _ _ _ _ _ 7 [.ref 33, .int (nI ja)] [.int (nI 1)] n I J (Pg i0 i1)
    refine j_ifneN (tgt := 17) dX10_kin_7 rfl rfl (by decide) (fun h1 => ?_) (fun h1 => by exfalso; omega)
    refine j_aload_n dX10_kin_17 rfl rfl rfl ?_
    refine j_getP (b := 34) dX10_kin_18 rfl fX10_7 rfl (by decide) rfl rfl ?_
    refine j_iconst (v := nI 1) dX10_kin_21 rfl rfl ?_
    refine j_iald (j := 1) (v := nI (S.v 0 4)) dX10_kin_22 rfl rfl (by decide) rfl (by decide) (by decide) hm.v.mk ?_
    refine j_bipush (v := nI 8) dX10_kin_23 rfl rfl ?_
    refine j_icmpneN (tgt := 37) dX10_kin_25 rfl rfl (by omega) (by decide) (fun h2 => ?_) (fun h2 => ?_)
    · refine j_aload_n dX10_kin_37 rfl rfl rfl ?_
      refine j_getP (b := 34) dX10_kin_38 rfl fX10_7 rfl (by decide) rfl rfl ?_
      refine j_iload_n dX10_kin_41 rfl rfl rfl ?_
      refine j_callSw (As := [.ref 34, .int (nI ja)]) dX10_kin_42 rfl cX10_62 rfl (by decide) rfl rfl (c_maddK34 hm.v w3 (by omega) (fun I1 hV1 ho1 => ?_))
      show Rj _ _ _ _ _ _ 45 [.ref 33, .int (nI ja)] [.int (nI (S.v 0 4))] n I1 J (Pg i0 i1)
      refine j_iret dX10_kin_45 rfl rfl ?_
      have e : oKin S (nI ja) = (S.set (vKin S.v ja), nI (S.v 0 4)) := by unfold oKin; rw [if_pos (by exact ha), if_neg (by assumption), tN_nI (by omega)]
      rw [e] at hQ
      exact hQ _ _ (hm.one hV1 ho1) (fun b hb => ⟨ho1 b (by omega), rfl⟩)
    · refine j_aload_n dX10_kin_28 rfl rfl rfl ?_
      refine j_bipush (v := (-4)) dX10_kin_29 rfl rfl ?_
      refine j_callVw (As := [.int (-4)]) dX10_kin_31 rfl cX10_54 (by decide) rfl rfl (by decide) rfl (by decide) rfl rfl (c_mfull ?_)
      show Rj _ _ _ _ _ _ 34 [.ref 33, .int (nI ja)] [.int (-4)] n (u2 I 39 2 (I 39 2 + nI 1)) J (Pg i0 i1)
      refine j_goto (tgt := 45) dX10_kin_34 rfl ?_
      refine j_iret dX10_kin_45 rfl rfl ?_
      have e : oKin S (nI ja) = (S.full, -4) := by unfold oKin; rw [if_pos (by exact ha), if_pos (by assumption)]
      rw [e] at hQ
      exact hQ _ _ hm.full (CF.u2 (by omega) (by omega))
  · show Rj _ _ _ _ _ _ 7 [.ref 33, .int a] [.int (nI 0)] n I J (Pg i0 i1)
    refine j_ifneN (tgt := 17) dX10_kin_7 rfl rfl (by decide) (fun h3 => by exfalso; omega) (fun h3 => ?_)
    refine j_aload_n dX10_kin_10 rfl rfl rfl ?_
    refine j_bipush (v := (-2)) dX10_kin_11 rfl rfl ?_
    refine j_callVw (As := [.int (-2)]) dX10_kin_13 rfl cX10_54 (by decide) rfl rfl (by decide) rfl (by decide) rfl rfl (c_mbad ?_)
    show Rj _ _ _ _ _ _ 16 [.ref 33, .int a] [.int (-2)] n (u2 I 39 0 (I 39 0 + nI 1)) J (Pg i0 i1)
    refine j_iret dX10_kin_16 rfl rfl ?_
    have e : oKin S a = (S.bad, -2) := by unfold oKin; rw [if_neg (by exact ha)]
    rw [e] at hQ
    exact hQ _ _ hm.bad (CF.u2 (by omega) (by omega))
