set_option maxHeartbeats 4000000 in
set_option maxRecDepth 100000 in
theorem c_maddP34 {X : jX} {d n : Nat} {I : HI} {J : HJ} {i0 i1 : Option Nat} {Q : jPost} {v : VT} {k l : Nat} (hM : VM 34 0 I v) (h6 : v 0 3 < 6) (hQ : ∀ I', VM 34 0 I' (vPair v k l) → (∀ a, a ≠ 34 → I' a = I a) → Q (some (.int (nI (v 0 3)))) n I' J (Pg i0 i1)) : Cj X d 0 0 mX10_addPair [.ref 34, .int (nI k), .int (nI l)] n I J (Pg i0 i1) Q := by
  refine Cj.intro rfl (Nat.le_of_ble_eq_true rfl) (L := [.ref 34, .int (nI k), .int (nI l), jU]) rfl ?_
  have e0 : I 34 0 = nI (v 0 3) := hM.1.1
  have e2 : I 34 2 = nI (v 0 0) := hM.1.2.2.1
  refine j_aload_n dX10_addPair_0 rfl rfl rfl ?_
  refine j_iconst (v := nI 0) dX10_addPair_1 rfl rfl ?_
  refine j_iald (j := 0) (v := nI (v 0 3)) dX10_addPair_2 rfl rfl (by decide) rfl (by decide) (by decide) hM.1.1 ?_
  refine j_istore_n (L' := [.ref 34, .int (nI k), .int (nI l), .int (nI (v 0 3))]) dX10_addPair_3 rfl rfl rfl (by decide) rfl ?_
  refine j_aload_n dX10_addPair_4 rfl rfl rfl ?_
  refine j_bipush (v := nI 7) dX10_addPair_5 rfl rfl ?_
  refine j_iload_n dX10_addPair_7 rfl rfl rfl ?_
  refine j_iaddN (c := 7 + (v 0 3)) dX10_addPair_8 rfl rfl ?_
  refine j_iload_n dX10_addPair_9 rfl rfl rfl ?_
  refine j_iast (j := 7 + (v 0 3)) dX10_addPair_10 rfl rfl (by decide) rfl (by omega) (by decide) ?_
  refine j_aload_n dX10_addPair_11 rfl rfl rfl ?_
  refine j_bipush (v := nI 13) dX10_addPair_12 rfl rfl ?_
  refine j_iload_n dX10_addPair_14 rfl rfl rfl ?_
  refine j_iaddN (c := 13 + (v 0 3)) dX10_addPair_15 rfl rfl ?_
  refine j_iload_n dX10_addPair_16 rfl rfl rfl ?_
  refine j_iast (j := 13 + (v 0 3)) dX10_addPair_17 rfl rfl (by decide) rfl (by omega) (by decide) ?_
  refine j_aload_n dX10_addPair_18 rfl rfl rfl ?_
  refine j_bipush (v := nI 19) dX10_addPair_19 rfl rfl ?_
  refine j_iload_n dX10_addPair_21 rfl rfl rfl ?_
  refine j_iaddN (c := 19 + (v 0 3)) dX10_addPair_22 rfl rfl ?_
  refine j_aload_n dX10_addPair_23 rfl rfl rfl ?_
  refine j_iconst (v := nI 2) dX10_addPair_24 rfl rfl ?_
  refine j_iald (j := 2) (v := (u2 (u2 I 34 (7 + (v 0 3)) (nI k)) 34 (13 + (v 0 3)) (nI l)) 34 2) dX10_addPair_25 rfl rfl (by decide) rfl (by decide) (by decide) rfl ?_
  refine j_iast (j := 19 + (v 0 3)) dX10_addPair_26 rfl rfl (by decide) rfl (by omega) (by decide) ?_
  refine j_aload_n dX10_addPair_27 rfl rfl rfl ?_
  refine j_bipush (v := nI 25) dX10_addPair_28 rfl rfl ?_
  refine j_iload_n dX10_addPair_30 rfl rfl rfl ?_
  refine j_iaddN (c := 25 + (v 0 3)) dX10_addPair_31 rfl rfl ?_
  refine j_iconst (v := (-1)) dX10_addPair_32 rfl rfl ?_
  refine j_iast (j := 25 + (v 0 3)) dX10_addPair_33 rfl rfl (by decide) rfl (by omega) (by decide) ?_
  refine j_aload_n dX10_addPair_34 rfl rfl rfl ?_
  refine j_iconst (v := nI 0) dX10_addPair_35 rfl rfl ?_
  refine j_dup2 dX10_addPair_36 rfl rfl rfl ?_
  refine j_iald (j := 0) (v := (u2 (u2 (u2 (u2 I 34 (7 + (v 0 3)) (nI k)) 34 (13 + (v 0 3)) (nI l)) 34 (19 + (v 0 3)) ((u2 (u2 I 34 (7 + (v 0 3)) (nI k)) 34 (13 + (v 0 3)) (nI l)) 34 2)) 34 (25 + (v 0 3)) (-1)) 34 0) dX10_addPair_37 rfl rfl (by decide) rfl (by decide) (by decide) rfl ?_
  refine j_iconst (v := nI 1) dX10_addPair_38 rfl rfl ?_
  refine j_iadd dX10_addPair_39 rfl ?_
  refine j_iast (j := 0) dX10_addPair_40 rfl rfl (by decide) rfl (by decide) (by decide) ?_
  refine j_aload_n dX10_addPair_41 rfl rfl rfl ?_
  refine j_bipush (v := nI 6) dX10_addPair_42 rfl rfl ?_
  refine j_iconst (v := nI 0) dX10_addPair_44 rfl rfl ?_
  refine j_iast (j := 6) dX10_addPair_45 rfl rfl (by decide) rfl (by decide) (by decide) ?_
  refine j_iload_n dX10_addPair_46 rfl rfl rfl ?_
  refine j_iret dX10_addPair_47 rfl rfl ?_
  refine hQ _ (VM_pair hM h6 ?_ ?_ ?_ ?_ ?_ ?_ ?_) (fun a ha => by rw [u2_ne _ _ _ ha, u2_ne _ _ _ ha, u2_ne _ _ _ ha, u2_ne _ _ _ ha, u2_ne _ _ _ ha, u2_ne _ _ _ ha])
  · rw [u2_ne2 _ _ _ (by omega), u2_self, u2_ne2 _ _ _ (by omega), u2_ne2 _ _ _ (by omega), u2_ne2 _ _ _ (by omega), u2_ne2 _ _ _ (by omega), e0, nI_add]
  · exact u2_self _ _ _ _
  · rw [u2_ne2 _ _ _ (by omega), u2_ne2 _ _ _ (by omega), u2_ne2 _ _ _ (by omega), u2_ne2 _ _ _ (by omega), u2_ne2 _ _ _ (by omega), u2_self]
  · rw [u2_ne2 _ _ _ (by omega), u2_ne2 _ _ _ (by omega), u2_ne2 _ _ _ (by omega), u2_ne2 _ _ _ (by omega), u2_self]
  · rw [u2_ne2 _ _ _ (by omega), u2_ne2 _ _ _ (by omega), u2_ne2 _ _ _ (by omega), u2_self, u2_ne2 _ _ _ (by omega), u2_ne2 _ _ _ (by omega), e2]
  · rw [u2_ne2 _ _ _ (by omega), u2_ne2 _ _ _ (by omega), u2_self]
  · intro i g0 g6 g7 g13 g19 g25
    rw [u2_ne2 _ _ _ g6, u2_ne2 _ _ _ g0, u2_ne2 _ _ _ g25, u2_ne2 _ _ _ g19, u2_ne2 _ _ _ g13, u2_ne2 _ _ _ g7]
set_option maxHeartbeats 4000000 in
set_option maxRecDepth 100000 in
theorem c_maddP35 {X : jX} {d n : Nat} {I : HI} {J : HJ} {i0 i1 : Option Nat} {Q : jPost} {v : VT} {k l : Nat} (hM : VM 35 0 I v) (h6 : v 0 3 < 6) (hQ : ∀ I', VM 35 0 I' (vPair v k l) → (∀ a, a ≠ 35 → I' a = I a) → Q (some (.int (nI (v 0 3)))) n I' J (Pg i0 i1)) : Cj X d 0 0 mX10_addPair [.ref 35, .int (nI k), .int (nI l)] n I J (Pg i0 i1) Q := by
  refine Cj.intro rfl (Nat.le_of_ble_eq_true rfl) (L := [.ref 35, .int (nI k), .int (nI l), jU]) rfl ?_
  have e0 : I 35 0 = nI (v 0 3) := hM.1.1
  have e2 : I 35 2 = nI (v 0 0) := hM.1.2.2.1
  refine j_aload_n dX10_addPair_0 rfl rfl rfl ?_
  refine j_iconst (v := nI 0) dX10_addPair_1 rfl rfl ?_
  refine j_iald (j := 0) (v := nI (v 0 3)) dX10_addPair_2 rfl rfl (by decide) rfl (by decide) (by decide) hM.1.1 ?_
  refine j_istore_n (L' := [.ref 35, .int (nI k), .int (nI l), .int (nI (v 0 3))]) dX10_addPair_3 rfl rfl rfl (by decide) rfl ?_
  refine j_aload_n dX10_addPair_4 rfl rfl rfl ?_
  refine j_bipush (v := nI 7) dX10_addPair_5 rfl rfl ?_
  refine j_iload_n dX10_addPair_7 rfl rfl rfl ?_
  refine j_iaddN (c := 7 + (v 0 3)) dX10_addPair_8 rfl rfl ?_
  refine j_iload_n dX10_addPair_9 rfl rfl rfl ?_
  refine j_iast (j := 7 + (v 0 3)) dX10_addPair_10 rfl rfl (by decide) rfl (by omega) (by decide) ?_
  refine j_aload_n dX10_addPair_11 rfl rfl rfl ?_
  refine j_bipush (v := nI 13) dX10_addPair_12 rfl rfl ?_
  refine j_iload_n dX10_addPair_14 rfl rfl rfl ?_
  refine j_iaddN (c := 13 + (v 0 3)) dX10_addPair_15 rfl rfl ?_
  refine j_iload_n dX10_addPair_16 rfl rfl rfl ?_
  refine j_iast (j := 13 + (v 0 3)) dX10_addPair_17 rfl rfl (by decide) rfl (by omega) (by decide) ?_
  refine j_aload_n dX10_addPair_18 rfl rfl rfl ?_
  refine j_bipush (v := nI 19) dX10_addPair_19 rfl rfl ?_
  refine j_iload_n dX10_addPair_21 rfl rfl rfl ?_
  refine j_iaddN (c := 19 + (v 0 3)) dX10_addPair_22 rfl rfl ?_
  refine j_aload_n dX10_addPair_23 rfl rfl rfl ?_
  refine j_iconst (v := nI 2) dX10_addPair_24 rfl rfl ?_
  refine j_iald (j := 2) (v := (u2 (u2 I 35 (7 + (v 0 3)) (nI k)) 35 (13 + (v 0 3)) (nI l)) 35 2) dX10_addPair_25 rfl rfl (by decide) rfl (by decide) (by decide) rfl ?_
  refine j_iast (j := 19 + (v 0 3)) dX10_addPair_26 rfl rfl (by decide) rfl (by omega) (by decide) ?_
  refine j_aload_n dX10_addPair_27 rfl rfl rfl ?_
  refine j_bipush (v := nI 25) dX10_addPair_28 rfl rfl ?_
  refine j_iload_n dX10_addPair_30 rfl rfl rfl ?_
  refine j_iaddN (c := 25 + (v 0 3)) dX10_addPair_31 rfl rfl ?_
  refine j_iconst (v := (-1)) dX10_addPair_32 rfl rfl ?_
  refine j_iast (j := 25 + (v 0 3)) dX10_addPair_33 rfl rfl (by decide) rfl (by omega) (by decide) ?_
  refine j_aload_n dX10_addPair_34 rfl rfl rfl ?_
  refine j_iconst (v := nI 0) dX10_addPair_35 rfl rfl ?_
  refine j_dup2 dX10_addPair_36 rfl rfl rfl ?_
  refine j_iald (j := 0) (v := (u2 (u2 (u2 (u2 I 35 (7 + (v 0 3)) (nI k)) 35 (13 + (v 0 3)) (nI l)) 35 (19 + (v 0 3)) ((u2 (u2 I 35 (7 + (v 0 3)) (nI k)) 35 (13 + (v 0 3)) (nI l)) 35 2)) 35 (25 + (v 0 3)) (-1)) 35 0) dX10_addPair_37 rfl rfl (by decide) rfl (by decide) (by decide) rfl ?_
  refine j_iconst (v := nI 1) dX10_addPair_38 rfl rfl ?_
  refine j_iadd dX10_addPair_39 rfl ?_
  refine j_iast (j := 0) dX10_addPair_40 rfl rfl (by decide) rfl (by decide) (by decide) ?_
  refine j_aload_n dX10_addPair_41 rfl rfl rfl ?_
  refine j_bipush (v := nI 6) dX10_addPair_42 rfl rfl ?_
  refine j_iconst (v := nI 0) dX10_addPair_44 rfl rfl ?_
  refine j_iast (j := 6) dX10_addPair_45 rfl rfl (by decide) rfl (by decide) (by decide) ?_
  refine j_iload_n dX10_addPair_46 rfl rfl rfl ?_
  refine j_iret dX10_addPair_47 rfl rfl ?_
  refine hQ _ (VM_pair hM h6 ?_ ?_ ?_ ?_ ?_ ?_ ?_) (fun a ha => by rw [u2_ne _ _ _ ha, u2_ne _ _ _ ha, u2_ne _ _ _ ha, u2_ne _ _ _ ha, u2_ne _ _ _ ha, u2_ne _ _ _ ha])
  · rw [u2_ne2 _ _ _ (by omega), u2_self, u2_ne2 _ _ _ (by omega), u2_ne2 _ _ _ (by omega), u2_ne2 _ _ _ (by omega), u2_ne2 _ _ _ (by omega), e0, nI_add]
  · exact u2_self _ _ _ _
  · rw [u2_ne2 _ _ _ (by omega), u2_ne2 _ _ _ (by omega), u2_ne2 _ _ _ (by omega), u2_ne2 _ _ _ (by omega), u2_ne2 _ _ _ (by omega), u2_self]
  · rw [u2_ne2 _ _ _ (by omega), u2_ne2 _ _ _ (by omega), u2_ne2 _ _ _ (by omega), u2_ne2 _ _ _ (by omega), u2_self]
  · rw [u2_ne2 _ _ _ (by omega), u2_ne2 _ _ _ (by omega), u2_ne2 _ _ _ (by omega), u2_self, u2_ne2 _ _ _ (by omega), u2_ne2 _ _ _ (by omega), e2]
  · rw [u2_ne2 _ _ _ (by omega), u2_ne2 _ _ _ (by omega), u2_self]
  · intro i g0 g6 g7 g13 g19 g25
    rw [u2_ne2 _ _ _ g6, u2_ne2 _ _ _ g0, u2_ne2 _ _ _ g25, u2_ne2 _ _ _ g19, u2_ne2 _ _ _ g13, u2_ne2 _ _ _ g7]
