/-- rows below b as they were, the others nothing -/
def IZ (b : Nat) (I : HI) : HI := fun a k => if a < b then I a k else 0
def JZ (b : Nat) (J : HJ) : HJ := fun a k => if a < b then J a k else 0
def PZ (b : Nat) (P : HP) : HP := fun a k => if a < b then P a k else (jPr.getD a []).getD k none
set_option maxHeartbeats 4000000 in
set_option maxRecDepth 100000 in
theorem c_pinit10 {X : jX} {d : Nat} {I : HI} {J : HJ} {P : HP} {Q : jPost} (hQ : Q none 12 (u2 (u2 (ur (ur I 10 (fun _ => 0)) 11 (fun _ => 0)) 10 1 (nI 0)) 10 2 (nI 0)) (ur (ur J 10 (fun _ => 0)) 11 (fun _ => 0)) (u2 (ur (ur P 10 (fun _ => none)) 11 (fun _ => none)) 10 0 (some 11))) : Cj X (d + 1) 1 104 mX5_init [.ref 10] 11 (ur I 10 (fun _ => 0)) (ur J 10 (fun _ => 0)) (ur P 10 (fun _ => none)) Q := by
  refine Cj.intro rfl (Nat.le_of_ble_eq_true rfl) (L := [.ref 10]) rfl ?_
  refine j_aload_n dX5_init_0 rfl rfl rfl ?_
  refine j_objInit dX5_init_1 rfl cX5_3 jvw_oi jvw_oc (by decide) ?_
  refine j_aload_n dX5_init_4 rfl rfl rfl ?_
  refine j_bipush (v := nI 104) dX5_init_5 rfl rfl ?_
  refine j_newI (len := 104) (bc := 0) (bs := 0) dX5_init_7 rfl rfl (by decide) jvw_int (by decide) rfl (by decide) rfl rfl ?_
  show Rj _ _ _ _ _ _ 9 [.ref 10] [.ref 11, .ref 10] 12 (ur (ur I 10 (fun _ => 0)) 11 (fun _ => 0)) (ur (ur J 10 (fun _ => 0)) 11 (fun _ => 0)) (ur (ur P 10 (fun _ => none)) 11 (fun _ => none))
  refine j_putP dX5_init_9 rfl fX5_11 rfl (by decide) (by decide) rfl (Or.inr ⟨rfl, rfl⟩) ?_
  refine j_aload_n dX5_init_12 rfl rfl rfl ?_
  refine j_iconst (v := nI 0) dX5_init_13 rfl rfl ?_
  refine j_putI dX5_init_14 rfl fX5_15 rfl (by decide) rfl rfl ?_
  refine j_aload_n dX5_init_17 rfl rfl rfl ?_
  refine j_iconst (v := nI 0) dX5_init_18 rfl rfl ?_
  refine j_putI dX5_init_19 rfl fX5_19 rfl (by decide) rfl rfl ?_
  refine j_vret dX5_init_22 rfl ?_
  exact hQ
set_option maxHeartbeats 4000000 in
set_option maxRecDepth 100000 in
theorem c_pinit24 {X : jX} {d : Nat} {I : HI} {J : HJ} {P : HP} {Q : jPost} (hQ : Q none 26 (u2 (u2 (ur (ur I 24 (fun _ => 0)) 25 (fun _ => 0)) 24 1 (nI 0)) 24 2 (nI 0)) (ur (ur J 24 (fun _ => 0)) 25 (fun _ => 0)) (u2 (ur (ur P 24 (fun _ => none)) 25 (fun _ => none)) 24 0 (some 25))) : Cj X (d + 1) 1 104 mX5_init [.ref 24] 25 (ur I 24 (fun _ => 0)) (ur J 24 (fun _ => 0)) (ur P 24 (fun _ => none)) Q := by
  refine Cj.intro rfl (Nat.le_of_ble_eq_true rfl) (L := [.ref 24]) rfl ?_
  refine j_aload_n dX5_init_0 rfl rfl rfl ?_
  refine j_objInit dX5_init_1 rfl cX5_3 jvw_oi jvw_oc (by decide) ?_
  refine j_aload_n dX5_init_4 rfl rfl rfl ?_
  refine j_bipush (v := nI 104) dX5_init_5 rfl rfl ?_
  refine j_newI (len := 104) (bc := 0) (bs := 0) dX5_init_7 rfl rfl (by decide) jvw_int (by decide) rfl (by decide) rfl rfl ?_
  show Rj _ _ _ _ _ _ 9 [.ref 24] [.ref 25, .ref 24] 26 (ur (ur I 24 (fun _ => 0)) 25 (fun _ => 0)) (ur (ur J 24 (fun _ => 0)) 25 (fun _ => 0)) (ur (ur P 24 (fun _ => none)) 25 (fun _ => none))
  refine j_putP dX5_init_9 rfl fX5_11 rfl (by decide) (by decide) rfl (Or.inr ⟨rfl, rfl⟩) ?_
  refine j_aload_n dX5_init_12 rfl rfl rfl ?_
  refine j_iconst (v := nI 0) dX5_init_13 rfl rfl ?_
  refine j_putI dX5_init_14 rfl fX5_15 rfl (by decide) rfl rfl ?_
  refine j_aload_n dX5_init_17 rfl rfl rfl ?_
  refine j_iconst (v := nI 0) dX5_init_18 rfl rfl ?_
  refine j_putI dX5_init_19 rfl fX5_19 rfl (by decide) rfl rfl ?_
  refine j_vret dX5_init_22 rfl ?_
  exact hQ
set_option maxHeartbeats 4000000 in
set_option maxRecDepth 100000 in
theorem c_pinit53 {X : jX} {d : Nat} {I : HI} {J : HJ} {P : HP} {Q : jPost} (hQ : Q none 55 (u2 (u2 (ur (ur I 53 (fun _ => 0)) 54 (fun _ => 0)) 53 1 (nI 0)) 53 2 (nI 0)) (ur (ur J 53 (fun _ => 0)) 54 (fun _ => 0)) (u2 (ur (ur P 53 (fun _ => none)) 54 (fun _ => none)) 53 0 (some 54))) : Cj X (d + 1) 1 104 mX5_init [.ref 53] 54 (ur I 53 (fun _ => 0)) (ur J 53 (fun _ => 0)) (ur P 53 (fun _ => none)) Q := by
  refine Cj.intro rfl (Nat.le_of_ble_eq_true rfl) (L := [.ref 53]) rfl ?_
  refine j_aload_n dX5_init_0 rfl rfl rfl ?_
  refine j_objInit dX5_init_1 rfl cX5_3 jvw_oi jvw_oc (by decide) ?_
  refine j_aload_n dX5_init_4 rfl rfl rfl ?_
  refine j_bipush (v := nI 104) dX5_init_5 rfl rfl ?_
  refine j_newI (len := 104) (bc := 0) (bs := 0) dX5_init_7 rfl rfl (by decide) jvw_int (by decide) rfl (by decide) rfl rfl ?_
  show Rj _ _ _ _ _ _ 9 [.ref 53] [.ref 54, .ref 53] 55 (ur (ur I 53 (fun _ => 0)) 54 (fun _ => 0)) (ur (ur J 53 (fun _ => 0)) 54 (fun _ => 0)) (ur (ur P 53 (fun _ => none)) 54 (fun _ => none))
  refine j_putP dX5_init_9 rfl fX5_11 rfl (by decide) (by decide) rfl (Or.inr ⟨rfl, rfl⟩) ?_
  refine j_aload_n dX5_init_12 rfl rfl rfl ?_
  refine j_iconst (v := nI 0) dX5_init_13 rfl rfl ?_
  refine j_putI dX5_init_14 rfl fX5_15 rfl (by decide) rfl rfl ?_
  refine j_aload_n dX5_init_17 rfl rfl rfl ?_
  refine j_iconst (v := nI 0) dX5_init_18 rfl rfl ?_
  refine j_putI dX5_init_19 rfl fX5_19 rfl (by decide) rfl rfl ?_
  refine j_vret dX5_init_22 rfl ?_
  exact hQ
set_option maxHeartbeats 4000000 in
set_option maxRecDepth 100000 in
theorem c_pinit64 {X : jX} {d : Nat} {I : HI} {J : HJ} {P : HP} {Q : jPost} (hQ : Q none 66 (u2 (u2 (ur (ur I 64 (fun _ => 0)) 65 (fun _ => 0)) 64 1 (nI 0)) 64 2 (nI 0)) (ur (ur J 64 (fun _ => 0)) 65 (fun _ => 0)) (u2 (ur (ur P 64 (fun _ => none)) 65 (fun _ => none)) 64 0 (some 65))) : Cj X (d + 1) 1 104 mX5_init [.ref 64] 65 (ur I 64 (fun _ => 0)) (ur J 64 (fun _ => 0)) (ur P 64 (fun _ => none)) Q := by
  refine Cj.intro rfl (Nat.le_of_ble_eq_true rfl) (L := [.ref 64]) rfl ?_
  refine j_aload_n dX5_init_0 rfl rfl rfl ?_
  refine j_objInit dX5_init_1 rfl cX5_3 jvw_oi jvw_oc (by decide) ?_
  refine j_aload_n dX5_init_4 rfl rfl rfl ?_
  refine j_bipush (v := nI 104) dX5_init_5 rfl rfl ?_
  refine j_newI (len := 104) (bc := 0) (bs := 0) dX5_init_7 rfl rfl (by decide) jvw_int (by decide) rfl (by decide) rfl rfl ?_
  show Rj _ _ _ _ _ _ 9 [.ref 64] [.ref 65, .ref 64] 66 (ur (ur I 64 (fun _ => 0)) 65 (fun _ => 0)) (ur (ur J 64 (fun _ => 0)) 65 (fun _ => 0)) (ur (ur P 64 (fun _ => none)) 65 (fun _ => none))
  refine j_putP dX5_init_9 rfl fX5_11 rfl (by decide) (by decide) rfl (Or.inr ⟨rfl, rfl⟩) ?_
  refine j_aload_n dX5_init_12 rfl rfl rfl ?_
  refine j_iconst (v := nI 0) dX5_init_13 rfl rfl ?_
  refine j_putI dX5_init_14 rfl fX5_15 rfl (by decide) rfl rfl ?_
  refine j_aload_n dX5_init_17 rfl rfl rfl ?_
  refine j_iconst (v := nI 0) dX5_init_18 rfl rfl ?_
  refine j_putI dX5_init_19 rfl fX5_19 rfl (by decide) rfl rfl ?_
  refine j_vret dX5_init_22 rfl ?_
  exact hQ
set_option maxHeartbeats 4000000 in
set_option maxRecDepth 100000 in
theorem c_vinit1 {X : jX} {d : Nat} {I : HI} {J : HJ} {P : HP} {Q : jPost} (hQ : Q none 12 (IZ 1 I) (JZ 1 J) (PZ 1 P)) : Cj X (d + 2) 10 163 mX8_init [.ref 1] 2 (ur I 1 (fun _ => 0)) (ur J 1 (fun _ => 0)) (ur P 1 (fun _ => none)) Q := by
  refine Cj.intro rfl (Nat.le_of_ble_eq_true rfl) (L := [.ref 1]) rfl ?_
  refine j_aload_n dX8_init_0 rfl rfl rfl ?_
  refine j_objInit dX8_init_1 rfl cX8_3 jvw_oi jvw_oc (by decide) ?_
  refine j_aload_n dX8_init_4 rfl rfl rfl ?_
  refine j_iconst (v := nI 0) dX8_init_5 rfl rfl ?_
  refine j_putI dX8_init_6 rfl fX8_9 rfl (by decide) rfl rfl ?_
  refine j_aload_n dX8_init_9 rfl rfl rfl ?_
  refine j_iconst (v := nI 0) dX8_init_10 rfl rfl ?_
  refine j_putI dX8_init_11 rfl fX8_15 rfl (by decide) rfl rfl ?_
  refine j_aload_n dX8_init_14 rfl rfl rfl ?_
  refine j_iconst (v := nI 0) dX8_init_15 rfl rfl ?_
  refine j_putI dX8_init_16 rfl fX8_18 rfl (by decide) rfl rfl ?_
  refine j_aload_n dX8_init_19 rfl rfl rfl ?_
  refine j_iconst (v := nI 0) dX8_init_20 rfl rfl ?_
  refine j_putI dX8_init_21 rfl fX8_21 rfl (by decide) rfl rfl ?_
  refine j_aload_n dX8_init_24 rfl rfl rfl ?_
  refine j_iconst (v := nI 0) dX8_init_25 rfl rfl ?_
  refine j_putI dX8_init_26 rfl fX8_24 rfl (by decide) rfl rfl ?_
  refine j_aload_n dX8_init_29 rfl rfl rfl ?_
  refine j_iconst (v := nI 0) dX8_init_30 rfl rfl ?_
  refine j_putI dX8_init_31 rfl fX8_27 rfl (by decide) rfl rfl ?_
  refine j_aload_n dX8_init_34 rfl rfl rfl ?_
  refine j_bipush (v := nI 6) dX8_init_35 rfl rfl ?_
  refine j_newI (len := 6) (bc := 9) (bs := 157) dX8_init_37 rfl rfl (by decide) jvw_int (by decide) rfl (by decide) rfl rfl ?_
  show Rj _ _ _ _ _ _ 39 [.ref 1] [.ref 2, .ref 1] 3 (ur (u2 (u2 (u2 (u2 (u2 (u2 (ur I 1 (fun _ => 0)) 1 0 (nI 0)) 1 1 (nI 0)) 1 2 (nI 0)) 1 3 (nI 0)) 1 4 (nI 0)) 1 5 (nI 0)) 2 (fun _ => 0)) (ur (ur J 1 (fun _ => 0)) 2 (fun _ => 0)) (ur (ur P 1 (fun _ => none)) 2 (fun _ => none))
  refine j_putP dX8_init_39 rfl fX8_30 rfl (by decide) (by decide) rfl (Or.inr ⟨rfl, rfl⟩) ?_
  refine j_aload_n dX8_init_42 rfl rfl rfl ?_
  refine j_bipush (v := nI 6) dX8_init_43 rfl rfl ?_
  refine j_newI (len := 6) (bc := 8) (bs := 151) dX8_init_45 rfl rfl (by decide) jvw_int (by decide) rfl (by decide) rfl rfl ?_
  show Rj _ _ _ _ _ _ 47 [.ref 1] [.ref 3, .ref 1] 4 (ur (ur (u2 (u2 (u2 (u2 (u2 (u2 (ur I 1 (fun _ => 0)) 1 0 (nI 0)) 1 1 (nI 0)) 1 2 (nI 0)) 1 3 (nI 0)) 1 4 (nI 0)) 1 5 (nI 0)) 2 (fun _ => 0)) 3 (fun _ => 0)) (ur (ur (ur J 1 (fun _ => 0)) 2 (fun _ => 0)) 3 (fun _ => 0)) (ur (u2 (ur (ur P 1 (fun _ => none)) 2 (fun _ => none)) 1 6 (some 2)) 3 (fun _ => none))
  refine j_putP dX8_init_47 rfl fX8_34 rfl (by decide) (by decide) rfl (Or.inr ⟨rfl, rfl⟩) ?_
  refine j_aload_n dX8_init_50 rfl rfl rfl ?_
  refine j_bipush (v := nI 6) dX8_init_51 rfl rfl ?_
  refine j_newI (len := 6) (bc := 7) (bs := 145) dX8_init_53 rfl rfl (by decide) jvw_int (by decide) rfl (by decide) rfl rfl ?_
  show Rj _ _ _ _ _ _ 55 [.ref 1] [.ref 4, .ref 1] 5 (ur (ur (ur (u2 (u2 (u2 (u2 (u2 (u2 (ur I 1 (fun _ => 0)) 1 0 (nI 0)) 1 1 (nI 0)) 1 2 (nI 0)) 1 3 (nI 0)) 1 4 (nI 0)) 1 5 (nI 0)) 2 (fun _ => 0)) 3 (fun _ => 0)) 4 (fun _ => 0)) (ur (ur (ur (ur J 1 (fun _ => 0)) 2 (fun _ => 0)) 3 (fun _ => 0)) 4 (fun _ => 0)) (ur (u2 (ur (u2 (ur (ur P 1 (fun _ => none)) 2 (fun _ => none)) 1 6 (some 2)) 3 (fun _ => none)) 1 7 (some 3)) 4 (fun _ => none))
  refine j_putP dX8_init_55 rfl fX8_37 rfl (by decide) (by decide) rfl (Or.inr ⟨rfl, rfl⟩) ?_
  refine j_aload_n dX8_init_58 rfl rfl rfl ?_
  refine j_bipush (v := nI 6) dX8_init_59 rfl rfl ?_
  refine j_newI (len := 6) (bc := 6) (bs := 139) dX8_init_61 rfl rfl (by decide) jvw_int (by decide) rfl (by decide) rfl rfl ?_
  show Rj _ _ _ _ _ _ 63 [.ref 1] [.ref 5, .ref 1] 6 (ur (ur (ur (ur (u2 (u2 (u2 (u2 (u2 (u2 (ur I 1 (fun _ => 0)) 1 0 (nI 0)) 1 1 (nI 0)) 1 2 (nI 0)) 1 3 (nI 0)) 1 4 (nI 0)) 1 5 (nI 0)) 2 (fun _ => 0)) 3 (fun _ => 0)) 4 (fun _ => 0)) 5 (fun _ => 0)) (ur (ur (ur (ur (ur J 1 (fun _ => 0)) 2 (fun _ => 0)) 3 (fun _ => 0)) 4 (fun _ => 0)) 5 (fun _ => 0)) (ur (u2 (ur (u2 (ur (u2 (ur (ur P 1 (fun _ => none)) 2 (fun _ => none)) 1 6 (some 2)) 3 (fun _ => none)) 1 7 (some 3)) 4 (fun _ => none)) 1 8 (some 4)) 5 (fun _ => none))
  refine j_putP dX8_init_63 rfl fX8_40 rfl (by decide) (by decide) rfl (Or.inr ⟨rfl, rfl⟩) ?_
  refine j_aload_n dX8_init_66 rfl rfl rfl ?_
  refine j_bipush (v := nI 8) dX8_init_67 rfl rfl ?_
  refine j_newI (len := 8) (bc := 5) (bs := 131) dX8_init_69 rfl rfl (by decide) jvw_int (by decide) rfl (by decide) rfl rfl ?_
  show Rj _ _ _ _ _ _ 71 [.ref 1] [.ref 6, .ref 1] 7 (ur (ur (ur (ur (ur (u2 (u2 (u2 (u2 (u2 (u2 (ur I 1 (fun _ => 0)) 1 0 (nI 0)) 1 1 (nI 0)) 1 2 (nI 0)) 1 3 (nI 0)) 1 4 (nI 0)) 1 5 (nI 0)) 2 (fun _ => 0)) 3 (fun _ => 0)) 4 (fun _ => 0)) 5 (fun _ => 0)) 6 (fun _ => 0)) (ur (ur (ur (ur (ur (ur J 1 (fun _ => 0)) 2 (fun _ => 0)) 3 (fun _ => 0)) 4 (fun _ => 0)) 5 (fun _ => 0)) 6 (fun _ => 0)) (ur (u2 (ur (u2 (ur (u2 (ur (u2 (ur (ur P 1 (fun _ => none)) 2 (fun _ => none)) 1 6 (some 2)) 3 (fun _ => none)) 1 7 (some 3)) 4 (fun _ => none)) 1 8 (some 4)) 5 (fun _ => none)) 1 9 (some 5)) 6 (fun _ => none))
  refine j_putP dX8_init_71 rfl fX8_43 rfl (by decide) (by decide) rfl (Or.inr ⟨rfl, rfl⟩) ?_
  refine j_aload_n dX8_init_74 rfl rfl rfl ?_
  refine j_bipush (v := nI 8) dX8_init_75 rfl rfl ?_
  refine j_newI (len := 8) (bc := 4) (bs := 123) dX8_init_77 rfl rfl (by decide) jvw_int (by decide) rfl (by decide) rfl rfl ?_
  show Rj _ _ _ _ _ _ 79 [.ref 1] [.ref 7, .ref 1] 8 (ur (ur (ur (ur (ur (ur (u2 (u2 (u2 (u2 (u2 (u2 (ur I 1 (fun _ => 0)) 1 0 (nI 0)) 1 1 (nI 0)) 1 2 (nI 0)) 1 3 (nI 0)) 1 4 (nI 0)) 1 5 (nI 0)) 2 (fun _ => 0)) 3 (fun _ => 0)) 4 (fun _ => 0)) 5 (fun _ => 0)) 6 (fun _ => 0)) 7 (fun _ => 0)) (ur (ur (ur (ur (ur (ur (ur J 1 (fun _ => 0)) 2 (fun _ => 0)) 3 (fun _ => 0)) 4 (fun _ => 0)) 5 (fun _ => 0)) 6 (fun _ => 0)) 7 (fun _ => 0)) (ur (u2 (ur (u2 (ur (u2 (ur (u2 (ur (u2 (ur (ur P 1 (fun _ => none)) 2 (fun _ => none)) 1 6 (some 2)) 3 (fun _ => none)) 1 7 (some 3)) 4 (fun _ => none)) 1 8 (some 4)) 5 (fun _ => none)) 1 9 (some 5)) 6 (fun _ => none)) 1 10 (some 6)) 7 (fun _ => none))
  refine j_putP dX8_init_79 rfl fX8_46 rfl (by decide) (by decide) rfl (Or.inr ⟨rfl, rfl⟩) ?_
  refine j_aload_n dX8_init_82 rfl rfl rfl ?_
  refine j_bipush (v := nI 8) dX8_init_83 rfl rfl ?_
  refine j_newI (len := 8) (bc := 3) (bs := 115) dX8_init_85 rfl rfl (by decide) jvw_int (by decide) rfl (by decide) rfl rfl ?_
  show Rj _ _ _ _ _ _ 87 [.ref 1] [.ref 8, .ref 1] 9 (ur (ur (ur (ur (ur (ur (ur (u2 (u2 (u2 (u2 (u2 (u2 (ur I 1 (fun _ => 0)) 1 0 (nI 0)) 1 1 (nI 0)) 1 2 (nI 0)) 1 3 (nI 0)) 1 4 (nI 0)) 1 5 (nI 0)) 2 (fun _ => 0)) 3 (fun _ => 0)) 4 (fun _ => 0)) 5 (fun _ => 0)) 6 (fun _ => 0)) 7 (fun _ => 0)) 8 (fun _ => 0)) (ur (ur (ur (ur (ur (ur (ur (ur J 1 (fun _ => 0)) 2 (fun _ => 0)) 3 (fun _ => 0)) 4 (fun _ => 0)) 5 (fun _ => 0)) 6 (fun _ => 0)) 7 (fun _ => 0)) 8 (fun _ => 0)) (ur (u2 (ur (u2 (ur (u2 (ur (u2 (ur (u2 (ur (u2 (ur (ur P 1 (fun _ => none)) 2 (fun _ => none)) 1 6 (some 2)) 3 (fun _ => none)) 1 7 (some 3)) 4 (fun _ => none)) 1 8 (some 4)) 5 (fun _ => none)) 1 9 (some 5)) 6 (fun _ => none)) 1 10 (some 6)) 7 (fun _ => none)) 1 11 (some 7)) 8 (fun _ => none))
  refine j_putP dX8_init_87 rfl fX8_49 rfl (by decide) (by decide) rfl (Or.inr ⟨rfl, rfl⟩) ?_
  refine j_aload_n dX8_init_90 rfl rfl rfl ?_
  refine j_bipush (v := nI 8) dX8_init_91 rfl rfl ?_
  refine j_newI (len := 8) (bc := 2) (bs := 107) dX8_init_93 rfl rfl (by decide) jvw_int (by decide) rfl (by decide) rfl rfl ?_
  show Rj _ _ _ _ _ _ 95 [.ref 1] [.ref 9, .ref 1] 10 (ur (ur (ur (ur (ur (ur (ur (ur (u2 (u2 (u2 (u2 (u2 (u2 (ur I 1 (fun _ => 0)) 1 0 (nI 0)) 1 1 (nI 0)) 1 2 (nI 0)) 1 3 (nI 0)) 1 4 (nI 0)) 1 5 (nI 0)) 2 (fun _ => 0)) 3 (fun _ => 0)) 4 (fun _ => 0)) 5 (fun _ => 0)) 6 (fun _ => 0)) 7 (fun _ => 0)) 8 (fun _ => 0)) 9 (fun _ => 0)) (ur (ur (ur (ur (ur (ur (ur (ur (ur J 1 (fun _ => 0)) 2 (fun _ => 0)) 3 (fun _ => 0)) 4 (fun _ => 0)) 5 (fun _ => 0)) 6 (fun _ => 0)) 7 (fun _ => 0)) 8 (fun _ => 0)) 9 (fun _ => 0)) (ur (u2 (ur (u2 (ur (u2 (ur (u2 (ur (u2 (ur (u2 (ur (u2 (ur (ur P 1 (fun _ => none)) 2 (fun _ => none)) 1 6 (some 2)) 3 (fun _ => none)) 1 7 (some 3)) 4 (fun _ => none)) 1 8 (some 4)) 5 (fun _ => none)) 1 9 (some 5)) 6 (fun _ => none)) 1 10 (some 6)) 7 (fun _ => none)) 1 11 (some 7)) 8 (fun _ => none)) 1 12 (some 8)) 9 (fun _ => none))
  refine j_putP dX8_init_95 rfl fX8_52 rfl (by decide) (by decide) rfl (Or.inr ⟨rfl, rfl⟩) ?_
  refine j_aload_n dX8_init_98 rfl rfl rfl ?_
  refine j_new (ci := 3) (bc := 1) (bs := 104) dX8_init_99 rfl (by decide) rfl (by decide) nX8_55 insX5 iniX5 rfl rfl ?_
  show Rj _ _ _ _ _ _ 102 [.ref 1] [.ref 10, .ref 1] 11 (ur (ur (ur (ur (ur (ur (ur (ur (ur (u2 (u2 (u2 (u2 (u2 (u2 (ur I 1 (fun _ => 0)) 1 0 (nI 0)) 1 1 (nI 0)) 1 2 (nI 0)) 1 3 (nI 0)) 1 4 (nI 0)) 1 5 (nI 0)) 2 (fun _ => 0)) 3 (fun _ => 0)) 4 (fun _ => 0)) 5 (fun _ => 0)) 6 (fun _ => 0)) 7 (fun _ => 0)) 8 (fun _ => 0)) 9 (fun _ => 0)) 10 (fun _ => 0)) (ur (ur (ur (ur (ur (ur (ur (ur (ur (ur J 1 (fun _ => 0)) 2 (fun _ => 0)) 3 (fun _ => 0)) 4 (fun _ => 0)) 5 (fun _ => 0)) 6 (fun _ => 0)) 7 (fun _ => 0)) 8 (fun _ => 0)) 9 (fun _ => 0)) 10 (fun _ => 0)) (ur (u2 (ur (u2 (ur (u2 (ur (u2 (ur (u2 (ur (u2 (ur (u2 (ur (u2 (ur (ur P 1 (fun _ => none)) 2 (fun _ => none)) 1 6 (some 2)) 3 (fun _ => none)) 1 7 (some 3)) 4 (fun _ => none)) 1 8 (some 4)) 5 (fun _ => none)) 1 9 (some 5)) 6 (fun _ => none)) 1 10 (some 6)) 7 (fun _ => none)) 1 11 (some 7)) 8 (fun _ => none)) 1 12 (some 8)) 9 (fun _ => none)) 1 13 (some 9)) 10 (fun _ => none))
  refine j_dup dX8_init_102 rfl rfl ?_
  refine j_callINw (As := []) dX8_init_103 rfl cX8_57 rfl (by decide) rfl rfl (c_pinit10 ?_)
  show Rj _ _ _ _ _ _ 106 [.ref 1] [.ref 10, .ref 1] 12 (u2 (u2 (ur (ur (ur (ur (ur (ur (ur (ur (ur (ur (u2 (u2 (u2 (u2 (u2 (u2 (ur I 1 (fun _ => 0)) 1 0 (nI 0)) 1 1 (nI 0)) 1 2 (nI 0)) 1 3 (nI 0)) 1 4 (nI 0)) 1 5 (nI 0)) 2 (fun _ => 0)) 3 (fun _ => 0)) 4 (fun _ => 0)) 5 (fun _ => 0)) 6 (fun _ => 0)) 7 (fun _ => 0)) 8 (fun _ => 0)) 9 (fun _ => 0)) 10 (fun _ => 0)) 11 (fun _ => 0)) 10 1 (nI 0)) 10 2 (nI 0)) (ur (ur (ur (ur (ur (ur (ur (ur (ur (ur (ur J 1 (fun _ => 0)) 2 (fun _ => 0)) 3 (fun _ => 0)) 4 (fun _ => 0)) 5 (fun _ => 0)) 6 (fun _ => 0)) 7 (fun _ => 0)) 8 (fun _ => 0)) 9 (fun _ => 0)) 10 (fun _ => 0)) 11 (fun _ => 0)) (u2 (ur (ur (u2 (ur (u2 (ur (u2 (ur (u2 (ur (u2 (ur (u2 (ur (u2 (ur (u2 (ur (ur P 1 (fun _ => none)) 2 (fun _ => none)) 1 6 (some 2)) 3 (fun _ => none)) 1 7 (some 3)) 4 (fun _ => none)) 1 8 (some 4)) 5 (fun _ => none)) 1 9 (some 5)) 6 (fun _ => none)) 1 10 (some 6)) 7 (fun _ => none)) 1 11 (some 7)) 8 (fun _ => none)) 1 12 (some 8)) 9 (fun _ => none)) 1 13 (some 9)) 10 (fun _ => none)) 11 (fun _ => none)) 10 0 (some 11))
  refine j_putP dX8_init_106 rfl fX8_58 rfl (by decide) (by decide) rfl (Or.inr ⟨rfl, rfl⟩) ?_
  refine j_heap (I' := IZ 1 I) (J' := JZ 1 J) (P' := PZ 1 P) (fun a ha => ?_) (fun a ha => ?_) (fun a ha => ?_) ?_
  · rcases (show a < 1 ∨ a = 1 ∨ a = 2 ∨ a = 3 ∨ a = 4 ∨ a = 5 ∨ a = 6 ∨ a = 7 ∨ a = 8 ∨ a = 9 ∨ a = 10 ∨ a = 11 by omega) with h | rfl | rfl | rfl | rfl | rfl | rfl | rfl | rfl | rfl | rfl | rfl
    · funext k
      simp [IZ, ur, u2, h, show a ≠ 1 by omega, show a ≠ 2 by omega, show a ≠ 3 by omega, show a ≠ 4 by omega, show a ≠ 5 by omega, show a ≠ 6 by omega, show a ≠ 7 by omega, show a ≠ 8 by omega, show a ≠ 9 by omega, show a ≠ 10 by omega, show a ≠ 11 by omega]
    all_goals (funext k; simp [IZ, ur, u2, nI_0])
  · rcases (show a < 1 ∨ a = 1 ∨ a = 2 ∨ a = 3 ∨ a = 4 ∨ a = 5 ∨ a = 6 ∨ a = 7 ∨ a = 8 ∨ a = 9 ∨ a = 10 ∨ a = 11 by omega) with h | rfl | rfl | rfl | rfl | rfl | rfl | rfl | rfl | rfl | rfl | rfl
    · funext k
      simp [JZ, ur, h, show a ≠ 1 by omega, show a ≠ 2 by omega, show a ≠ 3 by omega, show a ≠ 4 by omega, show a ≠ 5 by omega, show a ≠ 6 by omega, show a ≠ 7 by omega, show a ≠ 8 by omega, show a ≠ 9 by omega, show a ≠ 10 by omega, show a ≠ 11 by omega]
    all_goals (funext k; simp [JZ, ur])
  · rcases (show a < 1 ∨ a = 1 ∨ a = 2 ∨ a = 3 ∨ a = 4 ∨ a = 5 ∨ a = 6 ∨ a = 7 ∨ a = 8 ∨ a = 9 ∨ a = 10 ∨ a = 11 by omega) with h | rfl | rfl | rfl | rfl | rfl | rfl | rfl | rfl | rfl | rfl | rfl
    · funext k
      simp [PZ, ur, u2, h, show a ≠ 1 by omega, show a ≠ 2 by omega, show a ≠ 3 by omega, show a ≠ 4 by omega, show a ≠ 5 by omega, show a ≠ 6 by omega, show a ≠ 7 by omega, show a ≠ 8 by omega, show a ≠ 9 by omega, show a ≠ 10 by omega, show a ≠ 11 by omega]
    · funext k
      rcases k with _ | _ | _ | _ | _ | _ | _ | _ | _ | _ | _ | _ | _ | _ | _ | k <;> rfl
    all_goals (funext k; rcases k with _ | k <;> rfl)
  refine j_vret dX8_init_109 rfl ?_
  exact hQ
set_option maxHeartbeats 4000000 in
set_option maxRecDepth 100000 in
theorem c_vinit15 {X : jX} {d : Nat} {I : HI} {J : HJ} {P : HP} {Q : jPost} (hQ : Q none 26 (IZ 15 I) (JZ 15 J) (PZ 15 P)) : Cj X (d + 2) 10 163 mX8_init [.ref 15] 16 (ur I 15 (fun _ => 0)) (ur J 15 (fun _ => 0)) (ur P 15 (fun _ => none)) Q := by
  refine Cj.intro rfl (Nat.le_of_ble_eq_true rfl) (L := [.ref 15]) rfl ?_
  refine j_aload_n dX8_init_0 rfl rfl rfl ?_
  refine j_objInit dX8_init_1 rfl cX8_3 jvw_oi jvw_oc (by decide) ?_
  refine j_aload_n dX8_init_4 rfl rfl rfl ?_
  refine j_iconst (v := nI 0) dX8_init_5 rfl rfl ?_
  refine j_putI dX8_init_6 rfl fX8_9 rfl (by decide) rfl rfl ?_
  refine j_aload_n dX8_init_9 rfl rfl rfl ?_
  refine j_iconst (v := nI 0) dX8_init_10 rfl rfl ?_
  refine j_putI dX8_init_11 rfl fX8_15 rfl (by decide) rfl rfl ?_
  refine j_aload_n dX8_init_14 rfl rfl rfl ?_
  refine j_iconst (v := nI 0) dX8_init_15 rfl rfl ?_
  refine j_putI dX8_init_16 rfl fX8_18 rfl (by decide) rfl rfl ?_
  refine j_aload_n dX8_init_19 rfl rfl rfl ?_
  refine j_iconst (v := nI 0) dX8_init_20 rfl rfl ?_
  refine j_putI dX8_init_21 rfl fX8_21 rfl (by decide) rfl rfl ?_
  refine j_aload_n dX8_init_24 rfl rfl rfl ?_
  refine j_iconst (v := nI 0) dX8_init_25 rfl rfl ?_
  refine j_putI dX8_init_26 rfl fX8_24 rfl (by decide) rfl rfl ?_
  refine j_aload_n dX8_init_29 rfl rfl rfl ?_
  refine j_iconst (v := nI 0) dX8_init_30 rfl rfl ?_
  refine j_putI dX8_init_31 rfl fX8_27 rfl (by decide) rfl rfl ?_
  refine j_aload_n dX8_init_34 rfl rfl rfl ?_
  refine j_bipush (v := nI 6) dX8_init_35 rfl rfl ?_
  refine j_newI (len := 6) (bc := 9) (bs := 157) dX8_init_37 rfl rfl (by decide) jvw_int (by decide) rfl (by decide) rfl rfl ?_
  show Rj _ _ _ _ _ _ 39 [.ref 15] [.ref 16, .ref 15] 17 (ur (u2 (u2 (u2 (u2 (u2 (u2 (ur I 15 (fun _ => 0)) 15 0 (nI 0)) 15 1 (nI 0)) 15 2 (nI 0)) 15 3 (nI 0)) 15 4 (nI 0)) 15 5 (nI 0)) 16 (fun _ => 0)) (ur (ur J 15 (fun _ => 0)) 16 (fun _ => 0)) (ur (ur P 15 (fun _ => none)) 16 (fun _ => none))
  refine j_putP dX8_init_39 rfl fX8_30 rfl (by decide) (by decide) rfl (Or.inr ⟨rfl, rfl⟩) ?_
  refine j_aload_n dX8_init_42 rfl rfl rfl ?_
  refine j_bipush (v := nI 6) dX8_init_43 rfl rfl ?_
  refine j_newI (len := 6) (bc := 8) (bs := 151) dX8_init_45 rfl rfl (by decide) jvw_int (by decide) rfl (by decide) rfl rfl ?_
  show Rj _ _ _ _ _ _ 47 [.ref 15] [.ref 17, .ref 15] 18 (ur (ur (u2 (u2 (u2 (u2 (u2 (u2 (ur I 15 (fun _ => 0)) 15 0 (nI 0)) 15 1 (nI 0)) 15 2 (nI 0)) 15 3 (nI 0)) 15 4 (nI 0)) 15 5 (nI 0)) 16 (fun _ => 0)) 17 (fun _ => 0)) (ur (ur (ur J 15 (fun _ => 0)) 16 (fun _ => 0)) 17 (fun _ => 0)) (ur (u2 (ur (ur P 15 (fun _ => none)) 16 (fun _ => none)) 15 6 (some 16)) 17 (fun _ => none))
  refine j_putP dX8_init_47 rfl fX8_34 rfl (by decide) (by decide) rfl (Or.inr ⟨rfl, rfl⟩) ?_
  refine j_aload_n dX8_init_50 rfl rfl rfl ?_
  refine j_bipush (v := nI 6) dX8_init_51 rfl rfl ?_
  refine j_newI (len := 6) (bc := 7) (bs := 145) dX8_init_53 rfl rfl (by decide) jvw_int (by decide) rfl (by decide) rfl rfl ?_
  show Rj _ _ _ _ _ _ 55 [.ref 15] [.ref 18, .ref 15] 19 (ur (ur (ur (u2 (u2 (u2 (u2 (u2 (u2 (ur I 15 (fun _ => 0)) 15 0 (nI 0)) 15 1 (nI 0)) 15 2 (nI 0)) 15 3 (nI 0)) 15 4 (nI 0)) 15 5 (nI 0)) 16 (fun _ => 0)) 17 (fun _ => 0)) 18 (fun _ => 0)) (ur (ur (ur (ur J 15 (fun _ => 0)) 16 (fun _ => 0)) 17 (fun _ => 0)) 18 (fun _ => 0)) (ur (u2 (ur (u2 (ur (ur P 15 (fun _ => none)) 16 (fun _ => none)) 15 6 (some 16)) 17 (fun _ => none)) 15 7 (some 17)) 18 (fun _ => none))
  refine j_putP dX8_init_55 rfl fX8_37 rfl (by decide) (by decide) rfl (Or.inr ⟨rfl, rfl⟩) ?_
  refine j_aload_n dX8_init_58 rfl rfl rfl ?_
  refine j_bipush (v := nI 6) dX8_init_59 rfl rfl ?_
  refine j_newI (len := 6) (bc := 6) (bs := 139) dX8_init_61 rfl rfl (by decide) jvw_int (by decide) rfl (by decide) rfl rfl ?_
  show Rj _ _ _ _ _ _ 63 [.ref 15] [.ref 19, .ref 15] 20 (ur (ur (ur (ur (u2 (u2 (u2 (u2 (u2 (u2 (ur I 15 (fun _ => 0)) 15 0 (nI 0)) 15 1 (nI 0)) 15 2 (nI 0)) 15 3 (nI 0)) 15 4 (nI 0)) 15 5 (nI 0)) 16 (fun _ => 0)) 17 (fun _ => 0)) 18 (fun _ => 0)) 19 (fun _ => 0)) (ur (ur (ur (ur (ur J 15 (fun _ => 0)) 16 (fun _ => 0)) 17 (fun _ => 0)) 18 (fun _ => 0)) 19 (fun _ => 0)) (ur (u2 (ur (u2 (ur (u2 (ur (ur P 15 (fun _ => none)) 16 (fun _ => none)) 15 6 (some 16)) 17 (fun _ => none)) 15 7 (some 17)) 18 (fun _ => none)) 15 8 (some 18)) 19 (fun _ => none))
  refine j_putP dX8_init_63 rfl fX8_40 rfl (by decide) (by decide) rfl (Or.inr ⟨rfl, rfl⟩) ?_
  refine j_aload_n dX8_init_66 rfl rfl rfl ?_
  refine j_bipush (v := nI 8) dX8_init_67 rfl rfl ?_
  refine j_newI (len := 8) (bc := 5) (bs := 131) dX8_init_69 rfl rfl (by decide) jvw_int (by decide) rfl (by decide) rfl rfl ?_
  show Rj _ _ _ _ _ _ 71 [.ref 15] [.ref 20, .ref 15] 21 (ur (ur (ur (ur (ur (u2 (u2 (u2 (u2 (u2 (u2 (ur I 15 (fun _ => 0)) 15 0 (nI 0)) 15 1 (nI 0)) 15 2 (nI 0)) 15 3 (nI 0)) 15 4 (nI 0)) 15 5 (nI 0)) 16 (fun _ => 0)) 17 (fun _ => 0)) 18 (fun _ => 0)) 19 (fun _ => 0)) 20 (fun _ => 0)) (ur (ur (ur (ur (ur (ur J 15 (fun _ => 0)) 16 (fun _ => 0)) 17 (fun _ => 0)) 18 (fun _ => 0)) 19 (fun _ => 0)) 20 (fun _ => 0)) (ur (u2 (ur (u2 (ur (u2 (ur (u2 (ur (ur P 15 (fun _ => none)) 16 (fun _ => none)) 15 6 (some 16)) 17 (fun _ => none)) 15 7 (some 17)) 18 (fun _ => none)) 15 8 (some 18)) 19 (fun _ => none)) 15 9 (some 19)) 20 (fun _ => none))
  refine j_putP dX8_init_71 rfl fX8_43 rfl (by decide) (by decide) rfl (Or.inr ⟨rfl, rfl⟩) ?_
  refine j_aload_n dX8_init_74 rfl rfl rfl ?_
  refine j_bipush (v := nI 8) dX8_init_75 rfl rfl ?_
  refine j_newI (len := 8) (bc := 4) (bs := 123) dX8_init_77 rfl rfl (by decide) jvw_int (by decide) rfl (by decide) rfl rfl ?_
  show Rj _ _ _ _ _ _ 79 [.ref 15] [.ref 21, .ref 15] 22 (ur (ur (ur (ur (ur (ur (u2 (u2 (u2 (u2 (u2 (u2 (ur I 15 (fun _ => 0)) 15 0 (nI 0)) 15 1 (nI 0)) 15 2 (nI 0)) 15 3 (nI 0)) 15 4 (nI 0)) 15 5 (nI 0)) 16 (fun _ => 0)) 17 (fun _ => 0)) 18 (fun _ => 0)) 19 (fun _ => 0)) 20 (fun _ => 0)) 21 (fun _ => 0)) (ur (ur (ur (ur (ur (ur (ur J 15 (fun _ => 0)) 16 (fun _ => 0)) 17 (fun _ => 0)) 18 (fun _ => 0)) 19 (fun _ => 0)) 20 (fun _ => 0)) 21 (fun _ => 0)) (ur (u2 (ur (u2 (ur (u2 (ur (u2 (ur (u2 (ur (ur P 15 (fun _ => none)) 16 (fun _ => none)) 15 6 (some 16)) 17 (fun _ => none)) 15 7 (some 17)) 18 (fun _ => none)) 15 8 (some 18)) 19 (fun _ => none)) 15 9 (some 19)) 20 (fun _ => none)) 15 10 (some 20)) 21 (fun _ => none))
  refine j_putP dX8_init_79 rfl fX8_46 rfl (by decide) (by decide) rfl (Or.inr ⟨rfl, rfl⟩) ?_
  refine j_aload_n dX8_init_82 rfl rfl rfl ?_
  refine j_bipush (v := nI 8) dX8_init_83 rfl rfl ?_
  refine j_newI (len := 8) (bc := 3) (bs := 115) dX8_init_85 rfl rfl (by decide) jvw_int (by decide) rfl (by decide) rfl rfl ?_
  show Rj _ _ _ _ _ _ 87 [.ref 15] [.ref 22, .ref 15] 23 (ur (ur (ur (ur (ur (ur (ur (u2 (u2 (u2 (u2 (u2 (u2 (ur I 15 (fun _ => 0)) 15 0 (nI 0)) 15 1 (nI 0)) 15 2 (nI 0)) 15 3 (nI 0)) 15 4 (nI 0)) 15 5 (nI 0)) 16 (fun _ => 0)) 17 (fun _ => 0)) 18 (fun _ => 0)) 19 (fun _ => 0)) 20 (fun _ => 0)) 21 (fun _ => 0)) 22 (fun _ => 0)) (ur (ur (ur (ur (ur (ur (ur (ur J 15 (fun _ => 0)) 16 (fun _ => 0)) 17 (fun _ => 0)) 18 (fun _ => 0)) 19 (fun _ => 0)) 20 (fun _ => 0)) 21 (fun _ => 0)) 22 (fun _ => 0)) (ur (u2 (ur (u2 (ur (u2 (ur (u2 (ur (u2 (ur (u2 (ur (ur P 15 (fun _ => none)) 16 (fun _ => none)) 15 6 (some 16)) 17 (fun _ => none)) 15 7 (some 17)) 18 (fun _ => none)) 15 8 (some 18)) 19 (fun _ => none)) 15 9 (some 19)) 20 (fun _ => none)) 15 10 (some 20)) 21 (fun _ => none)) 15 11 (some 21)) 22 (fun _ => none))
  refine j_putP dX8_init_87 rfl fX8_49 rfl (by decide) (by decide) rfl (Or.inr ⟨rfl, rfl⟩) ?_
  refine j_aload_n dX8_init_90 rfl rfl rfl ?_
  refine j_bipush (v := nI 8) dX8_init_91 rfl rfl ?_
  refine j_newI (len := 8) (bc := 2) (bs := 107) dX8_init_93 rfl rfl (by decide) jvw_int (by decide) rfl (by decide) rfl rfl ?_
  show Rj _ _ _ _ _ _ 95 [.ref 15] [.ref 23, .ref 15] 24 (ur (ur (ur (ur (ur (ur (ur (ur (u2 (u2 (u2 (u2 (u2 (u2 (ur I 15 (fun _ => 0)) 15 0 (nI 0)) 15 1 (nI 0)) 15 2 (nI 0)) 15 3 (nI 0)) 15 4 (nI 0)) 15 5 (nI 0)) 16 (fun _ => 0)) 17 (fun _ => 0)) 18 (fun _ => 0)) 19 (fun _ => 0)) 20 (fun _ => 0)) 21 (fun _ => 0)) 22 (fun _ => 0)) 23 (fun _ => 0)) (ur (ur (ur (ur (ur (ur (ur (ur (ur J 15 (fun _ => 0)) 16 (fun _ => 0)) 17 (fun _ => 0)) 18 (fun _ => 0)) 19 (fun _ => 0)) 20 (fun _ => 0)) 21 (fun _ => 0)) 22 (fun _ => 0)) 23 (fun _ => 0)) (ur (u2 (ur (u2 (ur (u2 (ur (u2 (ur (u2 (ur (u2 (ur (u2 (ur (ur P 15 (fun _ => none)) 16 (fun _ => none)) 15 6 (some 16)) 17 (fun _ => none)) 15 7 (some 17)) 18 (fun _ => none)) 15 8 (some 18)) 19 (fun _ => none)) 15 9 (some 19)) 20 (fun _ => none)) 15 10 (some 20)) 21 (fun _ => none)) 15 11 (some 21)) 22 (fun _ => none)) 15 12 (some 22)) 23 (fun _ => none))
  refine j_putP dX8_init_95 rfl fX8_52 rfl (by decide) (by decide) rfl (Or.inr ⟨rfl, rfl⟩) ?_
  refine j_aload_n dX8_init_98 rfl rfl rfl ?_
  refine j_new (ci := 3) (bc := 1) (bs := 104) dX8_init_99 rfl (by decide) rfl (by decide) nX8_55 insX5 iniX5 rfl rfl ?_
  show Rj _ _ _ _ _ _ 102 [.ref 15] [.ref 24, .ref 15] 25 (ur (ur (ur (ur (ur (ur (ur (ur (ur (u2 (u2 (u2 (u2 (u2 (u2 (ur I 15 (fun _ => 0)) 15 0 (nI 0)) 15 1 (nI 0)) 15 2 (nI 0)) 15 3 (nI 0)) 15 4 (nI 0)) 15 5 (nI 0)) 16 (fun _ => 0)) 17 (fun _ => 0)) 18 (fun _ => 0)) 19 (fun _ => 0)) 20 (fun _ => 0)) 21 (fun _ => 0)) 22 (fun _ => 0)) 23 (fun _ => 0)) 24 (fun _ => 0)) (ur (ur (ur (ur (ur (ur (ur (ur (ur (ur J 15 (fun _ => 0)) 16 (fun _ => 0)) 17 (fun _ => 0)) 18 (fun _ => 0)) 19 (fun _ => 0)) 20 (fun _ => 0)) 21 (fun _ => 0)) 22 (fun _ => 0)) 23 (fun _ => 0)) 24 (fun _ => 0)) (ur (u2 (ur (u2 (ur (u2 (ur (u2 (ur (u2 (ur (u2 (ur (u2 (ur (u2 (ur (ur P 15 (fun _ => none)) 16 (fun _ => none)) 15 6 (some 16)) 17 (fun _ => none)) 15 7 (some 17)) 18 (fun _ => none)) 15 8 (some 18)) 19 (fun _ => none)) 15 9 (some 19)) 20 (fun _ => none)) 15 10 (some 20)) 21 (fun _ => none)) 15 11 (some 21)) 22 (fun _ => none)) 15 12 (some 22)) 23 (fun _ => none)) 15 13 (some 23)) 24 (fun _ => none))
  refine j_dup dX8_init_102 rfl rfl ?_
  refine j_callINw (As := []) dX8_init_103 rfl cX8_57 rfl (by decide) rfl rfl (c_pinit24 ?_)
  show Rj _ _ _ _ _ _ 106 [.ref 15] [.ref 24, .ref 15] 26 (u2 (u2 (ur (ur (ur (ur (ur (ur (ur (ur (ur (ur (u2 (u2 (u2 (u2 (u2 (u2 (ur I 15 (fun _ => 0)) 15 0 (nI 0)) 15 1 (nI 0)) 15 2 (nI 0)) 15 3 (nI 0)) 15 4 (nI 0)) 15 5 (nI 0)) 16 (fun _ => 0)) 17 (fun _ => 0)) 18 (fun _ => 0)) 19 (fun _ => 0)) 20 (fun _ => 0)) 21 (fun _ => 0)) 22 (fun _ => 0)) 23 (fun _ => 0)) 24 (fun _ => 0)) 25 (fun _ => 0)) 24 1 (nI 0)) 24 2 (nI 0)) (ur (ur (ur (ur (ur (ur (ur (ur (ur (ur (ur J 15 (fun _ => 0)) 16 (fun _ => 0)) 17 (fun _ => 0)) 18 (fun _ => 0)) 19 (fun _ => 0)) 20 (fun _ => 0)) 21 (fun _ => 0)) 22 (fun _ => 0)) 23 (fun _ => 0)) 24 (fun _ => 0)) 25 (fun _ => 0)) (u2 (ur (ur (u2 (ur (u2 (ur (u2 (ur (u2 (ur (u2 (ur (u2 (ur (u2 (ur (u2 (ur (ur P 15 (fun _ => none)) 16 (fun _ => none)) 15 6 (some 16)) 17 (fun _ => none)) 15 7 (some 17)) 18 (fun _ => none)) 15 8 (some 18)) 19 (fun _ => none)) 15 9 (some 19)) 20 (fun _ => none)) 15 10 (some 20)) 21 (fun _ => none)) 15 11 (some 21)) 22 (fun _ => none)) 15 12 (some 22)) 23 (fun _ => none)) 15 13 (some 23)) 24 (fun _ => none)) 25 (fun _ => none)) 24 0 (some 25))
  refine j_putP dX8_init_106 rfl fX8_58 rfl (by decide) (by decide) rfl (Or.inr ⟨rfl, rfl⟩) ?_
  refine j_heap (I' := IZ 15 I) (J' := JZ 15 J) (P' := PZ 15 P) (fun a ha => ?_) (fun a ha => ?_) (fun a ha => ?_) ?_
  · rcases (show a < 15 ∨ a = 15 ∨ a = 16 ∨ a = 17 ∨ a = 18 ∨ a = 19 ∨ a = 20 ∨ a = 21 ∨ a = 22 ∨ a = 23 ∨ a = 24 ∨ a = 25 by omega) with h | rfl | rfl | rfl | rfl | rfl | rfl | rfl | rfl | rfl | rfl | rfl
    · funext k
      simp [IZ, ur, u2, h, show a ≠ 15 by omega, show a ≠ 16 by omega, show a ≠ 17 by omega, show a ≠ 18 by omega, show a ≠ 19 by omega, show a ≠ 20 by omega, show a ≠ 21 by omega, show a ≠ 22 by omega, show a ≠ 23 by omega, show a ≠ 24 by omega, show a ≠ 25 by omega]
    all_goals (funext k; simp [IZ, ur, u2, nI_0])
  · rcases (show a < 15 ∨ a = 15 ∨ a = 16 ∨ a = 17 ∨ a = 18 ∨ a = 19 ∨ a = 20 ∨ a = 21 ∨ a = 22 ∨ a = 23 ∨ a = 24 ∨ a = 25 by omega) with h | rfl | rfl | rfl | rfl | rfl | rfl | rfl | rfl | rfl | rfl | rfl
    · funext k
      simp [JZ, ur, h, show a ≠ 15 by omega, show a ≠ 16 by omega, show a ≠ 17 by omega, show a ≠ 18 by omega, show a ≠ 19 by omega, show a ≠ 20 by omega, show a ≠ 21 by omega, show a ≠ 22 by omega, show a ≠ 23 by omega, show a ≠ 24 by omega, show a ≠ 25 by omega]
    all_goals (funext k; simp [JZ, ur])
  · rcases (show a < 15 ∨ a = 15 ∨ a = 16 ∨ a = 17 ∨ a = 18 ∨ a = 19 ∨ a = 20 ∨ a = 21 ∨ a = 22 ∨ a = 23 ∨ a = 24 ∨ a = 25 by omega) with h | rfl | rfl | rfl | rfl | rfl | rfl | rfl | rfl | rfl | rfl | rfl
    · funext k
      simp [PZ, ur, u2, h, show a ≠ 15 by omega, show a ≠ 16 by omega, show a ≠ 17 by omega, show a ≠ 18 by omega, show a ≠ 19 by omega, show a ≠ 20 by omega, show a ≠ 21 by omega, show a ≠ 22 by omega, show a ≠ 23 by omega, show a ≠ 24 by omega, show a ≠ 25 by omega]
    · funext k
      rcases k with _ | _ | _ | _ | _ | _ | _ | _ | _ | _ | _ | _ | _ | _ | _ | k <;> rfl
    all_goals (funext k; rcases k with _ | k <;> rfl)
  refine j_vret dX8_init_109 rfl ?_
  exact hQ
set_option maxHeartbeats 4000000 in
set_option maxRecDepth 100000 in
theorem c_vinit44 {X : jX} {d : Nat} {I : HI} {J : HJ} {P : HP} {Q : jPost} (hQ : Q none 55 (IZ 44 I) (JZ 44 J) (PZ 44 P)) : Cj X (d + 2) 10 163 mX8_init [.ref 44] 45 (ur I 44 (fun _ => 0)) (ur J 44 (fun _ => 0)) (ur P 44 (fun _ => none)) Q := by
  refine Cj.intro rfl (Nat.le_of_ble_eq_true rfl) (L := [.ref 44]) rfl ?_
  refine j_aload_n dX8_init_0 rfl rfl rfl ?_
  refine j_objInit dX8_init_1 rfl cX8_3 jvw_oi jvw_oc (by decide) ?_
  refine j_aload_n dX8_init_4 rfl rfl rfl ?_
  refine j_iconst (v := nI 0) dX8_init_5 rfl rfl ?_
  refine j_putI dX8_init_6 rfl fX8_9 rfl (by decide) rfl rfl ?_
  refine j_aload_n dX8_init_9 rfl rfl rfl ?_
  refine j_iconst (v := nI 0) dX8_init_10 rfl rfl ?_
  refine j_putI dX8_init_11 rfl fX8_15 rfl (by decide) rfl rfl ?_
  refine j_aload_n dX8_init_14 rfl rfl rfl ?_
  refine j_iconst (v := nI 0) dX8_init_15 rfl rfl ?_
  refine j_putI dX8_init_16 rfl fX8_18 rfl (by decide) rfl rfl ?_
  refine j_aload_n dX8_init_19 rfl rfl rfl ?_
  refine j_iconst (v := nI 0) dX8_init_20 rfl rfl ?_
  refine j_putI dX8_init_21 rfl fX8_21 rfl (by decide) rfl rfl ?_
  refine j_aload_n dX8_init_24 rfl rfl rfl ?_
  refine j_iconst (v := nI 0) dX8_init_25 rfl rfl ?_
  refine j_putI dX8_init_26 rfl fX8_24 rfl (by decide) rfl rfl ?_
  refine j_aload_n dX8_init_29 rfl rfl rfl ?_
  refine j_iconst (v := nI 0) dX8_init_30 rfl rfl ?_
  refine j_putI dX8_init_31 rfl fX8_27 rfl (by decide) rfl rfl ?_
  refine j_aload_n dX8_init_34 rfl rfl rfl ?_
  refine j_bipush (v := nI 6) dX8_init_35 rfl rfl ?_
  refine j_newI (len := 6) (bc := 9) (bs := 157) dX8_init_37 rfl rfl (by decide) jvw_int (by decide) rfl (by decide) rfl rfl ?_
  show Rj _ _ _ _ _ _ 39 [.ref 44] [.ref 45, .ref 44] 46 (ur (u2 (u2 (u2 (u2 (u2 (u2 (ur I 44 (fun _ => 0)) 44 0 (nI 0)) 44 1 (nI 0)) 44 2 (nI 0)) 44 3 (nI 0)) 44 4 (nI 0)) 44 5 (nI 0)) 45 (fun _ => 0)) (ur (ur J 44 (fun _ => 0)) 45 (fun _ => 0)) (ur (ur P 44 (fun _ => none)) 45 (fun _ => none))
  refine j_putP dX8_init_39 rfl fX8_30 rfl (by decide) (by decide) rfl (Or.inr ⟨rfl, rfl⟩) ?_
  refine j_aload_n dX8_init_42 rfl rfl rfl ?_
  refine j_bipush (v := nI 6) dX8_init_43 rfl rfl ?_
  refine j_newI (len := 6) (bc := 8) (bs := 151) dX8_init_45 rfl rfl (by decide) jvw_int (by decide) rfl (by decide) rfl rfl ?_
  show Rj _ _ _ _ _ _ 47 [.ref 44] [.ref 46, .ref 44] 47 (ur (ur (u2 (u2 (u2 (u2 (u2 (u2 (ur I 44 (fun _ => 0)) 44 0 (nI 0)) 44 1 (nI 0)) 44 2 (nI 0)) 44 3 (nI 0)) 44 4 (nI 0)) 44 5 (nI 0)) 45 (fun _ => 0)) 46 (fun _ => 0)) (ur (ur (ur J 44 (fun _ => 0)) 45 (fun _ => 0)) 46 (fun _ => 0)) (ur (u2 (ur (ur P 44 (fun _ => none)) 45 (fun _ => none)) 44 6 (some 45)) 46 (fun _ => none))
  refine j_putP dX8_init_47 rfl fX8_34 rfl (by decide) (by decide) rfl (Or.inr ⟨rfl, rfl⟩) ?_
  refine j_aload_n dX8_init_50 rfl rfl rfl ?_
  refine j_bipush (v := nI 6) dX8_init_51 rfl rfl ?_
  refine j_newI (len := 6) (bc := 7) (bs := 145) dX8_init_53 rfl rfl (by decide) jvw_int (by decide) rfl (by decide) rfl rfl ?_
  show Rj _ _ _ _ _ _ 55 [.ref 44] [.ref 47, .ref 44] 48 (ur (ur (ur (u2 (u2 (u2 (u2 (u2 (u2 (ur I 44 (fun _ => 0)) 44 0 (nI 0)) 44 1 (nI 0)) 44 2 (nI 0)) 44 3 (nI 0)) 44 4 (nI 0)) 44 5 (nI 0)) 45 (fun _ => 0)) 46 (fun _ => 0)) 47 (fun _ => 0)) (ur (ur (ur (ur J 44 (fun _ => 0)) 45 (fun _ => 0)) 46 (fun _ => 0)) 47 (fun _ => 0)) (ur (u2 (ur (u2 (ur (ur P 44 (fun _ => none)) 45 (fun _ => none)) 44 6 (some 45)) 46 (fun _ => none)) 44 7 (some 46)) 47 (fun _ => none))
  refine j_putP dX8_init_55 rfl fX8_37 rfl (by decide) (by decide) rfl (Or.inr ⟨rfl, rfl⟩) ?_
  refine j_aload_n dX8_init_58 rfl rfl rfl ?_
  refine j_bipush (v := nI 6) dX8_init_59 rfl rfl ?_
  refine j_newI (len := 6) (bc := 6) (bs := 139) dX8_init_61 rfl rfl (by decide) jvw_int (by decide) rfl (by decide) rfl rfl ?_
  show Rj _ _ _ _ _ _ 63 [.ref 44] [.ref 48, .ref 44] 49 (ur (ur (ur (ur (u2 (u2 (u2 (u2 (u2 (u2 (ur I 44 (fun _ => 0)) 44 0 (nI 0)) 44 1 (nI 0)) 44 2 (nI 0)) 44 3 (nI 0)) 44 4 (nI 0)) 44 5 (nI 0)) 45 (fun _ => 0)) 46 (fun _ => 0)) 47 (fun _ => 0)) 48 (fun _ => 0)) (ur (ur (ur (ur (ur J 44 (fun _ => 0)) 45 (fun _ => 0)) 46 (fun _ => 0)) 47 (fun _ => 0)) 48 (fun _ => 0)) (ur (u2 (ur (u2 (ur (u2 (ur (ur P 44 (fun _ => none)) 45 (fun _ => none)) 44 6 (some 45)) 46 (fun _ => none)) 44 7 (some 46)) 47 (fun _ => none)) 44 8 (some 47)) 48 (fun _ => none))
  refine j_putP dX8_init_63 rfl fX8_40 rfl (by decide) (by decide) rfl (Or.inr ⟨rfl, rfl⟩) ?_
  refine j_aload_n dX8_init_66 rfl rfl rfl ?_
  refine j_bipush (v := nI 8) dX8_init_67 rfl rfl ?_
  refine j_newI (len := 8) (bc := 5) (bs := 131) dX8_init_69 rfl rfl (by decide) jvw_int (by decide) rfl (by decide) rfl rfl ?_
  show Rj _ _ _ _ _ _ 71 [.ref 44] [.ref 49, .ref 44] 50 (ur (ur (ur (ur (ur (u2 (u2 (u2 (u2 (u2 (u2 (ur I 44 (fun _ => 0)) 44 0 (nI 0)) 44 1 (nI 0)) 44 2 (nI 0)) 44 3 (nI 0)) 44 4 (nI 0)) 44 5 (nI 0)) 45 (fun _ => 0)) 46 (fun _ => 0)) 47 (fun _ => 0)) 48 (fun _ => 0)) 49 (fun _ => 0)) (ur (ur (ur (ur (ur (ur J 44 (fun _ => 0)) 45 (fun _ => 0)) 46 (fun _ => 0)) 47 (fun _ => 0)) 48 (fun _ => 0)) 49 (fun _ => 0)) (ur (u2 (ur (u2 (ur (u2 (ur (u2 (ur (ur P 44 (fun _ => none)) 45 (fun _ => none)) 44 6 (some 45)) 46 (fun _ => none)) 44 7 (some 46)) 47 (fun _ => none)) 44 8 (some 47)) 48 (fun _ => none)) 44 9 (some 48)) 49 (fun _ => none))
  refine j_putP dX8_init_71 rfl fX8_43 rfl (by decide) (by decide) rfl (Or.inr ⟨rfl, rfl⟩) ?_
  refine j_aload_n dX8_init_74 rfl rfl rfl ?_
  refine j_bipush (v := nI 8) dX8_init_75 rfl rfl ?_
  refine j_newI (len := 8) (bc := 4) (bs := 123) dX8_init_77 rfl rfl (by decide) jvw_int (by decide) rfl (by decide) rfl rfl ?_
  show Rj _ _ _ _ _ _ 79 [.ref 44] [.ref 50, .ref 44] 51 (ur (ur (ur (ur (ur (ur (u2 (u2 (u2 (u2 (u2 (u2 (ur I 44 (fun _ => 0)) 44 0 (nI 0)) 44 1 (nI 0)) 44 2 (nI 0)) 44 3 (nI 0)) 44 4 (nI 0)) 44 5 (nI 0)) 45 (fun _ => 0)) 46 (fun _ => 0)) 47 (fun _ => 0)) 48 (fun _ => 0)) 49 (fun _ => 0)) 50 (fun _ => 0)) (ur (ur (ur (ur (ur (ur (ur J 44 (fun _ => 0)) 45 (fun _ => 0)) 46 (fun _ => 0)) 47 (fun _ => 0)) 48 (fun _ => 0)) 49 (fun _ => 0)) 50 (fun _ => 0)) (ur (u2 (ur (u2 (ur (u2 (ur (u2 (ur (u2 (ur (ur P 44 (fun _ => none)) 45 (fun _ => none)) 44 6 (some 45)) 46 (fun _ => none)) 44 7 (some 46)) 47 (fun _ => none)) 44 8 (some 47)) 48 (fun _ => none)) 44 9 (some 48)) 49 (fun _ => none)) 44 10 (some 49)) 50 (fun _ => none))
  refine j_putP dX8_init_79 rfl fX8_46 rfl (by decide) (by decide) rfl (Or.inr ⟨rfl, rfl⟩) ?_
  refine j_aload_n dX8_init_82 rfl rfl rfl ?_
  refine j_bipush (v := nI 8) dX8_init_83 rfl rfl ?_
  refine j_newI (len := 8) (bc := 3) (bs := 115) dX8_init_85 rfl rfl (by decide) jvw_int (by decide) rfl (by decide) rfl rfl ?_
  show Rj _ _ _ _ _ _ 87 [.ref 44] [.ref 51, .ref 44] 52 (ur (ur (ur (ur (ur (ur (ur (u2 (u2 (u2 (u2 (u2 (u2 (ur I 44 (fun _ => 0)) 44 0 (nI 0)) 44 1 (nI 0)) 44 2 (nI 0)) 44 3 (nI 0)) 44 4 (nI 0)) 44 5 (nI 0)) 45 (fun _ => 0)) 46 (fun _ => 0)) 47 (fun _ => 0)) 48 (fun _ => 0)) 49 (fun _ => 0)) 50 (fun _ => 0)) 51 (fun _ => 0)) (ur (ur (ur (ur (ur (ur (ur (ur J 44 (fun _ => 0)) 45 (fun _ => 0)) 46 (fun _ => 0)) 47 (fun _ => 0)) 48 (fun _ => 0)) 49 (fun _ => 0)) 50 (fun _ => 0)) 51 (fun _ => 0)) (ur (u2 (ur (u2 (ur (u2 (ur (u2 (ur (u2 (ur (u2 (ur (ur P 44 (fun _ => none)) 45 (fun _ => none)) 44 6 (some 45)) 46 (fun _ => none)) 44 7 (some 46)) 47 (fun _ => none)) 44 8 (some 47)) 48 (fun _ => none)) 44 9 (some 48)) 49 (fun _ => none)) 44 10 (some 49)) 50 (fun _ => none)) 44 11 (some 50)) 51 (fun _ => none))
  refine j_putP dX8_init_87 rfl fX8_49 rfl (by decide) (by decide) rfl (Or.inr ⟨rfl, rfl⟩) ?_
  refine j_aload_n dX8_init_90 rfl rfl rfl ?_
  refine j_bipush (v := nI 8) dX8_init_91 rfl rfl ?_
  refine j_newI (len := 8) (bc := 2) (bs := 107) dX8_init_93 rfl rfl (by decide) jvw_int (by decide) rfl (by decide) rfl rfl ?_
  show Rj _ _ _ _ _ _ 95 [.ref 44] [.ref 52, .ref 44] 53 (ur (ur (ur (ur (ur (ur (ur (ur (u2 (u2 (u2 (u2 (u2 (u2 (ur I 44 (fun _ => 0)) 44 0 (nI 0)) 44 1 (nI 0)) 44 2 (nI 0)) 44 3 (nI 0)) 44 4 (nI 0)) 44 5 (nI 0)) 45 (fun _ => 0)) 46 (fun _ => 0)) 47 (fun _ => 0)) 48 (fun _ => 0)) 49 (fun _ => 0)) 50 (fun _ => 0)) 51 (fun _ => 0)) 52 (fun _ => 0)) (ur (ur (ur (ur (ur (ur (ur (ur (ur J 44 (fun _ => 0)) 45 (fun _ => 0)) 46 (fun _ => 0)) 47 (fun _ => 0)) 48 (fun _ => 0)) 49 (fun _ => 0)) 50 (fun _ => 0)) 51 (fun _ => 0)) 52 (fun _ => 0)) (ur (u2 (ur (u2 (ur (u2 (ur (u2 (ur (u2 (ur (u2 (ur (u2 (ur (ur P 44 (fun _ => none)) 45 (fun _ => none)) 44 6 (some 45)) 46 (fun _ => none)) 44 7 (some 46)) 47 (fun _ => none)) 44 8 (some 47)) 48 (fun _ => none)) 44 9 (some 48)) 49 (fun _ => none)) 44 10 (some 49)) 50 (fun _ => none)) 44 11 (some 50)) 51 (fun _ => none)) 44 12 (some 51)) 52 (fun _ => none))
  refine j_putP dX8_init_95 rfl fX8_52 rfl (by decide) (by decide) rfl (Or.inr ⟨rfl, rfl⟩) ?_
  refine j_aload_n dX8_init_98 rfl rfl rfl ?_
  refine j_new (ci := 3) (bc := 1) (bs := 104) dX8_init_99 rfl (by decide) rfl (by decide) nX8_55 insX5 iniX5 rfl rfl ?_
  show Rj _ _ _ _ _ _ 102 [.ref 44] [.ref 53, .ref 44] 54 (ur (ur (ur (ur (ur (ur (ur (ur (ur (u2 (u2 (u2 (u2 (u2 (u2 (ur I 44 (fun _ => 0)) 44 0 (nI 0)) 44 1 (nI 0)) 44 2 (nI 0)) 44 3 (nI 0)) 44 4 (nI 0)) 44 5 (nI 0)) 45 (fun _ => 0)) 46 (fun _ => 0)) 47 (fun _ => 0)) 48 (fun _ => 0)) 49 (fun _ => 0)) 50 (fun _ => 0)) 51 (fun _ => 0)) 52 (fun _ => 0)) 53 (fun _ => 0)) (ur (ur (ur (ur (ur (ur (ur (ur (ur (ur J 44 (fun _ => 0)) 45 (fun _ => 0)) 46 (fun _ => 0)) 47 (fun _ => 0)) 48 (fun _ => 0)) 49 (fun _ => 0)) 50 (fun _ => 0)) 51 (fun _ => 0)) 52 (fun _ => 0)) 53 (fun _ => 0)) (ur (u2 (ur (u2 (ur (u2 (ur (u2 (ur (u2 (ur (u2 (ur (u2 (ur (u2 (ur (ur P 44 (fun _ => none)) 45 (fun _ => none)) 44 6 (some 45)) 46 (fun _ => none)) 44 7 (some 46)) 47 (fun _ => none)) 44 8 (some 47)) 48 (fun _ => none)) 44 9 (some 48)) 49 (fun _ => none)) 44 10 (some 49)) 50 (fun _ => none)) 44 11 (some 50)) 51 (fun _ => none)) 44 12 (some 51)) 52 (fun _ => none)) 44 13 (some 52)) 53 (fun _ => none))
  refine j_dup dX8_init_102 rfl rfl ?_
  refine j_callINw (As := []) dX8_init_103 rfl cX8_57 rfl (by decide) rfl rfl (c_pinit53 ?_)
  show Rj _ _ _ _ _ _ 106 [.ref 44] [.ref 53, .ref 44] 55 (u2 (u2 (ur (ur (ur (ur (ur (ur (ur (ur (ur (ur (u2 (u2 (u2 (u2 (u2 (u2 (ur I 44 (fun _ => 0)) 44 0 (nI 0)) 44 1 (nI 0)) 44 2 (nI 0)) 44 3 (nI 0)) 44 4 (nI 0)) 44 5 (nI 0)) 45 (fun _ => 0)) 46 (fun _ => 0)) 47 (fun _ => 0)) 48 (fun _ => 0)) 49 (fun _ => 0)) 50 (fun _ => 0)) 51 (fun _ => 0)) 52 (fun _ => 0)) 53 (fun _ => 0)) 54 (fun _ => 0)) 53 1 (nI 0)) 53 2 (nI 0)) (ur (ur (ur (ur (ur (ur (ur (ur (ur (ur (ur J 44 (fun _ => 0)) 45 (fun _ => 0)) 46 (fun _ => 0)) 47 (fun _ => 0)) 48 (fun _ => 0)) 49 (fun _ => 0)) 50 (fun _ => 0)) 51 (fun _ => 0)) 52 (fun _ => 0)) 53 (fun _ => 0)) 54 (fun _ => 0)) (u2 (ur (ur (u2 (ur (u2 (ur (u2 (ur (u2 (ur (u2 (ur (u2 (ur (u2 (ur (u2 (ur (ur P 44 (fun _ => none)) 45 (fun _ => none)) 44 6 (some 45)) 46 (fun _ => none)) 44 7 (some 46)) 47 (fun _ => none)) 44 8 (some 47)) 48 (fun _ => none)) 44 9 (some 48)) 49 (fun _ => none)) 44 10 (some 49)) 50 (fun _ => none)) 44 11 (some 50)) 51 (fun _ => none)) 44 12 (some 51)) 52 (fun _ => none)) 44 13 (some 52)) 53 (fun _ => none)) 54 (fun _ => none)) 53 0 (some 54))
  refine j_putP dX8_init_106 rfl fX8_58 rfl (by decide) (by decide) rfl (Or.inr ⟨rfl, rfl⟩) ?_
  refine j_heap (I' := IZ 44 I) (J' := JZ 44 J) (P' := PZ 44 P) (fun a ha => ?_) (fun a ha => ?_) (fun a ha => ?_) ?_
  · rcases (show a < 44 ∨ a = 44 ∨ a = 45 ∨ a = 46 ∨ a = 47 ∨ a = 48 ∨ a = 49 ∨ a = 50 ∨ a = 51 ∨ a = 52 ∨ a = 53 ∨ a = 54 by omega) with h | rfl | rfl | rfl | rfl | rfl | rfl | rfl | rfl | rfl | rfl | rfl
    · funext k
      simp [IZ, ur, u2, h, show a ≠ 44 by omega, show a ≠ 45 by omega, show a ≠ 46 by omega, show a ≠ 47 by omega, show a ≠ 48 by omega, show a ≠ 49 by omega, show a ≠ 50 by omega, show a ≠ 51 by omega, show a ≠ 52 by omega, show a ≠ 53 by omega, show a ≠ 54 by omega]
    all_goals (funext k; simp [IZ, ur, u2, nI_0])
  · rcases (show a < 44 ∨ a = 44 ∨ a = 45 ∨ a = 46 ∨ a = 47 ∨ a = 48 ∨ a = 49 ∨ a = 50 ∨ a = 51 ∨ a = 52 ∨ a = 53 ∨ a = 54 by omega) with h | rfl | rfl | rfl | rfl | rfl | rfl | rfl | rfl | rfl | rfl | rfl
    · funext k
      simp [JZ, ur, h, show a ≠ 44 by omega, show a ≠ 45 by omega, show a ≠ 46 by omega, show a ≠ 47 by omega, show a ≠ 48 by omega, show a ≠ 49 by omega, show a ≠ 50 by omega, show a ≠ 51 by omega, show a ≠ 52 by omega, show a ≠ 53 by omega, show a ≠ 54 by omega]
    all_goals (funext k; simp [JZ, ur])
  · rcases (show a < 44 ∨ a = 44 ∨ a = 45 ∨ a = 46 ∨ a = 47 ∨ a = 48 ∨ a = 49 ∨ a = 50 ∨ a = 51 ∨ a = 52 ∨ a = 53 ∨ a = 54 by omega) with h | rfl | rfl | rfl | rfl | rfl | rfl | rfl | rfl | rfl | rfl | rfl
    · funext k
      simp [PZ, ur, u2, h, show a ≠ 44 by omega, show a ≠ 45 by omega, show a ≠ 46 by omega, show a ≠ 47 by omega, show a ≠ 48 by omega, show a ≠ 49 by omega, show a ≠ 50 by omega, show a ≠ 51 by omega, show a ≠ 52 by omega, show a ≠ 53 by omega, show a ≠ 54 by omega]
    · funext k
      rcases k with _ | _ | _ | _ | _ | _ | _ | _ | _ | _ | _ | _ | _ | _ | _ | k <;> rfl
    all_goals (funext k; rcases k with _ | k <;> rfl)
  refine j_vret dX8_init_109 rfl ?_
  exact hQ
set_option maxHeartbeats 4000000 in
set_option maxRecDepth 100000 in
theorem c_vinit55 {X : jX} {d : Nat} {I : HI} {J : HJ} {P : HP} {Q : jPost} (hQ : Q none 66 (IZ 55 I) (JZ 55 J) (PZ 55 P)) : Cj X (d + 2) 10 163 mX8_init [.ref 55] 56 (ur I 55 (fun _ => 0)) (ur J 55 (fun _ => 0)) (ur P 55 (fun _ => none)) Q := by
  refine Cj.intro rfl (Nat.le_of_ble_eq_true rfl) (L := [.ref 55]) rfl ?_
  refine j_aload_n dX8_init_0 rfl rfl rfl ?_
  refine j_objInit dX8_init_1 rfl cX8_3 jvw_oi jvw_oc (by decide) ?_
  refine j_aload_n dX8_init_4 rfl rfl rfl ?_
  refine j_iconst (v := nI 0) dX8_init_5 rfl rfl ?_
  refine j_putI dX8_init_6 rfl fX8_9 rfl (by decide) rfl rfl ?_
  refine j_aload_n dX8_init_9 rfl rfl rfl ?_
  refine j_iconst (v := nI 0) dX8_init_10 rfl rfl ?_
  refine j_putI dX8_init_11 rfl fX8_15 rfl (by decide) rfl rfl ?_
  refine j_aload_n dX8_init_14 rfl rfl rfl ?_
  refine j_iconst (v := nI 0) dX8_init_15 rfl rfl ?_
  refine j_putI dX8_init_16 rfl fX8_18 rfl (by decide) rfl rfl ?_
  refine j_aload_n dX8_init_19 rfl rfl rfl ?_
  refine j_iconst (v := nI 0) dX8_init_20 rfl rfl ?_
  refine j_putI dX8_init_21 rfl fX8_21 rfl (by decide) rfl rfl ?_
  refine j_aload_n dX8_init_24 rfl rfl rfl ?_
  refine j_iconst (v := nI 0) dX8_init_25 rfl rfl ?_
  refine j_putI dX8_init_26 rfl fX8_24 rfl (by decide) rfl rfl ?_
  refine j_aload_n dX8_init_29 rfl rfl rfl ?_
  refine j_iconst (v := nI 0) dX8_init_30 rfl rfl ?_
  refine j_putI dX8_init_31 rfl fX8_27 rfl (by decide) rfl rfl ?_
  refine j_aload_n dX8_init_34 rfl rfl rfl ?_
  refine j_bipush (v := nI 6) dX8_init_35 rfl rfl ?_
  refine j_newI (len := 6) (bc := 9) (bs := 157) dX8_init_37 rfl rfl (by decide) jvw_int (by decide) rfl (by decide) rfl rfl ?_
  show Rj _ _ _ _ _ _ 39 [.ref 55] [.ref 56, .ref 55] 57 (ur (u2 (u2 (u2 (u2 (u2 (u2 (ur I 55 (fun _ => 0)) 55 0 (nI 0)) 55 1 (nI 0)) 55 2 (nI 0)) 55 3 (nI 0)) 55 4 (nI 0)) 55 5 (nI 0)) 56 (fun _ => 0)) (ur (ur J 55 (fun _ => 0)) 56 (fun _ => 0)) (ur (ur P 55 (fun _ => none)) 56 (fun _ => none))
  refine j_putP dX8_init_39 rfl fX8_30 rfl (by decide) (by decide) rfl (Or.inr ⟨rfl, rfl⟩) ?_
  refine j_aload_n dX8_init_42 rfl rfl rfl ?_
  refine j_bipush (v := nI 6) dX8_init_43 rfl rfl ?_
  refine j_newI (len := 6) (bc := 8) (bs := 151) dX8_init_45 rfl rfl (by decide) jvw_int (by decide) rfl (by decide) rfl rfl ?_
  show Rj _ _ _ _ _ _ 47 [.ref 55] [.ref 57, .ref 55] 58 (ur (ur (u2 (u2 (u2 (u2 (u2 (u2 (ur I 55 (fun _ => 0)) 55 0 (nI 0)) 55 1 (nI 0)) 55 2 (nI 0)) 55 3 (nI 0)) 55 4 (nI 0)) 55 5 (nI 0)) 56 (fun _ => 0)) 57 (fun _ => 0)) (ur (ur (ur J 55 (fun _ => 0)) 56 (fun _ => 0)) 57 (fun _ => 0)) (ur (u2 (ur (ur P 55 (fun _ => none)) 56 (fun _ => none)) 55 6 (some 56)) 57 (fun _ => none))
  refine j_putP dX8_init_47 rfl fX8_34 rfl (by decide) (by decide) rfl (Or.inr ⟨rfl, rfl⟩) ?_
  refine j_aload_n dX8_init_50 rfl rfl rfl ?_
  refine j_bipush (v := nI 6) dX8_init_51 rfl rfl ?_
  refine j_newI (len := 6) (bc := 7) (bs := 145) dX8_init_53 rfl rfl (by decide) jvw_int (by decide) rfl (by decide) rfl rfl ?_
  show Rj _ _ _ _ _ _ 55 [.ref 55] [.ref 58, .ref 55] 59 (ur (ur (ur (u2 (u2 (u2 (u2 (u2 (u2 (ur I 55 (fun _ => 0)) 55 0 (nI 0)) 55 1 (nI 0)) 55 2 (nI 0)) 55 3 (nI 0)) 55 4 (nI 0)) 55 5 (nI 0)) 56 (fun _ => 0)) 57 (fun _ => 0)) 58 (fun _ => 0)) (ur (ur (ur (ur J 55 (fun _ => 0)) 56 (fun _ => 0)) 57 (fun _ => 0)) 58 (fun _ => 0)) (ur (u2 (ur (u2 (ur (ur P 55 (fun _ => none)) 56 (fun _ => none)) 55 6 (some 56)) 57 (fun _ => none)) 55 7 (some 57)) 58 (fun _ => none))
  refine j_putP dX8_init_55 rfl fX8_37 rfl (by decide) (by decide) rfl (Or.inr ⟨rfl, rfl⟩) ?_
  refine j_aload_n dX8_init_58 rfl rfl rfl ?_
  refine j_bipush (v := nI 6) dX8_init_59 rfl rfl ?_
  refine j_newI (len := 6) (bc := 6) (bs := 139) dX8_init_61 rfl rfl (by decide) jvw_int (by decide) rfl (by decide) rfl rfl ?_
  show Rj _ _ _ _ _ _ 63 [.ref 55] [.ref 59, .ref 55] 60 (ur (ur (ur (ur (u2 (u2 (u2 (u2 (u2 (u2 (ur I 55 (fun _ => 0)) 55 0 (nI 0)) 55 1 (nI 0)) 55 2 (nI 0)) 55 3 (nI 0)) 55 4 (nI 0)) 55 5 (nI 0)) 56 (fun _ => 0)) 57 (fun _ => 0)) 58 (fun _ => 0)) 59 (fun _ => 0)) (ur (ur (ur (ur (ur J 55 (fun _ => 0)) 56 (fun _ => 0)) 57 (fun _ => 0)) 58 (fun _ => 0)) 59 (fun _ => 0)) (ur (u2 (ur (u2 (ur (u2 (ur (ur P 55 (fun _ => none)) 56 (fun _ => none)) 55 6 (some 56)) 57 (fun _ => none)) 55 7 (some 57)) 58 (fun _ => none)) 55 8 (some 58)) 59 (fun _ => none))
  refine j_putP dX8_init_63 rfl fX8_40 rfl (by decide) (by decide) rfl (Or.inr ⟨rfl, rfl⟩) ?_
  refine j_aload_n dX8_init_66 rfl rfl rfl ?_
  refine j_bipush (v := nI 8) dX8_init_67 rfl rfl ?_
  refine j_newI (len := 8) (bc := 5) (bs := 131) dX8_init_69 rfl rfl (by decide) jvw_int (by decide) rfl (by decide) rfl rfl ?_
  show Rj _ _ _ _ _ _ 71 [.ref 55] [.ref 60, .ref 55] 61 (ur (ur (ur (ur (ur (u2 (u2 (u2 (u2 (u2 (u2 (ur I 55 (fun _ => 0)) 55 0 (nI 0)) 55 1 (nI 0)) 55 2 (nI 0)) 55 3 (nI 0)) 55 4 (nI 0)) 55 5 (nI 0)) 56 (fun _ => 0)) 57 (fun _ => 0)) 58 (fun _ => 0)) 59 (fun _ => 0)) 60 (fun _ => 0)) (ur (ur (ur (ur (ur (ur J 55 (fun _ => 0)) 56 (fun _ => 0)) 57 (fun _ => 0)) 58 (fun _ => 0)) 59 (fun _ => 0)) 60 (fun _ => 0)) (ur (u2 (ur (u2 (ur (u2 (ur (u2 (ur (ur P 55 (fun _ => none)) 56 (fun _ => none)) 55 6 (some 56)) 57 (fun _ => none)) 55 7 (some 57)) 58 (fun _ => none)) 55 8 (some 58)) 59 (fun _ => none)) 55 9 (some 59)) 60 (fun _ => none))
  refine j_putP dX8_init_71 rfl fX8_43 rfl (by decide) (by decide) rfl (Or.inr ⟨rfl, rfl⟩) ?_
  refine j_aload_n dX8_init_74 rfl rfl rfl ?_
  refine j_bipush (v := nI 8) dX8_init_75 rfl rfl ?_
  refine j_newI (len := 8) (bc := 4) (bs := 123) dX8_init_77 rfl rfl (by decide) jvw_int (by decide) rfl (by decide) rfl rfl ?_
  show Rj _ _ _ _ _ _ 79 [.ref 55] [.ref 61, .ref 55] 62 (ur (ur (ur (ur (ur (ur (u2 (u2 (u2 (u2 (u2 (u2 (ur I 55 (fun _ => 0)) 55 0 (nI 0)) 55 1 (nI 0)) 55 2 (nI 0)) 55 3 (nI 0)) 55 4 (nI 0)) 55 5 (nI 0)) 56 (fun _ => 0)) 57 (fun _ => 0)) 58 (fun _ => 0)) 59 (fun _ => 0)) 60 (fun _ => 0)) 61 (fun _ => 0)) (ur (ur (ur (ur (ur (ur (ur J 55 (fun _ => 0)) 56 (fun _ => 0)) 57 (fun _ => 0)) 58 (fun _ => 0)) 59 (fun _ => 0)) 60 (fun _ => 0)) 61 (fun _ => 0)) (ur (u2 (ur (u2 (ur (u2 (ur (u2 (ur (u2 (ur (ur P 55 (fun _ => none)) 56 (fun _ => none)) 55 6 (some 56)) 57 (fun _ => none)) 55 7 (some 57)) 58 (fun _ => none)) 55 8 (some 58)) 59 (fun _ => none)) 55 9 (some 59)) 60 (fun _ => none)) 55 10 (some 60)) 61 (fun _ => none))
  refine j_putP dX8_init_79 rfl fX8_46 rfl (by decide) (by decide) rfl (Or.inr ⟨rfl, rfl⟩) ?_
  refine j_aload_n dX8_init_82 rfl rfl rfl ?_
  refine j_bipush (v := nI 8) dX8_init_83 rfl rfl ?_
  refine j_newI (len := 8) (bc := 3) (bs := 115) dX8_init_85 rfl rfl (by decide) jvw_int (by decide) rfl (by decide) rfl rfl ?_
  show Rj _ _ _ _ _ _ 87 [.ref 55] [.ref 62, .ref 55] 63 (ur (ur (ur (ur (ur (ur (ur (u2 (u2 (u2 (u2 (u2 (u2 (ur I 55 (fun _ => 0)) 55 0 (nI 0)) 55 1 (nI 0)) 55 2 (nI 0)) 55 3 (nI 0)) 55 4 (nI 0)) 55 5 (nI 0)) 56 (fun _ => 0)) 57 (fun _ => 0)) 58 (fun _ => 0)) 59 (fun _ => 0)) 60 (fun _ => 0)) 61 (fun _ => 0)) 62 (fun _ => 0)) (ur (ur (ur (ur (ur (ur (ur (ur J 55 (fun _ => 0)) 56 (fun _ => 0)) 57 (fun _ => 0)) 58 (fun _ => 0)) 59 (fun _ => 0)) 60 (fun _ => 0)) 61 (fun _ => 0)) 62 (fun _ => 0)) (ur (u2 (ur (u2 (ur (u2 (ur (u2 (ur (u2 (ur (u2 (ur (ur P 55 (fun _ => none)) 56 (fun _ => none)) 55 6 (some 56)) 57 (fun _ => none)) 55 7 (some 57)) 58 (fun _ => none)) 55 8 (some 58)) 59 (fun _ => none)) 55 9 (some 59)) 60 (fun _ => none)) 55 10 (some 60)) 61 (fun _ => none)) 55 11 (some 61)) 62 (fun _ => none))
  refine j_putP dX8_init_87 rfl fX8_49 rfl (by decide) (by decide) rfl (Or.inr ⟨rfl, rfl⟩) ?_
  refine j_aload_n dX8_init_90 rfl rfl rfl ?_
  refine j_bipush (v := nI 8) dX8_init_91 rfl rfl ?_
  refine j_newI (len := 8) (bc := 2) (bs := 107) dX8_init_93 rfl rfl (by decide) jvw_int (by decide) rfl (by decide) rfl rfl ?_
  show Rj _ _ _ _ _ _ 95 [.ref 55] [.ref 63, .ref 55] 64 (ur (ur (ur (ur (ur (ur (ur (ur (u2 (u2 (u2 (u2 (u2 (u2 (ur I 55 (fun _ => 0)) 55 0 (nI 0)) 55 1 (nI 0)) 55 2 (nI 0)) 55 3 (nI 0)) 55 4 (nI 0)) 55 5 (nI 0)) 56 (fun _ => 0)) 57 (fun _ => 0)) 58 (fun _ => 0)) 59 (fun _ => 0)) 60 (fun _ => 0)) 61 (fun _ => 0)) 62 (fun _ => 0)) 63 (fun _ => 0)) (ur (ur (ur (ur (ur (ur (ur (ur (ur J 55 (fun _ => 0)) 56 (fun _ => 0)) 57 (fun _ => 0)) 58 (fun _ => 0)) 59 (fun _ => 0)) 60 (fun _ => 0)) 61 (fun _ => 0)) 62 (fun _ => 0)) 63 (fun _ => 0)) (ur (u2 (ur (u2 (ur (u2 (ur (u2 (ur (u2 (ur (u2 (ur (u2 (ur (ur P 55 (fun _ => none)) 56 (fun _ => none)) 55 6 (some 56)) 57 (fun _ => none)) 55 7 (some 57)) 58 (fun _ => none)) 55 8 (some 58)) 59 (fun _ => none)) 55 9 (some 59)) 60 (fun _ => none)) 55 10 (some 60)) 61 (fun _ => none)) 55 11 (some 61)) 62 (fun _ => none)) 55 12 (some 62)) 63 (fun _ => none))
  refine j_putP dX8_init_95 rfl fX8_52 rfl (by decide) (by decide) rfl (Or.inr ⟨rfl, rfl⟩) ?_
  refine j_aload_n dX8_init_98 rfl rfl rfl ?_
  refine j_new (ci := 3) (bc := 1) (bs := 104) dX8_init_99 rfl (by decide) rfl (by decide) nX8_55 insX5 iniX5 rfl rfl ?_
  show Rj _ _ _ _ _ _ 102 [.ref 55] [.ref 64, .ref 55] 65 (ur (ur (ur (ur (ur (ur (ur (ur (ur (u2 (u2 (u2 (u2 (u2 (u2 (ur I 55 (fun _ => 0)) 55 0 (nI 0)) 55 1 (nI 0)) 55 2 (nI 0)) 55 3 (nI 0)) 55 4 (nI 0)) 55 5 (nI 0)) 56 (fun _ => 0)) 57 (fun _ => 0)) 58 (fun _ => 0)) 59 (fun _ => 0)) 60 (fun _ => 0)) 61 (fun _ => 0)) 62 (fun _ => 0)) 63 (fun _ => 0)) 64 (fun _ => 0)) (ur (ur (ur (ur (ur (ur (ur (ur (ur (ur J 55 (fun _ => 0)) 56 (fun _ => 0)) 57 (fun _ => 0)) 58 (fun _ => 0)) 59 (fun _ => 0)) 60 (fun _ => 0)) 61 (fun _ => 0)) 62 (fun _ => 0)) 63 (fun _ => 0)) 64 (fun _ => 0)) (ur (u2 (ur (u2 (ur (u2 (ur (u2 (ur (u2 (ur (u2 (ur (u2 (ur (u2 (ur (ur P 55 (fun _ => none)) 56 (fun _ => none)) 55 6 (some 56)) 57 (fun _ => none)) 55 7 (some 57)) 58 (fun _ => none)) 55 8 (some 58)) 59 (fun _ => none)) 55 9 (some 59)) 60 (fun _ => none)) 55 10 (some 60)) 61 (fun _ => none)) 55 11 (some 61)) 62 (fun _ => none)) 55 12 (some 62)) 63 (fun _ => none)) 55 13 (some 63)) 64 (fun _ => none))
  refine j_dup dX8_init_102 rfl rfl ?_
  refine j_callINw (As := []) dX8_init_103 rfl cX8_57 rfl (by decide) rfl rfl (c_pinit64 ?_)
  show Rj _ _ _ _ _ _ 106 [.ref 55] [.ref 64, .ref 55] 66 (u2 (u2 (ur (ur (ur (ur (ur (ur (ur (ur (ur (ur (u2 (u2 (u2 (u2 (u2 (u2 (ur I 55 (fun _ => 0)) 55 0 (nI 0)) 55 1 (nI 0)) 55 2 (nI 0)) 55 3 (nI 0)) 55 4 (nI 0)) 55 5 (nI 0)) 56 (fun _ => 0)) 57 (fun _ => 0)) 58 (fun _ => 0)) 59 (fun _ => 0)) 60 (fun _ => 0)) 61 (fun _ => 0)) 62 (fun _ => 0)) 63 (fun _ => 0)) 64 (fun _ => 0)) 65 (fun _ => 0)) 64 1 (nI 0)) 64 2 (nI 0)) (ur (ur (ur (ur (ur (ur (ur (ur (ur (ur (ur J 55 (fun _ => 0)) 56 (fun _ => 0)) 57 (fun _ => 0)) 58 (fun _ => 0)) 59 (fun _ => 0)) 60 (fun _ => 0)) 61 (fun _ => 0)) 62 (fun _ => 0)) 63 (fun _ => 0)) 64 (fun _ => 0)) 65 (fun _ => 0)) (u2 (ur (ur (u2 (ur (u2 (ur (u2 (ur (u2 (ur (u2 (ur (u2 (ur (u2 (ur (u2 (ur (ur P 55 (fun _ => none)) 56 (fun _ => none)) 55 6 (some 56)) 57 (fun _ => none)) 55 7 (some 57)) 58 (fun _ => none)) 55 8 (some 58)) 59 (fun _ => none)) 55 9 (some 59)) 60 (fun _ => none)) 55 10 (some 60)) 61 (fun _ => none)) 55 11 (some 61)) 62 (fun _ => none)) 55 12 (some 62)) 63 (fun _ => none)) 55 13 (some 63)) 64 (fun _ => none)) 65 (fun _ => none)) 64 0 (some 65))
  refine j_putP dX8_init_106 rfl fX8_58 rfl (by decide) (by decide) rfl (Or.inr ⟨rfl, rfl⟩) ?_
  refine j_heap (I' := IZ 55 I) (J' := JZ 55 J) (P' := PZ 55 P) (fun a ha => ?_) (fun a ha => ?_) (fun a ha => ?_) ?_
  · rcases (show a < 55 ∨ a = 55 ∨ a = 56 ∨ a = 57 ∨ a = 58 ∨ a = 59 ∨ a = 60 ∨ a = 61 ∨ a = 62 ∨ a = 63 ∨ a = 64 ∨ a = 65 by omega) with h | rfl | rfl | rfl | rfl | rfl | rfl | rfl | rfl | rfl | rfl | rfl
    · funext k
      simp [IZ, ur, u2, h, show a ≠ 55 by omega, show a ≠ 56 by omega, show a ≠ 57 by omega, show a ≠ 58 by omega, show a ≠ 59 by omega, show a ≠ 60 by omega, show a ≠ 61 by omega, show a ≠ 62 by omega, show a ≠ 63 by omega, show a ≠ 64 by omega, show a ≠ 65 by omega]
    all_goals (funext k; simp [IZ, ur, u2, nI_0])
  · rcases (show a < 55 ∨ a = 55 ∨ a = 56 ∨ a = 57 ∨ a = 58 ∨ a = 59 ∨ a = 60 ∨ a = 61 ∨ a = 62 ∨ a = 63 ∨ a = 64 ∨ a = 65 by omega) with h | rfl | rfl | rfl | rfl | rfl | rfl | rfl | rfl | rfl | rfl | rfl
    · funext k
      simp [JZ, ur, h, show a ≠ 55 by omega, show a ≠ 56 by omega, show a ≠ 57 by omega, show a ≠ 58 by omega, show a ≠ 59 by omega, show a ≠ 60 by omega, show a ≠ 61 by omega, show a ≠ 62 by omega, show a ≠ 63 by omega, show a ≠ 64 by omega, show a ≠ 65 by omega]
    all_goals (funext k; simp [JZ, ur])
  · rcases (show a < 55 ∨ a = 55 ∨ a = 56 ∨ a = 57 ∨ a = 58 ∨ a = 59 ∨ a = 60 ∨ a = 61 ∨ a = 62 ∨ a = 63 ∨ a = 64 ∨ a = 65 by omega) with h | rfl | rfl | rfl | rfl | rfl | rfl | rfl | rfl | rfl | rfl | rfl
    · funext k
      simp [PZ, ur, u2, h, show a ≠ 55 by omega, show a ≠ 56 by omega, show a ≠ 57 by omega, show a ≠ 58 by omega, show a ≠ 59 by omega, show a ≠ 60 by omega, show a ≠ 61 by omega, show a ≠ 62 by omega, show a ≠ 63 by omega, show a ≠ 64 by omega, show a ≠ 65 by omega]
    · funext k
      rcases k with _ | _ | _ | _ | _ | _ | _ | _ | _ | _ | _ | _ | _ | _ | _ | k <;> rfl
    all_goals (funext k; rcases k with _ | k <;> rfl)
  refine j_vret dX8_init_109 rfl ?_
  exact hQ
