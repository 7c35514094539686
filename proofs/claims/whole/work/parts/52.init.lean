set_option maxHeartbeats 4000000 in
set_option maxRecDepth 100000 in
theorem c_rinit {X : jX} {d : Nat} {I : HI} {J : HJ} {P : HP} {Q : jPost} (hQ : Q none 26 (IZ 13 I) (JZ 13 J) (PZ 13 P)) : Cj X (d + 3) 12 328 mX6_init [.ref 13] 14 (ur I 13 (fun _ => 0)) (ur J 13 (fun _ => 0)) (ur P 13 (fun _ => none)) Q := by
  refine Cj.intro rfl (Nat.le_of_ble_eq_true rfl) (L := [.ref 13]) rfl ?_
  refine j_aload_n dX6_init_0 rfl rfl rfl ?_
  refine j_objInit dX6_init_1 rfl cX6_3 jvw_oi jvw_oc (by decide) ?_
  refine j_aload_n dX6_init_4 rfl rfl rfl ?_
  refine j_sipush (v := nI 150) dX6_init_5 rfl rfl ?_
  refine j_newB (len := 150) (bc := 11) (bs := 178) dX6_init_8 rfl rfl (by decide) jvw_byte (by decide) rfl (by decide) rfl rfl ?_
  show Rj _ _ _ _ _ _ 10 [.ref 13] [.ref 14, .ref 13] 15 (ur (ur I 13 (fun _ => 0)) 14 (fun _ => 0)) (ur (ur J 13 (fun _ => 0)) 14 (fun _ => 0)) (ur (ur P 13 (fun _ => none)) 14 (fun _ => none))
  refine j_putP dX6_init_10 rfl fX6_9 rfl (by decide) (by decide) rfl (Or.inr ⟨rfl, rfl⟩) ?_
  refine j_aload_n dX6_init_13 rfl rfl rfl ?_
  refine j_iconst (v := nI 0) dX6_init_14 rfl rfl ?_
  refine j_putI dX6_init_15 rfl fX6_15 rfl (by decide) rfl rfl ?_
  refine j_aload_n dX6_init_18 rfl rfl rfl ?_
  refine j_new (ci := 6) (bc := 10) (bs := 163) dX6_init_19 rfl (by decide) rfl (by decide) nX6_19 insX8 iniX8 rfl rfl ?_
  show Rj _ _ _ _ _ _ 22 [.ref 13] [.ref 15, .ref 13] 16 (ur (u2 (ur (ur I 13 (fun _ => 0)) 14 (fun _ => 0)) 13 1 (nI 0)) 15 (fun _ => 0)) (ur (ur (ur J 13 (fun _ => 0)) 14 (fun _ => 0)) 15 (fun _ => 0)) (ur (u2 (ur (ur P 13 (fun _ => none)) 14 (fun _ => none)) 13 0 (some 14)) 15 (fun _ => none))
  refine j_dup dX6_init_22 rfl rfl ?_
  refine j_callINw (As := []) dX6_init_23 rfl cX6_21 rfl (by decide) rfl rfl (c_vinit15 ?_)
  show Rj _ _ _ _ _ _ 26 [.ref 13] [.ref 15, .ref 13] 26 (IZ 15 (u2 (ur (ur I 13 (fun _ => 0)) 14 (fun _ => 0)) 13 1 (nI 0))) (JZ 15 (ur (ur J 13 (fun _ => 0)) 14 (fun _ => 0))) (PZ 15 (u2 (ur (ur P 13 (fun _ => none)) 14 (fun _ => none)) 13 0 (some 14)))
  refine j_putP dX6_init_26 rfl fX6_22 rfl (by decide) (by decide) rfl (Or.inr ⟨rfl, rfl⟩) ?_
  refine j_aload_n dX6_init_29 rfl rfl rfl ?_
  refine j_iconst (v := nI 0) dX6_init_30 rfl rfl ?_
  refine j_putI dX6_init_31 rfl fX6_26 rfl (by decide) rfl rfl ?_
  refine j_aload_n dX6_init_34 rfl rfl rfl ?_
  refine j_iconst (v := nI 0) dX6_init_35 rfl rfl ?_
  refine j_putI dX6_init_36 rfl fX6_29 rfl (by decide) rfl rfl ?_
  refine j_aload_n dX6_init_39 rfl rfl rfl ?_
  refine j_iconst (v := nI 0) dX6_init_40 rfl rfl ?_
  refine j_putI dX6_init_41 rfl fX6_32 rfl (by decide) rfl rfl ?_
  refine j_aload_n dX6_init_44 rfl rfl rfl ?_
  refine j_iconst (v := nI 0) dX6_init_45 rfl rfl ?_
  refine j_putI dX6_init_46 rfl fX6_35 rfl (by decide) rfl rfl ?_
  refine j_heap (I' := IZ 13 I) (J' := JZ 13 J) (P' := PZ 13 P) (fun a ha => ?_) (fun a ha => ?_) (fun a ha => ?_) ?_
  · rcases (show a < 13 ∨ a = 13 ∨ a = 14 ∨ a = 15 ∨ a = 16 ∨ a = 17 ∨ a = 18 ∨ a = 19 ∨ a = 20 ∨ a = 21 ∨ a = 22 ∨ a = 23 ∨ a = 24 ∨ a = 25 by omega) with h | rfl | rfl | rfl | rfl | rfl | rfl | rfl | rfl | rfl | rfl | rfl | rfl | rfl
    · funext k
      simp [IZ, ur, u2, h, show a ≠ 13 by omega, show a ≠ 14 by omega, show a ≠ 15 by omega, show a ≠ 16 by omega, show a ≠ 17 by omega, show a ≠ 18 by omega, show a ≠ 19 by omega, show a ≠ 20 by omega, show a ≠ 21 by omega, show a ≠ 22 by omega, show a ≠ 23 by omega, show a ≠ 24 by omega, show a ≠ 25 by omega, show a < 15 by omega]
    all_goals (funext k; simp [IZ, ur, u2, nI_0])
  · rcases (show a < 13 ∨ a = 13 ∨ a = 14 ∨ a = 15 ∨ a = 16 ∨ a = 17 ∨ a = 18 ∨ a = 19 ∨ a = 20 ∨ a = 21 ∨ a = 22 ∨ a = 23 ∨ a = 24 ∨ a = 25 by omega) with h | rfl | rfl | rfl | rfl | rfl | rfl | rfl | rfl | rfl | rfl | rfl | rfl | rfl
    · funext k
      simp [JZ, ur, u2, h, show a ≠ 13 by omega, show a ≠ 14 by omega, show a ≠ 15 by omega, show a ≠ 16 by omega, show a ≠ 17 by omega, show a ≠ 18 by omega, show a ≠ 19 by omega, show a ≠ 20 by omega, show a ≠ 21 by omega, show a ≠ 22 by omega, show a ≠ 23 by omega, show a ≠ 24 by omega, show a ≠ 25 by omega, show a < 15 by omega]
    all_goals (funext k; simp [JZ, ur, u2, show lN 0 = (0 : Int64) from rfl])
  · rcases (show a < 13 ∨ a = 13 ∨ a = 14 ∨ a = 15 ∨ a = 16 ∨ a = 17 ∨ a = 18 ∨ a = 19 ∨ a = 20 ∨ a = 21 ∨ a = 22 ∨ a = 23 ∨ a = 24 ∨ a = 25 by omega) with h | rfl | rfl | rfl | rfl | rfl | rfl | rfl | rfl | rfl | rfl | rfl | rfl | rfl
    · funext k
      simp [PZ, ur, u2, h, show a ≠ 13 by omega, show a ≠ 14 by omega, show a ≠ 15 by omega, show a ≠ 16 by omega, show a ≠ 17 by omega, show a ≠ 18 by omega, show a ≠ 19 by omega, show a ≠ 20 by omega, show a ≠ 21 by omega, show a ≠ 22 by omega, show a ≠ 23 by omega, show a ≠ 24 by omega, show a ≠ 25 by omega, show a < 15 by omega]
    all_goals (funext k; rcases k with _ | _ | _ | _ | _ | _ | _ | _ | _ | _ | _ | _ | _ | _ | _ | k <;> rfl)
  refine j_vret dX6_init_49 rfl ?_
  exact hQ
set_option maxHeartbeats 4000000 in
set_option maxRecDepth 100000 in
theorem c_finit {X : jX} {d : Nat} {I : HI} {J : HJ} {P : HP} {Q : jPost} (hQ : Q none 29 (u2 (u2 (IZ 26 I) 26 2 (-1)) 26 3 (-1)) (JZ 26 J) (PZ 26 P)) : Cj X (d + 1) 2 67 mX1_init [.ref 26] 27 (ur I 26 (fun _ => 0)) (ur J 26 (fun _ => 0)) (ur P 26 (fun _ => none)) Q := by
  refine Cj.intro rfl (Nat.le_of_ble_eq_true rfl) (L := [.ref 26]) rfl ?_
  refine j_aload_n dX1_init_0 rfl rfl rfl ?_
  refine j_objInit dX1_init_1 rfl cX1_3 jvw_oi jvw_oc (by decide) ?_
  refine j_aload_n dX1_init_4 rfl rfl rfl ?_
  refine j_bipush (v := nI 6) dX1_init_5 rfl rfl ?_
  refine j_newI (len := 6) (bc := 1) (bs := 61) dX1_init_7 rfl rfl (by decide) jvw_int (by decide) rfl (by decide) rfl rfl ?_
  show Rj _ _ _ _ _ _ 9 [.ref 26] [.ref 27, .ref 26] 28 (ur (ur I 26 (fun _ => 0)) 27 (fun _ => 0)) (ur (ur J 26 (fun _ => 0)) 27 (fun _ => 0)) (ur (ur P 26 (fun _ => none)) 27 (fun _ => none))
  refine j_putP dX1_init_9 rfl fX1_9 rfl (by decide) (by decide) rfl (Or.inr ⟨rfl, rfl⟩) ?_
  refine j_aload_n dX1_init_12 rfl rfl rfl ?_
  refine j_bipush (v := nI 61) dX1_init_13 rfl rfl ?_
  refine j_newL (len := 61) (bc := 0) (bs := 0) dX1_init_15 rfl rfl (by decide) jvw_long (by decide) rfl (by decide) rfl rfl ?_
  show Rj _ _ _ _ _ _ 17 [.ref 26] [.ref 28, .ref 26] 29 (ur (ur (ur I 26 (fun _ => 0)) 27 (fun _ => 0)) 28 (fun _ => 0)) (ur (ur (ur J 26 (fun _ => 0)) 27 (fun _ => 0)) 28 (fun _ => 0)) (ur (u2 (ur (ur P 26 (fun _ => none)) 27 (fun _ => none)) 26 0 (some 27)) 28 (fun _ => none))
  refine j_putP dX1_init_17 rfl fX1_15 rfl (by decide) (by decide) rfl (Or.inr ⟨rfl, rfl⟩) ?_
  refine j_aload_n dX1_init_20 rfl rfl rfl ?_
  refine j_iconst (v := (-1)) dX1_init_21 rfl rfl ?_
  refine j_putI dX1_init_22 rfl fX1_19 rfl (by decide) rfl rfl ?_
  refine j_aload_n dX1_init_25 rfl rfl rfl ?_
  refine j_iconst (v := (-1)) dX1_init_26 rfl rfl ?_
  refine j_putI dX1_init_27 rfl fX1_23 rfl (by decide) rfl rfl ?_
  refine j_heap (I' := u2 (u2 (IZ 26 I) 26 2 (-1)) 26 3 (-1)) (J' := JZ 26 J) (P' := PZ 26 P) (fun a ha => ?_) (fun a ha => ?_) (fun a ha => ?_) ?_
  · rcases (show a < 26 ∨ a = 26 ∨ a = 27 ∨ a = 28 by omega) with h | rfl | rfl | rfl
    · funext k
      simp [IZ, ur, u2, h, show a ≠ 26 by omega, show a ≠ 27 by omega, show a ≠ 28 by omega]
    all_goals (funext k; simp [IZ, ur, u2, nI_0])
  · rcases (show a < 26 ∨ a = 26 ∨ a = 27 ∨ a = 28 by omega) with h | rfl | rfl | rfl
    · funext k
      simp [JZ, ur, u2, h, show a ≠ 26 by omega, show a ≠ 27 by omega, show a ≠ 28 by omega]
    all_goals (funext k; simp [JZ, ur, u2, show lN 0 = (0 : Int64) from rfl])
  · rcases (show a < 26 ∨ a = 26 ∨ a = 27 ∨ a = 28 by omega) with h | rfl | rfl | rfl
    · funext k
      simp [PZ, ur, u2, h, show a ≠ 26 by omega, show a ≠ 27 by omega, show a ≠ 28 by omega]
    all_goals (funext k; rcases k with _ | _ | _ | _ | _ | _ | _ | _ | _ | _ | _ | _ | _ | _ | _ | k <;> rfl)
  refine j_vret dX1_init_30 rfl ?_
  exact hQ
set_option maxHeartbeats 4000000 in
set_option maxRecDepth 100000 in
theorem c_ginit {X : jX} {d : Nat} {I : HI} {J : HJ} {P : HP} {Q : jPost} (hQ : Q none 30 (u2 (u2 (u2 (IZ 29 I) 29 2 (-1)) 29 3 (-1)) 29 4 (-1)) (JZ 29 J) (PZ 29 P)) : Cj X (d + 1) 0 0 mX3_init [.ref 29] 30 (ur I 29 (fun _ => 0)) (ur J 29 (fun _ => 0)) (ur P 29 (fun _ => none)) Q := by
  refine Cj.intro rfl (Nat.le_of_ble_eq_true rfl) (L := [.ref 29]) rfl ?_
  refine j_aload_n dX3_init_0 rfl rfl rfl ?_
  refine j_objInit dX3_init_1 rfl cX3_3 jvw_oi jvw_oc (by decide) ?_
  refine j_aload_n dX3_init_4 rfl rfl rfl ?_
  refine j_iconst (v := nI 0) dX3_init_5 rfl rfl ?_
  refine j_putI dX3_init_6 rfl fX3_9 rfl (by decide) rfl rfl ?_
  refine j_aload_n dX3_init_9 rfl rfl rfl ?_
  refine j_iconst (v := nI 0) dX3_init_10 rfl rfl ?_
  refine j_putI dX3_init_11 rfl fX3_15 rfl (by decide) rfl rfl ?_
  refine j_aload_n dX3_init_14 rfl rfl rfl ?_
  refine j_iconst (v := (-1)) dX3_init_15 rfl rfl ?_
  refine j_putI dX3_init_16 rfl fX3_18 rfl (by decide) rfl rfl ?_
  refine j_aload_n dX3_init_19 rfl rfl rfl ?_
  refine j_iconst (v := (-1)) dX3_init_20 rfl rfl ?_
  refine j_putI dX3_init_21 rfl fX3_21 rfl (by decide) rfl rfl ?_
  refine j_aload_n dX3_init_24 rfl rfl rfl ?_
  refine j_iconst (v := (-1)) dX3_init_25 rfl rfl ?_
  refine j_putI dX3_init_26 rfl fX3_24 rfl (by decide) rfl rfl ?_
  refine j_heap (I' := u2 (u2 (u2 (IZ 29 I) 29 2 (-1)) 29 3 (-1)) 29 4 (-1)) (J' := JZ 29 J) (P' := PZ 29 P) (fun a ha => ?_) (fun a ha => ?_) (fun a ha => ?_) ?_
  · rcases (show a < 29 ∨ a = 29 by omega) with h | rfl
    · funext k
      simp [IZ, ur, u2, h, show a ≠ 29 by omega]
    all_goals (funext k; simp [IZ, ur, u2, nI_0])
  · rcases (show a < 29 ∨ a = 29 by omega) with h | rfl
    · funext k
      simp [JZ, ur, u2, h, show a ≠ 29 by omega]
    all_goals (funext k; simp [JZ, ur, u2, show lN 0 = (0 : Int64) from rfl])
  · rcases (show a < 29 ∨ a = 29 by omega) with h | rfl
    · funext k
      simp [PZ, ur, u2, h, show a ≠ 29 by omega]
    all_goals (funext k; rcases k with _ | _ | _ | _ | _ | _ | _ | _ | _ | _ | _ | _ | _ | _ | _ | k <;> rfl)
  refine j_vret dX3_init_29 rfl ?_
  exact hQ
set_option maxHeartbeats 4000000 in
set_option maxRecDepth 100000 in
theorem c_sinit {X : jX} {d : Nat} {I : HI} {J : HJ} {P : HP} {Q : jPost} (hQ : Q none 32 (IZ 30 I) (JZ 30 J) (PZ 30 P)) : Cj X (d + 1) 1 6 mX7_init [.ref 30] 31 (ur I 30 (fun _ => 0)) (ur J 30 (fun _ => 0)) (ur P 30 (fun _ => none)) Q := by
  refine Cj.intro rfl (Nat.le_of_ble_eq_true rfl) (L := [.ref 30]) rfl ?_
  refine j_aload_n dX7_init_0 rfl rfl rfl ?_
  refine j_objInit dX7_init_1 rfl cX7_3 jvw_oi jvw_oc (by decide) ?_
  refine j_aload_n dX7_init_4 rfl rfl rfl ?_
  refine j_bipush (v := nI 6) dX7_init_5 rfl rfl ?_
  refine j_newI (len := 6) (bc := 0) (bs := 0) dX7_init_7 rfl rfl (by decide) jvw_int (by decide) rfl (by decide) rfl rfl ?_
  show Rj _ _ _ _ _ _ 9 [.ref 30] [.ref 31, .ref 30] 32 (ur (ur I 30 (fun _ => 0)) 31 (fun _ => 0)) (ur (ur J 30 (fun _ => 0)) 31 (fun _ => 0)) (ur (ur P 30 (fun _ => none)) 31 (fun _ => none))
  refine j_putP dX7_init_9 rfl fX7_9 rfl (by decide) (by decide) rfl (Or.inr ⟨rfl, rfl⟩) ?_
  refine j_heap (I' := IZ 30 I) (J' := JZ 30 J) (P' := PZ 30 P) (fun a ha => ?_) (fun a ha => ?_) (fun a ha => ?_) ?_
  · rcases (show a < 30 ∨ a = 30 ∨ a = 31 by omega) with h | rfl | rfl
    · funext k
      simp [IZ, ur, u2, h, show a ≠ 30 by omega, show a ≠ 31 by omega]
    all_goals (funext k; simp [IZ, ur, u2, nI_0])
  · rcases (show a < 30 ∨ a = 30 ∨ a = 31 by omega) with h | rfl | rfl
    · funext k
      simp [JZ, ur, u2, h, show a ≠ 30 by omega, show a ≠ 31 by omega]
    all_goals (funext k; simp [JZ, ur, u2, show lN 0 = (0 : Int64) from rfl])
  · rcases (show a < 30 ∨ a = 30 ∨ a = 31 by omega) with h | rfl | rfl
    · funext k
      simp [PZ, ur, u2, h, show a ≠ 30 by omega, show a ≠ 31 by omega]
    all_goals (funext k; rcases k with _ | _ | _ | _ | _ | _ | _ | _ | _ | _ | _ | _ | _ | _ | _ | k <;> rfl)
  refine j_vret dX7_init_12 rfl ?_
  exact hQ
set_option maxHeartbeats 4000000 in
set_option maxRecDepth 100000 in
theorem c_frinit {X : jX} {d : Nat} {I : HI} {J : HJ} {P : HP} {Q : jPost} (hQ : Q none 33 (IZ 32 I) (u2 (JZ 32 J) 32 1 (lN 1)) (PZ 32 P)) : Cj X (d + 1) 0 0 mX2_init [.ref 32] 33 (ur I 32 (fun _ => 0)) (ur J 32 (fun _ => 0)) (ur P 32 (fun _ => none)) Q := by
  refine Cj.intro rfl (Nat.le_of_ble_eq_true rfl) (L := [.ref 32]) rfl ?_
  refine j_aload_n dX2_init_0 rfl rfl rfl ?_
  refine j_objInit dX2_init_1 rfl cX2_1 jvw_oi jvw_oc (by decide) ?_
  refine j_aload_n dX2_init_4 rfl rfl rfl ?_
  refine j_lconst (v := lN 0) dX2_init_5 rfl rfl ?_
  refine j_putJ dX2_init_6 rfl fX2_7 rfl (by decide) rfl rfl ?_
  refine j_aload_n dX2_init_9 rfl rfl rfl ?_
  refine j_lconst (v := lN 1) dX2_init_10 rfl rfl ?_
  refine j_putJ dX2_init_11 rfl fX2_13 rfl (by decide) rfl rfl ?_
  refine j_heap (I' := IZ 32 I) (J' := u2 (JZ 32 J) 32 1 (lN 1)) (P' := PZ 32 P) (fun a ha => ?_) (fun a ha => ?_) (fun a ha => ?_) ?_
  · rcases (show a < 32 ∨ a = 32 by omega) with h | rfl
    · funext k
      simp [IZ, ur, u2, h, show a ≠ 32 by omega]
    all_goals (funext k; simp [IZ, ur, u2, nI_0])
  · rcases (show a < 32 ∨ a = 32 by omega) with h | rfl
    · funext k
      simp [JZ, ur, u2, h, show a ≠ 32 by omega]
    all_goals (funext k; simp [JZ, ur, u2, show lN 0 = (0 : Int64) from rfl])
  · rcases (show a < 32 ∨ a = 32 by omega) with h | rfl
    · funext k
      simp [PZ, ur, u2, h, show a ≠ 32 by omega]
    all_goals (funext k; rcases k with _ | _ | _ | _ | _ | _ | _ | _ | _ | _ | _ | _ | _ | _ | _ | k <;> rfl)
  refine j_vret dX2_init_14 rfl ?_
  exact hQ
