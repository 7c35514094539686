/-- the class's cells, new -/
def I9 : HI := u2 (u2 (u2 (u2 (u2 (fun _ _ => 0) 26 2 (-1)) 26 3 (-1)) 29 2 (-1)) 29 3 (-1)) 29 4 (-1)
def J9 : HJ := u2 (fun _ _ => 0) 32 1 (lN 1)
set_option maxHeartbeats 4000000 in
set_option maxRecDepth 100000 in
theorem c_init9 {X : jX} {d : Nat} {Q : jPost} (hQ : Q none 33 I9 J9 (Pg none none)) : Cj X (d + 4) 32 600 mX9_init [.ref 0] 1 (ur (fun _ _ => 0) 0 (fun _ => 0)) (ur (fun _ _ => 0) 0 (fun _ => 0)) (ur (fun _ _ => none) 0 (fun _ => none)) Q := by
  refine Cj.intro rfl (Nat.le_of_ble_eq_true rfl) (L := [.ref 0]) rfl ?_
  refine j_aload_n dX9_init_0 rfl rfl rfl ?_
  refine j_objInit dX9_init_1 rfl cX9_1 jvw_oi jvw_oc (by decide) ?_
  refine j_aload_n dX9_init_4 rfl rfl rfl ?_
  refine j_new (ci := 6) (bc := 31) (bs := 585) dX9_init_5 rfl (by decide) rfl (by decide) nX9_7 insX8 iniX8 rfl rfl ?_
  show Rj _ _ _ _ _ _ 8 [.ref 0] [.ref 1, .ref 0] 2 (ur (ur (fun _ _ => 0) 0 (fun _ => 0)) 1 (fun _ => 0)) (ur (ur (fun _ _ => 0) 0 (fun _ => 0)) 1 (fun _ => 0)) (ur (ur (fun _ _ => none) 0 (fun _ => none)) 1 (fun _ => none))
  refine j_dup dX9_init_8 rfl rfl ?_
  refine j_callINw (As := []) dX9_init_9 rfl cX9_9 rfl (by decide) rfl rfl (c_vinit1 ?_)
  show Rj _ _ _ _ _ _ 12 [.ref 0] [.ref 1, .ref 0] 12 (IZ 1 (ur (fun _ _ => 0) 0 (fun _ => 0))) (JZ 1 (ur (fun _ _ => 0) 0 (fun _ => 0))) (PZ 1 (ur (fun _ _ => none) 0 (fun _ => none)))
  refine j_putP dX9_init_12 rfl fX9_10 rfl (by decide) (by decide) rfl (Or.inr ⟨rfl, rfl⟩) ?_
  refine j_aload_n dX9_init_15 rfl rfl rfl ?_
  refine j_iconst (v := nI 2) dX9_init_16 rfl rfl ?_
  refine j_newP (len := 2) (bc := 20) (bs := 420) dX9_init_17 rfl rfl (by decide) nX9_7 (by decide) rfl (by decide) rfl rfl ?_
  show Rj _ _ _ _ _ _ 20 [.ref 0] [.ref 12, .ref 0] 13 (ur (IZ 1 (ur (fun _ _ => 0) 0 (fun _ => 0))) 12 (fun _ => 0)) (ur (JZ 1 (ur (fun _ _ => 0) 0 (fun _ => 0))) 12 (fun _ => 0)) (ur (u2 (PZ 1 (ur (fun _ _ => none) 0 (fun _ => none))) 0 0 (some 1)) 12 (fun _ => none))
  refine j_putP dX9_init_20 rfl fX9_16 rfl (by decide) (by decide) rfl (Or.inr ⟨rfl, rfl⟩) ?_
  refine j_aload_n dX9_init_23 rfl rfl rfl ?_
  refine j_new (ci := 4) (bc := 19) (bs := 413) dX9_init_24 rfl (by decide) rfl (by decide) nX9_20 insX6 iniX6 rfl rfl ?_
  show Rj _ _ _ _ _ _ 27 [.ref 0] [.ref 13, .ref 0] 14 (ur (ur (IZ 1 (ur (fun _ _ => 0) 0 (fun _ => 0))) 12 (fun _ => 0)) 13 (fun _ => 0)) (ur (ur (JZ 1 (ur (fun _ _ => 0) 0 (fun _ => 0))) 12 (fun _ => 0)) 13 (fun _ => 0)) (ur (u2 (ur (u2 (PZ 1 (ur (fun _ _ => none) 0 (fun _ => none))) 0 0 (some 1)) 12 (fun _ => none)) 0 1 (some 12)) 13 (fun _ => none))
  refine j_dup dX9_init_27 rfl rfl ?_
  refine j_callINw (As := []) dX9_init_28 rfl cX9_22 rfl (by decide) rfl rfl (c_rinit ?_)
  show Rj _ _ _ _ _ _ 31 [.ref 0] [.ref 13, .ref 0] 26 (IZ 13 (ur (IZ 1 (ur (fun _ _ => 0) 0 (fun _ => 0))) 12 (fun _ => 0))) (JZ 13 (ur (JZ 1 (ur (fun _ _ => 0) 0 (fun _ => 0))) 12 (fun _ => 0))) (PZ 13 (u2 (ur (u2 (PZ 1 (ur (fun _ _ => none) 0 (fun _ => none))) 0 0 (some 1)) 12 (fun _ => none)) 0 1 (some 12)))
  refine j_putP dX9_init_31 rfl fX9_23 rfl (by decide) (by decide) rfl (Or.inr ⟨rfl, rfl⟩) ?_
  refine j_aload_n dX9_init_34 rfl rfl rfl ?_
  refine j_new (ci := 0) (bc := 6) (bs := 81) dX9_init_35 rfl (by decide) rfl (by decide) nX9_27 insX1 iniX1 rfl rfl ?_
  show Rj _ _ _ _ _ _ 38 [.ref 0] [.ref 26, .ref 0] 27 (ur (IZ 13 (ur (IZ 1 (ur (fun _ _ => 0) 0 (fun _ => 0))) 12 (fun _ => 0))) 26 (fun _ => 0)) (ur (JZ 13 (ur (JZ 1 (ur (fun _ _ => 0) 0 (fun _ => 0))) 12 (fun _ => 0))) 26 (fun _ => 0)) (ur (u2 (PZ 13 (u2 (ur (u2 (PZ 1 (ur (fun _ _ => none) 0 (fun _ => none))) 0 0 (some 1)) 12 (fun _ => none)) 0 1 (some 12))) 0 2 (some 13)) 26 (fun _ => none))
  refine j_dup dX9_init_38 rfl rfl ?_
  refine j_callINw (As := []) dX9_init_39 rfl cX9_29 rfl (by decide) rfl rfl (c_finit ?_)
  show Rj _ _ _ _ _ _ 42 [.ref 0] [.ref 26, .ref 0] 29 (u2 (u2 (IZ 26 (IZ 13 (ur (IZ 1 (ur (fun _ _ => 0) 0 (fun _ => 0))) 12 (fun _ => 0)))) 26 2 (-1)) 26 3 (-1)) (JZ 26 (JZ 13 (ur (JZ 1 (ur (fun _ _ => 0) 0 (fun _ => 0))) 12 (fun _ => 0)))) (PZ 26 (u2 (PZ 13 (u2 (ur (u2 (PZ 1 (ur (fun _ _ => none) 0 (fun _ => none))) 0 0 (some 1)) 12 (fun _ => none)) 0 1 (some 12))) 0 2 (some 13)))
  refine j_putP dX9_init_42 rfl fX9_30 rfl (by decide) (by decide) rfl (Or.inr ⟨rfl, rfl⟩) ?_
  refine j_aload_n dX9_init_45 rfl rfl rfl ?_
  refine j_new (ci := 2) (bc := 3) (bs := 9) dX9_init_46 rfl (by decide) rfl (by decide) nX9_34 insX3 iniX3 rfl rfl ?_
  show Rj _ _ _ _ _ _ 49 [.ref 0] [.ref 29, .ref 0] 30 (ur (u2 (u2 (IZ 26 (IZ 13 (ur (IZ 1 (ur (fun _ _ => 0) 0 (fun _ => 0))) 12 (fun _ => 0)))) 26 2 (-1)) 26 3 (-1)) 29 (fun _ => 0)) (ur (JZ 26 (JZ 13 (ur (JZ 1 (ur (fun _ _ => 0) 0 (fun _ => 0))) 12 (fun _ => 0)))) 29 (fun _ => 0)) (ur (u2 (PZ 26 (u2 (PZ 13 (u2 (ur (u2 (PZ 1 (ur (fun _ _ => none) 0 (fun _ => none))) 0 0 (some 1)) 12 (fun _ => none)) 0 1 (some 12))) 0 2 (some 13))) 0 3 (some 26)) 29 (fun _ => none))
  refine j_dup dX9_init_49 rfl rfl ?_
  refine j_callINw (As := []) dX9_init_50 rfl cX9_36 rfl (by decide) rfl rfl (c_ginit ?_)
  show Rj _ _ _ _ _ _ 53 [.ref 0] [.ref 29, .ref 0] 30 (u2 (u2 (u2 (IZ 29 (u2 (u2 (IZ 26 (IZ 13 (ur (IZ 1 (ur (fun _ _ => 0) 0 (fun _ => 0))) 12 (fun _ => 0)))) 26 2 (-1)) 26 3 (-1))) 29 2 (-1)) 29 3 (-1)) 29 4 (-1)) (JZ 29 (JZ 26 (JZ 13 (ur (JZ 1 (ur (fun _ _ => 0) 0 (fun _ => 0))) 12 (fun _ => 0))))) (PZ 29 (u2 (PZ 26 (u2 (PZ 13 (u2 (ur (u2 (PZ 1 (ur (fun _ _ => none) 0 (fun _ => none))) 0 0 (some 1)) 12 (fun _ => none)) 0 1 (some 12))) 0 2 (some 13))) 0 3 (some 26)))
  refine j_putP dX9_init_53 rfl fX9_37 rfl (by decide) (by decide) rfl (Or.inr ⟨rfl, rfl⟩) ?_
  refine j_aload_n dX9_init_56 rfl rfl rfl ?_
  refine j_new (ci := 5) (bc := 2) (bs := 8) dX9_init_57 rfl (by decide) rfl (by decide) nX9_41 insX7 iniX7 rfl rfl ?_
  show Rj _ _ _ _ _ _ 60 [.ref 0] [.ref 30, .ref 0] 31 (ur (u2 (u2 (u2 (IZ 29 (u2 (u2 (IZ 26 (IZ 13 (ur (IZ 1 (ur (fun _ _ => 0) 0 (fun _ => 0))) 12 (fun _ => 0)))) 26 2 (-1)) 26 3 (-1))) 29 2 (-1)) 29 3 (-1)) 29 4 (-1)) 30 (fun _ => 0)) (ur (JZ 29 (JZ 26 (JZ 13 (ur (JZ 1 (ur (fun _ _ => 0) 0 (fun _ => 0))) 12 (fun _ => 0))))) 30 (fun _ => 0)) (ur (u2 (PZ 29 (u2 (PZ 26 (u2 (PZ 13 (u2 (ur (u2 (PZ 1 (ur (fun _ _ => none) 0 (fun _ => none))) 0 0 (some 1)) 12 (fun _ => none)) 0 1 (some 12))) 0 2 (some 13))) 0 3 (some 26))) 0 4 (some 29)) 30 (fun _ => none))
  refine j_dup dX9_init_60 rfl rfl ?_
  refine j_callINw (As := []) dX9_init_61 rfl cX9_43 rfl (by decide) rfl rfl (c_sinit ?_)
  show Rj _ _ _ _ _ _ 64 [.ref 0] [.ref 30, .ref 0] 32 (IZ 30 (u2 (u2 (u2 (IZ 29 (u2 (u2 (IZ 26 (IZ 13 (ur (IZ 1 (ur (fun _ _ => 0) 0 (fun _ => 0))) 12 (fun _ => 0)))) 26 2 (-1)) 26 3 (-1))) 29 2 (-1)) 29 3 (-1)) 29 4 (-1))) (JZ 30 (JZ 29 (JZ 26 (JZ 13 (ur (JZ 1 (ur (fun _ _ => 0) 0 (fun _ => 0))) 12 (fun _ => 0)))))) (PZ 30 (u2 (PZ 29 (u2 (PZ 26 (u2 (PZ 13 (u2 (ur (u2 (PZ 1 (ur (fun _ _ => none) 0 (fun _ => none))) 0 0 (some 1)) 12 (fun _ => none)) 0 1 (some 12))) 0 2 (some 13))) 0 3 (some 26))) 0 4 (some 29)))
  refine j_putP dX9_init_64 rfl fX9_44 rfl (by decide) (by decide) rfl (Or.inr ⟨rfl, rfl⟩) ?_
  refine j_aload_n dX9_init_67 rfl rfl rfl ?_
  refine j_new (ci := 1) (bc := 0) (bs := 0) dX9_init_68 rfl (by decide) rfl (by decide) nX9_48 insX2 iniX2 rfl rfl ?_
  show Rj _ _ _ _ _ _ 71 [.ref 0] [.ref 32, .ref 0] 33 (ur (IZ 30 (u2 (u2 (u2 (IZ 29 (u2 (u2 (IZ 26 (IZ 13 (ur (IZ 1 (ur (fun _ _ => 0) 0 (fun _ => 0))) 12 (fun _ => 0)))) 26 2 (-1)) 26 3 (-1))) 29 2 (-1)) 29 3 (-1)) 29 4 (-1))) 32 (fun _ => 0)) (ur (JZ 30 (JZ 29 (JZ 26 (JZ 13 (ur (JZ 1 (ur (fun _ _ => 0) 0 (fun _ => 0))) 12 (fun _ => 0)))))) 32 (fun _ => 0)) (ur (u2 (PZ 30 (u2 (PZ 29 (u2 (PZ 26 (u2 (PZ 13 (u2 (ur (u2 (PZ 1 (ur (fun _ _ => none) 0 (fun _ => none))) 0 0 (some 1)) 12 (fun _ => none)) 0 1 (some 12))) 0 2 (some 13))) 0 3 (some 26))) 0 4 (some 29))) 0 5 (some 30)) 32 (fun _ => none))
  refine j_dup dX9_init_71 rfl rfl ?_
  refine j_callINw (As := []) dX9_init_72 rfl cX9_50 rfl (by decide) rfl rfl (c_frinit ?_)
  show Rj _ _ _ _ _ _ 75 [.ref 0] [.ref 32, .ref 0] 33 (IZ 32 (IZ 30 (u2 (u2 (u2 (IZ 29 (u2 (u2 (IZ 26 (IZ 13 (ur (IZ 1 (ur (fun _ _ => 0) 0 (fun _ => 0))) 12 (fun _ => 0)))) 26 2 (-1)) 26 3 (-1))) 29 2 (-1)) 29 3 (-1)) 29 4 (-1)))) (u2 (JZ 32 (JZ 30 (JZ 29 (JZ 26 (JZ 13 (ur (JZ 1 (ur (fun _ _ => 0) 0 (fun _ => 0))) 12 (fun _ => 0))))))) 32 1 (lN 1)) (PZ 32 (u2 (PZ 30 (u2 (PZ 29 (u2 (PZ 26 (u2 (PZ 13 (u2 (ur (u2 (PZ 1 (ur (fun _ _ => none) 0 (fun _ => none))) 0 0 (some 1)) 12 (fun _ => none)) 0 1 (some 12))) 0 2 (some 13))) 0 3 (some 26))) 0 4 (some 29))) 0 5 (some 30)))
  refine j_putP dX9_init_75 rfl fX9_51 rfl (by decide) (by decide) rfl (Or.inr ⟨rfl, rfl⟩) ?_
  refine j_aload_n dX9_init_78 rfl rfl rfl ?_
  refine j_iconst (v := nI 0) dX9_init_79 rfl rfl ?_
  refine j_putI dX9_init_80 rfl fX9_55 rfl (by decide) rfl rfl ?_
  refine j_aload_n dX9_init_83 rfl rfl rfl ?_
  refine j_iconst (v := nI 0) dX9_init_84 rfl rfl ?_
  refine j_putI dX9_init_85 rfl fX9_59 rfl (by decide) rfl rfl ?_
  refine j_aload_n dX9_init_88 rfl rfl rfl ?_
  refine j_iconst (v := nI 0) dX9_init_89 rfl rfl ?_
  refine j_putI dX9_init_90 rfl fX9_62 rfl (by decide) rfl rfl ?_
  refine j_heap (I' := I9) (J' := J9) (P' := Pg none none) (fun a ha => ?_) (fun a ha => ?_) (fun a ha => ?_) ?_
  · rcases (show a = 0 ∨ a = 1 ∨ a = 2 ∨ a = 3 ∨ a = 4 ∨ a = 5 ∨ a = 6 ∨ a = 7 ∨ a = 8 ∨ a = 9 ∨ a = 10 ∨ a = 11 ∨ a = 12 ∨ a = 13 ∨ a = 14 ∨ a = 15 ∨ a = 16 ∨ a = 17 ∨ a = 18 ∨ a = 19 ∨ a = 20 ∨ a = 21 ∨ a = 22 ∨ a = 23 ∨ a = 24 ∨ a = 25 ∨ a = 26 ∨ a = 27 ∨ a = 28 ∨ a = 29 ∨ a = 30 ∨ a = 31 ∨ a = 32 by omega) with rfl | rfl | rfl | rfl | rfl | rfl | rfl | rfl | rfl | rfl | rfl | rfl | rfl | rfl | rfl | rfl | rfl | rfl | rfl | rfl | rfl | rfl | rfl | rfl | rfl | rfl | rfl | rfl | rfl | rfl | rfl | rfl | rfl
    all_goals (funext k; simp [I9, IZ, ur, u2, nI_0])
  · rcases (show a = 0 ∨ a = 1 ∨ a = 2 ∨ a = 3 ∨ a = 4 ∨ a = 5 ∨ a = 6 ∨ a = 7 ∨ a = 8 ∨ a = 9 ∨ a = 10 ∨ a = 11 ∨ a = 12 ∨ a = 13 ∨ a = 14 ∨ a = 15 ∨ a = 16 ∨ a = 17 ∨ a = 18 ∨ a = 19 ∨ a = 20 ∨ a = 21 ∨ a = 22 ∨ a = 23 ∨ a = 24 ∨ a = 25 ∨ a = 26 ∨ a = 27 ∨ a = 28 ∨ a = 29 ∨ a = 30 ∨ a = 31 ∨ a = 32 by omega) with rfl | rfl | rfl | rfl | rfl | rfl | rfl | rfl | rfl | rfl | rfl | rfl | rfl | rfl | rfl | rfl | rfl | rfl | rfl | rfl | rfl | rfl | rfl | rfl | rfl | rfl | rfl | rfl | rfl | rfl | rfl | rfl | rfl
    all_goals (funext k; simp [J9, JZ, ur, u2])
  · rcases (show a = 0 ∨ a = 1 ∨ a = 2 ∨ a = 3 ∨ a = 4 ∨ a = 5 ∨ a = 6 ∨ a = 7 ∨ a = 8 ∨ a = 9 ∨ a = 10 ∨ a = 11 ∨ a = 12 ∨ a = 13 ∨ a = 14 ∨ a = 15 ∨ a = 16 ∨ a = 17 ∨ a = 18 ∨ a = 19 ∨ a = 20 ∨ a = 21 ∨ a = 22 ∨ a = 23 ∨ a = 24 ∨ a = 25 ∨ a = 26 ∨ a = 27 ∨ a = 28 ∨ a = 29 ∨ a = 30 ∨ a = 31 ∨ a = 32 by omega) with rfl | rfl | rfl | rfl | rfl | rfl | rfl | rfl | rfl | rfl | rfl | rfl | rfl | rfl | rfl | rfl | rfl | rfl | rfl | rfl | rfl | rfl | rfl | rfl | rfl | rfl | rfl | rfl | rfl | rfl | rfl | rfl | rfl
    all_goals (funext k; rcases k with _ | _ | _ | _ | _ | _ | _ | _ | _ | _ | _ | _ | _ | _ | _ | k <;> rfl)
  refine j_vret dX9_init_93 rfl ?_
  exact hQ
