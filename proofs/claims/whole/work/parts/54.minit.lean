set_option maxHeartbeats 4000000 in
set_option maxRecDepth 100000 in
theorem c_lay34 {X : jX} {d n : Nat} {I : HI} {J : HJ} {P : HP} {Q : jPost}  (hQ : ∀ g, (∀ k, k < 167 → g k = 0) → (∀ k, 167 ≤ k → g k = I 34 k) → Q none n (ur I 34 g) J P) : Cj X d 0 0 mX10_layFirst [.ref 34] n I J P Q := by
  refine Cj.intro rfl (Nat.le_of_ble_eq_true rfl) (L := [.ref 34, jU]) rfl ?_
  have loop : ∀ (r q : Nat) (g : Nat → Int32), q + r = 167 → (∀ k, k < q → g k = 0) → (∀ k, 167 ≤ k → g k = I 34 k) → Rj X d 0 0 mX10_layFirst Q 2 [.ref 34, .int (nI q)] [] n (ur I 34 g) J P := by
    intro r
    induction r with
    | zero =>
      intro q g hqr h0 hh
      refine j_iload_n dX10_layFirst_2 rfl rfl rfl ?_
      refine j_sipush (v := nI 167) dX10_layFirst_3 rfl rfl ?_
      refine j_icmpgeN (tgt := 19) dX10_layFirst_6 rfl rfl (by omega) (by decide) (fun h1 => ?_) (fun h1 => by exfalso; omega)
      refine j_vret dX10_layFirst_19 rfl ?_
      exact hQ _ (fun k hk => h0 k (by omega)) hh
    | succ r ih =>
      intro q g hqr h0 hh
      refine j_iload_n dX10_layFirst_2 rfl rfl rfl ?_
      refine j_sipush (v := nI 167) dX10_layFirst_3 rfl rfl ?_
      refine j_icmpgeN (tgt := 19) dX10_layFirst_6 rfl rfl (by omega) (by decide) (fun h1 => by exfalso; omega) (fun h1 => ?_)
      refine j_aload_n dX10_layFirst_9 rfl rfl rfl ?_
      refine j_iload_n dX10_layFirst_10 rfl rfl rfl ?_
      refine j_iconst (v := nI 0) dX10_layFirst_11 rfl rfl ?_
      refine j_iast (j := q) dX10_layFirst_12 rfl rfl (by decide) rfl (by omega) (by decide) ?_
      refine j_iincN (L' := [.ref 34, .int (nI (q + 1))]) dX10_layFirst_13 rfl rfl (b := 1) rfl rfl rfl (by decide) rfl ?_
      refine j_goto (tgt := 2) dX10_layFirst_16 rfl ?_
      rw [u2_ur]
      refine ih (q + 1) _ (by omega) (fun k hk => ?_) (fun k hk => ?_)
      · by_cases e : k = q
        · simp [e, nI_0]
        · simp only [if_neg e]; exact h0 k (by omega)
      · simp only [if_neg (show ¬ k = q by omega)]; exact hh k hk
  refine j_iconst (v := nI 0) dX10_layFirst_0 rfl rfl ?_
  refine j_istore_n (L' := [.ref 34, .int (nI 0)]) dX10_layFirst_1 rfl rfl rfl (by decide) rfl ?_
  rw [← ur_self I 34]
  exact loop 167 0 _ (by omega) (fun k hk => absurd hk (Nat.not_lt_zero _)) (fun k hk => rfl)
set_option maxHeartbeats 4000000 in
set_option maxRecDepth 100000 in
theorem c_lay35 {X : jX} {d n : Nat} {I : HI} {J : HJ} {P : HP} {Q : jPost}  (hQ : ∀ g, (∀ k, k < 167 → g k = 0) → (∀ k, 167 ≤ k → g k = I 35 k) → Q none n (ur I 35 g) J P) : Cj X d 0 0 mX10_layFirst [.ref 35] n I J P Q := by
  refine Cj.intro rfl (Nat.le_of_ble_eq_true rfl) (L := [.ref 35, jU]) rfl ?_
  have loop : ∀ (r q : Nat) (g : Nat → Int32), q + r = 167 → (∀ k, k < q → g k = 0) → (∀ k, 167 ≤ k → g k = I 35 k) → Rj X d 0 0 mX10_layFirst Q 2 [.ref 35, .int (nI q)] [] n (ur I 35 g) J P := by
    intro r
    induction r with
    | zero =>
      intro q g hqr h0 hh
      refine j_iload_n dX10_layFirst_2 rfl rfl rfl ?_
      refine j_sipush (v := nI 167) dX10_layFirst_3 rfl rfl ?_
      refine j_icmpgeN (tgt := 19) dX10_layFirst_6 rfl rfl (by omega) (by decide) (fun h1 => ?_) (fun h1 => by exfalso; omega)
      refine j_vret dX10_layFirst_19 rfl ?_
      exact hQ _ (fun k hk => h0 k (by omega)) hh
    | succ r ih =>
      intro q g hqr h0 hh
      refine j_iload_n dX10_layFirst_2 rfl rfl rfl ?_
      refine j_sipush (v := nI 167) dX10_layFirst_3 rfl rfl ?_
      refine j_icmpgeN (tgt := 19) dX10_layFirst_6 rfl rfl (by omega) (by decide) (fun h1 => by exfalso; omega) (fun h1 => ?_)
      refine j_aload_n dX10_layFirst_9 rfl rfl rfl ?_
      refine j_iload_n dX10_layFirst_10 rfl rfl rfl ?_
      refine j_iconst (v := nI 0) dX10_layFirst_11 rfl rfl ?_
      refine j_iast (j := q) dX10_layFirst_12 rfl rfl (by decide) rfl (by omega) (by decide) ?_
      refine j_iincN (L' := [.ref 35, .int (nI (q + 1))]) dX10_layFirst_13 rfl rfl (b := 1) rfl rfl rfl (by decide) rfl ?_
      refine j_goto (tgt := 2) dX10_layFirst_16 rfl ?_
      rw [u2_ur]
      refine ih (q + 1) _ (by omega) (fun k hk => ?_) (fun k hk => ?_)
      · by_cases e : k = q
        · simp [e, nI_0]
        · simp only [if_neg e]; exact h0 k (by omega)
      · simp only [if_neg (show ¬ k = q by omega)]; exact hh k hk
  refine j_iconst (v := nI 0) dX10_layFirst_0 rfl rfl ?_
  refine j_istore_n (L' := [.ref 35, .int (nI 0)]) dX10_layFirst_1 rfl rfl rfl (by decide) rfl ?_
  rw [← ur_self I 35]
  exact loop 167 0 _ (by omega) (fun k hk => absurd hk (Nat.not_lt_zero _)) (fun k hk => rfl)
def J10 : HJ := u2 J9 33 13 (lN 1)
set_option maxHeartbeats 4000000 in
set_option maxRecDepth 100000 in
theorem c_init10 {X : jX} {d : Nat} {Q : jPost} (hQ : Q none 44 I9 J10 (Pg none none)) : Cj X (d + 1) 10 966 mX10_init [.ref 33] 34 (ur I9 33 (fun _ => 0)) (ur J9 33 (fun _ => 0)) (ur (Pg none none) 33 (fun _ => none)) Q := by
  refine Cj.intro rfl (Nat.le_of_ble_eq_true rfl) (L := [.ref 33]) rfl ?_
  refine j_aload_n dX10_init_0 rfl rfl rfl ?_
  refine j_objInit dX10_init_1 rfl cX10_1 jvw_oi jvw_oc (by decide) ?_
  refine j_aload_n dX10_init_4 rfl rfl rfl ?_
  refine j_sipush (v := nI 167) dX10_init_5 rfl rfl ?_
  refine j_newI (len := 167) (bc := 9) (bs := 799) dX10_init_8 rfl rfl (by decide) jvw_int (by decide) rfl (by decide) rfl rfl ?_
  show Rj _ _ _ _ _ _ 10 [.ref 33] [.ref 34, .ref 33] 35 (ur (ur I9 33 (fun _ => 0)) 34 (fun _ => 0)) (ur (ur J9 33 (fun _ => 0)) 34 (fun _ => 0)) (ur (ur (Pg none none) 33 (fun _ => none)) 34 (fun _ => none))
  refine j_putP dX10_init_10 rfl fX10_7 rfl (by decide) (by decide) rfl (Or.inr ⟨rfl, rfl⟩) ?_
  refine j_aload_n dX10_init_13 rfl rfl rfl ?_
  refine j_sipush (v := nI 167) dX10_init_14 rfl rfl ?_
  refine j_newI (len := 167) (bc := 8) (bs := 632) dX10_init_17 rfl rfl (by decide) jvw_int (by decide) rfl (by decide) rfl rfl ?_
  show Rj _ _ _ _ _ _ 19 [.ref 33] [.ref 35, .ref 33] 36 (ur (ur (ur I9 33 (fun _ => 0)) 34 (fun _ => 0)) 35 (fun _ => 0)) (ur (ur (ur J9 33 (fun _ => 0)) 34 (fun _ => 0)) 35 (fun _ => 0)) (ur (u2 (ur (ur (Pg none none) 33 (fun _ => none)) 34 (fun _ => none)) 33 0 (some 34)) 35 (fun _ => none))
  refine j_putP dX10_init_19 rfl fX10_13 rfl (by decide) (by decide) rfl (Or.inr ⟨rfl, rfl⟩) ?_
  refine j_aload_n dX10_init_22 rfl rfl rfl ?_
  refine j_sipush (v := nI 334) dX10_init_23 rfl rfl ?_
  refine j_newI (len := 334) (bc := 7) (bs := 298) dX10_init_26 rfl rfl (by decide) jvw_int (by decide) rfl (by decide) rfl rfl ?_
  show Rj _ _ _ _ _ _ 28 [.ref 33] [.ref 36, .ref 33] 37 (ur (ur (ur (ur I9 33 (fun _ => 0)) 34 (fun _ => 0)) 35 (fun _ => 0)) 36 (fun _ => 0)) (ur (ur (ur (ur J9 33 (fun _ => 0)) 34 (fun _ => 0)) 35 (fun _ => 0)) 36 (fun _ => 0)) (ur (u2 (ur (u2 (ur (ur (Pg none none) 33 (fun _ => none)) 34 (fun _ => none)) 33 0 (some 34)) 35 (fun _ => none)) 33 1 (some 35)) 36 (fun _ => none))
  refine j_putP dX10_init_28 rfl fX10_16 rfl (by decide) (by decide) rfl (Or.inr ⟨rfl, rfl⟩) ?_
  refine j_aload_n dX10_init_31 rfl rfl rfl ?_
  refine j_iconst (v := nI 2) dX10_init_32 rfl rfl ?_
  refine j_newZ (len := 2) (bc := 6) (bs := 296) dX10_init_33 rfl rfl (by decide) jvw_boolean (by decide) rfl (by decide) rfl rfl ?_
  show Rj _ _ _ _ _ _ 35 [.ref 33] [.ref 37, .ref 33] 38 (ur (ur (ur (ur (ur I9 33 (fun _ => 0)) 34 (fun _ => 0)) 35 (fun _ => 0)) 36 (fun _ => 0)) 37 (fun _ => 0)) (ur (ur (ur (ur (ur J9 33 (fun _ => 0)) 34 (fun _ => 0)) 35 (fun _ => 0)) 36 (fun _ => 0)) 37 (fun _ => 0)) (ur (u2 (ur (u2 (ur (u2 (ur (ur (Pg none none) 33 (fun _ => none)) 34 (fun _ => none)) 33 0 (some 34)) 35 (fun _ => none)) 33 1 (some 35)) 36 (fun _ => none)) 33 2 (some 36)) 37 (fun _ => none))
  refine j_putP dX10_init_35 rfl fX10_19 rfl (by decide) (by decide) rfl (Or.inr ⟨rfl, rfl⟩) ?_
  refine j_aload_n dX10_init_38 rfl rfl rfl ?_
  refine j_sipush (v := nI 150) dX10_init_39 rfl rfl ?_
  refine j_newI (len := 150) (bc := 5) (bs := 146) dX10_init_42 rfl rfl (by decide) jvw_int (by decide) rfl (by decide) rfl rfl ?_
  show Rj _ _ _ _ _ _ 44 [.ref 33] [.ref 38, .ref 33] 39 (ur (ur (ur (ur (ur (ur I9 33 (fun _ => 0)) 34 (fun _ => 0)) 35 (fun _ => 0)) 36 (fun _ => 0)) 37 (fun _ => 0)) 38 (fun _ => 0)) (ur (ur (ur (ur (ur (ur J9 33 (fun _ => 0)) 34 (fun _ => 0)) 35 (fun _ => 0)) 36 (fun _ => 0)) 37 (fun _ => 0)) 38 (fun _ => 0)) (ur (u2 (ur (u2 (ur (u2 (ur (u2 (ur (ur (Pg none none) 33 (fun _ => none)) 34 (fun _ => none)) 33 0 (some 34)) 35 (fun _ => none)) 33 1 (some 35)) 36 (fun _ => none)) 33 2 (some 36)) 37 (fun _ => none)) 33 3 (some 37)) 38 (fun _ => none))
  refine j_putP dX10_init_44 rfl fX10_23 rfl (by decide) (by decide) rfl (Or.inr ⟨rfl, rfl⟩) ?_
  refine j_aload_n dX10_init_47 rfl rfl rfl ?_
  refine j_lconst (v := lN 1) dX10_init_48 rfl rfl ?_
  refine j_putJ dX10_init_49 rfl fX10_26 rfl (by decide) rfl rfl ?_
  refine j_aload_n dX10_init_52 rfl rfl rfl ?_
  refine j_iconst (v := nI 3) dX10_init_53 rfl rfl ?_
  refine j_newI (len := 3) (bc := 4) (bs := 143) dX10_init_54 rfl rfl (by decide) jvw_int (by decide) rfl (by decide) rfl rfl ?_
  show Rj _ _ _ _ _ _ 56 [.ref 33] [.ref 39, .ref 33] 40 (ur (ur (ur (ur (ur (ur (ur I9 33 (fun _ => 0)) 34 (fun _ => 0)) 35 (fun _ => 0)) 36 (fun _ => 0)) 37 (fun _ => 0)) 38 (fun _ => 0)) 39 (fun _ => 0)) (ur (u2 (ur (ur (ur (ur (ur (ur J9 33 (fun _ => 0)) 34 (fun _ => 0)) 35 (fun _ => 0)) 36 (fun _ => 0)) 37 (fun _ => 0)) 38 (fun _ => 0)) 33 13 (lN 1)) 39 (fun _ => 0)) (ur (u2 (ur (u2 (ur (u2 (ur (u2 (ur (u2 (ur (ur (Pg none none) 33 (fun _ => none)) 34 (fun _ => none)) 33 0 (some 34)) 35 (fun _ => none)) 33 1 (some 35)) 36 (fun _ => none)) 33 2 (some 36)) 37 (fun _ => none)) 33 3 (some 37)) 38 (fun _ => none)) 33 5 (some 38)) 39 (fun _ => none))
  refine j_putP dX10_init_56 rfl fX10_30 rfl (by decide) (by decide) rfl (Or.inr ⟨rfl, rfl⟩) ?_
  refine j_aload_n dX10_init_59 rfl rfl rfl ?_
  refine j_bipush (v := nI 6) dX10_init_60 rfl rfl ?_
  refine j_newI (len := 6) (bc := 3) (bs := 137) dX10_init_62 rfl rfl (by decide) jvw_int (by decide) rfl (by decide) rfl rfl ?_
  show Rj _ _ _ _ _ _ 64 [.ref 33] [.ref 40, .ref 33] 41 (ur (ur (ur (ur (ur (ur (ur (ur I9 33 (fun _ => 0)) 34 (fun _ => 0)) 35 (fun _ => 0)) 36 (fun _ => 0)) 37 (fun _ => 0)) 38 (fun _ => 0)) 39 (fun _ => 0)) 40 (fun _ => 0)) (ur (ur (u2 (ur (ur (ur (ur (ur (ur J9 33 (fun _ => 0)) 34 (fun _ => 0)) 35 (fun _ => 0)) 36 (fun _ => 0)) 37 (fun _ => 0)) 38 (fun _ => 0)) 33 13 (lN 1)) 39 (fun _ => 0)) 40 (fun _ => 0)) (ur (u2 (ur (u2 (ur (u2 (ur (u2 (ur (u2 (ur (u2 (ur (ur (Pg none none) 33 (fun _ => none)) 34 (fun _ => none)) 33 0 (some 34)) 35 (fun _ => none)) 33 1 (some 35)) 36 (fun _ => none)) 33 2 (some 36)) 37 (fun _ => none)) 33 3 (some 37)) 38 (fun _ => none)) 33 5 (some 38)) 39 (fun _ => none)) 33 14 (some 39)) 40 (fun _ => none))
  refine j_putP dX10_init_64 rfl fX10_33 rfl (by decide) (by decide) rfl (Or.inr ⟨rfl, rfl⟩) ?_
  refine j_aload_n dX10_init_67 rfl rfl rfl ?_
  refine j_bipush (v := nI 15) dX10_init_68 rfl rfl ?_
  refine j_newI (len := 15) (bc := 2) (bs := 122) dX10_init_70 rfl rfl (by decide) jvw_int (by decide) rfl (by decide) rfl rfl ?_
  show Rj _ _ _ _ _ _ 72 [.ref 33] [.ref 41, .ref 33] 42 (ur (ur (ur (ur (ur (ur (ur (ur (ur I9 33 (fun _ => 0)) 34 (fun _ => 0)) 35 (fun _ => 0)) 36 (fun _ => 0)) 37 (fun _ => 0)) 38 (fun _ => 0)) 39 (fun _ => 0)) 40 (fun _ => 0)) 41 (fun _ => 0)) (ur (ur (ur (u2 (ur (ur (ur (ur (ur (ur J9 33 (fun _ => 0)) 34 (fun _ => 0)) 35 (fun _ => 0)) 36 (fun _ => 0)) 37 (fun _ => 0)) 38 (fun _ => 0)) 33 13 (lN 1)) 39 (fun _ => 0)) 40 (fun _ => 0)) 41 (fun _ => 0)) (ur (u2 (ur (u2 (ur (u2 (ur (u2 (ur (u2 (ur (u2 (ur (u2 (ur (ur (Pg none none) 33 (fun _ => none)) 34 (fun _ => none)) 33 0 (some 34)) 35 (fun _ => none)) 33 1 (some 35)) 36 (fun _ => none)) 33 2 (some 36)) 37 (fun _ => none)) 33 3 (some 37)) 38 (fun _ => none)) 33 5 (some 38)) 39 (fun _ => none)) 33 14 (some 39)) 40 (fun _ => none)) 33 15 (some 40)) 41 (fun _ => none))
  refine j_putP dX10_init_72 rfl fX10_36 rfl (by decide) (by decide) rfl (Or.inr ⟨rfl, rfl⟩) ?_
  refine j_aload_n dX10_init_75 rfl rfl rfl ?_
  refine j_bipush (v := nI 61) dX10_init_76 rfl rfl ?_
  refine j_newL (len := 61) (bc := 1) (bs := 61) dX10_init_78 rfl rfl (by decide) jvw_long (by decide) rfl (by decide) rfl rfl ?_
  show Rj _ _ _ _ _ _ 80 [.ref 33] [.ref 42, .ref 33] 43 (ur (ur (ur (ur (ur (ur (ur (ur (ur (ur I9 33 (fun _ => 0)) 34 (fun _ => 0)) 35 (fun _ => 0)) 36 (fun _ => 0)) 37 (fun _ => 0)) 38 (fun _ => 0)) 39 (fun _ => 0)) 40 (fun _ => 0)) 41 (fun _ => 0)) 42 (fun _ => 0)) (ur (ur (ur (ur (u2 (ur (ur (ur (ur (ur (ur J9 33 (fun _ => 0)) 34 (fun _ => 0)) 35 (fun _ => 0)) 36 (fun _ => 0)) 37 (fun _ => 0)) 38 (fun _ => 0)) 33 13 (lN 1)) 39 (fun _ => 0)) 40 (fun _ => 0)) 41 (fun _ => 0)) 42 (fun _ => 0)) (ur (u2 (ur (u2 (ur (u2 (ur (u2 (ur (u2 (ur (u2 (ur (u2 (ur (u2 (ur (ur (Pg none none) 33 (fun _ => none)) 34 (fun _ => none)) 33 0 (some 34)) 35 (fun _ => none)) 33 1 (some 35)) 36 (fun _ => none)) 33 2 (some 36)) 37 (fun _ => none)) 33 3 (some 37)) 38 (fun _ => none)) 33 5 (some 38)) 39 (fun _ => none)) 33 14 (some 39)) 40 (fun _ => none)) 33 15 (some 40)) 41 (fun _ => none)) 33 16 (some 41)) 42 (fun _ => none))
  refine j_putP dX10_init_80 rfl fX10_39 rfl (by decide) (by decide) rfl (Or.inr ⟨rfl, rfl⟩) ?_
  refine j_aload_n dX10_init_83 rfl rfl rfl ?_
  refine j_bipush (v := nI 61) dX10_init_84 rfl rfl ?_
  refine j_newL (len := 61) (bc := 0) (bs := 0) dX10_init_86 rfl rfl (by decide) jvw_long (by decide) rfl (by decide) rfl rfl ?_
  show Rj _ _ _ _ _ _ 88 [.ref 33] [.ref 43, .ref 33] 44 (ur (ur (ur (ur (ur (ur (ur (ur (ur (ur (ur I9 33 (fun _ => 0)) 34 (fun _ => 0)) 35 (fun _ => 0)) 36 (fun _ => 0)) 37 (fun _ => 0)) 38 (fun _ => 0)) 39 (fun _ => 0)) 40 (fun _ => 0)) 41 (fun _ => 0)) 42 (fun _ => 0)) 43 (fun _ => 0)) (ur (ur (ur (ur (ur (u2 (ur (ur (ur (ur (ur (ur J9 33 (fun _ => 0)) 34 (fun _ => 0)) 35 (fun _ => 0)) 36 (fun _ => 0)) 37 (fun _ => 0)) 38 (fun _ => 0)) 33 13 (lN 1)) 39 (fun _ => 0)) 40 (fun _ => 0)) 41 (fun _ => 0)) 42 (fun _ => 0)) 43 (fun _ => 0)) (ur (u2 (ur (u2 (ur (u2 (ur (u2 (ur (u2 (ur (u2 (ur (u2 (ur (u2 (ur (u2 (ur (ur (Pg none none) 33 (fun _ => none)) 34 (fun _ => none)) 33 0 (some 34)) 35 (fun _ => none)) 33 1 (some 35)) 36 (fun _ => none)) 33 2 (some 36)) 37 (fun _ => none)) 33 3 (some 37)) 38 (fun _ => none)) 33 5 (some 38)) 39 (fun _ => none)) 33 14 (some 39)) 40 (fun _ => none)) 33 15 (some 40)) 41 (fun _ => none)) 33 16 (some 41)) 42 (fun _ => none)) 33 20 (some 42)) 43 (fun _ => none))
  refine j_putP dX10_init_88 rfl fX10_43 rfl (by decide) (by decide) rfl (Or.inr ⟨rfl, rfl⟩) ?_
  refine j_aload_n dX10_init_91 rfl rfl rfl ?_
  refine j_getP (b := 34) dX10_init_92 rfl fX10_7 rfl (by decide) rfl rfl ?_
  refine j_callSw (As := [.ref 34]) dX10_init_95 rfl cX10_46 rfl (by decide) rfl rfl (c_lay34 (fun g hg1 hg2 => ?_))
  show Rj _ _ _ _ _ _ 98 [.ref 33] [] 44 (ur (ur (ur (ur (ur (ur (ur (ur (ur (ur (ur (ur I9 33 (fun _ => 0)) 34 (fun _ => 0)) 35 (fun _ => 0)) 36 (fun _ => 0)) 37 (fun _ => 0)) 38 (fun _ => 0)) 39 (fun _ => 0)) 40 (fun _ => 0)) 41 (fun _ => 0)) 42 (fun _ => 0)) 43 (fun _ => 0)) 34 g) (ur (ur (ur (ur (ur (u2 (ur (ur (ur (ur (ur (ur J9 33 (fun _ => 0)) 34 (fun _ => 0)) 35 (fun _ => 0)) 36 (fun _ => 0)) 37 (fun _ => 0)) 38 (fun _ => 0)) 33 13 (lN 1)) 39 (fun _ => 0)) 40 (fun _ => 0)) 41 (fun _ => 0)) 42 (fun _ => 0)) 43 (fun _ => 0)) (u2 (ur (u2 (ur (u2 (ur (u2 (ur (u2 (ur (u2 (ur (u2 (ur (u2 (ur (u2 (ur (u2 (ur (ur (Pg none none) 33 (fun _ => none)) 34 (fun _ => none)) 33 0 (some 34)) 35 (fun _ => none)) 33 1 (some 35)) 36 (fun _ => none)) 33 2 (some 36)) 37 (fun _ => none)) 33 3 (some 37)) 38 (fun _ => none)) 33 5 (some 38)) 39 (fun _ => none)) 33 14 (some 39)) 40 (fun _ => none)) 33 15 (some 40)) 41 (fun _ => none)) 33 16 (some 41)) 42 (fun _ => none)) 33 20 (some 42)) 43 (fun _ => none)) 33 21 (some 43))
  have hg : g = fun _ => 0 := by
    funext k
    by_cases hk : k < 167
    · exact hg1 k hk
    · rw [hg2 k (by omega)]; simp [ur, u2]
  subst hg
  refine j_heap (I' := I9) (J' := J10) (P' := Pg none none) (fun a ha => ?_) (fun a ha => ?_) (fun a ha => ?_) ?_
  · rcases (show a < 33 ∨ a = 33 ∨ a = 34 ∨ a = 35 ∨ a = 36 ∨ a = 37 ∨ a = 38 ∨ a = 39 ∨ a = 40 ∨ a = 41 ∨ a = 42 ∨ a = 43 by omega) with h | rfl | rfl | rfl | rfl | rfl | rfl | rfl | rfl | rfl | rfl | rfl
    · funext k
      simp [ur, u2, show a ≠ 33 by omega, show a ≠ 34 by omega, show a ≠ 35 by omega, show a ≠ 36 by omega, show a ≠ 37 by omega, show a ≠ 38 by omega, show a ≠ 39 by omega, show a ≠ 40 by omega, show a ≠ 41 by omega, show a ≠ 42 by omega, show a ≠ 43 by omega]
    all_goals (funext k; simp [I9, ur, u2, nI_0])
  · rcases (show a < 33 ∨ a = 33 ∨ a = 34 ∨ a = 35 ∨ a = 36 ∨ a = 37 ∨ a = 38 ∨ a = 39 ∨ a = 40 ∨ a = 41 ∨ a = 42 ∨ a = 43 by omega) with h | rfl | rfl | rfl | rfl | rfl | rfl | rfl | rfl | rfl | rfl | rfl
    · funext k
      simp [J10, ur, u2, show a ≠ 33 by omega, show a ≠ 34 by omega, show a ≠ 35 by omega, show a ≠ 36 by omega, show a ≠ 37 by omega, show a ≠ 38 by omega, show a ≠ 39 by omega, show a ≠ 40 by omega, show a ≠ 41 by omega, show a ≠ 42 by omega, show a ≠ 43 by omega]
    all_goals (funext k; simp [J10, J9, ur, u2])
  · rcases (show a < 33 ∨ a = 33 ∨ a = 34 ∨ a = 35 ∨ a = 36 ∨ a = 37 ∨ a = 38 ∨ a = 39 ∨ a = 40 ∨ a = 41 ∨ a = 42 ∨ a = 43 by omega) with h | rfl | rfl | rfl | rfl | rfl | rfl | rfl | rfl | rfl | rfl | rfl
    · funext k
      simp [ur, u2, show a ≠ 33 by omega, show a ≠ 34 by omega, show a ≠ 35 by omega, show a ≠ 36 by omega, show a ≠ 37 by omega, show a ≠ 38 by omega, show a ≠ 39 by omega, show a ≠ 40 by omega, show a ≠ 41 by omega, show a ≠ 42 by omega, show a ≠ 43 by omega]
    · funext k
      rcases k with _ | _ | _ | _ | _ | _ | _ | _ | _ | _ | _ | _ | _ | _ | _ | _ | _ | _ | _ | _ | _ | _ | _ | k <;> rfl
    all_goals (funext k; rcases k with _ | k <;> rfl)
  refine j_vret dX10_init_98 rfl ?_
  exact hQ
