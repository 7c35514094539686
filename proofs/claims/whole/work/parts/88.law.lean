theorem sub5_t : ∀ k : Fin 321, (nI k.1 - nI 5).toInt = (k.1 : Int) - 5 := by decide +kernel
theorem sub5 {n i : Nat} (h : n ≤ 320) (hi : i < 2 ^ 31) : nI n - nI 5 < nI i ↔ n < i + 5 := by
  have h1 := sub5_t ⟨n, by omega⟩
  simp only at h1
  rw [Int32.lt_iff_toInt_lt, h1, nI_toInt hi]
  omega
def S0 : SS := (fun _ _ => 0, 0, fun _ => 0, 0, 0, 0, 0, 1, none, none)
theorem LI_0 : LI S0 0 44 none none I9 J10 := by
  have z : ∀ a k, a ≠ 26 → a ≠ 29 → I9 a k = 0 := by
    intro a k h1 h2
    unfold I9
    rw [u2_ne _ _ _ h2, u2_ne _ _ _ h2, u2_ne _ _ _ h2, u2_ne _ _ _ h1, u2_ne _ _ _ h1]
  have z0 : ∀ a k, a ≠ 26 → a ≠ 29 → I9 a k = nI 0 := fun a k h1 h2 => (z a k h1 h2).trans nI_0.symm
  have vc : ∀ b, b = 1 ∨ b = 15 → VC b I9 (fun _ _ => 0) := by
    intro b hb
    refine ⟨⟨z0 _ _ (by omega) (by omega), z0 _ _ (by omega) (by omega), z0 _ _ (by omega) (by omega), z0 _ _ (by omega) (by omega), z0 _ _ (by omega) (by omega), z0 _ _ (by omega) (by omega)⟩, fun p hp => absurd hp (Nat.not_lt_zero _), fun p hp => absurd hp (Nat.not_lt_zero _), fun p hp => absurd hp (Nat.not_lt_zero _), 0, by omega, z0 _ _ (by omega) (by omega), z0 _ _ (by omega) (by omega), fun p hp => absurd hp (Nat.not_lt_zero _)⟩
  refine ⟨⟨vc 1 (Or.inl rfl), ⟨_, vc 15 (Or.inr rfl)⟩, ⟨z0 _ _ (by omega) (by omega), fun p hp => absurd hp (Nat.not_lt_zero _), Nat.zero_le _, fun p hp => absurd hp (Nat.not_lt_zero _)⟩, ⟨z _ _ (by omega) (by omega), z _ _ (by omega) (by omega), z _ _ (by omega) (by omega)⟩, ⟨rfl, rfl⟩, ⟨Or.inl ⟨rfl, rfl⟩, Or.inl ⟨rfl, rfl⟩, Or.inl ⟨rfl, rfl, rfl⟩⟩⟩, ⟨?_, ⟨z0 _ _ (by omega) (by omega), fun p hp => absurd hp (Nat.not_lt_zero _), Nat.zero_le _, fun p hp => absurd hp (Nat.not_lt_zero _)⟩, ⟨z _ _ (by omega) (by omega), z _ _ (by omega) (by omega), z _ _ (by omega) (by omega)⟩, ⟨rfl, rfl⟩, Or.inl ⟨rfl, z0 _ _ (by omega) (by omega)⟩, Or.inl ⟨rfl, z0 _ _ (by omega) (by omega)⟩⟩, ?_, ?_⟩
  · exact ⟨⟨z0 _ _ (by omega) (by omega), z0 _ _ (by omega) (by omega), z0 _ _ (by omega) (by omega), z0 _ _ (by omega) (by omega), z0 _ _ (by omega) (by omega), z0 _ _ (by omega) (by omega), z0 _ _ (by omega) (by omega)⟩, fun p hp => absurd hp (Nat.not_lt_zero _), fun p hp => absurd hp (Nat.not_lt_zero _), fun p hp => absurd hp (Nat.not_lt_zero _), fun p hp => absurd hp (Nat.not_lt_zero _)⟩
  · exact ⟨⟨Nat.zero_le _, Nat.zero_le _, Nat.zero_le _, Nat.zero_le _, Nat.zero_le _, Nat.zero_le _, Nat.zero_le _⟩, fun p hp => absurd hp (Nat.not_lt_zero _), fun p hp => absurd hp (Nat.not_lt_zero _), fun p hp => absurd hp (Nat.not_lt_zero _), fun p hp => absurd hp (Nat.not_lt_zero _)⟩
  · intro u hu
    rcases hu with e | e
    · exact absurd (show (none : Option VT) = some u from e) (fun q => by injection q)
    · exact absurd (show (none : Option VT) = some u from e) (fun q => by injection q)
set_option maxHeartbeats 4000000 in
set_option maxRecDepth 100000 in
theorem law_loop {X : jX} (hX : X.1 ≤ 320) : ∀ (r i yb : Nat) (S : SS) (n : Nat) (i0 i1 : Option Nat) (I : HI) (J : HJ), X.1 < i + 5 * (r + 1) → i ≤ 400 → yb + 60 * r ≤ 2 ^ 12 → i + 5 * r ≤ 400 → LI S yb n i0 i1 I J → Rj X 64 (11 * r) (178 * r) mL_law LQ 18 [.ref 1200, .ref 0, .ref 33, .int (nI i)] [] n I J (Pg i0 i1) := by
    intro r
    induction r with
    | zero =>
      intro i yb S n i0 i1 I J hr hi4 hyb h4 hL
      refine j_iload_n dL_law_18 rfl rfl rfl ?_
      refine j_aload_n dL_law_19 rfl rfl rfl ?_
      refine j_slen dL_law_20 rfl ?_
      refine j_iconst (v := nI 5) dL_law_21 rfl rfl ?_
      refine j_isub dL_law_22 rfl ?_
      refine j_icmpgt (tgt := 990) dL_law_23 rfl rfl (fun h1 => ?_) (fun h1 => by exfalso; exact h1 ((sub5 hX (by omega)).mpr (by omega)))
      refine j_iconst (v := nI 1) dL_law_990 rfl rfl ?_
      refine j_iret dL_law_991 rfl rfl ?_
      exact rfl
    | succ r ih =>
      intro i yb S n i0 i1 I J hr hi4 hyb h4 hL
      have hk : LK X r i yb := fun S2 n2 j0 j1 I2 J2 hL2 => ih (i + 5) (yb + 60) S2 n2 j0 j1 I2 J2 (by omega) (by omega) (by omega) (by omega) hL2
      refine j_iload_n dL_law_18 rfl rfl rfl ?_
      refine j_aload_n dL_law_19 rfl rfl rfl ?_
      refine j_slen dL_law_20 rfl ?_
      refine j_iconst (v := nI 5) dL_law_21 rfl rfl ?_
      refine j_isub dL_law_22 rfl ?_
      refine j_icmpgt (tgt := 990) dL_law_23 rfl rfl (fun h1 => ?_) (fun h1 => ?_)
      · refine j_iconst (v := nI 1) dL_law_990 rfl rfl ?_
        refine j_iret dL_law_991 rfl rfl ?_
        exact rfl
      · have hi5 : i + 5 ≤ X.1 := Nat.le_of_not_lt (fun z => absurd ((sub5 hX (by omega)).mpr z) (by assumption))
        refine j_aload_n dL_law_26 rfl rfl rfl ?_
        refine j_iload_n dL_law_27 rfl rfl rfl ?_
        refine j_sldN (i := i) dL_law_28 rfl (by omega) hX ?_
        refine j_bipush (v := nI 31) dL_law_29 rfl rfl ?_
        refine j_iand dL_law_31 rfl ?_
        obtain ⟨t, ht, hte⟩ := and31 (X.2 i)
        rw [hte]
        rcases (show t = 0 ∨ t = 1 ∨ t = 2 ∨ t = 3 ∨ t = 4 ∨ t = 5 ∨ t = 6 ∨ t = 7 ∨ t = 8 ∨ t = 9 ∨ t = 10 ∨ t = 11 ∨ t = 12 ∨ t = 13 ∨ t = 14 ∨ t = 15 ∨ t = 16 ∨ t = 17 ∨ t = 18 ∨ t = 19 ∨ t = 20 ∨ t = 21 ∨ t = 22 ∨ t = 23 ∨ t = 24 ∨ t = 25 ∨ t = 26 ∨ t = 27 ∨ t = 28 ∨ t = 29 ∨ t = 30 ∨ t = 31 by omega) with rfl | rfl | rfl | rfl | rfl | rfl | rfl | rfl | rfl | rfl | rfl | rfl | rfl | rfl | rfl | rfl | rfl | rfl | rfl | rfl | rfl | rfl | rfl | rfl | rfl | rfl | rfl | rfl | rfl | rfl | rfl | rfl
        · refine j_tabN (a := 0) (k := 0) (off := 144) (tgt := 176) dL_law_32 (by decide) rfl (by decide) (by decide) rfl rfl ?_
          exact law_0 hX hi5 (by omega) hL hk
        · refine j_tabN (a := 1) (k := 0) (off := 157) (tgt := 189) dL_law_32 (by decide) rfl (by decide) (by decide) rfl rfl ?_
          exact law_1 hX hi5 (by omega) hL hk
        · refine j_tabN (a := 2) (k := 0) (off := 180) (tgt := 212) dL_law_32 (by decide) rfl (by decide) (by decide) rfl rfl ?_
          exact law_2 hX hi5 (by omega) hL hk
        · refine j_tabN (a := 3) (k := 0) (off := 203) (tgt := 235) dL_law_32 (by decide) rfl (by decide) (by decide) rfl rfl ?_
          exact law_3 hX hi5 (by omega) hL hk
        · refine j_tabN (a := 4) (k := 0) (off := 236) (tgt := 268) dL_law_32 (by decide) rfl (by decide) (by decide) rfl rfl ?_
          exact law_4 hX hi5 (by omega) hL hk
        · refine j_tabN (a := 5) (k := 0) (off := 259) (tgt := 291) dL_law_32 (by decide) rfl (by decide) (by decide) rfl rfl ?_
          exact law_5 hX hi5 (by omega) hL hk
        · refine j_tabN (a := 6) (k := 0) (off := 282) (tgt := 314) dL_law_32 (by decide) rfl (by decide) (by decide) rfl rfl ?_
          exact law_6 hX hi5 (by omega) hL hk
        · refine j_tabN (a := 7) (k := 0) (off := 295) (tgt := 327) dL_law_32 (by decide) rfl (by decide) (by decide) rfl rfl ?_
          exact law_7 hX hi5 (by omega) hL hk
        · refine j_tabN (a := 8) (k := 0) (off := 308) (tgt := 340) dL_law_32 (by decide) rfl (by decide) (by decide) rfl rfl ?_
          exact law_8 hX hi5 (by omega) hL hk
        · refine j_tabN (a := 9) (k := 0) (off := 331) (tgt := 363) dL_law_32 (by decide) rfl (by decide) (by decide) rfl rfl ?_
          exact law_9 hX hi5 (by omega) hL hk
        · refine j_tabN (a := 10) (k := 0) (off := 364) (tgt := 396) dL_law_32 (by decide) rfl (by decide) (by decide) rfl rfl ?_
          exact law_10 hX hi5 (by omega) hL hk
        · refine j_tabN (a := 11) (k := 0) (off := 377) (tgt := 409) dL_law_32 (by decide) rfl (by decide) (by decide) rfl rfl ?_
          exact law_11 hX hi5 (by omega) hL hk
        · refine j_tabN (a := 12) (k := 0) (off := 410) (tgt := 442) dL_law_32 (by decide) rfl (by decide) (by decide) rfl rfl ?_
          exact law_12 hX hi5 (by omega) hL hk
        · refine j_tabN (a := 13) (k := 0) (off := 443) (tgt := 475) dL_law_32 (by decide) rfl (by decide) (by decide) rfl rfl ?_
          exact law_13 hX hi5 (by omega) hL hk
        · refine j_tabN (a := 14) (k := 0) (off := 466) (tgt := 498) dL_law_32 (by decide) rfl (by decide) (by decide) rfl rfl ?_
          exact law_14 hX hi5 (by omega) hL hk
        · refine j_tabN (a := 15) (k := 0) (off := 489) (tgt := 521) dL_law_32 (by decide) rfl (by decide) (by decide) rfl rfl ?_
          exact law_15 hX hi5 (by omega) hL hk
        · refine j_tabN (a := 16) (k := 0) (off := 542) (tgt := 574) dL_law_32 (by decide) rfl (by decide) (by decide) rfl rfl ?_
          exact law_16 hX hi5 (by omega) hL hk
        · refine j_tabN (a := 17) (k := 0) (off := 565) (tgt := 597) dL_law_32 (by decide) rfl (by decide) (by decide) rfl rfl ?_
          exact law_17 hX hi5 (by omega) hL hk
        · refine j_tabN (a := 18) (k := 0) (off := 608) (tgt := 640) dL_law_32 (by decide) rfl (by decide) (by decide) rfl rfl ?_
          exact law_18 hX hi5 (by omega) hL hk
        · refine j_tabN (a := 19) (k := 0) (off := 621) (tgt := 653) dL_law_32 (by decide) rfl (by decide) (by decide) rfl rfl ?_
          exact law_19 hX hi5 (by omega) hL hk
        · refine j_tabN (a := 20) (k := 0) (off := 644) (tgt := 676) dL_law_32 (by decide) rfl (by decide) (by decide) rfl rfl ?_
          exact law_20 hX hi5 (by omega) hL hk
        · refine j_tabN (a := 21) (k := 0) (off := 667) (tgt := 699) dL_law_32 (by decide) rfl (by decide) (by decide) rfl rfl ?_
          exact law_21 hX hi5 (by omega) hL hk
        · refine j_tabN (a := 22) (k := 0) (off := 690) (tgt := 722) dL_law_32 (by decide) rfl (by decide) (by decide) rfl rfl ?_
          exact law_22 hX hi5 (by omega) hL hk
        · refine j_tabN (a := 23) (k := 0) (off := 703) (tgt := 735) dL_law_32 (by decide) rfl (by decide) (by decide) rfl rfl ?_
          exact law_23 hX hi5 (by omega) hL hk
        · refine j_tabN (a := 24) (k := 0) (off := 736) (tgt := 768) dL_law_32 (by decide) rfl (by decide) (by decide) rfl rfl ?_
          exact law_24 hX hi5 (by omega) hL hk
        · refine j_tabN (a := 25) (k := 0) (off := 779) (tgt := 811) dL_law_32 (by decide) rfl (by decide) (by decide) rfl rfl ?_
          exact law_25 hX hi5 (by omega) hL hk
        · refine j_tabN (a := 26) (k := 0) (off := 822) (tgt := 854) dL_law_32 (by decide) rfl (by decide) (by decide) rfl rfl ?_
          exact law_26 hX hi5 (by omega) hL hk
        · refine j_tabN (a := 27) (k := 0) (off := 846) (tgt := 878) dL_law_32 (by decide) rfl (by decide) (by decide) rfl rfl ?_
          exact law_27 hX hi5 (by omega) hL hk
        · refine j_tabN (a := 28) (k := 0) (off := 869) (tgt := 901) dL_law_32 (by decide) rfl (by decide) (by decide) rfl rfl ?_
          exact law_28 hX hi5 (by omega) hL hk
        · refine j_tabN (a := 29) (k := 0) (off := 892) (tgt := 924) dL_law_32 (by decide) rfl (by decide) (by decide) rfl rfl ?_
          exact law_29 hX hi5 (by omega) hL hk
        · refine j_tabN (a := 30) (k := 0) (off := 915) (tgt := 947) dL_law_32 (by decide) rfl (by decide) (by decide) rfl rfl ?_
          exact law_30 hX hi5 (by omega) hL hk
        · refine j_tabN (a := 31) (k := 0) (off := 938) (tgt := 970) dL_law_32 (by decide) rfl (by decide) (by decide) rfl rfl ?_
          exact law_31 hX hi5 (by omega) hL hk
set_option maxHeartbeats 4000000 in
set_option maxRecDepth 100000 in
theorem law_all (X : jX) (hX : X.1 ≤ 320) : Rj X 64 1000 20000 mL_law LQ 0 [.ref 1200, jU, jU, jU] [] 0 (fun _ _ => 0) (fun _ _ => 0) (fun _ _ => none) := by
  refine j_new (ci := 7) (bc := 999) (bs := 19990) dL_law_0 rfl (by decide) rfl (by decide) nL_7 insX9 iniX9 rfl rfl ?_
  show Rj _ _ _ _ _ _ 3 [.ref 1200, jU, jU, jU] [.ref 0] 1 (ur (fun _ _ => 0) 0 (fun _ => 0)) (ur (fun _ _ => 0) 0 (fun _ => 0)) (ur (fun _ _ => none) 0 (fun _ => none))
  refine j_dup dL_law_3 rfl rfl ?_
  refine j_callIw (As := []) dL_law_4 rfl cL_9 rfl (by decide) rfl rfl (c_init9 ?_)
  show Rj _ _ _ _ _ _ 7 [.ref 1200, jU, jU, jU] [.ref 0] 33 I9 J9 (Pg none none)
  refine j_astore_n (L' := [.ref 1200, .ref 0, jU, jU]) dL_law_7 rfl rfl rfl (by decide) rfl ?_
  refine j_new (ci := 8) (bc := 966) (bs := 19367) dL_law_8 rfl (by decide) rfl (by decide) nL_10 insX10 iniX10 rfl rfl ?_
  show Rj _ _ _ _ _ _ 11 [.ref 1200, .ref 0, jU, jU] [.ref 33] 34 (ur I9 33 (fun _ => 0)) (ur J9 33 (fun _ => 0)) (ur (Pg none none) 33 (fun _ => none))
  refine j_dup dL_law_11 rfl rfl ?_
  refine j_callIw (As := []) dL_law_12 rfl cL_12 rfl (by decide) rfl rfl (c_init10 ?_)
  show Rj _ _ _ _ _ _ 15 [.ref 1200, .ref 0, jU, jU] [.ref 33] 44 I9 J10 (Pg none none)
  refine j_astore_n (L' := [.ref 1200, .ref 0, .ref 33, jU]) dL_law_15 rfl rfl rfl (by decide) rfl ?_
  refine j_iconst (v := nI 0) dL_law_16 rfl rfl ?_
  refine j_istore_n (L' := [.ref 1200, .ref 0, .ref 33, .int (nI 0)]) dL_law_17 rfl rfl rfl (by decide) rfl ?_
  refine j_less (bc' := 11 * 64) (bs' := 178 * 64) (by decide) (by decide) ?_
  exact law_loop hX 64 0 0 S0 44 none none I9 J10 (by omega) (by omega) (by omega) (by omega) LI_0
