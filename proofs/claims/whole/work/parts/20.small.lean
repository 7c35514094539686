set_option maxHeartbeats 4000000 in
set_option maxRecDepth 100000 in
theorem c_bitCount {X : jX} {d n : Nat} {I : HI} {J : HJ} {P : HP} {Q : jPost} {a : Nat} (ha : a < 64) (hQ : Q (some (.int (nI (a % 2 + a / 2 % 2 + a / 4 % 2 + a / 8 % 2 + a / 16 % 2 + a / 32 % 2)))) n I J P) : Cj X d 0 0 mJ6_bitCount_0f7a4 [.int (nI a)] n I J P Q := by
  refine Cj.intro rfl (Nat.le_of_ble_eq_true rfl) (L := [.int (nI a)]) rfl ?_
  refine j_iload_n dJ6_bitCount_0f7a4_0 rfl rfl rfl ?_
  refine j_iload_n dJ6_bitCount_0f7a4_1 rfl rfl rfl ?_
  refine j_iconst (v := nI 1) dJ6_bitCount_0f7a4_2 rfl rfl ?_
  refine j_iushr dJ6_bitCount_0f7a4_3 rfl rfl ?_
  refine j_ldcw (v := nI 1431655765) dJ6_bitCount_0f7a4_4 rfl kJ6_265 ?_
  refine j_iand dJ6_bitCount_0f7a4_7 rfl ?_
  refine j_isub dJ6_bitCount_0f7a4_8 rfl ?_
  refine j_istore_n (L' := [.int ((nI a) - ((((nI a : Int32).toUInt32 >>> ((nI 1 : Int32).toUInt32 &&& Int32.toUInt32 31)).toInt32) &&& (nI 1431655765)))]) dJ6_bitCount_0f7a4_9 rfl rfl rfl (by decide) rfl ?_
  generalize ey1 : (nI a) - ((((nI a : Int32).toUInt32 >>> ((nI 1 : Int32).toUInt32 &&& Int32.toUInt32 31)).toInt32) &&& (nI 1431655765)) = y1
  refine j_iload_n dJ6_bitCount_0f7a4_10 rfl rfl rfl ?_
  refine j_ldcw (v := nI 858993459) dJ6_bitCount_0f7a4_11 rfl kJ6_266 ?_
  refine j_iand dJ6_bitCount_0f7a4_14 rfl ?_
  refine j_iload_n dJ6_bitCount_0f7a4_15 rfl rfl rfl ?_
  refine j_iconst (v := nI 2) dJ6_bitCount_0f7a4_16 rfl rfl ?_
  refine j_iushr dJ6_bitCount_0f7a4_17 rfl rfl ?_
  refine j_ldcw (v := nI 858993459) dJ6_bitCount_0f7a4_18 rfl kJ6_266 ?_
  refine j_iand dJ6_bitCount_0f7a4_21 rfl ?_
  refine j_iadd dJ6_bitCount_0f7a4_22 rfl ?_
  refine j_istore_n (L' := [.int ((y1 &&& (nI 858993459)) + ((((y1 : Int32).toUInt32 >>> ((nI 2 : Int32).toUInt32 &&& Int32.toUInt32 31)).toInt32) &&& (nI 858993459)))]) dJ6_bitCount_0f7a4_23 rfl rfl rfl (by decide) rfl ?_
  generalize ey2 : (y1 &&& (nI 858993459)) + ((((y1 : Int32).toUInt32 >>> ((nI 2 : Int32).toUInt32 &&& Int32.toUInt32 31)).toInt32) &&& (nI 858993459)) = y2
  refine j_iload_n dJ6_bitCount_0f7a4_24 rfl rfl rfl ?_
  refine j_iload_n dJ6_bitCount_0f7a4_25 rfl rfl rfl ?_
  refine j_iconst (v := nI 4) dJ6_bitCount_0f7a4_26 rfl rfl ?_
  refine j_iushr dJ6_bitCount_0f7a4_27 rfl rfl ?_
  refine j_iadd dJ6_bitCount_0f7a4_28 rfl ?_
  refine j_ldcw (v := nI 252645135) dJ6_bitCount_0f7a4_29 rfl kJ6_267 ?_
  refine j_iand dJ6_bitCount_0f7a4_32 rfl ?_
  refine j_istore_n (L' := [.int ((y2 + (((y2 : Int32).toUInt32 >>> ((nI 4 : Int32).toUInt32 &&& Int32.toUInt32 31)).toInt32)) &&& (nI 252645135))]) dJ6_bitCount_0f7a4_33 rfl rfl rfl (by decide) rfl ?_
  generalize ey3 : (y2 + (((y2 : Int32).toUInt32 >>> ((nI 4 : Int32).toUInt32 &&& Int32.toUInt32 31)).toInt32)) &&& (nI 252645135) = y3
  refine j_iload_n dJ6_bitCount_0f7a4_34 rfl rfl rfl ?_
  refine j_iload_n dJ6_bitCount_0f7a4_35 rfl rfl rfl ?_
  refine j_bipush (v := nI 8) dJ6_bitCount_0f7a4_36 rfl rfl ?_
  refine j_iushr dJ6_bitCount_0f7a4_38 rfl rfl ?_
  refine j_iadd dJ6_bitCount_0f7a4_39 rfl ?_
  refine j_istore_n (L' := [.int (y3 + (((y3 : Int32).toUInt32 >>> ((nI 8 : Int32).toUInt32 &&& Int32.toUInt32 31)).toInt32))]) dJ6_bitCount_0f7a4_40 rfl rfl rfl (by decide) rfl ?_
  generalize ey4 : y3 + (((y3 : Int32).toUInt32 >>> ((nI 8 : Int32).toUInt32 &&& Int32.toUInt32 31)).toInt32) = y4
  refine j_iload_n dJ6_bitCount_0f7a4_41 rfl rfl rfl ?_
  refine j_iload_n dJ6_bitCount_0f7a4_42 rfl rfl rfl ?_
  refine j_bipush (v := nI 16) dJ6_bitCount_0f7a4_43 rfl rfl ?_
  refine j_iushr dJ6_bitCount_0f7a4_45 rfl rfl ?_
  refine j_iadd dJ6_bitCount_0f7a4_46 rfl ?_
  refine j_istore_n (L' := [.int (y4 + (((y4 : Int32).toUInt32 >>> ((nI 16 : Int32).toUInt32 &&& Int32.toUInt32 31)).toInt32))]) dJ6_bitCount_0f7a4_47 rfl rfl rfl (by decide) rfl ?_
  generalize ey5 : y4 + (((y4 : Int32).toUInt32 >>> ((nI 16 : Int32).toUInt32 &&& Int32.toUInt32 31)).toInt32) = y5
  refine j_iload_n dJ6_bitCount_0f7a4_48 rfl rfl rfl ?_
  refine j_bipush (v := nI 63) dJ6_bitCount_0f7a4_49 rfl rfl ?_
  refine j_iand dJ6_bitCount_0f7a4_51 rfl ?_
  refine j_iret dJ6_bitCount_0f7a4_52 rfl rfl ?_
  have key : ∀ z : Fin 64, (let x1 := nI z.val - (((nI z.val).toUInt32 >>> ((nI 1).toUInt32 &&& Int32.toUInt32 31)).toInt32 &&& nI 1431655765); let x2 := (x1 &&& nI 858993459) + ((x1.toUInt32 >>> ((nI 2).toUInt32 &&& Int32.toUInt32 31)).toInt32 &&& nI 858993459); let x3 := (x2 + (x2.toUInt32 >>> ((nI 4).toUInt32 &&& Int32.toUInt32 31)).toInt32) &&& nI 252645135; let x4 := x3 + (x3.toUInt32 >>> ((nI 8).toUInt32 &&& Int32.toUInt32 31)).toInt32; let x5 := x4 + (x4.toUInt32 >>> ((nI 16).toUInt32 &&& Int32.toUInt32 31)).toInt32; x5 &&& nI 63) = nI (z.val % 2 + z.val / 2 % 2 + z.val / 4 % 2 + z.val / 8 % 2 + z.val / 16 % 2 + z.val / 32 % 2) := by decide +kernel
  have k2 := key ⟨a, ha⟩
  simp only [ey1, ey2, ey3, ey4, ey5] at k2
  rw [k2]
  exact hQ
set_option maxHeartbeats 4000000 in
set_option maxRecDepth 100000 in
theorem c_within {X : jX} {d n : Nat} {I : HI} {J : HJ} {P : HP} {Q : jPost} {a b c : Int32} (h1 : inR a b c → Q (some (.int (nI 1))) n I J P) (h2 : ¬ inR a b c → Q (some (.int (nI 0))) n I J P) : Cj X d 0 0 mX9_within [.int a, .int b, .int c] n I J P Q := by
  refine Cj.intro rfl (Nat.le_of_ble_eq_true rfl) (L := [.int a, .int b, .int c]) rfl ?_
  refine j_iload_n dX9_within_0 rfl rfl rfl ?_
  refine j_iload_n dX9_within_1 rfl rfl rfl ?_
  suffices K2 : Rj X d 0 0 mX9_within Q 15 [.int a, .int b, .int c] [.int (bI (¬ (a < b) ∧ (¬ (c < a))))] n I J P by
    refine j_icmplt (tgt := 14) dX9_within_2 rfl rfl (fun h1 => ?_) (fun h1 => ?_)
    · refine j_iconst (v := nI 0) dX9_within_14 rfl rfl ?_
      rw [bI_f (fun q => q.1 h1)] at K2; exact K2
    · refine j_iload_n dX9_within_5 rfl rfl rfl ?_
      refine j_iload_n dX9_within_6 rfl rfl rfl ?_
      refine j_icmpgt (tgt := 14) dX9_within_7 rfl rfl (fun h3 => ?_) (fun h3 => ?_)
      · refine j_iconst (v := nI 0) dX9_within_14 rfl rfl ?_
        rw [bI_f (fun q => (fun q => q h3) q.2)] at K2; exact K2
      · refine j_iconst (v := nI 1) dX9_within_10 rfl rfl ?_
        refine j_goto (tgt := 15) dX9_within_11 rfl ?_
        rw [bI_t ⟨h1, h3⟩] at K2; exact K2
  refine j_iret dX9_within_15 rfl (bI_nar _) ?_
  by_cases q : inR a b c
  · rw [bI_t (c := ¬ a < b ∧ ¬ c < a) q]; exact h1 q
  · rw [bI_f (c := ¬ a < b ∧ ¬ c < a) q]; exact h2 q
set_option maxHeartbeats 4000000 in
set_option maxRecDepth 100000 in
theorem c_bad {X : jX} {d n : Nat} {I : HI} {J : HJ} {P : HP} {Q : jPost}  (hQ : Q (some (.int (-2))) n (u2 I 0 7 (I 0 7 + nI 1)) J P) : Cj X d 0 0 mX9_bad [.ref 0] n I J P Q := by
  refine Cj.intro rfl (Nat.le_of_ble_eq_true rfl) (L := [.ref 0]) rfl ?_
  refine j_aload_n dX9_bad_0 rfl rfl rfl ?_
  refine j_dup dX9_bad_1 rfl rfl ?_
  refine j_getIv (v := I 0 7) dX9_bad_2 rfl fX9_55 rfl (by decide) rfl rfl ?_
  refine j_iconst (v := nI 1) dX9_bad_5 rfl rfl ?_
  refine j_iadd dX9_bad_6 rfl ?_
  refine j_putI dX9_bad_7 rfl fX9_55 rfl (by decide) rfl rfl ?_
  refine j_bipush (v := (-2)) dX9_bad_10 rfl rfl ?_
  refine j_iret dX9_bad_12 rfl rfl ?_
  exact hQ
set_option maxHeartbeats 4000000 in
set_option maxRecDepth 100000 in
theorem c_badTen {X : jX} {d n : Nat} {I : HI} {J : HJ} {P : HP} {Q : jPost}  (hQ : Q (some (.int (-10))) n (u2 I 0 7 (I 0 7 + nI 1)) J P) : Cj X d 0 0 mX9_badTen [.ref 0] n I J P Q := by
  refine Cj.intro rfl (Nat.le_of_ble_eq_true rfl) (L := [.ref 0]) rfl ?_
  refine j_aload_n dX9_badTen_0 rfl rfl rfl ?_
  refine j_dup dX9_badTen_1 rfl rfl ?_
  refine j_getIv (v := I 0 7) dX9_badTen_2 rfl fX9_55 rfl (by decide) rfl rfl ?_
  refine j_iconst (v := nI 1) dX9_badTen_5 rfl rfl ?_
  refine j_iadd dX9_badTen_6 rfl ?_
  refine j_putI dX9_badTen_7 rfl fX9_55 rfl (by decide) rfl rfl ?_
  refine j_bipush (v := (-10)) dX9_badTen_10 rfl rfl ?_
  refine j_iret dX9_badTen_12 rfl rfl ?_
  exact hQ
set_option maxHeartbeats 4000000 in
set_option maxRecDepth 100000 in
theorem c_no {X : jX} {d n : Nat} {I : HI} {J : HJ} {P : HP} {Q : jPost}  (hQ : Q (some (.int (-3))) n (u2 I 0 8 (I 0 8 + nI 1)) J P) : Cj X d 0 0 mX9_no [.ref 0] n I J P Q := by
  refine Cj.intro rfl (Nat.le_of_ble_eq_true rfl) (L := [.ref 0]) rfl ?_
  refine j_aload_n dX9_no_0 rfl rfl rfl ?_
  refine j_dup dX9_no_1 rfl rfl ?_
  refine j_getIv (v := I 0 8) dX9_no_2 rfl fX9_59 rfl (by decide) rfl rfl ?_
  refine j_iconst (v := nI 1) dX9_no_5 rfl rfl ?_
  refine j_iadd dX9_no_6 rfl ?_
  refine j_putI dX9_no_7 rfl fX9_59 rfl (by decide) rfl rfl ?_
  refine j_bipush (v := (-3)) dX9_no_10 rfl rfl ?_
  refine j_iret dX9_no_12 rfl rfl ?_
  exact hQ
set_option maxHeartbeats 4000000 in
set_option maxRecDepth 100000 in
theorem c_full {X : jX} {d n : Nat} {I : HI} {J : HJ} {P : HP} {Q : jPost}  (hQ : Q (some (.int (-4))) n (u2 I 0 9 (I 0 9 + nI 1)) J P) : Cj X d 0 0 mX9_full [.ref 0] n I J P Q := by
  refine Cj.intro rfl (Nat.le_of_ble_eq_true rfl) (L := [.ref 0]) rfl ?_
  refine j_aload_n dX9_full_0 rfl rfl rfl ?_
  refine j_dup dX9_full_1 rfl rfl ?_
  refine j_getIv (v := I 0 9) dX9_full_2 rfl fX9_62 rfl (by decide) rfl rfl ?_
  refine j_iconst (v := nI 1) dX9_full_5 rfl rfl ?_
  refine j_iadd dX9_full_6 rfl ?_
  refine j_putI dX9_full_7 rfl fX9_62 rfl (by decide) rfl rfl ?_
  refine j_bipush (v := (-4)) dX9_full_10 rfl rfl ?_
  refine j_iret dX9_full_12 rfl rfl ?_
  exact hQ
set_option maxHeartbeats 4000000 in
set_option maxRecDepth 100000 in
theorem c_goes {X : jX} {d n : Nat} {I : HI} {J : HJ} {P : HP} {Q : jPost} {k y da dr : Nat} (hk : k ≤ 5) (hy : y < 2 ^ 30) (hda : da ≤ 4095) (hdr : dr ≤ 4095) (hQ : Q (some (.int (nI (gos k y da dr)))) n I J P) : Cj X d 0 0 mX4_goes [.int (nI k), .int (nI y), .int (nI da), .int (nI dr)] n I J P Q := by
  refine Cj.intro rfl (Nat.le_of_ble_eq_true rfl) (L := [.int (nI k), .int (nI y), .int (nI da), .int (nI dr), jU, jU, jU, jU, jU]) rfl ?_
  have hpl := gPl_le y dr
  have hpp := gPl_pos y dr
  have hri := gRi_le y dr
  have hqu := gQu_le y dr
  refine j_iload_n dX4_goes_0 rfl rfl rfl ?_
  refine j_bipush (v := nI 12) dX4_goes_1 rfl rfl ?_
  refine j_iremN (c := y % 12) dX4_goes_3 rfl (by omega) (by decide) (by decide) rfl ?_
  refine j_istore (L' := [.int (nI k), .int (nI y), .int (nI da), .int (nI dr), .int (nI (y % 12)), jU, jU, jU, jU]) dX4_goes_4 rfl rfl (by decide) rfl ?_
  refine j_iload_n dX4_goes_6 rfl rfl rfl ?_
  refine j_iconst (v := nI 5) dX4_goes_7 rfl rfl ?_
  refine j_iremN (c := y % 5) dX4_goes_8 rfl (by omega) (by decide) (by decide) rfl ?_
  refine j_iconst (v := nI 4) dX4_goes_9 rfl rfl ?_
  suffices K2 : Rj X d 0 0 mX4_goes Q 18 [.int (nI k), .int (nI y), .int (nI da), .int (nI dr), .int (nI (y % 12)), jU, jU, jU, jU] [.int (bI ((y % 5) = 4))] n I J P by
    refine j_icmpneN (tgt := 17) dX4_goes_10 rfl rfl (by omega) (by decide) (fun h1 => ?_) (fun h1 => ?_)
    · refine j_iconst (v := nI 0) dX4_goes_17 rfl rfl ?_
      rw [bI_f h1] at K2; exact K2
    · refine j_iconst (v := nI 1) dX4_goes_13 rfl rfl ?_
      refine j_goto (tgt := 18) dX4_goes_14 rfl ?_
      rw [bI_t h1] at K2; exact K2
  refine j_istore (L' := [.int (nI k), .int (nI y), .int (nI da), .int (nI dr), .int (nI (y % 12)), .int (bI ((y % 5) = 4)), jU, jU, jU]) dX4_goes_18 rfl rfl (by decide) rfl ?_
  refine j_iload_n dX4_goes_20 rfl rfl rfl ?_
  refine j_iload dX4_goes_21 rfl rfl ?_
  refine j_ishrN (c := dr / 2 ^ (y % 12)) dX4_goes_23 rfl (by omega) (by omega) rfl ?_
  refine j_iconst (v := nI 1) dX4_goes_24 rfl rfl ?_
  refine j_iand1N (c := dr / 2 ^ (y % 12) % 2) dX4_goes_25 rfl rfl ?_
  refine j_iconst (v := nI 1) dX4_goes_26 rfl rfl ?_
  suffices K4 : Rj X d 0 0 mX4_goes Q 35 [.int (nI k), .int (nI y), .int (nI da), .int (nI dr), .int (nI (y % 12)), .int (bI ((y % 5) = 4)), jU, jU, jU] [.int (nI (if (dr / 2 ^ (y % 12) % 2) = 1 then 2 else 1))] n I J P by
    refine j_icmpneN (tgt := 34) dX4_goes_27 rfl rfl (by omega) (by decide) (fun h3 => ?_) (fun h3 => ?_)
    · refine j_iconst (v := nI 1) dX4_goes_34 rfl rfl ?_
      rw [if_neg h3] at K4; exact K4
    · refine j_iconst (v := nI 2) dX4_goes_30 rfl rfl ?_
      refine j_goto (tgt := 35) dX4_goes_31 rfl ?_
      rw [if_pos h3] at K4; exact K4
  show Rj _ _ _ _ _ _ 35 [.int (nI k), .int (nI y), .int (nI da), .int (nI dr), .int (nI (y % 12)), .int (bI ((y % 5) = 4)), jU, jU, jU] [.int (nI (gPl y dr))] n I J P
  refine j_istore (L' := [.int (nI k), .int (nI y), .int (nI da), .int (nI dr), .int (nI (y % 12)), .int (bI ((y % 5) = 4)), .int (nI (gPl y dr)), jU, jU]) dX4_goes_35 rfl rfl (by decide) rfl ?_
  refine j_iload_n dX4_goes_37 rfl rfl rfl ?_
  refine j_iconst (v := nI 2) dX4_goes_38 rfl rfl ?_
  refine j_iremN (c := y % 2) dX4_goes_39 rfl (by omega) (by decide) (by decide) rfl ?_
  suffices K6 : Rj X d 0 0 mX4_goes Q 49 [.int (nI k), .int (nI y), .int (nI da), .int (nI dr), .int (nI (y % 12)), .int (bI ((y % 5) = 4)), .int (nI (gPl y dr)), jU, jU] [.int (nI (if (y % 2) = 0 then (gPl y dr) else 0))] n I J P by
    refine j_ifneN (tgt := 48) dX4_goes_40 rfl rfl (by omega) (fun h5 => ?_) (fun h5 => ?_)
    · refine j_iconst (v := nI 0) dX4_goes_48 rfl rfl ?_
      rw [if_neg h5] at K6; exact K6
    · refine j_iload dX4_goes_43 rfl rfl ?_
      refine j_goto (tgt := 49) dX4_goes_45 rfl ?_
      rw [if_pos h5] at K6; exact K6
  show Rj _ _ _ _ _ _ 49 [.int (nI k), .int (nI y), .int (nI da), .int (nI dr), .int (nI (y % 12)), .int (bI ((y % 5) = 4)), .int (nI (gPl y dr)), jU, jU] [.int (nI (gRi y dr))] n I J P
  refine j_istore (L' := [.int (nI k), .int (nI y), .int (nI da), .int (nI dr), .int (nI (y % 12)), .int (bI ((y % 5) = 4)), .int (nI (gPl y dr)), .int (nI (gRi y dr)), jU]) dX4_goes_49 rfl rfl (by decide) rfl ?_
  refine j_iload dX4_goes_51 rfl rfl ?_
  suffices K8 : Rj X d 0 0 mX4_goes Q 65 [.int (nI k), .int (nI y), .int (nI da), .int (nI dr), .int (nI (y % 12)), .int (bI ((y % 5) = 4)), .int (nI (gPl y dr)), .int (nI (gRi y dr)), jU] [.int (nI (if (y % 5) = 4 then ((gPl y dr) + 2) else (gPl y dr)))] n I J P by
    refine j_ifeqB (tgt := 63) dX4_goes_53 rfl rfl (fun h7 => ?_) (fun h7 => ?_)
    · refine j_iload dX4_goes_63 rfl rfl ?_
      rw [if_neg h7] at K8; exact K8
    · refine j_iload dX4_goes_56 rfl rfl ?_
      refine j_iconst (v := nI 2) dX4_goes_58 rfl rfl ?_
      refine j_iaddN (c := (gPl y dr) + 2) dX4_goes_59 rfl rfl ?_
      refine j_goto (tgt := 65) dX4_goes_60 rfl ?_
      rw [if_pos h7] at K8; exact K8
  show Rj _ _ _ _ _ _ 65 [.int (nI k), .int (nI y), .int (nI da), .int (nI dr), .int (nI (y % 12)), .int (bI ((y % 5) = 4)), .int (nI (gPl y dr)), .int (nI (gRi y dr)), jU] [.int (nI (gQu y dr))] n I J P
  refine j_istore (L' := [.int (nI k), .int (nI y), .int (nI da), .int (nI dr), .int (nI (y % 12)), .int (bI ((y % 5) = 4)), .int (nI (gPl y dr)), .int (nI (gRi y dr)), .int (nI (gQu y dr))]) dX4_goes_65 rfl rfl (by decide) rfl ?_
  refine j_iload_n dX4_goes_67 rfl rfl rfl ?_
  rcases (show k = 0 ∨ k = 1 ∨ k = 2 ∨ k = 3 ∨ k = 4 ∨ k = 5 by omega) with rfl | rfl | rfl | rfl | rfl | rfl
  · refine j_tabD (a := 0) (tgt := 167) dX4_goes_68 (by decide) (by decide) rfl ?_
    refine j_iload dX4_goes_167 rfl rfl ?_
    refine j_iret dX4_goes_169 rfl rfl ?_
    exact hQ
  · refine j_tabN (a := 1) (k := 1) (off := 36) (tgt := 104) dX4_goes_68 (by decide) rfl (by decide) (by decide) rfl rfl ?_
    refine j_iload dX4_goes_104 rfl rfl ?_
    refine j_iret dX4_goes_106 rfl rfl ?_
    exact hQ
  · refine j_tabN (a := 2) (k := 1) (off := 39) (tgt := 107) dX4_goes_68 (by decide) rfl (by decide) (by decide) rfl rfl ?_
    refine j_iload dX4_goes_107 rfl rfl ?_
    refine j_iret dX4_goes_109 rfl rfl ?_
    exact hQ
  · refine j_tabN (a := 3) (k := 1) (off := 42) (tgt := 110) dX4_goes_68 (by decide) rfl (by decide) (by decide) rfl rfl ?_
    refine j_iload_n dX4_goes_110 rfl rfl rfl ?_
    refine j_iload dX4_goes_111 rfl rfl ?_
    refine j_ishrN (c := da / 2 ^ (y % 12)) dX4_goes_113 rfl (by omega) (by omega) rfl ?_
    refine j_iconst (v := nI 1) dX4_goes_114 rfl rfl ?_
    refine j_iand1N (c := da / 2 ^ (y % 12) % 2) dX4_goes_115 rfl rfl ?_
    refine j_iconst (v := nI 1) dX4_goes_116 rfl rfl ?_
    suffices K10 : Rj X d 0 0 mX4_goes Q 129 [.int (nI 3), .int (nI y), .int (nI da), .int (nI dr), .int (nI (y % 12)), .int (bI ((y % 5) = 4)), .int (nI (gPl y dr)), .int (nI (gRi y dr)), .int (nI (gQu y dr))] [.int (nI (if (da / 2 ^ (y % 12) % 2) = 1 then (2 * (gPl y dr)) else (gPl y dr)))] n I J P by
      refine j_icmpneN (tgt := 127) dX4_goes_117 rfl rfl (by omega) (by decide) (fun h9 => ?_) (fun h9 => ?_)
      · refine j_iload dX4_goes_127 rfl rfl ?_
        rw [if_neg h9] at K10; exact K10
      · refine j_iconst (v := nI 2) dX4_goes_120 rfl rfl ?_
        refine j_iload dX4_goes_121 rfl rfl ?_
        refine j_imulN (c := 2 * (gPl y dr)) dX4_goes_123 rfl rfl ?_
        refine j_goto (tgt := 129) dX4_goes_124 rfl ?_
        rw [if_pos h9] at K10; exact K10
    refine j_iret dX4_goes_129 rfl rfl ?_
    exact hQ
  · refine j_tabN (a := 4) (k := 1) (off := 62) (tgt := 130) dX4_goes_68 (by decide) rfl (by decide) (by decide) rfl rfl ?_
    refine j_iload_n dX4_goes_130 rfl rfl rfl ?_
    refine j_iconst (v := nI 3) dX4_goes_131 rfl rfl ?_
    refine j_iremN (c := y % 3) dX4_goes_132 rfl (by omega) (by decide) (by decide) rfl ?_
    refine j_iconst (v := nI 2) dX4_goes_133 rfl rfl ?_
    suffices K12 : Rj X d 0 0 mX4_goes Q 146 [.int (nI 4), .int (nI y), .int (nI da), .int (nI dr), .int (nI (y % 12)), .int (bI ((y % 5) = 4)), .int (nI (gPl y dr)), .int (nI (gRi y dr)), .int (nI (gQu y dr))] [.int (nI (if (y % 3) = 2 then ((gQu y dr) + 1) else (gQu y dr)))] n I J P by
      refine j_icmpneN (tgt := 144) dX4_goes_134 rfl rfl (by omega) (by decide) (fun h11 => ?_) (fun h11 => ?_)
      · refine j_iload dX4_goes_144 rfl rfl ?_
        rw [if_neg h11] at K12; exact K12
      · refine j_iload dX4_goes_137 rfl rfl ?_
        refine j_iconst (v := nI 1) dX4_goes_139 rfl rfl ?_
        refine j_iaddN (c := (gQu y dr) + 1) dX4_goes_140 rfl rfl ?_
        refine j_goto (tgt := 146) dX4_goes_141 rfl ?_
        rw [if_pos h11] at K12; exact K12
    refine j_iret dX4_goes_146 rfl rfl ?_
    exact hQ
  · refine j_tabN (a := 5) (k := 1) (off := 79) (tgt := 147) dX4_goes_68 (by decide) rfl (by decide) (by decide) rfl rfl ?_
    refine j_iload dX4_goes_147 rfl rfl ?_
    suffices K14 : Rj X d 0 0 mX4_goes Q 166 [.int (nI 5), .int (nI y), .int (nI da), .int (nI dr), .int (nI (y % 12)), .int (bI ((y % 5) = 4)), .int (nI (gPl y dr)), .int (nI (gRi y dr)), .int (nI (gQu y dr))] [.int (nI (if (y % 5) = 4 then (gRi y dr) else (if (gRi y dr) = 0 then (gRi y dr) else ((gRi y dr) - 1))))] n I J P by
      refine j_ifneB (tgt := 157) dX4_goes_149 rfl rfl (fun h13 => ?_) (fun h13 => ?_)
      · refine j_iload dX4_goes_157 rfl rfl ?_
        refine j_goto (tgt := 166) dX4_goes_159 rfl ?_
        rw [if_pos h13] at K14; exact K14
      · refine j_iload dX4_goes_152 rfl rfl ?_
        refine j_ifneN (tgt := 162) dX4_goes_154 rfl rfl (by omega) (fun h15 => ?_) (fun h15 => ?_)
        · refine j_iload dX4_goes_162 rfl rfl ?_
          refine j_iconst (v := nI 1) dX4_goes_164 rfl rfl ?_
          refine j_isubN (c := (gRi y dr) - 1) dX4_goes_165 rfl (by omega) rfl ?_
          rw [if_neg h13, if_neg h15] at K14; exact K14
        · refine j_iload dX4_goes_157 rfl rfl ?_
          refine j_goto (tgt := 166) dX4_goes_159 rfl ?_
          rw [if_neg h13, if_pos h15] at K14; exact K14
    refine j_iret dX4_goes_166 rfl rfl ?_
    exact hQ
set_option maxHeartbeats 4000000 in
set_option maxRecDepth 100000 in
theorem c_leftAfter {X : jX} {d n : Nat} {I : HI} {J : HJ} {P : HP} {Q : jPost} {lv k y da dr : Nat} (hl : lv < 2 ^ 30) (hk : k ≤ 5) (hy : y < 2 ^ 30) (hda : da ≤ 4095) (hdr : dr ≤ 4095) (hQ : Q (some (.int (nI (lv - gos k y da dr)))) n I J P) : Cj X (d + 1) 0 0 mX4_leftAfter [.int (nI lv), .int (nI k), .int (nI y), .int (nI da), .int (nI dr)] n I J P Q := by
  refine Cj.intro rfl (Nat.le_of_ble_eq_true rfl) (L := [.int (nI lv), .int (nI k), .int (nI y), .int (nI da), .int (nI dr)]) rfl ?_
  have hg := gos_le k y da dr
  refine j_iconst (v := nI 0) dX4_leftAfter_0 rfl rfl ?_
  refine j_iload_n dX4_leftAfter_1 rfl rfl rfl ?_
  refine j_iload_n dX4_leftAfter_2 rfl rfl rfl ?_
  refine j_iload_n dX4_leftAfter_3 rfl rfl rfl ?_
  refine j_iload_n dX4_leftAfter_4 rfl rfl rfl ?_
  refine j_iload dX4_leftAfter_5 rfl rfl ?_
  refine j_callSw (As := [.int (nI k), .int (nI y), .int (nI da), .int (nI dr)]) dX4_leftAfter_7 rfl cX4_9 rfl (Nat.le_of_ble_eq_true rfl) rfl rfl (c_goes (by omega) (by omega) (by omega) (by omega) ?_)
  show Rj _ _ _ _ _ _ 10 [.int (nI lv), .int (nI k), .int (nI y), .int (nI da), .int (nI dr)] [.int (nI (gos k y da dr)), .int (nI lv), .int (nI 0)] n I J P
  refine j_isub dX4_leftAfter_10 rfl ?_
  refine j_max dX4_leftAfter_11 rfl cX4_15 (by decide) ?_
  refine j_iret dX4_leftAfter_14 rfl rfl ?_
  rw [mx0 hl (by omega)]; exact hQ
